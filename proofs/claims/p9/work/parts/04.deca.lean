theorem dX1_init_0 : decode cX1_init 0 = .ok (.aload_n 0, 1) := by decide +kernel
theorem dX1_init_1 : decode cX1_init 1 = .ok (.invokespecial 3, 3) := by decide +kernel
theorem dX1_init_4 : decode cX1_init 4 = .ok (.aload_n 0, 1) := by decide +kernel
theorem dX1_init_5 : decode cX1_init 5 = .ok (.iconst 2, 1) := by decide +kernel
theorem dX1_init_6 : decode cX1_init 6 = .ok (.putfield 9, 3) := by decide +kernel
theorem dX1_init_9 : decode cX1_init 9 = .ok (.aload_n 0, 1) := by decide +kernel
theorem dX1_init_10 : decode cX1_init 10 = .ok (.iconst (-1), 1) := by decide +kernel
theorem dX1_init_11 : decode cX1_init 11 = .ok (.putfield 15, 3) := by decide +kernel
theorem dX1_init_14 : decode cX1_init 14 = .ok (.return_, 1) := by decide +kernel
theorem dX1_beginToOpen_0 : decode cX1_beginToOpen 0 = .ok (.aload_n 0, 1) := by decide +kernel
theorem dX1_beginToOpen_1 : decode cX1_beginToOpen 1 = .ok (.iconst 1, 1) := by decide +kernel
theorem dX1_beginToOpen_2 : decode cX1_beginToOpen 2 = .ok (.putfield 9, 3) := by decide +kernel
theorem dX1_beginToOpen_5 : decode cX1_beginToOpen 5 = .ok (.aload_n 0, 1) := by decide +kernel
theorem dX1_beginToOpen_6 : decode cX1_beginToOpen 6 = .ok (.iconst 4, 1) := by decide +kernel
theorem dX1_beginToOpen_7 : decode cX1_beginToOpen 7 = .ok (.putfield 18, 3) := by decide +kernel
theorem dX1_beginToOpen_10 : decode cX1_beginToOpen 10 = .ok (.return_, 1) := by decide +kernel
theorem dX1_beginToShut_0 : decode cX1_beginToShut 0 = .ok (.aload_n 0, 1) := by decide +kernel
theorem dX1_beginToShut_1 : decode cX1_beginToShut 1 = .ok (.iconst 3, 1) := by decide +kernel
theorem dX1_beginToShut_2 : decode cX1_beginToShut 2 = .ok (.putfield 9, 3) := by decide +kernel
theorem dX1_beginToShut_5 : decode cX1_beginToShut 5 = .ok (.aload_n 0, 1) := by decide +kernel
theorem dX1_beginToShut_6 : decode cX1_beginToShut 6 = .ok (.iconst 4, 1) := by decide +kernel
theorem dX1_beginToShut_7 : decode cX1_beginToShut 7 = .ok (.putfield 18, 3) := by decide +kernel
theorem dX1_beginToShut_10 : decode cX1_beginToShut 10 = .ok (.return_, 1) := by decide +kernel
theorem dX1_moveDoor_0 : decode cX1_moveDoor 0 = .ok (.aload_n 0, 1) := by decide +kernel
theorem dX1_moveDoor_1 : decode cX1_moveDoor 1 = .ok (.getfield 18, 3) := by decide +kernel
theorem dX1_moveDoor_4 : decode cX1_moveDoor 4 = .ok (.ifCond .ne 4, 3) := by decide +kernel
theorem dX1_moveDoor_7 : decode cX1_moveDoor 7 = .ok (.return_, 1) := by decide +kernel
theorem dX1_moveDoor_8 : decode cX1_moveDoor 8 = .ok (.aload_n 0, 1) := by decide +kernel
theorem dX1_moveDoor_9 : decode cX1_moveDoor 9 = .ok (.dup, 1) := by decide +kernel
theorem dX1_moveDoor_10 : decode cX1_moveDoor 10 = .ok (.getfield 18, 3) := by decide +kernel
theorem dX1_moveDoor_13 : decode cX1_moveDoor 13 = .ok (.iconst 1, 1) := by decide +kernel
theorem dX1_moveDoor_14 : decode cX1_moveDoor 14 = .ok (.isub, 1) := by decide +kernel
theorem dX1_moveDoor_15 : decode cX1_moveDoor 15 = .ok (.putfield 18, 3) := by decide +kernel
theorem dX1_moveDoor_18 : decode cX1_moveDoor 18 = .ok (.aload_n 0, 1) := by decide +kernel
theorem dX1_moveDoor_19 : decode cX1_moveDoor 19 = .ok (.getfield 18, 3) := by decide +kernel
theorem dX1_moveDoor_22 : decode cX1_moveDoor 22 = .ok (.ifCond .ne 20, 3) := by decide +kernel
theorem dX1_moveDoor_25 : decode cX1_moveDoor 25 = .ok (.aload_n 0, 1) := by decide +kernel
theorem dX1_moveDoor_26 : decode cX1_moveDoor 26 = .ok (.aload_n 0, 1) := by decide +kernel
theorem dX1_moveDoor_27 : decode cX1_moveDoor 27 = .ok (.getfield 9, 3) := by decide +kernel
theorem dX1_moveDoor_30 : decode cX1_moveDoor 30 = .ok (.iconst 1, 1) := by decide +kernel
theorem dX1_moveDoor_31 : decode cX1_moveDoor 31 = .ok (.if_icmp .ne 7, 3) := by decide +kernel
theorem dX1_moveDoor_34 : decode cX1_moveDoor 34 = .ok (.iconst 2, 1) := by decide +kernel
theorem dX1_moveDoor_35 : decode cX1_moveDoor 35 = .ok (.goto 4, 3) := by decide +kernel
theorem dX1_moveDoor_38 : decode cX1_moveDoor 38 = .ok (.iconst 0, 1) := by decide +kernel
theorem dX1_moveDoor_39 : decode cX1_moveDoor 39 = .ok (.putfield 9, 3) := by decide +kernel
theorem dX1_moveDoor_42 : decode cX1_moveDoor 42 = .ok (.return_, 1) := by decide +kernel
theorem dX1_holdsCarWithoutOrder_0 : decode cX1_holdsCarWithoutOrder 0 = .ok (.aload_n 0, 1) := by decide +kernel
theorem dX1_holdsCarWithoutOrder_1 : decode cX1_holdsCarWithoutOrder 1 = .ok (.getfield 21, 3) := by decide +kernel
theorem dX1_holdsCarWithoutOrder_4 : decode cX1_holdsCarWithoutOrder 4 = .ok (.ifCond .eq 21, 3) := by decide +kernel
theorem dX1_holdsCarWithoutOrder_7 : decode cX1_holdsCarWithoutOrder 7 = .ok (.aload_n 0, 1) := by decide +kernel
theorem dX1_holdsCarWithoutOrder_8 : decode cX1_holdsCarWithoutOrder 8 = .ok (.getfield 24, 3) := by decide +kernel
theorem dX1_holdsCarWithoutOrder_11 : decode cX1_holdsCarWithoutOrder 11 = .ok (.ifCond .ne 14, 3) := by decide +kernel
theorem dX1_holdsCarWithoutOrder_14 : decode cX1_holdsCarWithoutOrder 14 = .ok (.aload_n 0, 1) := by decide +kernel
theorem dX1_holdsCarWithoutOrder_15 : decode cX1_holdsCarWithoutOrder 15 = .ok (.getfield 9, 3) := by decide +kernel
theorem dX1_holdsCarWithoutOrder_18 : decode cX1_holdsCarWithoutOrder 18 = .ok (.ifCond .eq 7, 3) := by decide +kernel
theorem dX1_holdsCarWithoutOrder_21 : decode cX1_holdsCarWithoutOrder 21 = .ok (.iconst 1, 1) := by decide +kernel
theorem dX1_holdsCarWithoutOrder_22 : decode cX1_holdsCarWithoutOrder 22 = .ok (.goto 4, 3) := by decide +kernel
theorem dX1_holdsCarWithoutOrder_25 : decode cX1_holdsCarWithoutOrder 25 = .ok (.iconst 0, 1) := by decide +kernel
theorem dX1_holdsCarWithoutOrder_26 : decode cX1_holdsCarWithoutOrder 26 = .ok (.ireturn, 1) := by decide +kernel
theorem dX1_isOpenAndClear_0 : decode cX1_isOpenAndClear 0 = .ok (.aload_n 0, 1) := by decide +kernel
theorem dX1_isOpenAndClear_1 : decode cX1_isOpenAndClear 1 = .ok (.getfield 9, 3) := by decide +kernel
theorem dX1_isOpenAndClear_4 : decode cX1_isOpenAndClear 4 = .ok (.iconst 2, 1) := by decide +kernel
theorem dX1_isOpenAndClear_5 : decode cX1_isOpenAndClear 5 = .ok (.if_icmp .ne 21, 3) := by decide +kernel
theorem dX1_isOpenAndClear_8 : decode cX1_isOpenAndClear 8 = .ok (.aload_n 0, 1) := by decide +kernel
theorem dX1_isOpenAndClear_9 : decode cX1_isOpenAndClear 9 = .ok (.getfield 21, 3) := by decide +kernel
theorem dX1_isOpenAndClear_12 : decode cX1_isOpenAndClear 12 = .ok (.ifCond .ne 14, 3) := by decide +kernel
theorem dX1_isOpenAndClear_15 : decode cX1_isOpenAndClear 15 = .ok (.aload_n 0, 1) := by decide +kernel
theorem dX1_isOpenAndClear_16 : decode cX1_isOpenAndClear 16 = .ok (.getfield 28, 3) := by decide +kernel
theorem dX1_isOpenAndClear_19 : decode cX1_isOpenAndClear 19 = .ok (.ifCond .ne 7, 3) := by decide +kernel
theorem dX1_isOpenAndClear_22 : decode cX1_isOpenAndClear 22 = .ok (.iconst 1, 1) := by decide +kernel
theorem dX1_isOpenAndClear_23 : decode cX1_isOpenAndClear 23 = .ok (.goto 4, 3) := by decide +kernel
theorem dX1_isOpenAndClear_26 : decode cX1_isOpenAndClear 26 = .ok (.iconst 0, 1) := by decide +kernel
theorem dX1_isOpenAndClear_27 : decode cX1_isOpenAndClear 27 = .ok (.ireturn, 1) := by decide +kernel
theorem dX1_isSafe_0 : decode cX1_isSafe 0 = .ok (.aload_n 0, 1) := by decide +kernel
theorem dX1_isSafe_1 : decode cX1_isSafe 1 = .ok (.getfield 9, 3) := by decide +kernel
theorem dX1_isSafe_4 : decode cX1_isSafe 4 = .ok (.ifCond .ne 14, 3) := by decide +kernel
theorem dX1_isSafe_7 : decode cX1_isSafe 7 = .ok (.aload_n 0, 1) := by decide +kernel
theorem dX1_isSafe_8 : decode cX1_isSafe 8 = .ok (.getfield 28, 3) := by decide +kernel
theorem dX1_isSafe_11 : decode cX1_isSafe 11 = .ok (.ifCond .ne 7, 3) := by decide +kernel
theorem dX1_isSafe_14 : decode cX1_isSafe 14 = .ok (.iconst 1, 1) := by decide +kernel
theorem dX1_isSafe_15 : decode cX1_isSafe 15 = .ok (.goto 4, 3) := by decide +kernel
theorem dX1_isSafe_18 : decode cX1_isSafe 18 = .ok (.iconst 0, 1) := by decide +kernel
theorem dX1_isSafe_19 : decode cX1_isSafe 19 = .ok (.ireturn, 1) := by decide +kernel
theorem dX1_receive_0 : decode cX1_receive 0 = .ok (.aload_n 0, 1) := by decide +kernel
theorem dX1_receive_1 : decode cX1_receive 1 = .ok (.iload_n 1, 1) := by decide +kernel
theorem dX1_receive_2 : decode cX1_receive 2 = .ok (.putfield 21, 3) := by decide +kernel
theorem dX1_receive_5 : decode cX1_receive 5 = .ok (.aload_n 0, 1) := by decide +kernel
theorem dX1_receive_6 : decode cX1_receive 6 = .ok (.iload_n 2, 1) := by decide +kernel
theorem dX1_receive_7 : decode cX1_receive 7 = .ok (.putfield 15, 3) := by decide +kernel
theorem dX1_receive_10 : decode cX1_receive 10 = .ok (.return_, 1) := by decide +kernel
theorem dX1_putFetched_0 : decode cX1_putFetched 0 = .ok (.aload_n 0, 1) := by decide +kernel
theorem dX1_putFetched_1 : decode cX1_putFetched 1 = .ok (.iload_n 1, 1) := by decide +kernel
theorem dX1_putFetched_2 : decode cX1_putFetched 2 = .ok (.putfield 21, 3) := by decide +kernel
theorem dX1_putFetched_5 : decode cX1_putFetched 5 = .ok (.aload_n 0, 1) := by decide +kernel
theorem dX1_putFetched_6 : decode cX1_putFetched 6 = .ok (.iconst 1, 1) := by decide +kernel
theorem dX1_putFetched_7 : decode cX1_putFetched 7 = .ok (.putfield 24, 3) := by decide +kernel
theorem dX1_putFetched_10 : decode cX1_putFetched 10 = .ok (.return_, 1) := by decide +kernel
theorem dX1_clear_0 : decode cX1_clear 0 = .ok (.aload_n 0, 1) := by decide +kernel
theorem dX1_clear_1 : decode cX1_clear 1 = .ok (.iconst 0, 1) := by decide +kernel
theorem dX1_clear_2 : decode cX1_clear 2 = .ok (.putfield 21, 3) := by decide +kernel
theorem dX1_clear_5 : decode cX1_clear 5 = .ok (.aload_n 0, 1) := by decide +kernel
theorem dX1_clear_6 : decode cX1_clear 6 = .ok (.iconst 0, 1) := by decide +kernel
theorem dX1_clear_7 : decode cX1_clear 7 = .ok (.putfield 24, 3) := by decide +kernel
theorem dX1_clear_10 : decode cX1_clear 10 = .ok (.aload_n 0, 1) := by decide +kernel
theorem dX1_clear_11 : decode cX1_clear 11 = .ok (.iconst (-1), 1) := by decide +kernel
theorem dX1_clear_12 : decode cX1_clear 12 = .ok (.putfield 15, 3) := by decide +kernel
theorem dX1_clear_15 : decode cX1_clear 15 = .ok (.return_, 1) := by decide +kernel
set_option maxRecDepth 20000 in
theorem ggX2_init_X4_init : GoodIn wsX2_init wsX4_init := goodIn_r _ [11, 12, 2, 3, 13, 14, 15, 16, 17, 18] (by decide +kernel) (by decide +kernel)
set_option maxRecDepth 20000 in
theorem gX2_init_X4_init : GoodIn wsX2_init (wsX4_init) := ggX2_init_X4_init
theorem dX2_init_0 : decode cX2_init 0 = .ok (.aload_n 0, 1) := by decide +kernel
theorem dX2_init_1 : decode cX2_init 1 = .ok (.invokespecial 3, 3) := by decide +kernel
theorem dX2_init_4 : decode cX2_init 4 = .ok (.aload_n 0, 1) := by decide +kernel
theorem dX2_init_5 : decode cX2_init 5 = .ok (.new 9, 3) := by decide +kernel
theorem dX2_init_8 : decode cX2_init 8 = .ok (.dup, 1) := by decide +kernel
theorem dX2_init_9 : decode cX2_init 9 = .ok (.invokespecial 11, 3) := by decide +kernel
theorem dX2_init_12 : decode cX2_init 12 = .ok (.putfield 12, 3) := by decide +kernel
theorem dX2_init_15 : decode cX2_init 15 = .ok (.aload_n 0, 1) := by decide +kernel
theorem dX2_init_16 : decode cX2_init 16 = .ok (.iconst (-1), 1) := by decide +kernel
theorem dX2_init_17 : decode cX2_init 17 = .ok (.putfield 18, 3) := by decide +kernel
theorem dX2_init_20 : decode cX2_init 20 = .ok (.return_, 1) := by decide +kernel
theorem dX2_isIdle_0 : decode cX2_isIdle 0 = .ok (.aload_n 0, 1) := by decide +kernel
theorem dX2_isIdle_1 : decode cX2_isIdle 1 = .ok (.getfield 18, 3) := by decide +kernel
theorem dX2_isIdle_4 : decode cX2_isIdle 4 = .ok (.iconst (-1), 1) := by decide +kernel
theorem dX2_isIdle_5 : decode cX2_isIdle 5 = .ok (.if_icmp .ne 7, 3) := by decide +kernel
theorem dX2_isIdle_8 : decode cX2_isIdle 8 = .ok (.iconst 1, 1) := by decide +kernel
theorem dX2_isIdle_9 : decode cX2_isIdle 9 = .ok (.goto 4, 3) := by decide +kernel
theorem dX2_isIdle_12 : decode cX2_isIdle 12 = .ok (.iconst 0, 1) := by decide +kernel
theorem dX2_isIdle_13 : decode cX2_isIdle 13 = .ok (.ireturn, 1) := by decide +kernel
theorem dX2_end_0 : decode cX2_end 0 = .ok (.aload_n 0, 1) := by decide +kernel
theorem dX2_end_1 : decode cX2_end 1 = .ok (.iconst (-1), 1) := by decide +kernel
theorem dX2_end_2 : decode cX2_end 2 = .ok (.putfield 18, 3) := by decide +kernel
theorem dX2_end_5 : decode cX2_end 5 = .ok (.aload_n 0, 1) := by decide +kernel
theorem dX2_end_6 : decode cX2_end 6 = .ok (.iconst 0, 1) := by decide +kernel
theorem dX2_end_7 : decode cX2_end 7 = .ok (.putfield 22, 3) := by decide +kernel
theorem dX2_end_10 : decode cX2_end 10 = .ok (.aload_n 0, 1) := by decide +kernel
theorem dX2_end_11 : decode cX2_end 11 = .ok (.iconst 0, 1) := by decide +kernel
theorem dX2_end_12 : decode cX2_end 12 = .ok (.putfield 25, 3) := by decide +kernel
theorem dX2_end_15 : decode cX2_end 15 = .ok (.return_, 1) := by decide +kernel
theorem dX2_moveFrom_0 : decode cX2_moveFrom 0 = .ok (.aload_n 0, 1) := by decide +kernel
theorem dX2_moveFrom_1 : decode cX2_moveFrom 1 = .ok (.getfield 12, 3) := by decide +kernel
theorem dX2_moveFrom_4 : decode cX2_moveFrom 4 = .ok (.getfield 28, 3) := by decide +kernel
theorem dX2_moveFrom_7 : decode cX2_moveFrom 7 = .ok (.aload_n 0, 1) := by decide +kernel
theorem dX2_moveFrom_8 : decode cX2_moveFrom 8 = .ok (.getfield 22, 3) := by decide +kernel
theorem dX2_moveFrom_11 : decode cX2_moveFrom 11 = .ok (.iconst 1, 1) := by decide +kernel
theorem dX2_moveFrom_12 : decode cX2_moveFrom 12 = .ok (.isub, 1) := by decide +kernel
theorem dX2_moveFrom_13 : decode cX2_moveFrom 13 = .ok (.iaload, 1) := by decide +kernel
theorem dX2_moveFrom_14 : decode cX2_moveFrom 14 = .ok (.ireturn, 1) := by decide +kernel
theorem dX2_moveTo_0 : decode cX2_moveTo 0 = .ok (.aload_n 0, 1) := by decide +kernel
theorem dX2_moveTo_1 : decode cX2_moveTo 1 = .ok (.getfield 12, 3) := by decide +kernel
theorem dX2_moveTo_4 : decode cX2_moveTo 4 = .ok (.getfield 32, 3) := by decide +kernel
theorem dX2_moveTo_7 : decode cX2_moveTo 7 = .ok (.aload_n 0, 1) := by decide +kernel
theorem dX2_moveTo_8 : decode cX2_moveTo 8 = .ok (.getfield 22, 3) := by decide +kernel
theorem dX2_moveTo_11 : decode cX2_moveTo 11 = .ok (.iconst 1, 1) := by decide +kernel
theorem dX2_moveTo_12 : decode cX2_moveTo 12 = .ok (.isub, 1) := by decide +kernel
theorem dX2_moveTo_13 : decode cX2_moveTo 13 = .ok (.iaload, 1) := by decide +kernel
theorem dX2_moveTo_14 : decode cX2_moveTo 14 = .ok (.ireturn, 1) := by decide +kernel
theorem dX3_init_0 : decode cX3_init 0 = .ok (.aload_n 0, 1) := by decide +kernel
theorem dX3_init_1 : decode cX3_init 1 = .ok (.invokespecial 3, 3) := by decide +kernel
theorem dX3_init_4 : decode cX3_init 4 = .ok (.aload_n 0, 1) := by decide +kernel
theorem dX3_init_5 : decode cX3_init 5 = .ok (.bipush 24, 2) := by decide +kernel
theorem dX3_init_7 : decode cX3_init 7 = .ok (.newarray .int, 2) := by decide +kernel
theorem dX3_init_9 : decode cX3_init 9 = .ok (.putfield 9, 3) := by decide +kernel
theorem dX3_init_12 : decode cX3_init 12 = .ok (.aload_n 0, 1) := by decide +kernel
theorem dX3_init_13 : decode cX3_init 13 = .ok (.bipush 24, 2) := by decide +kernel
theorem dX3_init_15 : decode cX3_init 15 = .ok (.newarray .int, 2) := by decide +kernel
theorem dX3_init_17 : decode cX3_init 17 = .ok (.putfield 15, 3) := by decide +kernel
theorem dX3_init_20 : decode cX3_init 20 = .ok (.aload_n 0, 1) := by decide +kernel
theorem dX3_init_21 : decode cX3_init 21 = .ok (.bipush 24, 2) := by decide +kernel
theorem dX3_init_23 : decode cX3_init 23 = .ok (.newarray .int, 2) := by decide +kernel
theorem dX3_init_25 : decode cX3_init 25 = .ok (.putfield 18, 3) := by decide +kernel
theorem dX3_init_28 : decode cX3_init 28 = .ok (.return_, 1) := by decide +kernel
theorem dX3_add_0 : decode cX3_add 0 = .ok (.aload_n 0, 1) := by decide +kernel
theorem dX3_add_1 : decode cX3_add 1 = .ok (.getfield 21, 3) := by decide +kernel
theorem dX3_add_4 : decode cX3_add 4 = .ok (.bipush 24, 2) := by decide +kernel
theorem dX3_add_6 : decode cX3_add 6 = .ok (.if_icmp .lt 4, 3) := by decide +kernel
theorem dX3_add_9 : decode cX3_add 9 = .ok (.return_, 1) := by decide +kernel
theorem dX3_add_10 : decode cX3_add 10 = .ok (.aload_n 0, 1) := by decide +kernel
theorem dX3_add_11 : decode cX3_add 11 = .ok (.getfield 9, 3) := by decide +kernel
theorem dX3_add_14 : decode cX3_add 14 = .ok (.aload_n 0, 1) := by decide +kernel
theorem dX3_add_15 : decode cX3_add 15 = .ok (.getfield 21, 3) := by decide +kernel
theorem dX3_add_18 : decode cX3_add 18 = .ok (.iload_n 1, 1) := by decide +kernel
theorem dX3_add_19 : decode cX3_add 19 = .ok (.iastore, 1) := by decide +kernel
theorem dX3_add_20 : decode cX3_add 20 = .ok (.aload_n 0, 1) := by decide +kernel
theorem dX3_add_21 : decode cX3_add 21 = .ok (.getfield 15, 3) := by decide +kernel
theorem dX3_add_24 : decode cX3_add 24 = .ok (.aload_n 0, 1) := by decide +kernel
theorem dX3_add_25 : decode cX3_add 25 = .ok (.getfield 21, 3) := by decide +kernel
theorem dX3_add_28 : decode cX3_add 28 = .ok (.iload_n 2, 1) := by decide +kernel
theorem dX3_add_29 : decode cX3_add 29 = .ok (.iastore, 1) := by decide +kernel
theorem dX3_add_30 : decode cX3_add 30 = .ok (.aload_n 0, 1) := by decide +kernel
theorem dX3_add_31 : decode cX3_add 31 = .ok (.getfield 18, 3) := by decide +kernel
theorem dX3_add_34 : decode cX3_add 34 = .ok (.aload_n 0, 1) := by decide +kernel
theorem dX3_add_35 : decode cX3_add 35 = .ok (.getfield 21, 3) := by decide +kernel
theorem dX3_add_38 : decode cX3_add 38 = .ok (.iload_n 3, 1) := by decide +kernel
theorem dX3_add_39 : decode cX3_add 39 = .ok (.iastore, 1) := by decide +kernel
theorem dX3_add_40 : decode cX3_add 40 = .ok (.aload_n 0, 1) := by decide +kernel
theorem dX3_add_41 : decode cX3_add 41 = .ok (.dup, 1) := by decide +kernel
theorem dX3_add_42 : decode cX3_add 42 = .ok (.getfield 21, 3) := by decide +kernel
theorem dX3_add_45 : decode cX3_add 45 = .ok (.iconst 1, 1) := by decide +kernel
theorem dX3_add_46 : decode cX3_add 46 = .ok (.iadd, 1) := by decide +kernel
theorem dX3_add_47 : decode cX3_add 47 = .ok (.putfield 21, 3) := by decide +kernel
theorem dX3_add_50 : decode cX3_add 50 = .ok (.return_, 1) := by decide +kernel
theorem dX3_remove_0 : decode cX3_remove 0 = .ok (.aload_n 0, 1) := by decide +kernel
theorem dX3_remove_1 : decode cX3_remove 1 = .ok (.dup, 1) := by decide +kernel
theorem dX3_remove_2 : decode cX3_remove 2 = .ok (.getfield 21, 3) := by decide +kernel
theorem dX3_remove_5 : decode cX3_remove 5 = .ok (.iconst 1, 1) := by decide +kernel
theorem dX3_remove_6 : decode cX3_remove 6 = .ok (.isub, 1) := by decide +kernel
theorem dX3_remove_7 : decode cX3_remove 7 = .ok (.putfield 21, 3) := by decide +kernel
theorem dX3_remove_10 : decode cX3_remove 10 = .ok (.iload_n 1, 1) := by decide +kernel
theorem dX3_remove_11 : decode cX3_remove 11 = .ok (.istore_n 2, 1) := by decide +kernel
theorem dX3_remove_12 : decode cX3_remove 12 = .ok (.iload_n 2, 1) := by decide +kernel
theorem dX3_remove_13 : decode cX3_remove 13 = .ok (.aload_n 0, 1) := by decide +kernel
theorem dX3_remove_14 : decode cX3_remove 14 = .ok (.getfield 21, 3) := by decide +kernel
theorem dX3_remove_17 : decode cX3_remove 17 = .ok (.if_icmp .ge 51, 3) := by decide +kernel
theorem dX3_remove_20 : decode cX3_remove 20 = .ok (.aload_n 0, 1) := by decide +kernel
theorem dX3_remove_21 : decode cX3_remove 21 = .ok (.getfield 9, 3) := by decide +kernel
theorem dX3_remove_24 : decode cX3_remove 24 = .ok (.iload_n 2, 1) := by decide +kernel
theorem dX3_remove_25 : decode cX3_remove 25 = .ok (.aload_n 0, 1) := by decide +kernel
theorem dX3_remove_26 : decode cX3_remove 26 = .ok (.getfield 9, 3) := by decide +kernel
theorem dX3_remove_29 : decode cX3_remove 29 = .ok (.iload_n 2, 1) := by decide +kernel
theorem dX3_remove_30 : decode cX3_remove 30 = .ok (.iconst 1, 1) := by decide +kernel
theorem dX3_remove_31 : decode cX3_remove 31 = .ok (.iadd, 1) := by decide +kernel
theorem dX3_remove_32 : decode cX3_remove 32 = .ok (.iaload, 1) := by decide +kernel
theorem dX3_remove_33 : decode cX3_remove 33 = .ok (.iastore, 1) := by decide +kernel
theorem dX3_remove_34 : decode cX3_remove 34 = .ok (.aload_n 0, 1) := by decide +kernel
theorem dX3_remove_35 : decode cX3_remove 35 = .ok (.getfield 15, 3) := by decide +kernel
theorem dX3_remove_38 : decode cX3_remove 38 = .ok (.iload_n 2, 1) := by decide +kernel
theorem dX3_remove_39 : decode cX3_remove 39 = .ok (.aload_n 0, 1) := by decide +kernel
theorem dX3_remove_40 : decode cX3_remove 40 = .ok (.getfield 15, 3) := by decide +kernel
theorem dX3_remove_43 : decode cX3_remove 43 = .ok (.iload_n 2, 1) := by decide +kernel
theorem dX3_remove_44 : decode cX3_remove 44 = .ok (.iconst 1, 1) := by decide +kernel
theorem dX3_remove_45 : decode cX3_remove 45 = .ok (.iadd, 1) := by decide +kernel
theorem dX3_remove_46 : decode cX3_remove 46 = .ok (.iaload, 1) := by decide +kernel
theorem dX3_remove_47 : decode cX3_remove 47 = .ok (.iastore, 1) := by decide +kernel
theorem dX3_remove_48 : decode cX3_remove 48 = .ok (.aload_n 0, 1) := by decide +kernel
theorem dX3_remove_49 : decode cX3_remove 49 = .ok (.getfield 18, 3) := by decide +kernel
theorem dX3_remove_52 : decode cX3_remove 52 = .ok (.iload_n 2, 1) := by decide +kernel
theorem dX3_remove_53 : decode cX3_remove 53 = .ok (.aload_n 0, 1) := by decide +kernel
theorem dX3_remove_54 : decode cX3_remove 54 = .ok (.getfield 18, 3) := by decide +kernel
theorem dX3_remove_57 : decode cX3_remove 57 = .ok (.iload_n 2, 1) := by decide +kernel
theorem dX3_remove_58 : decode cX3_remove 58 = .ok (.iconst 1, 1) := by decide +kernel
theorem dX3_remove_59 : decode cX3_remove 59 = .ok (.iadd, 1) := by decide +kernel
theorem dX3_remove_60 : decode cX3_remove 60 = .ok (.iaload, 1) := by decide +kernel
theorem dX3_remove_61 : decode cX3_remove 61 = .ok (.iastore, 1) := by decide +kernel
theorem dX3_remove_62 : decode cX3_remove 62 = .ok (.iinc 2 1, 3) := by decide +kernel
theorem dX3_remove_65 : decode cX3_remove 65 = .ok (.goto (-53), 3) := by decide +kernel
theorem dX3_remove_68 : decode cX3_remove 68 = .ok (.return_, 1) := by decide +kernel
theorem dX3_isFetch_0 : decode cX3_isFetch 0 = .ok (.aload_n 0, 1) := by decide +kernel
theorem dX3_isFetch_1 : decode cX3_isFetch 1 = .ok (.getfield 18, 3) := by decide +kernel
theorem dX3_isFetch_4 : decode cX3_isFetch 4 = .ok (.iload_n 1, 1) := by decide +kernel
theorem dX3_isFetch_5 : decode cX3_isFetch 5 = .ok (.iaload, 1) := by decide +kernel
theorem dX3_isFetch_6 : decode cX3_isFetch 6 = .ok (.iconst (-1), 1) := by decide +kernel
theorem dX3_isFetch_7 : decode cX3_isFetch 7 = .ok (.if_icmp .ne 7, 3) := by decide +kernel
theorem dX3_isFetch_10 : decode cX3_isFetch 10 = .ok (.iconst 1, 1) := by decide +kernel
theorem dX3_isFetch_11 : decode cX3_isFetch 11 = .ok (.goto 4, 3) := by decide +kernel
theorem dX3_isFetch_14 : decode cX3_isFetch 14 = .ok (.iconst 0, 1) := by decide +kernel
theorem dX3_isFetch_15 : decode cX3_isFetch 15 = .ok (.ireturn, 1) := by decide +kernel
theorem dX3_hasOneOf_0 : decode cX3_hasOneOf 0 = .ok (.iconst 0, 1) := by decide +kernel
theorem dX3_hasOneOf_1 : decode cX3_hasOneOf 1 = .ok (.istore_n 2, 1) := by decide +kernel
theorem dX3_hasOneOf_2 : decode cX3_hasOneOf 2 = .ok (.iload_n 2, 1) := by decide +kernel
theorem dX3_hasOneOf_3 : decode cX3_hasOneOf 3 = .ok (.aload_n 0, 1) := by decide +kernel
theorem dX3_hasOneOf_4 : decode cX3_hasOneOf 4 = .ok (.getfield 21, 3) := by decide +kernel
theorem dX3_hasOneOf_7 : decode cX3_hasOneOf 7 = .ok (.if_icmp .ge 21, 3) := by decide +kernel
theorem dX3_hasOneOf_10 : decode cX3_hasOneOf 10 = .ok (.aload_n 0, 1) := by decide +kernel
theorem dX3_hasOneOf_11 : decode cX3_hasOneOf 11 = .ok (.getfield 9, 3) := by decide +kernel
theorem dX3_hasOneOf_14 : decode cX3_hasOneOf 14 = .ok (.iload_n 2, 1) := by decide +kernel
theorem dX3_hasOneOf_15 : decode cX3_hasOneOf 15 = .ok (.iaload, 1) := by decide +kernel
theorem dX3_hasOneOf_16 : decode cX3_hasOneOf 16 = .ok (.iload_n 1, 1) := by decide +kernel
theorem dX3_hasOneOf_17 : decode cX3_hasOneOf 17 = .ok (.if_icmp .ne 5, 3) := by decide +kernel
theorem dX3_hasOneOf_20 : decode cX3_hasOneOf 20 = .ok (.iconst 1, 1) := by decide +kernel
theorem dX3_hasOneOf_21 : decode cX3_hasOneOf 21 = .ok (.ireturn, 1) := by decide +kernel
theorem dX3_hasOneOf_22 : decode cX3_hasOneOf 22 = .ok (.iinc 2 1, 3) := by decide +kernel
theorem dX3_hasOneOf_25 : decode cX3_hasOneOf 25 = .ok (.goto (-23), 3) := by decide +kernel
theorem dX3_hasOneOf_28 : decode cX3_hasOneOf 28 = .ok (.iconst 0, 1) := by decide +kernel
theorem dX3_hasOneOf_29 : decode cX3_hasOneOf 29 = .ok (.ireturn, 1) := by decide +kernel
theorem dX3_countFor_0 : decode cX3_countFor 0 = .ok (.iconst 0, 1) := by decide +kernel
theorem dX3_countFor_1 : decode cX3_countFor 1 = .ok (.istore_n 2, 1) := by decide +kernel
theorem dX3_countFor_2 : decode cX3_countFor 2 = .ok (.iconst 0, 1) := by decide +kernel
theorem dX3_countFor_3 : decode cX3_countFor 3 = .ok (.istore_n 3, 1) := by decide +kernel
theorem dX3_countFor_4 : decode cX3_countFor 4 = .ok (.iload_n 3, 1) := by decide +kernel
theorem dX3_countFor_5 : decode cX3_countFor 5 = .ok (.aload_n 0, 1) := by decide +kernel
theorem dX3_countFor_6 : decode cX3_countFor 6 = .ok (.getfield 21, 3) := by decide +kernel
theorem dX3_countFor_9 : decode cX3_countFor 9 = .ok (.if_icmp .ge 22, 3) := by decide +kernel
theorem dX3_countFor_12 : decode cX3_countFor 12 = .ok (.aload_n 0, 1) := by decide +kernel
theorem dX3_countFor_13 : decode cX3_countFor 13 = .ok (.getfield 15, 3) := by decide +kernel
theorem dX3_countFor_16 : decode cX3_countFor 16 = .ok (.iload_n 3, 1) := by decide +kernel
theorem dX3_countFor_17 : decode cX3_countFor 17 = .ok (.iaload, 1) := by decide +kernel
theorem dX3_countFor_18 : decode cX3_countFor 18 = .ok (.iload_n 1, 1) := by decide +kernel
theorem dX3_countFor_19 : decode cX3_countFor 19 = .ok (.if_icmp .ne 6, 3) := by decide +kernel
theorem dX3_countFor_22 : decode cX3_countFor 22 = .ok (.iinc 2 1, 3) := by decide +kernel
theorem dX3_countFor_25 : decode cX3_countFor 25 = .ok (.iinc 3 1, 3) := by decide +kernel
theorem dX3_countFor_28 : decode cX3_countFor 28 = .ok (.goto (-24), 3) := by decide +kernel
theorem dX3_countFor_31 : decode cX3_countFor 31 = .ok (.iload_n 2, 1) := by decide +kernel
theorem dX3_countFor_32 : decode cX3_countFor 32 = .ok (.ireturn, 1) := by decide +kernel
set_option maxRecDepth 20000 in
theorem ggX3_fetchesFor_X3_isFetch : GoodIn wsX3_fetchesFor wsX3_isFetch := goodIn_r _ [7, 8, 9, 10, 11, 12] (by decide +kernel) (by decide +kernel)
set_option maxRecDepth 20000 in
theorem gX3_fetchesFor_X3_isFetch : GoodIn wsX3_fetchesFor (wsV RX3 25 RX3 yX3_isFetch wsX3_isFetch) := goodIn_app (goodIn_of _ (by decide +kernel)) ggX3_fetchesFor_X3_isFetch
theorem dX3_fetchesFor_0 : decode cX3_fetchesFor 0 = .ok (.iconst 0, 1) := by decide +kernel
theorem dX3_fetchesFor_1 : decode cX3_fetchesFor 1 = .ok (.istore_n 2, 1) := by decide +kernel
theorem dX3_fetchesFor_2 : decode cX3_fetchesFor 2 = .ok (.iconst 0, 1) := by decide +kernel
theorem dX3_fetchesFor_3 : decode cX3_fetchesFor 3 = .ok (.istore_n 3, 1) := by decide +kernel
theorem dX3_fetchesFor_4 : decode cX3_fetchesFor 4 = .ok (.iload_n 3, 1) := by decide +kernel
theorem dX3_fetchesFor_5 : decode cX3_fetchesFor 5 = .ok (.aload_n 0, 1) := by decide +kernel
theorem dX3_fetchesFor_6 : decode cX3_fetchesFor 6 = .ok (.getfield 21, 3) := by decide +kernel
theorem dX3_fetchesFor_9 : decode cX3_fetchesFor 9 = .ok (.if_icmp .ge 30, 3) := by decide +kernel
theorem dX3_fetchesFor_12 : decode cX3_fetchesFor 12 = .ok (.aload_n 0, 1) := by decide +kernel
theorem dX3_fetchesFor_13 : decode cX3_fetchesFor 13 = .ok (.getfield 15, 3) := by decide +kernel
theorem dX3_fetchesFor_16 : decode cX3_fetchesFor 16 = .ok (.iload_n 3, 1) := by decide +kernel
theorem dX3_fetchesFor_17 : decode cX3_fetchesFor 17 = .ok (.iaload, 1) := by decide +kernel
theorem dX3_fetchesFor_18 : decode cX3_fetchesFor 18 = .ok (.iload_n 1, 1) := by decide +kernel
theorem dX3_fetchesFor_19 : decode cX3_fetchesFor 19 = .ok (.if_icmp .ne 14, 3) := by decide +kernel
theorem dX3_fetchesFor_22 : decode cX3_fetchesFor 22 = .ok (.aload_n 0, 1) := by decide +kernel
theorem dX3_fetchesFor_23 : decode cX3_fetchesFor 23 = .ok (.iload_n 3, 1) := by decide +kernel
theorem dX3_fetchesFor_24 : decode cX3_fetchesFor 24 = .ok (.invokevirtual 25, 3) := by decide +kernel
theorem dX3_fetchesFor_27 : decode cX3_fetchesFor 27 = .ok (.ifCond .eq 6, 3) := by decide +kernel
theorem dX3_fetchesFor_30 : decode cX3_fetchesFor 30 = .ok (.iinc 2 1, 3) := by decide +kernel
theorem dX3_fetchesFor_33 : decode cX3_fetchesFor 33 = .ok (.iinc 3 1, 3) := by decide +kernel
theorem dX3_fetchesFor_36 : decode cX3_fetchesFor 36 = .ok (.goto (-32), 3) := by decide +kernel
theorem dX3_fetchesFor_39 : decode cX3_fetchesFor 39 = .ok (.iload_n 2, 1) := by decide +kernel
theorem dX3_fetchesFor_40 : decode cX3_fetchesFor 40 = .ok (.ireturn, 1) := by decide +kernel
set_option maxRecDepth 20000 in
theorem ggX3_firstWaitingIsFetch_X3_isFetch : GoodIn wsX3_firstWaitingIsFetch wsX3_isFetch := goodIn_r _ [7, 8, 9, 10, 11, 12] (by decide +kernel) (by decide +kernel)
set_option maxRecDepth 20000 in
theorem gX3_firstWaitingIsFetch_X3_isFetch : GoodIn wsX3_firstWaitingIsFetch (wsV RX3 25 RX3 yX3_isFetch wsX3_isFetch) := goodIn_app (goodIn_of _ (by decide +kernel)) ggX3_firstWaitingIsFetch_X3_isFetch
theorem dX3_firstWaitingIsFetch_0 : decode cX3_firstWaitingIsFetch 0 = .ok (.iconst 0, 1) := by decide +kernel
theorem dX3_firstWaitingIsFetch_1 : decode cX3_firstWaitingIsFetch 1 = .ok (.istore_n 3, 1) := by decide +kernel
theorem dX3_firstWaitingIsFetch_2 : decode cX3_firstWaitingIsFetch 2 = .ok (.iload_n 3, 1) := by decide +kernel
theorem dX3_firstWaitingIsFetch_3 : decode cX3_firstWaitingIsFetch 3 = .ok (.aload_n 0, 1) := by decide +kernel
theorem dX3_firstWaitingIsFetch_4 : decode cX3_firstWaitingIsFetch 4 = .ok (.getfield 21, 3) := by decide +kernel
theorem dX3_firstWaitingIsFetch_7 : decode cX3_firstWaitingIsFetch 7 = .ok (.if_icmp .ge 30, 3) := by decide +kernel
theorem dX3_firstWaitingIsFetch_10 : decode cX3_firstWaitingIsFetch 10 = .ok (.iload_n 3, 1) := by decide +kernel
theorem dX3_firstWaitingIsFetch_11 : decode cX3_firstWaitingIsFetch 11 = .ok (.iload_n 2, 1) := by decide +kernel
theorem dX3_firstWaitingIsFetch_12 : decode cX3_firstWaitingIsFetch 12 = .ok (.if_icmp .eq 19, 3) := by decide +kernel
theorem dX3_firstWaitingIsFetch_15 : decode cX3_firstWaitingIsFetch 15 = .ok (.aload_n 0, 1) := by decide +kernel
theorem dX3_firstWaitingIsFetch_16 : decode cX3_firstWaitingIsFetch 16 = .ok (.getfield 15, 3) := by decide +kernel
theorem dX3_firstWaitingIsFetch_19 : decode cX3_firstWaitingIsFetch 19 = .ok (.iload_n 3, 1) := by decide +kernel
theorem dX3_firstWaitingIsFetch_20 : decode cX3_firstWaitingIsFetch 20 = .ok (.iaload, 1) := by decide +kernel
theorem dX3_firstWaitingIsFetch_21 : decode cX3_firstWaitingIsFetch 21 = .ok (.iload_n 1, 1) := by decide +kernel
theorem dX3_firstWaitingIsFetch_22 : decode cX3_firstWaitingIsFetch 22 = .ok (.if_icmp .ne 9, 3) := by decide +kernel
theorem dX3_firstWaitingIsFetch_25 : decode cX3_firstWaitingIsFetch 25 = .ok (.aload_n 0, 1) := by decide +kernel
theorem dX3_firstWaitingIsFetch_26 : decode cX3_firstWaitingIsFetch 26 = .ok (.iload_n 3, 1) := by decide +kernel
theorem dX3_firstWaitingIsFetch_27 : decode cX3_firstWaitingIsFetch 27 = .ok (.invokevirtual 25, 3) := by decide +kernel
theorem dX3_firstWaitingIsFetch_30 : decode cX3_firstWaitingIsFetch 30 = .ok (.ireturn, 1) := by decide +kernel
theorem dX3_firstWaitingIsFetch_31 : decode cX3_firstWaitingIsFetch 31 = .ok (.iinc 3 1, 3) := by decide +kernel
theorem dX3_firstWaitingIsFetch_34 : decode cX3_firstWaitingIsFetch 34 = .ok (.goto (-32), 3) := by decide +kernel
theorem dX3_firstWaitingIsFetch_37 : decode cX3_firstWaitingIsFetch 37 = .ok (.iconst 0, 1) := by decide +kernel
theorem dX3_firstWaitingIsFetch_38 : decode cX3_firstWaitingIsFetch 38 = .ok (.ireturn, 1) := by decide +kernel
theorem dX4_init_0 : decode cX4_init 0 = .ok (.aload_n 0, 1) := by decide +kernel
theorem dX4_init_1 : decode cX4_init 1 = .ok (.invokespecial 3, 3) := by decide +kernel
theorem dX4_init_4 : decode cX4_init 4 = .ok (.aload_n 0, 1) := by decide +kernel
theorem dX4_init_5 : decode cX4_init 5 = .ok (.iconst 2, 1) := by decide +kernel
theorem dX4_init_6 : decode cX4_init 6 = .ok (.newarray .int, 2) := by decide +kernel
theorem dX4_init_8 : decode cX4_init 8 = .ok (.putfield 11, 3) := by decide +kernel
theorem dX4_init_11 : decode cX4_init 11 = .ok (.aload_n 0, 1) := by decide +kernel
theorem dX4_init_12 : decode cX4_init 12 = .ok (.iconst 2, 1) := by decide +kernel
theorem dX4_init_13 : decode cX4_init 13 = .ok (.newarray .int, 2) := by decide +kernel
theorem dX4_init_15 : decode cX4_init 15 = .ok (.putfield 15, 3) := by decide +kernel
theorem dX4_init_18 : decode cX4_init 18 = .ok (.return_, 1) := by decide +kernel
set_option maxRecDepth 20000 in
theorem ggX4_make_X5_isReached : GoodIn wsX4_make wsX5_isReached := goodIn_r _ [6, 7, 8, 9, 10, 11, 12, 5, 13, 14, 36, 37] (by decide +kernel) (by decide +kernel)
set_option maxRecDepth 20000 in
theorem gX4_make_X5_isReached : GoodIn wsX4_make (wsV RX4 22 RX5 yX5_isReached wsX5_isReached) := goodIn_app (goodIn_of _ (by decide +kernel)) ggX4_make_X5_isReached
set_option maxRecDepth 20000 in
theorem ggX4_make_X7_levelOf : GoodIn wsX4_make wsX7_levelOf := goodIn_r _ [16] (by decide +kernel) (by decide +kernel)
set_option maxRecDepth 20000 in
theorem gX4_make_X7_levelOf_n28 : GoodIn wsX4_make (wsX7_levelOf) := ggX4_make_X7_levelOf
set_option maxRecDepth 20000 in
theorem ggX4_make_X5_leastGoal : GoodIn wsX4_make wsX5_leastGoal := goodIn_r _ [20, 14, 7, 8, 9, 21, 3, 4, 5, 6, 10, 11, 12, 13, 36, 37] (by decide +kernel) (by decide +kernel)
set_option maxRecDepth 20000 in
theorem gX4_make_X5_leastGoal : GoodIn wsX4_make (wsV RX4 32 RX5 yX5_leastGoal wsX5_leastGoal) := goodIn_app (goodIn_of _ (by decide +kernel)) ggX4_make_X5_leastGoal
set_option maxRecDepth 20000 in
theorem ggX4_make_X5_leastStepBack : GoodIn wsX4_make wsX5_leastStepBack := goodIn_r _ [25, 14, 10, 11, 12, 5, 13, 36, 37] (by decide +kernel) (by decide +kernel)
set_option maxRecDepth 20000 in
theorem gX4_make_X5_leastStepBack : GoodIn wsX4_make (wsV RX4 35 RX5 yX5_leastStepBack wsX5_leastStepBack) := goodIn_app (goodIn_of _ (by decide +kernel)) ggX4_make_X5_leastStepBack
set_option maxRecDepth 20000 in
theorem ggX4_make_X4_addMove : GoodIn wsX4_make wsX4_addMove := goodIn_r _ [30, 31, 1, 32, 33, 34, 35] (by decide +kernel) (by decide +kernel)
set_option maxRecDepth 20000 in
theorem gX4_make_X4_addMove : GoodIn wsX4_make (wsV RX4 38 RX4 yX4_addMove wsX4_addMove) := goodIn_app (goodIn_of _ (by decide +kernel)) ggX4_make_X4_addMove
theorem dX4_make_0 : decode cX4_make 0 = .ok (.aload_n 0, 1) := by decide +kernel
theorem dX4_make_1 : decode cX4_make 1 = .ok (.iconst 0, 1) := by decide +kernel
theorem dX4_make_2 : decode cX4_make 2 = .ok (.putfield 18, 3) := by decide +kernel
theorem dX4_make_5 : decode cX4_make 5 = .ok (.aload_n 1, 1) := by decide +kernel
theorem dX4_make_6 : decode cX4_make 6 = .ok (.iload_n 2, 1) := by decide +kernel
theorem dX4_make_7 : decode cX4_make 7 = .ok (.invokevirtual 22, 3) := by decide +kernel
theorem dX4_make_10 : decode cX4_make 10 = .ok (.ifCond .eq 5, 3) := by decide +kernel
theorem dX4_make_13 : decode cX4_make 13 = .ok (.iconst 1, 1) := by decide +kernel
theorem dX4_make_14 : decode cX4_make 14 = .ok (.ireturn, 1) := by decide +kernel
theorem dX4_make_15 : decode cX4_make 15 = .ok (.iload_n 2, 1) := by decide +kernel
theorem dX4_make_16 : decode cX4_make 16 = .ok (.invokestatic 28, 3) := by decide +kernel
theorem dX4_make_19 : decode cX4_make 19 = .ok (.istore_n 3, 1) := by decide +kernel
theorem dX4_make_20 : decode cX4_make 20 = .ok (.aload_n 1, 1) := by decide +kernel
theorem dX4_make_21 : decode cX4_make 21 = .ok (.iload_n 3, 1) := by decide +kernel
theorem dX4_make_22 : decode cX4_make 22 = .ok (.invokevirtual 32, 3) := by decide +kernel
theorem dX4_make_25 : decode cX4_make 25 = .ok (.istore 4, 2) := by decide +kernel
theorem dX4_make_27 : decode cX4_make 27 = .ok (.iload 4, 2) := by decide +kernel
theorem dX4_make_29 : decode cX4_make 29 = .ok (.iconst (-1), 1) := by decide +kernel
theorem dX4_make_30 : decode cX4_make 30 = .ok (.if_icmp .ne 33, 3) := by decide +kernel
theorem dX4_make_33 : decode cX4_make 33 = .ok (.aload_n 1, 1) := by decide +kernel
theorem dX4_make_34 : decode cX4_make 34 = .ok (.iload_n 3, 1) := by decide +kernel
theorem dX4_make_35 : decode cX4_make 35 = .ok (.invokevirtual 35, 3) := by decide +kernel
theorem dX4_make_38 : decode cX4_make 38 = .ok (.istore 4, 2) := by decide +kernel
theorem dX4_make_40 : decode cX4_make 40 = .ok (.iload 4, 2) := by decide +kernel
theorem dX4_make_42 : decode cX4_make 42 = .ok (.iconst (-1), 1) := by decide +kernel
theorem dX4_make_43 : decode cX4_make 43 = .ok (.if_icmp .ne 10, 3) := by decide +kernel
theorem dX4_make_46 : decode cX4_make 46 = .ok (.aload_n 0, 1) := by decide +kernel
theorem dX4_make_47 : decode cX4_make 47 = .ok (.iconst (-1), 1) := by decide +kernel
theorem dX4_make_48 : decode cX4_make 48 = .ok (.putfield 18, 3) := by decide +kernel
theorem dX4_make_51 : decode cX4_make 51 = .ok (.iconst 0, 1) := by decide +kernel
theorem dX4_make_52 : decode cX4_make 52 = .ok (.ireturn, 1) := by decide +kernel
theorem dX4_make_53 : decode cX4_make 53 = .ok (.aload_n 0, 1) := by decide +kernel
theorem dX4_make_54 : decode cX4_make 54 = .ok (.iload 4, 2) := by decide +kernel
theorem dX4_make_56 : decode cX4_make 56 = .ok (.iload 4, 2) := by decide +kernel
theorem dX4_make_58 : decode cX4_make 58 = .ok (.iconst 1, 1) := by decide +kernel
theorem dX4_make_59 : decode cX4_make 59 = .ok (.iadd, 1) := by decide +kernel
theorem dX4_make_60 : decode cX4_make 60 = .ok (.invokevirtual 38, 3) := by decide +kernel
theorem dX4_make_63 : decode cX4_make 63 = .ok (.aload_n 0, 1) := by decide +kernel
theorem dX4_make_64 : decode cX4_make 64 = .ok (.iload_n 2, 1) := by decide +kernel
theorem dX4_make_65 : decode cX4_make 65 = .ok (.iconst 1, 1) := by decide +kernel
theorem dX4_make_66 : decode cX4_make 66 = .ok (.isub, 1) := by decide +kernel
theorem dX4_make_67 : decode cX4_make 67 = .ok (.iload 4, 2) := by decide +kernel
theorem dX4_make_69 : decode cX4_make 69 = .ok (.invokevirtual 38, 3) := by decide +kernel
theorem dX4_make_72 : decode cX4_make 72 = .ok (.iconst 1, 1) := by decide +kernel
theorem dX4_make_73 : decode cX4_make 73 = .ok (.ireturn, 1) := by decide +kernel
theorem dX4_addMove_0 : decode cX4_addMove 0 = .ok (.aload_n 0, 1) := by decide +kernel
theorem dX4_addMove_1 : decode cX4_addMove 1 = .ok (.getfield 11, 3) := by decide +kernel
theorem dX4_addMove_4 : decode cX4_addMove 4 = .ok (.aload_n 0, 1) := by decide +kernel
theorem dX4_addMove_5 : decode cX4_addMove 5 = .ok (.getfield 18, 3) := by decide +kernel
theorem dX4_addMove_8 : decode cX4_addMove 8 = .ok (.iload_n 1, 1) := by decide +kernel
theorem dX4_addMove_9 : decode cX4_addMove 9 = .ok (.iastore, 1) := by decide +kernel
theorem dX4_addMove_10 : decode cX4_addMove 10 = .ok (.aload_n 0, 1) := by decide +kernel
theorem dX4_addMove_11 : decode cX4_addMove 11 = .ok (.getfield 15, 3) := by decide +kernel
theorem dX4_addMove_14 : decode cX4_addMove 14 = .ok (.aload_n 0, 1) := by decide +kernel
theorem dX4_addMove_15 : decode cX4_addMove 15 = .ok (.getfield 18, 3) := by decide +kernel
theorem dX4_addMove_18 : decode cX4_addMove 18 = .ok (.iload_n 2, 1) := by decide +kernel
theorem dX4_addMove_19 : decode cX4_addMove 19 = .ok (.iastore, 1) := by decide +kernel
theorem dX4_addMove_20 : decode cX4_addMove 20 = .ok (.aload_n 0, 1) := by decide +kernel
theorem dX4_addMove_21 : decode cX4_addMove 21 = .ok (.dup, 1) := by decide +kernel
theorem dX4_addMove_22 : decode cX4_addMove 22 = .ok (.getfield 18, 3) := by decide +kernel
theorem dX4_addMove_25 : decode cX4_addMove 25 = .ok (.iconst 1, 1) := by decide +kernel
theorem dX4_addMove_26 : decode cX4_addMove 26 = .ok (.iadd, 1) := by decide +kernel
theorem dX4_addMove_27 : decode cX4_addMove 27 = .ok (.putfield 18, 3) := by decide +kernel
theorem dX4_addMove_30 : decode cX4_addMove 30 = .ok (.return_, 1) := by decide +kernel
theorem dX5_init_0 : decode cX5_init 0 = .ok (.aload_n 0, 1) := by decide +kernel
theorem dX5_init_1 : decode cX5_init 1 = .ok (.invokespecial 3, 3) := by decide +kernel
theorem dX5_init_4 : decode cX5_init 4 = .ok (.aload_n 0, 1) := by decide +kernel
theorem dX5_init_5 : decode cX5_init 5 = .ok (.bipush 96, 2) := by decide +kernel
theorem dX5_init_7 : decode cX5_init 7 = .ok (.newarray .int, 2) := by decide +kernel
theorem dX5_init_9 : decode cX5_init 9 = .ok (.putfield 9, 3) := by decide +kernel
theorem dX5_init_12 : decode cX5_init 12 = .ok (.aload_n 0, 1) := by decide +kernel
theorem dX5_init_13 : decode cX5_init 13 = .ok (.iconst 4, 1) := by decide +kernel
theorem dX5_init_14 : decode cX5_init 14 = .ok (.newarray .boolean, 2) := by decide +kernel
theorem dX5_init_16 : decode cX5_init 16 = .ok (.putfield 15, 3) := by decide +kernel
theorem dX5_init_19 : decode cX5_init 19 = .ok (.return_, 1) := by decide +kernel
theorem dX5_hasCar_0 : decode cX5_hasCar 0 = .ok (.aload_n 0, 1) := by decide +kernel
theorem dX5_hasCar_1 : decode cX5_hasCar 1 = .ok (.getfield 9, 3) := by decide +kernel
theorem dX5_hasCar_4 : decode cX5_hasCar 4 = .ok (.iload_n 1, 1) := by decide +kernel
theorem dX5_hasCar_5 : decode cX5_hasCar 5 = .ok (.iaload, 1) := by decide +kernel
theorem dX5_hasCar_6 : decode cX5_hasCar 6 = .ok (.ifCond .le 7, 3) := by decide +kernel
theorem dX5_hasCar_9 : decode cX5_hasCar 9 = .ok (.iconst 1, 1) := by decide +kernel
theorem dX5_hasCar_10 : decode cX5_hasCar 10 = .ok (.goto 4, 3) := by decide +kernel
theorem dX5_hasCar_13 : decode cX5_hasCar 13 = .ok (.iconst 0, 1) := by decide +kernel
theorem dX5_hasCar_14 : decode cX5_hasCar 14 = .ok (.ireturn, 1) := by decide +kernel
set_option maxRecDepth 20000 in
theorem ggX5_isReached_X7_isFront : GoodIn wsX5_isReached wsX7_isFront := goodIn_r _ [3] (by decide +kernel) (by decide +kernel)
set_option maxRecDepth 20000 in
theorem gX5_isReached_X7_isFront_n19 : GoodIn wsX5_isReached (wsX7_isFront) := ggX5_isReached_X7_isFront
set_option maxRecDepth 20000 in
theorem ggX5_isReached_X5_hasCar : GoodIn wsX5_isReached wsX5_hasCar := goodIn_r _ [8, 9, 10, 11] (by decide +kernel) (by decide +kernel)
set_option maxRecDepth 20000 in
theorem gX5_isReached_X5_hasCar : GoodIn wsX5_isReached (wsV RX5 23 RX5 yX5_hasCar wsX5_hasCar) := goodIn_app (goodIn_of _ (by decide +kernel)) ggX5_isReached_X5_hasCar
theorem dX5_isReached_0 : decode cX5_isReached 0 = .ok (.iload_n 1, 1) := by decide +kernel
theorem dX5_isReached_1 : decode cX5_isReached 1 = .ok (.invokestatic 19, 3) := by decide +kernel
theorem dX5_isReached_4 : decode cX5_isReached 4 = .ok (.ifCond .ne 13, 3) := by decide +kernel
theorem dX5_isReached_7 : decode cX5_isReached 7 = .ok (.aload_n 0, 1) := by decide +kernel
theorem dX5_isReached_8 : decode cX5_isReached 8 = .ok (.iload_n 1, 1) := by decide +kernel
theorem dX5_isReached_9 : decode cX5_isReached 9 = .ok (.iconst 1, 1) := by decide +kernel
theorem dX5_isReached_10 : decode cX5_isReached 10 = .ok (.isub, 1) := by decide +kernel
theorem dX5_isReached_11 : decode cX5_isReached 11 = .ok (.invokevirtual 23, 3) := by decide +kernel
theorem dX5_isReached_14 : decode cX5_isReached 14 = .ok (.ifCond .ne 7, 3) := by decide +kernel
theorem dX5_isReached_17 : decode cX5_isReached 17 = .ok (.iconst 1, 1) := by decide +kernel
theorem dX5_isReached_18 : decode cX5_isReached 18 = .ok (.goto 4, 3) := by decide +kernel
theorem dX5_isReached_21 : decode cX5_isReached 21 = .ok (.iconst 0, 1) := by decide +kernel
theorem dX5_isReached_22 : decode cX5_isReached 22 = .ok (.ireturn, 1) := by decide +kernel
theorem dX5_find_0 : decode cX5_find 0 = .ok (.iconst 0, 1) := by decide +kernel
theorem dX5_find_1 : decode cX5_find 1 = .ok (.istore_n 2, 1) := by decide +kernel
theorem dX5_find_2 : decode cX5_find 2 = .ok (.iload_n 2, 1) := by decide +kernel
theorem dX5_find_3 : decode cX5_find 3 = .ok (.bipush 96, 2) := by decide +kernel
theorem dX5_find_5 : decode cX5_find 5 = .ok (.if_icmp .ge 21, 3) := by decide +kernel
theorem dX5_find_8 : decode cX5_find 8 = .ok (.aload_n 0, 1) := by decide +kernel
theorem dX5_find_9 : decode cX5_find 9 = .ok (.getfield 9, 3) := by decide +kernel
theorem dX5_find_12 : decode cX5_find 12 = .ok (.iload_n 2, 1) := by decide +kernel
theorem dX5_find_13 : decode cX5_find 13 = .ok (.iaload, 1) := by decide +kernel
theorem dX5_find_14 : decode cX5_find 14 = .ok (.iload_n 1, 1) := by decide +kernel
theorem dX5_find_15 : decode cX5_find 15 = .ok (.if_icmp .ne 5, 3) := by decide +kernel
theorem dX5_find_18 : decode cX5_find 18 = .ok (.iload_n 2, 1) := by decide +kernel
theorem dX5_find_19 : decode cX5_find 19 = .ok (.ireturn, 1) := by decide +kernel
theorem dX5_find_20 : decode cX5_find 20 = .ok (.iinc 2 1, 3) := by decide +kernel
theorem dX5_find_23 : decode cX5_find 23 = .ok (.goto (-21), 3) := by decide +kernel
theorem dX5_find_26 : decode cX5_find 26 = .ok (.iconst (-1), 1) := by decide +kernel
theorem dX5_find_27 : decode cX5_find 27 = .ok (.ireturn, 1) := by decide +kernel
set_option maxRecDepth 20000 in
theorem ggX5_countCars_X5_hasCar : GoodIn wsX5_countCars wsX5_hasCar := goodIn_r _ [5, 6, 7, 8] (by decide +kernel) (by decide +kernel)
set_option maxRecDepth 20000 in
theorem gX5_countCars_X5_hasCar : GoodIn wsX5_countCars (wsV RX5 23 RX5 yX5_hasCar wsX5_hasCar) := goodIn_app (goodIn_of _ (by decide +kernel)) ggX5_countCars_X5_hasCar
theorem dX5_countCars_0 : decode cX5_countCars 0 = .ok (.iconst 0, 1) := by decide +kernel
theorem dX5_countCars_1 : decode cX5_countCars 1 = .ok (.istore_n 1, 1) := by decide +kernel
theorem dX5_countCars_2 : decode cX5_countCars 2 = .ok (.iconst 0, 1) := by decide +kernel
theorem dX5_countCars_3 : decode cX5_countCars 3 = .ok (.istore_n 2, 1) := by decide +kernel
theorem dX5_countCars_4 : decode cX5_countCars 4 = .ok (.iload_n 2, 1) := by decide +kernel
theorem dX5_countCars_5 : decode cX5_countCars 5 = .ok (.bipush 96, 2) := by decide +kernel
theorem dX5_countCars_7 : decode cX5_countCars 7 = .ok (.if_icmp .ge 20, 3) := by decide +kernel
theorem dX5_countCars_10 : decode cX5_countCars 10 = .ok (.aload_n 0, 1) := by decide +kernel
theorem dX5_countCars_11 : decode cX5_countCars 11 = .ok (.iload_n 2, 1) := by decide +kernel
theorem dX5_countCars_12 : decode cX5_countCars 12 = .ok (.invokevirtual 23, 3) := by decide +kernel
theorem dX5_countCars_15 : decode cX5_countCars 15 = .ok (.ifCond .eq 6, 3) := by decide +kernel
theorem dX5_countCars_18 : decode cX5_countCars 18 = .ok (.iinc 1 1, 3) := by decide +kernel
theorem dX5_countCars_21 : decode cX5_countCars 21 = .ok (.iinc 2 1, 3) := by decide +kernel
theorem dX5_countCars_24 : decode cX5_countCars 24 = .ok (.goto (-20), 3) := by decide +kernel
theorem dX5_countCars_27 : decode cX5_countCars 27 = .ok (.iload_n 1, 1) := by decide +kernel
theorem dX5_countCars_28 : decode cX5_countCars 28 = .ok (.ireturn, 1) := by decide +kernel
theorem dX5_countFree_0 : decode cX5_countFree 0 = .ok (.iconst 0, 1) := by decide +kernel
theorem dX5_countFree_1 : decode cX5_countFree 1 = .ok (.istore_n 2, 1) := by decide +kernel
theorem dX5_countFree_2 : decode cX5_countFree 2 = .ok (.iload_n 1, 1) := by decide +kernel
theorem dX5_countFree_3 : decode cX5_countFree 3 = .ok (.bipush 24, 2) := by decide +kernel
theorem dX5_countFree_5 : decode cX5_countFree 5 = .ok (.imul, 1) := by decide +kernel
theorem dX5_countFree_6 : decode cX5_countFree 6 = .ok (.istore_n 3, 1) := by decide +kernel
theorem dX5_countFree_7 : decode cX5_countFree 7 = .ok (.iload_n 3, 1) := by decide +kernel
theorem dX5_countFree_8 : decode cX5_countFree 8 = .ok (.istore 4, 2) := by decide +kernel
theorem dX5_countFree_10 : decode cX5_countFree 10 = .ok (.iload 4, 2) := by decide +kernel
theorem dX5_countFree_12 : decode cX5_countFree 12 = .ok (.iload_n 3, 1) := by decide +kernel
theorem dX5_countFree_13 : decode cX5_countFree 13 = .ok (.bipush 24, 2) := by decide +kernel
theorem dX5_countFree_15 : decode cX5_countFree 15 = .ok (.iadd, 1) := by decide +kernel
theorem dX5_countFree_16 : decode cX5_countFree 16 = .ok (.if_icmp .ge 22, 3) := by decide +kernel
theorem dX5_countFree_19 : decode cX5_countFree 19 = .ok (.aload_n 0, 1) := by decide +kernel
theorem dX5_countFree_20 : decode cX5_countFree 20 = .ok (.getfield 9, 3) := by decide +kernel
theorem dX5_countFree_23 : decode cX5_countFree 23 = .ok (.iload 4, 2) := by decide +kernel
theorem dX5_countFree_25 : decode cX5_countFree 25 = .ok (.iaload, 1) := by decide +kernel
theorem dX5_countFree_26 : decode cX5_countFree 26 = .ok (.ifCond .ne 6, 3) := by decide +kernel
theorem dX5_countFree_29 : decode cX5_countFree 29 = .ok (.iinc 2 1, 3) := by decide +kernel
theorem dX5_countFree_32 : decode cX5_countFree 32 = .ok (.iinc 4 1, 3) := by decide +kernel
theorem dX5_countFree_35 : decode cX5_countFree 35 = .ok (.goto (-25), 3) := by decide +kernel
theorem dX5_countFree_38 : decode cX5_countFree 38 = .ok (.iload_n 2, 1) := by decide +kernel
theorem dX5_countFree_39 : decode cX5_countFree 39 = .ok (.ireturn, 1) := by decide +kernel
set_option maxRecDepth 20000 in
theorem ggX5_hasRoom_X5_countFree : GoodIn wsX5_hasRoom wsX5_countFree := goodIn_r _ [6, 7, 8, 9] (by decide +kernel) (by decide +kernel)
set_option maxRecDepth 20000 in
theorem gX5_hasRoom_X5_countFree : GoodIn wsX5_hasRoom (wsV RX5 26 RX5 yX5_countFree wsX5_countFree) := goodIn_app (goodIn_of _ (by decide +kernel)) ggX5_hasRoom_X5_countFree
theorem dX5_hasRoom_0 : decode cX5_hasRoom 0 = .ok (.aload_n 0, 1) := by decide +kernel
theorem dX5_hasRoom_1 : decode cX5_hasRoom 1 = .ok (.getfield 15, 3) := by decide +kernel
theorem dX5_hasRoom_4 : decode cX5_hasRoom 4 = .ok (.iload_n 1, 1) := by decide +kernel
theorem dX5_hasRoom_5 : decode cX5_hasRoom 5 = .ok (.baload, 1) := by decide +kernel
theorem dX5_hasRoom_6 : decode cX5_hasRoom 6 = .ok (.ifCond .ne 16, 3) := by decide +kernel
theorem dX5_hasRoom_9 : decode cX5_hasRoom 9 = .ok (.aload_n 0, 1) := by decide +kernel
theorem dX5_hasRoom_10 : decode cX5_hasRoom 10 = .ok (.iload_n 1, 1) := by decide +kernel
theorem dX5_hasRoom_11 : decode cX5_hasRoom 11 = .ok (.invokevirtual 26, 3) := by decide +kernel
theorem dX5_hasRoom_14 : decode cX5_hasRoom 14 = .ok (.iconst 2, 1) := by decide +kernel
theorem dX5_hasRoom_15 : decode cX5_hasRoom 15 = .ok (.if_icmp .lt 7, 3) := by decide +kernel
theorem dX5_hasRoom_18 : decode cX5_hasRoom 18 = .ok (.iconst 1, 1) := by decide +kernel
theorem dX5_hasRoom_19 : decode cX5_hasRoom 19 = .ok (.goto 4, 3) := by decide +kernel
theorem dX5_hasRoom_22 : decode cX5_hasRoom 22 = .ok (.iconst 0, 1) := by decide +kernel
theorem dX5_hasRoom_23 : decode cX5_hasRoom 23 = .ok (.ireturn, 1) := by decide +kernel
set_option maxRecDepth 20000 in
theorem ggX5_firstCellToStore_X5_hasCar : GoodIn wsX5_firstCellToStore wsX5_hasCar := goodIn_r _ [6, 1, 7, 8] (by decide +kernel) (by decide +kernel)
set_option maxRecDepth 20000 in
theorem gX5_firstCellToStore_X5_hasCar : GoodIn wsX5_firstCellToStore (wsV RX5 23 RX5 yX5_hasCar wsX5_hasCar) := goodIn_app (goodIn_of _ (by decide +kernel)) ggX5_firstCellToStore_X5_hasCar
theorem dX5_firstCellToStore_0 : decode cX5_firstCellToStore 0 = .ok (.iconst 0, 1) := by decide +kernel
theorem dX5_firstCellToStore_1 : decode cX5_firstCellToStore 1 = .ok (.istore_n 2, 1) := by decide +kernel
theorem dX5_firstCellToStore_2 : decode cX5_firstCellToStore 2 = .ok (.iload_n 2, 1) := by decide +kernel
theorem dX5_firstCellToStore_3 : decode cX5_firstCellToStore 3 = .ok (.bipush 6, 2) := by decide +kernel
theorem dX5_firstCellToStore_5 : decode cX5_firstCellToStore 5 = .ok (.if_icmp .ge 88, 3) := by decide +kernel
theorem dX5_firstCellToStore_8 : decode cX5_firstCellToStore 8 = .ok (.iconst 0, 1) := by decide +kernel
theorem dX5_firstCellToStore_9 : decode cX5_firstCellToStore 9 = .ok (.istore_n 3, 1) := by decide +kernel
theorem dX5_firstCellToStore_10 : decode cX5_firstCellToStore 10 = .ok (.iload_n 3, 1) := by decide +kernel
theorem dX5_firstCellToStore_11 : decode cX5_firstCellToStore 11 = .ok (.iconst 2, 1) := by decide +kernel
theorem dX5_firstCellToStore_12 : decode cX5_firstCellToStore 12 = .ok (.if_icmp .ge 75, 3) := by decide +kernel
theorem dX5_firstCellToStore_15 : decode cX5_firstCellToStore 15 = .ok (.iload_n 1, 1) := by decide +kernel
theorem dX5_firstCellToStore_16 : decode cX5_firstCellToStore 16 = .ok (.bipush 24, 2) := by decide +kernel
theorem dX5_firstCellToStore_18 : decode cX5_firstCellToStore 18 = .ok (.imul, 1) := by decide +kernel
theorem dX5_firstCellToStore_19 : decode cX5_firstCellToStore 19 = .ok (.iload_n 3, 1) := by decide +kernel
theorem dX5_firstCellToStore_20 : decode cX5_firstCellToStore 20 = .ok (.bipush 12, 2) := by decide +kernel
theorem dX5_firstCellToStore_22 : decode cX5_firstCellToStore 22 = .ok (.imul, 1) := by decide +kernel
theorem dX5_firstCellToStore_23 : decode cX5_firstCellToStore 23 = .ok (.iadd, 1) := by decide +kernel
theorem dX5_firstCellToStore_24 : decode cX5_firstCellToStore 24 = .ok (.iconst 2, 1) := by decide +kernel
theorem dX5_firstCellToStore_25 : decode cX5_firstCellToStore 25 = .ok (.iload_n 2, 1) := by decide +kernel
theorem dX5_firstCellToStore_26 : decode cX5_firstCellToStore 26 = .ok (.imul, 1) := by decide +kernel
theorem dX5_firstCellToStore_27 : decode cX5_firstCellToStore 27 = .ok (.iadd, 1) := by decide +kernel
theorem dX5_firstCellToStore_28 : decode cX5_firstCellToStore 28 = .ok (.istore 4, 2) := by decide +kernel
theorem dX5_firstCellToStore_30 : decode cX5_firstCellToStore 30 = .ok (.iload 4, 2) := by decide +kernel
theorem dX5_firstCellToStore_32 : decode cX5_firstCellToStore 32 = .ok (.iconst 1, 1) := by decide +kernel
theorem dX5_firstCellToStore_33 : decode cX5_firstCellToStore 33 = .ok (.iadd, 1) := by decide +kernel
theorem dX5_firstCellToStore_34 : decode cX5_firstCellToStore 34 = .ok (.istore 5, 2) := by decide +kernel
theorem dX5_firstCellToStore_36 : decode cX5_firstCellToStore 36 = .ok (.aload_n 0, 1) := by decide +kernel
theorem dX5_firstCellToStore_37 : decode cX5_firstCellToStore 37 = .ok (.getfield 9, 3) := by decide +kernel
theorem dX5_firstCellToStore_40 : decode cX5_firstCellToStore 40 = .ok (.iload 4, 2) := by decide +kernel
theorem dX5_firstCellToStore_42 : decode cX5_firstCellToStore 42 = .ok (.iaload, 1) := by decide +kernel
theorem dX5_firstCellToStore_43 : decode cX5_firstCellToStore 43 = .ok (.ifCond .ne 16, 3) := by decide +kernel
theorem dX5_firstCellToStore_46 : decode cX5_firstCellToStore 46 = .ok (.aload_n 0, 1) := by decide +kernel
theorem dX5_firstCellToStore_47 : decode cX5_firstCellToStore 47 = .ok (.getfield 9, 3) := by decide +kernel
theorem dX5_firstCellToStore_50 : decode cX5_firstCellToStore 50 = .ok (.iload 5, 2) := by decide +kernel
theorem dX5_firstCellToStore_52 : decode cX5_firstCellToStore 52 = .ok (.iaload, 1) := by decide +kernel
theorem dX5_firstCellToStore_53 : decode cX5_firstCellToStore 53 = .ok (.ifCond .ne 6, 3) := by decide +kernel
theorem dX5_firstCellToStore_56 : decode cX5_firstCellToStore 56 = .ok (.iload 5, 2) := by decide +kernel
theorem dX5_firstCellToStore_58 : decode cX5_firstCellToStore 58 = .ok (.ireturn, 1) := by decide +kernel
theorem dX5_firstCellToStore_59 : decode cX5_firstCellToStore 59 = .ok (.aload_n 0, 1) := by decide +kernel
theorem dX5_firstCellToStore_60 : decode cX5_firstCellToStore 60 = .ok (.getfield 9, 3) := by decide +kernel
theorem dX5_firstCellToStore_63 : decode cX5_firstCellToStore 63 = .ok (.iload 4, 2) := by decide +kernel
theorem dX5_firstCellToStore_65 : decode cX5_firstCellToStore 65 = .ok (.iaload, 1) := by decide +kernel
theorem dX5_firstCellToStore_66 : decode cX5_firstCellToStore 66 = .ok (.ifCond .ne 15, 3) := by decide +kernel
theorem dX5_firstCellToStore_69 : decode cX5_firstCellToStore 69 = .ok (.aload_n 0, 1) := by decide +kernel
theorem dX5_firstCellToStore_70 : decode cX5_firstCellToStore 70 = .ok (.iload 5, 2) := by decide +kernel
theorem dX5_firstCellToStore_72 : decode cX5_firstCellToStore 72 = .ok (.invokevirtual 23, 3) := by decide +kernel
theorem dX5_firstCellToStore_75 : decode cX5_firstCellToStore 75 = .ok (.ifCond .eq 6, 3) := by decide +kernel
theorem dX5_firstCellToStore_78 : decode cX5_firstCellToStore 78 = .ok (.iload 4, 2) := by decide +kernel
theorem dX5_firstCellToStore_80 : decode cX5_firstCellToStore 80 = .ok (.ireturn, 1) := by decide +kernel
theorem dX5_firstCellToStore_81 : decode cX5_firstCellToStore 81 = .ok (.iinc 3 1, 3) := by decide +kernel
theorem dX5_firstCellToStore_84 : decode cX5_firstCellToStore 84 = .ok (.goto (-74), 3) := by decide +kernel
theorem dX5_firstCellToStore_87 : decode cX5_firstCellToStore 87 = .ok (.iinc 2 1, 3) := by decide +kernel
theorem dX5_firstCellToStore_90 : decode cX5_firstCellToStore 90 = .ok (.goto (-88), 3) := by decide +kernel
theorem dX5_firstCellToStore_93 : decode cX5_firstCellToStore 93 = .ok (.iconst (-1), 1) := by decide +kernel
theorem dX5_firstCellToStore_94 : decode cX5_firstCellToStore 94 = .ok (.ireturn, 1) := by decide +kernel
set_option maxRecDepth 20000 in
theorem ggX5_keep_X7_isFront : GoodIn wsX5_keep wsX7_isFront := goodIn_r _ [4] (by decide +kernel) (by decide +kernel)
set_option maxRecDepth 20000 in
theorem gX5_keep_X7_isFront_n19 : GoodIn wsX5_keep (wsX7_isFront) := ggX5_keep_X7_isFront
theorem dX5_keep_0 : decode cX5_keep 0 = .ok (.aload_n 0, 1) := by decide +kernel
theorem dX5_keep_1 : decode cX5_keep 1 = .ok (.getfield 9, 3) := by decide +kernel
theorem dX5_keep_4 : decode cX5_keep 4 = .ok (.iload_n 1, 1) := by decide +kernel
theorem dX5_keep_5 : decode cX5_keep 5 = .ok (.iconst (-1), 1) := by decide +kernel
theorem dX5_keep_6 : decode cX5_keep 6 = .ok (.iastore, 1) := by decide +kernel
theorem dX5_keep_7 : decode cX5_keep 7 = .ok (.iload_n 1, 1) := by decide +kernel
theorem dX5_keep_8 : decode cX5_keep 8 = .ok (.invokestatic 19, 3) := by decide +kernel
theorem dX5_keep_11 : decode cX5_keep 11 = .ok (.ifCond .ne 12, 3) := by decide +kernel
theorem dX5_keep_14 : decode cX5_keep 14 = .ok (.aload_n 0, 1) := by decide +kernel
theorem dX5_keep_15 : decode cX5_keep 15 = .ok (.getfield 9, 3) := by decide +kernel
theorem dX5_keep_18 : decode cX5_keep 18 = .ok (.iload_n 1, 1) := by decide +kernel
theorem dX5_keep_19 : decode cX5_keep 19 = .ok (.iconst 1, 1) := by decide +kernel
theorem dX5_keep_20 : decode cX5_keep 20 = .ok (.isub, 1) := by decide +kernel
theorem dX5_keep_21 : decode cX5_keep 21 = .ok (.iconst (-1), 1) := by decide +kernel
theorem dX5_keep_22 : decode cX5_keep 22 = .ok (.iastore, 1) := by decide +kernel
theorem dX5_keep_23 : decode cX5_keep 23 = .ok (.return_, 1) := by decide +kernel
set_option maxRecDepth 20000 in
theorem ggX5_fillKept_X7_isFront : GoodIn wsX5_fillKept wsX7_isFront := goodIn_r _ [4] (by decide +kernel) (by decide +kernel)
set_option maxRecDepth 20000 in
theorem gX5_fillKept_X7_isFront_n19 : GoodIn wsX5_fillKept (wsX7_isFront) := ggX5_fillKept_X7_isFront
theorem dX5_fillKept_0 : decode cX5_fillKept 0 = .ok (.aload_n 0, 1) := by decide +kernel
theorem dX5_fillKept_1 : decode cX5_fillKept 1 = .ok (.getfield 9, 3) := by decide +kernel
theorem dX5_fillKept_4 : decode cX5_fillKept 4 = .ok (.iload_n 1, 1) := by decide +kernel
theorem dX5_fillKept_5 : decode cX5_fillKept 5 = .ok (.iload_n 2, 1) := by decide +kernel
theorem dX5_fillKept_6 : decode cX5_fillKept 6 = .ok (.iastore, 1) := by decide +kernel
theorem dX5_fillKept_7 : decode cX5_fillKept 7 = .ok (.iload_n 1, 1) := by decide +kernel
theorem dX5_fillKept_8 : decode cX5_fillKept 8 = .ok (.invokestatic 19, 3) := by decide +kernel
theorem dX5_fillKept_11 : decode cX5_fillKept 11 = .ok (.ifCond .ne 12, 3) := by decide +kernel
theorem dX5_fillKept_14 : decode cX5_fillKept 14 = .ok (.aload_n 0, 1) := by decide +kernel
theorem dX5_fillKept_15 : decode cX5_fillKept 15 = .ok (.getfield 9, 3) := by decide +kernel
theorem dX5_fillKept_18 : decode cX5_fillKept 18 = .ok (.iload_n 1, 1) := by decide +kernel
theorem dX5_fillKept_19 : decode cX5_fillKept 19 = .ok (.iconst 1, 1) := by decide +kernel
theorem dX5_fillKept_20 : decode cX5_fillKept 20 = .ok (.isub, 1) := by decide +kernel
theorem dX5_fillKept_21 : decode cX5_fillKept 21 = .ok (.iconst 0, 1) := by decide +kernel
theorem dX5_fillKept_22 : decode cX5_fillKept 22 = .ok (.iastore, 1) := by decide +kernel
theorem dX5_fillKept_23 : decode cX5_fillKept 23 = .ok (.return_, 1) := by decide +kernel
theorem dX5_move_0 : decode cX5_move 0 = .ok (.aload_n 0, 1) := by decide +kernel
theorem dX5_move_1 : decode cX5_move 1 = .ok (.getfield 9, 3) := by decide +kernel
theorem dX5_move_4 : decode cX5_move 4 = .ok (.iload_n 2, 1) := by decide +kernel
theorem dX5_move_5 : decode cX5_move 5 = .ok (.aload_n 0, 1) := by decide +kernel
theorem dX5_move_6 : decode cX5_move 6 = .ok (.getfield 9, 3) := by decide +kernel
theorem dX5_move_9 : decode cX5_move 9 = .ok (.iload_n 1, 1) := by decide +kernel
theorem dX5_move_10 : decode cX5_move 10 = .ok (.iaload, 1) := by decide +kernel
theorem dX5_move_11 : decode cX5_move 11 = .ok (.iastore, 1) := by decide +kernel
theorem dX5_move_12 : decode cX5_move 12 = .ok (.aload_n 0, 1) := by decide +kernel
theorem dX5_move_13 : decode cX5_move 13 = .ok (.getfield 9, 3) := by decide +kernel
theorem dX5_move_16 : decode cX5_move 16 = .ok (.iload_n 1, 1) := by decide +kernel
theorem dX5_move_17 : decode cX5_move 17 = .ok (.iconst 0, 1) := by decide +kernel
theorem dX5_move_18 : decode cX5_move 18 = .ok (.iastore, 1) := by decide +kernel
theorem dX5_move_19 : decode cX5_move 19 = .ok (.return_, 1) := by decide +kernel
set_option maxRecDepth 20000 in
theorem ggX5_leastGoal_X7_isFront : GoodIn wsX5_leastGoal wsX7_isFront := goodIn_r _ [4] (by decide +kernel) (by decide +kernel)
set_option maxRecDepth 20000 in
theorem gX5_leastGoal_X7_isFront_n19 : GoodIn wsX5_leastGoal (wsX7_isFront) := ggX5_leastGoal_X7_isFront
set_option maxRecDepth 20000 in
theorem ggX5_leastGoal_X5_isReached : GoodIn wsX5_leastGoal wsX5_isReached := goodIn_r _ [9, 2, 3, 4, 10, 11, 12, 8, 13, 1, 14, 15] (by decide +kernel) (by decide +kernel)
set_option maxRecDepth 20000 in
theorem gX5_leastGoal_X5_isReached : GoodIn wsX5_leastGoal (wsV RX5 30 RX5 yX5_isReached wsX5_isReached) := goodIn_app (goodIn_of _ (by decide +kernel)) ggX5_leastGoal_X5_isReached
theorem dX5_leastGoal_0 : decode cX5_leastGoal 0 = .ok (.iload_n 1, 1) := by decide +kernel
theorem dX5_leastGoal_1 : decode cX5_leastGoal 1 = .ok (.bipush 24, 2) := by decide +kernel
theorem dX5_leastGoal_3 : decode cX5_leastGoal 3 = .ok (.imul, 1) := by decide +kernel
theorem dX5_leastGoal_4 : decode cX5_leastGoal 4 = .ok (.istore_n 2, 1) := by decide +kernel
theorem dX5_leastGoal_5 : decode cX5_leastGoal 5 = .ok (.iload_n 2, 1) := by decide +kernel
theorem dX5_leastGoal_6 : decode cX5_leastGoal 6 = .ok (.istore_n 3, 1) := by decide +kernel
theorem dX5_leastGoal_7 : decode cX5_leastGoal 7 = .ok (.iload_n 3, 1) := by decide +kernel
theorem dX5_leastGoal_8 : decode cX5_leastGoal 8 = .ok (.iload_n 2, 1) := by decide +kernel
theorem dX5_leastGoal_9 : decode cX5_leastGoal 9 = .ok (.bipush 24, 2) := by decide +kernel
theorem dX5_leastGoal_11 : decode cX5_leastGoal 11 = .ok (.iadd, 1) := by decide +kernel
theorem dX5_leastGoal_12 : decode cX5_leastGoal 12 = .ok (.if_icmp .ge 59, 3) := by decide +kernel
theorem dX5_leastGoal_15 : decode cX5_leastGoal 15 = .ok (.iload_n 3, 1) := by decide +kernel
theorem dX5_leastGoal_16 : decode cX5_leastGoal 16 = .ok (.invokestatic 19, 3) := by decide +kernel
theorem dX5_leastGoal_19 : decode cX5_leastGoal 19 = .ok (.ifCond .eq 19, 3) := by decide +kernel
theorem dX5_leastGoal_22 : decode cX5_leastGoal 22 = .ok (.aload_n 0, 1) := by decide +kernel
theorem dX5_leastGoal_23 : decode cX5_leastGoal 23 = .ok (.getfield 9, 3) := by decide +kernel
theorem dX5_leastGoal_26 : decode cX5_leastGoal 26 = .ok (.iload_n 3, 1) := by decide +kernel
theorem dX5_leastGoal_27 : decode cX5_leastGoal 27 = .ok (.iconst 1, 1) := by decide +kernel
theorem dX5_leastGoal_28 : decode cX5_leastGoal 28 = .ok (.iadd, 1) := by decide +kernel
theorem dX5_leastGoal_29 : decode cX5_leastGoal 29 = .ok (.iaload, 1) := by decide +kernel
theorem dX5_leastGoal_30 : decode cX5_leastGoal 30 = .ok (.iconst (-1), 1) := by decide +kernel
theorem dX5_leastGoal_31 : decode cX5_leastGoal 31 = .ok (.if_icmp .ne 7, 3) := by decide +kernel
theorem dX5_leastGoal_34 : decode cX5_leastGoal 34 = .ok (.iconst 1, 1) := by decide +kernel
theorem dX5_leastGoal_35 : decode cX5_leastGoal 35 = .ok (.goto 4, 3) := by decide +kernel
theorem dX5_leastGoal_38 : decode cX5_leastGoal 38 = .ok (.iconst 0, 1) := by decide +kernel
theorem dX5_leastGoal_39 : decode cX5_leastGoal 39 = .ok (.istore 4, 2) := by decide +kernel
theorem dX5_leastGoal_41 : decode cX5_leastGoal 41 = .ok (.aload_n 0, 1) := by decide +kernel
theorem dX5_leastGoal_42 : decode cX5_leastGoal 42 = .ok (.getfield 9, 3) := by decide +kernel
theorem dX5_leastGoal_45 : decode cX5_leastGoal 45 = .ok (.iload_n 3, 1) := by decide +kernel
theorem dX5_leastGoal_46 : decode cX5_leastGoal 46 = .ok (.iaload, 1) := by decide +kernel
theorem dX5_leastGoal_47 : decode cX5_leastGoal 47 = .ok (.ifCond .ne 18, 3) := by decide +kernel
theorem dX5_leastGoal_50 : decode cX5_leastGoal 50 = .ok (.aload_n 0, 1) := by decide +kernel
theorem dX5_leastGoal_51 : decode cX5_leastGoal 51 = .ok (.iload_n 3, 1) := by decide +kernel
theorem dX5_leastGoal_52 : decode cX5_leastGoal 52 = .ok (.invokevirtual 30, 3) := by decide +kernel
theorem dX5_leastGoal_55 : decode cX5_leastGoal 55 = .ok (.ifCond .eq 10, 3) := by decide +kernel
theorem dX5_leastGoal_58 : decode cX5_leastGoal 58 = .ok (.iload 4, 2) := by decide +kernel
theorem dX5_leastGoal_60 : decode cX5_leastGoal 60 = .ok (.ifCond .ne 5, 3) := by decide +kernel
theorem dX5_leastGoal_63 : decode cX5_leastGoal 63 = .ok (.iload_n 3, 1) := by decide +kernel
theorem dX5_leastGoal_64 : decode cX5_leastGoal 64 = .ok (.ireturn, 1) := by decide +kernel
theorem dX5_leastGoal_65 : decode cX5_leastGoal 65 = .ok (.iinc 3 1, 3) := by decide +kernel
theorem dX5_leastGoal_68 : decode cX5_leastGoal 68 = .ok (.goto (-61), 3) := by decide +kernel
theorem dX5_leastGoal_71 : decode cX5_leastGoal 71 = .ok (.iconst (-1), 1) := by decide +kernel
theorem dX5_leastGoal_72 : decode cX5_leastGoal 72 = .ok (.ireturn, 1) := by decide +kernel
set_option maxRecDepth 20000 in
theorem ggX5_leastStepBack_X5_hasCar : GoodIn wsX5_leastStepBack wsX5_hasCar := goodIn_r _ [6, 1, 7, 8] (by decide +kernel) (by decide +kernel)
set_option maxRecDepth 20000 in
theorem gX5_leastStepBack_X5_hasCar : GoodIn wsX5_leastStepBack (wsV RX5 23 RX5 yX5_hasCar wsX5_hasCar) := goodIn_app (goodIn_of _ (by decide +kernel)) ggX5_leastStepBack_X5_hasCar
theorem dX5_leastStepBack_0 : decode cX5_leastStepBack 0 = .ok (.iload_n 1, 1) := by decide +kernel
theorem dX5_leastStepBack_1 : decode cX5_leastStepBack 1 = .ok (.bipush 24, 2) := by decide +kernel
theorem dX5_leastStepBack_3 : decode cX5_leastStepBack 3 = .ok (.imul, 1) := by decide +kernel
theorem dX5_leastStepBack_4 : decode cX5_leastStepBack 4 = .ok (.istore_n 2, 1) := by decide +kernel
theorem dX5_leastStepBack_5 : decode cX5_leastStepBack 5 = .ok (.iload_n 2, 1) := by decide +kernel
theorem dX5_leastStepBack_6 : decode cX5_leastStepBack 6 = .ok (.istore_n 3, 1) := by decide +kernel
theorem dX5_leastStepBack_7 : decode cX5_leastStepBack 7 = .ok (.iload_n 3, 1) := by decide +kernel
theorem dX5_leastStepBack_8 : decode cX5_leastStepBack 8 = .ok (.iload_n 2, 1) := by decide +kernel
theorem dX5_leastStepBack_9 : decode cX5_leastStepBack 9 = .ok (.bipush 24, 2) := by decide +kernel
theorem dX5_leastStepBack_11 : decode cX5_leastStepBack 11 = .ok (.iadd, 1) := by decide +kernel
theorem dX5_leastStepBack_12 : decode cX5_leastStepBack 12 = .ok (.if_icmp .ge 30, 3) := by decide +kernel
theorem dX5_leastStepBack_15 : decode cX5_leastStepBack 15 = .ok (.aload_n 0, 1) := by decide +kernel
theorem dX5_leastStepBack_16 : decode cX5_leastStepBack 16 = .ok (.iload_n 3, 1) := by decide +kernel
theorem dX5_leastStepBack_17 : decode cX5_leastStepBack 17 = .ok (.invokevirtual 23, 3) := by decide +kernel
theorem dX5_leastStepBack_20 : decode cX5_leastStepBack 20 = .ok (.ifCond .eq 16, 3) := by decide +kernel
theorem dX5_leastStepBack_23 : decode cX5_leastStepBack 23 = .ok (.aload_n 0, 1) := by decide +kernel
theorem dX5_leastStepBack_24 : decode cX5_leastStepBack 24 = .ok (.getfield 9, 3) := by decide +kernel
theorem dX5_leastStepBack_27 : decode cX5_leastStepBack 27 = .ok (.iload_n 3, 1) := by decide +kernel
theorem dX5_leastStepBack_28 : decode cX5_leastStepBack 28 = .ok (.iconst 1, 1) := by decide +kernel
theorem dX5_leastStepBack_29 : decode cX5_leastStepBack 29 = .ok (.iadd, 1) := by decide +kernel
theorem dX5_leastStepBack_30 : decode cX5_leastStepBack 30 = .ok (.iaload, 1) := by decide +kernel
theorem dX5_leastStepBack_31 : decode cX5_leastStepBack 31 = .ok (.ifCond .ne 5, 3) := by decide +kernel
theorem dX5_leastStepBack_34 : decode cX5_leastStepBack 34 = .ok (.iload_n 3, 1) := by decide +kernel
theorem dX5_leastStepBack_35 : decode cX5_leastStepBack 35 = .ok (.ireturn, 1) := by decide +kernel
theorem dX5_leastStepBack_36 : decode cX5_leastStepBack 36 = .ok (.iinc 3 2, 3) := by decide +kernel
theorem dX5_leastStepBack_39 : decode cX5_leastStepBack 39 = .ok (.goto (-32), 3) := by decide +kernel
theorem dX5_leastStepBack_42 : decode cX5_leastStepBack 42 = .ok (.iconst (-1), 1) := by decide +kernel
theorem dX5_leastStepBack_43 : decode cX5_leastStepBack 43 = .ok (.ireturn, 1) := by decide +kernel
