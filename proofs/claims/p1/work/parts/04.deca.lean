theorem dX1_init_0 : decode cX1_init 0 = .ok (.aload_n 0, 1) := by decide +kernel
theorem dX1_init_1 : decode cX1_init 1 = .ok (.invokespecial 3, 3) := by decide +kernel
theorem dX1_init_4 : decode cX1_init 4 = .ok (.aload_n 0, 1) := by decide +kernel
theorem dX1_init_5 : decode cX1_init 5 = .ok (.iconst 2, 1) := by decide +kernel
theorem dX1_init_6 : decode cX1_init 6 = .ok (.putfield 9, 3) := by decide +kernel
theorem dX1_init_9 : decode cX1_init 9 = .ok (.aload_n 0, 1) := by decide +kernel
theorem dX1_init_10 : decode cX1_init 10 = .ok (.iconst (-1), 1) := by decide +kernel
theorem dX1_init_11 : decode cX1_init 11 = .ok (.putfield 15, 3) := by decide +kernel
theorem dX1_init_14 : decode cX1_init 14 = .ok (.return_, 1) := by decide +kernel
theorem dX1_beginToShut_0 : decode cX1_beginToShut 0 = .ok (.aload_n 0, 1) := by decide +kernel
theorem dX1_beginToShut_1 : decode cX1_beginToShut 1 = .ok (.iconst 3, 1) := by decide +kernel
theorem dX1_beginToShut_2 : decode cX1_beginToShut 2 = .ok (.putfield 9, 3) := by decide +kernel
theorem dX1_beginToShut_5 : decode cX1_beginToShut 5 = .ok (.aload_n 0, 1) := by decide +kernel
theorem dX1_beginToShut_6 : decode cX1_beginToShut 6 = .ok (.iconst 4, 1) := by decide +kernel
theorem dX1_beginToShut_7 : decode cX1_beginToShut 7 = .ok (.putfield 18, 3) := by decide +kernel
theorem dX1_beginToShut_10 : decode cX1_beginToShut 10 = .ok (.return_, 1) := by decide +kernel
theorem dX1_moveDoor_0 : decode cX1_moveDoor 0 = .ok (.aload_n 0, 1) := by decide +kernel
theorem dX1_moveDoor_1 : decode cX1_moveDoor 1 = .ok (.getfield 18, 3) := by decide +kernel
theorem dX1_moveDoor_4 : decode cX1_moveDoor 4 = .ok (.ifCond .ne 4, 3) := by decide +kernel
theorem dX1_moveDoor_7 : decode cX1_moveDoor 7 = .ok (.return_, 1) := by decide +kernel
theorem dX1_moveDoor_8 : decode cX1_moveDoor 8 = .ok (.aload_n 0, 1) := by decide +kernel
theorem dX1_moveDoor_9 : decode cX1_moveDoor 9 = .ok (.dup, 1) := by decide +kernel
theorem dX1_moveDoor_10 : decode cX1_moveDoor 10 = .ok (.getfield 18, 3) := by decide +kernel
theorem dX1_moveDoor_13 : decode cX1_moveDoor 13 = .ok (.iconst 1, 1) := by decide +kernel
theorem dX1_moveDoor_14 : decode cX1_moveDoor 14 = .ok (.isub, 1) := by decide +kernel
theorem dX1_moveDoor_15 : decode cX1_moveDoor 15 = .ok (.putfield 18, 3) := by decide +kernel
theorem dX1_moveDoor_18 : decode cX1_moveDoor 18 = .ok (.aload_n 0, 1) := by decide +kernel
theorem dX1_moveDoor_19 : decode cX1_moveDoor 19 = .ok (.getfield 18, 3) := by decide +kernel
theorem dX1_moveDoor_22 : decode cX1_moveDoor 22 = .ok (.ifCond .ne 20, 3) := by decide +kernel
theorem dX1_moveDoor_25 : decode cX1_moveDoor 25 = .ok (.aload_n 0, 1) := by decide +kernel
theorem dX1_moveDoor_26 : decode cX1_moveDoor 26 = .ok (.aload_n 0, 1) := by decide +kernel
theorem dX1_moveDoor_27 : decode cX1_moveDoor 27 = .ok (.getfield 9, 3) := by decide +kernel
theorem dX1_moveDoor_30 : decode cX1_moveDoor 30 = .ok (.iconst 1, 1) := by decide +kernel
theorem dX1_moveDoor_31 : decode cX1_moveDoor 31 = .ok (.if_icmp .ne 7, 3) := by decide +kernel
theorem dX1_moveDoor_34 : decode cX1_moveDoor 34 = .ok (.iconst 2, 1) := by decide +kernel
theorem dX1_moveDoor_35 : decode cX1_moveDoor 35 = .ok (.goto 4, 3) := by decide +kernel
theorem dX1_moveDoor_38 : decode cX1_moveDoor 38 = .ok (.iconst 0, 1) := by decide +kernel
theorem dX1_moveDoor_39 : decode cX1_moveDoor 39 = .ok (.putfield 9, 3) := by decide +kernel
theorem dX1_moveDoor_42 : decode cX1_moveDoor 42 = .ok (.return_, 1) := by decide +kernel
theorem dX1_holdsCarWithoutOrder_0 : decode cX1_holdsCarWithoutOrder 0 = .ok (.aload_n 0, 1) := by decide +kernel
theorem dX1_holdsCarWithoutOrder_1 : decode cX1_holdsCarWithoutOrder 1 = .ok (.getfield 21, 3) := by decide +kernel
theorem dX1_holdsCarWithoutOrder_4 : decode cX1_holdsCarWithoutOrder 4 = .ok (.ifCond .eq 21, 3) := by decide +kernel
theorem dX1_holdsCarWithoutOrder_7 : decode cX1_holdsCarWithoutOrder 7 = .ok (.aload_n 0, 1) := by decide +kernel
theorem dX1_holdsCarWithoutOrder_8 : decode cX1_holdsCarWithoutOrder 8 = .ok (.getfield 24, 3) := by decide +kernel
theorem dX1_holdsCarWithoutOrder_11 : decode cX1_holdsCarWithoutOrder 11 = .ok (.ifCond .ne 14, 3) := by decide +kernel
theorem dX1_holdsCarWithoutOrder_14 : decode cX1_holdsCarWithoutOrder 14 = .ok (.aload_n 0, 1) := by decide +kernel
theorem dX1_holdsCarWithoutOrder_15 : decode cX1_holdsCarWithoutOrder 15 = .ok (.getfield 9, 3) := by decide +kernel
theorem dX1_holdsCarWithoutOrder_18 : decode cX1_holdsCarWithoutOrder 18 = .ok (.ifCond .eq 7, 3) := by decide +kernel
theorem dX1_holdsCarWithoutOrder_21 : decode cX1_holdsCarWithoutOrder 21 = .ok (.iconst 1, 1) := by decide +kernel
theorem dX1_holdsCarWithoutOrder_22 : decode cX1_holdsCarWithoutOrder 22 = .ok (.goto 4, 3) := by decide +kernel
theorem dX1_holdsCarWithoutOrder_25 : decode cX1_holdsCarWithoutOrder 25 = .ok (.iconst 0, 1) := by decide +kernel
theorem dX1_holdsCarWithoutOrder_26 : decode cX1_holdsCarWithoutOrder 26 = .ok (.ireturn, 1) := by decide +kernel
theorem dX1_isOpenAndClear_0 : decode cX1_isOpenAndClear 0 = .ok (.aload_n 0, 1) := by decide +kernel
theorem dX1_isOpenAndClear_1 : decode cX1_isOpenAndClear 1 = .ok (.getfield 9, 3) := by decide +kernel
theorem dX1_isOpenAndClear_4 : decode cX1_isOpenAndClear 4 = .ok (.iconst 2, 1) := by decide +kernel
theorem dX1_isOpenAndClear_5 : decode cX1_isOpenAndClear 5 = .ok (.if_icmp .ne 21, 3) := by decide +kernel
theorem dX1_isOpenAndClear_8 : decode cX1_isOpenAndClear 8 = .ok (.aload_n 0, 1) := by decide +kernel
theorem dX1_isOpenAndClear_9 : decode cX1_isOpenAndClear 9 = .ok (.getfield 21, 3) := by decide +kernel
theorem dX1_isOpenAndClear_12 : decode cX1_isOpenAndClear 12 = .ok (.ifCond .ne 14, 3) := by decide +kernel
theorem dX1_isOpenAndClear_15 : decode cX1_isOpenAndClear 15 = .ok (.aload_n 0, 1) := by decide +kernel
theorem dX1_isOpenAndClear_16 : decode cX1_isOpenAndClear 16 = .ok (.getfield 28, 3) := by decide +kernel
theorem dX1_isOpenAndClear_19 : decode cX1_isOpenAndClear 19 = .ok (.ifCond .ne 7, 3) := by decide +kernel
theorem dX1_isOpenAndClear_22 : decode cX1_isOpenAndClear 22 = .ok (.iconst 1, 1) := by decide +kernel
theorem dX1_isOpenAndClear_23 : decode cX1_isOpenAndClear 23 = .ok (.goto 4, 3) := by decide +kernel
theorem dX1_isOpenAndClear_26 : decode cX1_isOpenAndClear 26 = .ok (.iconst 0, 1) := by decide +kernel
theorem dX1_isOpenAndClear_27 : decode cX1_isOpenAndClear 27 = .ok (.ireturn, 1) := by decide +kernel
theorem dX1_receive_0 : decode cX1_receive 0 = .ok (.aload_n 0, 1) := by decide +kernel
theorem dX1_receive_1 : decode cX1_receive 1 = .ok (.iload_n 1, 1) := by decide +kernel
theorem dX1_receive_2 : decode cX1_receive 2 = .ok (.putfield 21, 3) := by decide +kernel
theorem dX1_receive_5 : decode cX1_receive 5 = .ok (.aload_n 0, 1) := by decide +kernel
theorem dX1_receive_6 : decode cX1_receive 6 = .ok (.iload_n 2, 1) := by decide +kernel
theorem dX1_receive_7 : decode cX1_receive 7 = .ok (.putfield 15, 3) := by decide +kernel
theorem dX1_receive_10 : decode cX1_receive 10 = .ok (.return_, 1) := by decide +kernel
set_option maxRecDepth 20000 in
theorem ggX2_init_X4_init : GoodIn wsX2_init wsX4_init := goodIn_r _ [11, 12, 2, 3, 13, 14, 15, 16, 17, 18] (by decide +kernel) (by decide +kernel)
set_option maxRecDepth 20000 in
theorem gX2_init_X4_init : GoodIn wsX2_init (wsX4_init) := ggX2_init_X4_init
theorem dX2_init_0 : decode cX2_init 0 = .ok (.aload_n 0, 1) := by decide +kernel
theorem dX2_init_1 : decode cX2_init 1 = .ok (.invokespecial 3, 3) := by decide +kernel
theorem dX2_init_4 : decode cX2_init 4 = .ok (.aload_n 0, 1) := by decide +kernel
theorem dX2_init_5 : decode cX2_init 5 = .ok (.new 9, 3) := by decide +kernel
theorem dX2_init_8 : decode cX2_init 8 = .ok (.dup, 1) := by decide +kernel
theorem dX2_init_9 : decode cX2_init 9 = .ok (.invokespecial 11, 3) := by decide +kernel
theorem dX2_init_12 : decode cX2_init 12 = .ok (.putfield 12, 3) := by decide +kernel
theorem dX2_init_15 : decode cX2_init 15 = .ok (.aload_n 0, 1) := by decide +kernel
theorem dX2_init_16 : decode cX2_init 16 = .ok (.iconst (-1), 1) := by decide +kernel
theorem dX2_init_17 : decode cX2_init 17 = .ok (.putfield 18, 3) := by decide +kernel
theorem dX2_init_20 : decode cX2_init 20 = .ok (.return_, 1) := by decide +kernel
theorem dX2_isIdle_0 : decode cX2_isIdle 0 = .ok (.aload_n 0, 1) := by decide +kernel
theorem dX2_isIdle_1 : decode cX2_isIdle 1 = .ok (.getfield 18, 3) := by decide +kernel
theorem dX2_isIdle_4 : decode cX2_isIdle 4 = .ok (.iconst (-1), 1) := by decide +kernel
theorem dX2_isIdle_5 : decode cX2_isIdle 5 = .ok (.if_icmp .ne 7, 3) := by decide +kernel
theorem dX2_isIdle_8 : decode cX2_isIdle 8 = .ok (.iconst 1, 1) := by decide +kernel
theorem dX2_isIdle_9 : decode cX2_isIdle 9 = .ok (.goto 4, 3) := by decide +kernel
theorem dX2_isIdle_12 : decode cX2_isIdle 12 = .ok (.iconst 0, 1) := by decide +kernel
theorem dX2_isIdle_13 : decode cX2_isIdle 13 = .ok (.ireturn, 1) := by decide +kernel
theorem dX3_init_0 : decode cX3_init 0 = .ok (.aload_n 0, 1) := by decide +kernel
theorem dX3_init_1 : decode cX3_init 1 = .ok (.invokespecial 3, 3) := by decide +kernel
theorem dX3_init_4 : decode cX3_init 4 = .ok (.aload_n 0, 1) := by decide +kernel
theorem dX3_init_5 : decode cX3_init 5 = .ok (.bipush 24, 2) := by decide +kernel
theorem dX3_init_7 : decode cX3_init 7 = .ok (.newarray .int, 2) := by decide +kernel
theorem dX3_init_9 : decode cX3_init 9 = .ok (.putfield 9, 3) := by decide +kernel
theorem dX3_init_12 : decode cX3_init 12 = .ok (.aload_n 0, 1) := by decide +kernel
theorem dX3_init_13 : decode cX3_init 13 = .ok (.bipush 24, 2) := by decide +kernel
theorem dX3_init_15 : decode cX3_init 15 = .ok (.newarray .int, 2) := by decide +kernel
theorem dX3_init_17 : decode cX3_init 17 = .ok (.putfield 15, 3) := by decide +kernel
theorem dX3_init_20 : decode cX3_init 20 = .ok (.aload_n 0, 1) := by decide +kernel
theorem dX3_init_21 : decode cX3_init 21 = .ok (.bipush 24, 2) := by decide +kernel
theorem dX3_init_23 : decode cX3_init 23 = .ok (.newarray .int, 2) := by decide +kernel
theorem dX3_init_25 : decode cX3_init 25 = .ok (.putfield 18, 3) := by decide +kernel
theorem dX3_init_28 : decode cX3_init 28 = .ok (.return_, 1) := by decide +kernel
theorem dX3_countFor_0 : decode cX3_countFor 0 = .ok (.iconst 0, 1) := by decide +kernel
theorem dX3_countFor_1 : decode cX3_countFor 1 = .ok (.istore_n 2, 1) := by decide +kernel
theorem dX3_countFor_2 : decode cX3_countFor 2 = .ok (.iconst 0, 1) := by decide +kernel
theorem dX3_countFor_3 : decode cX3_countFor 3 = .ok (.istore_n 3, 1) := by decide +kernel
theorem dX3_countFor_4 : decode cX3_countFor 4 = .ok (.iload_n 3, 1) := by decide +kernel
theorem dX3_countFor_5 : decode cX3_countFor 5 = .ok (.aload_n 0, 1) := by decide +kernel
theorem dX3_countFor_6 : decode cX3_countFor 6 = .ok (.getfield 21, 3) := by decide +kernel
theorem dX3_countFor_9 : decode cX3_countFor 9 = .ok (.if_icmp .ge 22, 3) := by decide +kernel
theorem dX3_countFor_12 : decode cX3_countFor 12 = .ok (.aload_n 0, 1) := by decide +kernel
theorem dX3_countFor_13 : decode cX3_countFor 13 = .ok (.getfield 15, 3) := by decide +kernel
theorem dX3_countFor_16 : decode cX3_countFor 16 = .ok (.iload_n 3, 1) := by decide +kernel
theorem dX3_countFor_17 : decode cX3_countFor 17 = .ok (.iaload, 1) := by decide +kernel
theorem dX3_countFor_18 : decode cX3_countFor 18 = .ok (.iload_n 1, 1) := by decide +kernel
theorem dX3_countFor_19 : decode cX3_countFor 19 = .ok (.if_icmp .ne 6, 3) := by decide +kernel
theorem dX3_countFor_22 : decode cX3_countFor 22 = .ok (.iinc 2 1, 3) := by decide +kernel
theorem dX3_countFor_25 : decode cX3_countFor 25 = .ok (.iinc 3 1, 3) := by decide +kernel
theorem dX3_countFor_28 : decode cX3_countFor 28 = .ok (.goto (-24), 3) := by decide +kernel
theorem dX3_countFor_31 : decode cX3_countFor 31 = .ok (.iload_n 2, 1) := by decide +kernel
theorem dX3_countFor_32 : decode cX3_countFor 32 = .ok (.ireturn, 1) := by decide +kernel
theorem dX3_firstWaitingIsFetch_0 : decode cX3_firstWaitingIsFetch 0 = .ok (.iconst 0, 1) := by decide +kernel
theorem dX3_firstWaitingIsFetch_1 : decode cX3_firstWaitingIsFetch 1 = .ok (.istore_n 3, 1) := by decide +kernel
theorem dX3_firstWaitingIsFetch_2 : decode cX3_firstWaitingIsFetch 2 = .ok (.iload_n 3, 1) := by decide +kernel
theorem dX3_firstWaitingIsFetch_3 : decode cX3_firstWaitingIsFetch 3 = .ok (.aload_n 0, 1) := by decide +kernel
theorem dX3_firstWaitingIsFetch_4 : decode cX3_firstWaitingIsFetch 4 = .ok (.getfield 21, 3) := by decide +kernel
theorem dX3_firstWaitingIsFetch_7 : decode cX3_firstWaitingIsFetch 7 = .ok (.if_icmp .ge 30, 3) := by decide +kernel
theorem dX3_firstWaitingIsFetch_10 : decode cX3_firstWaitingIsFetch 10 = .ok (.iload_n 3, 1) := by decide +kernel
theorem dX3_firstWaitingIsFetch_11 : decode cX3_firstWaitingIsFetch 11 = .ok (.iload_n 2, 1) := by decide +kernel
theorem dX3_firstWaitingIsFetch_12 : decode cX3_firstWaitingIsFetch 12 = .ok (.if_icmp .eq 19, 3) := by decide +kernel
theorem dX3_firstWaitingIsFetch_15 : decode cX3_firstWaitingIsFetch 15 = .ok (.aload_n 0, 1) := by decide +kernel
theorem dX3_firstWaitingIsFetch_16 : decode cX3_firstWaitingIsFetch 16 = .ok (.getfield 15, 3) := by decide +kernel
theorem dX3_firstWaitingIsFetch_19 : decode cX3_firstWaitingIsFetch 19 = .ok (.iload_n 3, 1) := by decide +kernel
theorem dX3_firstWaitingIsFetch_20 : decode cX3_firstWaitingIsFetch 20 = .ok (.iaload, 1) := by decide +kernel
theorem dX3_firstWaitingIsFetch_21 : decode cX3_firstWaitingIsFetch 21 = .ok (.iload_n 1, 1) := by decide +kernel
theorem dX3_firstWaitingIsFetch_22 : decode cX3_firstWaitingIsFetch 22 = .ok (.if_icmp .ne 9, 3) := by decide +kernel
theorem dX3_firstWaitingIsFetch_25 : decode cX3_firstWaitingIsFetch 25 = .ok (.aload_n 0, 1) := by decide +kernel
theorem dX3_firstWaitingIsFetch_26 : decode cX3_firstWaitingIsFetch 26 = .ok (.iload_n 3, 1) := by decide +kernel
theorem dX3_firstWaitingIsFetch_27 : decode cX3_firstWaitingIsFetch 27 = .ok (.invokevirtual 25, 3) := by decide +kernel
theorem dX3_firstWaitingIsFetch_30 : decode cX3_firstWaitingIsFetch 30 = .ok (.ireturn, 1) := by decide +kernel
theorem dX3_firstWaitingIsFetch_31 : decode cX3_firstWaitingIsFetch 31 = .ok (.iinc 3 1, 3) := by decide +kernel
theorem dX3_firstWaitingIsFetch_34 : decode cX3_firstWaitingIsFetch 34 = .ok (.goto (-32), 3) := by decide +kernel
theorem dX3_firstWaitingIsFetch_37 : decode cX3_firstWaitingIsFetch 37 = .ok (.iconst 0, 1) := by decide +kernel
theorem dX3_firstWaitingIsFetch_38 : decode cX3_firstWaitingIsFetch 38 = .ok (.ireturn, 1) := by decide +kernel
theorem dX4_init_0 : decode cX4_init 0 = .ok (.aload_n 0, 1) := by decide +kernel
theorem dX4_init_1 : decode cX4_init 1 = .ok (.invokespecial 3, 3) := by decide +kernel
theorem dX4_init_4 : decode cX4_init 4 = .ok (.aload_n 0, 1) := by decide +kernel
theorem dX4_init_5 : decode cX4_init 5 = .ok (.iconst 2, 1) := by decide +kernel
theorem dX4_init_6 : decode cX4_init 6 = .ok (.newarray .int, 2) := by decide +kernel
theorem dX4_init_8 : decode cX4_init 8 = .ok (.putfield 11, 3) := by decide +kernel
theorem dX4_init_11 : decode cX4_init 11 = .ok (.aload_n 0, 1) := by decide +kernel
theorem dX4_init_12 : decode cX4_init 12 = .ok (.iconst 2, 1) := by decide +kernel
theorem dX4_init_13 : decode cX4_init 13 = .ok (.newarray .int, 2) := by decide +kernel
theorem dX4_init_15 : decode cX4_init 15 = .ok (.putfield 15, 3) := by decide +kernel
theorem dX4_init_18 : decode cX4_init 18 = .ok (.return_, 1) := by decide +kernel
theorem dX5_init_0 : decode cX5_init 0 = .ok (.aload_n 0, 1) := by decide +kernel
theorem dX5_init_1 : decode cX5_init 1 = .ok (.invokespecial 3, 3) := by decide +kernel
theorem dX5_init_4 : decode cX5_init 4 = .ok (.aload_n 0, 1) := by decide +kernel
theorem dX5_init_5 : decode cX5_init 5 = .ok (.bipush 96, 2) := by decide +kernel
theorem dX5_init_7 : decode cX5_init 7 = .ok (.newarray .int, 2) := by decide +kernel
theorem dX5_init_9 : decode cX5_init 9 = .ok (.putfield 9, 3) := by decide +kernel
theorem dX5_init_12 : decode cX5_init 12 = .ok (.aload_n 0, 1) := by decide +kernel
theorem dX5_init_13 : decode cX5_init 13 = .ok (.iconst 4, 1) := by decide +kernel
theorem dX5_init_14 : decode cX5_init 14 = .ok (.newarray .boolean, 2) := by decide +kernel
theorem dX5_init_16 : decode cX5_init 16 = .ok (.putfield 15, 3) := by decide +kernel
theorem dX5_init_19 : decode cX5_init 19 = .ok (.return_, 1) := by decide +kernel
theorem dX5_hasCar_0 : decode cX5_hasCar 0 = .ok (.aload_n 0, 1) := by decide +kernel
theorem dX5_hasCar_1 : decode cX5_hasCar 1 = .ok (.getfield 9, 3) := by decide +kernel
theorem dX5_hasCar_4 : decode cX5_hasCar 4 = .ok (.iload_n 1, 1) := by decide +kernel
theorem dX5_hasCar_5 : decode cX5_hasCar 5 = .ok (.iaload, 1) := by decide +kernel
theorem dX5_hasCar_6 : decode cX5_hasCar 6 = .ok (.ifCond .le 7, 3) := by decide +kernel
theorem dX5_hasCar_9 : decode cX5_hasCar 9 = .ok (.iconst 1, 1) := by decide +kernel
theorem dX5_hasCar_10 : decode cX5_hasCar 10 = .ok (.goto 4, 3) := by decide +kernel
theorem dX5_hasCar_13 : decode cX5_hasCar 13 = .ok (.iconst 0, 1) := by decide +kernel
theorem dX5_hasCar_14 : decode cX5_hasCar 14 = .ok (.ireturn, 1) := by decide +kernel
set_option maxRecDepth 20000 in
theorem ggX5_countCars_X5_hasCar : GoodIn wsX5_countCars wsX5_hasCar := goodIn_r _ [5, 6, 7, 8] (by decide +kernel) (by decide +kernel)
set_option maxRecDepth 20000 in
theorem gX5_countCars_X5_hasCar : GoodIn wsX5_countCars (wsV RX5 23 RX5 yX5_hasCar wsX5_hasCar) := goodIn_app (goodIn_of _ (by decide +kernel)) ggX5_countCars_X5_hasCar
theorem dX5_countCars_0 : decode cX5_countCars 0 = .ok (.iconst 0, 1) := by decide +kernel
theorem dX5_countCars_1 : decode cX5_countCars 1 = .ok (.istore_n 1, 1) := by decide +kernel
theorem dX5_countCars_2 : decode cX5_countCars 2 = .ok (.iconst 0, 1) := by decide +kernel
theorem dX5_countCars_3 : decode cX5_countCars 3 = .ok (.istore_n 2, 1) := by decide +kernel
theorem dX5_countCars_4 : decode cX5_countCars 4 = .ok (.iload_n 2, 1) := by decide +kernel
theorem dX5_countCars_5 : decode cX5_countCars 5 = .ok (.bipush 96, 2) := by decide +kernel
theorem dX5_countCars_7 : decode cX5_countCars 7 = .ok (.if_icmp .ge 20, 3) := by decide +kernel
theorem dX5_countCars_10 : decode cX5_countCars 10 = .ok (.aload_n 0, 1) := by decide +kernel
theorem dX5_countCars_11 : decode cX5_countCars 11 = .ok (.iload_n 2, 1) := by decide +kernel
theorem dX5_countCars_12 : decode cX5_countCars 12 = .ok (.invokevirtual 23, 3) := by decide +kernel
theorem dX5_countCars_15 : decode cX5_countCars 15 = .ok (.ifCond .eq 6, 3) := by decide +kernel
theorem dX5_countCars_18 : decode cX5_countCars 18 = .ok (.iinc 1 1, 3) := by decide +kernel
theorem dX5_countCars_21 : decode cX5_countCars 21 = .ok (.iinc 2 1, 3) := by decide +kernel
theorem dX5_countCars_24 : decode cX5_countCars 24 = .ok (.goto (-20), 3) := by decide +kernel
theorem dX5_countCars_27 : decode cX5_countCars 27 = .ok (.iload_n 1, 1) := by decide +kernel
theorem dX5_countCars_28 : decode cX5_countCars 28 = .ok (.ireturn, 1) := by decide +kernel
theorem dX5_countFree_0 : decode cX5_countFree 0 = .ok (.iconst 0, 1) := by decide +kernel
theorem dX5_countFree_1 : decode cX5_countFree 1 = .ok (.istore_n 2, 1) := by decide +kernel
theorem dX5_countFree_2 : decode cX5_countFree 2 = .ok (.iload_n 1, 1) := by decide +kernel
theorem dX5_countFree_3 : decode cX5_countFree 3 = .ok (.bipush 24, 2) := by decide +kernel
theorem dX5_countFree_5 : decode cX5_countFree 5 = .ok (.imul, 1) := by decide +kernel
theorem dX5_countFree_6 : decode cX5_countFree 6 = .ok (.istore_n 3, 1) := by decide +kernel
theorem dX5_countFree_7 : decode cX5_countFree 7 = .ok (.iload_n 3, 1) := by decide +kernel
theorem dX5_countFree_8 : decode cX5_countFree 8 = .ok (.istore 4, 2) := by decide +kernel
theorem dX5_countFree_10 : decode cX5_countFree 10 = .ok (.iload 4, 2) := by decide +kernel
theorem dX5_countFree_12 : decode cX5_countFree 12 = .ok (.iload_n 3, 1) := by decide +kernel
theorem dX5_countFree_13 : decode cX5_countFree 13 = .ok (.bipush 24, 2) := by decide +kernel
theorem dX5_countFree_15 : decode cX5_countFree 15 = .ok (.iadd, 1) := by decide +kernel
theorem dX5_countFree_16 : decode cX5_countFree 16 = .ok (.if_icmp .ge 22, 3) := by decide +kernel
theorem dX5_countFree_19 : decode cX5_countFree 19 = .ok (.aload_n 0, 1) := by decide +kernel
theorem dX5_countFree_20 : decode cX5_countFree 20 = .ok (.getfield 9, 3) := by decide +kernel
theorem dX5_countFree_23 : decode cX5_countFree 23 = .ok (.iload 4, 2) := by decide +kernel
theorem dX5_countFree_25 : decode cX5_countFree 25 = .ok (.iaload, 1) := by decide +kernel
theorem dX5_countFree_26 : decode cX5_countFree 26 = .ok (.ifCond .ne 6, 3) := by decide +kernel
theorem dX5_countFree_29 : decode cX5_countFree 29 = .ok (.iinc 2 1, 3) := by decide +kernel
theorem dX5_countFree_32 : decode cX5_countFree 32 = .ok (.iinc 4 1, 3) := by decide +kernel
theorem dX5_countFree_35 : decode cX5_countFree 35 = .ok (.goto (-25), 3) := by decide +kernel
theorem dX5_countFree_38 : decode cX5_countFree 38 = .ok (.iload_n 2, 1) := by decide +kernel
theorem dX5_countFree_39 : decode cX5_countFree 39 = .ok (.ireturn, 1) := by decide +kernel
set_option maxRecDepth 20000 in
theorem ggX5_hasRoom_X5_countFree : GoodIn wsX5_hasRoom wsX5_countFree := goodIn_r _ [6, 7, 8, 9] (by decide +kernel) (by decide +kernel)
set_option maxRecDepth 20000 in
theorem gX5_hasRoom_X5_countFree : GoodIn wsX5_hasRoom (wsV RX5 26 RX5 yX5_countFree wsX5_countFree) := goodIn_app (goodIn_of _ (by decide +kernel)) ggX5_hasRoom_X5_countFree
theorem dX5_hasRoom_0 : decode cX5_hasRoom 0 = .ok (.aload_n 0, 1) := by decide +kernel
theorem dX5_hasRoom_1 : decode cX5_hasRoom 1 = .ok (.getfield 15, 3) := by decide +kernel
theorem dX5_hasRoom_4 : decode cX5_hasRoom 4 = .ok (.iload_n 1, 1) := by decide +kernel
theorem dX5_hasRoom_5 : decode cX5_hasRoom 5 = .ok (.baload, 1) := by decide +kernel
theorem dX5_hasRoom_6 : decode cX5_hasRoom 6 = .ok (.ifCond .ne 16, 3) := by decide +kernel
theorem dX5_hasRoom_9 : decode cX5_hasRoom 9 = .ok (.aload_n 0, 1) := by decide +kernel
theorem dX5_hasRoom_10 : decode cX5_hasRoom 10 = .ok (.iload_n 1, 1) := by decide +kernel
theorem dX5_hasRoom_11 : decode cX5_hasRoom 11 = .ok (.invokevirtual 26, 3) := by decide +kernel
theorem dX5_hasRoom_14 : decode cX5_hasRoom 14 = .ok (.iconst 2, 1) := by decide +kernel
theorem dX5_hasRoom_15 : decode cX5_hasRoom 15 = .ok (.if_icmp .lt 7, 3) := by decide +kernel
theorem dX5_hasRoom_18 : decode cX5_hasRoom 18 = .ok (.iconst 1, 1) := by decide +kernel
theorem dX5_hasRoom_19 : decode cX5_hasRoom 19 = .ok (.goto 4, 3) := by decide +kernel
theorem dX5_hasRoom_22 : decode cX5_hasRoom 22 = .ok (.iconst 0, 1) := by decide +kernel
theorem dX5_hasRoom_23 : decode cX5_hasRoom 23 = .ok (.ireturn, 1) := by decide +kernel
set_option maxRecDepth 20000 in
theorem ggX5_firstCellToStore_X5_hasCar : GoodIn wsX5_firstCellToStore wsX5_hasCar := goodIn_r _ [6, 1, 7, 8] (by decide +kernel) (by decide +kernel)
set_option maxRecDepth 20000 in
theorem gX5_firstCellToStore_X5_hasCar : GoodIn wsX5_firstCellToStore (wsV RX5 23 RX5 yX5_hasCar wsX5_hasCar) := goodIn_app (goodIn_of _ (by decide +kernel)) ggX5_firstCellToStore_X5_hasCar
theorem dX5_firstCellToStore_0 : decode cX5_firstCellToStore 0 = .ok (.iconst 0, 1) := by decide +kernel
theorem dX5_firstCellToStore_1 : decode cX5_firstCellToStore 1 = .ok (.istore_n 2, 1) := by decide +kernel
theorem dX5_firstCellToStore_2 : decode cX5_firstCellToStore 2 = .ok (.iload_n 2, 1) := by decide +kernel
theorem dX5_firstCellToStore_3 : decode cX5_firstCellToStore 3 = .ok (.bipush 6, 2) := by decide +kernel
theorem dX5_firstCellToStore_5 : decode cX5_firstCellToStore 5 = .ok (.if_icmp .ge 88, 3) := by decide +kernel
theorem dX5_firstCellToStore_8 : decode cX5_firstCellToStore 8 = .ok (.iconst 0, 1) := by decide +kernel
theorem dX5_firstCellToStore_9 : decode cX5_firstCellToStore 9 = .ok (.istore_n 3, 1) := by decide +kernel
theorem dX5_firstCellToStore_10 : decode cX5_firstCellToStore 10 = .ok (.iload_n 3, 1) := by decide +kernel
theorem dX5_firstCellToStore_11 : decode cX5_firstCellToStore 11 = .ok (.iconst 2, 1) := by decide +kernel
theorem dX5_firstCellToStore_12 : decode cX5_firstCellToStore 12 = .ok (.if_icmp .ge 75, 3) := by decide +kernel
theorem dX5_firstCellToStore_15 : decode cX5_firstCellToStore 15 = .ok (.iload_n 1, 1) := by decide +kernel
theorem dX5_firstCellToStore_16 : decode cX5_firstCellToStore 16 = .ok (.bipush 24, 2) := by decide +kernel
theorem dX5_firstCellToStore_18 : decode cX5_firstCellToStore 18 = .ok (.imul, 1) := by decide +kernel
theorem dX5_firstCellToStore_19 : decode cX5_firstCellToStore 19 = .ok (.iload_n 3, 1) := by decide +kernel
theorem dX5_firstCellToStore_20 : decode cX5_firstCellToStore 20 = .ok (.bipush 12, 2) := by decide +kernel
theorem dX5_firstCellToStore_22 : decode cX5_firstCellToStore 22 = .ok (.imul, 1) := by decide +kernel
theorem dX5_firstCellToStore_23 : decode cX5_firstCellToStore 23 = .ok (.iadd, 1) := by decide +kernel
theorem dX5_firstCellToStore_24 : decode cX5_firstCellToStore 24 = .ok (.iconst 2, 1) := by decide +kernel
theorem dX5_firstCellToStore_25 : decode cX5_firstCellToStore 25 = .ok (.iload_n 2, 1) := by decide +kernel
theorem dX5_firstCellToStore_26 : decode cX5_firstCellToStore 26 = .ok (.imul, 1) := by decide +kernel
theorem dX5_firstCellToStore_27 : decode cX5_firstCellToStore 27 = .ok (.iadd, 1) := by decide +kernel
theorem dX5_firstCellToStore_28 : decode cX5_firstCellToStore 28 = .ok (.istore 4, 2) := by decide +kernel
theorem dX5_firstCellToStore_30 : decode cX5_firstCellToStore 30 = .ok (.iload 4, 2) := by decide +kernel
theorem dX5_firstCellToStore_32 : decode cX5_firstCellToStore 32 = .ok (.iconst 1, 1) := by decide +kernel
theorem dX5_firstCellToStore_33 : decode cX5_firstCellToStore 33 = .ok (.iadd, 1) := by decide +kernel
theorem dX5_firstCellToStore_34 : decode cX5_firstCellToStore 34 = .ok (.istore 5, 2) := by decide +kernel
theorem dX5_firstCellToStore_36 : decode cX5_firstCellToStore 36 = .ok (.aload_n 0, 1) := by decide +kernel
theorem dX5_firstCellToStore_37 : decode cX5_firstCellToStore 37 = .ok (.getfield 9, 3) := by decide +kernel
theorem dX5_firstCellToStore_40 : decode cX5_firstCellToStore 40 = .ok (.iload 4, 2) := by decide +kernel
theorem dX5_firstCellToStore_42 : decode cX5_firstCellToStore 42 = .ok (.iaload, 1) := by decide +kernel
theorem dX5_firstCellToStore_43 : decode cX5_firstCellToStore 43 = .ok (.ifCond .ne 16, 3) := by decide +kernel
theorem dX5_firstCellToStore_46 : decode cX5_firstCellToStore 46 = .ok (.aload_n 0, 1) := by decide +kernel
theorem dX5_firstCellToStore_47 : decode cX5_firstCellToStore 47 = .ok (.getfield 9, 3) := by decide +kernel
theorem dX5_firstCellToStore_50 : decode cX5_firstCellToStore 50 = .ok (.iload 5, 2) := by decide +kernel
theorem dX5_firstCellToStore_52 : decode cX5_firstCellToStore 52 = .ok (.iaload, 1) := by decide +kernel
theorem dX5_firstCellToStore_53 : decode cX5_firstCellToStore 53 = .ok (.ifCond .ne 6, 3) := by decide +kernel
theorem dX5_firstCellToStore_56 : decode cX5_firstCellToStore 56 = .ok (.iload 5, 2) := by decide +kernel
theorem dX5_firstCellToStore_58 : decode cX5_firstCellToStore 58 = .ok (.ireturn, 1) := by decide +kernel
theorem dX5_firstCellToStore_59 : decode cX5_firstCellToStore 59 = .ok (.aload_n 0, 1) := by decide +kernel
theorem dX5_firstCellToStore_60 : decode cX5_firstCellToStore 60 = .ok (.getfield 9, 3) := by decide +kernel
theorem dX5_firstCellToStore_63 : decode cX5_firstCellToStore 63 = .ok (.iload 4, 2) := by decide +kernel
theorem dX5_firstCellToStore_65 : decode cX5_firstCellToStore 65 = .ok (.iaload, 1) := by decide +kernel
theorem dX5_firstCellToStore_66 : decode cX5_firstCellToStore 66 = .ok (.ifCond .ne 15, 3) := by decide +kernel
theorem dX5_firstCellToStore_69 : decode cX5_firstCellToStore 69 = .ok (.aload_n 0, 1) := by decide +kernel
theorem dX5_firstCellToStore_70 : decode cX5_firstCellToStore 70 = .ok (.iload 5, 2) := by decide +kernel
theorem dX5_firstCellToStore_72 : decode cX5_firstCellToStore 72 = .ok (.invokevirtual 23, 3) := by decide +kernel
theorem dX5_firstCellToStore_75 : decode cX5_firstCellToStore 75 = .ok (.ifCond .eq 6, 3) := by decide +kernel
theorem dX5_firstCellToStore_78 : decode cX5_firstCellToStore 78 = .ok (.iload 4, 2) := by decide +kernel
theorem dX5_firstCellToStore_80 : decode cX5_firstCellToStore 80 = .ok (.ireturn, 1) := by decide +kernel
theorem dX5_firstCellToStore_81 : decode cX5_firstCellToStore 81 = .ok (.iinc 3 1, 3) := by decide +kernel
theorem dX5_firstCellToStore_84 : decode cX5_firstCellToStore 84 = .ok (.goto (-74), 3) := by decide +kernel
theorem dX5_firstCellToStore_87 : decode cX5_firstCellToStore 87 = .ok (.iinc 2 1, 3) := by decide +kernel
theorem dX5_firstCellToStore_90 : decode cX5_firstCellToStore 90 = .ok (.goto (-88), 3) := by decide +kernel
theorem dX5_firstCellToStore_93 : decode cX5_firstCellToStore 93 = .ok (.iconst (-1), 1) := by decide +kernel
theorem dX5_firstCellToStore_94 : decode cX5_firstCellToStore 94 = .ok (.ireturn, 1) := by decide +kernel
set_option maxRecDepth 20000 in
theorem ggX5_keep_X7_isFront : GoodIn wsX5_keep wsX7_isFront := goodIn_r _ [4] (by decide +kernel) (by decide +kernel)
set_option maxRecDepth 20000 in
theorem gX5_keep_X7_isFront_n19 : GoodIn wsX5_keep (wsX7_isFront) := ggX5_keep_X7_isFront
theorem dX5_keep_0 : decode cX5_keep 0 = .ok (.aload_n 0, 1) := by decide +kernel
theorem dX5_keep_1 : decode cX5_keep 1 = .ok (.getfield 9, 3) := by decide +kernel
theorem dX5_keep_4 : decode cX5_keep 4 = .ok (.iload_n 1, 1) := by decide +kernel
theorem dX5_keep_5 : decode cX5_keep 5 = .ok (.iconst (-1), 1) := by decide +kernel
theorem dX5_keep_6 : decode cX5_keep 6 = .ok (.iastore, 1) := by decide +kernel
theorem dX5_keep_7 : decode cX5_keep 7 = .ok (.iload_n 1, 1) := by decide +kernel
theorem dX5_keep_8 : decode cX5_keep 8 = .ok (.invokestatic 19, 3) := by decide +kernel
theorem dX5_keep_11 : decode cX5_keep 11 = .ok (.ifCond .ne 12, 3) := by decide +kernel
theorem dX5_keep_14 : decode cX5_keep 14 = .ok (.aload_n 0, 1) := by decide +kernel
theorem dX5_keep_15 : decode cX5_keep 15 = .ok (.getfield 9, 3) := by decide +kernel
theorem dX5_keep_18 : decode cX5_keep 18 = .ok (.iload_n 1, 1) := by decide +kernel
theorem dX5_keep_19 : decode cX5_keep 19 = .ok (.iconst 1, 1) := by decide +kernel
theorem dX5_keep_20 : decode cX5_keep 20 = .ok (.isub, 1) := by decide +kernel
theorem dX5_keep_21 : decode cX5_keep 21 = .ok (.iconst (-1), 1) := by decide +kernel
theorem dX5_keep_22 : decode cX5_keep 22 = .ok (.iastore, 1) := by decide +kernel
theorem dX5_keep_23 : decode cX5_keep 23 = .ok (.return_, 1) := by decide +kernel
