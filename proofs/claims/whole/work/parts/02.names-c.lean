theorem dX0_init_0 : decode cX0_init 0 = .ok (.aload_n 0, 1) := by decide +kernel
theorem dX0_init_1 : decode cX0_init 1 = .ok (.invokespecial 3, 3) := by decide +kernel
theorem dX0_init_4 : decode cX0_init 4 = .ok (.aload_n 0, 1) := by decide +kernel
theorem dX0_init_5 : decode cX0_init 5 = .ok (.bipush 16, 2) := by decide +kernel
theorem dX0_init_7 : decode cX0_init 7 = .ok (.anewarray 9, 3) := by decide +kernel
theorem dX0_init_10 : decode cX0_init 10 = .ok (.putfield 11, 3) := by decide +kernel
theorem dX0_init_13 : decode cX0_init 13 = .ok (.return_, 1) := by decide +kernel
theorem dX0_placeOf_0 : decode cX0_placeOf 0 = .ok (.iconst 0, 1) := by decide +kernel
theorem dX0_placeOf_1 : decode cX0_placeOf 1 = .ok (.istore_n 2, 1) := by decide +kernel
theorem dX0_placeOf_2 : decode cX0_placeOf 2 = .ok (.iload_n 2, 1) := by decide +kernel
theorem dX0_placeOf_3 : decode cX0_placeOf 3 = .ok (.aload_n 0, 1) := by decide +kernel
theorem dX0_placeOf_4 : decode cX0_placeOf 4 = .ok (.getfield 17, 3) := by decide +kernel
theorem dX0_placeOf_7 : decode cX0_placeOf 7 = .ok (.if_icmp .ge 41, 3) := by decide +kernel
theorem dX0_placeOf_10 : decode cX0_placeOf 10 = .ok (.aload_n 0, 1) := by decide +kernel
theorem dX0_placeOf_11 : decode cX0_placeOf 11 = .ok (.getfield 11, 3) := by decide +kernel
theorem dX0_placeOf_14 : decode cX0_placeOf 14 = .ok (.iload_n 2, 1) := by decide +kernel
theorem dX0_placeOf_15 : decode cX0_placeOf 15 = .ok (.aaload, 1) := by decide +kernel
theorem dX0_placeOf_16 : decode cX0_placeOf 16 = .ok (.getfield 21, 3) := by decide +kernel
theorem dX0_placeOf_19 : decode cX0_placeOf 19 = .ok (.ifCond .ne 23, 3) := by decide +kernel
theorem dX0_placeOf_22 : decode cX0_placeOf 22 = .ok (.aload_n 0, 1) := by decide +kernel
theorem dX0_placeOf_23 : decode cX0_placeOf 23 = .ok (.getfield 11, 3) := by decide +kernel
theorem dX0_placeOf_26 : decode cX0_placeOf 26 = .ok (.iload_n 2, 1) := by decide +kernel
theorem dX0_placeOf_27 : decode cX0_placeOf 27 = .ok (.aaload, 1) := by decide +kernel
theorem dX0_placeOf_28 : decode cX0_placeOf 28 = .ok (.getfield 24, 3) := by decide +kernel
theorem dX0_placeOf_31 : decode cX0_placeOf 31 = .ok (.iload_n 1, 1) := by decide +kernel
theorem dX0_placeOf_32 : decode cX0_placeOf 32 = .ok (.if_icmp .ne 10, 3) := by decide +kernel
theorem dX0_placeOf_35 : decode cX0_placeOf 35 = .ok (.aload_n 0, 1) := by decide +kernel
theorem dX0_placeOf_36 : decode cX0_placeOf 36 = .ok (.getfield 11, 3) := by decide +kernel
theorem dX0_placeOf_39 : decode cX0_placeOf 39 = .ok (.iload_n 2, 1) := by decide +kernel
theorem dX0_placeOf_40 : decode cX0_placeOf 40 = .ok (.aaload, 1) := by decide +kernel
theorem dX0_placeOf_41 : decode cX0_placeOf 41 = .ok (.areturn, 1) := by decide +kernel
theorem dX0_placeOf_42 : decode cX0_placeOf 42 = .ok (.iinc 2 1, 3) := by decide +kernel
theorem dX0_placeOf_45 : decode cX0_placeOf 45 = .ok (.goto (-43), 3) := by decide +kernel
theorem dX0_placeOf_48 : decode cX0_placeOf 48 = .ok (.aconst_null, 1) := by decide +kernel
theorem dX0_placeOf_49 : decode cX0_placeOf 49 = .ok (.areturn, 1) := by decide +kernel
theorem dX0_hasAnyResult_0 : decode cX0_hasAnyResult 0 = .ok (.iconst 0, 1) := by decide +kernel
theorem dX0_hasAnyResult_1 : decode cX0_hasAnyResult 1 = .ok (.istore_n 1, 1) := by decide +kernel
theorem dX0_hasAnyResult_2 : decode cX0_hasAnyResult 2 = .ok (.iload_n 1, 1) := by decide +kernel
theorem dX0_hasAnyResult_3 : decode cX0_hasAnyResult 3 = .ok (.aload_n 0, 1) := by decide +kernel
theorem dX0_hasAnyResult_4 : decode cX0_hasAnyResult 4 = .ok (.getfield 17, 3) := by decide +kernel
theorem dX0_hasAnyResult_7 : decode cX0_hasAnyResult 7 = .ok (.if_icmp .ge 23, 3) := by decide +kernel
theorem dX0_hasAnyResult_10 : decode cX0_hasAnyResult 10 = .ok (.aload_n 0, 1) := by decide +kernel
theorem dX0_hasAnyResult_11 : decode cX0_hasAnyResult 11 = .ok (.getfield 11, 3) := by decide +kernel
theorem dX0_hasAnyResult_14 : decode cX0_hasAnyResult 14 = .ok (.iload_n 1, 1) := by decide +kernel
theorem dX0_hasAnyResult_15 : decode cX0_hasAnyResult 15 = .ok (.aaload, 1) := by decide +kernel
theorem dX0_hasAnyResult_16 : decode cX0_hasAnyResult 16 = .ok (.getfield 27, 3) := by decide +kernel
theorem dX0_hasAnyResult_19 : decode cX0_hasAnyResult 19 = .ok (.ifCond .eq 5, 3) := by decide +kernel
theorem dX0_hasAnyResult_22 : decode cX0_hasAnyResult 22 = .ok (.iconst 1, 1) := by decide +kernel
theorem dX0_hasAnyResult_23 : decode cX0_hasAnyResult 23 = .ok (.ireturn, 1) := by decide +kernel
theorem dX0_hasAnyResult_24 : decode cX0_hasAnyResult 24 = .ok (.iinc 1 1, 3) := by decide +kernel
theorem dX0_hasAnyResult_27 : decode cX0_hasAnyResult 27 = .ok (.goto (-25), 3) := by decide +kernel
theorem dX0_hasAnyResult_30 : decode cX0_hasAnyResult 30 = .ok (.iconst 0, 1) := by decide +kernel
theorem dX0_hasAnyResult_31 : decode cX0_hasAnyResult 31 = .ok (.ireturn, 1) := by decide +kernel
theorem dX0_isComplete_0 : decode cX0_isComplete 0 = .ok (.iconst 0, 1) := by decide +kernel
theorem dX0_isComplete_1 : decode cX0_isComplete 1 = .ok (.istore_n 1, 1) := by decide +kernel
theorem dX0_isComplete_2 : decode cX0_isComplete 2 = .ok (.iload_n 1, 1) := by decide +kernel
theorem dX0_isComplete_3 : decode cX0_isComplete 3 = .ok (.aload_n 0, 1) := by decide +kernel
theorem dX0_isComplete_4 : decode cX0_isComplete 4 = .ok (.getfield 17, 3) := by decide +kernel
theorem dX0_isComplete_7 : decode cX0_isComplete 7 = .ok (.if_icmp .ge 23, 3) := by decide +kernel
theorem dX0_isComplete_10 : decode cX0_isComplete 10 = .ok (.aload_n 0, 1) := by decide +kernel
theorem dX0_isComplete_11 : decode cX0_isComplete 11 = .ok (.getfield 11, 3) := by decide +kernel
theorem dX0_isComplete_14 : decode cX0_isComplete 14 = .ok (.iload_n 1, 1) := by decide +kernel
theorem dX0_isComplete_15 : decode cX0_isComplete 15 = .ok (.aaload, 1) := by decide +kernel
theorem dX0_isComplete_16 : decode cX0_isComplete 16 = .ok (.getfield 27, 3) := by decide +kernel
theorem dX0_isComplete_19 : decode cX0_isComplete 19 = .ok (.ifCond .ne 5, 3) := by decide +kernel
theorem dX0_isComplete_22 : decode cX0_isComplete 22 = .ok (.iconst 0, 1) := by decide +kernel
theorem dX0_isComplete_23 : decode cX0_isComplete 23 = .ok (.ireturn, 1) := by decide +kernel
theorem dX0_isComplete_24 : decode cX0_isComplete 24 = .ok (.iinc 1 1, 3) := by decide +kernel
theorem dX0_isComplete_27 : decode cX0_isComplete 27 = .ok (.goto (-25), 3) := by decide +kernel
theorem dX0_isComplete_30 : decode cX0_isComplete 30 = .ok (.aload_n 0, 1) := by decide +kernel
theorem dX0_isComplete_31 : decode cX0_isComplete 31 = .ok (.getfield 17, 3) := by decide +kernel
theorem dX0_isComplete_34 : decode cX0_isComplete 34 = .ok (.ifCond .le 7, 3) := by decide +kernel
theorem dX0_isComplete_37 : decode cX0_isComplete 37 = .ok (.iconst 1, 1) := by decide +kernel
theorem dX0_isComplete_38 : decode cX0_isComplete 38 = .ok (.goto 4, 3) := by decide +kernel
theorem dX0_isComplete_41 : decode cX0_isComplete 41 = .ok (.iconst 0, 1) := by decide +kernel
theorem dX0_isComplete_42 : decode cX0_isComplete 42 = .ok (.ireturn, 1) := by decide +kernel
set_option maxRecDepth 20000 in
theorem ggX0_isSound_X0_isComplete : GoodIn wsX0_isSound wsX0_isComplete := goodIn_r _ [5, 6, 7, 8, 41, 42, 43, 44, 45, 46, 47] (by decide +kernel) (by decide +kernel)
set_option maxRecDepth 20000 in
theorem gX0_isSound_X0_isComplete : GoodIn wsX0_isSound (wsV RX0 31 RX0 yX0_isComplete wsX0_isComplete) := goodIn_app (goodIn_of _ (by decide +kernel)) ggX0_isSound_X0_isComplete
set_option maxRecDepth 20000 in
theorem ggX0_isSound_X0_firstFault : GoodIn wsX0_isSound wsX0_firstFault := goodIn_r _ [12, 6, 7, 13, 14, 15, 4, 16, 17, 18, 19, 20, 21, 22, 23, 24, 25, 26, 27, 28, 29, 30, 31, 32, 33, 34, 35, 36, 37, 38, 39, 40, 41, 42, 43, 44, 45, 46, 47] (by decide +kernel) (by decide +kernel)
set_option maxRecDepth 20000 in
theorem gX0_isSound_X0_firstFault : GoodIn wsX0_isSound (wsV RX0 35 RX0 yX0_firstFault wsX0_firstFault) := goodIn_app (goodIn_of _ (by decide +kernel)) ggX0_isSound_X0_firstFault
theorem dX0_isSound_0 : decode cX0_isSound 0 = .ok (.aload_n 0, 1) := by decide +kernel
theorem dX0_isSound_1 : decode cX0_isSound 1 = .ok (.invokevirtual 31, 3) := by decide +kernel
theorem dX0_isSound_4 : decode cX0_isSound 4 = .ok (.ifCond .eq 17, 3) := by decide +kernel
theorem dX0_isSound_7 : decode cX0_isSound 7 = .ok (.aload_n 0, 1) := by decide +kernel
theorem dX0_isSound_8 : decode cX0_isSound 8 = .ok (.iload_n 1, 1) := by decide +kernel
theorem dX0_isSound_9 : decode cX0_isSound 9 = .ok (.iload_n 2, 1) := by decide +kernel
theorem dX0_isSound_10 : decode cX0_isSound 10 = .ok (.invokevirtual 35, 3) := by decide +kernel
theorem dX0_isSound_13 : decode cX0_isSound 13 = .ok (.iconst (-1), 1) := by decide +kernel
theorem dX0_isSound_14 : decode cX0_isSound 14 = .ok (.if_icmp .ne 7, 3) := by decide +kernel
theorem dX0_isSound_17 : decode cX0_isSound 17 = .ok (.iconst 1, 1) := by decide +kernel
theorem dX0_isSound_18 : decode cX0_isSound 18 = .ok (.goto 4, 3) := by decide +kernel
theorem dX0_isSound_21 : decode cX0_isSound 21 = .ok (.iconst 0, 1) := by decide +kernel
theorem dX0_isSound_22 : decode cX0_isSound 22 = .ok (.ireturn, 1) := by decide +kernel
set_option maxRecDepth 20000 in
theorem ggX0_firstFault_X0_isRight : GoodIn wsX0_firstFault wsX0_isRight := goodIn_r _ [7, 8, 9, 10, 11, 12, 13, 14, 2, 15, 16, 17, 18, 19, 20, 21, 22, 23, 24, 25, 26, 27, 28, 29, 6, 30, 31, 34, 35, 36, 37, 38, 32, 33] (by decide +kernel) (by decide +kernel)
set_option maxRecDepth 20000 in
theorem gX0_firstFault_X0_isRight : GoodIn wsX0_firstFault (wsV RX0 39 RX0 yX0_isRight wsX0_isRight) := goodIn_app (goodIn_of _ (by decide +kernel)) ggX0_firstFault_X0_isRight
theorem dX0_firstFault_0 : decode cX0_firstFault 0 = .ok (.iconst 0, 1) := by decide +kernel
theorem dX0_firstFault_1 : decode cX0_firstFault 1 = .ok (.istore_n 3, 1) := by decide +kernel
theorem dX0_firstFault_2 : decode cX0_firstFault 2 = .ok (.iload_n 3, 1) := by decide +kernel
theorem dX0_firstFault_3 : decode cX0_firstFault 3 = .ok (.aload_n 0, 1) := by decide +kernel
theorem dX0_firstFault_4 : decode cX0_firstFault 4 = .ok (.getfield 17, 3) := by decide +kernel
theorem dX0_firstFault_7 : decode cX0_firstFault 7 = .ok (.if_icmp .ge 26, 3) := by decide +kernel
theorem dX0_firstFault_10 : decode cX0_firstFault 10 = .ok (.aload_n 0, 1) := by decide +kernel
theorem dX0_firstFault_11 : decode cX0_firstFault 11 = .ok (.aload_n 0, 1) := by decide +kernel
theorem dX0_firstFault_12 : decode cX0_firstFault 12 = .ok (.getfield 11, 3) := by decide +kernel
theorem dX0_firstFault_15 : decode cX0_firstFault 15 = .ok (.iload_n 3, 1) := by decide +kernel
theorem dX0_firstFault_16 : decode cX0_firstFault 16 = .ok (.aaload, 1) := by decide +kernel
theorem dX0_firstFault_17 : decode cX0_firstFault 17 = .ok (.iload_n 1, 1) := by decide +kernel
theorem dX0_firstFault_18 : decode cX0_firstFault 18 = .ok (.iload_n 2, 1) := by decide +kernel
theorem dX0_firstFault_19 : decode cX0_firstFault 19 = .ok (.invokevirtual 39, 3) := by decide +kernel
theorem dX0_firstFault_22 : decode cX0_firstFault 22 = .ok (.ifCond .ne 5, 3) := by decide +kernel
theorem dX0_firstFault_25 : decode cX0_firstFault 25 = .ok (.iload_n 3, 1) := by decide +kernel
theorem dX0_firstFault_26 : decode cX0_firstFault 26 = .ok (.ireturn, 1) := by decide +kernel
theorem dX0_firstFault_27 : decode cX0_firstFault 27 = .ok (.iinc 3 1, 3) := by decide +kernel
theorem dX0_firstFault_30 : decode cX0_firstFault 30 = .ok (.goto (-28), 3) := by decide +kernel
theorem dX0_firstFault_33 : decode cX0_firstFault 33 = .ok (.iconst (-1), 1) := by decide +kernel
theorem dX0_firstFault_34 : decode cX0_firstFault 34 = .ok (.ireturn, 1) := by decide +kernel
set_option maxRecDepth 20000 in
theorem ggX0_isRight_X5_lower : GoodIn wsX0_isRight wsX5_lower := goodIn_r _ [13, 14, 15, 16, 5, 17, 27, 28, 29, 30, 31] (by decide +kernel) (by decide +kernel)
set_option maxRecDepth 20000 in
theorem gX0_isRight_X5_lower : GoodIn wsX0_isRight (wsV RX0 43 RX5 yX5_lower wsX5_lower) := goodIn_app (goodIn_of _ (by decide +kernel)) ggX0_isRight_X5_lower
set_option maxRecDepth 20000 in
theorem ggX0_isRight_X5_upper : GoodIn wsX0_isRight wsX5_upper := goodIn_r _ [21, 14, 27, 28, 29, 30, 31] (by decide +kernel) (by decide +kernel)
set_option maxRecDepth 20000 in
theorem gX0_isRight_X5_upper : GoodIn wsX0_isRight (wsV RX0 56 RX5 yX5_upper wsX5_upper) := goodIn_app (goodIn_of _ (by decide +kernel)) ggX0_isRight_X5_upper
set_option maxRecDepth 20000 in
theorem ggX0_isRight_X0_isNear : GoodIn wsX0_isRight wsX0_isNear := goodIn_r _ [25, 3, 4, 5, 6, 26, 16, 17] (by decide +kernel) (by decide +kernel)
set_option maxRecDepth 20000 in
theorem gX0_isRight_X0_isNear : GoodIn wsX0_isRight (va_wsS RX0 59 yX0_isNear wsX0_isNear) := goodIn_app (goodIn_of _ (by decide +kernel)) ggX0_isRight_X0_isNear
theorem dX0_isRight_0 : decode cX0_isRight 0 = .ok (.aload_n 1, 1) := by decide +kernel
theorem dX0_isRight_1 : decode cX0_isRight 1 = .ok (.getfield 21, 3) := by decide +kernel
theorem dX0_isRight_4 : decode cX0_isRight 4 = .ok (.tableswitch 107 1 3 #[28, 72, 86], 28) := by decide +kernel
theorem dX0_isRight_32 : decode cX0_isRight 32 = .ok (.aload_n 1, 1) := by decide +kernel
theorem dX0_isRight_33 : decode cX0_isRight 33 = .ok (.invokevirtual 43, 3) := by decide +kernel
theorem dX0_isRight_36 : decode cX0_isRight 36 = .ok (.aload_n 1, 1) := by decide +kernel
theorem dX0_isRight_37 : decode cX0_isRight 37 = .ok (.getfield 24, 3) := by decide +kernel
theorem dX0_isRight_40 : decode cX0_isRight 40 = .ok (.isub, 1) := by decide +kernel
theorem dX0_isRight_41 : decode cX0_isRight 41 = .ok (.invokestatic 47, 3) := by decide +kernel
theorem dX0_isRight_44 : decode cX0_isRight 44 = .ok (.aload_n 1, 1) := by decide +kernel
theorem dX0_isRight_45 : decode cX0_isRight 45 = .ok (.getfield 53, 3) := by decide +kernel
theorem dX0_isRight_48 : decode cX0_isRight 48 = .ok (.if_icmp .gt 26, 3) := by decide +kernel
theorem dX0_isRight_51 : decode cX0_isRight 51 = .ok (.aload_n 1, 1) := by decide +kernel
theorem dX0_isRight_52 : decode cX0_isRight 52 = .ok (.invokevirtual 56, 3) := by decide +kernel
theorem dX0_isRight_55 : decode cX0_isRight 55 = .ok (.aload_n 1, 1) := by decide +kernel
theorem dX0_isRight_56 : decode cX0_isRight 56 = .ok (.getfield 24, 3) := by decide +kernel
theorem dX0_isRight_59 : decode cX0_isRight 59 = .ok (.isub, 1) := by decide +kernel
theorem dX0_isRight_60 : decode cX0_isRight 60 = .ok (.invokestatic 47, 3) := by decide +kernel
theorem dX0_isRight_63 : decode cX0_isRight 63 = .ok (.aload_n 1, 1) := by decide +kernel
theorem dX0_isRight_64 : decode cX0_isRight 64 = .ok (.getfield 53, 3) := by decide +kernel
theorem dX0_isRight_67 : decode cX0_isRight 67 = .ok (.if_icmp .gt 7, 3) := by decide +kernel
theorem dX0_isRight_70 : decode cX0_isRight 70 = .ok (.iconst 1, 1) := by decide +kernel
theorem dX0_isRight_71 : decode cX0_isRight 71 = .ok (.goto 4, 3) := by decide +kernel
theorem dX0_isRight_74 : decode cX0_isRight 74 = .ok (.iconst 0, 1) := by decide +kernel
theorem dX0_isRight_75 : decode cX0_isRight 75 = .ok (.ireturn, 1) := by decide +kernel
theorem dX0_isRight_76 : decode cX0_isRight 76 = .ok (.aload_n 1, 1) := by decide +kernel
theorem dX0_isRight_77 : decode cX0_isRight 77 = .ok (.invokevirtual 56, 3) := by decide +kernel
theorem dX0_isRight_80 : decode cX0_isRight 80 = .ok (.iload_n 2, 1) := by decide +kernel
theorem dX0_isRight_81 : decode cX0_isRight 81 = .ok (.if_icmp .gt 7, 3) := by decide +kernel
theorem dX0_isRight_84 : decode cX0_isRight 84 = .ok (.iconst 1, 1) := by decide +kernel
theorem dX0_isRight_85 : decode cX0_isRight 85 = .ok (.goto 4, 3) := by decide +kernel
theorem dX0_isRight_88 : decode cX0_isRight 88 = .ok (.iconst 0, 1) := by decide +kernel
theorem dX0_isRight_89 : decode cX0_isRight 89 = .ok (.ireturn, 1) := by decide +kernel
theorem dX0_isRight_90 : decode cX0_isRight 90 = .ok (.aload_n 1, 1) := by decide +kernel
theorem dX0_isRight_91 : decode cX0_isRight 91 = .ok (.invokevirtual 56, 3) := by decide +kernel
theorem dX0_isRight_94 : decode cX0_isRight 94 = .ok (.aload_n 0, 1) := by decide +kernel
theorem dX0_isRight_95 : decode cX0_isRight 95 = .ok (.getfield 11, 3) := by decide +kernel
theorem dX0_isRight_98 : decode cX0_isRight 98 = .ok (.aload_n 1, 1) := by decide +kernel
theorem dX0_isRight_99 : decode cX0_isRight 99 = .ok (.getfield 24, 3) := by decide +kernel
theorem dX0_isRight_102 : decode cX0_isRight 102 = .ok (.aaload, 1) := by decide +kernel
theorem dX0_isRight_103 : decode cX0_isRight 103 = .ok (.invokevirtual 56, 3) := by decide +kernel
theorem dX0_isRight_106 : decode cX0_isRight 106 = .ok (.iload_n 3, 1) := by decide +kernel
theorem dX0_isRight_107 : decode cX0_isRight 107 = .ok (.invokestatic 59, 3) := by decide +kernel
theorem dX0_isRight_110 : decode cX0_isRight 110 = .ok (.ireturn, 1) := by decide +kernel
theorem dX0_isRight_111 : decode cX0_isRight 111 = .ok (.iconst 1, 1) := by decide +kernel
theorem dX0_isRight_112 : decode cX0_isRight 112 = .ok (.ireturn, 1) := by decide +kernel
theorem dX0_isNear_0 : decode cX0_isNear 0 = .ok (.iload_n 0, 1) := by decide +kernel
theorem dX0_isNear_1 : decode cX0_isNear 1 = .ok (.iload_n 1, 1) := by decide +kernel
theorem dX0_isNear_2 : decode cX0_isNear 2 = .ok (.isub, 1) := by decide +kernel
theorem dX0_isNear_3 : decode cX0_isNear 3 = .ok (.invokestatic 47, 3) := by decide +kernel
theorem dX0_isNear_6 : decode cX0_isNear 6 = .ok (.sipush 1000, 3) := by decide +kernel
theorem dX0_isNear_9 : decode cX0_isNear 9 = .ok (.imul, 1) := by decide +kernel
theorem dX0_isNear_10 : decode cX0_isNear 10 = .ok (.iload_n 2, 1) := by decide +kernel
theorem dX0_isNear_11 : decode cX0_isNear 11 = .ok (.iload_n 0, 1) := by decide +kernel
theorem dX0_isNear_12 : decode cX0_isNear 12 = .ok (.iload_n 1, 1) := by decide +kernel
theorem dX0_isNear_13 : decode cX0_isNear 13 = .ok (.invokestatic 63, 3) := by decide +kernel
theorem dX0_isNear_16 : decode cX0_isNear 16 = .ok (.imul, 1) := by decide +kernel
theorem dX0_isNear_17 : decode cX0_isNear 17 = .ok (.if_icmp .gt 7, 3) := by decide +kernel
theorem dX0_isNear_20 : decode cX0_isNear 20 = .ok (.iconst 1, 1) := by decide +kernel
theorem dX0_isNear_21 : decode cX0_isNear 21 = .ok (.goto 4, 3) := by decide +kernel
theorem dX0_isNear_24 : decode cX0_isNear 24 = .ok (.iconst 0, 1) := by decide +kernel
theorem dX0_isNear_25 : decode cX0_isNear 25 = .ok (.ireturn, 1) := by decide +kernel
set_option maxRecDepth 20000 in
theorem ggX0_leastMendingSwap_X5_exchangeResult : GoodIn wsX0_leastMendingSwap wsX5_exchangeResult := goodIn_r _ [7, 8, 51, 52, 53, 54, 55] (by decide +kernel) (by decide +kernel)
set_option maxRecDepth 20000 in
theorem gX0_leastMendingSwap_X5_exchangeResult : GoodIn wsX0_leastMendingSwap (wsV RX0 66 RX5 yX5_exchangeResult wsX5_exchangeResult) := goodIn_app (goodIn_of _ (by decide +kernel)) ggX0_leastMendingSwap_X5_exchangeResult
set_option maxRecDepth 20000 in
theorem ggX0_leastMendingSwap_X0_isSound : GoodIn wsX0_leastMendingSwap wsX0_isSound := goodIn_r _ [13, 14, 15, 16, 12, 17, 1, 2, 18, 19, 20, 21, 22, 23, 24, 25, 26, 27, 28, 29, 30, 31, 32, 33, 34, 35, 36, 6, 37, 8, 38, 39, 40, 41, 42, 43, 44, 45, 46, 47, 48, 49, 50, 51, 52, 53, 54, 55] (by decide +kernel) (by decide +kernel)
set_option maxRecDepth 20000 in
theorem gX0_leastMendingSwap_X0_isSound : GoodIn wsX0_leastMendingSwap (wsV RX0 70 RX0 yX0_isSound wsX0_isSound) := goodIn_app (goodIn_of _ (by decide +kernel)) ggX0_leastMendingSwap_X0_isSound
theorem dX0_leastMendingSwap_0 : decode cX0_leastMendingSwap 0 = .ok (.iconst 0, 1) := by decide +kernel
theorem dX0_leastMendingSwap_1 : decode cX0_leastMendingSwap 1 = .ok (.istore_n 3, 1) := by decide +kernel
theorem dX0_leastMendingSwap_2 : decode cX0_leastMendingSwap 2 = .ok (.iload_n 3, 1) := by decide +kernel
theorem dX0_leastMendingSwap_3 : decode cX0_leastMendingSwap 3 = .ok (.iconst 1, 1) := by decide +kernel
theorem dX0_leastMendingSwap_4 : decode cX0_leastMendingSwap 4 = .ok (.iadd, 1) := by decide +kernel
theorem dX0_leastMendingSwap_5 : decode cX0_leastMendingSwap 5 = .ok (.aload_n 0, 1) := by decide +kernel
theorem dX0_leastMendingSwap_6 : decode cX0_leastMendingSwap 6 = .ok (.getfield 17, 3) := by decide +kernel
theorem dX0_leastMendingSwap_9 : decode cX0_leastMendingSwap 9 = .ok (.if_icmp .ge 58, 3) := by decide +kernel
theorem dX0_leastMendingSwap_12 : decode cX0_leastMendingSwap 12 = .ok (.aload_n 0, 1) := by decide +kernel
theorem dX0_leastMendingSwap_13 : decode cX0_leastMendingSwap 13 = .ok (.getfield 11, 3) := by decide +kernel
theorem dX0_leastMendingSwap_16 : decode cX0_leastMendingSwap 16 = .ok (.iload_n 3, 1) := by decide +kernel
theorem dX0_leastMendingSwap_17 : decode cX0_leastMendingSwap 17 = .ok (.aaload, 1) := by decide +kernel
theorem dX0_leastMendingSwap_18 : decode cX0_leastMendingSwap 18 = .ok (.aload_n 0, 1) := by decide +kernel
theorem dX0_leastMendingSwap_19 : decode cX0_leastMendingSwap 19 = .ok (.getfield 11, 3) := by decide +kernel
theorem dX0_leastMendingSwap_22 : decode cX0_leastMendingSwap 22 = .ok (.iload_n 3, 1) := by decide +kernel
theorem dX0_leastMendingSwap_23 : decode cX0_leastMendingSwap 23 = .ok (.iconst 1, 1) := by decide +kernel
theorem dX0_leastMendingSwap_24 : decode cX0_leastMendingSwap 24 = .ok (.iadd, 1) := by decide +kernel
theorem dX0_leastMendingSwap_25 : decode cX0_leastMendingSwap 25 = .ok (.aaload, 1) := by decide +kernel
theorem dX0_leastMendingSwap_26 : decode cX0_leastMendingSwap 26 = .ok (.invokevirtual 66, 3) := by decide +kernel
theorem dX0_leastMendingSwap_29 : decode cX0_leastMendingSwap 29 = .ok (.aload_n 0, 1) := by decide +kernel
theorem dX0_leastMendingSwap_30 : decode cX0_leastMendingSwap 30 = .ok (.iload_n 1, 1) := by decide +kernel
theorem dX0_leastMendingSwap_31 : decode cX0_leastMendingSwap 31 = .ok (.iload_n 2, 1) := by decide +kernel
theorem dX0_leastMendingSwap_32 : decode cX0_leastMendingSwap 32 = .ok (.invokevirtual 70, 3) := by decide +kernel
theorem dX0_leastMendingSwap_35 : decode cX0_leastMendingSwap 35 = .ok (.istore 4, 2) := by decide +kernel
theorem dX0_leastMendingSwap_37 : decode cX0_leastMendingSwap 37 = .ok (.aload_n 0, 1) := by decide +kernel
theorem dX0_leastMendingSwap_38 : decode cX0_leastMendingSwap 38 = .ok (.getfield 11, 3) := by decide +kernel
theorem dX0_leastMendingSwap_41 : decode cX0_leastMendingSwap 41 = .ok (.iload_n 3, 1) := by decide +kernel
theorem dX0_leastMendingSwap_42 : decode cX0_leastMendingSwap 42 = .ok (.aaload, 1) := by decide +kernel
theorem dX0_leastMendingSwap_43 : decode cX0_leastMendingSwap 43 = .ok (.aload_n 0, 1) := by decide +kernel
theorem dX0_leastMendingSwap_44 : decode cX0_leastMendingSwap 44 = .ok (.getfield 11, 3) := by decide +kernel
theorem dX0_leastMendingSwap_47 : decode cX0_leastMendingSwap 47 = .ok (.iload_n 3, 1) := by decide +kernel
theorem dX0_leastMendingSwap_48 : decode cX0_leastMendingSwap 48 = .ok (.iconst 1, 1) := by decide +kernel
theorem dX0_leastMendingSwap_49 : decode cX0_leastMendingSwap 49 = .ok (.iadd, 1) := by decide +kernel
theorem dX0_leastMendingSwap_50 : decode cX0_leastMendingSwap 50 = .ok (.aaload, 1) := by decide +kernel
theorem dX0_leastMendingSwap_51 : decode cX0_leastMendingSwap 51 = .ok (.invokevirtual 66, 3) := by decide +kernel
theorem dX0_leastMendingSwap_54 : decode cX0_leastMendingSwap 54 = .ok (.iload 4, 2) := by decide +kernel
theorem dX0_leastMendingSwap_56 : decode cX0_leastMendingSwap 56 = .ok (.ifCond .eq 5, 3) := by decide +kernel
theorem dX0_leastMendingSwap_59 : decode cX0_leastMendingSwap 59 = .ok (.iload_n 3, 1) := by decide +kernel
theorem dX0_leastMendingSwap_60 : decode cX0_leastMendingSwap 60 = .ok (.ireturn, 1) := by decide +kernel
theorem dX0_leastMendingSwap_61 : decode cX0_leastMendingSwap 61 = .ok (.iinc 3 1, 3) := by decide +kernel
theorem dX0_leastMendingSwap_64 : decode cX0_leastMendingSwap 64 = .ok (.goto (-62), 3) := by decide +kernel
theorem dX0_leastMendingSwap_67 : decode cX0_leastMendingSwap 67 = .ok (.iconst (-1), 1) := by decide +kernel
theorem dX0_leastMendingSwap_68 : decode cX0_leastMendingSwap 68 = .ok (.ireturn, 1) := by decide +kernel
set_option maxRecDepth 20000 in
theorem ggX0_digestOnto_X5_told : GoodIn wsX0_digestOnto wsX5_told := goodIn_r _ [7, 8, 9, 10, 11, 12, 19, 20, 21, 22, 23] (by decide +kernel) (by decide +kernel)
set_option maxRecDepth 20000 in
theorem gX0_digestOnto_X5_told : GoodIn wsX0_digestOnto (wsV RX0 74 RX5 yX5_told wsX5_told) := goodIn_app (goodIn_of _ (by decide +kernel)) ggX0_digestOnto_X5_told
set_option maxRecDepth 20000 in
theorem ggX0_digestOnto_X7_mixed : GoodIn wsX0_digestOnto wsX7_mixed := goodIn_r _ [15, 16] (by decide +kernel) (by decide +kernel)
set_option maxRecDepth 20000 in
theorem gX0_digestOnto_X7_mixed_n77 : GoodIn wsX0_digestOnto (wsX7_mixed) := ggX0_digestOnto_X7_mixed
theorem dX0_digestOnto_0 : decode cX0_digestOnto 0 = .ok (.lload_n 1, 1) := by decide +kernel
theorem dX0_digestOnto_1 : decode cX0_digestOnto 1 = .ok (.lstore_n 3, 1) := by decide +kernel
theorem dX0_digestOnto_2 : decode cX0_digestOnto 2 = .ok (.iconst 0, 1) := by decide +kernel
theorem dX0_digestOnto_3 : decode cX0_digestOnto 3 = .ok (.istore 5, 2) := by decide +kernel
theorem dX0_digestOnto_5 : decode cX0_digestOnto 5 = .ok (.iload 5, 2) := by decide +kernel
theorem dX0_digestOnto_7 : decode cX0_digestOnto 7 = .ok (.aload_n 0, 1) := by decide +kernel
theorem dX0_digestOnto_8 : decode cX0_digestOnto 8 = .ok (.getfield 17, 3) := by decide +kernel
theorem dX0_digestOnto_11 : decode cX0_digestOnto 11 = .ok (.if_icmp .ge 42, 3) := by decide +kernel
theorem dX0_digestOnto_14 : decode cX0_digestOnto 14 = .ok (.iconst 0, 1) := by decide +kernel
theorem dX0_digestOnto_15 : decode cX0_digestOnto 15 = .ok (.istore 6, 2) := by decide +kernel
theorem dX0_digestOnto_17 : decode cX0_digestOnto 17 = .ok (.iload 6, 2) := by decide +kernel
theorem dX0_digestOnto_19 : decode cX0_digestOnto 19 = .ok (.iconst 4, 1) := by decide +kernel
theorem dX0_digestOnto_20 : decode cX0_digestOnto 20 = .ok (.if_icmp .gt 27, 3) := by decide +kernel
theorem dX0_digestOnto_23 : decode cX0_digestOnto 23 = .ok (.lload_n 3, 1) := by decide +kernel
theorem dX0_digestOnto_24 : decode cX0_digestOnto 24 = .ok (.aload_n 0, 1) := by decide +kernel
theorem dX0_digestOnto_25 : decode cX0_digestOnto 25 = .ok (.getfield 11, 3) := by decide +kernel
theorem dX0_digestOnto_28 : decode cX0_digestOnto 28 = .ok (.iload 5, 2) := by decide +kernel
theorem dX0_digestOnto_30 : decode cX0_digestOnto 30 = .ok (.aaload, 1) := by decide +kernel
theorem dX0_digestOnto_31 : decode cX0_digestOnto 31 = .ok (.iload 6, 2) := by decide +kernel
theorem dX0_digestOnto_33 : decode cX0_digestOnto 33 = .ok (.invokevirtual 74, 3) := by decide +kernel
theorem dX0_digestOnto_36 : decode cX0_digestOnto 36 = .ok (.i2l, 1) := by decide +kernel
theorem dX0_digestOnto_37 : decode cX0_digestOnto 37 = .ok (.invokestatic 77, 3) := by decide +kernel
theorem dX0_digestOnto_40 : decode cX0_digestOnto 40 = .ok (.lstore_n 3, 1) := by decide +kernel
theorem dX0_digestOnto_41 : decode cX0_digestOnto 41 = .ok (.iinc 6 1, 3) := by decide +kernel
theorem dX0_digestOnto_44 : decode cX0_digestOnto 44 = .ok (.goto (-27), 3) := by decide +kernel
theorem dX0_digestOnto_47 : decode cX0_digestOnto 47 = .ok (.iinc 5 1, 3) := by decide +kernel
theorem dX0_digestOnto_50 : decode cX0_digestOnto 50 = .ok (.goto (-45), 3) := by decide +kernel
theorem dX0_digestOnto_53 : decode cX0_digestOnto 53 = .ok (.lload_n 3, 1) := by decide +kernel
theorem dX0_digestOnto_54 : decode cX0_digestOnto 54 = .ok (.lreturn, 1) := by decide +kernel
set_option maxRecDepth 20000 in
theorem ggX1_init_X2_init : GoodIn wsX1_init wsX2_init := goodIn_r _ [14, 15, 2, 3, 4, 16, 17, 26, 27, 28] (by decide +kernel) (by decide +kernel)
set_option maxRecDepth 20000 in
theorem gX1_init_X2_init_n23 : GoodIn wsX1_init (wsX2_init) := ggX1_init_X2_init
theorem dX1_init_0 : decode cX1_init 0 = .ok (.aload_n 0, 1) := by decide +kernel
theorem dX1_init_1 : decode cX1_init 1 = .ok (.invokespecial 3, 3) := by decide +kernel
theorem dX1_init_4 : decode cX1_init 4 = .ok (.aload_n 0, 1) := by decide +kernel
theorem dX1_init_5 : decode cX1_init 5 = .ok (.bipush 20, 2) := by decide +kernel
theorem dX1_init_7 : decode cX1_init 7 = .ok (.newarray .int, 2) := by decide +kernel
theorem dX1_init_9 : decode cX1_init 9 = .ok (.putfield 9, 3) := by decide +kernel
theorem dX1_init_12 : decode cX1_init 12 = .ok (.aload_n 0, 1) := by decide +kernel
theorem dX1_init_13 : decode cX1_init 13 = .ok (.bipush 20, 2) := by decide +kernel
theorem dX1_init_15 : decode cX1_init 15 = .ok (.newarray .int, 2) := by decide +kernel
theorem dX1_init_17 : decode cX1_init 17 = .ok (.putfield 15, 3) := by decide +kernel
theorem dX1_init_20 : decode cX1_init 20 = .ok (.aload_n 0, 1) := by decide +kernel
theorem dX1_init_21 : decode cX1_init 21 = .ok (.bipush 20, 2) := by decide +kernel
theorem dX1_init_23 : decode cX1_init 23 = .ok (.newarray .int, 2) := by decide +kernel
theorem dX1_init_25 : decode cX1_init 25 = .ok (.putfield 18, 3) := by decide +kernel
theorem dX1_init_28 : decode cX1_init 28 = .ok (.aload_n 0, 1) := by decide +kernel
theorem dX1_init_29 : decode cX1_init 29 = .ok (.new 21, 3) := by decide +kernel
theorem dX1_init_32 : decode cX1_init 32 = .ok (.dup, 1) := by decide +kernel
theorem dX1_init_33 : decode cX1_init 33 = .ok (.invokespecial 23, 3) := by decide +kernel
theorem dX1_init_36 : decode cX1_init 36 = .ok (.putfield 24, 3) := by decide +kernel
theorem dX1_init_39 : decode cX1_init 39 = .ok (.aload_n 0, 1) := by decide +kernel
theorem dX1_init_40 : decode cX1_init 40 = .ok (.new 21, 3) := by decide +kernel
theorem dX1_init_43 : decode cX1_init 43 = .ok (.dup, 1) := by decide +kernel
theorem dX1_init_44 : decode cX1_init 44 = .ok (.invokespecial 23, 3) := by decide +kernel
theorem dX1_init_47 : decode cX1_init 47 = .ok (.putfield 28, 3) := by decide +kernel
theorem dX1_init_50 : decode cX1_init 50 = .ok (.return_, 1) := by decide +kernel
theorem dX1_addRun_0 : decode cX1_addRun 0 = .ok (.aload_n 0, 1) := by decide +kernel
theorem dX1_addRun_1 : decode cX1_addRun 1 = .ok (.getfield 9, 3) := by decide +kernel
theorem dX1_addRun_4 : decode cX1_addRun 4 = .ok (.aload_n 0, 1) := by decide +kernel
theorem dX1_addRun_5 : decode cX1_addRun 5 = .ok (.getfield 31, 3) := by decide +kernel
theorem dX1_addRun_8 : decode cX1_addRun 8 = .ok (.iload_n 1, 1) := by decide +kernel
theorem dX1_addRun_9 : decode cX1_addRun 9 = .ok (.iastore, 1) := by decide +kernel
theorem dX1_addRun_10 : decode cX1_addRun 10 = .ok (.aload_n 0, 1) := by decide +kernel
theorem dX1_addRun_11 : decode cX1_addRun 11 = .ok (.getfield 15, 3) := by decide +kernel
theorem dX1_addRun_14 : decode cX1_addRun 14 = .ok (.aload_n 0, 1) := by decide +kernel
theorem dX1_addRun_15 : decode cX1_addRun 15 = .ok (.getfield 31, 3) := by decide +kernel
theorem dX1_addRun_18 : decode cX1_addRun 18 = .ok (.iload_n 2, 1) := by decide +kernel
theorem dX1_addRun_19 : decode cX1_addRun 19 = .ok (.iastore, 1) := by decide +kernel
theorem dX1_addRun_20 : decode cX1_addRun 20 = .ok (.aload_n 0, 1) := by decide +kernel
theorem dX1_addRun_21 : decode cX1_addRun 21 = .ok (.dup, 1) := by decide +kernel
theorem dX1_addRun_22 : decode cX1_addRun 22 = .ok (.getfield 31, 3) := by decide +kernel
theorem dX1_addRun_25 : decode cX1_addRun 25 = .ok (.iconst 1, 1) := by decide +kernel
theorem dX1_addRun_26 : decode cX1_addRun 26 = .ok (.iadd, 1) := by decide +kernel
theorem dX1_addRun_27 : decode cX1_addRun 27 = .ok (.putfield 31, 3) := by decide +kernel
theorem dX1_addRun_30 : decode cX1_addRun 30 = .ok (.aload_n 0, 1) := by decide +kernel
theorem dX1_addRun_31 : decode cX1_addRun 31 = .ok (.dup, 1) := by decide +kernel
theorem dX1_addRun_32 : decode cX1_addRun 32 = .ok (.getfield 35, 3) := by decide +kernel
theorem dX1_addRun_35 : decode cX1_addRun 35 = .ok (.iload_n 1, 1) := by decide +kernel
theorem dX1_addRun_36 : decode cX1_addRun 36 = .ok (.iadd, 1) := by decide +kernel
theorem dX1_addRun_37 : decode cX1_addRun 37 = .ok (.putfield 35, 3) := by decide +kernel
theorem dX1_addRun_40 : decode cX1_addRun 40 = .ok (.return_, 1) := by decide +kernel
theorem dX1_isLogged_0 : decode cX1_isLogged 0 = .ok (.aload_n 0, 1) := by decide +kernel
theorem dX1_isLogged_1 : decode cX1_isLogged 1 = .ok (.getfield 24, 3) := by decide +kernel
theorem dX1_isLogged_4 : decode cX1_isLogged 4 = .ok (.getfield 38, 3) := by decide +kernel
theorem dX1_isLogged_7 : decode cX1_isLogged 7 = .ok (.ifCond .gt 13, 3) := by decide +kernel
theorem dX1_isLogged_10 : decode cX1_isLogged 10 = .ok (.aload_n 0, 1) := by decide +kernel
theorem dX1_isLogged_11 : decode cX1_isLogged 11 = .ok (.getfield 28, 3) := by decide +kernel
theorem dX1_isLogged_14 : decode cX1_isLogged 14 = .ok (.getfield 38, 3) := by decide +kernel
theorem dX1_isLogged_17 : decode cX1_isLogged 17 = .ok (.ifCond .le 7, 3) := by decide +kernel
theorem dX1_isLogged_20 : decode cX1_isLogged 20 = .ok (.iconst 1, 1) := by decide +kernel
theorem dX1_isLogged_21 : decode cX1_isLogged 21 = .ok (.goto 4, 3) := by decide +kernel
theorem dX1_isLogged_24 : decode cX1_isLogged 24 = .ok (.iconst 0, 1) := by decide +kernel
theorem dX1_isLogged_25 : decode cX1_isLogged 25 = .ok (.ireturn, 1) := by decide +kernel
theorem dX1_isStretch_0 : decode cX1_isStretch 0 = .ok (.iload_n 1, 1) := by decide +kernel
theorem dX1_isStretch_1 : decode cX1_isStretch 1 = .ok (.ifCond .lt 20, 3) := by decide +kernel
theorem dX1_isStretch_4 : decode cX1_isStretch 4 = .ok (.iload_n 1, 1) := by decide +kernel
theorem dX1_isStretch_5 : decode cX1_isStretch 5 = .ok (.iload_n 2, 1) := by decide +kernel
theorem dX1_isStretch_6 : decode cX1_isStretch 6 = .ok (.if_icmp .ge 15, 3) := by decide +kernel
theorem dX1_isStretch_9 : decode cX1_isStretch 9 = .ok (.iload_n 2, 1) := by decide +kernel
theorem dX1_isStretch_10 : decode cX1_isStretch 10 = .ok (.aload_n 0, 1) := by decide +kernel
theorem dX1_isStretch_11 : decode cX1_isStretch 11 = .ok (.getfield 35, 3) := by decide +kernel
theorem dX1_isStretch_14 : decode cX1_isStretch 14 = .ok (.if_icmp .gt 7, 3) := by decide +kernel
theorem dX1_isStretch_17 : decode cX1_isStretch 17 = .ok (.iconst 1, 1) := by decide +kernel
theorem dX1_isStretch_18 : decode cX1_isStretch 18 = .ok (.goto 4, 3) := by decide +kernel
theorem dX1_isStretch_21 : decode cX1_isStretch 21 = .ok (.iconst 0, 1) := by decide +kernel
theorem dX1_isStretch_22 : decode cX1_isStretch 22 = .ok (.ireturn, 1) := by decide +kernel
set_option maxRecDepth 20000 in
theorem ggX1_coreWithin_X7_unitsInCommon : GoodIn wsX1_coreWithin wsX7_unitsInCommon := goodIn_r _ [6, 7, 8, 9, 10, 11, 12, 13] (by decide +kernel) (by decide +kernel)
set_option maxRecDepth 20000 in
theorem gX1_coreWithin_X7_unitsInCommon_n41 : GoodIn wsX1_coreWithin (wsX7_unitsInCommon) := ggX1_coreWithin_X7_unitsInCommon
theorem dX1_coreWithin_0 : decode cX1_coreWithin 0 = .ok (.iconst 0, 1) := by decide +kernel
theorem dX1_coreWithin_1 : decode cX1_coreWithin 1 = .ok (.istore_n 3, 1) := by decide +kernel
theorem dX1_coreWithin_2 : decode cX1_coreWithin 2 = .ok (.iconst 0, 1) := by decide +kernel
theorem dX1_coreWithin_3 : decode cX1_coreWithin 3 = .ok (.istore 4, 2) := by decide +kernel
theorem dX1_coreWithin_5 : decode cX1_coreWithin 5 = .ok (.iconst 0, 1) := by decide +kernel
theorem dX1_coreWithin_6 : decode cX1_coreWithin 6 = .ok (.istore 5, 2) := by decide +kernel
theorem dX1_coreWithin_8 : decode cX1_coreWithin 8 = .ok (.iload 5, 2) := by decide +kernel
theorem dX1_coreWithin_10 : decode cX1_coreWithin 10 = .ok (.aload_n 0, 1) := by decide +kernel
theorem dX1_coreWithin_11 : decode cX1_coreWithin 11 = .ok (.getfield 31, 3) := by decide +kernel
theorem dX1_coreWithin_14 : decode cX1_coreWithin 14 = .ok (.if_icmp .ge 41, 3) := by decide +kernel
theorem dX1_coreWithin_17 : decode cX1_coreWithin 17 = .ok (.iload_n 3, 1) := by decide +kernel
theorem dX1_coreWithin_18 : decode cX1_coreWithin 18 = .ok (.iload 4, 2) := by decide +kernel
theorem dX1_coreWithin_20 : decode cX1_coreWithin 20 = .ok (.iload 4, 2) := by decide +kernel
theorem dX1_coreWithin_22 : decode cX1_coreWithin 22 = .ok (.aload_n 0, 1) := by decide +kernel
theorem dX1_coreWithin_23 : decode cX1_coreWithin 23 = .ok (.getfield 15, 3) := by decide +kernel
theorem dX1_coreWithin_26 : decode cX1_coreWithin 26 = .ok (.iload 5, 2) := by decide +kernel
theorem dX1_coreWithin_28 : decode cX1_coreWithin 28 = .ok (.iaload, 1) := by decide +kernel
theorem dX1_coreWithin_29 : decode cX1_coreWithin 29 = .ok (.iadd, 1) := by decide +kernel
theorem dX1_coreWithin_30 : decode cX1_coreWithin 30 = .ok (.iload_n 1, 1) := by decide +kernel
theorem dX1_coreWithin_31 : decode cX1_coreWithin 31 = .ok (.iload_n 2, 1) := by decide +kernel
theorem dX1_coreWithin_32 : decode cX1_coreWithin 32 = .ok (.invokestatic 41, 3) := by decide +kernel
theorem dX1_coreWithin_35 : decode cX1_coreWithin 35 = .ok (.iadd, 1) := by decide +kernel
theorem dX1_coreWithin_36 : decode cX1_coreWithin 36 = .ok (.istore_n 3, 1) := by decide +kernel
theorem dX1_coreWithin_37 : decode cX1_coreWithin 37 = .ok (.iload 4, 2) := by decide +kernel
theorem dX1_coreWithin_39 : decode cX1_coreWithin 39 = .ok (.aload_n 0, 1) := by decide +kernel
theorem dX1_coreWithin_40 : decode cX1_coreWithin 40 = .ok (.getfield 9, 3) := by decide +kernel
theorem dX1_coreWithin_43 : decode cX1_coreWithin 43 = .ok (.iload 5, 2) := by decide +kernel
theorem dX1_coreWithin_45 : decode cX1_coreWithin 45 = .ok (.iaload, 1) := by decide +kernel
theorem dX1_coreWithin_46 : decode cX1_coreWithin 46 = .ok (.iadd, 1) := by decide +kernel
theorem dX1_coreWithin_47 : decode cX1_coreWithin 47 = .ok (.istore 4, 2) := by decide +kernel
theorem dX1_coreWithin_49 : decode cX1_coreWithin 49 = .ok (.iinc 5 1, 3) := by decide +kernel
theorem dX1_coreWithin_52 : decode cX1_coreWithin 52 = .ok (.goto (-44), 3) := by decide +kernel
theorem dX1_coreWithin_55 : decode cX1_coreWithin 55 = .ok (.iload_n 3, 1) := by decide +kernel
theorem dX1_coreWithin_56 : decode cX1_coreWithin 56 = .ok (.ireturn, 1) := by decide +kernel
set_option maxRecDepth 20000 in
theorem ggX1_digestOnto_X7_mixed : GoodIn wsX1_digestOnto wsX7_mixed := goodIn_r _ [10, 11] (by decide +kernel) (by decide +kernel)
set_option maxRecDepth 20000 in
theorem gX1_digestOnto_X7_mixed_n45 : GoodIn wsX1_digestOnto (wsX7_mixed) := ggX1_digestOnto_X7_mixed
set_option maxRecDepth 20000 in
theorem ggX1_digestOnto_X2_digestOnto : GoodIn wsX1_digestOnto wsX2_digestOnto := goodIn_r _ [16, 17, 18, 19, 8, 9, 10, 11, 28, 29, 30] (by decide +kernel) (by decide +kernel)
set_option maxRecDepth 20000 in
theorem gX1_digestOnto_X2_digestOnto : GoodIn wsX1_digestOnto (wsV RX1 52 RX2 yX2_digestOnto wsX2_digestOnto) := goodIn_app (goodIn_of _ (by decide +kernel)) ggX1_digestOnto_X2_digestOnto
theorem dX1_digestOnto_0 : decode cX1_digestOnto 0 = .ok (.lload_n 1, 1) := by decide +kernel
theorem dX1_digestOnto_1 : decode cX1_digestOnto 1 = .ok (.lstore_n 3, 1) := by decide +kernel
theorem dX1_digestOnto_2 : decode cX1_digestOnto 2 = .ok (.iconst 0, 1) := by decide +kernel
theorem dX1_digestOnto_3 : decode cX1_digestOnto 3 = .ok (.istore 5, 2) := by decide +kernel
theorem dX1_digestOnto_5 : decode cX1_digestOnto 5 = .ok (.iload 5, 2) := by decide +kernel
theorem dX1_digestOnto_7 : decode cX1_digestOnto 7 = .ok (.aload_n 0, 1) := by decide +kernel
theorem dX1_digestOnto_8 : decode cX1_digestOnto 8 = .ok (.getfield 31, 3) := by decide +kernel
theorem dX1_digestOnto_11 : decode cX1_digestOnto 11 = .ok (.if_icmp .ge 33, 3) := by decide +kernel
theorem dX1_digestOnto_14 : decode cX1_digestOnto 14 = .ok (.lload_n 3, 1) := by decide +kernel
theorem dX1_digestOnto_15 : decode cX1_digestOnto 15 = .ok (.aload_n 0, 1) := by decide +kernel
theorem dX1_digestOnto_16 : decode cX1_digestOnto 16 = .ok (.getfield 9, 3) := by decide +kernel
theorem dX1_digestOnto_19 : decode cX1_digestOnto 19 = .ok (.iload 5, 2) := by decide +kernel
theorem dX1_digestOnto_21 : decode cX1_digestOnto 21 = .ok (.iaload, 1) := by decide +kernel
theorem dX1_digestOnto_22 : decode cX1_digestOnto 22 = .ok (.i2l, 1) := by decide +kernel
theorem dX1_digestOnto_23 : decode cX1_digestOnto 23 = .ok (.invokestatic 45, 3) := by decide +kernel
theorem dX1_digestOnto_26 : decode cX1_digestOnto 26 = .ok (.aload_n 0, 1) := by decide +kernel
theorem dX1_digestOnto_27 : decode cX1_digestOnto 27 = .ok (.getfield 15, 3) := by decide +kernel
theorem dX1_digestOnto_30 : decode cX1_digestOnto 30 = .ok (.iload 5, 2) := by decide +kernel
theorem dX1_digestOnto_32 : decode cX1_digestOnto 32 = .ok (.iaload, 1) := by decide +kernel
theorem dX1_digestOnto_33 : decode cX1_digestOnto 33 = .ok (.i2l, 1) := by decide +kernel
theorem dX1_digestOnto_34 : decode cX1_digestOnto 34 = .ok (.invokestatic 45, 3) := by decide +kernel
theorem dX1_digestOnto_37 : decode cX1_digestOnto 37 = .ok (.lstore_n 3, 1) := by decide +kernel
theorem dX1_digestOnto_38 : decode cX1_digestOnto 38 = .ok (.iinc 5 1, 3) := by decide +kernel
theorem dX1_digestOnto_41 : decode cX1_digestOnto 41 = .ok (.goto (-36), 3) := by decide +kernel
theorem dX1_digestOnto_44 : decode cX1_digestOnto 44 = .ok (.iconst 0, 1) := by decide +kernel
theorem dX1_digestOnto_45 : decode cX1_digestOnto 45 = .ok (.istore 5, 2) := by decide +kernel
theorem dX1_digestOnto_47 : decode cX1_digestOnto 47 = .ok (.iload 5, 2) := by decide +kernel
theorem dX1_digestOnto_49 : decode cX1_digestOnto 49 = .ok (.aload_n 0, 1) := by decide +kernel
theorem dX1_digestOnto_50 : decode cX1_digestOnto 50 = .ok (.getfield 49, 3) := by decide +kernel
theorem dX1_digestOnto_53 : decode cX1_digestOnto 53 = .ok (.if_icmp .ge 22, 3) := by decide +kernel
theorem dX1_digestOnto_56 : decode cX1_digestOnto 56 = .ok (.lload_n 3, 1) := by decide +kernel
theorem dX1_digestOnto_57 : decode cX1_digestOnto 57 = .ok (.aload_n 0, 1) := by decide +kernel
theorem dX1_digestOnto_58 : decode cX1_digestOnto 58 = .ok (.getfield 18, 3) := by decide +kernel
theorem dX1_digestOnto_61 : decode cX1_digestOnto 61 = .ok (.iload 5, 2) := by decide +kernel
theorem dX1_digestOnto_63 : decode cX1_digestOnto 63 = .ok (.iaload, 1) := by decide +kernel
theorem dX1_digestOnto_64 : decode cX1_digestOnto 64 = .ok (.i2l, 1) := by decide +kernel
theorem dX1_digestOnto_65 : decode cX1_digestOnto 65 = .ok (.invokestatic 45, 3) := by decide +kernel
theorem dX1_digestOnto_68 : decode cX1_digestOnto 68 = .ok (.lstore_n 3, 1) := by decide +kernel
theorem dX1_digestOnto_69 : decode cX1_digestOnto 69 = .ok (.iinc 5 1, 3) := by decide +kernel
theorem dX1_digestOnto_72 : decode cX1_digestOnto 72 = .ok (.goto (-25), 3) := by decide +kernel
theorem dX1_digestOnto_75 : decode cX1_digestOnto 75 = .ok (.aload_n 0, 1) := by decide +kernel
theorem dX1_digestOnto_76 : decode cX1_digestOnto 76 = .ok (.getfield 28, 3) := by decide +kernel
theorem dX1_digestOnto_79 : decode cX1_digestOnto 79 = .ok (.aload_n 0, 1) := by decide +kernel
theorem dX1_digestOnto_80 : decode cX1_digestOnto 80 = .ok (.getfield 24, 3) := by decide +kernel
theorem dX1_digestOnto_83 : decode cX1_digestOnto 83 = .ok (.lload_n 3, 1) := by decide +kernel
theorem dX1_digestOnto_84 : decode cX1_digestOnto 84 = .ok (.invokevirtual 52, 3) := by decide +kernel
theorem dX1_digestOnto_87 : decode cX1_digestOnto 87 = .ok (.invokevirtual 52, 3) := by decide +kernel
theorem dX1_digestOnto_90 : decode cX1_digestOnto 90 = .ok (.lreturn, 1) := by decide +kernel
theorem dX2_init_0 : decode cX2_init 0 = .ok (.aload_n 0, 1) := by decide +kernel
theorem dX2_init_1 : decode cX2_init 1 = .ok (.invokespecial 3, 3) := by decide +kernel
theorem dX2_init_4 : decode cX2_init 4 = .ok (.aload_n 0, 1) := by decide +kernel
theorem dX2_init_5 : decode cX2_init 5 = .ok (.bipush 20, 2) := by decide +kernel
theorem dX2_init_7 : decode cX2_init 7 = .ok (.newarray .int, 2) := by decide +kernel
theorem dX2_init_9 : decode cX2_init 9 = .ok (.putfield 9, 3) := by decide +kernel
theorem dX2_init_12 : decode cX2_init 12 = .ok (.aload_n 0, 1) := by decide +kernel
theorem dX2_init_13 : decode cX2_init 13 = .ok (.bipush 20, 2) := by decide +kernel
theorem dX2_init_15 : decode cX2_init 15 = .ok (.newarray .int, 2) := by decide +kernel
theorem dX2_init_17 : decode cX2_init 17 = .ok (.putfield 15, 3) := by decide +kernel
theorem dX2_init_20 : decode cX2_init 20 = .ok (.return_, 1) := by decide +kernel
theorem dX2_add_0 : decode cX2_add 0 = .ok (.aload_n 0, 1) := by decide +kernel
theorem dX2_add_1 : decode cX2_add 1 = .ok (.getfield 9, 3) := by decide +kernel
theorem dX2_add_4 : decode cX2_add 4 = .ok (.aload_n 0, 1) := by decide +kernel
theorem dX2_add_5 : decode cX2_add 5 = .ok (.getfield 18, 3) := by decide +kernel
theorem dX2_add_8 : decode cX2_add 8 = .ok (.iload_n 1, 1) := by decide +kernel
theorem dX2_add_9 : decode cX2_add 9 = .ok (.iastore, 1) := by decide +kernel
theorem dX2_add_10 : decode cX2_add 10 = .ok (.aload_n 0, 1) := by decide +kernel
theorem dX2_add_11 : decode cX2_add 11 = .ok (.getfield 15, 3) := by decide +kernel
theorem dX2_add_14 : decode cX2_add 14 = .ok (.aload_n 0, 1) := by decide +kernel
theorem dX2_add_15 : decode cX2_add 15 = .ok (.getfield 18, 3) := by decide +kernel
theorem dX2_add_18 : decode cX2_add 18 = .ok (.iload_n 2, 1) := by decide +kernel
theorem dX2_add_19 : decode cX2_add 19 = .ok (.iastore, 1) := by decide +kernel
theorem dX2_add_20 : decode cX2_add 20 = .ok (.aload_n 0, 1) := by decide +kernel
theorem dX2_add_21 : decode cX2_add 21 = .ok (.dup, 1) := by decide +kernel
theorem dX2_add_22 : decode cX2_add 22 = .ok (.getfield 18, 3) := by decide +kernel
theorem dX2_add_25 : decode cX2_add 25 = .ok (.iconst 1, 1) := by decide +kernel
theorem dX2_add_26 : decode cX2_add 26 = .ok (.iadd, 1) := by decide +kernel
theorem dX2_add_27 : decode cX2_add 27 = .ok (.putfield 18, 3) := by decide +kernel
theorem dX2_add_30 : decode cX2_add 30 = .ok (.return_, 1) := by decide +kernel
theorem dX2_top_0 : decode cX2_top 0 = .ok (.iload_n 1, 1) := by decide +kernel
theorem dX2_top_1 : decode cX2_top 1 = .ok (.ifCond .ne 7, 3) := by decide +kernel
theorem dX2_top_4 : decode cX2_top 4 = .ok (.iconst 0, 1) := by decide +kernel
theorem dX2_top_5 : decode cX2_top 5 = .ok (.goto 11, 3) := by decide +kernel
theorem dX2_top_8 : decode cX2_top 8 = .ok (.aload_n 0, 1) := by decide +kernel
theorem dX2_top_9 : decode cX2_top 9 = .ok (.getfield 9, 3) := by decide +kernel
theorem dX2_top_12 : decode cX2_top 12 = .ok (.iload_n 1, 1) := by decide +kernel
theorem dX2_top_13 : decode cX2_top 13 = .ok (.iconst 1, 1) := by decide +kernel
theorem dX2_top_14 : decode cX2_top 14 = .ok (.isub, 1) := by decide +kernel
theorem dX2_top_15 : decode cX2_top 15 = .ok (.iaload, 1) := by decide +kernel
theorem dX2_top_16 : decode cX2_top 16 = .ok (.ireturn, 1) := by decide +kernel
set_option maxRecDepth 20000 in
theorem ggX2_bottom_X2_top : GoodIn wsX2_bottom wsX2_top := goodIn_r _ [6, 7, 8, 9, 10] (by decide +kernel) (by decide +kernel)
set_option maxRecDepth 20000 in
theorem gX2_bottom_X2_top : GoodIn wsX2_bottom (wsV RX2 22 RX2 yX2_top wsX2_top) := goodIn_app (goodIn_of _ (by decide +kernel)) ggX2_bottom_X2_top
theorem dX2_bottom_0 : decode cX2_bottom 0 = .ok (.aload_n 0, 1) := by decide +kernel
theorem dX2_bottom_1 : decode cX2_bottom 1 = .ok (.aload_n 0, 1) := by decide +kernel
theorem dX2_bottom_2 : decode cX2_bottom 2 = .ok (.getfield 18, 3) := by decide +kernel
theorem dX2_bottom_5 : decode cX2_bottom 5 = .ok (.invokevirtual 22, 3) := by decide +kernel
theorem dX2_bottom_8 : decode cX2_bottom 8 = .ok (.ireturn, 1) := by decide +kernel
set_option maxRecDepth 20000 in
theorem ggX2_thickness_X2_top : GoodIn wsX2_thickness wsX2_top := goodIn_r _ [6, 1, 7, 8, 9] (by decide +kernel) (by decide +kernel)
set_option maxRecDepth 20000 in
theorem gX2_thickness_X2_top : GoodIn wsX2_thickness (wsV RX2 22 RX2 yX2_top wsX2_top) := goodIn_app (goodIn_of _ (by decide +kernel)) ggX2_thickness_X2_top
theorem dX2_thickness_0 : decode cX2_thickness 0 = .ok (.aload_n 0, 1) := by decide +kernel
theorem dX2_thickness_1 : decode cX2_thickness 1 = .ok (.getfield 9, 3) := by decide +kernel
theorem dX2_thickness_4 : decode cX2_thickness 4 = .ok (.iload_n 1, 1) := by decide +kernel
theorem dX2_thickness_5 : decode cX2_thickness 5 = .ok (.iaload, 1) := by decide +kernel
theorem dX2_thickness_6 : decode cX2_thickness 6 = .ok (.aload_n 0, 1) := by decide +kernel
theorem dX2_thickness_7 : decode cX2_thickness 7 = .ok (.iload_n 1, 1) := by decide +kernel
theorem dX2_thickness_8 : decode cX2_thickness 8 = .ok (.invokevirtual 22, 3) := by decide +kernel
theorem dX2_thickness_11 : decode cX2_thickness 11 = .ok (.isub, 1) := by decide +kernel
theorem dX2_thickness_12 : decode cX2_thickness 12 = .ok (.ireturn, 1) := by decide +kernel
set_option maxRecDepth 20000 in
theorem ggX2_indexAt_X2_top : GoodIn wsX2_indexAt wsX2_top := goodIn_r _ [7, 2, 8, 9, 10] (by decide +kernel) (by decide +kernel)
set_option maxRecDepth 20000 in
theorem gX2_indexAt_X2_top : GoodIn wsX2_indexAt (wsV RX2 22 RX2 yX2_top wsX2_top) := goodIn_app (goodIn_of _ (by decide +kernel)) ggX2_indexAt_X2_top
theorem dX2_indexAt_0 : decode cX2_indexAt 0 = .ok (.iconst 0, 1) := by decide +kernel
theorem dX2_indexAt_1 : decode cX2_indexAt 1 = .ok (.istore_n 2, 1) := by decide +kernel
theorem dX2_indexAt_2 : decode cX2_indexAt 2 = .ok (.iload_n 2, 1) := by decide +kernel
theorem dX2_indexAt_3 : decode cX2_indexAt 3 = .ok (.aload_n 0, 1) := by decide +kernel
theorem dX2_indexAt_4 : decode cX2_indexAt 4 = .ok (.getfield 18, 3) := by decide +kernel
theorem dX2_indexAt_7 : decode cX2_indexAt 7 = .ok (.if_icmp .ge 30, 3) := by decide +kernel
theorem dX2_indexAt_10 : decode cX2_indexAt 10 = .ok (.iload_n 1, 1) := by decide +kernel
theorem dX2_indexAt_11 : decode cX2_indexAt 11 = .ok (.aload_n 0, 1) := by decide +kernel
theorem dX2_indexAt_12 : decode cX2_indexAt 12 = .ok (.iload_n 2, 1) := by decide +kernel
theorem dX2_indexAt_13 : decode cX2_indexAt 13 = .ok (.invokevirtual 22, 3) := by decide +kernel
theorem dX2_indexAt_16 : decode cX2_indexAt 16 = .ok (.if_icmp .lt 15, 3) := by decide +kernel
theorem dX2_indexAt_19 : decode cX2_indexAt 19 = .ok (.iload_n 1, 1) := by decide +kernel
theorem dX2_indexAt_20 : decode cX2_indexAt 20 = .ok (.aload_n 0, 1) := by decide +kernel
theorem dX2_indexAt_21 : decode cX2_indexAt 21 = .ok (.getfield 9, 3) := by decide +kernel
theorem dX2_indexAt_24 : decode cX2_indexAt 24 = .ok (.iload_n 2, 1) := by decide +kernel
theorem dX2_indexAt_25 : decode cX2_indexAt 25 = .ok (.iaload, 1) := by decide +kernel
theorem dX2_indexAt_26 : decode cX2_indexAt 26 = .ok (.if_icmp .ge 5, 3) := by decide +kernel
theorem dX2_indexAt_29 : decode cX2_indexAt 29 = .ok (.iload_n 2, 1) := by decide +kernel
theorem dX2_indexAt_30 : decode cX2_indexAt 30 = .ok (.ireturn, 1) := by decide +kernel
theorem dX2_indexAt_31 : decode cX2_indexAt 31 = .ok (.iinc 2 1, 3) := by decide +kernel
theorem dX2_indexAt_34 : decode cX2_indexAt 34 = .ok (.goto (-32), 3) := by decide +kernel
theorem dX2_indexAt_37 : decode cX2_indexAt 37 = .ok (.iconst (-1), 1) := by decide +kernel
theorem dX2_indexAt_38 : decode cX2_indexAt 38 = .ok (.ireturn, 1) := by decide +kernel
set_option maxRecDepth 20000 in
theorem ggX2_digestOnto_X7_mixed : GoodIn wsX2_digestOnto wsX7_mixed := goodIn_r _ [6, 7] (by decide +kernel) (by decide +kernel)
set_option maxRecDepth 20000 in
theorem gX2_digestOnto_X7_mixed_n26 : GoodIn wsX2_digestOnto (wsX7_mixed) := ggX2_digestOnto_X7_mixed
theorem dX2_digestOnto_0 : decode cX2_digestOnto 0 = .ok (.lload_n 1, 1) := by decide +kernel
theorem dX2_digestOnto_1 : decode cX2_digestOnto 1 = .ok (.lstore_n 3, 1) := by decide +kernel
theorem dX2_digestOnto_2 : decode cX2_digestOnto 2 = .ok (.iconst 0, 1) := by decide +kernel
theorem dX2_digestOnto_3 : decode cX2_digestOnto 3 = .ok (.istore 5, 2) := by decide +kernel
theorem dX2_digestOnto_5 : decode cX2_digestOnto 5 = .ok (.iload 5, 2) := by decide +kernel
theorem dX2_digestOnto_7 : decode cX2_digestOnto 7 = .ok (.aload_n 0, 1) := by decide +kernel
theorem dX2_digestOnto_8 : decode cX2_digestOnto 8 = .ok (.getfield 18, 3) := by decide +kernel
theorem dX2_digestOnto_11 : decode cX2_digestOnto 11 = .ok (.if_icmp .ge 33, 3) := by decide +kernel
theorem dX2_digestOnto_14 : decode cX2_digestOnto 14 = .ok (.lload_n 3, 1) := by decide +kernel
theorem dX2_digestOnto_15 : decode cX2_digestOnto 15 = .ok (.aload_n 0, 1) := by decide +kernel
theorem dX2_digestOnto_16 : decode cX2_digestOnto 16 = .ok (.getfield 9, 3) := by decide +kernel
theorem dX2_digestOnto_19 : decode cX2_digestOnto 19 = .ok (.iload 5, 2) := by decide +kernel
theorem dX2_digestOnto_21 : decode cX2_digestOnto 21 = .ok (.iaload, 1) := by decide +kernel
theorem dX2_digestOnto_22 : decode cX2_digestOnto 22 = .ok (.i2l, 1) := by decide +kernel
theorem dX2_digestOnto_23 : decode cX2_digestOnto 23 = .ok (.invokestatic 26, 3) := by decide +kernel
theorem dX2_digestOnto_26 : decode cX2_digestOnto 26 = .ok (.aload_n 0, 1) := by decide +kernel
theorem dX2_digestOnto_27 : decode cX2_digestOnto 27 = .ok (.getfield 15, 3) := by decide +kernel
theorem dX2_digestOnto_30 : decode cX2_digestOnto 30 = .ok (.iload 5, 2) := by decide +kernel
theorem dX2_digestOnto_32 : decode cX2_digestOnto 32 = .ok (.iaload, 1) := by decide +kernel
theorem dX2_digestOnto_33 : decode cX2_digestOnto 33 = .ok (.i2l, 1) := by decide +kernel
theorem dX2_digestOnto_34 : decode cX2_digestOnto 34 = .ok (.invokestatic 26, 3) := by decide +kernel
theorem dX2_digestOnto_37 : decode cX2_digestOnto 37 = .ok (.lstore_n 3, 1) := by decide +kernel
theorem dX2_digestOnto_38 : decode cX2_digestOnto 38 = .ok (.iinc 5 1, 3) := by decide +kernel
theorem dX2_digestOnto_41 : decode cX2_digestOnto 41 = .ok (.goto (-36), 3) := by decide +kernel
theorem dX2_digestOnto_44 : decode cX2_digestOnto 44 = .ok (.lload_n 3, 1) := by decide +kernel
theorem dX2_digestOnto_45 : decode cX2_digestOnto 45 = .ok (.lreturn, 1) := by decide +kernel
theorem dX3_init_0 : decode cX3_init 0 = .ok (.aload_n 0, 1) := by decide +kernel
theorem dX3_init_1 : decode cX3_init 1 = .ok (.invokespecial 3, 3) := by decide +kernel
theorem dX3_init_4 : decode cX3_init 4 = .ok (.aload_n 0, 1) := by decide +kernel
theorem dX3_init_5 : decode cX3_init 5 = .ok (.bipush 21, 2) := by decide +kernel
theorem dX3_init_7 : decode cX3_init 7 = .ok (.bipush 21, 2) := by decide +kernel
theorem dX3_init_9 : decode cX3_init 9 = .ok (.multianewarray 9 2, 4) := by decide +kernel
theorem dX3_init_13 : decode cX3_init 13 = .ok (.putfield 11, 3) := by decide +kernel
theorem dX3_init_16 : decode cX3_init 16 = .ok (.return_, 1) := by decide +kernel
set_option maxRecDepth 20000 in
theorem ggX3_weigh_X3_leastFrom : GoodIn wsX3_weigh wsX3_leastFrom := goodIn_r _ [7, 1, 2, 8, 9, 10, 11, 12, 13, 14, 15, 16, 17, 18, 19, 20, 21, 22, 23, 24, 25, 26, 27, 28, 29, 6, 30, 31, 32, 33, 34, 35, 36, 37, 38, 39, 40, 41, 42] (by decide +kernel) (by decide +kernel)
set_option maxRecDepth 20000 in
theorem gX3_weigh_X3_leastFrom : GoodIn wsX3_weigh (wsV RX3 22 RX3 yX3_leastFrom wsX3_leastFrom) := goodIn_app (goodIn_of _ (by decide +kernel)) ggX3_weigh_X3_leastFrom
theorem dX3_weigh_0 : decode cX3_weigh 0 = .ok (.aload_n 1, 1) := by decide +kernel
theorem dX3_weigh_1 : decode cX3_weigh 1 = .ok (.getfield 16, 3) := by decide +kernel
theorem dX3_weigh_4 : decode cX3_weigh 4 = .ok (.istore 4, 2) := by decide +kernel
theorem dX3_weigh_6 : decode cX3_weigh 6 = .ok (.iload 4, 2) := by decide +kernel
theorem dX3_weigh_8 : decode cX3_weigh 8 = .ok (.ifCond .lt 47, 3) := by decide +kernel
theorem dX3_weigh_11 : decode cX3_weigh 11 = .ok (.aload_n 2, 1) := by decide +kernel
theorem dX3_weigh_12 : decode cX3_weigh 12 = .ok (.getfield 16, 3) := by decide +kernel
theorem dX3_weigh_15 : decode cX3_weigh 15 = .ok (.istore 5, 2) := by decide +kernel
theorem dX3_weigh_17 : decode cX3_weigh 17 = .ok (.iload 5, 2) := by decide +kernel
theorem dX3_weigh_19 : decode cX3_weigh 19 = .ok (.ifCond .lt 30, 3) := by decide +kernel
theorem dX3_weigh_22 : decode cX3_weigh 22 = .ok (.aload_n 0, 1) := by decide +kernel
theorem dX3_weigh_23 : decode cX3_weigh 23 = .ok (.getfield 11, 3) := by decide +kernel
theorem dX3_weigh_26 : decode cX3_weigh 26 = .ok (.iload 4, 2) := by decide +kernel
theorem dX3_weigh_28 : decode cX3_weigh 28 = .ok (.aaload, 1) := by decide +kernel
theorem dX3_weigh_29 : decode cX3_weigh 29 = .ok (.iload 5, 2) := by decide +kernel
theorem dX3_weigh_31 : decode cX3_weigh 31 = .ok (.aload_n 0, 1) := by decide +kernel
theorem dX3_weigh_32 : decode cX3_weigh 32 = .ok (.iload 4, 2) := by decide +kernel
theorem dX3_weigh_34 : decode cX3_weigh 34 = .ok (.iload 5, 2) := by decide +kernel
theorem dX3_weigh_36 : decode cX3_weigh 36 = .ok (.aload_n 1, 1) := by decide +kernel
theorem dX3_weigh_37 : decode cX3_weigh 37 = .ok (.aload_n 2, 1) := by decide +kernel
theorem dX3_weigh_38 : decode cX3_weigh 38 = .ok (.aload_n 3, 1) := by decide +kernel
theorem dX3_weigh_39 : decode cX3_weigh 39 = .ok (.invokevirtual 22, 3) := by decide +kernel
theorem dX3_weigh_42 : decode cX3_weigh 42 = .ok (.iastore, 1) := by decide +kernel
theorem dX3_weigh_43 : decode cX3_weigh 43 = .ok (.iinc 5 (-1), 3) := by decide +kernel
theorem dX3_weigh_46 : decode cX3_weigh 46 = .ok (.goto (-29), 3) := by decide +kernel
theorem dX3_weigh_49 : decode cX3_weigh 49 = .ok (.iinc 4 (-1), 3) := by decide +kernel
theorem dX3_weigh_52 : decode cX3_weigh 52 = .ok (.goto (-46), 3) := by decide +kernel
theorem dX3_weigh_55 : decode cX3_weigh 55 = .ok (.return_, 1) := by decide +kernel
set_option maxRecDepth 20000 in
theorem ggX3_leastFrom_X2_bottom : GoodIn wsX3_leastFrom wsX2_bottom := goodIn_r _ [11, 12, 13, 14, 15, 10, 16, 17, 35, 36, 37] (by decide +kernel) (by decide +kernel)
set_option maxRecDepth 20000 in
theorem gX3_leastFrom_X2_bottom : GoodIn wsX3_leastFrom (wsV RX3 26 RX2 yX2_bottom wsX2_bottom) := goodIn_app (goodIn_of _ (by decide +kernel)) ggX3_leastFrom_X2_bottom
set_option maxRecDepth 20000 in
theorem ggX3_leastFrom_X2_top : GoodIn wsX3_leastFrom wsX2_top := goodIn_r _ [16, 17, 35, 36, 37] (by decide +kernel) (by decide +kernel)
set_option maxRecDepth 20000 in
theorem gX3_leastFrom_X2_top : GoodIn wsX3_leastFrom (wsV RX3 30 RX2 yX2_top wsX2_top) := goodIn_app (goodIn_of _ (by decide +kernel)) ggX3_leastFrom_X2_top
set_option maxRecDepth 20000 in
theorem ggX3_leastFrom_X2_thickness : GoodIn wsX3_leastFrom wsX2_thickness := goodIn_r _ [22, 17, 13, 14, 15, 10, 16, 35, 36, 37] (by decide +kernel) (by decide +kernel)
set_option maxRecDepth 20000 in
theorem gX3_leastFrom_X2_thickness : GoodIn wsX3_leastFrom (wsV RX3 34 RX2 yX2_thickness wsX2_thickness) := goodIn_app (goodIn_of _ (by decide +kernel)) ggX3_leastFrom_X2_thickness
set_option maxRecDepth 20000 in
theorem ggX3_leastFrom_X3_isAlike : GoodIn wsX3_leastFrom wsX3_isAlike := goodIn_r _ [26, 27, 35, 36, 37] (by decide +kernel) (by decide +kernel)
set_option maxRecDepth 20000 in
theorem gX3_leastFrom_X3_isAlike : GoodIn wsX3_leastFrom (va_wsS RX3 43 yX3_isAlike wsX3_isAlike) := goodIn_app (goodIn_of _ (by decide +kernel)) ggX3_leastFrom_X3_isAlike
set_option maxRecDepth 20000 in
theorem ggX3_leastFrom_X3_pairedSum : GoodIn wsX3_leastFrom wsX3_pairedSum := goodIn_r _ [31, 32, 33, 5, 34, 2, 19, 20, 21, 10, 22, 17, 13, 14, 15, 16, 38, 35, 36, 37] (by decide +kernel) (by decide +kernel)
set_option maxRecDepth 20000 in
theorem gX3_leastFrom_X3_pairedSum : GoodIn wsX3_leastFrom (wsV RX3 47 RX3 yX3_pairedSum wsX3_pairedSum) := goodIn_app (goodIn_of _ (by decide +kernel)) ggX3_leastFrom_X3_pairedSum
theorem dX3_leastFrom_0 : decode cX3_leastFrom 0 = .ok (.iload_n 1, 1) := by decide +kernel
theorem dX3_leastFrom_1 : decode cX3_leastFrom 1 = .ok (.aload_n 3, 1) := by decide +kernel
theorem dX3_leastFrom_2 : decode cX3_leastFrom 2 = .ok (.getfield 16, 3) := by decide +kernel
theorem dX3_leastFrom_5 : decode cX3_leastFrom 5 = .ok (.if_icmp .ne 16, 3) := by decide +kernel
theorem dX3_leastFrom_8 : decode cX3_leastFrom 8 = .ok (.aload 4, 2) := by decide +kernel
theorem dX3_leastFrom_10 : decode cX3_leastFrom 10 = .ok (.invokevirtual 26, 3) := by decide +kernel
theorem dX3_leastFrom_13 : decode cX3_leastFrom 13 = .ok (.aload 4, 2) := by decide +kernel
theorem dX3_leastFrom_15 : decode cX3_leastFrom 15 = .ok (.iload_n 2, 1) := by decide +kernel
theorem dX3_leastFrom_16 : decode cX3_leastFrom 16 = .ok (.invokevirtual 30, 3) := by decide +kernel
theorem dX3_leastFrom_19 : decode cX3_leastFrom 19 = .ok (.isub, 1) := by decide +kernel
theorem dX3_leastFrom_20 : decode cX3_leastFrom 20 = .ok (.ireturn, 1) := by decide +kernel
theorem dX3_leastFrom_21 : decode cX3_leastFrom 21 = .ok (.iload_n 2, 1) := by decide +kernel
theorem dX3_leastFrom_22 : decode cX3_leastFrom 22 = .ok (.aload 4, 2) := by decide +kernel
theorem dX3_leastFrom_24 : decode cX3_leastFrom 24 = .ok (.getfield 16, 3) := by decide +kernel
theorem dX3_leastFrom_27 : decode cX3_leastFrom 27 = .ok (.if_icmp .ne 14, 3) := by decide +kernel
theorem dX3_leastFrom_30 : decode cX3_leastFrom 30 = .ok (.aload_n 3, 1) := by decide +kernel
theorem dX3_leastFrom_31 : decode cX3_leastFrom 31 = .ok (.invokevirtual 26, 3) := by decide +kernel
theorem dX3_leastFrom_34 : decode cX3_leastFrom 34 = .ok (.aload_n 3, 1) := by decide +kernel
theorem dX3_leastFrom_35 : decode cX3_leastFrom 35 = .ok (.iload_n 1, 1) := by decide +kernel
theorem dX3_leastFrom_36 : decode cX3_leastFrom 36 = .ok (.invokevirtual 30, 3) := by decide +kernel
theorem dX3_leastFrom_39 : decode cX3_leastFrom 39 = .ok (.isub, 1) := by decide +kernel
theorem dX3_leastFrom_40 : decode cX3_leastFrom 40 = .ok (.ireturn, 1) := by decide +kernel
theorem dX3_leastFrom_41 : decode cX3_leastFrom 41 = .ok (.aload_n 3, 1) := by decide +kernel
theorem dX3_leastFrom_42 : decode cX3_leastFrom 42 = .ok (.iload_n 1, 1) := by decide +kernel
theorem dX3_leastFrom_43 : decode cX3_leastFrom 43 = .ok (.invokevirtual 34, 3) := by decide +kernel
theorem dX3_leastFrom_46 : decode cX3_leastFrom 46 = .ok (.aload_n 0, 1) := by decide +kernel
theorem dX3_leastFrom_47 : decode cX3_leastFrom 47 = .ok (.getfield 11, 3) := by decide +kernel
theorem dX3_leastFrom_50 : decode cX3_leastFrom 50 = .ok (.iload_n 1, 1) := by decide +kernel
theorem dX3_leastFrom_51 : decode cX3_leastFrom 51 = .ok (.iconst 1, 1) := by decide +kernel
theorem dX3_leastFrom_52 : decode cX3_leastFrom 52 = .ok (.iadd, 1) := by decide +kernel
theorem dX3_leastFrom_53 : decode cX3_leastFrom 53 = .ok (.aaload, 1) := by decide +kernel
theorem dX3_leastFrom_54 : decode cX3_leastFrom 54 = .ok (.iload_n 2, 1) := by decide +kernel
theorem dX3_leastFrom_55 : decode cX3_leastFrom 55 = .ok (.iaload, 1) := by decide +kernel
theorem dX3_leastFrom_56 : decode cX3_leastFrom 56 = .ok (.iadd, 1) := by decide +kernel
theorem dX3_leastFrom_57 : decode cX3_leastFrom 57 = .ok (.aload 4, 2) := by decide +kernel
theorem dX3_leastFrom_59 : decode cX3_leastFrom 59 = .ok (.iload_n 2, 1) := by decide +kernel
theorem dX3_leastFrom_60 : decode cX3_leastFrom 60 = .ok (.invokevirtual 34, 3) := by decide +kernel
theorem dX3_leastFrom_63 : decode cX3_leastFrom 63 = .ok (.aload_n 0, 1) := by decide +kernel
theorem dX3_leastFrom_64 : decode cX3_leastFrom 64 = .ok (.getfield 11, 3) := by decide +kernel
theorem dX3_leastFrom_67 : decode cX3_leastFrom 67 = .ok (.iload_n 1, 1) := by decide +kernel
theorem dX3_leastFrom_68 : decode cX3_leastFrom 68 = .ok (.aaload, 1) := by decide +kernel
theorem dX3_leastFrom_69 : decode cX3_leastFrom 69 = .ok (.iload_n 2, 1) := by decide +kernel
theorem dX3_leastFrom_70 : decode cX3_leastFrom 70 = .ok (.iconst 1, 1) := by decide +kernel
theorem dX3_leastFrom_71 : decode cX3_leastFrom 71 = .ok (.iadd, 1) := by decide +kernel
theorem dX3_leastFrom_72 : decode cX3_leastFrom 72 = .ok (.iaload, 1) := by decide +kernel
theorem dX3_leastFrom_73 : decode cX3_leastFrom 73 = .ok (.iadd, 1) := by decide +kernel
theorem dX3_leastFrom_74 : decode cX3_leastFrom 74 = .ok (.invokestatic 37, 3) := by decide +kernel
theorem dX3_leastFrom_77 : decode cX3_leastFrom 77 = .ok (.istore 6, 2) := by decide +kernel
theorem dX3_leastFrom_79 : decode cX3_leastFrom 79 = .ok (.iload_n 1, 1) := by decide +kernel
theorem dX3_leastFrom_80 : decode cX3_leastFrom 80 = .ok (.iload_n 2, 1) := by decide +kernel
theorem dX3_leastFrom_81 : decode cX3_leastFrom 81 = .ok (.aload_n 3, 1) := by decide +kernel
theorem dX3_leastFrom_82 : decode cX3_leastFrom 82 = .ok (.aload 4, 2) := by decide +kernel
theorem dX3_leastFrom_84 : decode cX3_leastFrom 84 = .ok (.aload 5, 2) := by decide +kernel
theorem dX3_leastFrom_86 : decode cX3_leastFrom 86 = .ok (.invokestatic 43, 3) := by decide +kernel
theorem dX3_leastFrom_89 : decode cX3_leastFrom 89 = .ok (.ifCond .eq 20, 3) := by decide +kernel
theorem dX3_leastFrom_92 : decode cX3_leastFrom 92 = .ok (.iload 6, 2) := by decide +kernel
theorem dX3_leastFrom_94 : decode cX3_leastFrom 94 = .ok (.aload_n 0, 1) := by decide +kernel
theorem dX3_leastFrom_95 : decode cX3_leastFrom 95 = .ok (.iload_n 1, 1) := by decide +kernel
theorem dX3_leastFrom_96 : decode cX3_leastFrom 96 = .ok (.iload_n 2, 1) := by decide +kernel
theorem dX3_leastFrom_97 : decode cX3_leastFrom 97 = .ok (.aload_n 3, 1) := by decide +kernel
theorem dX3_leastFrom_98 : decode cX3_leastFrom 98 = .ok (.aload 4, 2) := by decide +kernel
theorem dX3_leastFrom_100 : decode cX3_leastFrom 100 = .ok (.invokevirtual 47, 3) := by decide +kernel
theorem dX3_leastFrom_103 : decode cX3_leastFrom 103 = .ok (.invokestatic 37, 3) := by decide +kernel
theorem dX3_leastFrom_106 : decode cX3_leastFrom 106 = .ok (.goto 5, 3) := by decide +kernel
theorem dX3_leastFrom_109 : decode cX3_leastFrom 109 = .ok (.iload 6, 2) := by decide +kernel
theorem dX3_leastFrom_111 : decode cX3_leastFrom 111 = .ok (.ireturn, 1) := by decide +kernel
theorem dX3_isAlike_0 : decode cX3_isAlike 0 = .ok (.aload 4, 2) := by decide +kernel
theorem dX3_isAlike_2 : decode cX3_isAlike 2 = .ok (.aload_n 2, 1) := by decide +kernel
theorem dX3_isAlike_3 : decode cX3_isAlike 3 = .ok (.getfield 51, 3) := by decide +kernel
theorem dX3_isAlike_6 : decode cX3_isAlike 6 = .ok (.iload_n 0, 1) := by decide +kernel
theorem dX3_isAlike_7 : decode cX3_isAlike 7 = .ok (.iaload, 1) := by decide +kernel
theorem dX3_isAlike_8 : decode cX3_isAlike 8 = .ok (.iaload, 1) := by decide +kernel
theorem dX3_isAlike_9 : decode cX3_isAlike 9 = .ok (.aload 4, 2) := by decide +kernel
theorem dX3_isAlike_11 : decode cX3_isAlike 11 = .ok (.aload_n 3, 1) := by decide +kernel
theorem dX3_isAlike_12 : decode cX3_isAlike 12 = .ok (.getfield 51, 3) := by decide +kernel
theorem dX3_isAlike_15 : decode cX3_isAlike 15 = .ok (.iload_n 1, 1) := by decide +kernel
theorem dX3_isAlike_16 : decode cX3_isAlike 16 = .ok (.iaload, 1) := by decide +kernel
theorem dX3_isAlike_17 : decode cX3_isAlike 17 = .ok (.iaload, 1) := by decide +kernel
theorem dX3_isAlike_18 : decode cX3_isAlike 18 = .ok (.if_icmp .ne 7, 3) := by decide +kernel
theorem dX3_isAlike_21 : decode cX3_isAlike 21 = .ok (.iconst 1, 1) := by decide +kernel
theorem dX3_isAlike_22 : decode cX3_isAlike 22 = .ok (.goto 4, 3) := by decide +kernel
theorem dX3_isAlike_25 : decode cX3_isAlike 25 = .ok (.iconst 0, 1) := by decide +kernel
theorem dX3_isAlike_26 : decode cX3_isAlike 26 = .ok (.ireturn, 1) := by decide +kernel
set_option maxRecDepth 20000 in
theorem ggX3_pairedSum_X2_thickness : GoodIn wsX3_pairedSum wsX2_thickness := goodIn_r _ [10, 11, 12, 13, 14, 9, 15, 17, 18, 19] (by decide +kernel) (by decide +kernel)
set_option maxRecDepth 20000 in
theorem gX3_pairedSum_X2_thickness : GoodIn wsX3_pairedSum (wsV RX3 34 RX2 yX2_thickness wsX2_thickness) := goodIn_app (goodIn_of _ (by decide +kernel)) ggX3_pairedSum_X2_thickness
theorem dX3_pairedSum_0 : decode cX3_pairedSum 0 = .ok (.aload_n 3, 1) := by decide +kernel
theorem dX3_pairedSum_1 : decode cX3_pairedSum 1 = .ok (.iload_n 1, 1) := by decide +kernel
theorem dX3_pairedSum_2 : decode cX3_pairedSum 2 = .ok (.invokevirtual 34, 3) := by decide +kernel
theorem dX3_pairedSum_5 : decode cX3_pairedSum 5 = .ok (.aload 4, 2) := by decide +kernel
theorem dX3_pairedSum_7 : decode cX3_pairedSum 7 = .ok (.iload_n 2, 1) := by decide +kernel
theorem dX3_pairedSum_8 : decode cX3_pairedSum 8 = .ok (.invokevirtual 34, 3) := by decide +kernel
theorem dX3_pairedSum_11 : decode cX3_pairedSum 11 = .ok (.isub, 1) := by decide +kernel
theorem dX3_pairedSum_12 : decode cX3_pairedSum 12 = .ok (.invokestatic 55, 3) := by decide +kernel
theorem dX3_pairedSum_15 : decode cX3_pairedSum 15 = .ok (.aload_n 0, 1) := by decide +kernel
theorem dX3_pairedSum_16 : decode cX3_pairedSum 16 = .ok (.getfield 11, 3) := by decide +kernel
theorem dX3_pairedSum_19 : decode cX3_pairedSum 19 = .ok (.iload_n 1, 1) := by decide +kernel
theorem dX3_pairedSum_20 : decode cX3_pairedSum 20 = .ok (.iconst 1, 1) := by decide +kernel
theorem dX3_pairedSum_21 : decode cX3_pairedSum 21 = .ok (.iadd, 1) := by decide +kernel
theorem dX3_pairedSum_22 : decode cX3_pairedSum 22 = .ok (.aaload, 1) := by decide +kernel
theorem dX3_pairedSum_23 : decode cX3_pairedSum 23 = .ok (.iload_n 2, 1) := by decide +kernel
theorem dX3_pairedSum_24 : decode cX3_pairedSum 24 = .ok (.iconst 1, 1) := by decide +kernel
theorem dX3_pairedSum_25 : decode cX3_pairedSum 25 = .ok (.iadd, 1) := by decide +kernel
theorem dX3_pairedSum_26 : decode cX3_pairedSum 26 = .ok (.iaload, 1) := by decide +kernel
theorem dX3_pairedSum_27 : decode cX3_pairedSum 27 = .ok (.iadd, 1) := by decide +kernel
theorem dX3_pairedSum_28 : decode cX3_pairedSum 28 = .ok (.ireturn, 1) := by decide +kernel
set_option maxRecDepth 20000 in
theorem ggX3_partnerOf_X3_leastPartner : GoodIn wsX3_partnerOf wsX3_leastPartner := goodIn_r _ [5, 6, 7, 8, 9, 10, 11, 12, 13, 14, 15, 4, 16, 17, 18, 19, 20, 21, 22, 23, 24, 25, 26, 27, 28, 29, 30, 31, 32, 33, 34] (by decide +kernel) (by decide +kernel)
set_option maxRecDepth 20000 in
theorem gX3_partnerOf_X3_leastPartner : GoodIn wsX3_partnerOf (wsV RX3 58 RX3 yX3_leastPartner wsX3_leastPartner) := goodIn_app (goodIn_of _ (by decide +kernel)) ggX3_partnerOf_X3_leastPartner
theorem dX3_partnerOf_0 : decode cX3_partnerOf 0 = .ok (.iconst 0, 1) := by decide +kernel
theorem dX3_partnerOf_1 : decode cX3_partnerOf 1 = .ok (.istore 5, 2) := by decide +kernel
theorem dX3_partnerOf_3 : decode cX3_partnerOf 3 = .ok (.iconst (-1), 1) := by decide +kernel
theorem dX3_partnerOf_4 : decode cX3_partnerOf 4 = .ok (.istore 6, 2) := by decide +kernel
theorem dX3_partnerOf_6 : decode cX3_partnerOf 6 = .ok (.iconst 0, 1) := by decide +kernel
theorem dX3_partnerOf_7 : decode cX3_partnerOf 7 = .ok (.istore 7, 2) := by decide +kernel
theorem dX3_partnerOf_9 : decode cX3_partnerOf 9 = .ok (.iload 7, 2) := by decide +kernel
theorem dX3_partnerOf_11 : decode cX3_partnerOf 11 = .ok (.iload_n 1, 1) := by decide +kernel
theorem dX3_partnerOf_12 : decode cX3_partnerOf 12 = .ok (.if_icmp .gt 35, 3) := by decide +kernel
theorem dX3_partnerOf_15 : decode cX3_partnerOf 15 = .ok (.aload_n 0, 1) := by decide +kernel
theorem dX3_partnerOf_16 : decode cX3_partnerOf 16 = .ok (.iload 7, 2) := by decide +kernel
theorem dX3_partnerOf_18 : decode cX3_partnerOf 18 = .ok (.iload 5, 2) := by decide +kernel
theorem dX3_partnerOf_20 : decode cX3_partnerOf 20 = .ok (.aload_n 2, 1) := by decide +kernel
theorem dX3_partnerOf_21 : decode cX3_partnerOf 21 = .ok (.aload_n 3, 1) := by decide +kernel
theorem dX3_partnerOf_22 : decode cX3_partnerOf 22 = .ok (.aload 4, 2) := by decide +kernel
theorem dX3_partnerOf_24 : decode cX3_partnerOf 24 = .ok (.invokevirtual 58, 3) := by decide +kernel
theorem dX3_partnerOf_27 : decode cX3_partnerOf 27 = .ok (.istore 6, 2) := by decide +kernel
theorem dX3_partnerOf_29 : decode cX3_partnerOf 29 = .ok (.iload 6, 2) := by decide +kernel
theorem dX3_partnerOf_31 : decode cX3_partnerOf 31 = .ok (.iconst (-1), 1) := by decide +kernel
theorem dX3_partnerOf_32 : decode cX3_partnerOf 32 = .ok (.if_icmp .eq 9, 3) := by decide +kernel
theorem dX3_partnerOf_35 : decode cX3_partnerOf 35 = .ok (.iload 6, 2) := by decide +kernel
theorem dX3_partnerOf_37 : decode cX3_partnerOf 37 = .ok (.iconst 1, 1) := by decide +kernel
theorem dX3_partnerOf_38 : decode cX3_partnerOf 38 = .ok (.iadd, 1) := by decide +kernel
theorem dX3_partnerOf_39 : decode cX3_partnerOf 39 = .ok (.istore 5, 2) := by decide +kernel
theorem dX3_partnerOf_41 : decode cX3_partnerOf 41 = .ok (.iinc 7 1, 3) := by decide +kernel
theorem dX3_partnerOf_44 : decode cX3_partnerOf 44 = .ok (.goto (-35), 3) := by decide +kernel
theorem dX3_partnerOf_47 : decode cX3_partnerOf 47 = .ok (.iload 6, 2) := by decide +kernel
theorem dX3_partnerOf_49 : decode cX3_partnerOf 49 = .ok (.ireturn, 1) := by decide +kernel
set_option maxRecDepth 20000 in
theorem ggX3_leastPartner_X2_top : GoodIn wsX3_leastPartner wsX2_top := goodIn_r _ [7, 8, 27, 28, 29] (by decide +kernel) (by decide +kernel)
set_option maxRecDepth 20000 in
theorem gX3_leastPartner_X2_top : GoodIn wsX3_leastPartner (wsV RX3 30 RX2 yX2_top wsX2_top) := goodIn_app (goodIn_of _ (by decide +kernel)) ggX3_leastPartner_X2_top
set_option maxRecDepth 20000 in
theorem ggX3_leastPartner_X3_isAlike : GoodIn wsX3_leastPartner wsX3_isAlike := goodIn_r _ [12, 13, 27, 28, 29] (by decide +kernel) (by decide +kernel)
set_option maxRecDepth 20000 in
theorem gX3_leastPartner_X3_isAlike : GoodIn wsX3_leastPartner (va_wsS RX3 43 yX3_isAlike wsX3_isAlike) := goodIn_app (goodIn_of _ (by decide +kernel)) ggX3_leastPartner_X3_isAlike
set_option maxRecDepth 20000 in
theorem ggX3_leastPartner_X3_pairedSum : GoodIn wsX3_leastPartner wsX3_pairedSum := goodIn_r _ [17, 18, 19, 20, 21, 2, 22, 23, 24, 6, 25, 8, 26, 4, 5, 7, 30, 27, 28, 29] (by decide +kernel) (by decide +kernel)
set_option maxRecDepth 20000 in
theorem gX3_leastPartner_X3_pairedSum : GoodIn wsX3_leastPartner (wsV RX3 47 RX3 yX3_pairedSum wsX3_pairedSum) := goodIn_app (goodIn_of _ (by decide +kernel)) ggX3_leastPartner_X3_pairedSum
theorem dX3_leastPartner_0 : decode cX3_leastPartner 0 = .ok (.iload_n 2, 1) := by decide +kernel
theorem dX3_leastPartner_1 : decode cX3_leastPartner 1 = .ok (.istore 6, 2) := by decide +kernel
theorem dX3_leastPartner_3 : decode cX3_leastPartner 3 = .ok (.iload 6, 2) := by decide +kernel
theorem dX3_leastPartner_5 : decode cX3_leastPartner 5 = .ok (.aload 4, 2) := by decide +kernel
theorem dX3_leastPartner_7 : decode cX3_leastPartner 7 = .ok (.getfield 16, 3) := by decide +kernel
theorem dX3_leastPartner_10 : decode cX3_leastPartner 10 = .ok (.if_icmp .ge 66, 3) := by decide +kernel
theorem dX3_leastPartner_13 : decode cX3_leastPartner 13 = .ok (.aload 4, 2) := by decide +kernel
theorem dX3_leastPartner_15 : decode cX3_leastPartner 15 = .ok (.iload 6, 2) := by decide +kernel
theorem dX3_leastPartner_17 : decode cX3_leastPartner 17 = .ok (.invokevirtual 30, 3) := by decide +kernel
theorem dX3_leastPartner_20 : decode cX3_leastPartner 20 = .ok (.aload 4, 2) := by decide +kernel
theorem dX3_leastPartner_22 : decode cX3_leastPartner 22 = .ok (.iload_n 2, 1) := by decide +kernel
theorem dX3_leastPartner_23 : decode cX3_leastPartner 23 = .ok (.invokevirtual 30, 3) := by decide +kernel
theorem dX3_leastPartner_26 : decode cX3_leastPartner 26 = .ok (.isub, 1) := by decide +kernel
theorem dX3_leastPartner_27 : decode cX3_leastPartner 27 = .ok (.istore 7, 2) := by decide +kernel
theorem dX3_leastPartner_29 : decode cX3_leastPartner 29 = .ok (.iload_n 1, 1) := by decide +kernel
theorem dX3_leastPartner_30 : decode cX3_leastPartner 30 = .ok (.iload 6, 2) := by decide +kernel
theorem dX3_leastPartner_32 : decode cX3_leastPartner 32 = .ok (.aload_n 3, 1) := by decide +kernel
theorem dX3_leastPartner_33 : decode cX3_leastPartner 33 = .ok (.aload 4, 2) := by decide +kernel
theorem dX3_leastPartner_35 : decode cX3_leastPartner 35 = .ok (.aload 5, 2) := by decide +kernel
theorem dX3_leastPartner_37 : decode cX3_leastPartner 37 = .ok (.invokestatic 43, 3) := by decide +kernel
theorem dX3_leastPartner_40 : decode cX3_leastPartner 40 = .ok (.ifCond .eq 30, 3) := by decide +kernel
theorem dX3_leastPartner_43 : decode cX3_leastPartner 43 = .ok (.iload 7, 2) := by decide +kernel
theorem dX3_leastPartner_45 : decode cX3_leastPartner 45 = .ok (.aload_n 0, 1) := by decide +kernel
theorem dX3_leastPartner_46 : decode cX3_leastPartner 46 = .ok (.iload_n 1, 1) := by decide +kernel
theorem dX3_leastPartner_47 : decode cX3_leastPartner 47 = .ok (.iload 6, 2) := by decide +kernel
theorem dX3_leastPartner_49 : decode cX3_leastPartner 49 = .ok (.aload_n 3, 1) := by decide +kernel
theorem dX3_leastPartner_50 : decode cX3_leastPartner 50 = .ok (.aload 4, 2) := by decide +kernel
theorem dX3_leastPartner_52 : decode cX3_leastPartner 52 = .ok (.invokevirtual 47, 3) := by decide +kernel
theorem dX3_leastPartner_55 : decode cX3_leastPartner 55 = .ok (.iadd, 1) := by decide +kernel
theorem dX3_leastPartner_56 : decode cX3_leastPartner 56 = .ok (.aload_n 0, 1) := by decide +kernel
theorem dX3_leastPartner_57 : decode cX3_leastPartner 57 = .ok (.getfield 11, 3) := by decide +kernel
theorem dX3_leastPartner_60 : decode cX3_leastPartner 60 = .ok (.iload_n 1, 1) := by decide +kernel
theorem dX3_leastPartner_61 : decode cX3_leastPartner 61 = .ok (.aaload, 1) := by decide +kernel
theorem dX3_leastPartner_62 : decode cX3_leastPartner 62 = .ok (.iload_n 2, 1) := by decide +kernel
theorem dX3_leastPartner_63 : decode cX3_leastPartner 63 = .ok (.iaload, 1) := by decide +kernel
theorem dX3_leastPartner_64 : decode cX3_leastPartner 64 = .ok (.if_icmp .ne 6, 3) := by decide +kernel
theorem dX3_leastPartner_67 : decode cX3_leastPartner 67 = .ok (.iload 6, 2) := by decide +kernel
theorem dX3_leastPartner_69 : decode cX3_leastPartner 69 = .ok (.ireturn, 1) := by decide +kernel
theorem dX3_leastPartner_70 : decode cX3_leastPartner 70 = .ok (.iinc 6 1, 3) := by decide +kernel
theorem dX3_leastPartner_73 : decode cX3_leastPartner 73 = .ok (.goto (-70), 3) := by decide +kernel
theorem dX3_leastPartner_76 : decode cX3_leastPartner 76 = .ok (.iconst (-1), 1) := by decide +kernel
theorem dX3_leastPartner_77 : decode cX3_leastPartner 77 = .ok (.ireturn, 1) := by decide +kernel
theorem dX4_init_0 : decode cX4_init 0 = .ok (.aload_n 0, 1) := by decide +kernel
theorem dX4_init_1 : decode cX4_init 1 = .ok (.invokespecial 3, 3) := by decide +kernel
theorem dX4_init_4 : decode cX4_init 4 = .ok (.aload_n 0, 1) := by decide +kernel
theorem dX4_init_5 : decode cX4_init 5 = .ok (.bipush 20, 2) := by decide +kernel
theorem dX4_init_7 : decode cX4_init 7 = .ok (.newarray .int, 2) := by decide +kernel
theorem dX4_init_9 : decode cX4_init 9 = .ok (.putfield 9, 3) := by decide +kernel
theorem dX4_init_12 : decode cX4_init 12 = .ok (.aload_n 0, 1) := by decide +kernel
theorem dX4_init_13 : decode cX4_init 13 = .ok (.bipush 20, 2) := by decide +kernel
theorem dX4_init_15 : decode cX4_init 15 = .ok (.newarray .boolean, 2) := by decide +kernel
theorem dX4_init_17 : decode cX4_init 17 = .ok (.putfield 15, 3) := by decide +kernel
theorem dX4_init_20 : decode cX4_init 20 = .ok (.return_, 1) := by decide +kernel
set_option maxRecDepth 20000 in
theorem ggX4_choose_X4_measure : GoodIn wsX4_choose wsX4_measure := goodIn_r _ [9, 1, 4, 3, 10, 11, 12, 13, 14, 15, 16, 17, 8, 18, 19, 20, 21, 22, 23, 24, 25, 26, 27, 28] (by decide +kernel) (by decide +kernel)
set_option maxRecDepth 20000 in
theorem gX4_choose_X4_measure : GoodIn wsX4_choose (wsV RX4 19 RX4 yX4_measure wsX4_measure) := goodIn_app (goodIn_of _ (by decide +kernel)) ggX4_choose_X4_measure
theorem dX4_choose_0 : decode cX4_choose 0 = .ok (.aload_n 0, 1) := by decide +kernel
theorem dX4_choose_1 : decode cX4_choose 1 = .ok (.aload_n 1, 1) := by decide +kernel
theorem dX4_choose_2 : decode cX4_choose 2 = .ok (.invokevirtual 19, 3) := by decide +kernel
theorem dX4_choose_5 : decode cX4_choose 5 = .ok (.istore_n 2, 1) := by decide +kernel
theorem dX4_choose_6 : decode cX4_choose 6 = .ok (.iload_n 2, 1) := by decide +kernel
theorem dX4_choose_7 : decode cX4_choose 7 = .ok (.istore_n 3, 1) := by decide +kernel
theorem dX4_choose_8 : decode cX4_choose 8 = .ok (.iconst (-1), 1) := by decide +kernel
theorem dX4_choose_9 : decode cX4_choose 9 = .ok (.istore 4, 2) := by decide +kernel
theorem dX4_choose_11 : decode cX4_choose 11 = .ok (.iconst 0, 1) := by decide +kernel
theorem dX4_choose_12 : decode cX4_choose 12 = .ok (.istore 5, 2) := by decide +kernel
theorem dX4_choose_14 : decode cX4_choose 14 = .ok (.iload 5, 2) := by decide +kernel
theorem dX4_choose_16 : decode cX4_choose 16 = .ok (.aload_n 1, 1) := by decide +kernel
theorem dX4_choose_17 : decode cX4_choose 17 = .ok (.getfield 23, 3) := by decide +kernel
theorem dX4_choose_20 : decode cX4_choose 20 = .ok (.if_icmp .ge 70, 3) := by decide +kernel
theorem dX4_choose_23 : decode cX4_choose 23 = .ok (.aload_n 0, 1) := by decide +kernel
theorem dX4_choose_24 : decode cX4_choose 24 = .ok (.getfield 15, 3) := by decide +kernel
theorem dX4_choose_27 : decode cX4_choose 27 = .ok (.iload 5, 2) := by decide +kernel
theorem dX4_choose_29 : decode cX4_choose 29 = .ok (.iload_n 3, 1) := by decide +kernel
theorem dX4_choose_30 : decode cX4_choose 30 = .ok (.ifCond .le 30, 3) := by decide +kernel
theorem dX4_choose_33 : decode cX4_choose 33 = .ok (.aload_n 1, 1) := by decide +kernel
theorem dX4_choose_34 : decode cX4_choose 34 = .ok (.getfield 29, 3) := by decide +kernel
theorem dX4_choose_37 : decode cX4_choose 37 = .ok (.iload 5, 2) := by decide +kernel
theorem dX4_choose_39 : decode cX4_choose 39 = .ok (.iaload, 1) := by decide +kernel
theorem dX4_choose_40 : decode cX4_choose 40 = .ok (.iload 4, 2) := by decide +kernel
theorem dX4_choose_42 : decode cX4_choose 42 = .ok (.if_icmp .le 18, 3) := by decide +kernel
theorem dX4_choose_45 : decode cX4_choose 45 = .ok (.aload_n 0, 1) := by decide +kernel
theorem dX4_choose_46 : decode cX4_choose 46 = .ok (.getfield 9, 3) := by decide +kernel
theorem dX4_choose_49 : decode cX4_choose 49 = .ok (.iload 5, 2) := by decide +kernel
theorem dX4_choose_51 : decode cX4_choose 51 = .ok (.iaload, 1) := by decide +kernel
theorem dX4_choose_52 : decode cX4_choose 52 = .ok (.iload_n 3, 1) := by decide +kernel
theorem dX4_choose_53 : decode cX4_choose 53 = .ok (.if_icmp .ne 7, 3) := by decide +kernel
theorem dX4_choose_56 : decode cX4_choose 56 = .ok (.iconst 1, 1) := by decide +kernel
theorem dX4_choose_57 : decode cX4_choose 57 = .ok (.goto 4, 3) := by decide +kernel
theorem dX4_choose_60 : decode cX4_choose 60 = .ok (.iconst 0, 1) := by decide +kernel
theorem dX4_choose_61 : decode cX4_choose 61 = .ok (.bastore, 1) := by decide +kernel
theorem dX4_choose_62 : decode cX4_choose 62 = .ok (.aload_n 0, 1) := by decide +kernel
theorem dX4_choose_63 : decode cX4_choose 63 = .ok (.getfield 15, 3) := by decide +kernel
theorem dX4_choose_66 : decode cX4_choose 66 = .ok (.iload 5, 2) := by decide +kernel
theorem dX4_choose_68 : decode cX4_choose 68 = .ok (.baload, 1) := by decide +kernel
theorem dX4_choose_69 : decode cX4_choose 69 = .ok (.ifCond .eq 15, 3) := by decide +kernel
theorem dX4_choose_72 : decode cX4_choose 72 = .ok (.aload_n 1, 1) := by decide +kernel
theorem dX4_choose_73 : decode cX4_choose 73 = .ok (.getfield 29, 3) := by decide +kernel
theorem dX4_choose_76 : decode cX4_choose 76 = .ok (.iload 5, 2) := by decide +kernel
theorem dX4_choose_78 : decode cX4_choose 78 = .ok (.iaload, 1) := by decide +kernel
theorem dX4_choose_79 : decode cX4_choose 79 = .ok (.istore 4, 2) := by decide +kernel
theorem dX4_choose_81 : decode cX4_choose 81 = .ok (.iinc 3 (-1), 3) := by decide +kernel
theorem dX4_choose_84 : decode cX4_choose 84 = .ok (.iinc 5 1, 3) := by decide +kernel
theorem dX4_choose_87 : decode cX4_choose 87 = .ok (.goto (-73), 3) := by decide +kernel
theorem dX4_choose_90 : decode cX4_choose 90 = .ok (.iload_n 2, 1) := by decide +kernel
theorem dX4_choose_91 : decode cX4_choose 91 = .ok (.ireturn, 1) := by decide +kernel
set_option maxRecDepth 20000 in
theorem ggX4_measure_X4_mostAbove : GoodIn wsX4_measure wsX4_mostAbove := goodIn_r _ [13, 1, 3, 2, 5, 6, 7, 8, 14, 15, 16, 17, 18, 19, 20, 21, 22, 23] (by decide +kernel) (by decide +kernel)
set_option maxRecDepth 20000 in
theorem gX4_measure_X4_mostAbove : GoodIn wsX4_measure (wsV RX4 35 RX4 yX4_mostAbove wsX4_mostAbove) := goodIn_app (goodIn_of _ (by decide +kernel)) ggX4_measure_X4_mostAbove
theorem dX4_measure_0 : decode cX4_measure 0 = .ok (.iconst 0, 1) := by decide +kernel
theorem dX4_measure_1 : decode cX4_measure 1 = .ok (.istore_n 2, 1) := by decide +kernel
theorem dX4_measure_2 : decode cX4_measure 2 = .ok (.aload_n 1, 1) := by decide +kernel
theorem dX4_measure_3 : decode cX4_measure 3 = .ok (.getfield 23, 3) := by decide +kernel
theorem dX4_measure_6 : decode cX4_measure 6 = .ok (.iconst 1, 1) := by decide +kernel
theorem dX4_measure_7 : decode cX4_measure 7 = .ok (.isub, 1) := by decide +kernel
theorem dX4_measure_8 : decode cX4_measure 8 = .ok (.istore_n 3, 1) := by decide +kernel
theorem dX4_measure_9 : decode cX4_measure 9 = .ok (.iload_n 3, 1) := by decide +kernel
theorem dX4_measure_10 : decode cX4_measure 10 = .ok (.ifCond .lt 51, 3) := by decide +kernel
theorem dX4_measure_13 : decode cX4_measure 13 = .ok (.aload_n 0, 1) := by decide +kernel
theorem dX4_measure_14 : decode cX4_measure 14 = .ok (.getfield 9, 3) := by decide +kernel
theorem dX4_measure_17 : decode cX4_measure 17 = .ok (.iload_n 3, 1) := by decide +kernel
theorem dX4_measure_18 : decode cX4_measure 18 = .ok (.aload_n 1, 1) := by decide +kernel
theorem dX4_measure_19 : decode cX4_measure 19 = .ok (.getfield 29, 3) := by decide +kernel
theorem dX4_measure_22 : decode cX4_measure 22 = .ok (.iload_n 3, 1) := by decide +kernel
theorem dX4_measure_23 : decode cX4_measure 23 = .ok (.iaload, 1) := by decide +kernel
theorem dX4_measure_24 : decode cX4_measure 24 = .ok (.aload_n 1, 1) := by decide +kernel
theorem dX4_measure_25 : decode cX4_measure 25 = .ok (.getfield 32, 3) := by decide +kernel
theorem dX4_measure_28 : decode cX4_measure 28 = .ok (.if_icmp .le 7, 3) := by decide +kernel
theorem dX4_measure_31 : decode cX4_measure 31 = .ok (.iconst 0, 1) := by decide +kernel
theorem dX4_measure_32 : decode cX4_measure 32 = .ok (.goto 11, 3) := by decide +kernel
theorem dX4_measure_35 : decode cX4_measure 35 = .ok (.iconst 1, 1) := by decide +kernel
theorem dX4_measure_36 : decode cX4_measure 36 = .ok (.aload_n 0, 1) := by decide +kernel
theorem dX4_measure_37 : decode cX4_measure 37 = .ok (.aload_n 1, 1) := by decide +kernel
theorem dX4_measure_38 : decode cX4_measure 38 = .ok (.iload_n 3, 1) := by decide +kernel
theorem dX4_measure_39 : decode cX4_measure 39 = .ok (.invokevirtual 35, 3) := by decide +kernel
theorem dX4_measure_42 : decode cX4_measure 42 = .ok (.iadd, 1) := by decide +kernel
theorem dX4_measure_43 : decode cX4_measure 43 = .ok (.iastore, 1) := by decide +kernel
theorem dX4_measure_44 : decode cX4_measure 44 = .ok (.iload_n 2, 1) := by decide +kernel
theorem dX4_measure_45 : decode cX4_measure 45 = .ok (.aload_n 0, 1) := by decide +kernel
theorem dX4_measure_46 : decode cX4_measure 46 = .ok (.getfield 9, 3) := by decide +kernel
theorem dX4_measure_49 : decode cX4_measure 49 = .ok (.iload_n 3, 1) := by decide +kernel
theorem dX4_measure_50 : decode cX4_measure 50 = .ok (.iaload, 1) := by decide +kernel
theorem dX4_measure_51 : decode cX4_measure 51 = .ok (.invokestatic 39, 3) := by decide +kernel
theorem dX4_measure_54 : decode cX4_measure 54 = .ok (.istore_n 2, 1) := by decide +kernel
theorem dX4_measure_55 : decode cX4_measure 55 = .ok (.iinc 3 (-1), 3) := by decide +kernel
theorem dX4_measure_58 : decode cX4_measure 58 = .ok (.goto (-49), 3) := by decide +kernel
theorem dX4_measure_61 : decode cX4_measure 61 = .ok (.iload_n 2, 1) := by decide +kernel
theorem dX4_measure_62 : decode cX4_measure 62 = .ok (.ireturn, 1) := by decide +kernel
theorem dX4_mostAbove_0 : decode cX4_mostAbove 0 = .ok (.iconst 0, 1) := by decide +kernel
theorem dX4_mostAbove_1 : decode cX4_mostAbove 1 = .ok (.istore_n 3, 1) := by decide +kernel
theorem dX4_mostAbove_2 : decode cX4_mostAbove 2 = .ok (.iload_n 2, 1) := by decide +kernel
theorem dX4_mostAbove_3 : decode cX4_mostAbove 3 = .ok (.iconst 1, 1) := by decide +kernel
theorem dX4_mostAbove_4 : decode cX4_mostAbove 4 = .ok (.iadd, 1) := by decide +kernel
theorem dX4_mostAbove_5 : decode cX4_mostAbove 5 = .ok (.istore 4, 2) := by decide +kernel
theorem dX4_mostAbove_7 : decode cX4_mostAbove 7 = .ok (.iload 4, 2) := by decide +kernel
theorem dX4_mostAbove_9 : decode cX4_mostAbove 9 = .ok (.aload_n 1, 1) := by decide +kernel
theorem dX4_mostAbove_10 : decode cX4_mostAbove 10 = .ok (.getfield 23, 3) := by decide +kernel
theorem dX4_mostAbove_13 : decode cX4_mostAbove 13 = .ok (.if_icmp .ge 37, 3) := by decide +kernel
theorem dX4_mostAbove_16 : decode cX4_mostAbove 16 = .ok (.aload_n 1, 1) := by decide +kernel
theorem dX4_mostAbove_17 : decode cX4_mostAbove 17 = .ok (.getfield 29, 3) := by decide +kernel
theorem dX4_mostAbove_20 : decode cX4_mostAbove 20 = .ok (.iload 4, 2) := by decide +kernel
theorem dX4_mostAbove_22 : decode cX4_mostAbove 22 = .ok (.iaload, 1) := by decide +kernel
theorem dX4_mostAbove_23 : decode cX4_mostAbove 23 = .ok (.aload_n 1, 1) := by decide +kernel
theorem dX4_mostAbove_24 : decode cX4_mostAbove 24 = .ok (.getfield 29, 3) := by decide +kernel
theorem dX4_mostAbove_27 : decode cX4_mostAbove 27 = .ok (.iload_n 2, 1) := by decide +kernel
theorem dX4_mostAbove_28 : decode cX4_mostAbove 28 = .ok (.iaload, 1) := by decide +kernel
theorem dX4_mostAbove_29 : decode cX4_mostAbove 29 = .ok (.if_icmp .le 15, 3) := by decide +kernel
theorem dX4_mostAbove_32 : decode cX4_mostAbove 32 = .ok (.iload_n 3, 1) := by decide +kernel
theorem dX4_mostAbove_33 : decode cX4_mostAbove 33 = .ok (.aload_n 0, 1) := by decide +kernel
theorem dX4_mostAbove_34 : decode cX4_mostAbove 34 = .ok (.getfield 9, 3) := by decide +kernel
theorem dX4_mostAbove_37 : decode cX4_mostAbove 37 = .ok (.iload 4, 2) := by decide +kernel
theorem dX4_mostAbove_39 : decode cX4_mostAbove 39 = .ok (.iaload, 1) := by decide +kernel
theorem dX4_mostAbove_40 : decode cX4_mostAbove 40 = .ok (.invokestatic 39, 3) := by decide +kernel
theorem dX4_mostAbove_43 : decode cX4_mostAbove 43 = .ok (.istore_n 3, 1) := by decide +kernel
theorem dX4_mostAbove_44 : decode cX4_mostAbove 44 = .ok (.iinc 4 1, 3) := by decide +kernel
theorem dX4_mostAbove_47 : decode cX4_mostAbove 47 = .ok (.goto (-40), 3) := by decide +kernel
theorem dX4_mostAbove_50 : decode cX4_mostAbove 50 = .ok (.iload_n 3, 1) := by decide +kernel
theorem dX4_mostAbove_51 : decode cX4_mostAbove 51 = .ok (.ireturn, 1) := by decide +kernel
theorem dX5_init_0 : decode cX5_init 0 = .ok (.aload_n 0, 1) := by decide +kernel
theorem dX5_init_1 : decode cX5_init 1 = .ok (.invokespecial 1, 3) := by decide +kernel
theorem dX5_init_4 : decode cX5_init 4 = .ok (.aload_n 0, 1) := by decide +kernel
theorem dX5_init_5 : decode cX5_init 5 = .ok (.iload_n 1, 1) := by decide +kernel
theorem dX5_init_6 : decode cX5_init 6 = .ok (.putfield 7, 3) := by decide +kernel
theorem dX5_init_9 : decode cX5_init 9 = .ok (.aload_n 0, 1) := by decide +kernel
theorem dX5_init_10 : decode cX5_init 10 = .ok (.iload_n 2, 1) := by decide +kernel
theorem dX5_init_11 : decode cX5_init 11 = .ok (.putfield 13, 3) := by decide +kernel
theorem dX5_init_14 : decode cX5_init 14 = .ok (.aload_n 0, 1) := by decide +kernel
theorem dX5_init_15 : decode cX5_init 15 = .ok (.iload_n 3, 1) := by decide +kernel
theorem dX5_init_16 : decode cX5_init 16 = .ok (.putfield 16, 3) := by decide +kernel
theorem dX5_init_19 : decode cX5_init 19 = .ok (.return_, 1) := by decide +kernel
theorem dX5_lower_0 : decode cX5_lower 0 = .ok (.aload_n 0, 1) := by decide +kernel
theorem dX5_lower_1 : decode cX5_lower 1 = .ok (.getfield 19, 3) := by decide +kernel
theorem dX5_lower_4 : decode cX5_lower 4 = .ok (.iconst 0, 1) := by decide +kernel
theorem dX5_lower_5 : decode cX5_lower 5 = .ok (.invokestatic 22, 3) := by decide +kernel
theorem dX5_lower_8 : decode cX5_lower 8 = .ok (.ireturn, 1) := by decide +kernel
theorem dX5_upper_0 : decode cX5_upper 0 = .ok (.aload_n 0, 1) := by decide +kernel
theorem dX5_upper_1 : decode cX5_upper 1 = .ok (.getfield 19, 3) := by decide +kernel
theorem dX5_upper_4 : decode cX5_upper 4 = .ok (.ifCond .ge 13, 3) := by decide +kernel
theorem dX5_upper_7 : decode cX5_upper 7 = .ok (.aload_n 0, 1) := by decide +kernel
theorem dX5_upper_8 : decode cX5_upper 8 = .ok (.getfield 19, 3) := by decide +kernel
theorem dX5_upper_11 : decode cX5_upper 11 = .ok (.ineg, 1) := by decide +kernel
theorem dX5_upper_12 : decode cX5_upper 12 = .ok (.iconst 1, 1) := by decide +kernel
theorem dX5_upper_13 : decode cX5_upper 13 = .ok (.isub, 1) := by decide +kernel
theorem dX5_upper_14 : decode cX5_upper 14 = .ok (.goto 7, 3) := by decide +kernel
theorem dX5_upper_17 : decode cX5_upper 17 = .ok (.aload_n 0, 1) := by decide +kernel
theorem dX5_upper_18 : decode cX5_upper 18 = .ok (.getfield 19, 3) := by decide +kernel
theorem dX5_upper_21 : decode cX5_upper 21 = .ok (.ireturn, 1) := by decide +kernel
set_option maxRecDepth 20000 in
theorem ggX5_endOn_X5_lower : GoodIn wsX5_endOn wsX5_lower := goodIn_r _ [5, 6, 7, 8, 9, 10, 15, 16, 17, 18, 19] (by decide +kernel) (by decide +kernel)
set_option maxRecDepth 20000 in
theorem gX5_endOn_X5_lower : GoodIn wsX5_endOn (wsV RX5 28 RX5 yX5_lower wsX5_lower) := goodIn_app (goodIn_of _ (by decide +kernel)) ggX5_endOn_X5_lower
set_option maxRecDepth 20000 in
theorem ggX5_endOn_X5_upper : GoodIn wsX5_endOn wsX5_upper := goodIn_r _ [14, 6, 15, 16, 17, 18, 19] (by decide +kernel) (by decide +kernel)
set_option maxRecDepth 20000 in
theorem gX5_endOn_X5_upper : GoodIn wsX5_endOn (wsV RX5 32 RX5 yX5_upper wsX5_upper) := goodIn_app (goodIn_of _ (by decide +kernel)) ggX5_endOn_X5_upper
theorem dX5_endOn_0 : decode cX5_endOn 0 = .ok (.iload_n 1, 1) := by decide +kernel
theorem dX5_endOn_1 : decode cX5_endOn 1 = .ok (.ifCond .ne 10, 3) := by decide +kernel
theorem dX5_endOn_4 : decode cX5_endOn 4 = .ok (.aload_n 0, 1) := by decide +kernel
theorem dX5_endOn_5 : decode cX5_endOn 5 = .ok (.invokevirtual 28, 3) := by decide +kernel
theorem dX5_endOn_8 : decode cX5_endOn 8 = .ok (.goto 7, 3) := by decide +kernel
theorem dX5_endOn_11 : decode cX5_endOn 11 = .ok (.aload_n 0, 1) := by decide +kernel
theorem dX5_endOn_12 : decode cX5_endOn 12 = .ok (.invokevirtual 32, 3) := by decide +kernel
theorem dX5_endOn_15 : decode cX5_endOn 15 = .ok (.ireturn, 1) := by decide +kernel
theorem dX5_exchangeResult_0 : decode cX5_exchangeResult 0 = .ok (.aload_n 0, 1) := by decide +kernel
theorem dX5_exchangeResult_1 : decode cX5_exchangeResult 1 = .ok (.getfield 19, 3) := by decide +kernel
theorem dX5_exchangeResult_4 : decode cX5_exchangeResult 4 = .ok (.istore_n 2, 1) := by decide +kernel
theorem dX5_exchangeResult_5 : decode cX5_exchangeResult 5 = .ok (.aload_n 0, 1) := by decide +kernel
theorem dX5_exchangeResult_6 : decode cX5_exchangeResult 6 = .ok (.aload_n 1, 1) := by decide +kernel
theorem dX5_exchangeResult_7 : decode cX5_exchangeResult 7 = .ok (.getfield 19, 3) := by decide +kernel
theorem dX5_exchangeResult_10 : decode cX5_exchangeResult 10 = .ok (.putfield 19, 3) := by decide +kernel
theorem dX5_exchangeResult_13 : decode cX5_exchangeResult 13 = .ok (.aload_n 1, 1) := by decide +kernel
theorem dX5_exchangeResult_14 : decode cX5_exchangeResult 14 = .ok (.iload_n 2, 1) := by decide +kernel
theorem dX5_exchangeResult_15 : decode cX5_exchangeResult 15 = .ok (.putfield 19, 3) := by decide +kernel
theorem dX5_exchangeResult_18 : decode cX5_exchangeResult 18 = .ok (.return_, 1) := by decide +kernel
theorem dX5_told_0 : decode cX5_told 0 = .ok (.iload_n 1, 1) := by decide +kernel
theorem dX5_told_1 : decode cX5_told 1 = .ok (.tableswitch 59 0 3 #[31, 36, 41, 46], 31) := by decide +kernel
theorem dX5_told_32 : decode cX5_told 32 = .ok (.aload_n 0, 1) := by decide +kernel
theorem dX5_told_33 : decode cX5_told 33 = .ok (.getfield 7, 3) := by decide +kernel
theorem dX5_told_36 : decode cX5_told 36 = .ok (.ireturn, 1) := by decide +kernel
theorem dX5_told_37 : decode cX5_told 37 = .ok (.aload_n 0, 1) := by decide +kernel
theorem dX5_told_38 : decode cX5_told 38 = .ok (.getfield 13, 3) := by decide +kernel
theorem dX5_told_41 : decode cX5_told 41 = .ok (.ireturn, 1) := by decide +kernel
theorem dX5_told_42 : decode cX5_told 42 = .ok (.aload_n 0, 1) := by decide +kernel
theorem dX5_told_43 : decode cX5_told 43 = .ok (.getfield 16, 3) := by decide +kernel
theorem dX5_told_46 : decode cX5_told 46 = .ok (.ireturn, 1) := by decide +kernel
theorem dX5_told_47 : decode cX5_told 47 = .ok (.aload_n 0, 1) := by decide +kernel
theorem dX5_told_48 : decode cX5_told 48 = .ok (.getfield 35, 3) := by decide +kernel
theorem dX5_told_51 : decode cX5_told 51 = .ok (.ifCond .eq 7, 3) := by decide +kernel
theorem dX5_told_54 : decode cX5_told 54 = .ok (.iconst 1, 1) := by decide +kernel
theorem dX5_told_55 : decode cX5_told 55 = .ok (.goto 4, 3) := by decide +kernel
theorem dX5_told_58 : decode cX5_told 58 = .ok (.iconst 0, 1) := by decide +kernel
theorem dX5_told_59 : decode cX5_told 59 = .ok (.ireturn, 1) := by decide +kernel
theorem dX5_told_60 : decode cX5_told 60 = .ok (.aload_n 0, 1) := by decide +kernel
theorem dX5_told_61 : decode cX5_told 61 = .ok (.getfield 19, 3) := by decide +kernel
theorem dX5_told_64 : decode cX5_told 64 = .ok (.ireturn, 1) := by decide +kernel
theorem dX6_init_0 : decode cX6_init 0 = .ok (.aload_n 0, 1) := by decide +kernel
theorem dX6_init_1 : decode cX6_init 1 = .ok (.invokespecial 3, 3) := by decide +kernel
theorem dX6_init_4 : decode cX6_init 4 = .ok (.aload_n 0, 1) := by decide +kernel
theorem dX6_init_5 : decode cX6_init 5 = .ok (.iconst 4, 1) := by decide +kernel
theorem dX6_init_6 : decode cX6_init 6 = .ok (.putfield 9, 3) := by decide +kernel
theorem dX6_init_9 : decode cX6_init 9 = .ok (.aload_n 0, 1) := by decide +kernel
theorem dX6_init_10 : decode cX6_init 10 = .ok (.iload_n 1, 1) := by decide +kernel
theorem dX6_init_11 : decode cX6_init 11 = .ok (.putfield 15, 3) := by decide +kernel
theorem dX6_init_14 : decode cX6_init 14 = .ok (.aload_n 0, 1) := by decide +kernel
theorem dX6_init_15 : decode cX6_init 15 = .ok (.iload_n 2, 1) := by decide +kernel
theorem dX6_init_16 : decode cX6_init 16 = .ok (.putfield 18, 3) := by decide +kernel
theorem dX6_init_19 : decode cX6_init 19 = .ok (.aload_n 0, 1) := by decide +kernel
theorem dX6_init_20 : decode cX6_init 20 = .ok (.iload_n 3, 1) := by decide +kernel
theorem dX6_init_21 : decode cX6_init 21 = .ok (.putfield 21, 3) := by decide +kernel
theorem dX6_init_24 : decode cX6_init 24 = .ok (.return_, 1) := by decide +kernel
set_option maxRecDepth 20000 in
theorem ggX6_unitsWithin_X7_unitsInCommon : GoodIn wsX6_unitsWithin wsX7_unitsInCommon := goodIn_r _ [6, 7, 8, 9, 10, 11, 12, 13] (by decide +kernel) (by decide +kernel)
set_option maxRecDepth 20000 in
theorem gX6_unitsWithin_X7_unitsInCommon_n24 : GoodIn wsX6_unitsWithin (wsX7_unitsInCommon) := ggX6_unitsWithin_X7_unitsInCommon
theorem dX6_unitsWithin_0 : decode cX6_unitsWithin 0 = .ok (.aload_n 0, 1) := by decide +kernel
theorem dX6_unitsWithin_1 : decode cX6_unitsWithin 1 = .ok (.getfield 15, 3) := by decide +kernel
theorem dX6_unitsWithin_4 : decode cX6_unitsWithin 4 = .ok (.iload_n 1, 1) := by decide +kernel
theorem dX6_unitsWithin_5 : decode cX6_unitsWithin 5 = .ok (.if_icmp .ne 19, 3) := by decide +kernel
theorem dX6_unitsWithin_8 : decode cX6_unitsWithin 8 = .ok (.aload_n 0, 1) := by decide +kernel
theorem dX6_unitsWithin_9 : decode cX6_unitsWithin 9 = .ok (.getfield 18, 3) := by decide +kernel
theorem dX6_unitsWithin_12 : decode cX6_unitsWithin 12 = .ok (.aload_n 0, 1) := by decide +kernel
theorem dX6_unitsWithin_13 : decode cX6_unitsWithin 13 = .ok (.getfield 21, 3) := by decide +kernel
theorem dX6_unitsWithin_16 : decode cX6_unitsWithin 16 = .ok (.iload_n 2, 1) := by decide +kernel
theorem dX6_unitsWithin_17 : decode cX6_unitsWithin 17 = .ok (.iload_n 3, 1) := by decide +kernel
theorem dX6_unitsWithin_18 : decode cX6_unitsWithin 18 = .ok (.invokestatic 24, 3) := by decide +kernel
theorem dX6_unitsWithin_21 : decode cX6_unitsWithin 21 = .ok (.goto 4, 3) := by decide +kernel
theorem dX6_unitsWithin_24 : decode cX6_unitsWithin 24 = .ok (.iconst 0, 1) := by decide +kernel
theorem dX6_unitsWithin_25 : decode cX6_unitsWithin 25 = .ok (.ireturn, 1) := by decide +kernel
set_option maxRecDepth 20000 in
theorem ggX6_digestOnto_X7_mixed : GoodIn wsX6_digestOnto wsX7_mixed := goodIn_r _ [7, 8] (by decide +kernel) (by decide +kernel)
set_option maxRecDepth 20000 in
theorem gX6_digestOnto_X7_mixed_n28 : GoodIn wsX6_digestOnto (wsX7_mixed) := ggX6_digestOnto_X7_mixed
theorem dX6_digestOnto_0 : decode cX6_digestOnto 0 = .ok (.lload_n 1, 1) := by decide +kernel
theorem dX6_digestOnto_1 : decode cX6_digestOnto 1 = .ok (.aload_n 0, 1) := by decide +kernel
theorem dX6_digestOnto_2 : decode cX6_digestOnto 2 = .ok (.getfield 15, 3) := by decide +kernel
theorem dX6_digestOnto_5 : decode cX6_digestOnto 5 = .ok (.i2l, 1) := by decide +kernel
theorem dX6_digestOnto_6 : decode cX6_digestOnto 6 = .ok (.invokestatic 28, 3) := by decide +kernel
theorem dX6_digestOnto_9 : decode cX6_digestOnto 9 = .ok (.aload_n 0, 1) := by decide +kernel
theorem dX6_digestOnto_10 : decode cX6_digestOnto 10 = .ok (.getfield 18, 3) := by decide +kernel
theorem dX6_digestOnto_13 : decode cX6_digestOnto 13 = .ok (.i2l, 1) := by decide +kernel
theorem dX6_digestOnto_14 : decode cX6_digestOnto 14 = .ok (.invokestatic 28, 3) := by decide +kernel
theorem dX6_digestOnto_17 : decode cX6_digestOnto 17 = .ok (.aload_n 0, 1) := by decide +kernel
theorem dX6_digestOnto_18 : decode cX6_digestOnto 18 = .ok (.getfield 21, 3) := by decide +kernel
theorem dX6_digestOnto_21 : decode cX6_digestOnto 21 = .ok (.i2l, 1) := by decide +kernel
theorem dX6_digestOnto_22 : decode cX6_digestOnto 22 = .ok (.invokestatic 28, 3) := by decide +kernel
theorem dX6_digestOnto_25 : decode cX6_digestOnto 25 = .ok (.aload_n 0, 1) := by decide +kernel
theorem dX6_digestOnto_26 : decode cX6_digestOnto 26 = .ok (.getfield 9, 3) := by decide +kernel
theorem dX6_digestOnto_29 : decode cX6_digestOnto 29 = .ok (.i2l, 1) := by decide +kernel
theorem dX6_digestOnto_30 : decode cX6_digestOnto 30 = .ok (.invokestatic 28, 3) := by decide +kernel
theorem dX6_digestOnto_33 : decode cX6_digestOnto 33 = .ok (.lreturn, 1) := by decide +kernel
set_option maxRecDepth 20000 in
theorem ggX7_init_X4_init : GoodIn wsX7_init wsX4_init := goodIn_r _ [23, 24, 2, 3, 10, 25, 26, 27, 44, 45] (by decide +kernel) (by decide +kernel)
set_option maxRecDepth 20000 in
theorem gX7_init_X4_init_n33 : GoodIn wsX7_init (wsX4_init) := ggX7_init_X4_init
set_option maxRecDepth 20000 in
theorem ggX7_init_X3_init : GoodIn wsX7_init wsX3_init := goodIn_r _ [29, 30, 2, 3, 31, 10, 32, 46] (by decide +kernel) (by decide +kernel)
set_option maxRecDepth 20000 in
theorem gX7_init_X3_init_n40 : GoodIn wsX7_init (wsX3_init) := ggX7_init_X3_init
theorem dX7_init_0 : decode cX7_init 0 = .ok (.aload_n 0, 1) := by decide +kernel
theorem dX7_init_1 : decode cX7_init 1 = .ok (.invokespecial 1, 3) := by decide +kernel
theorem dX7_init_4 : decode cX7_init 4 = .ok (.aload_n 0, 1) := by decide +kernel
theorem dX7_init_5 : decode cX7_init 5 = .ok (.iconst 4, 1) := by decide +kernel
theorem dX7_init_6 : decode cX7_init 6 = .ok (.anewarray 9, 3) := by decide +kernel
theorem dX7_init_9 : decode cX7_init 9 = .ok (.putfield 11, 3) := by decide +kernel
theorem dX7_init_12 : decode cX7_init 12 = .ok (.aload_n 0, 1) := by decide +kernel
theorem dX7_init_13 : decode cX7_init 13 = .ok (.bipush 30, 2) := by decide +kernel
theorem dX7_init_15 : decode cX7_init 15 = .ok (.anewarray 15, 3) := by decide +kernel
theorem dX7_init_18 : decode cX7_init 18 = .ok (.putfield 17, 3) := by decide +kernel
theorem dX7_init_21 : decode cX7_init 21 = .ok (.aload_n 0, 1) := by decide +kernel
theorem dX7_init_22 : decode cX7_init 22 = .ok (.bipush 6, 2) := by decide +kernel
theorem dX7_init_24 : decode cX7_init 24 = .ok (.anewarray 21, 3) := by decide +kernel
theorem dX7_init_27 : decode cX7_init 27 = .ok (.putfield 23, 3) := by decide +kernel
theorem dX7_init_30 : decode cX7_init 30 = .ok (.aload_n 0, 1) := by decide +kernel
theorem dX7_init_31 : decode cX7_init 31 = .ok (.bipush 10, 2) := by decide +kernel
theorem dX7_init_33 : decode cX7_init 33 = .ok (.newarray .int, 2) := by decide +kernel
theorem dX7_init_35 : decode cX7_init 35 = .ok (.putfield 27, 3) := by decide +kernel
theorem dX7_init_38 : decode cX7_init 38 = .ok (.aload_n 0, 1) := by decide +kernel
theorem dX7_init_39 : decode cX7_init 39 = .ok (.new 31, 3) := by decide +kernel
theorem dX7_init_42 : decode cX7_init 42 = .ok (.dup, 1) := by decide +kernel
theorem dX7_init_43 : decode cX7_init 43 = .ok (.invokespecial 33, 3) := by decide +kernel
theorem dX7_init_46 : decode cX7_init 46 = .ok (.putfield 34, 3) := by decide +kernel
theorem dX7_init_49 : decode cX7_init 49 = .ok (.aload_n 0, 1) := by decide +kernel
theorem dX7_init_50 : decode cX7_init 50 = .ok (.new 38, 3) := by decide +kernel
theorem dX7_init_53 : decode cX7_init 53 = .ok (.dup, 1) := by decide +kernel
theorem dX7_init_54 : decode cX7_init 54 = .ok (.invokespecial 40, 3) := by decide +kernel
theorem dX7_init_57 : decode cX7_init 57 = .ok (.putfield 41, 3) := by decide +kernel
theorem dX7_init_60 : decode cX7_init 60 = .ok (.aload_n 0, 1) := by decide +kernel
theorem dX7_init_61 : decode cX7_init 61 = .ok (.iconst 5, 1) := by decide +kernel
theorem dX7_init_62 : decode cX7_init 62 = .ok (.putfield 45, 3) := by decide +kernel
theorem dX7_init_65 : decode cX7_init 65 = .ok (.aload_n 0, 1) := by decide +kernel
theorem dX7_init_66 : decode cX7_init 66 = .ok (.bipush 100, 2) := by decide +kernel
theorem dX7_init_68 : decode cX7_init 68 = .ok (.putfield 49, 3) := by decide +kernel
theorem dX7_init_71 : decode cX7_init 71 = .ok (.iconst 0, 1) := by decide +kernel
theorem dX7_init_72 : decode cX7_init 72 = .ok (.istore_n 1, 1) := by decide +kernel
theorem dX7_init_73 : decode cX7_init 73 = .ok (.iload_n 1, 1) := by decide +kernel
theorem dX7_init_74 : decode cX7_init 74 = .ok (.bipush 10, 2) := by decide +kernel
theorem dX7_init_76 : decode cX7_init 76 = .ok (.if_icmp .ge 16, 3) := by decide +kernel
theorem dX7_init_79 : decode cX7_init 79 = .ok (.aload_n 0, 1) := by decide +kernel
theorem dX7_init_80 : decode cX7_init 80 = .ok (.getfield 27, 3) := by decide +kernel
theorem dX7_init_83 : decode cX7_init 83 = .ok (.iload_n 1, 1) := by decide +kernel
theorem dX7_init_84 : decode cX7_init 84 = .ok (.iload_n 1, 1) := by decide +kernel
theorem dX7_init_85 : decode cX7_init 85 = .ok (.iastore, 1) := by decide +kernel
theorem dX7_init_86 : decode cX7_init 86 = .ok (.iinc 1 1, 3) := by decide +kernel
theorem dX7_init_89 : decode cX7_init 89 = .ok (.goto (-16), 3) := by decide +kernel
theorem dX7_init_92 : decode cX7_init 92 = .ok (.return_, 1) := by decide +kernel
set_option maxRecDepth 20000 in
theorem ggX7_hole_X1_init : GoodIn wsX7_hole wsX1_init := goodIn_r _ [7, 8, 9, 10, 11, 12, 13, 14, 15, 16, 17, 18, 19, 20, 21, 22, 23, 24, 36, 37, 38, 39, 40, 41, 42, 43, 44, 45, 46] (by decide +kernel) (by decide +kernel)
set_option maxRecDepth 20000 in
theorem gX7_hole_X1_init_n55 : GoodIn wsX7_hole (wsX1_init) := ggX7_hole_X1_init
theorem dX7_hole_0 : decode cX7_hole 0 = .ok (.aload_n 0, 1) := by decide +kernel
theorem dX7_hole_1 : decode cX7_hole 1 = .ok (.getfield 52, 3) := by decide +kernel
theorem dX7_hole_4 : decode cX7_hole 4 = .ok (.iconst 4, 1) := by decide +kernel
theorem dX7_hole_5 : decode cX7_hole 5 = .ok (.if_icmp .lt 6, 3) := by decide +kernel
theorem dX7_hole_8 : decode cX7_hole 8 = .ok (.bipush (-104), 2) := by decide +kernel
theorem dX7_hole_10 : decode cX7_hole 10 = .ok (.ireturn, 1) := by decide +kernel
theorem dX7_hole_11 : decode cX7_hole 11 = .ok (.aload_n 0, 1) := by decide +kernel
theorem dX7_hole_12 : decode cX7_hole 12 = .ok (.getfield 11, 3) := by decide +kernel
theorem dX7_hole_15 : decode cX7_hole 15 = .ok (.aload_n 0, 1) := by decide +kernel
theorem dX7_hole_16 : decode cX7_hole 16 = .ok (.getfield 52, 3) := by decide +kernel
theorem dX7_hole_19 : decode cX7_hole 19 = .ok (.new 9, 3) := by decide +kernel
theorem dX7_hole_22 : decode cX7_hole 22 = .ok (.dup, 1) := by decide +kernel
theorem dX7_hole_23 : decode cX7_hole 23 = .ok (.invokespecial 55, 3) := by decide +kernel
theorem dX7_hole_26 : decode cX7_hole 26 = .ok (.aastore, 1) := by decide +kernel
theorem dX7_hole_27 : decode cX7_hole 27 = .ok (.aload_n 0, 1) := by decide +kernel
theorem dX7_hole_28 : decode cX7_hole 28 = .ok (.dup, 1) := by decide +kernel
theorem dX7_hole_29 : decode cX7_hole 29 = .ok (.getfield 52, 3) := by decide +kernel
theorem dX7_hole_32 : decode cX7_hole 32 = .ok (.iconst 1, 1) := by decide +kernel
theorem dX7_hole_33 : decode cX7_hole 33 = .ok (.iadd, 1) := by decide +kernel
theorem dX7_hole_34 : decode cX7_hole 34 = .ok (.putfield 52, 3) := by decide +kernel
theorem dX7_hole_37 : decode cX7_hole 37 = .ok (.aload_n 0, 1) := by decide +kernel
theorem dX7_hole_38 : decode cX7_hole 38 = .ok (.getfield 52, 3) := by decide +kernel
theorem dX7_hole_41 : decode cX7_hole 41 = .ok (.iconst 1, 1) := by decide +kernel
theorem dX7_hole_42 : decode cX7_hole 42 = .ok (.isub, 1) := by decide +kernel
theorem dX7_hole_43 : decode cX7_hole 43 = .ok (.ireturn, 1) := by decide +kernel
set_option maxRecDepth 20000 in
theorem ggX7_run_X7_holeNamed : GoodIn wsX7_run wsX7_holeNamed := goodIn_r _ [7, 8, 9, 44, 45, 46, 47, 48, 49, 50, 51, 52, 53, 54] (by decide +kernel) (by decide +kernel)
set_option maxRecDepth 20000 in
theorem gX7_run_X7_holeNamed : GoodIn wsX7_run (wsV RX7 56 RX7 yX7_holeNamed wsX7_holeNamed) := goodIn_app (goodIn_of _ (by decide +kernel)) ggX7_run_X7_holeNamed
set_option maxRecDepth 20000 in
theorem ggX7_run_X7_isWithin : GoodIn wsX7_run wsX7_isWithin := goodIn_r _ [12] (by decide +kernel) (by decide +kernel)
set_option maxRecDepth 20000 in
theorem gX7_run_X7_isWithin : GoodIn wsX7_run (va_wsS RX7 60 yX7_isWithin wsX7_isWithin) := goodIn_app (goodIn_of _ (by decide +kernel)) ggX7_run_X7_isWithin
set_option maxRecDepth 20000 in
theorem ggX7_run_X1_isLogged : GoodIn wsX7_run wsX1_isLogged := goodIn_r _ [17, 18, 19, 20, 36, 37, 38, 39, 40, 41, 42, 43, 55, 56, 57] (by decide +kernel) (by decide +kernel)
set_option maxRecDepth 20000 in
theorem gX7_run_X1_isLogged : GoodIn wsX7_run (wsV RX7 64 RX1 yX1_isLogged wsX1_isLogged) := goodIn_app (goodIn_of _ (by decide +kernel)) ggX7_run_X1_isLogged
set_option maxRecDepth 20000 in
theorem ggX7_run_X7_isSampled : GoodIn wsX7_run wsX7_isSampled := goodIn_r _ [24, 25, 26, 27, 44, 45, 46, 47, 48, 49, 50, 51, 52, 53, 54, 58, 59, 60, 61] (by decide +kernel) (by decide +kernel)
set_option maxRecDepth 20000 in
theorem gX7_run_X7_isSampled : GoodIn wsX7_run (wsV RX7 68 RX7 yX7_isSampled wsX7_isSampled) := goodIn_app (goodIn_of _ (by decide +kernel)) ggX7_run_X7_isSampled
set_option maxRecDepth 20000 in
theorem ggX7_run_X1_addRun : GoodIn wsX7_run wsX1_addRun := goodIn_r _ [31, 32, 33, 34, 35, 36, 37, 38, 39, 40, 41, 42, 43] (by decide +kernel) (by decide +kernel)
set_option maxRecDepth 20000 in
theorem gX7_run_X1_addRun : GoodIn wsX7_run (wsV RX7 75 RX1 yX1_addRun wsX1_addRun) := goodIn_app (goodIn_of _ (by decide +kernel)) ggX7_run_X1_addRun
theorem dX7_run_0 : decode cX7_run 0 = .ok (.aload_n 0, 1) := by decide +kernel
theorem dX7_run_1 : decode cX7_run 1 = .ok (.iload_n 1, 1) := by decide +kernel
theorem dX7_run_2 : decode cX7_run 2 = .ok (.invokevirtual 56, 3) := by decide +kernel
theorem dX7_run_5 : decode cX7_run 5 = .ok (.astore 4, 2) := by decide +kernel
theorem dX7_run_7 : decode cX7_run 7 = .ok (.aload 4, 2) := by decide +kernel
theorem dX7_run_9 : decode cX7_run 9 = .ok (.ifnonnull 6, 3) := by decide +kernel
theorem dX7_run_12 : decode cX7_run 12 = .ok (.bipush (-101), 2) := by decide +kernel
theorem dX7_run_14 : decode cX7_run 14 = .ok (.ireturn, 1) := by decide +kernel
theorem dX7_run_15 : decode cX7_run 15 = .ok (.iload_n 2, 1) := by decide +kernel
theorem dX7_run_16 : decode cX7_run 16 = .ok (.iconst 1, 1) := by decide +kernel
theorem dX7_run_17 : decode cX7_run 17 = .ok (.sipush 1000, 3) := by decide +kernel
theorem dX7_run_20 : decode cX7_run 20 = .ok (.invokestatic 60, 3) := by decide +kernel
theorem dX7_run_23 : decode cX7_run 23 = .ok (.ifCond .eq 12, 3) := by decide +kernel
theorem dX7_run_26 : decode cX7_run 26 = .ok (.iload_n 3, 1) := by decide +kernel
theorem dX7_run_27 : decode cX7_run 27 = .ok (.iconst 0, 1) := by decide +kernel
theorem dX7_run_28 : decode cX7_run 28 = .ok (.iload_n 2, 1) := by decide +kernel
theorem dX7_run_29 : decode cX7_run 29 = .ok (.invokestatic 60, 3) := by decide +kernel
theorem dX7_run_32 : decode cX7_run 32 = .ok (.ifCond .ne 6, 3) := by decide +kernel
theorem dX7_run_35 : decode cX7_run 35 = .ok (.bipush (-102), 2) := by decide +kernel
theorem dX7_run_37 : decode cX7_run 37 = .ok (.ireturn, 1) := by decide +kernel
theorem dX7_run_38 : decode cX7_run 38 = .ok (.aload 4, 2) := by decide +kernel
theorem dX7_run_40 : decode cX7_run 40 = .ok (.invokevirtual 64, 3) := by decide +kernel
theorem dX7_run_43 : decode cX7_run 43 = .ok (.ifCond .ne 11, 3) := by decide +kernel
theorem dX7_run_46 : decode cX7_run 46 = .ok (.aload_n 0, 1) := by decide +kernel
theorem dX7_run_47 : decode cX7_run 47 = .ok (.iload_n 1, 1) := by decide +kernel
theorem dX7_run_48 : decode cX7_run 48 = .ok (.invokevirtual 68, 3) := by decide +kernel
theorem dX7_run_51 : decode cX7_run 51 = .ok (.ifCond .eq 6, 3) := by decide +kernel
theorem dX7_run_54 : decode cX7_run 54 = .ok (.bipush (-103), 2) := by decide +kernel
theorem dX7_run_56 : decode cX7_run 56 = .ok (.ireturn, 1) := by decide +kernel
theorem dX7_run_57 : decode cX7_run 57 = .ok (.aload 4, 2) := by decide +kernel
theorem dX7_run_59 : decode cX7_run 59 = .ok (.getfield 72, 3) := by decide +kernel
theorem dX7_run_62 : decode cX7_run 62 = .ok (.bipush 20, 2) := by decide +kernel
theorem dX7_run_64 : decode cX7_run 64 = .ok (.if_icmp .lt 6, 3) := by decide +kernel
theorem dX7_run_67 : decode cX7_run 67 = .ok (.bipush (-104), 2) := by decide +kernel
theorem dX7_run_69 : decode cX7_run 69 = .ok (.ireturn, 1) := by decide +kernel
theorem dX7_run_70 : decode cX7_run 70 = .ok (.aload 4, 2) := by decide +kernel
theorem dX7_run_72 : decode cX7_run 72 = .ok (.iload_n 2, 1) := by decide +kernel
theorem dX7_run_73 : decode cX7_run 73 = .ok (.iload_n 3, 1) := by decide +kernel
theorem dX7_run_74 : decode cX7_run 74 = .ok (.invokevirtual 75, 3) := by decide +kernel
theorem dX7_run_77 : decode cX7_run 77 = .ok (.aload 4, 2) := by decide +kernel
theorem dX7_run_79 : decode cX7_run 79 = .ok (.getfield 79, 3) := by decide +kernel
theorem dX7_run_82 : decode cX7_run 82 = .ok (.ireturn, 1) := by decide +kernel
set_option maxRecDepth 20000 in
theorem ggX7_end_X7_holeNamed : GoodIn wsX7_end wsX7_holeNamed := goodIn_r _ [6, 7, 8, 17, 18, 19, 20, 21, 22, 23, 24, 25, 26, 27] (by decide +kernel) (by decide +kernel)
set_option maxRecDepth 20000 in
theorem gX7_end_X7_holeNamed : GoodIn wsX7_end (wsV RX7 56 RX7 yX7_holeNamed wsX7_holeNamed) := goodIn_app (goodIn_of _ (by decide +kernel)) ggX7_end_X7_holeNamed
theorem dX7_end_0 : decode cX7_end 0 = .ok (.aload_n 0, 1) := by decide +kernel
theorem dX7_end_1 : decode cX7_end 1 = .ok (.iload_n 1, 1) := by decide +kernel
theorem dX7_end_2 : decode cX7_end 2 = .ok (.invokevirtual 56, 3) := by decide +kernel
theorem dX7_end_5 : decode cX7_end 5 = .ok (.astore_n 2, 1) := by decide +kernel
theorem dX7_end_6 : decode cX7_end 6 = .ok (.aload_n 2, 1) := by decide +kernel
theorem dX7_end_7 : decode cX7_end 7 = .ok (.ifnonnull 8, 3) := by decide +kernel
theorem dX7_end_10 : decode cX7_end 10 = .ok (.bipush (-101), 2) := by decide +kernel
theorem dX7_end_12 : decode cX7_end 12 = .ok (.goto 7, 3) := by decide +kernel
theorem dX7_end_15 : decode cX7_end 15 = .ok (.aload_n 2, 1) := by decide +kernel
theorem dX7_end_16 : decode cX7_end 16 = .ok (.getfield 79, 3) := by decide +kernel
theorem dX7_end_19 : decode cX7_end 19 = .ok (.ireturn, 1) := by decide +kernel
set_option maxRecDepth 20000 in
theorem ggX7_recovered_X7_holeNamed : GoodIn wsX7_recovered wsX7_holeNamed := goodIn_r _ [5, 6, 7, 30, 31, 32, 33, 34, 35, 36, 37, 38, 39, 40] (by decide +kernel) (by decide +kernel)
set_option maxRecDepth 20000 in
theorem gX7_recovered_X7_holeNamed : GoodIn wsX7_recovered (wsV RX7 56 RX7 yX7_holeNamed wsX7_holeNamed) := goodIn_app (goodIn_of _ (by decide +kernel)) ggX7_recovered_X7_holeNamed
set_option maxRecDepth 20000 in
theorem ggX7_recovered_X1_isStretch : GoodIn wsX7_recovered wsX1_isStretch := goodIn_r _ [12, 13, 41, 42, 43, 44, 45, 46, 47, 48] (by decide +kernel) (by decide +kernel)
set_option maxRecDepth 20000 in
theorem gX7_recovered_X1_isStretch : GoodIn wsX7_recovered (wsV RX7 82 RX1 yX1_isStretch wsX1_isStretch) := goodIn_app (goodIn_of _ (by decide +kernel)) ggX7_recovered_X1_isStretch
set_option maxRecDepth 20000 in
theorem ggX7_recovered_X1_coreWithin : GoodIn wsX7_recovered wsX1_coreWithin := goodIn_r _ [17, 18, 19, 20, 21, 4, 22, 23, 24, 25, 26, 27, 28, 29, 41, 42, 43, 44, 45, 46, 47, 48] (by decide +kernel) (by decide +kernel)
set_option maxRecDepth 20000 in
theorem gX7_recovered_X1_coreWithin : GoodIn wsX7_recovered (wsV RX7 86 RX1 yX1_coreWithin wsX1_coreWithin) := goodIn_app (goodIn_of _ (by decide +kernel)) ggX7_recovered_X1_coreWithin
theorem dX7_recovered_0 : decode cX7_recovered 0 = .ok (.aload_n 0, 1) := by decide +kernel
theorem dX7_recovered_1 : decode cX7_recovered 1 = .ok (.iload_n 1, 1) := by decide +kernel
theorem dX7_recovered_2 : decode cX7_recovered 2 = .ok (.invokevirtual 56, 3) := by decide +kernel
theorem dX7_recovered_5 : decode cX7_recovered 5 = .ok (.astore 4, 2) := by decide +kernel
theorem dX7_recovered_7 : decode cX7_recovered 7 = .ok (.aload 4, 2) := by decide +kernel
theorem dX7_recovered_9 : decode cX7_recovered 9 = .ok (.ifnonnull 6, 3) := by decide +kernel
theorem dX7_recovered_12 : decode cX7_recovered 12 = .ok (.bipush (-101), 2) := by decide +kernel
theorem dX7_recovered_14 : decode cX7_recovered 14 = .ok (.ireturn, 1) := by decide +kernel
theorem dX7_recovered_15 : decode cX7_recovered 15 = .ok (.aload 4, 2) := by decide +kernel
theorem dX7_recovered_17 : decode cX7_recovered 17 = .ok (.iload_n 2, 1) := by decide +kernel
theorem dX7_recovered_18 : decode cX7_recovered 18 = .ok (.iload_n 3, 1) := by decide +kernel
theorem dX7_recovered_19 : decode cX7_recovered 19 = .ok (.invokevirtual 82, 3) := by decide +kernel
theorem dX7_recovered_22 : decode cX7_recovered 22 = .ok (.ifCond .ne 6, 3) := by decide +kernel
theorem dX7_recovered_25 : decode cX7_recovered 25 = .ok (.bipush (-102), 2) := by decide +kernel
theorem dX7_recovered_27 : decode cX7_recovered 27 = .ok (.ireturn, 1) := by decide +kernel
theorem dX7_recovered_28 : decode cX7_recovered 28 = .ok (.aload 4, 2) := by decide +kernel
theorem dX7_recovered_30 : decode cX7_recovered 30 = .ok (.iload_n 2, 1) := by decide +kernel
theorem dX7_recovered_31 : decode cX7_recovered 31 = .ok (.iload_n 3, 1) := by decide +kernel
theorem dX7_recovered_32 : decode cX7_recovered 32 = .ok (.invokevirtual 86, 3) := by decide +kernel
theorem dX7_recovered_35 : decode cX7_recovered 35 = .ok (.ireturn, 1) := by decide +kernel
set_option maxRecDepth 20000 in
theorem ggX7_mark_X7_holeNamed : GoodIn wsX7_mark wsX7_holeNamed := goodIn_r _ [8, 9, 10, 22, 23, 24, 25, 26, 27, 28, 29, 30, 31, 32] (by decide +kernel) (by decide +kernel)
set_option maxRecDepth 20000 in
theorem gX7_mark_X7_holeNamed : GoodIn wsX7_mark (wsV RX7 56 RX7 yX7_holeNamed wsX7_holeNamed) := goodIn_app (goodIn_of _ (by decide +kernel)) ggX7_mark_X7_holeNamed
set_option maxRecDepth 20000 in
theorem ggX7_mark_X7_isWithin : GoodIn wsX7_mark wsX7_isWithin := goodIn_r _ [13] (by decide +kernel) (by decide +kernel)
set_option maxRecDepth 20000 in
theorem gX7_mark_X7_isWithin : GoodIn wsX7_mark (va_wsS RX7 60 yX7_isWithin wsX7_isWithin) := goodIn_app (goodIn_of _ (by decide +kernel)) ggX7_mark_X7_isWithin
theorem dX7_mark_0 : decode cX7_mark 0 = .ok (.aload_n 0, 1) := by decide +kernel
theorem dX7_mark_1 : decode cX7_mark 1 = .ok (.iload_n 1, 1) := by decide +kernel
theorem dX7_mark_2 : decode cX7_mark 2 = .ok (.invokevirtual 56, 3) := by decide +kernel
theorem dX7_mark_5 : decode cX7_mark 5 = .ok (.astore_n 3, 1) := by decide +kernel
theorem dX7_mark_6 : decode cX7_mark 6 = .ok (.aload_n 3, 1) := by decide +kernel
theorem dX7_mark_7 : decode cX7_mark 7 = .ok (.ifnonnull 6, 3) := by decide +kernel
theorem dX7_mark_10 : decode cX7_mark 10 = .ok (.bipush (-101), 2) := by decide +kernel
theorem dX7_mark_12 : decode cX7_mark 12 = .ok (.ireturn, 1) := by decide +kernel
theorem dX7_mark_13 : decode cX7_mark 13 = .ok (.iload_n 2, 1) := by decide +kernel
theorem dX7_mark_14 : decode cX7_mark 14 = .ok (.iconst 0, 1) := by decide +kernel
theorem dX7_mark_15 : decode cX7_mark 15 = .ok (.ldc 90, 2) := by decide +kernel
theorem dX7_mark_17 : decode cX7_mark 17 = .ok (.invokestatic 60, 3) := by decide +kernel
theorem dX7_mark_20 : decode cX7_mark 20 = .ok (.ifCond .ne 6, 3) := by decide +kernel
theorem dX7_mark_23 : decode cX7_mark 23 = .ok (.bipush (-102), 2) := by decide +kernel
theorem dX7_mark_25 : decode cX7_mark 25 = .ok (.ireturn, 1) := by decide +kernel
theorem dX7_mark_26 : decode cX7_mark 26 = .ok (.aload_n 3, 1) := by decide +kernel
theorem dX7_mark_27 : decode cX7_mark 27 = .ok (.getfield 91, 3) := by decide +kernel
theorem dX7_mark_30 : decode cX7_mark 30 = .ok (.bipush 20, 2) := by decide +kernel
theorem dX7_mark_32 : decode cX7_mark 32 = .ok (.if_icmp .lt 6, 3) := by decide +kernel
theorem dX7_mark_35 : decode cX7_mark 35 = .ok (.bipush (-104), 2) := by decide +kernel
theorem dX7_mark_37 : decode cX7_mark 37 = .ok (.ireturn, 1) := by decide +kernel
theorem dX7_mark_38 : decode cX7_mark 38 = .ok (.aload_n 3, 1) := by decide +kernel
theorem dX7_mark_39 : decode cX7_mark 39 = .ok (.getfield 94, 3) := by decide +kernel
theorem dX7_mark_42 : decode cX7_mark 42 = .ok (.aload_n 3, 1) := by decide +kernel
theorem dX7_mark_43 : decode cX7_mark 43 = .ok (.getfield 91, 3) := by decide +kernel
theorem dX7_mark_46 : decode cX7_mark 46 = .ok (.iload_n 2, 1) := by decide +kernel
theorem dX7_mark_47 : decode cX7_mark 47 = .ok (.iastore, 1) := by decide +kernel
theorem dX7_mark_48 : decode cX7_mark 48 = .ok (.aload_n 3, 1) := by decide +kernel
theorem dX7_mark_49 : decode cX7_mark 49 = .ok (.dup, 1) := by decide +kernel
theorem dX7_mark_50 : decode cX7_mark 50 = .ok (.getfield 91, 3) := by decide +kernel
theorem dX7_mark_53 : decode cX7_mark 53 = .ok (.iconst 1, 1) := by decide +kernel
theorem dX7_mark_54 : decode cX7_mark 54 = .ok (.iadd, 1) := by decide +kernel
theorem dX7_mark_55 : decode cX7_mark 55 = .ok (.putfield 91, 3) := by decide +kernel
theorem dX7_mark_58 : decode cX7_mark 58 = .ok (.aload_n 3, 1) := by decide +kernel
theorem dX7_mark_59 : decode cX7_mark 59 = .ok (.getfield 91, 3) := by decide +kernel
theorem dX7_mark_62 : decode cX7_mark 62 = .ok (.ireturn, 1) := by decide +kernel
set_option maxRecDepth 20000 in
theorem ggX7_wrong_X7_holeNamed : GoodIn wsX7_wrong wsX7_holeNamed := goodIn_r _ [7, 8, 9, 40, 41, 42, 43, 44, 45, 46, 47, 48, 49, 50] (by decide +kernel) (by decide +kernel)
set_option maxRecDepth 20000 in
theorem gX7_wrong_X7_holeNamed : GoodIn wsX7_wrong (wsV RX7 56 RX7 yX7_holeNamed wsX7_holeNamed) := goodIn_app (goodIn_of _ (by decide +kernel)) ggX7_wrong_X7_holeNamed
set_option maxRecDepth 20000 in
theorem ggX7_wrong_X4_choose : GoodIn wsX7_wrong wsX4_choose := goodIn_r _ [14, 15, 16, 17, 18, 19, 20, 21, 13, 22, 23, 24, 25, 26, 27, 28, 29, 30, 31, 32, 33, 34, 35, 36, 37, 38, 39, 51, 52] (by decide +kernel) (by decide +kernel)
set_option maxRecDepth 20000 in
theorem gX7_wrong_X4_choose : GoodIn wsX7_wrong (wsV RX7 97 RX4 yX4_choose wsX4_choose) := goodIn_app (goodIn_of _ (by decide +kernel)) ggX7_wrong_X4_choose
theorem dX7_wrong_0 : decode cX7_wrong 0 = .ok (.aload_n 0, 1) := by decide +kernel
theorem dX7_wrong_1 : decode cX7_wrong 1 = .ok (.iload_n 1, 1) := by decide +kernel
theorem dX7_wrong_2 : decode cX7_wrong 2 = .ok (.invokevirtual 56, 3) := by decide +kernel
theorem dX7_wrong_5 : decode cX7_wrong 5 = .ok (.astore_n 2, 1) := by decide +kernel
theorem dX7_wrong_6 : decode cX7_wrong 6 = .ok (.aload_n 2, 1) := by decide +kernel
theorem dX7_wrong_7 : decode cX7_wrong 7 = .ok (.ifnonnull 6, 3) := by decide +kernel
theorem dX7_wrong_10 : decode cX7_wrong 10 = .ok (.bipush (-101), 2) := by decide +kernel
theorem dX7_wrong_12 : decode cX7_wrong 12 = .ok (.ireturn, 1) := by decide +kernel
theorem dX7_wrong_13 : decode cX7_wrong 13 = .ok (.aload_n 2, 1) := by decide +kernel
theorem dX7_wrong_14 : decode cX7_wrong 14 = .ok (.getfield 91, 3) := by decide +kernel
theorem dX7_wrong_17 : decode cX7_wrong 17 = .ok (.aload_n 0, 1) := by decide +kernel
theorem dX7_wrong_18 : decode cX7_wrong 18 = .ok (.getfield 34, 3) := by decide +kernel
theorem dX7_wrong_21 : decode cX7_wrong 21 = .ok (.aload_n 2, 1) := by decide +kernel
theorem dX7_wrong_22 : decode cX7_wrong 22 = .ok (.invokevirtual 97, 3) := by decide +kernel
theorem dX7_wrong_25 : decode cX7_wrong 25 = .ok (.isub, 1) := by decide +kernel
theorem dX7_wrong_26 : decode cX7_wrong 26 = .ok (.ireturn, 1) := by decide +kernel
set_option maxRecDepth 20000 in
theorem ggX7_isWrong_X7_holeNamed : GoodIn wsX7_isWrong wsX7_holeNamed := goodIn_r _ [8, 9, 10, 41, 42, 43, 44, 45, 46, 47, 48, 49, 50, 51] (by decide +kernel) (by decide +kernel)
set_option maxRecDepth 20000 in
theorem gX7_isWrong_X7_holeNamed : GoodIn wsX7_isWrong (wsV RX7 56 RX7 yX7_holeNamed wsX7_holeNamed) := goodIn_app (goodIn_of _ (by decide +kernel)) ggX7_isWrong_X7_holeNamed
set_option maxRecDepth 20000 in
theorem ggX7_isWrong_X4_choose : GoodIn wsX7_isWrong wsX4_choose := goodIn_r _ [15, 16, 17, 18, 19, 20, 21, 22, 14, 23, 24, 25, 26, 27, 28, 29, 30, 31, 32, 33, 34, 35, 36, 37, 38, 39, 40, 52, 53] (by decide +kernel) (by decide +kernel)
set_option maxRecDepth 20000 in
theorem gX7_isWrong_X4_choose : GoodIn wsX7_isWrong (wsV RX7 97 RX4 yX4_choose wsX4_choose) := goodIn_app (goodIn_of _ (by decide +kernel)) ggX7_isWrong_X4_choose
theorem dX7_isWrong_0 : decode cX7_isWrong 0 = .ok (.aload_n 0, 1) := by decide +kernel
theorem dX7_isWrong_1 : decode cX7_isWrong 1 = .ok (.iload_n 1, 1) := by decide +kernel
theorem dX7_isWrong_2 : decode cX7_isWrong 2 = .ok (.invokevirtual 56, 3) := by decide +kernel
theorem dX7_isWrong_5 : decode cX7_isWrong 5 = .ok (.astore_n 3, 1) := by decide +kernel
theorem dX7_isWrong_6 : decode cX7_isWrong 6 = .ok (.aload_n 3, 1) := by decide +kernel
theorem dX7_isWrong_7 : decode cX7_isWrong 7 = .ok (.ifnull 15, 3) := by decide +kernel
theorem dX7_isWrong_10 : decode cX7_isWrong 10 = .ok (.iload_n 2, 1) := by decide +kernel
theorem dX7_isWrong_11 : decode cX7_isWrong 11 = .ok (.ifCond .lt 11, 3) := by decide +kernel
theorem dX7_isWrong_14 : decode cX7_isWrong 14 = .ok (.iload_n 2, 1) := by decide +kernel
theorem dX7_isWrong_15 : decode cX7_isWrong 15 = .ok (.aload_n 3, 1) := by decide +kernel
theorem dX7_isWrong_16 : decode cX7_isWrong 16 = .ok (.getfield 91, 3) := by decide +kernel
theorem dX7_isWrong_19 : decode cX7_isWrong 19 = .ok (.if_icmp .lt 6, 3) := by decide +kernel
theorem dX7_isWrong_22 : decode cX7_isWrong 22 = .ok (.bipush (-101), 2) := by decide +kernel
theorem dX7_isWrong_24 : decode cX7_isWrong 24 = .ok (.ireturn, 1) := by decide +kernel
theorem dX7_isWrong_25 : decode cX7_isWrong 25 = .ok (.aload_n 0, 1) := by decide +kernel
theorem dX7_isWrong_26 : decode cX7_isWrong 26 = .ok (.getfield 34, 3) := by decide +kernel
theorem dX7_isWrong_29 : decode cX7_isWrong 29 = .ok (.aload_n 3, 1) := by decide +kernel
theorem dX7_isWrong_30 : decode cX7_isWrong 30 = .ok (.invokevirtual 97, 3) := by decide +kernel
theorem dX7_isWrong_33 : decode cX7_isWrong 33 = .ok (.pop, 1) := by decide +kernel
theorem dX7_isWrong_34 : decode cX7_isWrong 34 = .ok (.aload_n 0, 1) := by decide +kernel
theorem dX7_isWrong_35 : decode cX7_isWrong 35 = .ok (.getfield 34, 3) := by decide +kernel
theorem dX7_isWrong_38 : decode cX7_isWrong 38 = .ok (.getfield 101, 3) := by decide +kernel
theorem dX7_isWrong_41 : decode cX7_isWrong 41 = .ok (.iload_n 2, 1) := by decide +kernel
theorem dX7_isWrong_42 : decode cX7_isWrong 42 = .ok (.baload, 1) := by decide +kernel
theorem dX7_isWrong_43 : decode cX7_isWrong 43 = .ok (.ifCond .eq 7, 3) := by decide +kernel
theorem dX7_isWrong_46 : decode cX7_isWrong 46 = .ok (.iconst 0, 1) := by decide +kernel
theorem dX7_isWrong_47 : decode cX7_isWrong 47 = .ok (.goto 4, 3) := by decide +kernel
theorem dX7_isWrong_50 : decode cX7_isWrong 50 = .ok (.iconst 1, 1) := by decide +kernel
theorem dX7_isWrong_51 : decode cX7_isWrong 51 = .ok (.ireturn, 1) := by decide +kernel
set_option maxRecDepth 20000 in
theorem ggX7_layer_X7_holeNamed : GoodIn wsX7_layer wsX7_holeNamed := goodIn_r _ [7, 8, 9, 49, 50, 51, 52, 53, 54, 55, 56, 57, 58, 59] (by decide +kernel) (by decide +kernel)
set_option maxRecDepth 20000 in
theorem gX7_layer_X7_holeNamed : GoodIn wsX7_layer (wsV RX7 56 RX7 yX7_holeNamed wsX7_holeNamed) := goodIn_app (goodIn_of _ (by decide +kernel)) ggX7_layer_X7_holeNamed
set_option maxRecDepth 20000 in
theorem ggX7_layer_X7_logNamed : GoodIn wsX7_layer wsX7_logNamed := goodIn_r _ [13, 14, 15, 3, 4, 5, 6, 7, 8, 9, 38, 39, 40, 41, 42, 43, 44, 45, 49, 50, 51, 52, 53, 54, 55, 56, 57, 58, 59] (by decide +kernel) (by decide +kernel)
set_option maxRecDepth 20000 in
theorem gX7_layer_X7_logNamed : GoodIn wsX7_layer (wsV RX7 105 RX7 yX7_logNamed wsX7_logNamed) := goodIn_app (goodIn_of _ (by decide +kernel)) ggX7_layer_X7_logNamed
set_option maxRecDepth 20000 in
theorem ggX7_layer_X2_bottom : GoodIn wsX7_layer wsX2_bottom := goodIn_r _ [20, 21, 22, 23, 24, 19, 25, 26, 46, 47, 48] (by decide +kernel) (by decide +kernel)
set_option maxRecDepth 20000 in
theorem gX7_layer_X2_bottom : GoodIn wsX7_layer (wsV RX7 109 RX2 yX2_bottom wsX2_bottom) := goodIn_app (goodIn_of _ (by decide +kernel)) ggX7_layer_X2_bottom
set_option maxRecDepth 20000 in
theorem ggX7_layer_X7_isWithin : GoodIn wsX7_layer wsX7_isWithin := goodIn_r _ [29] (by decide +kernel) (by decide +kernel)
set_option maxRecDepth 20000 in
theorem gX7_layer_X7_isWithin : GoodIn wsX7_layer (va_wsS RX7 60 yX7_isWithin wsX7_isWithin) := goodIn_app (goodIn_of _ (by decide +kernel)) ggX7_layer_X7_isWithin
set_option maxRecDepth 20000 in
theorem ggX7_layer_X7_isCode : GoodIn wsX7_layer wsX7_isCode := goodIn_r _ [32, 27, 28, 6, 29] (by decide +kernel) (by decide +kernel)
set_option maxRecDepth 20000 in
theorem gX7_layer_X7_isCode : GoodIn wsX7_layer (va_wsS RX7 114 yX7_isCode wsX7_isCode) := goodIn_app (goodIn_of _ (by decide +kernel)) ggX7_layer_X7_isCode
set_option maxRecDepth 20000 in
theorem ggX7_layer_X2_add : GoodIn wsX7_layer wsX2_add := goodIn_r _ [36, 26, 21, 37, 46, 47, 48] (by decide +kernel) (by decide +kernel)
set_option maxRecDepth 20000 in
theorem gX7_layer_X2_add : GoodIn wsX7_layer (wsV RX7 120 RX2 yX2_add wsX2_add) := goodIn_app (goodIn_of _ (by decide +kernel)) ggX7_layer_X2_add
theorem dX7_layer_0 : decode cX7_layer 0 = .ok (.aload_n 0, 1) := by decide +kernel
theorem dX7_layer_1 : decode cX7_layer 1 = .ok (.iload_n 1, 1) := by decide +kernel
theorem dX7_layer_2 : decode cX7_layer 2 = .ok (.invokevirtual 56, 3) := by decide +kernel
theorem dX7_layer_5 : decode cX7_layer 5 = .ok (.astore 5, 2) := by decide +kernel
theorem dX7_layer_7 : decode cX7_layer 7 = .ok (.aload_n 0, 1) := by decide +kernel
theorem dX7_layer_8 : decode cX7_layer 8 = .ok (.iload_n 1, 1) := by decide +kernel
theorem dX7_layer_9 : decode cX7_layer 9 = .ok (.iload_n 2, 1) := by decide +kernel
theorem dX7_layer_10 : decode cX7_layer 10 = .ok (.invokevirtual 105, 3) := by decide +kernel
theorem dX7_layer_13 : decode cX7_layer 13 = .ok (.astore 6, 2) := by decide +kernel
theorem dX7_layer_15 : decode cX7_layer 15 = .ok (.aload 5, 2) := by decide +kernel
theorem dX7_layer_17 : decode cX7_layer 17 = .ok (.ifnull 8, 3) := by decide +kernel
theorem dX7_layer_20 : decode cX7_layer 20 = .ok (.aload 6, 2) := by decide +kernel
theorem dX7_layer_22 : decode cX7_layer 22 = .ok (.ifnonnull 6, 3) := by decide +kernel
theorem dX7_layer_25 : decode cX7_layer 25 = .ok (.bipush (-101), 2) := by decide +kernel
theorem dX7_layer_27 : decode cX7_layer 27 = .ok (.ireturn, 1) := by decide +kernel
theorem dX7_layer_28 : decode cX7_layer 28 = .ok (.iload_n 3, 1) := by decide +kernel
theorem dX7_layer_29 : decode cX7_layer 29 = .ok (.aload 6, 2) := by decide +kernel
theorem dX7_layer_31 : decode cX7_layer 31 = .ok (.invokevirtual 109, 3) := by decide +kernel
theorem dX7_layer_34 : decode cX7_layer 34 = .ok (.iconst 1, 1) := by decide +kernel
theorem dX7_layer_35 : decode cX7_layer 35 = .ok (.iadd, 1) := by decide +kernel
theorem dX7_layer_36 : decode cX7_layer 36 = .ok (.aload 5, 2) := by decide +kernel
theorem dX7_layer_38 : decode cX7_layer 38 = .ok (.getfield 79, 3) := by decide +kernel
theorem dX7_layer_41 : decode cX7_layer 41 = .ok (.invokestatic 60, 3) := by decide +kernel
theorem dX7_layer_44 : decode cX7_layer 44 = .ok (.ifCond .eq 11, 3) := by decide +kernel
theorem dX7_layer_47 : decode cX7_layer 47 = .ok (.iload 4, 2) := by decide +kernel
theorem dX7_layer_49 : decode cX7_layer 49 = .ok (.invokestatic 114, 3) := by decide +kernel
theorem dX7_layer_52 : decode cX7_layer 52 = .ok (.ifCond .ne 6, 3) := by decide +kernel
theorem dX7_layer_55 : decode cX7_layer 55 = .ok (.bipush (-102), 2) := by decide +kernel
theorem dX7_layer_57 : decode cX7_layer 57 = .ok (.ireturn, 1) := by decide +kernel
theorem dX7_layer_58 : decode cX7_layer 58 = .ok (.aload 6, 2) := by decide +kernel
theorem dX7_layer_60 : decode cX7_layer 60 = .ok (.getfield 117, 3) := by decide +kernel
theorem dX7_layer_63 : decode cX7_layer 63 = .ok (.bipush 20, 2) := by decide +kernel
theorem dX7_layer_65 : decode cX7_layer 65 = .ok (.if_icmp .lt 6, 3) := by decide +kernel
theorem dX7_layer_68 : decode cX7_layer 68 = .ok (.bipush (-104), 2) := by decide +kernel
theorem dX7_layer_70 : decode cX7_layer 70 = .ok (.ireturn, 1) := by decide +kernel
theorem dX7_layer_71 : decode cX7_layer 71 = .ok (.aload 6, 2) := by decide +kernel
theorem dX7_layer_73 : decode cX7_layer 73 = .ok (.iload_n 3, 1) := by decide +kernel
theorem dX7_layer_74 : decode cX7_layer 74 = .ok (.iload 4, 2) := by decide +kernel
theorem dX7_layer_76 : decode cX7_layer 76 = .ok (.invokevirtual 120, 3) := by decide +kernel
theorem dX7_layer_79 : decode cX7_layer 79 = .ok (.aload 6, 2) := by decide +kernel
theorem dX7_layer_81 : decode cX7_layer 81 = .ok (.getfield 117, 3) := by decide +kernel
theorem dX7_layer_84 : decode cX7_layer 84 = .ok (.ireturn, 1) := by decide +kernel
set_option maxRecDepth 20000 in
theorem ggX7_code_X7_isCode : GoodIn wsX7_code wsX7_isCode := goodIn_r _ [5, 6, 7, 4, 8] (by decide +kernel) (by decide +kernel)
set_option maxRecDepth 20000 in
theorem gX7_code_X7_isCode : GoodIn wsX7_code (va_wsS RX7 114 yX7_isCode wsX7_isCode) := goodIn_app (goodIn_of _ (by decide +kernel)) ggX7_code_X7_isCode
theorem dX7_code_0 : decode cX7_code 0 = .ok (.iload_n 1, 1) := by decide +kernel
theorem dX7_code_1 : decode cX7_code 1 = .ok (.invokestatic 114, 3) := by decide +kernel
theorem dX7_code_4 : decode cX7_code 4 = .ok (.ifCond .ne 6, 3) := by decide +kernel
theorem dX7_code_7 : decode cX7_code 7 = .ok (.bipush (-101), 2) := by decide +kernel
theorem dX7_code_9 : decode cX7_code 9 = .ok (.ireturn, 1) := by decide +kernel
theorem dX7_code_10 : decode cX7_code 10 = .ok (.iload_n 2, 1) := by decide +kernel
theorem dX7_code_11 : decode cX7_code 11 = .ok (.invokestatic 114, 3) := by decide +kernel
theorem dX7_code_14 : decode cX7_code 14 = .ok (.ifCond .ne 6, 3) := by decide +kernel
theorem dX7_code_17 : decode cX7_code 17 = .ok (.bipush (-102), 2) := by decide +kernel
theorem dX7_code_19 : decode cX7_code 19 = .ok (.ireturn, 1) := by decide +kernel
theorem dX7_code_20 : decode cX7_code 20 = .ok (.aload_n 0, 1) := by decide +kernel
theorem dX7_code_21 : decode cX7_code 21 = .ok (.getfield 27, 3) := by decide +kernel
theorem dX7_code_24 : decode cX7_code 24 = .ok (.iload_n 1, 1) := by decide +kernel
theorem dX7_code_25 : decode cX7_code 25 = .ok (.iaload, 1) := by decide +kernel
theorem dX7_code_26 : decode cX7_code 26 = .ok (.istore_n 3, 1) := by decide +kernel
theorem dX7_code_27 : decode cX7_code 27 = .ok (.aload_n 0, 1) := by decide +kernel
theorem dX7_code_28 : decode cX7_code 28 = .ok (.getfield 27, 3) := by decide +kernel
theorem dX7_code_31 : decode cX7_code 31 = .ok (.iload_n 1, 1) := by decide +kernel
theorem dX7_code_32 : decode cX7_code 32 = .ok (.iload_n 2, 1) := by decide +kernel
theorem dX7_code_33 : decode cX7_code 33 = .ok (.iastore, 1) := by decide +kernel
theorem dX7_code_34 : decode cX7_code 34 = .ok (.iload_n 3, 1) := by decide +kernel
theorem dX7_code_35 : decode cX7_code 35 = .ok (.ireturn, 1) := by decide +kernel
set_option maxRecDepth 20000 in
theorem ggX7_rock_X7_logNamed : GoodIn wsX7_rock wsX7_logNamed := goodIn_r _ [7, 8, 9, 10, 11, 12, 6, 13, 14, 15, 41, 42, 43, 44, 45, 46, 47, 48, 27, 28, 29, 30, 31, 32, 33, 34, 35, 36, 37] (by decide +kernel) (by decide +kernel)
set_option maxRecDepth 20000 in
theorem gX7_rock_X7_logNamed : GoodIn wsX7_rock (wsV RX7 105 RX7 yX7_logNamed wsX7_logNamed) := goodIn_app (goodIn_of _ (by decide +kernel)) ggX7_rock_X7_logNamed
set_option maxRecDepth 20000 in
theorem ggX7_rock_X2_indexAt : GoodIn wsX7_rock wsX2_indexAt := goodIn_r _ [20, 21, 22, 23, 24, 25, 19, 26, 38, 39, 40] (by decide +kernel) (by decide +kernel)
set_option maxRecDepth 20000 in
theorem gX7_rock_X2_indexAt : GoodIn wsX7_rock (wsV RX7 123 RX2 yX2_indexAt wsX2_indexAt) := goodIn_app (goodIn_of _ (by decide +kernel)) ggX7_rock_X2_indexAt
