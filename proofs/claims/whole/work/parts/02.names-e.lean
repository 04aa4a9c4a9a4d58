theorem dX8_isUsed_19 : decode cX8_isUsed 19 = .ok (.iadd, 1) := by decide +kernel
theorem dX8_isUsed_20 : decode cX8_isUsed 20 = .ok (.iaload, 1) := by decide +kernel
theorem dX8_isUsed_21 : decode cX8_isUsed 21 = .ok (.ifCond .le 7, 3) := by decide +kernel
theorem dX8_isUsed_24 : decode cX8_isUsed 24 = .ok (.iconst 1, 1) := by decide +kernel
theorem dX8_isUsed_25 : decode cX8_isUsed 25 = .ok (.goto 4, 3) := by decide +kernel
theorem dX8_isUsed_28 : decode cX8_isUsed 28 = .ok (.iconst 0, 1) := by decide +kernel
theorem dX8_isUsed_29 : decode cX8_isUsed 29 = .ok (.istore_n 2, 1) := by decide +kernel
theorem dX8_isUsed_30 : decode cX8_isUsed 30 = .ok (.iconst 0, 1) := by decide +kernel
theorem dX8_isUsed_31 : decode cX8_isUsed 31 = .ok (.istore_n 3, 1) := by decide +kernel
theorem dX8_isUsed_32 : decode cX8_isUsed 32 = .ok (.iload_n 3, 1) := by decide +kernel
theorem dX8_isUsed_33 : decode cX8_isUsed 33 = .ok (.aload_n 0, 1) := by decide +kernel
theorem dX8_isUsed_34 : decode cX8_isUsed 34 = .ok (.getfield 88, 3) := by decide +kernel
theorem dX8_isUsed_37 : decode cX8_isUsed 37 = .ok (.if_icmp .ge 29, 3) := by decide +kernel
theorem dX8_isUsed_40 : decode cX8_isUsed 40 = .ok (.iload_n 2, 1) := by decide +kernel
theorem dX8_isUsed_41 : decode cX8_isUsed 41 = .ok (.ifCond .ne 13, 3) := by decide +kernel
theorem dX8_isUsed_44 : decode cX8_isUsed 44 = .ok (.aload_n 0, 1) := by decide +kernel
theorem dX8_isUsed_45 : decode cX8_isUsed 45 = .ok (.getfield 44, 3) := by decide +kernel
theorem dX8_isUsed_48 : decode cX8_isUsed 48 = .ok (.iload_n 3, 1) := by decide +kernel
theorem dX8_isUsed_49 : decode cX8_isUsed 49 = .ok (.iaload, 1) := by decide +kernel
theorem dX8_isUsed_50 : decode cX8_isUsed 50 = .ok (.iload_n 1, 1) := by decide +kernel
theorem dX8_isUsed_51 : decode cX8_isUsed 51 = .ok (.if_icmp .ne 7, 3) := by decide +kernel
theorem dX8_isUsed_54 : decode cX8_isUsed 54 = .ok (.iconst 1, 1) := by decide +kernel
theorem dX8_isUsed_55 : decode cX8_isUsed 55 = .ok (.goto 4, 3) := by decide +kernel
theorem dX8_isUsed_58 : decode cX8_isUsed 58 = .ok (.iconst 0, 1) := by decide +kernel
theorem dX8_isUsed_59 : decode cX8_isUsed 59 = .ok (.istore_n 2, 1) := by decide +kernel
theorem dX8_isUsed_60 : decode cX8_isUsed 60 = .ok (.iinc 3 1, 3) := by decide +kernel
theorem dX8_isUsed_63 : decode cX8_isUsed 63 = .ok (.goto (-31), 3) := by decide +kernel
theorem dX8_isUsed_66 : decode cX8_isUsed 66 = .ok (.iload_n 2, 1) := by decide +kernel
theorem dX8_isUsed_67 : decode cX8_isUsed 67 = .ok (.ireturn, 1) := by decide +kernel
set_option maxRecDepth 20000 in
theorem ggX8_run_X8_isHole : GoodIn wsX8_run wsX8_isHole := goodIn_r _ [9, 10, 11, 12, 8, 13, 25, 26, 27, 28, 29, 30, 31, 32, 33, 34, 35, 36, 37, 38, 39, 40, 41, 42, 43, 44, 45, 46, 47, 48, 49, 50, 51] (by decide +kernel) (by decide +kernel)
set_option maxRecDepth 20000 in
theorem gX8_run_X8_isHole : GoodIn wsX8_run (wsV RX8 91 RX8 yX8_isHole wsX8_isHole) := goodIn_app (goodIn_of _ (by decide +kernel)) ggX8_run_X8_isHole
set_option maxRecDepth 20000 in
theorem ggX8_run_X8_in : GoodIn wsX8_run wsX8_in := goodIn_r _ [13] (by decide +kernel) (by decide +kernel)
set_option maxRecDepth 20000 in
theorem gX8_run_X8_in : GoodIn wsX8_run (va_wsS RX8 84 yX8_in wsX8_in) := goodIn_app (goodIn_of _ (by decide +kernel)) ggX8_run_X8_in
set_option maxRecDepth 20000 in
theorem ggX8_run_X8_isUsed : GoodIn wsX8_run wsX8_isUsed := goodIn_r _ [17, 18, 19, 20, 25, 26, 27, 28, 29, 30, 31, 32, 33, 34, 35, 36, 37, 38, 39, 40, 41, 42, 43, 44, 45, 46, 47, 48, 49, 50, 51] (by decide +kernel) (by decide +kernel)
set_option maxRecDepth 20000 in
theorem gX8_run_X8_isUsed : GoodIn wsX8_run (wsV RX8 97 RX8 yX8_isUsed wsX8_isUsed) := goodIn_app (goodIn_of _ (by decide +kernel)) ggX8_run_X8_isUsed
set_option maxRecDepth 20000 in
theorem ggX8_run_X8_endOf : GoodIn wsX8_run wsX8_endOf := goodIn_r _ [24, 2, 3, 25, 26, 27, 28, 29, 30, 31, 32, 33, 34, 35, 36, 37, 38, 39, 40, 41, 42, 43, 44, 45, 46, 47, 48, 49, 50, 51] (by decide +kernel) (by decide +kernel)
set_option maxRecDepth 20000 in
theorem gX8_run_X8_endOf : GoodIn wsX8_run (wsV RX8 100 RX8 yX8_endOf wsX8_endOf) := goodIn_app (goodIn_of _ (by decide +kernel)) ggX8_run_X8_endOf
theorem dX8_run_0 : decode cX8_run 0 = .ok (.aload_n 0, 1) := by decide +kernel
theorem dX8_run_1 : decode cX8_run 1 = .ok (.iload_n 1, 1) := by decide +kernel
theorem dX8_run_2 : decode cX8_run 2 = .ok (.invokevirtual 91, 3) := by decide +kernel
theorem dX8_run_5 : decode cX8_run 5 = .ok (.ifCond .ne 6, 3) := by decide +kernel
theorem dX8_run_8 : decode cX8_run 8 = .ok (.bipush (-101), 2) := by decide +kernel
theorem dX8_run_10 : decode cX8_run 10 = .ok (.ireturn, 1) := by decide +kernel
theorem dX8_run_11 : decode cX8_run 11 = .ok (.iload_n 2, 1) := by decide +kernel
theorem dX8_run_12 : decode cX8_run 12 = .ok (.i2l, 1) := by decide +kernel
theorem dX8_run_13 : decode cX8_run 13 = .ok (.lconst 1, 1) := by decide +kernel
theorem dX8_run_14 : decode cX8_run 14 = .ok (.ldc2_w 95, 3) := by decide +kernel
theorem dX8_run_17 : decode cX8_run 17 = .ok (.invokestatic 84, 3) := by decide +kernel
theorem dX8_run_20 : decode cX8_run 20 = .ok (.ifCond .eq 14, 3) := by decide +kernel
theorem dX8_run_23 : decode cX8_run 23 = .ok (.iload_n 3, 1) := by decide +kernel
theorem dX8_run_24 : decode cX8_run 24 = .ok (.i2l, 1) := by decide +kernel
theorem dX8_run_25 : decode cX8_run 25 = .ok (.lconst 0, 1) := by decide +kernel
theorem dX8_run_26 : decode cX8_run 26 = .ok (.iload_n 2, 1) := by decide +kernel
theorem dX8_run_27 : decode cX8_run 27 = .ok (.i2l, 1) := by decide +kernel
theorem dX8_run_28 : decode cX8_run 28 = .ok (.invokestatic 84, 3) := by decide +kernel
theorem dX8_run_31 : decode cX8_run 31 = .ok (.ifCond .ne 6, 3) := by decide +kernel
theorem dX8_run_34 : decode cX8_run 34 = .ok (.bipush (-102), 2) := by decide +kernel
theorem dX8_run_36 : decode cX8_run 36 = .ok (.ireturn, 1) := by decide +kernel
theorem dX8_run_37 : decode cX8_run 37 = .ok (.aload_n 0, 1) := by decide +kernel
theorem dX8_run_38 : decode cX8_run 38 = .ok (.iload_n 1, 1) := by decide +kernel
theorem dX8_run_39 : decode cX8_run 39 = .ok (.invokevirtual 97, 3) := by decide +kernel
theorem dX8_run_42 : decode cX8_run 42 = .ok (.ifCond .eq 6, 3) := by decide +kernel
theorem dX8_run_45 : decode cX8_run 45 = .ok (.bipush (-103), 2) := by decide +kernel
theorem dX8_run_47 : decode cX8_run 47 = .ok (.ireturn, 1) := by decide +kernel
theorem dX8_run_48 : decode cX8_run 48 = .ok (.aload_n 0, 1) := by decide +kernel
theorem dX8_run_49 : decode cX8_run 49 = .ok (.getfield 7, 3) := by decide +kernel
theorem dX8_run_52 : decode cX8_run 52 = .ok (.iload_n 1, 1) := by decide +kernel
theorem dX8_run_53 : decode cX8_run 53 = .ok (.iaload, 1) := by decide +kernel
theorem dX8_run_54 : decode cX8_run 54 = .ok (.bipush 20, 2) := by decide +kernel
theorem dX8_run_56 : decode cX8_run 56 = .ok (.if_icmp .ne 6, 3) := by decide +kernel
theorem dX8_run_59 : decode cX8_run 59 = .ok (.bipush (-104), 2) := by decide +kernel
theorem dX8_run_61 : decode cX8_run 61 = .ok (.ireturn, 1) := by decide +kernel
theorem dX8_run_62 : decode cX8_run 62 = .ok (.aload_n 0, 1) := by decide +kernel
theorem dX8_run_63 : decode cX8_run 63 = .ok (.getfield 13, 3) := by decide +kernel
theorem dX8_run_66 : decode cX8_run 66 = .ok (.bipush 20, 2) := by decide +kernel
theorem dX8_run_68 : decode cX8_run 68 = .ok (.iload_n 1, 1) := by decide +kernel
theorem dX8_run_69 : decode cX8_run 69 = .ok (.imul, 1) := by decide +kernel
theorem dX8_run_70 : decode cX8_run 70 = .ok (.aload_n 0, 1) := by decide +kernel
theorem dX8_run_71 : decode cX8_run 71 = .ok (.getfield 7, 3) := by decide +kernel
theorem dX8_run_74 : decode cX8_run 74 = .ok (.iload_n 1, 1) := by decide +kernel
theorem dX8_run_75 : decode cX8_run 75 = .ok (.iaload, 1) := by decide +kernel
theorem dX8_run_76 : decode cX8_run 76 = .ok (.iadd, 1) := by decide +kernel
theorem dX8_run_77 : decode cX8_run 77 = .ok (.iload_n 2, 1) := by decide +kernel
theorem dX8_run_78 : decode cX8_run 78 = .ok (.iastore, 1) := by decide +kernel
theorem dX8_run_79 : decode cX8_run 79 = .ok (.aload_n 0, 1) := by decide +kernel
theorem dX8_run_80 : decode cX8_run 80 = .ok (.getfield 16, 3) := by decide +kernel
theorem dX8_run_83 : decode cX8_run 83 = .ok (.bipush 20, 2) := by decide +kernel
theorem dX8_run_85 : decode cX8_run 85 = .ok (.iload_n 1, 1) := by decide +kernel
theorem dX8_run_86 : decode cX8_run 86 = .ok (.imul, 1) := by decide +kernel
theorem dX8_run_87 : decode cX8_run 87 = .ok (.aload_n 0, 1) := by decide +kernel
theorem dX8_run_88 : decode cX8_run 88 = .ok (.getfield 7, 3) := by decide +kernel
theorem dX8_run_91 : decode cX8_run 91 = .ok (.iload_n 1, 1) := by decide +kernel
theorem dX8_run_92 : decode cX8_run 92 = .ok (.iaload, 1) := by decide +kernel
theorem dX8_run_93 : decode cX8_run 93 = .ok (.iadd, 1) := by decide +kernel
theorem dX8_run_94 : decode cX8_run 94 = .ok (.iload_n 3, 1) := by decide +kernel
theorem dX8_run_95 : decode cX8_run 95 = .ok (.iastore, 1) := by decide +kernel
theorem dX8_run_96 : decode cX8_run 96 = .ok (.aload_n 0, 1) := by decide +kernel
theorem dX8_run_97 : decode cX8_run 97 = .ok (.getfield 7, 3) := by decide +kernel
theorem dX8_run_100 : decode cX8_run 100 = .ok (.iload_n 1, 1) := by decide +kernel
theorem dX8_run_101 : decode cX8_run 101 = .ok (.dup2, 1) := by decide +kernel
theorem dX8_run_102 : decode cX8_run 102 = .ok (.iaload, 1) := by decide +kernel
theorem dX8_run_103 : decode cX8_run 103 = .ok (.iconst 1, 1) := by decide +kernel
theorem dX8_run_104 : decode cX8_run 104 = .ok (.iadd, 1) := by decide +kernel
theorem dX8_run_105 : decode cX8_run 105 = .ok (.iastore, 1) := by decide +kernel
theorem dX8_run_106 : decode cX8_run 106 = .ok (.aload_n 0, 1) := by decide +kernel
theorem dX8_run_107 : decode cX8_run 107 = .ok (.iload_n 1, 1) := by decide +kernel
theorem dX8_run_108 : decode cX8_run 108 = .ok (.invokevirtual 100, 3) := by decide +kernel
theorem dX8_run_111 : decode cX8_run 111 = .ok (.ireturn, 1) := by decide +kernel
set_option maxRecDepth 20000 in
theorem ggX8_end_X8_isHole : GoodIn wsX8_end wsX8_isHole := goodIn_r _ [5, 6, 7, 8, 4, 9, 16, 17, 18, 19, 20, 21, 22, 23, 24, 25, 26, 27, 28, 29, 30, 31, 32, 33, 34, 35, 36, 37, 38, 39, 40, 41, 42] (by decide +kernel) (by decide +kernel)
set_option maxRecDepth 20000 in
theorem gX8_end_X8_isHole : GoodIn wsX8_end (wsV RX8 91 RX8 yX8_isHole wsX8_isHole) := goodIn_app (goodIn_of _ (by decide +kernel)) ggX8_end_X8_isHole
set_option maxRecDepth 20000 in
theorem ggX8_end_X8_endOf : GoodIn wsX8_end wsX8_endOf := goodIn_r _ [13, 14, 15, 16, 17, 18, 19, 20, 21, 22, 23, 24, 25, 26, 27, 28, 29, 30, 31, 32, 33, 34, 35, 36, 37, 38, 39, 40, 41, 42] (by decide +kernel) (by decide +kernel)
set_option maxRecDepth 20000 in
theorem gX8_end_X8_endOf : GoodIn wsX8_end (wsV RX8 100 RX8 yX8_endOf wsX8_endOf) := goodIn_app (goodIn_of _ (by decide +kernel)) ggX8_end_X8_endOf
theorem dX8_end_0 : decode cX8_end 0 = .ok (.aload_n 0, 1) := by decide +kernel
theorem dX8_end_1 : decode cX8_end 1 = .ok (.iload_n 1, 1) := by decide +kernel
theorem dX8_end_2 : decode cX8_end 2 = .ok (.invokevirtual 91, 3) := by decide +kernel
theorem dX8_end_5 : decode cX8_end 5 = .ok (.ifCond .eq 11, 3) := by decide +kernel
theorem dX8_end_8 : decode cX8_end 8 = .ok (.aload_n 0, 1) := by decide +kernel
theorem dX8_end_9 : decode cX8_end 9 = .ok (.iload_n 1, 1) := by decide +kernel
theorem dX8_end_10 : decode cX8_end 10 = .ok (.invokevirtual 100, 3) := by decide +kernel
theorem dX8_end_13 : decode cX8_end 13 = .ok (.goto 5, 3) := by decide +kernel
theorem dX8_end_16 : decode cX8_end 16 = .ok (.bipush (-101), 2) := by decide +kernel
theorem dX8_end_18 : decode cX8_end 18 = .ok (.ireturn, 1) := by decide +kernel
set_option maxRecDepth 20000 in
theorem ggX8_isStretch_X8_endOf : GoodIn wsX8_isStretch wsX8_endOf := goodIn_r _ [5, 6, 7, 8, 9, 10, 11, 12, 13, 14, 15, 16, 17, 18, 19, 20, 21, 22, 23, 24, 25, 26, 27, 28, 29, 30, 31, 32, 33, 34] (by decide +kernel) (by decide +kernel)
set_option maxRecDepth 20000 in
theorem gX8_isStretch_X8_endOf : GoodIn wsX8_isStretch (wsV RX8 100 RX8 yX8_endOf wsX8_endOf) := goodIn_app (goodIn_of _ (by decide +kernel)) ggX8_isStretch_X8_endOf
theorem dX8_isStretch_0 : decode cX8_isStretch 0 = .ok (.iload_n 2, 1) := by decide +kernel
theorem dX8_isStretch_1 : decode cX8_isStretch 1 = .ok (.ifCond .lt 21, 3) := by decide +kernel
theorem dX8_isStretch_4 : decode cX8_isStretch 4 = .ok (.iload_n 2, 1) := by decide +kernel
theorem dX8_isStretch_5 : decode cX8_isStretch 5 = .ok (.iload_n 3, 1) := by decide +kernel
theorem dX8_isStretch_6 : decode cX8_isStretch 6 = .ok (.if_icmp .ge 16, 3) := by decide +kernel
theorem dX8_isStretch_9 : decode cX8_isStretch 9 = .ok (.iload_n 3, 1) := by decide +kernel
theorem dX8_isStretch_10 : decode cX8_isStretch 10 = .ok (.aload_n 0, 1) := by decide +kernel
theorem dX8_isStretch_11 : decode cX8_isStretch 11 = .ok (.iload_n 1, 1) := by decide +kernel
theorem dX8_isStretch_12 : decode cX8_isStretch 12 = .ok (.invokevirtual 100, 3) := by decide +kernel
theorem dX8_isStretch_15 : decode cX8_isStretch 15 = .ok (.if_icmp .gt 7, 3) := by decide +kernel
theorem dX8_isStretch_18 : decode cX8_isStretch 18 = .ok (.iconst 1, 1) := by decide +kernel
theorem dX8_isStretch_19 : decode cX8_isStretch 19 = .ok (.goto 4, 3) := by decide +kernel
theorem dX8_isStretch_22 : decode cX8_isStretch 22 = .ok (.iconst 0, 1) := by decide +kernel
theorem dX8_isStretch_23 : decode cX8_isStretch 23 = .ok (.ireturn, 1) := by decide +kernel
theorem dX8_common_0 : decode cX8_common 0 = .ok (.iload_n 0, 1) := by decide +kernel
theorem dX8_common_1 : decode cX8_common 1 = .ok (.iload_n 2, 1) := by decide +kernel
theorem dX8_common_2 : decode cX8_common 2 = .ok (.if_icmp .le 7, 3) := by decide +kernel
theorem dX8_common_5 : decode cX8_common 5 = .ok (.iload_n 0, 1) := by decide +kernel
theorem dX8_common_6 : decode cX8_common 6 = .ok (.goto 4, 3) := by decide +kernel
theorem dX8_common_9 : decode cX8_common 9 = .ok (.iload_n 2, 1) := by decide +kernel
theorem dX8_common_10 : decode cX8_common 10 = .ok (.istore 4, 2) := by decide +kernel
theorem dX8_common_12 : decode cX8_common 12 = .ok (.iload_n 1, 1) := by decide +kernel
theorem dX8_common_13 : decode cX8_common 13 = .ok (.iload_n 3, 1) := by decide +kernel
theorem dX8_common_14 : decode cX8_common 14 = .ok (.if_icmp .ge 7, 3) := by decide +kernel
theorem dX8_common_17 : decode cX8_common 17 = .ok (.iload_n 1, 1) := by decide +kernel
theorem dX8_common_18 : decode cX8_common 18 = .ok (.goto 4, 3) := by decide +kernel
theorem dX8_common_21 : decode cX8_common 21 = .ok (.iload_n 3, 1) := by decide +kernel
theorem dX8_common_22 : decode cX8_common 22 = .ok (.istore 5, 2) := by decide +kernel
theorem dX8_common_24 : decode cX8_common 24 = .ok (.iload 5, 2) := by decide +kernel
theorem dX8_common_26 : decode cX8_common 26 = .ok (.iload 4, 2) := by decide +kernel
theorem dX8_common_28 : decode cX8_common 28 = .ok (.if_icmp .le 11, 3) := by decide +kernel
theorem dX8_common_31 : decode cX8_common 31 = .ok (.iload 5, 2) := by decide +kernel
theorem dX8_common_33 : decode cX8_common 33 = .ok (.iload 4, 2) := by decide +kernel
theorem dX8_common_35 : decode cX8_common 35 = .ok (.isub, 1) := by decide +kernel
theorem dX8_common_36 : decode cX8_common 36 = .ok (.goto 4, 3) := by decide +kernel
theorem dX8_common_39 : decode cX8_common 39 = .ok (.iconst 0, 1) := by decide +kernel
theorem dX8_common_40 : decode cX8_common 40 = .ok (.ireturn, 1) := by decide +kernel
set_option maxRecDepth 20000 in
theorem ggX8_recoveredOf_X8_common : GoodIn wsX8_recoveredOf wsX8_common := goodIn_r _ [7] (by decide +kernel) (by decide +kernel)
set_option maxRecDepth 20000 in
theorem gX8_recoveredOf_X8_common : GoodIn wsX8_recoveredOf (va_wsS RX8 104 yX8_common wsX8_common) := goodIn_app (goodIn_of _ (by decide +kernel)) ggX8_recoveredOf_X8_common
theorem dX8_recoveredOf_0 : decode cX8_recoveredOf 0 = .ok (.iconst 0, 1) := by decide +kernel
theorem dX8_recoveredOf_1 : decode cX8_recoveredOf 1 = .ok (.istore 4, 2) := by decide +kernel
theorem dX8_recoveredOf_3 : decode cX8_recoveredOf 3 = .ok (.iconst 0, 1) := by decide +kernel
theorem dX8_recoveredOf_4 : decode cX8_recoveredOf 4 = .ok (.istore 5, 2) := by decide +kernel
theorem dX8_recoveredOf_6 : decode cX8_recoveredOf 6 = .ok (.iconst 0, 1) := by decide +kernel
theorem dX8_recoveredOf_7 : decode cX8_recoveredOf 7 = .ok (.istore 6, 2) := by decide +kernel
theorem dX8_recoveredOf_9 : decode cX8_recoveredOf 9 = .ok (.iload 6, 2) := by decide +kernel
theorem dX8_recoveredOf_11 : decode cX8_recoveredOf 11 = .ok (.aload_n 0, 1) := by decide +kernel
theorem dX8_recoveredOf_12 : decode cX8_recoveredOf 12 = .ok (.getfield 7, 3) := by decide +kernel
theorem dX8_recoveredOf_15 : decode cX8_recoveredOf 15 = .ok (.iload_n 1, 1) := by decide +kernel
theorem dX8_recoveredOf_16 : decode cX8_recoveredOf 16 = .ok (.iaload, 1) := by decide +kernel
theorem dX8_recoveredOf_17 : decode cX8_recoveredOf 17 = .ok (.if_icmp .ge 53, 3) := by decide +kernel
theorem dX8_recoveredOf_20 : decode cX8_recoveredOf 20 = .ok (.iload 4, 2) := by decide +kernel
theorem dX8_recoveredOf_22 : decode cX8_recoveredOf 22 = .ok (.iload_n 2, 1) := by decide +kernel
theorem dX8_recoveredOf_23 : decode cX8_recoveredOf 23 = .ok (.iload_n 3, 1) := by decide +kernel
theorem dX8_recoveredOf_24 : decode cX8_recoveredOf 24 = .ok (.iload 5, 2) := by decide +kernel
theorem dX8_recoveredOf_26 : decode cX8_recoveredOf 26 = .ok (.iload 5, 2) := by decide +kernel
theorem dX8_recoveredOf_28 : decode cX8_recoveredOf 28 = .ok (.aload_n 0, 1) := by decide +kernel
theorem dX8_recoveredOf_29 : decode cX8_recoveredOf 29 = .ok (.getfield 16, 3) := by decide +kernel
theorem dX8_recoveredOf_32 : decode cX8_recoveredOf 32 = .ok (.bipush 20, 2) := by decide +kernel
theorem dX8_recoveredOf_34 : decode cX8_recoveredOf 34 = .ok (.iload_n 1, 1) := by decide +kernel
theorem dX8_recoveredOf_35 : decode cX8_recoveredOf 35 = .ok (.imul, 1) := by decide +kernel
theorem dX8_recoveredOf_36 : decode cX8_recoveredOf 36 = .ok (.iload 6, 2) := by decide +kernel
theorem dX8_recoveredOf_38 : decode cX8_recoveredOf 38 = .ok (.iadd, 1) := by decide +kernel
theorem dX8_recoveredOf_39 : decode cX8_recoveredOf 39 = .ok (.iaload, 1) := by decide +kernel
theorem dX8_recoveredOf_40 : decode cX8_recoveredOf 40 = .ok (.iadd, 1) := by decide +kernel
theorem dX8_recoveredOf_41 : decode cX8_recoveredOf 41 = .ok (.invokestatic 104, 3) := by decide +kernel
theorem dX8_recoveredOf_44 : decode cX8_recoveredOf 44 = .ok (.iadd, 1) := by decide +kernel
theorem dX8_recoveredOf_45 : decode cX8_recoveredOf 45 = .ok (.istore 4, 2) := by decide +kernel
theorem dX8_recoveredOf_47 : decode cX8_recoveredOf 47 = .ok (.iload 5, 2) := by decide +kernel
theorem dX8_recoveredOf_49 : decode cX8_recoveredOf 49 = .ok (.aload_n 0, 1) := by decide +kernel
theorem dX8_recoveredOf_50 : decode cX8_recoveredOf 50 = .ok (.getfield 13, 3) := by decide +kernel
theorem dX8_recoveredOf_53 : decode cX8_recoveredOf 53 = .ok (.bipush 20, 2) := by decide +kernel
theorem dX8_recoveredOf_55 : decode cX8_recoveredOf 55 = .ok (.iload_n 1, 1) := by decide +kernel
theorem dX8_recoveredOf_56 : decode cX8_recoveredOf 56 = .ok (.imul, 1) := by decide +kernel
theorem dX8_recoveredOf_57 : decode cX8_recoveredOf 57 = .ok (.iload 6, 2) := by decide +kernel
theorem dX8_recoveredOf_59 : decode cX8_recoveredOf 59 = .ok (.iadd, 1) := by decide +kernel
theorem dX8_recoveredOf_60 : decode cX8_recoveredOf 60 = .ok (.iaload, 1) := by decide +kernel
theorem dX8_recoveredOf_61 : decode cX8_recoveredOf 61 = .ok (.iadd, 1) := by decide +kernel
theorem dX8_recoveredOf_62 : decode cX8_recoveredOf 62 = .ok (.istore 5, 2) := by decide +kernel
theorem dX8_recoveredOf_64 : decode cX8_recoveredOf 64 = .ok (.iinc 6 1, 3) := by decide +kernel
theorem dX8_recoveredOf_67 : decode cX8_recoveredOf 67 = .ok (.goto (-58), 3) := by decide +kernel
theorem dX8_recoveredOf_70 : decode cX8_recoveredOf 70 = .ok (.iload 4, 2) := by decide +kernel
theorem dX8_recoveredOf_72 : decode cX8_recoveredOf 72 = .ok (.ireturn, 1) := by decide +kernel
set_option maxRecDepth 20000 in
theorem ggX8_recovered_X8_isHole : GoodIn wsX8_recovered wsX8_isHole := goodIn_r _ [5, 6, 7, 8, 4, 9, 28, 29, 30, 31, 32, 33, 34, 35, 36, 37, 38, 39, 40, 41, 42, 43, 44, 45, 46, 47, 48, 49, 50, 51, 52, 53, 54] (by decide +kernel) (by decide +kernel)
set_option maxRecDepth 20000 in
theorem gX8_recovered_X8_isHole : GoodIn wsX8_recovered (wsV RX8 91 RX8 yX8_isHole wsX8_isHole) := goodIn_app (goodIn_of _ (by decide +kernel)) ggX8_recovered_X8_isHole
set_option maxRecDepth 20000 in
theorem ggX8_recovered_X8_isStretch : GoodIn wsX8_recovered wsX8_isStretch := goodIn_r _ [13, 14, 15, 16, 4, 17, 18, 19, 28, 29, 30, 31, 32, 33, 34, 35, 36, 37, 38, 39, 40, 41, 42, 43, 44, 45, 46, 47, 48, 49, 50, 51, 52, 53, 54] (by decide +kernel) (by decide +kernel)
set_option maxRecDepth 20000 in
theorem gX8_recovered_X8_isStretch : GoodIn wsX8_recovered (wsV RX8 108 RX8 yX8_isStretch wsX8_isStretch) := goodIn_app (goodIn_of _ (by decide +kernel)) ggX8_recovered_X8_isStretch
set_option maxRecDepth 20000 in
theorem ggX8_recovered_X8_recoveredOf : GoodIn wsX8_recovered wsX8_recoveredOf := goodIn_r _ [23, 18, 24, 19, 25, 26, 4, 27, 28, 29, 30, 31, 32, 33, 34, 35, 36, 37, 38, 39, 40, 41, 42, 43, 44, 45, 46, 47, 48, 49, 50, 51, 52, 53, 54] (by decide +kernel) (by decide +kernel)
set_option maxRecDepth 20000 in
theorem gX8_recovered_X8_recoveredOf : GoodIn wsX8_recovered (wsV RX8 112 RX8 yX8_recoveredOf wsX8_recoveredOf) := goodIn_app (goodIn_of _ (by decide +kernel)) ggX8_recovered_X8_recoveredOf
theorem dX8_recovered_0 : decode cX8_recovered 0 = .ok (.aload_n 0, 1) := by decide +kernel
theorem dX8_recovered_1 : decode cX8_recovered 1 = .ok (.iload_n 1, 1) := by decide +kernel
theorem dX8_recovered_2 : decode cX8_recovered 2 = .ok (.invokevirtual 91, 3) := by decide +kernel
theorem dX8_recovered_5 : decode cX8_recovered 5 = .ok (.ifCond .ne 6, 3) := by decide +kernel
theorem dX8_recovered_8 : decode cX8_recovered 8 = .ok (.bipush (-101), 2) := by decide +kernel
theorem dX8_recovered_10 : decode cX8_recovered 10 = .ok (.ireturn, 1) := by decide +kernel
theorem dX8_recovered_11 : decode cX8_recovered 11 = .ok (.aload_n 0, 1) := by decide +kernel
theorem dX8_recovered_12 : decode cX8_recovered 12 = .ok (.iload_n 1, 1) := by decide +kernel
theorem dX8_recovered_13 : decode cX8_recovered 13 = .ok (.iload_n 2, 1) := by decide +kernel
theorem dX8_recovered_14 : decode cX8_recovered 14 = .ok (.iload_n 3, 1) := by decide +kernel
theorem dX8_recovered_15 : decode cX8_recovered 15 = .ok (.invokevirtual 108, 3) := by decide +kernel
theorem dX8_recovered_18 : decode cX8_recovered 18 = .ok (.ifCond .eq 13, 3) := by decide +kernel
theorem dX8_recovered_21 : decode cX8_recovered 21 = .ok (.aload_n 0, 1) := by decide +kernel
theorem dX8_recovered_22 : decode cX8_recovered 22 = .ok (.iload_n 1, 1) := by decide +kernel
theorem dX8_recovered_23 : decode cX8_recovered 23 = .ok (.iload_n 2, 1) := by decide +kernel
theorem dX8_recovered_24 : decode cX8_recovered 24 = .ok (.iload_n 3, 1) := by decide +kernel
theorem dX8_recovered_25 : decode cX8_recovered 25 = .ok (.invokevirtual 112, 3) := by decide +kernel
theorem dX8_recovered_28 : decode cX8_recovered 28 = .ok (.goto 5, 3) := by decide +kernel
theorem dX8_recovered_31 : decode cX8_recovered 31 = .ok (.bipush (-102), 2) := by decide +kernel
theorem dX8_recovered_33 : decode cX8_recovered 33 = .ok (.ireturn, 1) := by decide +kernel
set_option maxRecDepth 20000 in
theorem ggX8_mark_X8_isHole : GoodIn wsX8_mark wsX8_isHole := goodIn_r _ [8, 9, 10, 11, 7, 12, 13, 14, 15, 16, 17, 18, 19, 20, 21, 22, 23, 24, 25, 26, 27, 28, 29, 30, 31, 32, 33, 34, 35, 36, 37, 38, 39] (by decide +kernel) (by decide +kernel)
set_option maxRecDepth 20000 in
theorem gX8_mark_X8_isHole : GoodIn wsX8_mark (wsV RX8 91 RX8 yX8_isHole wsX8_isHole) := goodIn_app (goodIn_of _ (by decide +kernel)) ggX8_mark_X8_isHole
set_option maxRecDepth 20000 in
theorem ggX8_mark_X8_in : GoodIn wsX8_mark wsX8_in := goodIn_r _ [12] (by decide +kernel) (by decide +kernel)
set_option maxRecDepth 20000 in
theorem gX8_mark_X8_in : GoodIn wsX8_mark (va_wsS RX8 84 yX8_in wsX8_in) := goodIn_app (goodIn_of _ (by decide +kernel)) ggX8_mark_X8_in
theorem dX8_mark_0 : decode cX8_mark 0 = .ok (.aload_n 0, 1) := by decide +kernel
theorem dX8_mark_1 : decode cX8_mark 1 = .ok (.iload_n 1, 1) := by decide +kernel
theorem dX8_mark_2 : decode cX8_mark 2 = .ok (.invokevirtual 91, 3) := by decide +kernel
theorem dX8_mark_5 : decode cX8_mark 5 = .ok (.ifCond .ne 6, 3) := by decide +kernel
theorem dX8_mark_8 : decode cX8_mark 8 = .ok (.bipush (-101), 2) := by decide +kernel
theorem dX8_mark_10 : decode cX8_mark 10 = .ok (.ireturn, 1) := by decide +kernel
theorem dX8_mark_11 : decode cX8_mark 11 = .ok (.iload_n 2, 1) := by decide +kernel
theorem dX8_mark_12 : decode cX8_mark 12 = .ok (.i2l, 1) := by decide +kernel
theorem dX8_mark_13 : decode cX8_mark 13 = .ok (.lconst 0, 1) := by decide +kernel
theorem dX8_mark_14 : decode cX8_mark 14 = .ok (.ldc2_w 116, 3) := by decide +kernel
theorem dX8_mark_17 : decode cX8_mark 17 = .ok (.invokestatic 84, 3) := by decide +kernel
theorem dX8_mark_20 : decode cX8_mark 20 = .ok (.ifCond .ne 6, 3) := by decide +kernel
theorem dX8_mark_23 : decode cX8_mark 23 = .ok (.bipush (-102), 2) := by decide +kernel
theorem dX8_mark_25 : decode cX8_mark 25 = .ok (.ireturn, 1) := by decide +kernel
theorem dX8_mark_26 : decode cX8_mark 26 = .ok (.aload_n 0, 1) := by decide +kernel
theorem dX8_mark_27 : decode cX8_mark 27 = .ok (.getfield 19, 3) := by decide +kernel
theorem dX8_mark_30 : decode cX8_mark 30 = .ok (.iload_n 1, 1) := by decide +kernel
theorem dX8_mark_31 : decode cX8_mark 31 = .ok (.iaload, 1) := by decide +kernel
theorem dX8_mark_32 : decode cX8_mark 32 = .ok (.bipush 20, 2) := by decide +kernel
theorem dX8_mark_34 : decode cX8_mark 34 = .ok (.if_icmp .ne 6, 3) := by decide +kernel
theorem dX8_mark_37 : decode cX8_mark 37 = .ok (.bipush (-104), 2) := by decide +kernel
theorem dX8_mark_39 : decode cX8_mark 39 = .ok (.ireturn, 1) := by decide +kernel
theorem dX8_mark_40 : decode cX8_mark 40 = .ok (.aload_n 0, 1) := by decide +kernel
theorem dX8_mark_41 : decode cX8_mark 41 = .ok (.getfield 22, 3) := by decide +kernel
theorem dX8_mark_44 : decode cX8_mark 44 = .ok (.bipush 20, 2) := by decide +kernel
theorem dX8_mark_46 : decode cX8_mark 46 = .ok (.iload_n 1, 1) := by decide +kernel
theorem dX8_mark_47 : decode cX8_mark 47 = .ok (.imul, 1) := by decide +kernel
theorem dX8_mark_48 : decode cX8_mark 48 = .ok (.aload_n 0, 1) := by decide +kernel
theorem dX8_mark_49 : decode cX8_mark 49 = .ok (.getfield 19, 3) := by decide +kernel
theorem dX8_mark_52 : decode cX8_mark 52 = .ok (.iload_n 1, 1) := by decide +kernel
theorem dX8_mark_53 : decode cX8_mark 53 = .ok (.iaload, 1) := by decide +kernel
theorem dX8_mark_54 : decode cX8_mark 54 = .ok (.iadd, 1) := by decide +kernel
theorem dX8_mark_55 : decode cX8_mark 55 = .ok (.iload_n 2, 1) := by decide +kernel
theorem dX8_mark_56 : decode cX8_mark 56 = .ok (.iastore, 1) := by decide +kernel
theorem dX8_mark_57 : decode cX8_mark 57 = .ok (.aload_n 0, 1) := by decide +kernel
theorem dX8_mark_58 : decode cX8_mark 58 = .ok (.getfield 19, 3) := by decide +kernel
theorem dX8_mark_61 : decode cX8_mark 61 = .ok (.iload_n 1, 1) := by decide +kernel
theorem dX8_mark_62 : decode cX8_mark 62 = .ok (.dup2, 1) := by decide +kernel
theorem dX8_mark_63 : decode cX8_mark 63 = .ok (.iaload, 1) := by decide +kernel
theorem dX8_mark_64 : decode cX8_mark 64 = .ok (.iconst 1, 1) := by decide +kernel
theorem dX8_mark_65 : decode cX8_mark 65 = .ok (.iadd, 1) := by decide +kernel
theorem dX8_mark_66 : decode cX8_mark 66 = .ok (.iastore, 1) := by decide +kernel
theorem dX8_mark_67 : decode cX8_mark 67 = .ok (.aload_n 0, 1) := by decide +kernel
theorem dX8_mark_68 : decode cX8_mark 68 = .ok (.getfield 19, 3) := by decide +kernel
theorem dX8_mark_71 : decode cX8_mark 71 = .ok (.iload_n 1, 1) := by decide +kernel
theorem dX8_mark_72 : decode cX8_mark 72 = .ok (.iaload, 1) := by decide +kernel
theorem dX8_mark_73 : decode cX8_mark 73 = .ok (.ireturn, 1) := by decide +kernel
set_option maxRecDepth 20000 in
theorem ggX8_mend_X8_endOf : GoodIn wsX8_mend wsX8_endOf := goodIn_r _ [9, 10, 11, 12, 13, 14, 15, 16, 17, 18, 19, 20, 21, 22, 23, 24, 25, 26, 27, 28, 29, 30, 31, 32, 33, 34, 35, 36, 37, 38] (by decide +kernel) (by decide +kernel)
set_option maxRecDepth 20000 in
theorem gX8_mend_X8_endOf : GoodIn wsX8_mend (wsV RX8 100 RX8 yX8_endOf wsX8_endOf) := goodIn_app (goodIn_of _ (by decide +kernel)) ggX8_mend_X8_endOf
theorem dX8_mend_0 : decode cX8_mend 0 = .ok (.aload_n 0, 1) := by decide +kernel
theorem dX8_mend_1 : decode cX8_mend 1 = .ok (.iload_n 1, 1) := by decide +kernel
theorem dX8_mend_2 : decode cX8_mend 2 = .ok (.invokevirtual 100, 3) := by decide +kernel
theorem dX8_mend_5 : decode cX8_mend 5 = .ok (.istore_n 2, 1) := by decide +kernel
theorem dX8_mend_6 : decode cX8_mend 6 = .ok (.iconst 0, 1) := by decide +kernel
theorem dX8_mend_7 : decode cX8_mend 7 = .ok (.istore_n 3, 1) := by decide +kernel
theorem dX8_mend_8 : decode cX8_mend 8 = .ok (.aload_n 0, 1) := by decide +kernel
theorem dX8_mend_9 : decode cX8_mend 9 = .ok (.getfield 19, 3) := by decide +kernel
theorem dX8_mend_12 : decode cX8_mend 12 = .ok (.iload_n 1, 1) := by decide +kernel
theorem dX8_mend_13 : decode cX8_mend 13 = .ok (.iaload, 1) := by decide +kernel
theorem dX8_mend_14 : decode cX8_mend 14 = .ok (.iconst 1, 1) := by decide +kernel
theorem dX8_mend_15 : decode cX8_mend 15 = .ok (.isub, 1) := by decide +kernel
theorem dX8_mend_16 : decode cX8_mend 16 = .ok (.istore 4, 2) := by decide +kernel
theorem dX8_mend_18 : decode cX8_mend 18 = .ok (.iload 4, 2) := by decide +kernel
theorem dX8_mend_20 : decode cX8_mend 20 = .ok (.ifCond .lt 143, 3) := by decide +kernel
theorem dX8_mend_23 : decode cX8_mend 23 = .ok (.aload_n 0, 1) := by decide +kernel
theorem dX8_mend_24 : decode cX8_mend 24 = .ok (.getfield 22, 3) := by decide +kernel
theorem dX8_mend_27 : decode cX8_mend 27 = .ok (.bipush 20, 2) := by decide +kernel
theorem dX8_mend_29 : decode cX8_mend 29 = .ok (.iload_n 1, 1) := by decide +kernel
theorem dX8_mend_30 : decode cX8_mend 30 = .ok (.imul, 1) := by decide +kernel
theorem dX8_mend_31 : decode cX8_mend 31 = .ok (.iload 4, 2) := by decide +kernel
theorem dX8_mend_33 : decode cX8_mend 33 = .ok (.iadd, 1) := by decide +kernel
theorem dX8_mend_34 : decode cX8_mend 34 = .ok (.iaload, 1) := by decide +kernel
theorem dX8_mend_35 : decode cX8_mend 35 = .ok (.istore 5, 2) := by decide +kernel
theorem dX8_mend_37 : decode cX8_mend 37 = .ok (.aload_n 0, 1) := by decide +kernel
theorem dX8_mend_38 : decode cX8_mend 38 = .ok (.getfield 25, 3) := by decide +kernel
theorem dX8_mend_41 : decode cX8_mend 41 = .ok (.iload 4, 2) := by decide +kernel
theorem dX8_mend_43 : decode cX8_mend 43 = .ok (.iload 5, 2) := by decide +kernel
theorem dX8_mend_45 : decode cX8_mend 45 = .ok (.iload_n 2, 1) := by decide +kernel
theorem dX8_mend_46 : decode cX8_mend 46 = .ok (.if_icmp .le 7, 3) := by decide +kernel
theorem dX8_mend_49 : decode cX8_mend 49 = .ok (.iconst 0, 1) := by decide +kernel
theorem dX8_mend_50 : decode cX8_mend 50 = .ok (.goto 4, 3) := by decide +kernel
theorem dX8_mend_53 : decode cX8_mend 53 = .ok (.iconst 1, 1) := by decide +kernel
theorem dX8_mend_54 : decode cX8_mend 54 = .ok (.iastore, 1) := by decide +kernel
theorem dX8_mend_55 : decode cX8_mend 55 = .ok (.iload 4, 2) := by decide +kernel
theorem dX8_mend_57 : decode cX8_mend 57 = .ok (.iconst 1, 1) := by decide +kernel
theorem dX8_mend_58 : decode cX8_mend 58 = .ok (.iadd, 1) := by decide +kernel
theorem dX8_mend_59 : decode cX8_mend 59 = .ok (.istore 6, 2) := by decide +kernel
theorem dX8_mend_61 : decode cX8_mend 61 = .ok (.iload 6, 2) := by decide +kernel
theorem dX8_mend_63 : decode cX8_mend 63 = .ok (.aload_n 0, 1) := by decide +kernel
theorem dX8_mend_64 : decode cX8_mend 64 = .ok (.getfield 19, 3) := by decide +kernel
theorem dX8_mend_67 : decode cX8_mend 67 = .ok (.iload_n 1, 1) := by decide +kernel
theorem dX8_mend_68 : decode cX8_mend 68 = .ok (.iaload, 1) := by decide +kernel
theorem dX8_mend_69 : decode cX8_mend 69 = .ok (.if_icmp .ge 65, 3) := by decide +kernel
theorem dX8_mend_72 : decode cX8_mend 72 = .ok (.iload 5, 2) := by decide +kernel
theorem dX8_mend_74 : decode cX8_mend 74 = .ok (.iload_n 2, 1) := by decide +kernel
theorem dX8_mend_75 : decode cX8_mend 75 = .ok (.if_icmp .gt 59, 3) := by decide +kernel
theorem dX8_mend_78 : decode cX8_mend 78 = .ok (.aload_n 0, 1) := by decide +kernel
theorem dX8_mend_79 : decode cX8_mend 79 = .ok (.getfield 22, 3) := by decide +kernel
theorem dX8_mend_82 : decode cX8_mend 82 = .ok (.bipush 20, 2) := by decide +kernel
theorem dX8_mend_84 : decode cX8_mend 84 = .ok (.iload_n 1, 1) := by decide +kernel
theorem dX8_mend_85 : decode cX8_mend 85 = .ok (.imul, 1) := by decide +kernel
theorem dX8_mend_86 : decode cX8_mend 86 = .ok (.iload 6, 2) := by decide +kernel
theorem dX8_mend_88 : decode cX8_mend 88 = .ok (.iadd, 1) := by decide +kernel
theorem dX8_mend_89 : decode cX8_mend 89 = .ok (.iaload, 1) := by decide +kernel
theorem dX8_mend_90 : decode cX8_mend 90 = .ok (.iload 5, 2) := by decide +kernel
theorem dX8_mend_92 : decode cX8_mend 92 = .ok (.if_icmp .le 36, 3) := by decide +kernel
theorem dX8_mend_95 : decode cX8_mend 95 = .ok (.aload_n 0, 1) := by decide +kernel
theorem dX8_mend_96 : decode cX8_mend 96 = .ok (.getfield 25, 3) := by decide +kernel
theorem dX8_mend_99 : decode cX8_mend 99 = .ok (.iload 6, 2) := by decide +kernel
theorem dX8_mend_101 : decode cX8_mend 101 = .ok (.iaload, 1) := by decide +kernel
theorem dX8_mend_102 : decode cX8_mend 102 = .ok (.aload_n 0, 1) := by decide +kernel
theorem dX8_mend_103 : decode cX8_mend 103 = .ok (.getfield 25, 3) := by decide +kernel
theorem dX8_mend_106 : decode cX8_mend 106 = .ok (.iload 4, 2) := by decide +kernel
theorem dX8_mend_108 : decode cX8_mend 108 = .ok (.iaload, 1) := by decide +kernel
theorem dX8_mend_109 : decode cX8_mend 109 = .ok (.if_icmp .lt 19, 3) := by decide +kernel
theorem dX8_mend_112 : decode cX8_mend 112 = .ok (.aload_n 0, 1) := by decide +kernel
theorem dX8_mend_113 : decode cX8_mend 113 = .ok (.getfield 25, 3) := by decide +kernel
theorem dX8_mend_116 : decode cX8_mend 116 = .ok (.iload 4, 2) := by decide +kernel
theorem dX8_mend_118 : decode cX8_mend 118 = .ok (.aload_n 0, 1) := by decide +kernel
theorem dX8_mend_119 : decode cX8_mend 119 = .ok (.getfield 25, 3) := by decide +kernel
theorem dX8_mend_122 : decode cX8_mend 122 = .ok (.iload 6, 2) := by decide +kernel
theorem dX8_mend_124 : decode cX8_mend 124 = .ok (.iaload, 1) := by decide +kernel
theorem dX8_mend_125 : decode cX8_mend 125 = .ok (.iconst 1, 1) := by decide +kernel
theorem dX8_mend_126 : decode cX8_mend 126 = .ok (.iadd, 1) := by decide +kernel
theorem dX8_mend_127 : decode cX8_mend 127 = .ok (.iastore, 1) := by decide +kernel
theorem dX8_mend_128 : decode cX8_mend 128 = .ok (.iinc 6 1, 3) := by decide +kernel
theorem dX8_mend_131 : decode cX8_mend 131 = .ok (.goto (-70), 3) := by decide +kernel
theorem dX8_mend_134 : decode cX8_mend 134 = .ok (.aload_n 0, 1) := by decide +kernel
theorem dX8_mend_135 : decode cX8_mend 135 = .ok (.getfield 25, 3) := by decide +kernel
theorem dX8_mend_138 : decode cX8_mend 138 = .ok (.iload 4, 2) := by decide +kernel
theorem dX8_mend_140 : decode cX8_mend 140 = .ok (.iaload, 1) := by decide +kernel
theorem dX8_mend_141 : decode cX8_mend 141 = .ok (.iload_n 3, 1) := by decide +kernel
theorem dX8_mend_142 : decode cX8_mend 142 = .ok (.if_icmp .le 13, 3) := by decide +kernel
theorem dX8_mend_145 : decode cX8_mend 145 = .ok (.aload_n 0, 1) := by decide +kernel
theorem dX8_mend_146 : decode cX8_mend 146 = .ok (.getfield 25, 3) := by decide +kernel
theorem dX8_mend_149 : decode cX8_mend 149 = .ok (.iload 4, 2) := by decide +kernel
theorem dX8_mend_151 : decode cX8_mend 151 = .ok (.iaload, 1) := by decide +kernel
theorem dX8_mend_152 : decode cX8_mend 152 = .ok (.goto 4, 3) := by decide +kernel
theorem dX8_mend_155 : decode cX8_mend 155 = .ok (.iload_n 3, 1) := by decide +kernel
theorem dX8_mend_156 : decode cX8_mend 156 = .ok (.istore_n 3, 1) := by decide +kernel
theorem dX8_mend_157 : decode cX8_mend 157 = .ok (.iinc 4 (-1), 3) := by decide +kernel
theorem dX8_mend_160 : decode cX8_mend 160 = .ok (.goto (-142), 3) := by decide +kernel
theorem dX8_mend_163 : decode cX8_mend 163 = .ok (.iload_n 3, 1) := by decide +kernel
theorem dX8_mend_164 : decode cX8_mend 164 = .ok (.istore 4, 2) := by decide +kernel
theorem dX8_mend_166 : decode cX8_mend 166 = .ok (.iconst (-1), 1) := by decide +kernel
theorem dX8_mend_167 : decode cX8_mend 167 = .ok (.istore 5, 2) := by decide +kernel
theorem dX8_mend_169 : decode cX8_mend 169 = .ok (.iconst 0, 1) := by decide +kernel
theorem dX8_mend_170 : decode cX8_mend 170 = .ok (.istore 6, 2) := by decide +kernel
theorem dX8_mend_172 : decode cX8_mend 172 = .ok (.iload 6, 2) := by decide +kernel
theorem dX8_mend_174 : decode cX8_mend 174 = .ok (.aload_n 0, 1) := by decide +kernel
theorem dX8_mend_175 : decode cX8_mend 175 = .ok (.getfield 19, 3) := by decide +kernel
theorem dX8_mend_178 : decode cX8_mend 178 = .ok (.iload_n 1, 1) := by decide +kernel
theorem dX8_mend_179 : decode cX8_mend 179 = .ok (.iaload, 1) := by decide +kernel
theorem dX8_mend_180 : decode cX8_mend 180 = .ok (.if_icmp .ge 98, 3) := by decide +kernel
theorem dX8_mend_183 : decode cX8_mend 183 = .ok (.aload_n 0, 1) := by decide +kernel
theorem dX8_mend_184 : decode cX8_mend 184 = .ok (.getfield 22, 3) := by decide +kernel
theorem dX8_mend_187 : decode cX8_mend 187 = .ok (.bipush 20, 2) := by decide +kernel
theorem dX8_mend_189 : decode cX8_mend 189 = .ok (.iload_n 1, 1) := by decide +kernel
theorem dX8_mend_190 : decode cX8_mend 190 = .ok (.imul, 1) := by decide +kernel
theorem dX8_mend_191 : decode cX8_mend 191 = .ok (.iload 6, 2) := by decide +kernel
theorem dX8_mend_193 : decode cX8_mend 193 = .ok (.iadd, 1) := by decide +kernel
theorem dX8_mend_194 : decode cX8_mend 194 = .ok (.iaload, 1) := by decide +kernel
theorem dX8_mend_195 : decode cX8_mend 195 = .ok (.istore 7, 2) := by decide +kernel
theorem dX8_mend_197 : decode cX8_mend 197 = .ok (.aload_n 0, 1) := by decide +kernel
theorem dX8_mend_198 : decode cX8_mend 198 = .ok (.getfield 28, 3) := by decide +kernel
theorem dX8_mend_201 : decode cX8_mend 201 = .ok (.iload 6, 2) := by decide +kernel
theorem dX8_mend_203 : decode cX8_mend 203 = .ok (.iload 4, 2) := by decide +kernel
theorem dX8_mend_205 : decode cX8_mend 205 = .ok (.ifCond .le 26, 3) := by decide +kernel
theorem dX8_mend_208 : decode cX8_mend 208 = .ok (.aload_n 0, 1) := by decide +kernel
theorem dX8_mend_209 : decode cX8_mend 209 = .ok (.getfield 25, 3) := by decide +kernel
theorem dX8_mend_212 : decode cX8_mend 212 = .ok (.iload 6, 2) := by decide +kernel
theorem dX8_mend_214 : decode cX8_mend 214 = .ok (.iaload, 1) := by decide +kernel
theorem dX8_mend_215 : decode cX8_mend 215 = .ok (.iload 4, 2) := by decide +kernel
theorem dX8_mend_217 : decode cX8_mend 217 = .ok (.if_icmp .ne 14, 3) := by decide +kernel
theorem dX8_mend_220 : decode cX8_mend 220 = .ok (.iload 7, 2) := by decide +kernel
theorem dX8_mend_222 : decode cX8_mend 222 = .ok (.iload 5, 2) := by decide +kernel
theorem dX8_mend_224 : decode cX8_mend 224 = .ok (.if_icmp .le 7, 3) := by decide +kernel
theorem dX8_mend_227 : decode cX8_mend 227 = .ok (.iconst 1, 1) := by decide +kernel
theorem dX8_mend_228 : decode cX8_mend 228 = .ok (.goto 4, 3) := by decide +kernel
theorem dX8_mend_231 : decode cX8_mend 231 = .ok (.iconst 0, 1) := by decide +kernel
theorem dX8_mend_232 : decode cX8_mend 232 = .ok (.bastore, 1) := by decide +kernel
theorem dX8_mend_233 : decode cX8_mend 233 = .ok (.aload_n 0, 1) := by decide +kernel
theorem dX8_mend_234 : decode cX8_mend 234 = .ok (.getfield 28, 3) := by decide +kernel
theorem dX8_mend_237 : decode cX8_mend 237 = .ok (.iload 6, 2) := by decide +kernel
theorem dX8_mend_239 : decode cX8_mend 239 = .ok (.baload, 1) := by decide +kernel
theorem dX8_mend_240 : decode cX8_mend 240 = .ok (.ifCond .eq 8, 3) := by decide +kernel
theorem dX8_mend_243 : decode cX8_mend 243 = .ok (.iload 7, 2) := by decide +kernel
theorem dX8_mend_245 : decode cX8_mend 245 = .ok (.goto 5, 3) := by decide +kernel
theorem dX8_mend_248 : decode cX8_mend 248 = .ok (.iload 5, 2) := by decide +kernel
theorem dX8_mend_250 : decode cX8_mend 250 = .ok (.istore 5, 2) := by decide +kernel
theorem dX8_mend_252 : decode cX8_mend 252 = .ok (.iload 4, 2) := by decide +kernel
theorem dX8_mend_254 : decode cX8_mend 254 = .ok (.aload_n 0, 1) := by decide +kernel
theorem dX8_mend_255 : decode cX8_mend 255 = .ok (.getfield 28, 3) := by decide +kernel
theorem dX8_mend_258 : decode cX8_mend 258 = .ok (.iload 6, 2) := by decide +kernel
theorem dX8_mend_260 : decode cX8_mend 260 = .ok (.baload, 1) := by decide +kernel
theorem dX8_mend_261 : decode cX8_mend 261 = .ok (.ifCond .eq 7, 3) := by decide +kernel
theorem dX8_mend_264 : decode cX8_mend 264 = .ok (.iconst 1, 1) := by decide +kernel
theorem dX8_mend_265 : decode cX8_mend 265 = .ok (.goto 4, 3) := by decide +kernel
theorem dX8_mend_268 : decode cX8_mend 268 = .ok (.iconst 0, 1) := by decide +kernel
theorem dX8_mend_269 : decode cX8_mend 269 = .ok (.isub, 1) := by decide +kernel
theorem dX8_mend_270 : decode cX8_mend 270 = .ok (.istore 4, 2) := by decide +kernel
theorem dX8_mend_272 : decode cX8_mend 272 = .ok (.iinc 6 1, 3) := by decide +kernel
theorem dX8_mend_275 : decode cX8_mend 275 = .ok (.goto (-103), 3) := by decide +kernel
theorem dX8_mend_278 : decode cX8_mend 278 = .ok (.iload_n 3, 1) := by decide +kernel
theorem dX8_mend_279 : decode cX8_mend 279 = .ok (.ireturn, 1) := by decide +kernel
set_option maxRecDepth 20000 in
theorem ggX8_wrong_X8_isHole : GoodIn wsX8_wrong wsX8_isHole := goodIn_r _ [6, 7, 8, 9, 5, 10, 24, 25, 26, 27, 28, 29, 30, 31, 32, 33, 34, 35, 36, 37, 38, 39, 40, 41, 42, 43, 44, 45, 46, 47, 48, 49, 50] (by decide +kernel) (by decide +kernel)
set_option maxRecDepth 20000 in
theorem gX8_wrong_X8_isHole : GoodIn wsX8_wrong (wsV RX8 91 RX8 yX8_isHole wsX8_isHole) := goodIn_app (goodIn_of _ (by decide +kernel)) ggX8_wrong_X8_isHole
set_option maxRecDepth 20000 in
theorem ggX8_wrong_X8_mend : GoodIn wsX8_wrong wsX8_mend := goodIn_r _ [14, 1, 15, 16, 17, 18, 19, 20, 5, 21, 22, 23, 24, 25, 26, 27, 28, 29, 30, 31, 32, 33, 34, 35, 36, 37, 38, 39, 40, 41, 42, 43, 44, 45, 46, 47, 48, 49, 50] (by decide +kernel) (by decide +kernel)
set_option maxRecDepth 20000 in
theorem gX8_wrong_X8_mend : GoodIn wsX8_wrong (wsV RX8 118 RX8 yX8_mend wsX8_mend) := goodIn_app (goodIn_of _ (by decide +kernel)) ggX8_wrong_X8_mend
theorem dX8_wrong_0 : decode cX8_wrong 0 = .ok (.aload_n 0, 1) := by decide +kernel
theorem dX8_wrong_1 : decode cX8_wrong 1 = .ok (.iload_n 1, 1) := by decide +kernel
theorem dX8_wrong_2 : decode cX8_wrong 2 = .ok (.invokevirtual 91, 3) := by decide +kernel
theorem dX8_wrong_5 : decode cX8_wrong 5 = .ok (.ifCond .eq 18, 3) := by decide +kernel
theorem dX8_wrong_8 : decode cX8_wrong 8 = .ok (.aload_n 0, 1) := by decide +kernel
theorem dX8_wrong_9 : decode cX8_wrong 9 = .ok (.getfield 19, 3) := by decide +kernel
theorem dX8_wrong_12 : decode cX8_wrong 12 = .ok (.iload_n 1, 1) := by decide +kernel
theorem dX8_wrong_13 : decode cX8_wrong 13 = .ok (.iaload, 1) := by decide +kernel
theorem dX8_wrong_14 : decode cX8_wrong 14 = .ok (.aload_n 0, 1) := by decide +kernel
theorem dX8_wrong_15 : decode cX8_wrong 15 = .ok (.iload_n 1, 1) := by decide +kernel
theorem dX8_wrong_16 : decode cX8_wrong 16 = .ok (.invokevirtual 118, 3) := by decide +kernel
theorem dX8_wrong_19 : decode cX8_wrong 19 = .ok (.isub, 1) := by decide +kernel
theorem dX8_wrong_20 : decode cX8_wrong 20 = .ok (.goto 5, 3) := by decide +kernel
theorem dX8_wrong_23 : decode cX8_wrong 23 = .ok (.bipush (-101), 2) := by decide +kernel
theorem dX8_wrong_25 : decode cX8_wrong 25 = .ok (.ireturn, 1) := by decide +kernel
set_option maxRecDepth 20000 in
theorem ggX8_isWrong_X8_isHole : GoodIn wsX8_isWrong wsX8_isHole := goodIn_r _ [7, 8, 9, 10, 6, 11, 24, 25, 26, 27, 28, 29, 30, 31, 32, 33, 34, 35, 36, 37, 38, 39, 40, 41, 42, 43, 44, 45, 46, 47, 48, 49, 50] (by decide +kernel) (by decide +kernel)
set_option maxRecDepth 20000 in
theorem gX8_isWrong_X8_isHole : GoodIn wsX8_isWrong (wsV RX8 91 RX8 yX8_isHole wsX8_isHole) := goodIn_app (goodIn_of _ (by decide +kernel)) ggX8_isWrong_X8_isHole
set_option maxRecDepth 20000 in
theorem ggX8_isWrong_X8_in : GoodIn wsX8_isWrong wsX8_in := goodIn_r _ [11] (by decide +kernel) (by decide +kernel)
set_option maxRecDepth 20000 in
theorem gX8_isWrong_X8_in : GoodIn wsX8_isWrong (va_wsS RX8 84 yX8_in wsX8_in) := goodIn_app (goodIn_of _ (by decide +kernel)) ggX8_isWrong_X8_in
set_option maxRecDepth 20000 in
theorem ggX8_isWrong_X8_mend : GoodIn wsX8_isWrong wsX8_mend := goodIn_r _ [15, 1, 16, 17, 2, 18, 19, 20, 6, 21, 22, 23, 24, 25, 26, 27, 28, 29, 30, 31, 32, 33, 34, 35, 36, 37, 38, 39, 40, 41, 42, 43, 44, 45, 46, 47, 48, 49, 50] (by decide +kernel) (by decide +kernel)
set_option maxRecDepth 20000 in
theorem gX8_isWrong_X8_mend : GoodIn wsX8_isWrong (wsV RX8 118 RX8 yX8_mend wsX8_mend) := goodIn_app (goodIn_of _ (by decide +kernel)) ggX8_isWrong_X8_mend
theorem dX8_isWrong_0 : decode cX8_isWrong 0 = .ok (.aload_n 0, 1) := by decide +kernel
theorem dX8_isWrong_1 : decode cX8_isWrong 1 = .ok (.iload_n 1, 1) := by decide +kernel
theorem dX8_isWrong_2 : decode cX8_isWrong 2 = .ok (.invokevirtual 91, 3) := by decide +kernel
theorem dX8_isWrong_5 : decode cX8_isWrong 5 = .ok (.ifCond .eq 21, 3) := by decide +kernel
theorem dX8_isWrong_8 : decode cX8_isWrong 8 = .ok (.iload_n 2, 1) := by decide +kernel
theorem dX8_isWrong_9 : decode cX8_isWrong 9 = .ok (.i2l, 1) := by decide +kernel
theorem dX8_isWrong_10 : decode cX8_isWrong 10 = .ok (.lconst 0, 1) := by decide +kernel
theorem dX8_isWrong_11 : decode cX8_isWrong 11 = .ok (.aload_n 0, 1) := by decide +kernel
theorem dX8_isWrong_12 : decode cX8_isWrong 12 = .ok (.getfield 19, 3) := by decide +kernel
theorem dX8_isWrong_15 : decode cX8_isWrong 15 = .ok (.iload_n 1, 1) := by decide +kernel
theorem dX8_isWrong_16 : decode cX8_isWrong 16 = .ok (.iaload, 1) := by decide +kernel
theorem dX8_isWrong_17 : decode cX8_isWrong 17 = .ok (.iconst 1, 1) := by decide +kernel
theorem dX8_isWrong_18 : decode cX8_isWrong 18 = .ok (.isub, 1) := by decide +kernel
theorem dX8_isWrong_19 : decode cX8_isWrong 19 = .ok (.i2l, 1) := by decide +kernel
theorem dX8_isWrong_20 : decode cX8_isWrong 20 = .ok (.invokestatic 84, 3) := by decide +kernel
theorem dX8_isWrong_23 : decode cX8_isWrong 23 = .ok (.ifCond .ne 6, 3) := by decide +kernel
theorem dX8_isWrong_26 : decode cX8_isWrong 26 = .ok (.bipush (-101), 2) := by decide +kernel
theorem dX8_isWrong_28 : decode cX8_isWrong 28 = .ok (.ireturn, 1) := by decide +kernel
theorem dX8_isWrong_29 : decode cX8_isWrong 29 = .ok (.aload_n 0, 1) := by decide +kernel
theorem dX8_isWrong_30 : decode cX8_isWrong 30 = .ok (.iload_n 1, 1) := by decide +kernel
theorem dX8_isWrong_31 : decode cX8_isWrong 31 = .ok (.invokevirtual 118, 3) := by decide +kernel
theorem dX8_isWrong_34 : decode cX8_isWrong 34 = .ok (.istore_n 3, 1) := by decide +kernel
theorem dX8_isWrong_35 : decode cX8_isWrong 35 = .ok (.iload_n 3, 1) := by decide +kernel
theorem dX8_isWrong_36 : decode cX8_isWrong 36 = .ok (.ifCond .le 16, 3) := by decide +kernel
theorem dX8_isWrong_39 : decode cX8_isWrong 39 = .ok (.aload_n 0, 1) := by decide +kernel
theorem dX8_isWrong_40 : decode cX8_isWrong 40 = .ok (.getfield 28, 3) := by decide +kernel
theorem dX8_isWrong_43 : decode cX8_isWrong 43 = .ok (.iload_n 2, 1) := by decide +kernel
theorem dX8_isWrong_44 : decode cX8_isWrong 44 = .ok (.baload, 1) := by decide +kernel
theorem dX8_isWrong_45 : decode cX8_isWrong 45 = .ok (.ifCond .eq 7, 3) := by decide +kernel
theorem dX8_isWrong_48 : decode cX8_isWrong 48 = .ok (.iconst 0, 1) := by decide +kernel
theorem dX8_isWrong_49 : decode cX8_isWrong 49 = .ok (.goto 4, 3) := by decide +kernel
theorem dX8_isWrong_52 : decode cX8_isWrong 52 = .ok (.iconst 1, 1) := by decide +kernel
theorem dX8_isWrong_53 : decode cX8_isWrong 53 = .ok (.ireturn, 1) := by decide +kernel
set_option maxRecDepth 20000 in
theorem ggX8_isLog_X8_in : GoodIn wsX8_isLog wsX8_in := goodIn_r _ [4] (by decide +kernel) (by decide +kernel)
set_option maxRecDepth 20000 in
theorem gX8_isLog_X8_in : GoodIn wsX8_isLog (va_wsS RX8 84 yX8_in wsX8_in) := goodIn_app (goodIn_of _ (by decide +kernel)) ggX8_isLog_X8_in
theorem dX8_isLog_0 : decode cX8_isLog 0 = .ok (.iload_n 0, 1) := by decide +kernel
theorem dX8_isLog_1 : decode cX8_isLog 1 = .ok (.i2l, 1) := by decide +kernel
theorem dX8_isLog_2 : decode cX8_isLog 2 = .ok (.lconst 0, 1) := by decide +kernel
theorem dX8_isLog_3 : decode cX8_isLog 3 = .ok (.lconst 1, 1) := by decide +kernel
theorem dX8_isLog_4 : decode cX8_isLog 4 = .ok (.invokestatic 84, 3) := by decide +kernel
theorem dX8_isLog_7 : decode cX8_isLog 7 = .ok (.ireturn, 1) := by decide +kernel
set_option maxRecDepth 20000 in
theorem ggX8_layer_X8_isHole : GoodIn wsX8_layer wsX8_isHole := goodIn_r _ [9, 10, 11, 12, 8, 13, 23, 24, 25, 26, 27, 28, 29, 30, 31, 32, 33, 34, 35, 36, 37, 38, 39, 40, 41, 42, 43, 44, 45, 46, 47, 48, 49] (by decide +kernel) (by decide +kernel)
set_option maxRecDepth 20000 in
theorem gX8_layer_X8_isHole : GoodIn wsX8_layer (wsV RX8 91 RX8 yX8_isHole wsX8_isHole) := goodIn_app (goodIn_of _ (by decide +kernel)) ggX8_layer_X8_isHole
set_option maxRecDepth 20000 in
theorem ggX8_layer_X8_isLog : GoodIn wsX8_layer wsX8_isLog := goodIn_r _ [16, 11, 12, 8, 13] (by decide +kernel) (by decide +kernel)
set_option maxRecDepth 20000 in
theorem gX8_layer_X8_isLog : GoodIn wsX8_layer (va_wsS RX8 121 yX8_isLog wsX8_isLog) := goodIn_app (goodIn_of _ (by decide +kernel)) ggX8_layer_X8_isLog
set_option maxRecDepth 20000 in
theorem ggX8_layer_X8_endOf : GoodIn wsX8_layer wsX8_endOf := goodIn_r _ [20, 21, 22, 23, 24, 25, 26, 27, 28, 29, 30, 31, 32, 33, 34, 35, 36, 37, 38, 39, 40, 41, 42, 43, 44, 45, 46, 47, 48, 49] (by decide +kernel) (by decide +kernel)
set_option maxRecDepth 20000 in
theorem gX8_layer_X8_endOf : GoodIn wsX8_layer (wsV RX8 100 RX8 yX8_endOf wsX8_endOf) := goodIn_app (goodIn_of _ (by decide +kernel)) ggX8_layer_X8_endOf
set_option maxRecDepth 20000 in
theorem ggX8_layer_X8_in : GoodIn wsX8_layer wsX8_in := goodIn_r _ [13] (by decide +kernel) (by decide +kernel)
set_option maxRecDepth 20000 in
theorem gX8_layer_X8_in : GoodIn wsX8_layer (va_wsS RX8 84 yX8_in wsX8_in) := goodIn_app (goodIn_of _ (by decide +kernel)) ggX8_layer_X8_in
theorem dX8_layer_0 : decode cX8_layer 0 = .ok (.aload_n 0, 1) := by decide +kernel
theorem dX8_layer_1 : decode cX8_layer 1 = .ok (.iload_n 1, 1) := by decide +kernel
theorem dX8_layer_2 : decode cX8_layer 2 = .ok (.invokevirtual 91, 3) := by decide +kernel
theorem dX8_layer_5 : decode cX8_layer 5 = .ok (.ifCond .eq 10, 3) := by decide +kernel
theorem dX8_layer_8 : decode cX8_layer 8 = .ok (.iload_n 2, 1) := by decide +kernel
theorem dX8_layer_9 : decode cX8_layer 9 = .ok (.invokestatic 121, 3) := by decide +kernel
theorem dX8_layer_12 : decode cX8_layer 12 = .ok (.ifCond .ne 6, 3) := by decide +kernel
theorem dX8_layer_15 : decode cX8_layer 15 = .ok (.bipush (-101), 2) := by decide +kernel
theorem dX8_layer_17 : decode cX8_layer 17 = .ok (.ireturn, 1) := by decide +kernel
theorem dX8_layer_18 : decode cX8_layer 18 = .ok (.iconst 2, 1) := by decide +kernel
theorem dX8_layer_19 : decode cX8_layer 19 = .ok (.iload_n 1, 1) := by decide +kernel
theorem dX8_layer_20 : decode cX8_layer 20 = .ok (.imul, 1) := by decide +kernel
theorem dX8_layer_21 : decode cX8_layer 21 = .ok (.iload_n 2, 1) := by decide +kernel
theorem dX8_layer_22 : decode cX8_layer 22 = .ok (.iadd, 1) := by decide +kernel
theorem dX8_layer_23 : decode cX8_layer 23 = .ok (.istore 5, 2) := by decide +kernel
theorem dX8_layer_25 : decode cX8_layer 25 = .ok (.aload_n 0, 1) := by decide +kernel
theorem dX8_layer_26 : decode cX8_layer 26 = .ok (.getfield 32, 3) := by decide +kernel
theorem dX8_layer_29 : decode cX8_layer 29 = .ok (.iload 5, 2) := by decide +kernel
theorem dX8_layer_31 : decode cX8_layer 31 = .ok (.iaload, 1) := by decide +kernel
theorem dX8_layer_32 : decode cX8_layer 32 = .ok (.ifCond .ne 7, 3) := by decide +kernel
theorem dX8_layer_35 : decode cX8_layer 35 = .ok (.iconst 0, 1) := by decide +kernel
theorem dX8_layer_36 : decode cX8_layer 36 = .ok (.goto 23, 3) := by decide +kernel
theorem dX8_layer_39 : decode cX8_layer 39 = .ok (.aload_n 0, 1) := by decide +kernel
theorem dX8_layer_40 : decode cX8_layer 40 = .ok (.getfield 35, 3) := by decide +kernel
theorem dX8_layer_43 : decode cX8_layer 43 = .ok (.bipush 20, 2) := by decide +kernel
theorem dX8_layer_45 : decode cX8_layer 45 = .ok (.iload 5, 2) := by decide +kernel
theorem dX8_layer_47 : decode cX8_layer 47 = .ok (.imul, 1) := by decide +kernel
theorem dX8_layer_48 : decode cX8_layer 48 = .ok (.aload_n 0, 1) := by decide +kernel
theorem dX8_layer_49 : decode cX8_layer 49 = .ok (.getfield 32, 3) := by decide +kernel
theorem dX8_layer_52 : decode cX8_layer 52 = .ok (.iload 5, 2) := by decide +kernel
theorem dX8_layer_54 : decode cX8_layer 54 = .ok (.iaload, 1) := by decide +kernel
theorem dX8_layer_55 : decode cX8_layer 55 = .ok (.iadd, 1) := by decide +kernel
theorem dX8_layer_56 : decode cX8_layer 56 = .ok (.iconst 1, 1) := by decide +kernel
theorem dX8_layer_57 : decode cX8_layer 57 = .ok (.isub, 1) := by decide +kernel
theorem dX8_layer_58 : decode cX8_layer 58 = .ok (.iaload, 1) := by decide +kernel
theorem dX8_layer_59 : decode cX8_layer 59 = .ok (.istore 6, 2) := by decide +kernel
theorem dX8_layer_61 : decode cX8_layer 61 = .ok (.iload_n 3, 1) := by decide +kernel
theorem dX8_layer_62 : decode cX8_layer 62 = .ok (.iload 6, 2) := by decide +kernel
theorem dX8_layer_64 : decode cX8_layer 64 = .ok (.if_icmp .le 25, 3) := by decide +kernel
theorem dX8_layer_67 : decode cX8_layer 67 = .ok (.iload_n 3, 1) := by decide +kernel
theorem dX8_layer_68 : decode cX8_layer 68 = .ok (.aload_n 0, 1) := by decide +kernel
theorem dX8_layer_69 : decode cX8_layer 69 = .ok (.iload_n 1, 1) := by decide +kernel
theorem dX8_layer_70 : decode cX8_layer 70 = .ok (.invokevirtual 100, 3) := by decide +kernel
theorem dX8_layer_73 : decode cX8_layer 73 = .ok (.if_icmp .gt 16, 3) := by decide +kernel
theorem dX8_layer_76 : decode cX8_layer 76 = .ok (.iload 4, 2) := by decide +kernel
theorem dX8_layer_78 : decode cX8_layer 78 = .ok (.i2l, 1) := by decide +kernel
theorem dX8_layer_79 : decode cX8_layer 79 = .ok (.lconst 0, 1) := by decide +kernel
theorem dX8_layer_80 : decode cX8_layer 80 = .ok (.ldc2_w 124, 3) := by decide +kernel
theorem dX8_layer_83 : decode cX8_layer 83 = .ok (.invokestatic 84, 3) := by decide +kernel
theorem dX8_layer_86 : decode cX8_layer 86 = .ok (.ifCond .ne 6, 3) := by decide +kernel
theorem dX8_layer_89 : decode cX8_layer 89 = .ok (.bipush (-102), 2) := by decide +kernel
theorem dX8_layer_91 : decode cX8_layer 91 = .ok (.ireturn, 1) := by decide +kernel
theorem dX8_layer_92 : decode cX8_layer 92 = .ok (.aload_n 0, 1) := by decide +kernel
theorem dX8_layer_93 : decode cX8_layer 93 = .ok (.getfield 32, 3) := by decide +kernel
theorem dX8_layer_96 : decode cX8_layer 96 = .ok (.iload 5, 2) := by decide +kernel
theorem dX8_layer_98 : decode cX8_layer 98 = .ok (.iaload, 1) := by decide +kernel
theorem dX8_layer_99 : decode cX8_layer 99 = .ok (.bipush 20, 2) := by decide +kernel
theorem dX8_layer_101 : decode cX8_layer 101 = .ok (.if_icmp .ne 6, 3) := by decide +kernel
theorem dX8_layer_104 : decode cX8_layer 104 = .ok (.bipush (-104), 2) := by decide +kernel
theorem dX8_layer_106 : decode cX8_layer 106 = .ok (.ireturn, 1) := by decide +kernel
theorem dX8_layer_107 : decode cX8_layer 107 = .ok (.aload_n 0, 1) := by decide +kernel
theorem dX8_layer_108 : decode cX8_layer 108 = .ok (.getfield 35, 3) := by decide +kernel
theorem dX8_layer_111 : decode cX8_layer 111 = .ok (.bipush 20, 2) := by decide +kernel
theorem dX8_layer_113 : decode cX8_layer 113 = .ok (.iload 5, 2) := by decide +kernel
theorem dX8_layer_115 : decode cX8_layer 115 = .ok (.imul, 1) := by decide +kernel
theorem dX8_layer_116 : decode cX8_layer 116 = .ok (.aload_n 0, 1) := by decide +kernel
theorem dX8_layer_117 : decode cX8_layer 117 = .ok (.getfield 32, 3) := by decide +kernel
theorem dX8_layer_120 : decode cX8_layer 120 = .ok (.iload 5, 2) := by decide +kernel
theorem dX8_layer_122 : decode cX8_layer 122 = .ok (.iaload, 1) := by decide +kernel
theorem dX8_layer_123 : decode cX8_layer 123 = .ok (.iadd, 1) := by decide +kernel
theorem dX8_layer_124 : decode cX8_layer 124 = .ok (.iload_n 3, 1) := by decide +kernel
theorem dX8_layer_125 : decode cX8_layer 125 = .ok (.iastore, 1) := by decide +kernel
theorem dX8_layer_126 : decode cX8_layer 126 = .ok (.aload_n 0, 1) := by decide +kernel
theorem dX8_layer_127 : decode cX8_layer 127 = .ok (.getfield 38, 3) := by decide +kernel
theorem dX8_layer_130 : decode cX8_layer 130 = .ok (.bipush 20, 2) := by decide +kernel
theorem dX8_layer_132 : decode cX8_layer 132 = .ok (.iload 5, 2) := by decide +kernel
theorem dX8_layer_134 : decode cX8_layer 134 = .ok (.imul, 1) := by decide +kernel
theorem dX8_layer_135 : decode cX8_layer 135 = .ok (.aload_n 0, 1) := by decide +kernel
theorem dX8_layer_136 : decode cX8_layer 136 = .ok (.getfield 32, 3) := by decide +kernel
theorem dX8_layer_139 : decode cX8_layer 139 = .ok (.iload 5, 2) := by decide +kernel
theorem dX8_layer_141 : decode cX8_layer 141 = .ok (.iaload, 1) := by decide +kernel
theorem dX8_layer_142 : decode cX8_layer 142 = .ok (.iadd, 1) := by decide +kernel
theorem dX8_layer_143 : decode cX8_layer 143 = .ok (.iload 4, 2) := by decide +kernel
theorem dX8_layer_145 : decode cX8_layer 145 = .ok (.iastore, 1) := by decide +kernel
theorem dX8_layer_146 : decode cX8_layer 146 = .ok (.aload_n 0, 1) := by decide +kernel
theorem dX8_layer_147 : decode cX8_layer 147 = .ok (.getfield 32, 3) := by decide +kernel
theorem dX8_layer_150 : decode cX8_layer 150 = .ok (.iload 5, 2) := by decide +kernel
theorem dX8_layer_152 : decode cX8_layer 152 = .ok (.dup2, 1) := by decide +kernel
theorem dX8_layer_153 : decode cX8_layer 153 = .ok (.iaload, 1) := by decide +kernel
theorem dX8_layer_154 : decode cX8_layer 154 = .ok (.iconst 1, 1) := by decide +kernel
theorem dX8_layer_155 : decode cX8_layer 155 = .ok (.iadd, 1) := by decide +kernel
theorem dX8_layer_156 : decode cX8_layer 156 = .ok (.iastore, 1) := by decide +kernel
theorem dX8_layer_157 : decode cX8_layer 157 = .ok (.aload_n 0, 1) := by decide +kernel
theorem dX8_layer_158 : decode cX8_layer 158 = .ok (.getfield 32, 3) := by decide +kernel
theorem dX8_layer_161 : decode cX8_layer 161 = .ok (.iload 5, 2) := by decide +kernel
theorem dX8_layer_163 : decode cX8_layer 163 = .ok (.iaload, 1) := by decide +kernel
theorem dX8_layer_164 : decode cX8_layer 164 = .ok (.ireturn, 1) := by decide +kernel
set_option maxRecDepth 20000 in
theorem ggX8_code_X8_in : GoodIn wsX8_code wsX8_in := goodIn_r _ [6] (by decide +kernel) (by decide +kernel)
set_option maxRecDepth 20000 in
theorem gX8_code_X8_in : GoodIn wsX8_code (va_wsS RX8 84 yX8_in wsX8_in) := goodIn_app (goodIn_of _ (by decide +kernel)) ggX8_code_X8_in
theorem dX8_code_0 : decode cX8_code 0 = .ok (.iload_n 1, 1) := by decide +kernel
theorem dX8_code_1 : decode cX8_code 1 = .ok (.i2l, 1) := by decide +kernel
theorem dX8_code_2 : decode cX8_code 2 = .ok (.lconst 0, 1) := by decide +kernel
theorem dX8_code_3 : decode cX8_code 3 = .ok (.ldc2_w 124, 3) := by decide +kernel
theorem dX8_code_6 : decode cX8_code 6 = .ok (.invokestatic 84, 3) := by decide +kernel
theorem dX8_code_9 : decode cX8_code 9 = .ok (.ifCond .ne 6, 3) := by decide +kernel
theorem dX8_code_12 : decode cX8_code 12 = .ok (.bipush (-101), 2) := by decide +kernel
theorem dX8_code_14 : decode cX8_code 14 = .ok (.ireturn, 1) := by decide +kernel
theorem dX8_code_15 : decode cX8_code 15 = .ok (.iload_n 2, 1) := by decide +kernel
theorem dX8_code_16 : decode cX8_code 16 = .ok (.i2l, 1) := by decide +kernel
theorem dX8_code_17 : decode cX8_code 17 = .ok (.lconst 0, 1) := by decide +kernel
theorem dX8_code_18 : decode cX8_code 18 = .ok (.ldc2_w 124, 3) := by decide +kernel
theorem dX8_code_21 : decode cX8_code 21 = .ok (.invokestatic 84, 3) := by decide +kernel
theorem dX8_code_24 : decode cX8_code 24 = .ok (.ifCond .ne 6, 3) := by decide +kernel
theorem dX8_code_27 : decode cX8_code 27 = .ok (.bipush (-102), 2) := by decide +kernel
theorem dX8_code_29 : decode cX8_code 29 = .ok (.ireturn, 1) := by decide +kernel
theorem dX8_code_30 : decode cX8_code 30 = .ok (.aload_n 0, 1) := by decide +kernel
theorem dX8_code_31 : decode cX8_code 31 = .ok (.getfield 41, 3) := by decide +kernel
theorem dX8_code_34 : decode cX8_code 34 = .ok (.iload_n 1, 1) := by decide +kernel
theorem dX8_code_35 : decode cX8_code 35 = .ok (.iaload, 1) := by decide +kernel
theorem dX8_code_36 : decode cX8_code 36 = .ok (.istore_n 3, 1) := by decide +kernel
theorem dX8_code_37 : decode cX8_code 37 = .ok (.aload_n 0, 1) := by decide +kernel
theorem dX8_code_38 : decode cX8_code 38 = .ok (.getfield 41, 3) := by decide +kernel
theorem dX8_code_41 : decode cX8_code 41 = .ok (.iload_n 1, 1) := by decide +kernel
theorem dX8_code_42 : decode cX8_code 42 = .ok (.iload_n 2, 1) := by decide +kernel
theorem dX8_code_43 : decode cX8_code 43 = .ok (.iastore, 1) := by decide +kernel
theorem dX8_code_44 : decode cX8_code 44 = .ok (.iload_n 3, 1) := by decide +kernel
theorem dX8_code_45 : decode cX8_code 45 = .ok (.ireturn, 1) := by decide +kernel
theorem dX8_codeOf_0 : decode cX8_codeOf 0 = .ok (.aload_n 0, 1) := by decide +kernel
theorem dX8_codeOf_1 : decode cX8_codeOf 1 = .ok (.getfield 41, 3) := by decide +kernel
theorem dX8_codeOf_4 : decode cX8_codeOf 4 = .ok (.aload_n 0, 1) := by decide +kernel
theorem dX8_codeOf_5 : decode cX8_codeOf 5 = .ok (.getfield 38, 3) := by decide +kernel
theorem dX8_codeOf_8 : decode cX8_codeOf 8 = .ok (.bipush 20, 2) := by decide +kernel
theorem dX8_codeOf_10 : decode cX8_codeOf 10 = .ok (.iload_n 1, 1) := by decide +kernel
theorem dX8_codeOf_11 : decode cX8_codeOf 11 = .ok (.imul, 1) := by decide +kernel
theorem dX8_codeOf_12 : decode cX8_codeOf 12 = .ok (.iload_n 2, 1) := by decide +kernel
theorem dX8_codeOf_13 : decode cX8_codeOf 13 = .ok (.iadd, 1) := by decide +kernel
theorem dX8_codeOf_14 : decode cX8_codeOf 14 = .ok (.iaload, 1) := by decide +kernel
theorem dX8_codeOf_15 : decode cX8_codeOf 15 = .ok (.iaload, 1) := by decide +kernel
theorem dX8_codeOf_16 : decode cX8_codeOf 16 = .ok (.ireturn, 1) := by decide +kernel
theorem dX8_fromOf_0 : decode cX8_fromOf 0 = .ok (.iload_n 2, 1) := by decide +kernel
theorem dX8_fromOf_1 : decode cX8_fromOf 1 = .ok (.ifCond .ne 7, 3) := by decide +kernel
theorem dX8_fromOf_4 : decode cX8_fromOf 4 = .ok (.iconst 0, 1) := by decide +kernel
theorem dX8_fromOf_5 : decode cX8_fromOf 5 = .ok (.goto 16, 3) := by decide +kernel
theorem dX8_fromOf_8 : decode cX8_fromOf 8 = .ok (.aload_n 0, 1) := by decide +kernel
theorem dX8_fromOf_9 : decode cX8_fromOf 9 = .ok (.getfield 35, 3) := by decide +kernel
theorem dX8_fromOf_12 : decode cX8_fromOf 12 = .ok (.bipush 20, 2) := by decide +kernel
theorem dX8_fromOf_14 : decode cX8_fromOf 14 = .ok (.iload_n 1, 1) := by decide +kernel
theorem dX8_fromOf_15 : decode cX8_fromOf 15 = .ok (.imul, 1) := by decide +kernel
theorem dX8_fromOf_16 : decode cX8_fromOf 16 = .ok (.iload_n 2, 1) := by decide +kernel
theorem dX8_fromOf_17 : decode cX8_fromOf 17 = .ok (.iadd, 1) := by decide +kernel
theorem dX8_fromOf_18 : decode cX8_fromOf 18 = .ok (.iconst 1, 1) := by decide +kernel
theorem dX8_fromOf_19 : decode cX8_fromOf 19 = .ok (.isub, 1) := by decide +kernel
theorem dX8_fromOf_20 : decode cX8_fromOf 20 = .ok (.iaload, 1) := by decide +kernel
theorem dX8_fromOf_21 : decode cX8_fromOf 21 = .ok (.ireturn, 1) := by decide +kernel
set_option maxRecDepth 20000 in
theorem ggX8_thick_X8_fromOf : GoodIn wsX8_thick wsX8_fromOf := goodIn_r _ [6, 1, 7, 8, 9, 10, 11, 12, 13, 14, 15, 16, 17, 18, 19, 20, 21, 22, 23, 24, 25, 26, 27, 28, 29, 30, 31, 32, 33] (by decide +kernel) (by decide +kernel)
set_option maxRecDepth 20000 in
theorem gX8_thick_X8_fromOf : GoodIn wsX8_thick (wsV RX8 126 RX8 yX8_fromOf wsX8_fromOf) := goodIn_app (goodIn_of _ (by decide +kernel)) ggX8_thick_X8_fromOf
theorem dX8_thick_0 : decode cX8_thick 0 = .ok (.aload_n 0, 1) := by decide +kernel
theorem dX8_thick_1 : decode cX8_thick 1 = .ok (.getfield 35, 3) := by decide +kernel
theorem dX8_thick_4 : decode cX8_thick 4 = .ok (.bipush 20, 2) := by decide +kernel
theorem dX8_thick_6 : decode cX8_thick 6 = .ok (.iload_n 1, 1) := by decide +kernel
theorem dX8_thick_7 : decode cX8_thick 7 = .ok (.imul, 1) := by decide +kernel
theorem dX8_thick_8 : decode cX8_thick 8 = .ok (.iload_n 2, 1) := by decide +kernel
theorem dX8_thick_9 : decode cX8_thick 9 = .ok (.iadd, 1) := by decide +kernel
theorem dX8_thick_10 : decode cX8_thick 10 = .ok (.iaload, 1) := by decide +kernel
theorem dX8_thick_11 : decode cX8_thick 11 = .ok (.aload_n 0, 1) := by decide +kernel
theorem dX8_thick_12 : decode cX8_thick 12 = .ok (.iload_n 1, 1) := by decide +kernel
theorem dX8_thick_13 : decode cX8_thick 13 = .ok (.iload_n 2, 1) := by decide +kernel
theorem dX8_thick_14 : decode cX8_thick 14 = .ok (.invokevirtual 126, 3) := by decide +kernel
theorem dX8_thick_17 : decode cX8_thick 17 = .ok (.isub, 1) := by decide +kernel
theorem dX8_thick_18 : decode cX8_thick 18 = .ok (.ireturn, 1) := by decide +kernel
set_option maxRecDepth 20000 in
theorem ggX8_rock_X8_isHole : GoodIn wsX8_rock wsX8_isHole := goodIn_r _ [7, 8, 9, 10, 6, 11, 25, 26, 27, 28, 29, 30, 31, 32, 33, 34, 35, 36, 37, 38, 39, 40, 41, 42, 43, 44, 45, 46, 47, 48, 49, 50, 51] (by decide +kernel) (by decide +kernel)
set_option maxRecDepth 20000 in
theorem gX8_rock_X8_isHole : GoodIn wsX8_rock (wsV RX8 91 RX8 yX8_isHole wsX8_isHole) := goodIn_app (goodIn_of _ (by decide +kernel)) ggX8_rock_X8_isHole
set_option maxRecDepth 20000 in
theorem ggX8_rock_X8_isLog : GoodIn wsX8_rock wsX8_isLog := goodIn_r _ [14, 9, 10, 6, 11] (by decide +kernel) (by decide +kernel)
set_option maxRecDepth 20000 in
theorem gX8_rock_X8_isLog : GoodIn wsX8_rock (va_wsS RX8 121 yX8_isLog wsX8_isLog) := goodIn_app (goodIn_of _ (by decide +kernel)) ggX8_rock_X8_isLog
set_option maxRecDepth 20000 in
theorem ggX8_rock_X8_fromOf : GoodIn wsX8_rock wsX8_fromOf := goodIn_r _ [18, 2, 25, 26, 27, 28, 29, 30, 31, 32, 33, 34, 35, 36, 37, 38, 39, 40, 41, 42, 43, 44, 45, 46, 47, 48, 49, 50, 51] (by decide +kernel) (by decide +kernel)
set_option maxRecDepth 20000 in
theorem gX8_rock_X8_fromOf : GoodIn wsX8_rock (wsV RX8 126 RX8 yX8_fromOf wsX8_fromOf) := goodIn_app (goodIn_of _ (by decide +kernel)) ggX8_rock_X8_fromOf
set_option maxRecDepth 20000 in
theorem ggX8_rock_X8_codeOf : GoodIn wsX8_rock wsX8_codeOf := goodIn_r _ [22, 23, 24, 25, 26, 27, 28, 29, 30, 31, 32, 33, 34, 35, 36, 37, 38, 39, 40, 41, 42, 43, 44, 45, 46, 47, 48, 49, 50, 51] (by decide +kernel) (by decide +kernel)
set_option maxRecDepth 20000 in
theorem gX8_rock_X8_codeOf : GoodIn wsX8_rock (wsV RX8 130 RX8 yX8_codeOf wsX8_codeOf) := goodIn_app (goodIn_of _ (by decide +kernel)) ggX8_rock_X8_codeOf
theorem dX8_rock_0 : decode cX8_rock 0 = .ok (.aload_n 0, 1) := by decide +kernel
theorem dX8_rock_1 : decode cX8_rock 1 = .ok (.iload_n 1, 1) := by decide +kernel
theorem dX8_rock_2 : decode cX8_rock 2 = .ok (.invokevirtual 91, 3) := by decide +kernel
theorem dX8_rock_5 : decode cX8_rock 5 = .ok (.ifCond .eq 10, 3) := by decide +kernel
theorem dX8_rock_8 : decode cX8_rock 8 = .ok (.iload_n 2, 1) := by decide +kernel
theorem dX8_rock_9 : decode cX8_rock 9 = .ok (.invokestatic 121, 3) := by decide +kernel
theorem dX8_rock_12 : decode cX8_rock 12 = .ok (.ifCond .ne 6, 3) := by decide +kernel
theorem dX8_rock_15 : decode cX8_rock 15 = .ok (.bipush (-101), 2) := by decide +kernel
theorem dX8_rock_17 : decode cX8_rock 17 = .ok (.ireturn, 1) := by decide +kernel
theorem dX8_rock_18 : decode cX8_rock 18 = .ok (.iconst 2, 1) := by decide +kernel
theorem dX8_rock_19 : decode cX8_rock 19 = .ok (.iload_n 1, 1) := by decide +kernel
theorem dX8_rock_20 : decode cX8_rock 20 = .ok (.imul, 1) := by decide +kernel
theorem dX8_rock_21 : decode cX8_rock 21 = .ok (.iload_n 2, 1) := by decide +kernel
theorem dX8_rock_22 : decode cX8_rock 22 = .ok (.iadd, 1) := by decide +kernel
theorem dX8_rock_23 : decode cX8_rock 23 = .ok (.istore 4, 2) := by decide +kernel
theorem dX8_rock_25 : decode cX8_rock 25 = .ok (.iconst 0, 1) := by decide +kernel
theorem dX8_rock_26 : decode cX8_rock 26 = .ok (.istore 5, 2) := by decide +kernel
theorem dX8_rock_28 : decode cX8_rock 28 = .ok (.iload 5, 2) := by decide +kernel
theorem dX8_rock_30 : decode cX8_rock 30 = .ok (.aload_n 0, 1) := by decide +kernel
theorem dX8_rock_31 : decode cX8_rock 31 = .ok (.getfield 32, 3) := by decide +kernel
theorem dX8_rock_34 : decode cX8_rock 34 = .ok (.iload 4, 2) := by decide +kernel
theorem dX8_rock_36 : decode cX8_rock 36 = .ok (.iaload, 1) := by decide +kernel
theorem dX8_rock_37 : decode cX8_rock 37 = .ok (.if_icmp .ge 47, 3) := by decide +kernel
theorem dX8_rock_40 : decode cX8_rock 40 = .ok (.iload_n 3, 1) := by decide +kernel
theorem dX8_rock_41 : decode cX8_rock 41 = .ok (.aload_n 0, 1) := by decide +kernel
theorem dX8_rock_42 : decode cX8_rock 42 = .ok (.iload 4, 2) := by decide +kernel
theorem dX8_rock_44 : decode cX8_rock 44 = .ok (.iload 5, 2) := by decide +kernel
theorem dX8_rock_46 : decode cX8_rock 46 = .ok (.invokevirtual 126, 3) := by decide +kernel
theorem dX8_rock_49 : decode cX8_rock 49 = .ok (.if_icmp .lt 29, 3) := by decide +kernel
theorem dX8_rock_52 : decode cX8_rock 52 = .ok (.iload_n 3, 1) := by decide +kernel
theorem dX8_rock_53 : decode cX8_rock 53 = .ok (.aload_n 0, 1) := by decide +kernel
theorem dX8_rock_54 : decode cX8_rock 54 = .ok (.getfield 35, 3) := by decide +kernel
theorem dX8_rock_57 : decode cX8_rock 57 = .ok (.bipush 20, 2) := by decide +kernel
theorem dX8_rock_59 : decode cX8_rock 59 = .ok (.iload 4, 2) := by decide +kernel
theorem dX8_rock_61 : decode cX8_rock 61 = .ok (.imul, 1) := by decide +kernel
theorem dX8_rock_62 : decode cX8_rock 62 = .ok (.iload 5, 2) := by decide +kernel
theorem dX8_rock_64 : decode cX8_rock 64 = .ok (.iadd, 1) := by decide +kernel
theorem dX8_rock_65 : decode cX8_rock 65 = .ok (.iaload, 1) := by decide +kernel
theorem dX8_rock_66 : decode cX8_rock 66 = .ok (.if_icmp .ge 12, 3) := by decide +kernel
theorem dX8_rock_69 : decode cX8_rock 69 = .ok (.aload_n 0, 1) := by decide +kernel
theorem dX8_rock_70 : decode cX8_rock 70 = .ok (.iload 4, 2) := by decide +kernel
theorem dX8_rock_72 : decode cX8_rock 72 = .ok (.iload 5, 2) := by decide +kernel
theorem dX8_rock_74 : decode cX8_rock 74 = .ok (.invokevirtual 130, 3) := by decide +kernel
theorem dX8_rock_77 : decode cX8_rock 77 = .ok (.ireturn, 1) := by decide +kernel
theorem dX8_rock_78 : decode cX8_rock 78 = .ok (.iinc 5 1, 3) := by decide +kernel
theorem dX8_rock_81 : decode cX8_rock 81 = .ok (.goto (-53), 3) := by decide +kernel
theorem dX8_rock_84 : decode cX8_rock 84 = .ok (.iconst (-1), 1) := by decide +kernel
theorem dX8_rock_85 : decode cX8_rock 85 = .ok (.ireturn, 1) := by decide +kernel
set_option maxRecDepth 20000 in
theorem ggX8_agree_X8_isHole : GoodIn wsX8_agree wsX8_isHole := goodIn_r _ [7, 8, 9, 10, 6, 11, 25, 26, 27, 28, 29, 30, 31, 32, 33, 34, 35, 36, 37, 38, 39, 40, 41, 42, 43, 44, 45, 46, 47, 48, 49, 50, 51] (by decide +kernel) (by decide +kernel)
set_option maxRecDepth 20000 in
theorem gX8_agree_X8_isHole : GoodIn wsX8_agree (wsV RX8 91 RX8 yX8_isHole wsX8_isHole) := goodIn_app (goodIn_of _ (by decide +kernel)) ggX8_agree_X8_isHole
set_option maxRecDepth 20000 in
theorem ggX8_agree_X8_codeOf : GoodIn wsX8_agree wsX8_codeOf := goodIn_r _ [15, 16, 17, 25, 26, 27, 28, 29, 30, 31, 32, 33, 34, 35, 36, 37, 38, 39, 40, 41, 42, 43, 44, 45, 46, 47, 48, 49, 50, 51] (by decide +kernel) (by decide +kernel)
set_option maxRecDepth 20000 in
theorem gX8_agree_X8_codeOf : GoodIn wsX8_agree (wsV RX8 130 RX8 yX8_codeOf wsX8_codeOf) := goodIn_app (goodIn_of _ (by decide +kernel)) ggX8_agree_X8_codeOf
set_option maxRecDepth 20000 in
theorem ggX8_agree_X8_fromOf : GoodIn wsX8_agree wsX8_fromOf := goodIn_r _ [21, 2, 25, 26, 27, 28, 29, 30, 31, 32, 33, 34, 35, 36, 37, 38, 39, 40, 41, 42, 43, 44, 45, 46, 47, 48, 49, 50, 51] (by decide +kernel) (by decide +kernel)
set_option maxRecDepth 20000 in
theorem gX8_agree_X8_fromOf : GoodIn wsX8_agree (wsV RX8 126 RX8 yX8_fromOf wsX8_fromOf) := goodIn_app (goodIn_of _ (by decide +kernel)) ggX8_agree_X8_fromOf
set_option maxRecDepth 20000 in
theorem ggX8_agree_X8_common : GoodIn wsX8_agree wsX8_common := goodIn_r _ [24] (by decide +kernel) (by decide +kernel)
set_option maxRecDepth 20000 in
theorem gX8_agree_X8_common : GoodIn wsX8_agree (va_wsS RX8 104 yX8_common wsX8_common) := goodIn_app (goodIn_of _ (by decide +kernel)) ggX8_agree_X8_common
theorem dX8_agree_0 : decode cX8_agree 0 = .ok (.aload_n 0, 1) := by decide +kernel
theorem dX8_agree_1 : decode cX8_agree 1 = .ok (.iload_n 1, 1) := by decide +kernel
theorem dX8_agree_2 : decode cX8_agree 2 = .ok (.invokevirtual 91, 3) := by decide +kernel
theorem dX8_agree_5 : decode cX8_agree 5 = .ok (.ifCond .ne 6, 3) := by decide +kernel
theorem dX8_agree_8 : decode cX8_agree 8 = .ok (.bipush (-101), 2) := by decide +kernel
theorem dX8_agree_10 : decode cX8_agree 10 = .ok (.ireturn, 1) := by decide +kernel
theorem dX8_agree_11 : decode cX8_agree 11 = .ok (.iconst 0, 1) := by decide +kernel
theorem dX8_agree_12 : decode cX8_agree 12 = .ok (.istore_n 2, 1) := by decide +kernel
theorem dX8_agree_13 : decode cX8_agree 13 = .ok (.iconst 0, 1) := by decide +kernel
theorem dX8_agree_14 : decode cX8_agree 14 = .ok (.istore_n 3, 1) := by decide +kernel
theorem dX8_agree_15 : decode cX8_agree 15 = .ok (.iload_n 3, 1) := by decide +kernel
theorem dX8_agree_16 : decode cX8_agree 16 = .ok (.aload_n 0, 1) := by decide +kernel
theorem dX8_agree_17 : decode cX8_agree 17 = .ok (.getfield 32, 3) := by decide +kernel
theorem dX8_agree_20 : decode cX8_agree 20 = .ok (.iconst 2, 1) := by decide +kernel
theorem dX8_agree_21 : decode cX8_agree 21 = .ok (.iload_n 1, 1) := by decide +kernel
theorem dX8_agree_22 : decode cX8_agree 22 = .ok (.imul, 1) := by decide +kernel
theorem dX8_agree_23 : decode cX8_agree 23 = .ok (.iaload, 1) := by decide +kernel
theorem dX8_agree_24 : decode cX8_agree 24 = .ok (.if_icmp .ge 106, 3) := by decide +kernel
theorem dX8_agree_27 : decode cX8_agree 27 = .ok (.iconst 0, 1) := by decide +kernel
theorem dX8_agree_28 : decode cX8_agree 28 = .ok (.istore 4, 2) := by decide +kernel
theorem dX8_agree_30 : decode cX8_agree 30 = .ok (.iload 4, 2) := by decide +kernel
theorem dX8_agree_32 : decode cX8_agree 32 = .ok (.aload_n 0, 1) := by decide +kernel
theorem dX8_agree_33 : decode cX8_agree 33 = .ok (.getfield 32, 3) := by decide +kernel
theorem dX8_agree_36 : decode cX8_agree 36 = .ok (.iconst 2, 1) := by decide +kernel
theorem dX8_agree_37 : decode cX8_agree 37 = .ok (.iload_n 1, 1) := by decide +kernel
theorem dX8_agree_38 : decode cX8_agree 38 = .ok (.imul, 1) := by decide +kernel
theorem dX8_agree_39 : decode cX8_agree 39 = .ok (.iconst 1, 1) := by decide +kernel
theorem dX8_agree_40 : decode cX8_agree 40 = .ok (.iadd, 1) := by decide +kernel
theorem dX8_agree_41 : decode cX8_agree 41 = .ok (.iaload, 1) := by decide +kernel
theorem dX8_agree_42 : decode cX8_agree 42 = .ok (.if_icmp .ge 82, 3) := by decide +kernel
theorem dX8_agree_45 : decode cX8_agree 45 = .ok (.aload_n 0, 1) := by decide +kernel
theorem dX8_agree_46 : decode cX8_agree 46 = .ok (.iconst 2, 1) := by decide +kernel
theorem dX8_agree_47 : decode cX8_agree 47 = .ok (.iload_n 1, 1) := by decide +kernel
theorem dX8_agree_48 : decode cX8_agree 48 = .ok (.imul, 1) := by decide +kernel
theorem dX8_agree_49 : decode cX8_agree 49 = .ok (.iload_n 3, 1) := by decide +kernel
theorem dX8_agree_50 : decode cX8_agree 50 = .ok (.invokevirtual 130, 3) := by decide +kernel
theorem dX8_agree_53 : decode cX8_agree 53 = .ok (.aload_n 0, 1) := by decide +kernel
theorem dX8_agree_54 : decode cX8_agree 54 = .ok (.iconst 2, 1) := by decide +kernel
theorem dX8_agree_55 : decode cX8_agree 55 = .ok (.iload_n 1, 1) := by decide +kernel
theorem dX8_agree_56 : decode cX8_agree 56 = .ok (.imul, 1) := by decide +kernel
theorem dX8_agree_57 : decode cX8_agree 57 = .ok (.iconst 1, 1) := by decide +kernel
theorem dX8_agree_58 : decode cX8_agree 58 = .ok (.iadd, 1) := by decide +kernel
theorem dX8_agree_59 : decode cX8_agree 59 = .ok (.iload 4, 2) := by decide +kernel
theorem dX8_agree_61 : decode cX8_agree 61 = .ok (.invokevirtual 130, 3) := by decide +kernel
theorem dX8_agree_64 : decode cX8_agree 64 = .ok (.if_icmp .ne 54, 3) := by decide +kernel
theorem dX8_agree_67 : decode cX8_agree 67 = .ok (.iload_n 2, 1) := by decide +kernel
theorem dX8_agree_68 : decode cX8_agree 68 = .ok (.aload_n 0, 1) := by decide +kernel
theorem dX8_agree_69 : decode cX8_agree 69 = .ok (.iconst 2, 1) := by decide +kernel
theorem dX8_agree_70 : decode cX8_agree 70 = .ok (.iload_n 1, 1) := by decide +kernel
theorem dX8_agree_71 : decode cX8_agree 71 = .ok (.imul, 1) := by decide +kernel
theorem dX8_agree_72 : decode cX8_agree 72 = .ok (.iload_n 3, 1) := by decide +kernel
theorem dX8_agree_73 : decode cX8_agree 73 = .ok (.invokevirtual 126, 3) := by decide +kernel
theorem dX8_agree_76 : decode cX8_agree 76 = .ok (.aload_n 0, 1) := by decide +kernel
theorem dX8_agree_77 : decode cX8_agree 77 = .ok (.getfield 35, 3) := by decide +kernel
theorem dX8_agree_80 : decode cX8_agree 80 = .ok (.bipush 40, 2) := by decide +kernel
theorem dX8_agree_82 : decode cX8_agree 82 = .ok (.iload_n 1, 1) := by decide +kernel
theorem dX8_agree_83 : decode cX8_agree 83 = .ok (.imul, 1) := by decide +kernel
theorem dX8_agree_84 : decode cX8_agree 84 = .ok (.iload_n 3, 1) := by decide +kernel
theorem dX8_agree_85 : decode cX8_agree 85 = .ok (.iadd, 1) := by decide +kernel
theorem dX8_agree_86 : decode cX8_agree 86 = .ok (.iaload, 1) := by decide +kernel
theorem dX8_agree_87 : decode cX8_agree 87 = .ok (.aload_n 0, 1) := by decide +kernel
theorem dX8_agree_88 : decode cX8_agree 88 = .ok (.iconst 2, 1) := by decide +kernel
theorem dX8_agree_89 : decode cX8_agree 89 = .ok (.iload_n 1, 1) := by decide +kernel
theorem dX8_agree_90 : decode cX8_agree 90 = .ok (.imul, 1) := by decide +kernel
theorem dX8_agree_91 : decode cX8_agree 91 = .ok (.iconst 1, 1) := by decide +kernel
theorem dX8_agree_92 : decode cX8_agree 92 = .ok (.iadd, 1) := by decide +kernel
theorem dX8_agree_93 : decode cX8_agree 93 = .ok (.iload 4, 2) := by decide +kernel
theorem dX8_agree_95 : decode cX8_agree 95 = .ok (.invokevirtual 126, 3) := by decide +kernel
theorem dX8_agree_98 : decode cX8_agree 98 = .ok (.aload_n 0, 1) := by decide +kernel
theorem dX8_agree_99 : decode cX8_agree 99 = .ok (.getfield 35, 3) := by decide +kernel
theorem dX8_agree_102 : decode cX8_agree 102 = .ok (.bipush 40, 2) := by decide +kernel
theorem dX8_agree_104 : decode cX8_agree 104 = .ok (.iload_n 1, 1) := by decide +kernel
theorem dX8_agree_105 : decode cX8_agree 105 = .ok (.imul, 1) := by decide +kernel
theorem dX8_agree_106 : decode cX8_agree 106 = .ok (.bipush 20, 2) := by decide +kernel
theorem dX8_agree_108 : decode cX8_agree 108 = .ok (.iadd, 1) := by decide +kernel
theorem dX8_agree_109 : decode cX8_agree 109 = .ok (.iload 4, 2) := by decide +kernel
theorem dX8_agree_111 : decode cX8_agree 111 = .ok (.iadd, 1) := by decide +kernel
theorem dX8_agree_112 : decode cX8_agree 112 = .ok (.iaload, 1) := by decide +kernel
theorem dX8_agree_113 : decode cX8_agree 113 = .ok (.invokestatic 104, 3) := by decide +kernel
theorem dX8_agree_116 : decode cX8_agree 116 = .ok (.iadd, 1) := by decide +kernel
theorem dX8_agree_117 : decode cX8_agree 117 = .ok (.istore_n 2, 1) := by decide +kernel
theorem dX8_agree_118 : decode cX8_agree 118 = .ok (.iinc 4 1, 3) := by decide +kernel
theorem dX8_agree_121 : decode cX8_agree 121 = .ok (.goto (-91), 3) := by decide +kernel
theorem dX8_agree_124 : decode cX8_agree 124 = .ok (.iinc 3 1, 3) := by decide +kernel
theorem dX8_agree_127 : decode cX8_agree 127 = .ok (.goto (-112), 3) := by decide +kernel
theorem dX8_agree_130 : decode cX8_agree 130 = .ok (.iload_n 2, 1) := by decide +kernel
theorem dX8_agree_131 : decode cX8_agree 131 = .ok (.ireturn, 1) := by decide +kernel
set_option maxRecDepth 20000 in
theorem ggX8_isSample_X8_in : GoodIn wsX8_isSample wsX8_in := goodIn_r _ [5] (by decide +kernel) (by decide +kernel)
set_option maxRecDepth 20000 in
theorem gX8_isSample_X8_in : GoodIn wsX8_isSample (va_wsS RX8 84 yX8_in wsX8_in) := goodIn_app (goodIn_of _ (by decide +kernel)) ggX8_isSample_X8_in
theorem dX8_isSample_0 : decode cX8_isSample 0 = .ok (.iload_n 1, 1) := by decide +kernel
theorem dX8_isSample_1 : decode cX8_isSample 1 = .ok (.i2l, 1) := by decide +kernel
theorem dX8_isSample_2 : decode cX8_isSample 2 = .ok (.lconst 0, 1) := by decide +kernel
theorem dX8_isSample_3 : decode cX8_isSample 3 = .ok (.aload_n 0, 1) := by decide +kernel
theorem dX8_isSample_4 : decode cX8_isSample 4 = .ok (.getfield 88, 3) := by decide +kernel
theorem dX8_isSample_7 : decode cX8_isSample 7 = .ok (.iconst 1, 1) := by decide +kernel
theorem dX8_isSample_8 : decode cX8_isSample 8 = .ok (.isub, 1) := by decide +kernel
theorem dX8_isSample_9 : decode cX8_isSample 9 = .ok (.i2l, 1) := by decide +kernel
theorem dX8_isSample_10 : decode cX8_isSample 10 = .ok (.invokestatic 84, 3) := by decide +kernel
theorem dX8_isSample_13 : decode cX8_isSample 13 = .ok (.ireturn, 1) := by decide +kernel
set_option maxRecDepth 20000 in
theorem ggX8_isBatch_X8_in : GoodIn wsX8_isBatch wsX8_in := goodIn_r _ [5] (by decide +kernel) (by decide +kernel)
set_option maxRecDepth 20000 in
theorem gX8_isBatch_X8_in : GoodIn wsX8_isBatch (va_wsS RX8 84 yX8_in wsX8_in) := goodIn_app (goodIn_of _ (by decide +kernel)) ggX8_isBatch_X8_in
theorem dX8_isBatch_0 : decode cX8_isBatch 0 = .ok (.iload_n 1, 1) := by decide +kernel
theorem dX8_isBatch_1 : decode cX8_isBatch 1 = .ok (.i2l, 1) := by decide +kernel
theorem dX8_isBatch_2 : decode cX8_isBatch 2 = .ok (.lconst 0, 1) := by decide +kernel
theorem dX8_isBatch_3 : decode cX8_isBatch 3 = .ok (.aload_n 0, 1) := by decide +kernel
theorem dX8_isBatch_4 : decode cX8_isBatch 4 = .ok (.getfield 133, 3) := by decide +kernel
theorem dX8_isBatch_7 : decode cX8_isBatch 7 = .ok (.iconst 1, 1) := by decide +kernel
theorem dX8_isBatch_8 : decode cX8_isBatch 8 = .ok (.isub, 1) := by decide +kernel
theorem dX8_isBatch_9 : decode cX8_isBatch 9 = .ok (.i2l, 1) := by decide +kernel
theorem dX8_isBatch_10 : decode cX8_isBatch 10 = .ok (.invokestatic 84, 3) := by decide +kernel
theorem dX8_isBatch_13 : decode cX8_isBatch 13 = .ok (.ireturn, 1) := by decide +kernel
set_option maxRecDepth 20000 in
theorem ggX8_isPlace_X8_isBatch : GoodIn wsX8_isPlace wsX8_isBatch := goodIn_r _ [6, 7, 8, 9, 5, 10, 11, 12, 13, 14, 15, 16, 17, 18, 19, 20, 21, 22, 23, 24, 25, 26, 27, 28, 29, 30, 31, 32, 33, 34, 35, 36, 37] (by decide +kernel) (by decide +kernel)
set_option maxRecDepth 20000 in
theorem gX8_isPlace_X8_isBatch : GoodIn wsX8_isPlace (wsV RX8 136 RX8 yX8_isBatch wsX8_isBatch) := goodIn_app (goodIn_of _ (by decide +kernel)) ggX8_isPlace_X8_isBatch
set_option maxRecDepth 20000 in
theorem ggX8_isPlace_X8_in : GoodIn wsX8_isPlace wsX8_in := goodIn_r _ [10] (by decide +kernel) (by decide +kernel)
set_option maxRecDepth 20000 in
theorem gX8_isPlace_X8_in : GoodIn wsX8_isPlace (va_wsS RX8 84 yX8_in wsX8_in) := goodIn_app (goodIn_of _ (by decide +kernel)) ggX8_isPlace_X8_in
theorem dX8_isPlace_0 : decode cX8_isPlace 0 = .ok (.aload_n 0, 1) := by decide +kernel
theorem dX8_isPlace_1 : decode cX8_isPlace 1 = .ok (.iload_n 1, 1) := by decide +kernel
theorem dX8_isPlace_2 : decode cX8_isPlace 2 = .ok (.invokevirtual 136, 3) := by decide +kernel
theorem dX8_isPlace_5 : decode cX8_isPlace 5 = .ok (.ifCond .eq 25, 3) := by decide +kernel
theorem dX8_isPlace_8 : decode cX8_isPlace 8 = .ok (.iload_n 2, 1) := by decide +kernel
theorem dX8_isPlace_9 : decode cX8_isPlace 9 = .ok (.i2l, 1) := by decide +kernel
theorem dX8_isPlace_10 : decode cX8_isPlace 10 = .ok (.lconst 0, 1) := by decide +kernel
theorem dX8_isPlace_11 : decode cX8_isPlace 11 = .ok (.aload_n 0, 1) := by decide +kernel
theorem dX8_isPlace_12 : decode cX8_isPlace 12 = .ok (.getfield 56, 3) := by decide +kernel
theorem dX8_isPlace_15 : decode cX8_isPlace 15 = .ok (.iload_n 1, 1) := by decide +kernel
theorem dX8_isPlace_16 : decode cX8_isPlace 16 = .ok (.iaload, 1) := by decide +kernel
theorem dX8_isPlace_17 : decode cX8_isPlace 17 = .ok (.iconst 1, 1) := by decide +kernel
theorem dX8_isPlace_18 : decode cX8_isPlace 18 = .ok (.isub, 1) := by decide +kernel
theorem dX8_isPlace_19 : decode cX8_isPlace 19 = .ok (.i2l, 1) := by decide +kernel
theorem dX8_isPlace_20 : decode cX8_isPlace 20 = .ok (.invokestatic 84, 3) := by decide +kernel
theorem dX8_isPlace_23 : decode cX8_isPlace 23 = .ok (.ifCond .eq 7, 3) := by decide +kernel
theorem dX8_isPlace_26 : decode cX8_isPlace 26 = .ok (.iconst 1, 1) := by decide +kernel
theorem dX8_isPlace_27 : decode cX8_isPlace 27 = .ok (.goto 4, 3) := by decide +kernel
theorem dX8_isPlace_30 : decode cX8_isPlace 30 = .ok (.iconst 0, 1) := by decide +kernel
theorem dX8_isPlace_31 : decode cX8_isPlace 31 = .ok (.ireturn, 1) := by decide +kernel
set_option maxRecDepth 20000 in
theorem ggX8_sample_X8_isHole : GoodIn wsX8_sample wsX8_isHole := goodIn_r _ [10, 11, 12, 13, 9, 14, 33, 34, 35, 36, 37, 38, 39, 40, 41, 42, 43, 44, 45, 46, 47, 48, 49, 50, 51, 52, 53, 54, 55, 56, 57, 58, 59] (by decide +kernel) (by decide +kernel)
set_option maxRecDepth 20000 in
theorem gX8_sample_X8_isHole : GoodIn wsX8_sample (wsV RX8 91 RX8 yX8_isHole wsX8_isHole) := goodIn_app (goodIn_of _ (by decide +kernel)) ggX8_sample_X8_isHole
set_option maxRecDepth 20000 in
theorem ggX8_sample_X8_isStretch : GoodIn wsX8_sample wsX8_isStretch := goodIn_r _ [18, 19, 20, 21, 9, 22, 23, 24, 33, 34, 35, 36, 37, 38, 39, 40, 41, 42, 43, 44, 45, 46, 47, 48, 49, 50, 51, 52, 53, 54, 55, 56, 57, 58, 59] (by decide +kernel) (by decide +kernel)
set_option maxRecDepth 20000 in
theorem gX8_sample_X8_isStretch : GoodIn wsX8_sample (wsV RX8 108 RX8 yX8_isStretch wsX8_isStretch) := goodIn_app (goodIn_of _ (by decide +kernel)) ggX8_sample_X8_isStretch
set_option maxRecDepth 20000 in
theorem ggX8_sample_X8_recoveredOf : GoodIn wsX8_sample wsX8_recoveredOf := goodIn_r _ [28, 23, 29, 24, 30, 31, 9, 32, 33, 34, 35, 36, 37, 38, 39, 40, 41, 42, 43, 44, 45, 46, 47, 48, 49, 50, 51, 52, 53, 54, 55, 56, 57, 58, 59] (by decide +kernel) (by decide +kernel)
set_option maxRecDepth 20000 in
theorem gX8_sample_X8_recoveredOf : GoodIn wsX8_sample (wsV RX8 112 RX8 yX8_recoveredOf wsX8_recoveredOf) := goodIn_app (goodIn_of _ (by decide +kernel)) ggX8_sample_X8_recoveredOf
set_option maxRecDepth 20000 in
theorem ggX8_sample_X8_common : GoodIn wsX8_sample wsX8_common := goodIn_r _ [32] (by decide +kernel) (by decide +kernel)
set_option maxRecDepth 20000 in
theorem gX8_sample_X8_common : GoodIn wsX8_sample (va_wsS RX8 104 yX8_common wsX8_common) := goodIn_app (goodIn_of _ (by decide +kernel)) ggX8_sample_X8_common
theorem dX8_sample_0 : decode cX8_sample 0 = .ok (.aload_n 0, 1) := by decide +kernel
theorem dX8_sample_1 : decode cX8_sample 1 = .ok (.iload_n 1, 1) := by decide +kernel
theorem dX8_sample_2 : decode cX8_sample 2 = .ok (.invokevirtual 91, 3) := by decide +kernel
theorem dX8_sample_5 : decode cX8_sample 5 = .ok (.ifCond .ne 6, 3) := by decide +kernel
theorem dX8_sample_8 : decode cX8_sample 8 = .ok (.bipush (-101), 2) := by decide +kernel
theorem dX8_sample_10 : decode cX8_sample 10 = .ok (.ireturn, 1) := by decide +kernel
theorem dX8_sample_11 : decode cX8_sample 11 = .ok (.aload_n 0, 1) := by decide +kernel
theorem dX8_sample_12 : decode cX8_sample 12 = .ok (.iload_n 1, 1) := by decide +kernel
theorem dX8_sample_13 : decode cX8_sample 13 = .ok (.iload_n 2, 1) := by decide +kernel
theorem dX8_sample_14 : decode cX8_sample 14 = .ok (.iload_n 3, 1) := by decide +kernel
theorem dX8_sample_15 : decode cX8_sample 15 = .ok (.invokevirtual 108, 3) := by decide +kernel
theorem dX8_sample_18 : decode cX8_sample 18 = .ok (.ifCond .ne 6, 3) := by decide +kernel
theorem dX8_sample_21 : decode cX8_sample 21 = .ok (.bipush (-102), 2) := by decide +kernel
theorem dX8_sample_23 : decode cX8_sample 23 = .ok (.ireturn, 1) := by decide +kernel
theorem dX8_sample_24 : decode cX8_sample 24 = .ok (.aload_n 0, 1) := by decide +kernel
theorem dX8_sample_25 : decode cX8_sample 25 = .ok (.iload_n 1, 1) := by decide +kernel
theorem dX8_sample_26 : decode cX8_sample 26 = .ok (.iload_n 2, 1) := by decide +kernel
theorem dX8_sample_27 : decode cX8_sample 27 = .ok (.iload_n 3, 1) := by decide +kernel
theorem dX8_sample_28 : decode cX8_sample 28 = .ok (.invokevirtual 112, 3) := by decide +kernel
theorem dX8_sample_31 : decode cX8_sample 31 = .ok (.ifCond .le 7, 3) := by decide +kernel
theorem dX8_sample_34 : decode cX8_sample 34 = .ok (.iconst 1, 1) := by decide +kernel
theorem dX8_sample_35 : decode cX8_sample 35 = .ok (.goto 4, 3) := by decide +kernel
theorem dX8_sample_38 : decode cX8_sample 38 = .ok (.iconst 0, 1) := by decide +kernel
theorem dX8_sample_39 : decode cX8_sample 39 = .ok (.istore 4, 2) := by decide +kernel
theorem dX8_sample_41 : decode cX8_sample 41 = .ok (.iconst 0, 1) := by decide +kernel
theorem dX8_sample_42 : decode cX8_sample 42 = .ok (.istore 5, 2) := by decide +kernel
theorem dX8_sample_44 : decode cX8_sample 44 = .ok (.iload 5, 2) := by decide +kernel
theorem dX8_sample_46 : decode cX8_sample 46 = .ok (.aload_n 0, 1) := by decide +kernel
theorem dX8_sample_47 : decode cX8_sample 47 = .ok (.getfield 88, 3) := by decide +kernel
theorem dX8_sample_50 : decode cX8_sample 50 = .ok (.if_icmp .ge 54, 3) := by decide +kernel
theorem dX8_sample_53 : decode cX8_sample 53 = .ok (.iload 4, 2) := by decide +kernel
theorem dX8_sample_55 : decode cX8_sample 55 = .ok (.ifCond .eq 40, 3) := by decide +kernel
theorem dX8_sample_58 : decode cX8_sample 58 = .ok (.aload_n 0, 1) := by decide +kernel
theorem dX8_sample_59 : decode cX8_sample 59 = .ok (.getfield 44, 3) := by decide +kernel
theorem dX8_sample_62 : decode cX8_sample 62 = .ok (.iload 5, 2) := by decide +kernel
theorem dX8_sample_64 : decode cX8_sample 64 = .ok (.iaload, 1) := by decide +kernel
theorem dX8_sample_65 : decode cX8_sample 65 = .ok (.iload_n 1, 1) := by decide +kernel
theorem dX8_sample_66 : decode cX8_sample 66 = .ok (.if_icmp .ne 25, 3) := by decide +kernel
theorem dX8_sample_69 : decode cX8_sample 69 = .ok (.iload_n 2, 1) := by decide +kernel
theorem dX8_sample_70 : decode cX8_sample 70 = .ok (.iload_n 3, 1) := by decide +kernel
theorem dX8_sample_71 : decode cX8_sample 71 = .ok (.aload_n 0, 1) := by decide +kernel
theorem dX8_sample_72 : decode cX8_sample 72 = .ok (.getfield 47, 3) := by decide +kernel
theorem dX8_sample_75 : decode cX8_sample 75 = .ok (.iload 5, 2) := by decide +kernel
theorem dX8_sample_77 : decode cX8_sample 77 = .ok (.iaload, 1) := by decide +kernel
theorem dX8_sample_78 : decode cX8_sample 78 = .ok (.aload_n 0, 1) := by decide +kernel
theorem dX8_sample_79 : decode cX8_sample 79 = .ok (.getfield 50, 3) := by decide +kernel
theorem dX8_sample_82 : decode cX8_sample 82 = .ok (.iload 5, 2) := by decide +kernel
theorem dX8_sample_84 : decode cX8_sample 84 = .ok (.iaload, 1) := by decide +kernel
theorem dX8_sample_85 : decode cX8_sample 85 = .ok (.invokestatic 104, 3) := by decide +kernel
theorem dX8_sample_88 : decode cX8_sample 88 = .ok (.ifCond .ne 7, 3) := by decide +kernel
theorem dX8_sample_91 : decode cX8_sample 91 = .ok (.iconst 1, 1) := by decide +kernel
theorem dX8_sample_92 : decode cX8_sample 92 = .ok (.goto 4, 3) := by decide +kernel
theorem dX8_sample_95 : decode cX8_sample 95 = .ok (.iconst 0, 1) := by decide +kernel
theorem dX8_sample_96 : decode cX8_sample 96 = .ok (.istore 4, 2) := by decide +kernel
theorem dX8_sample_98 : decode cX8_sample 98 = .ok (.iinc 5 1, 3) := by decide +kernel
theorem dX8_sample_101 : decode cX8_sample 101 = .ok (.goto (-57), 3) := by decide +kernel
theorem dX8_sample_104 : decode cX8_sample 104 = .ok (.iload 4, 2) := by decide +kernel
theorem dX8_sample_106 : decode cX8_sample 106 = .ok (.ifCond .ne 6, 3) := by decide +kernel
theorem dX8_sample_109 : decode cX8_sample 109 = .ok (.bipush (-103), 2) := by decide +kernel
theorem dX8_sample_111 : decode cX8_sample 111 = .ok (.ireturn, 1) := by decide +kernel
theorem dX8_sample_112 : decode cX8_sample 112 = .ok (.aload_n 0, 1) := by decide +kernel
theorem dX8_sample_113 : decode cX8_sample 113 = .ok (.getfield 88, 3) := by decide +kernel
theorem dX8_sample_116 : decode cX8_sample 116 = .ok (.bipush 30, 2) := by decide +kernel
theorem dX8_sample_118 : decode cX8_sample 118 = .ok (.if_icmp .ne 6, 3) := by decide +kernel
theorem dX8_sample_121 : decode cX8_sample 121 = .ok (.bipush (-104), 2) := by decide +kernel
theorem dX8_sample_123 : decode cX8_sample 123 = .ok (.ireturn, 1) := by decide +kernel
theorem dX8_sample_124 : decode cX8_sample 124 = .ok (.aload_n 0, 1) := by decide +kernel
theorem dX8_sample_125 : decode cX8_sample 125 = .ok (.getfield 44, 3) := by decide +kernel
theorem dX8_sample_128 : decode cX8_sample 128 = .ok (.aload_n 0, 1) := by decide +kernel
theorem dX8_sample_129 : decode cX8_sample 129 = .ok (.getfield 88, 3) := by decide +kernel
theorem dX8_sample_132 : decode cX8_sample 132 = .ok (.iload_n 1, 1) := by decide +kernel
theorem dX8_sample_133 : decode cX8_sample 133 = .ok (.iastore, 1) := by decide +kernel
theorem dX8_sample_134 : decode cX8_sample 134 = .ok (.aload_n 0, 1) := by decide +kernel
theorem dX8_sample_135 : decode cX8_sample 135 = .ok (.getfield 47, 3) := by decide +kernel
theorem dX8_sample_138 : decode cX8_sample 138 = .ok (.aload_n 0, 1) := by decide +kernel
theorem dX8_sample_139 : decode cX8_sample 139 = .ok (.getfield 88, 3) := by decide +kernel
theorem dX8_sample_142 : decode cX8_sample 142 = .ok (.iload_n 2, 1) := by decide +kernel
theorem dX8_sample_143 : decode cX8_sample 143 = .ok (.iastore, 1) := by decide +kernel
theorem dX8_sample_144 : decode cX8_sample 144 = .ok (.aload_n 0, 1) := by decide +kernel
theorem dX8_sample_145 : decode cX8_sample 145 = .ok (.getfield 50, 3) := by decide +kernel
theorem dX8_sample_148 : decode cX8_sample 148 = .ok (.aload_n 0, 1) := by decide +kernel
theorem dX8_sample_149 : decode cX8_sample 149 = .ok (.getfield 88, 3) := by decide +kernel
theorem dX8_sample_152 : decode cX8_sample 152 = .ok (.iload_n 3, 1) := by decide +kernel
theorem dX8_sample_153 : decode cX8_sample 153 = .ok (.iastore, 1) := by decide +kernel
theorem dX8_sample_154 : decode cX8_sample 154 = .ok (.aload_n 0, 1) := by decide +kernel
theorem dX8_sample_155 : decode cX8_sample 155 = .ok (.getfield 53, 3) := by decide +kernel
theorem dX8_sample_158 : decode cX8_sample 158 = .ok (.aload_n 0, 1) := by decide +kernel
theorem dX8_sample_159 : decode cX8_sample 159 = .ok (.getfield 88, 3) := by decide +kernel
theorem dX8_sample_162 : decode cX8_sample 162 = .ok (.iconst 4, 1) := by decide +kernel
theorem dX8_sample_163 : decode cX8_sample 163 = .ok (.iastore, 1) := by decide +kernel
theorem dX8_sample_164 : decode cX8_sample 164 = .ok (.aload_n 0, 1) := by decide +kernel
theorem dX8_sample_165 : decode cX8_sample 165 = .ok (.dup, 1) := by decide +kernel
theorem dX8_sample_166 : decode cX8_sample 166 = .ok (.getfield 88, 3) := by decide +kernel
theorem dX8_sample_169 : decode cX8_sample 169 = .ok (.iconst 1, 1) := by decide +kernel
theorem dX8_sample_170 : decode cX8_sample 170 = .ok (.iadd, 1) := by decide +kernel
theorem dX8_sample_171 : decode cX8_sample 171 = .ok (.putfield 88, 3) := by decide +kernel
theorem dX8_sample_174 : decode cX8_sample 174 = .ok (.aload_n 0, 1) := by decide +kernel
theorem dX8_sample_175 : decode cX8_sample 175 = .ok (.getfield 88, 3) := by decide +kernel
theorem dX8_sample_178 : decode cX8_sample 178 = .ok (.iconst 1, 1) := by decide +kernel
theorem dX8_sample_179 : decode cX8_sample 179 = .ok (.isub, 1) := by decide +kernel
theorem dX8_sample_180 : decode cX8_sample 180 = .ok (.ireturn, 1) := by decide +kernel
set_option maxRecDepth 20000 in
theorem ggX8_left_X8_isSample : GoodIn wsX8_left wsX8_isSample := goodIn_r _ [6, 7, 8, 9, 5, 10, 11, 12, 13, 14, 15, 16, 17, 18, 19, 20, 21, 22, 23, 24, 25, 26, 27, 28, 29, 30, 31, 32, 33, 34, 35, 36, 37] (by decide +kernel) (by decide +kernel)
set_option maxRecDepth 20000 in
theorem gX8_left_X8_isSample : GoodIn wsX8_left (wsV RX8 139 RX8 yX8_isSample wsX8_isSample) := goodIn_app (goodIn_of _ (by decide +kernel)) ggX8_left_X8_isSample
theorem dX8_left_0 : decode cX8_left 0 = .ok (.aload_n 0, 1) := by decide +kernel
theorem dX8_left_1 : decode cX8_left 1 = .ok (.iload_n 1, 1) := by decide +kernel
theorem dX8_left_2 : decode cX8_left 2 = .ok (.invokevirtual 139, 3) := by decide +kernel
theorem dX8_left_5 : decode cX8_left 5 = .ok (.ifCond .eq 12, 3) := by decide +kernel
theorem dX8_left_8 : decode cX8_left 8 = .ok (.aload_n 0, 1) := by decide +kernel
theorem dX8_left_9 : decode cX8_left 9 = .ok (.getfield 53, 3) := by decide +kernel
theorem dX8_left_12 : decode cX8_left 12 = .ok (.iload_n 1, 1) := by decide +kernel
theorem dX8_left_13 : decode cX8_left 13 = .ok (.iaload, 1) := by decide +kernel
theorem dX8_left_14 : decode cX8_left 14 = .ok (.goto 5, 3) := by decide +kernel
theorem dX8_left_17 : decode cX8_left 17 = .ok (.bipush (-101), 2) := by decide +kernel
theorem dX8_left_19 : decode cX8_left 19 = .ok (.ireturn, 1) := by decide +kernel
theorem dX8_batch_0 : decode cX8_batch 0 = .ok (.aload_n 0, 1) := by decide +kernel
theorem dX8_batch_1 : decode cX8_batch 1 = .ok (.getfield 133, 3) := by decide +kernel
theorem dX8_batch_4 : decode cX8_batch 4 = .ok (.bipush 6, 2) := by decide +kernel
theorem dX8_batch_6 : decode cX8_batch 6 = .ok (.if_icmp .ne 6, 3) := by decide +kernel
theorem dX8_batch_9 : decode cX8_batch 9 = .ok (.bipush (-104), 2) := by decide +kernel
theorem dX8_batch_11 : decode cX8_batch 11 = .ok (.ireturn, 1) := by decide +kernel
theorem dX8_batch_12 : decode cX8_batch 12 = .ok (.aload_n 0, 1) := by decide +kernel
theorem dX8_batch_13 : decode cX8_batch 13 = .ok (.dup, 1) := by decide +kernel
theorem dX8_batch_14 : decode cX8_batch 14 = .ok (.getfield 133, 3) := by decide +kernel
theorem dX8_batch_17 : decode cX8_batch 17 = .ok (.iconst 1, 1) := by decide +kernel
theorem dX8_batch_18 : decode cX8_batch 18 = .ok (.iadd, 1) := by decide +kernel
theorem dX8_batch_19 : decode cX8_batch 19 = .ok (.putfield 133, 3) := by decide +kernel
theorem dX8_batch_22 : decode cX8_batch 22 = .ok (.aload_n 0, 1) := by decide +kernel
theorem dX8_batch_23 : decode cX8_batch 23 = .ok (.getfield 133, 3) := by decide +kernel
theorem dX8_batch_26 : decode cX8_batch 26 = .ok (.iconst 1, 1) := by decide +kernel
theorem dX8_batch_27 : decode cX8_batch 27 = .ok (.isub, 1) := by decide +kernel
theorem dX8_batch_28 : decode cX8_batch 28 = .ok (.ireturn, 1) := by decide +kernel
theorem dX8_hasResults_0 : decode cX8_hasResults 0 = .ok (.iconst 0, 1) := by decide +kernel
theorem dX8_hasResults_1 : decode cX8_hasResults 1 = .ok (.istore_n 2, 1) := by decide +kernel
theorem dX8_hasResults_2 : decode cX8_hasResults 2 = .ok (.iconst 0, 1) := by decide +kernel
theorem dX8_hasResults_3 : decode cX8_hasResults 3 = .ok (.istore_n 3, 1) := by decide +kernel
theorem dX8_hasResults_4 : decode cX8_hasResults 4 = .ok (.iload_n 3, 1) := by decide +kernel
theorem dX8_hasResults_5 : decode cX8_hasResults 5 = .ok (.aload_n 0, 1) := by decide +kernel
theorem dX8_hasResults_6 : decode cX8_hasResults 6 = .ok (.getfield 56, 3) := by decide +kernel
theorem dX8_hasResults_9 : decode cX8_hasResults 9 = .ok (.iload_n 1, 1) := by decide +kernel
theorem dX8_hasResults_10 : decode cX8_hasResults 10 = .ok (.iaload, 1) := by decide +kernel
theorem dX8_hasResults_11 : decode cX8_hasResults 11 = .ok (.if_icmp .ge 33, 3) := by decide +kernel
theorem dX8_hasResults_14 : decode cX8_hasResults 14 = .ok (.iload_n 2, 1) := by decide +kernel
theorem dX8_hasResults_15 : decode cX8_hasResults 15 = .ok (.ifCond .ne 17, 3) := by decide +kernel
theorem dX8_hasResults_18 : decode cX8_hasResults 18 = .ok (.aload_n 0, 1) := by decide +kernel
theorem dX8_hasResults_19 : decode cX8_hasResults 19 = .ok (.getfield 68, 3) := by decide +kernel
theorem dX8_hasResults_22 : decode cX8_hasResults 22 = .ok (.bipush 16, 2) := by decide +kernel
theorem dX8_hasResults_24 : decode cX8_hasResults 24 = .ok (.iload_n 1, 1) := by decide +kernel
theorem dX8_hasResults_25 : decode cX8_hasResults 25 = .ok (.imul, 1) := by decide +kernel
theorem dX8_hasResults_26 : decode cX8_hasResults 26 = .ok (.iload_n 3, 1) := by decide +kernel
theorem dX8_hasResults_27 : decode cX8_hasResults 27 = .ok (.iadd, 1) := by decide +kernel
theorem dX8_hasResults_28 : decode cX8_hasResults 28 = .ok (.baload, 1) := by decide +kernel
theorem dX8_hasResults_29 : decode cX8_hasResults 29 = .ok (.ifCond .eq 7, 3) := by decide +kernel
theorem dX8_hasResults_32 : decode cX8_hasResults 32 = .ok (.iconst 1, 1) := by decide +kernel
theorem dX8_hasResults_33 : decode cX8_hasResults 33 = .ok (.goto 4, 3) := by decide +kernel
theorem dX8_hasResults_36 : decode cX8_hasResults 36 = .ok (.iconst 0, 1) := by decide +kernel
theorem dX8_hasResults_37 : decode cX8_hasResults 37 = .ok (.istore_n 2, 1) := by decide +kernel
theorem dX8_hasResults_38 : decode cX8_hasResults 38 = .ok (.iinc 3 1, 3) := by decide +kernel
theorem dX8_hasResults_41 : decode cX8_hasResults 41 = .ok (.goto (-37), 3) := by decide +kernel
theorem dX8_hasResults_44 : decode cX8_hasResults 44 = .ok (.iload_n 2, 1) := by decide +kernel
theorem dX8_hasResults_45 : decode cX8_hasResults 45 = .ok (.ireturn, 1) := by decide +kernel
theorem dX8_add_0 : decode cX8_add 0 = .ok (.aload_n 0, 1) := by decide +kernel
theorem dX8_add_1 : decode cX8_add 1 = .ok (.getfield 56, 3) := by decide +kernel
theorem dX8_add_4 : decode cX8_add 4 = .ok (.iload_n 1, 1) := by decide +kernel
theorem dX8_add_5 : decode cX8_add 5 = .ok (.iaload, 1) := by decide +kernel
theorem dX8_add_6 : decode cX8_add 6 = .ok (.bipush 16, 2) := by decide +kernel
theorem dX8_add_8 : decode cX8_add 8 = .ok (.if_icmp .ne 6, 3) := by decide +kernel
theorem dX8_add_11 : decode cX8_add 11 = .ok (.bipush (-104), 2) := by decide +kernel
theorem dX8_add_13 : decode cX8_add 13 = .ok (.ireturn, 1) := by decide +kernel
theorem dX8_add_14 : decode cX8_add 14 = .ok (.bipush 16, 2) := by decide +kernel
theorem dX8_add_16 : decode cX8_add 16 = .ok (.iload_n 1, 1) := by decide +kernel
theorem dX8_add_17 : decode cX8_add 17 = .ok (.imul, 1) := by decide +kernel
theorem dX8_add_18 : decode cX8_add 18 = .ok (.aload_n 0, 1) := by decide +kernel
theorem dX8_add_19 : decode cX8_add 19 = .ok (.getfield 56, 3) := by decide +kernel
theorem dX8_add_22 : decode cX8_add 22 = .ok (.iload_n 1, 1) := by decide +kernel
theorem dX8_add_23 : decode cX8_add 23 = .ok (.iaload, 1) := by decide +kernel
theorem dX8_add_24 : decode cX8_add 24 = .ok (.iadd, 1) := by decide +kernel
theorem dX8_add_25 : decode cX8_add 25 = .ok (.istore 5, 2) := by decide +kernel
theorem dX8_add_27 : decode cX8_add 27 = .ok (.aload_n 0, 1) := by decide +kernel
theorem dX8_add_28 : decode cX8_add 28 = .ok (.getfield 59, 3) := by decide +kernel
theorem dX8_add_31 : decode cX8_add 31 = .ok (.iload 5, 2) := by decide +kernel
theorem dX8_add_33 : decode cX8_add 33 = .ok (.iload_n 2, 1) := by decide +kernel
theorem dX8_add_34 : decode cX8_add 34 = .ok (.iastore, 1) := by decide +kernel
theorem dX8_add_35 : decode cX8_add 35 = .ok (.aload_n 0, 1) := by decide +kernel
theorem dX8_add_36 : decode cX8_add 36 = .ok (.getfield 62, 3) := by decide +kernel
theorem dX8_add_39 : decode cX8_add 39 = .ok (.iload 5, 2) := by decide +kernel
theorem dX8_add_41 : decode cX8_add 41 = .ok (.iload_n 3, 1) := by decide +kernel
theorem dX8_add_42 : decode cX8_add 42 = .ok (.iastore, 1) := by decide +kernel
theorem dX8_add_43 : decode cX8_add 43 = .ok (.aload_n 0, 1) := by decide +kernel
theorem dX8_add_44 : decode cX8_add 44 = .ok (.getfield 65, 3) := by decide +kernel
theorem dX8_add_47 : decode cX8_add 47 = .ok (.iload 5, 2) := by decide +kernel
theorem dX8_add_49 : decode cX8_add 49 = .ok (.iload 4, 2) := by decide +kernel
theorem dX8_add_51 : decode cX8_add 51 = .ok (.iastore, 1) := by decide +kernel
theorem dX8_add_52 : decode cX8_add 52 = .ok (.aload_n 0, 1) := by decide +kernel
theorem dX8_add_53 : decode cX8_add 53 = .ok (.getfield 56, 3) := by decide +kernel
theorem dX8_add_56 : decode cX8_add 56 = .ok (.iload_n 1, 1) := by decide +kernel
theorem dX8_add_57 : decode cX8_add 57 = .ok (.dup2, 1) := by decide +kernel
theorem dX8_add_58 : decode cX8_add 58 = .ok (.iaload, 1) := by decide +kernel
theorem dX8_add_59 : decode cX8_add 59 = .ok (.iconst 1, 1) := by decide +kernel
theorem dX8_add_60 : decode cX8_add 60 = .ok (.iadd, 1) := by decide +kernel
theorem dX8_add_61 : decode cX8_add 61 = .ok (.iastore, 1) := by decide +kernel
theorem dX8_add_62 : decode cX8_add 62 = .ok (.aload_n 0, 1) := by decide +kernel
theorem dX8_add_63 : decode cX8_add 63 = .ok (.getfield 56, 3) := by decide +kernel
theorem dX8_add_66 : decode cX8_add 66 = .ok (.iload_n 1, 1) := by decide +kernel
theorem dX8_add_67 : decode cX8_add 67 = .ok (.iaload, 1) := by decide +kernel
theorem dX8_add_68 : decode cX8_add 68 = .ok (.iconst 1, 1) := by decide +kernel
theorem dX8_add_69 : decode cX8_add 69 = .ok (.isub, 1) := by decide +kernel
theorem dX8_add_70 : decode cX8_add 70 = .ok (.ireturn, 1) := by decide +kernel
theorem dX8_placeOf_0 : decode cX8_placeOf 0 = .ok (.iconst 0, 1) := by decide +kernel
theorem dX8_placeOf_1 : decode cX8_placeOf 1 = .ok (.istore_n 3, 1) := by decide +kernel
theorem dX8_placeOf_2 : decode cX8_placeOf 2 = .ok (.iload_n 3, 1) := by decide +kernel
theorem dX8_placeOf_3 : decode cX8_placeOf 3 = .ok (.aload_n 0, 1) := by decide +kernel
theorem dX8_placeOf_4 : decode cX8_placeOf 4 = .ok (.getfield 56, 3) := by decide +kernel
theorem dX8_placeOf_7 : decode cX8_placeOf 7 = .ok (.iload_n 1, 1) := by decide +kernel
theorem dX8_placeOf_8 : decode cX8_placeOf 8 = .ok (.iaload, 1) := by decide +kernel
theorem dX8_placeOf_9 : decode cX8_placeOf 9 = .ok (.if_icmp .ge 40, 3) := by decide +kernel
theorem dX8_placeOf_12 : decode cX8_placeOf 12 = .ok (.aload_n 0, 1) := by decide +kernel
theorem dX8_placeOf_13 : decode cX8_placeOf 13 = .ok (.getfield 59, 3) := by decide +kernel
theorem dX8_placeOf_16 : decode cX8_placeOf 16 = .ok (.bipush 16, 2) := by decide +kernel
theorem dX8_placeOf_18 : decode cX8_placeOf 18 = .ok (.iload_n 1, 1) := by decide +kernel
theorem dX8_placeOf_19 : decode cX8_placeOf 19 = .ok (.imul, 1) := by decide +kernel
theorem dX8_placeOf_20 : decode cX8_placeOf 20 = .ok (.iload_n 3, 1) := by decide +kernel
theorem dX8_placeOf_21 : decode cX8_placeOf 21 = .ok (.iadd, 1) := by decide +kernel
theorem dX8_placeOf_22 : decode cX8_placeOf 22 = .ok (.iaload, 1) := by decide +kernel
theorem dX8_placeOf_23 : decode cX8_placeOf 23 = .ok (.ifCond .ne 20, 3) := by decide +kernel
theorem dX8_placeOf_26 : decode cX8_placeOf 26 = .ok (.aload_n 0, 1) := by decide +kernel
theorem dX8_placeOf_27 : decode cX8_placeOf 27 = .ok (.getfield 62, 3) := by decide +kernel
theorem dX8_placeOf_30 : decode cX8_placeOf 30 = .ok (.bipush 16, 2) := by decide +kernel
theorem dX8_placeOf_32 : decode cX8_placeOf 32 = .ok (.iload_n 1, 1) := by decide +kernel
theorem dX8_placeOf_33 : decode cX8_placeOf 33 = .ok (.imul, 1) := by decide +kernel
theorem dX8_placeOf_34 : decode cX8_placeOf 34 = .ok (.iload_n 3, 1) := by decide +kernel
theorem dX8_placeOf_35 : decode cX8_placeOf 35 = .ok (.iadd, 1) := by decide +kernel
theorem dX8_placeOf_36 : decode cX8_placeOf 36 = .ok (.iaload, 1) := by decide +kernel
theorem dX8_placeOf_37 : decode cX8_placeOf 37 = .ok (.iload_n 2, 1) := by decide +kernel
theorem dX8_placeOf_38 : decode cX8_placeOf 38 = .ok (.if_icmp .ne 5, 3) := by decide +kernel
theorem dX8_placeOf_41 : decode cX8_placeOf 41 = .ok (.iload_n 3, 1) := by decide +kernel
theorem dX8_placeOf_42 : decode cX8_placeOf 42 = .ok (.ireturn, 1) := by decide +kernel
theorem dX8_placeOf_43 : decode cX8_placeOf 43 = .ok (.iinc 3 1, 3) := by decide +kernel
theorem dX8_placeOf_46 : decode cX8_placeOf 46 = .ok (.goto (-44), 3) := by decide +kernel
theorem dX8_placeOf_49 : decode cX8_placeOf 49 = .ok (.iconst (-1), 1) := by decide +kernel
theorem dX8_placeOf_50 : decode cX8_placeOf 50 = .ok (.ireturn, 1) := by decide +kernel
theorem dX8_quarter_0 : decode cX8_quarter 0 = .ok (.iload_n 2, 1) := by decide +kernel
theorem dX8_quarter_1 : decode cX8_quarter 1 = .ok (.ifCond .lt 23, 3) := by decide +kernel
theorem dX8_quarter_4 : decode cX8_quarter 4 = .ok (.aload_n 0, 1) := by decide +kernel
theorem dX8_quarter_5 : decode cX8_quarter 5 = .ok (.getfield 53, 3) := by decide +kernel
theorem dX8_quarter_8 : decode cX8_quarter 8 = .ok (.iload_n 1, 1) := by decide +kernel
theorem dX8_quarter_9 : decode cX8_quarter 9 = .ok (.dup2, 1) := by decide +kernel
theorem dX8_quarter_10 : decode cX8_quarter 10 = .ok (.iaload, 1) := by decide +kernel
theorem dX8_quarter_11 : decode cX8_quarter 11 = .ok (.iconst 1, 1) := by decide +kernel
theorem dX8_quarter_12 : decode cX8_quarter 12 = .ok (.isub, 1) := by decide +kernel
theorem dX8_quarter_13 : decode cX8_quarter 13 = .ok (.iastore, 1) := by decide +kernel
theorem dX8_quarter_14 : decode cX8_quarter 14 = .ok (.aload_n 0, 1) := by decide +kernel
theorem dX8_quarter_15 : decode cX8_quarter 15 = .ok (.dup, 1) := by decide +kernel
theorem dX8_quarter_16 : decode cX8_quarter 16 = .ok (.getfield 142, 3) := by decide +kernel
theorem dX8_quarter_19 : decode cX8_quarter 19 = .ok (.iconst 1, 1) := by decide +kernel
theorem dX8_quarter_20 : decode cX8_quarter 20 = .ok (.iadd, 1) := by decide +kernel
theorem dX8_quarter_21 : decode cX8_quarter 21 = .ok (.putfield 142, 3) := by decide +kernel
theorem dX8_quarter_24 : decode cX8_quarter 24 = .ok (.iload_n 2, 1) := by decide +kernel
theorem dX8_quarter_25 : decode cX8_quarter 25 = .ok (.ireturn, 1) := by decide +kernel
set_option maxRecDepth 20000 in
theorem ggX8_put_X8_isBatch : GoodIn wsX8_put wsX8_isBatch := goodIn_r _ [6, 7, 8, 9, 5, 10, 38, 39, 40, 41, 42, 43, 44, 45, 46, 47, 48, 49, 50, 51, 52, 53, 54, 55, 56, 57, 58, 59, 60, 61, 62, 63, 64] (by decide +kernel) (by decide +kernel)
set_option maxRecDepth 20000 in
theorem gX8_put_X8_isBatch : GoodIn wsX8_put (wsV RX8 136 RX8 yX8_isBatch wsX8_isBatch) := goodIn_app (goodIn_of _ (by decide +kernel)) ggX8_put_X8_isBatch
set_option maxRecDepth 20000 in
theorem ggX8_put_X8_isSample : GoodIn wsX8_put wsX8_isSample := goodIn_r _ [14, 15, 8, 9, 5, 10, 38, 39, 40, 41, 42, 43, 44, 45, 46, 47, 48, 49, 50, 51, 52, 53, 54, 55, 56, 57, 58, 59, 60, 61, 62, 63, 64] (by decide +kernel) (by decide +kernel)
set_option maxRecDepth 20000 in
theorem gX8_put_X8_isSample : GoodIn wsX8_put (wsV RX8 139 RX8 yX8_isSample wsX8_isSample) := goodIn_app (goodIn_of _ (by decide +kernel)) ggX8_put_X8_isSample
set_option maxRecDepth 20000 in
theorem ggX8_put_X8_hasResults : GoodIn wsX8_put wsX8_hasResults := goodIn_r _ [19, 20, 21, 38, 39, 40, 41, 42, 43, 44, 45, 46, 47, 48, 49, 50, 51, 52, 53, 54, 55, 56, 57, 58, 59, 60, 61, 62, 63, 64] (by decide +kernel) (by decide +kernel)
set_option maxRecDepth 20000 in
theorem gX8_put_X8_hasResults : GoodIn wsX8_put (wsV RX8 145 RX8 yX8_hasResults wsX8_hasResults) := goodIn_app (goodIn_of _ (by decide +kernel)) ggX8_put_X8_hasResults
set_option maxRecDepth 20000 in
theorem ggX8_put_X8_placeOf : GoodIn wsX8_put wsX8_placeOf := goodIn_r _ [25, 20, 26, 27, 38, 39, 40, 41, 42, 43, 44, 45, 46, 47, 48, 49, 50, 51, 52, 53, 54, 55, 56, 57, 58, 59, 60, 61, 62, 63, 64] (by decide +kernel) (by decide +kernel)
set_option maxRecDepth 20000 in
theorem gX8_put_X8_placeOf : GoodIn wsX8_put (wsV RX8 148 RX8 yX8_placeOf wsX8_placeOf) := goodIn_app (goodIn_of _ (by decide +kernel)) ggX8_put_X8_placeOf
set_option maxRecDepth 20000 in
theorem ggX8_put_X8_add : GoodIn wsX8_put wsX8_add := goodIn_r _ [31, 20, 26, 27, 32, 38, 39, 40, 41, 42, 43, 44, 45, 46, 47, 48, 49, 50, 51, 52, 53, 54, 55, 56, 57, 58, 59, 60, 61, 62, 63, 64] (by decide +kernel) (by decide +kernel)
set_option maxRecDepth 20000 in
theorem gX8_put_X8_add : GoodIn wsX8_put (wsV RX8 151 RX8 yX8_add wsX8_add) := goodIn_app (goodIn_of _ (by decide +kernel)) ggX8_put_X8_add
set_option maxRecDepth 20000 in
theorem ggX8_put_X8_quarter : GoodIn wsX8_put wsX8_quarter := goodIn_r _ [36, 1, 37, 38, 39, 40, 41, 42, 43, 44, 45, 46, 47, 48, 49, 50, 51, 52, 53, 54, 55, 56, 57, 58, 59, 60, 61, 62, 63, 64] (by decide +kernel) (by decide +kernel)
set_option maxRecDepth 20000 in
theorem gX8_put_X8_quarter : GoodIn wsX8_put (wsV RX8 154 RX8 yX8_quarter wsX8_quarter) := goodIn_app (goodIn_of _ (by decide +kernel)) ggX8_put_X8_quarter
theorem dX8_put_0 : decode cX8_put 0 = .ok (.aload_n 0, 1) := by decide +kernel
theorem dX8_put_1 : decode cX8_put 1 = .ok (.iload_n 1, 1) := by decide +kernel
theorem dX8_put_2 : decode cX8_put 2 = .ok (.invokevirtual 136, 3) := by decide +kernel
theorem dX8_put_5 : decode cX8_put 5 = .ok (.ifCond .eq 11, 3) := by decide +kernel
theorem dX8_put_8 : decode cX8_put 8 = .ok (.aload_n 0, 1) := by decide +kernel
theorem dX8_put_9 : decode cX8_put 9 = .ok (.iload_n 2, 1) := by decide +kernel
theorem dX8_put_10 : decode cX8_put 10 = .ok (.invokevirtual 139, 3) := by decide +kernel
theorem dX8_put_13 : decode cX8_put 13 = .ok (.ifCond .ne 6, 3) := by decide +kernel
theorem dX8_put_16 : decode cX8_put 16 = .ok (.bipush (-101), 2) := by decide +kernel
theorem dX8_put_18 : decode cX8_put 18 = .ok (.ireturn, 1) := by decide +kernel
theorem dX8_put_19 : decode cX8_put 19 = .ok (.aload_n 0, 1) := by decide +kernel
theorem dX8_put_20 : decode cX8_put 20 = .ok (.getfield 53, 3) := by decide +kernel
theorem dX8_put_23 : decode cX8_put 23 = .ok (.iload_n 2, 1) := by decide +kernel
theorem dX8_put_24 : decode cX8_put 24 = .ok (.iaload, 1) := by decide +kernel
theorem dX8_put_25 : decode cX8_put 25 = .ok (.ifCond .eq 21, 3) := by decide +kernel
theorem dX8_put_28 : decode cX8_put 28 = .ok (.aload_n 0, 1) := by decide +kernel
theorem dX8_put_29 : decode cX8_put 29 = .ok (.iload_n 1, 1) := by decide +kernel
theorem dX8_put_30 : decode cX8_put 30 = .ok (.invokevirtual 145, 3) := by decide +kernel
theorem dX8_put_33 : decode cX8_put 33 = .ok (.ifCond .ne 13, 3) := by decide +kernel
theorem dX8_put_36 : decode cX8_put 36 = .ok (.aload_n 0, 1) := by decide +kernel
theorem dX8_put_37 : decode cX8_put 37 = .ok (.iload_n 1, 1) := by decide +kernel
theorem dX8_put_38 : decode cX8_put 38 = .ok (.iload_n 2, 1) := by decide +kernel
theorem dX8_put_39 : decode cX8_put 39 = .ok (.invokevirtual 148, 3) := by decide +kernel
theorem dX8_put_42 : decode cX8_put 42 = .ok (.iconst (-1), 1) := by decide +kernel
theorem dX8_put_43 : decode cX8_put 43 = .ok (.if_icmp .eq 6, 3) := by decide +kernel
theorem dX8_put_46 : decode cX8_put 46 = .ok (.bipush (-103), 2) := by decide +kernel
theorem dX8_put_48 : decode cX8_put 48 = .ok (.ireturn, 1) := by decide +kernel
theorem dX8_put_49 : decode cX8_put 49 = .ok (.aload_n 0, 1) := by decide +kernel
theorem dX8_put_50 : decode cX8_put 50 = .ok (.iload_n 2, 1) := by decide +kernel
theorem dX8_put_51 : decode cX8_put 51 = .ok (.aload_n 0, 1) := by decide +kernel
theorem dX8_put_52 : decode cX8_put 52 = .ok (.iload_n 1, 1) := by decide +kernel
theorem dX8_put_53 : decode cX8_put 53 = .ok (.iconst 0, 1) := by decide +kernel
theorem dX8_put_54 : decode cX8_put 54 = .ok (.iload_n 2, 1) := by decide +kernel
theorem dX8_put_55 : decode cX8_put 55 = .ok (.iconst 0, 1) := by decide +kernel
theorem dX8_put_56 : decode cX8_put 56 = .ok (.invokevirtual 151, 3) := by decide +kernel
theorem dX8_put_59 : decode cX8_put 59 = .ok (.invokevirtual 154, 3) := by decide +kernel
theorem dX8_put_62 : decode cX8_put 62 = .ok (.ireturn, 1) := by decide +kernel
set_option maxRecDepth 20000 in
theorem ggX8_standard_X8_isBatch : GoodIn wsX8_standard wsX8_isBatch := goodIn_r _ [7, 8, 9, 10, 6, 11, 25, 26, 27, 28, 29, 30, 31, 32, 33, 34, 35, 36, 37, 38, 39, 40, 41, 42, 43, 44, 45, 46, 47, 48, 49, 50, 51] (by decide +kernel) (by decide +kernel)
set_option maxRecDepth 20000 in
theorem gX8_standard_X8_isBatch : GoodIn wsX8_standard (wsV RX8 136 RX8 yX8_isBatch wsX8_isBatch) := goodIn_app (goodIn_of _ (by decide +kernel)) ggX8_standard_X8_isBatch
set_option maxRecDepth 20000 in
theorem ggX8_standard_X8_in : GoodIn wsX8_standard wsX8_in := goodIn_r _ [11] (by decide +kernel) (by decide +kernel)
set_option maxRecDepth 20000 in
theorem gX8_standard_X8_in : GoodIn wsX8_standard (va_wsS RX8 84 yX8_in wsX8_in) := goodIn_app (goodIn_of _ (by decide +kernel)) ggX8_standard_X8_in
set_option maxRecDepth 20000 in
theorem ggX8_standard_X8_hasResults : GoodIn wsX8_standard wsX8_hasResults := goodIn_r _ [15, 16, 17, 25, 26, 27, 28, 29, 30, 31, 32, 33, 34, 35, 36, 37, 38, 39, 40, 41, 42, 43, 44, 45, 46, 47, 48, 49, 50, 51] (by decide +kernel) (by decide +kernel)
set_option maxRecDepth 20000 in
theorem gX8_standard_X8_hasResults : GoodIn wsX8_standard (wsV RX8 145 RX8 yX8_hasResults wsX8_hasResults) := goodIn_app (goodIn_of _ (by decide +kernel)) ggX8_standard_X8_hasResults
set_option maxRecDepth 20000 in
theorem ggX8_standard_X8_add : GoodIn wsX8_standard wsX8_add := goodIn_r _ [21, 16, 22, 23, 24, 25, 26, 27, 28, 29, 30, 31, 32, 33, 34, 35, 36, 37, 38, 39, 40, 41, 42, 43, 44, 45, 46, 47, 48, 49, 50, 51] (by decide +kernel) (by decide +kernel)
set_option maxRecDepth 20000 in
theorem gX8_standard_X8_add : GoodIn wsX8_standard (wsV RX8 151 RX8 yX8_add wsX8_add) := goodIn_app (goodIn_of _ (by decide +kernel)) ggX8_standard_X8_add
theorem dX8_standard_0 : decode cX8_standard 0 = .ok (.aload_n 0, 1) := by decide +kernel
theorem dX8_standard_1 : decode cX8_standard 1 = .ok (.iload_n 1, 1) := by decide +kernel
theorem dX8_standard_2 : decode cX8_standard 2 = .ok (.invokevirtual 136, 3) := by decide +kernel
theorem dX8_standard_5 : decode cX8_standard 5 = .ok (.ifCond .ne 6, 3) := by decide +kernel
theorem dX8_standard_8 : decode cX8_standard 8 = .ok (.bipush (-101), 2) := by decide +kernel
theorem dX8_standard_10 : decode cX8_standard 10 = .ok (.ireturn, 1) := by decide +kernel
theorem dX8_standard_11 : decode cX8_standard 11 = .ok (.iload_n 2, 1) := by decide +kernel
theorem dX8_standard_12 : decode cX8_standard 12 = .ok (.i2l, 1) := by decide +kernel
theorem dX8_standard_13 : decode cX8_standard 13 = .ok (.lconst 0, 1) := by decide +kernel
theorem dX8_standard_14 : decode cX8_standard 14 = .ok (.ldc2_w 116, 3) := by decide +kernel
theorem dX8_standard_17 : decode cX8_standard 17 = .ok (.invokestatic 84, 3) := by decide +kernel
theorem dX8_standard_20 : decode cX8_standard 20 = .ok (.ifCond .eq 15, 3) := by decide +kernel
theorem dX8_standard_23 : decode cX8_standard 23 = .ok (.iload_n 3, 1) := by decide +kernel
theorem dX8_standard_24 : decode cX8_standard 24 = .ok (.i2l, 1) := by decide +kernel
theorem dX8_standard_25 : decode cX8_standard 25 = .ok (.lconst 0, 1) := by decide +kernel
theorem dX8_standard_26 : decode cX8_standard 26 = .ok (.ldc2_w 157, 3) := by decide +kernel
theorem dX8_standard_29 : decode cX8_standard 29 = .ok (.invokestatic 84, 3) := by decide +kernel
theorem dX8_standard_32 : decode cX8_standard 32 = .ok (.ifCond .ne 6, 3) := by decide +kernel
theorem dX8_standard_35 : decode cX8_standard 35 = .ok (.bipush (-102), 2) := by decide +kernel
theorem dX8_standard_37 : decode cX8_standard 37 = .ok (.ireturn, 1) := by decide +kernel
theorem dX8_standard_38 : decode cX8_standard 38 = .ok (.aload_n 0, 1) := by decide +kernel
theorem dX8_standard_39 : decode cX8_standard 39 = .ok (.iload_n 1, 1) := by decide +kernel
theorem dX8_standard_40 : decode cX8_standard 40 = .ok (.invokevirtual 145, 3) := by decide +kernel
theorem dX8_standard_43 : decode cX8_standard 43 = .ok (.ifCond .eq 8, 3) := by decide +kernel
theorem dX8_standard_46 : decode cX8_standard 46 = .ok (.bipush (-103), 2) := by decide +kernel
theorem dX8_standard_48 : decode cX8_standard 48 = .ok (.goto 11, 3) := by decide +kernel
theorem dX8_standard_51 : decode cX8_standard 51 = .ok (.aload_n 0, 1) := by decide +kernel
theorem dX8_standard_52 : decode cX8_standard 52 = .ok (.iload_n 1, 1) := by decide +kernel
theorem dX8_standard_53 : decode cX8_standard 53 = .ok (.iconst 1, 1) := by decide +kernel
theorem dX8_standard_54 : decode cX8_standard 54 = .ok (.iload_n 2, 1) := by decide +kernel
theorem dX8_standard_55 : decode cX8_standard 55 = .ok (.iload_n 3, 1) := by decide +kernel
theorem dX8_standard_56 : decode cX8_standard 56 = .ok (.invokevirtual 151, 3) := by decide +kernel
theorem dX8_standard_59 : decode cX8_standard 59 = .ok (.ireturn, 1) := by decide +kernel
set_option maxRecDepth 20000 in
theorem ggX8_blank_X8_isBatch : GoodIn wsX8_blank wsX8_isBatch := goodIn_r _ [5, 6, 7, 8, 4, 9, 23, 24, 25, 26, 27, 28, 29, 30, 31, 32, 33, 34, 35, 36, 37, 38, 39, 40, 41, 42, 43, 44, 45, 46, 47, 48, 49] (by decide +kernel) (by decide +kernel)
set_option maxRecDepth 20000 in
theorem gX8_blank_X8_isBatch : GoodIn wsX8_blank (wsV RX8 136 RX8 yX8_isBatch wsX8_isBatch) := goodIn_app (goodIn_of _ (by decide +kernel)) ggX8_blank_X8_isBatch
set_option maxRecDepth 20000 in
theorem ggX8_blank_X8_hasResults : GoodIn wsX8_blank wsX8_hasResults := goodIn_r _ [13, 14, 15, 23, 24, 25, 26, 27, 28, 29, 30, 31, 32, 33, 34, 35, 36, 37, 38, 39, 40, 41, 42, 43, 44, 45, 46, 47, 48, 49] (by decide +kernel) (by decide +kernel)
set_option maxRecDepth 20000 in
theorem gX8_blank_X8_hasResults : GoodIn wsX8_blank (wsV RX8 145 RX8 yX8_hasResults wsX8_hasResults) := goodIn_app (goodIn_of _ (by decide +kernel)) ggX8_blank_X8_hasResults
set_option maxRecDepth 20000 in
theorem ggX8_blank_X8_add : GoodIn wsX8_blank wsX8_add := goodIn_r _ [19, 14, 20, 21, 22, 23, 24, 25, 26, 27, 28, 29, 30, 31, 32, 33, 34, 35, 36, 37, 38, 39, 40, 41, 42, 43, 44, 45, 46, 47, 48, 49] (by decide +kernel) (by decide +kernel)
set_option maxRecDepth 20000 in
theorem gX8_blank_X8_add : GoodIn wsX8_blank (wsV RX8 151 RX8 yX8_add wsX8_add) := goodIn_app (goodIn_of _ (by decide +kernel)) ggX8_blank_X8_add
theorem dX8_blank_0 : decode cX8_blank 0 = .ok (.aload_n 0, 1) := by decide +kernel
theorem dX8_blank_1 : decode cX8_blank 1 = .ok (.iload_n 1, 1) := by decide +kernel
theorem dX8_blank_2 : decode cX8_blank 2 = .ok (.invokevirtual 136, 3) := by decide +kernel
theorem dX8_blank_5 : decode cX8_blank 5 = .ok (.ifCond .ne 6, 3) := by decide +kernel
theorem dX8_blank_8 : decode cX8_blank 8 = .ok (.bipush (-101), 2) := by decide +kernel
theorem dX8_blank_10 : decode cX8_blank 10 = .ok (.ireturn, 1) := by decide +kernel
theorem dX8_blank_11 : decode cX8_blank 11 = .ok (.aload_n 0, 1) := by decide +kernel
theorem dX8_blank_12 : decode cX8_blank 12 = .ok (.iload_n 1, 1) := by decide +kernel
theorem dX8_blank_13 : decode cX8_blank 13 = .ok (.invokevirtual 145, 3) := by decide +kernel
theorem dX8_blank_16 : decode cX8_blank 16 = .ok (.ifCond .eq 8, 3) := by decide +kernel
theorem dX8_blank_19 : decode cX8_blank 19 = .ok (.bipush (-103), 2) := by decide +kernel
theorem dX8_blank_21 : decode cX8_blank 21 = .ok (.goto 11, 3) := by decide +kernel
theorem dX8_blank_24 : decode cX8_blank 24 = .ok (.aload_n 0, 1) := by decide +kernel
theorem dX8_blank_25 : decode cX8_blank 25 = .ok (.iload_n 1, 1) := by decide +kernel
theorem dX8_blank_26 : decode cX8_blank 26 = .ok (.iconst 2, 1) := by decide +kernel
theorem dX8_blank_27 : decode cX8_blank 27 = .ok (.iconst 0, 1) := by decide +kernel
theorem dX8_blank_28 : decode cX8_blank 28 = .ok (.iconst 0, 1) := by decide +kernel
theorem dX8_blank_29 : decode cX8_blank 29 = .ok (.invokevirtual 151, 3) := by decide +kernel
theorem dX8_blank_32 : decode cX8_blank 32 = .ok (.ireturn, 1) := by decide +kernel
set_option maxRecDepth 20000 in
theorem ggX8_twice_X8_isPlace : GoodIn wsX8_twice wsX8_isPlace := goodIn_r _ [8, 9, 10, 11, 12, 7, 13, 14, 15, 16, 17, 33, 34, 35, 36, 37, 38, 39, 40, 41, 42, 43, 44, 45, 46, 47, 48, 49, 50, 51, 52, 53, 54, 55, 56, 57, 58, 59] (by decide +kernel) (by decide +kernel)
set_option maxRecDepth 20000 in
theorem gX8_twice_X8_isPlace : GoodIn wsX8_twice (wsV RX8 159 RX8 yX8_isPlace wsX8_isPlace) := goodIn_app (goodIn_of _ (by decide +kernel)) ggX8_twice_X8_isPlace
set_option maxRecDepth 20000 in
theorem ggX8_twice_X8_hasResults : GoodIn wsX8_twice wsX8_hasResults := goodIn_r _ [21, 9, 22, 33, 34, 35, 36, 37, 38, 39, 40, 41, 42, 43, 44, 45, 46, 47, 48, 49, 50, 51, 52, 53, 54, 55, 56, 57, 58, 59] (by decide +kernel) (by decide +kernel)
set_option maxRecDepth 20000 in
theorem gX8_twice_X8_hasResults : GoodIn wsX8_twice (wsV RX8 145 RX8 yX8_hasResults wsX8_hasResults) := goodIn_app (goodIn_of _ (by decide +kernel)) ggX8_twice_X8_hasResults
set_option maxRecDepth 20000 in
theorem ggX8_twice_X8_add : GoodIn wsX8_twice wsX8_add := goodIn_r _ [26, 9, 1, 2, 27, 33, 34, 35, 36, 37, 38, 39, 40, 41, 42, 43, 44, 45, 46, 47, 48, 49, 50, 51, 52, 53, 54, 55, 56, 57, 58, 59] (by decide +kernel) (by decide +kernel)
set_option maxRecDepth 20000 in
theorem gX8_twice_X8_add : GoodIn wsX8_twice (wsV RX8 151 RX8 yX8_add wsX8_add) := goodIn_app (goodIn_of _ (by decide +kernel)) ggX8_twice_X8_add
set_option maxRecDepth 20000 in
theorem ggX8_twice_X8_quarter : GoodIn wsX8_twice wsX8_quarter := goodIn_r _ [31, 3, 32, 33, 34, 35, 36, 37, 38, 39, 40, 41, 42, 43, 44, 45, 46, 47, 48, 49, 50, 51, 52, 53, 54, 55, 56, 57, 58, 59] (by decide +kernel) (by decide +kernel)
set_option maxRecDepth 20000 in
theorem gX8_twice_X8_quarter : GoodIn wsX8_twice (wsV RX8 154 RX8 yX8_quarter wsX8_quarter) := goodIn_app (goodIn_of _ (by decide +kernel)) ggX8_twice_X8_quarter
theorem dX8_twice_0 : decode cX8_twice 0 = .ok (.aload_n 0, 1) := by decide +kernel
theorem dX8_twice_1 : decode cX8_twice 1 = .ok (.iload_n 1, 1) := by decide +kernel
theorem dX8_twice_2 : decode cX8_twice 2 = .ok (.iload_n 2, 1) := by decide +kernel
theorem dX8_twice_3 : decode cX8_twice 3 = .ok (.invokevirtual 159, 3) := by decide +kernel
theorem dX8_twice_6 : decode cX8_twice 6 = .ok (.ifCond .ne 6, 3) := by decide +kernel
theorem dX8_twice_9 : decode cX8_twice 9 = .ok (.bipush (-101), 2) := by decide +kernel
theorem dX8_twice_11 : decode cX8_twice 11 = .ok (.ireturn, 1) := by decide +kernel
theorem dX8_twice_12 : decode cX8_twice 12 = .ok (.aload_n 0, 1) := by decide +kernel
theorem dX8_twice_13 : decode cX8_twice 13 = .ok (.getfield 59, 3) := by decide +kernel
theorem dX8_twice_16 : decode cX8_twice 16 = .ok (.bipush 16, 2) := by decide +kernel
theorem dX8_twice_18 : decode cX8_twice 18 = .ok (.iload_n 1, 1) := by decide +kernel
theorem dX8_twice_19 : decode cX8_twice 19 = .ok (.imul, 1) := by decide +kernel
theorem dX8_twice_20 : decode cX8_twice 20 = .ok (.iload_n 2, 1) := by decide +kernel
theorem dX8_twice_21 : decode cX8_twice 21 = .ok (.iadd, 1) := by decide +kernel
theorem dX8_twice_22 : decode cX8_twice 22 = .ok (.iaload, 1) := by decide +kernel
theorem dX8_twice_23 : decode cX8_twice 23 = .ok (.ifCond .eq 6, 3) := by decide +kernel
theorem dX8_twice_26 : decode cX8_twice 26 = .ok (.bipush (-102), 2) := by decide +kernel
theorem dX8_twice_28 : decode cX8_twice 28 = .ok (.ireturn, 1) := by decide +kernel
theorem dX8_twice_29 : decode cX8_twice 29 = .ok (.aload_n 0, 1) := by decide +kernel
theorem dX8_twice_30 : decode cX8_twice 30 = .ok (.getfield 62, 3) := by decide +kernel
theorem dX8_twice_33 : decode cX8_twice 33 = .ok (.bipush 16, 2) := by decide +kernel
theorem dX8_twice_35 : decode cX8_twice 35 = .ok (.iload_n 1, 1) := by decide +kernel
theorem dX8_twice_36 : decode cX8_twice 36 = .ok (.imul, 1) := by decide +kernel
theorem dX8_twice_37 : decode cX8_twice 37 = .ok (.iload_n 2, 1) := by decide +kernel
theorem dX8_twice_38 : decode cX8_twice 38 = .ok (.iadd, 1) := by decide +kernel
theorem dX8_twice_39 : decode cX8_twice 39 = .ok (.iaload, 1) := by decide +kernel
theorem dX8_twice_40 : decode cX8_twice 40 = .ok (.istore_n 3, 1) := by decide +kernel
theorem dX8_twice_41 : decode cX8_twice 41 = .ok (.aload_n 0, 1) := by decide +kernel
theorem dX8_twice_42 : decode cX8_twice 42 = .ok (.getfield 53, 3) := by decide +kernel
theorem dX8_twice_45 : decode cX8_twice 45 = .ok (.iload_n 3, 1) := by decide +kernel
theorem dX8_twice_46 : decode cX8_twice 46 = .ok (.iaload, 1) := by decide +kernel
theorem dX8_twice_47 : decode cX8_twice 47 = .ok (.ifCond .eq 11, 3) := by decide +kernel
theorem dX8_twice_50 : decode cX8_twice 50 = .ok (.aload_n 0, 1) := by decide +kernel
theorem dX8_twice_51 : decode cX8_twice 51 = .ok (.iload_n 1, 1) := by decide +kernel
theorem dX8_twice_52 : decode cX8_twice 52 = .ok (.invokevirtual 145, 3) := by decide +kernel
theorem dX8_twice_55 : decode cX8_twice 55 = .ok (.ifCond .eq 6, 3) := by decide +kernel
theorem dX8_twice_58 : decode cX8_twice 58 = .ok (.bipush (-103), 2) := by decide +kernel
theorem dX8_twice_60 : decode cX8_twice 60 = .ok (.ireturn, 1) := by decide +kernel
theorem dX8_twice_61 : decode cX8_twice 61 = .ok (.aload_n 0, 1) := by decide +kernel
theorem dX8_twice_62 : decode cX8_twice 62 = .ok (.iload_n 3, 1) := by decide +kernel
theorem dX8_twice_63 : decode cX8_twice 63 = .ok (.aload_n 0, 1) := by decide +kernel
theorem dX8_twice_64 : decode cX8_twice 64 = .ok (.iload_n 1, 1) := by decide +kernel
theorem dX8_twice_65 : decode cX8_twice 65 = .ok (.iconst 3, 1) := by decide +kernel
theorem dX8_twice_66 : decode cX8_twice 66 = .ok (.iload_n 2, 1) := by decide +kernel
theorem dX8_twice_67 : decode cX8_twice 67 = .ok (.iconst 0, 1) := by decide +kernel
theorem dX8_twice_68 : decode cX8_twice 68 = .ok (.invokevirtual 151, 3) := by decide +kernel
theorem dX8_twice_71 : decode cX8_twice 71 = .ok (.invokevirtual 154, 3) := by decide +kernel
theorem dX8_twice_74 : decode cX8_twice 74 = .ok (.ireturn, 1) := by decide +kernel
set_option maxRecDepth 20000 in
theorem ggX8_law_X8_in : GoodIn wsX8_law wsX8_in := goodIn_r _ [6] (by decide +kernel) (by decide +kernel)
set_option maxRecDepth 20000 in
theorem gX8_law_X8_in : GoodIn wsX8_law (va_wsS RX8 84 yX8_in wsX8_in) := goodIn_app (goodIn_of _ (by decide +kernel)) ggX8_law_X8_in
theorem dX8_law_0 : decode cX8_law 0 = .ok (.iload_n 1, 1) := by decide +kernel
theorem dX8_law_1 : decode cX8_law 1 = .ok (.i2l, 1) := by decide +kernel
theorem dX8_law_2 : decode cX8_law 2 = .ok (.lconst 0, 1) := by decide +kernel
theorem dX8_law_3 : decode cX8_law 3 = .ok (.lconst 1, 1) := by decide +kernel
theorem dX8_law_4 : decode cX8_law 4 = .ok (.invokestatic 84, 3) := by decide +kernel
theorem dX8_law_7 : decode cX8_law 7 = .ok (.ifCond .ne 6, 3) := by decide +kernel
theorem dX8_law_10 : decode cX8_law 10 = .ok (.bipush (-101), 2) := by decide +kernel
theorem dX8_law_12 : decode cX8_law 12 = .ok (.ireturn, 1) := by decide +kernel
theorem dX8_law_13 : decode cX8_law 13 = .ok (.iload_n 2, 1) := by decide +kernel
theorem dX8_law_14 : decode cX8_law 14 = .ok (.i2l, 1) := by decide +kernel
theorem dX8_law_15 : decode cX8_law 15 = .ok (.lconst 0, 1) := by decide +kernel
theorem dX8_law_16 : decode cX8_law 16 = .ok (.ldc2_w 95, 3) := by decide +kernel
theorem dX8_law_19 : decode cX8_law 19 = .ok (.invokestatic 84, 3) := by decide +kernel
theorem dX8_law_22 : decode cX8_law 22 = .ok (.ifCond .ne 6, 3) := by decide +kernel
theorem dX8_law_25 : decode cX8_law 25 = .ok (.bipush (-102), 2) := by decide +kernel
theorem dX8_law_27 : decode cX8_law 27 = .ok (.ireturn, 1) := by decide +kernel
theorem dX8_law_28 : decode cX8_law 28 = .ok (.aload_n 0, 1) := by decide +kernel
theorem dX8_law_29 : decode cX8_law 29 = .ok (.getfield 74, 3) := by decide +kernel
theorem dX8_law_32 : decode cX8_law 32 = .ok (.iload_n 1, 1) := by decide +kernel
theorem dX8_law_33 : decode cX8_law 33 = .ok (.iaload, 1) := by decide +kernel
theorem dX8_law_34 : decode cX8_law 34 = .ok (.istore_n 3, 1) := by decide +kernel
theorem dX8_law_35 : decode cX8_law 35 = .ok (.aload_n 0, 1) := by decide +kernel
theorem dX8_law_36 : decode cX8_law 36 = .ok (.getfield 74, 3) := by decide +kernel
theorem dX8_law_39 : decode cX8_law 39 = .ok (.iload_n 1, 1) := by decide +kernel
theorem dX8_law_40 : decode cX8_law 40 = .ok (.iload_n 2, 1) := by decide +kernel
theorem dX8_law_41 : decode cX8_law 41 = .ok (.iastore, 1) := by decide +kernel
theorem dX8_law_42 : decode cX8_law 42 = .ok (.iload_n 3, 1) := by decide +kernel
theorem dX8_law_43 : decode cX8_law 43 = .ok (.ireturn, 1) := by decide +kernel
set_option maxRecDepth 20000 in
theorem ggX8_result_X8_isPlace : GoodIn wsX8_result wsX8_isPlace := goodIn_r _ [9, 10, 11, 12, 13, 8, 14, 15, 16, 17, 18, 19, 20, 21, 22, 23, 24, 25, 26, 27, 28, 29, 30, 31, 32, 33, 34, 35, 36, 37, 38, 39, 40, 41, 42, 43, 44, 45] (by decide +kernel) (by decide +kernel)
set_option maxRecDepth 20000 in
theorem gX8_result_X8_isPlace : GoodIn wsX8_result (wsV RX8 159 RX8 yX8_isPlace wsX8_isPlace) := goodIn_app (goodIn_of _ (by decide +kernel)) ggX8_result_X8_isPlace
set_option maxRecDepth 20000 in
theorem ggX8_result_X8_in : GoodIn wsX8_result wsX8_in := goodIn_r _ [18] (by decide +kernel) (by decide +kernel)
set_option maxRecDepth 20000 in
theorem gX8_result_X8_in : GoodIn wsX8_result (va_wsS RX8 84 yX8_in wsX8_in) := goodIn_app (goodIn_of _ (by decide +kernel)) ggX8_result_X8_in
theorem dX8_result_0 : decode cX8_result 0 = .ok (.aload_n 0, 1) := by decide +kernel
theorem dX8_result_1 : decode cX8_result 1 = .ok (.iload_n 1, 1) := by decide +kernel
theorem dX8_result_2 : decode cX8_result 2 = .ok (.iload_n 2, 1) := by decide +kernel
theorem dX8_result_3 : decode cX8_result 3 = .ok (.invokevirtual 159, 3) := by decide +kernel
theorem dX8_result_6 : decode cX8_result 6 = .ok (.ifCond .ne 6, 3) := by decide +kernel
theorem dX8_result_9 : decode cX8_result 9 = .ok (.bipush (-101), 2) := by decide +kernel
theorem dX8_result_11 : decode cX8_result 11 = .ok (.ireturn, 1) := by decide +kernel
theorem dX8_result_12 : decode cX8_result 12 = .ok (.iload_n 3, 1) := by decide +kernel
theorem dX8_result_13 : decode cX8_result 13 = .ok (.i2l, 1) := by decide +kernel
theorem dX8_result_14 : decode cX8_result 14 = .ok (.ldc2_w 163, 3) := by decide +kernel
theorem dX8_result_17 : decode cX8_result 17 = .ok (.ldc2_w 116, 3) := by decide +kernel
theorem dX8_result_20 : decode cX8_result 20 = .ok (.invokestatic 84, 3) := by decide +kernel
theorem dX8_result_23 : decode cX8_result 23 = .ok (.ifCond .ne 6, 3) := by decide +kernel
theorem dX8_result_26 : decode cX8_result 26 = .ok (.bipush (-102), 2) := by decide +kernel
theorem dX8_result_28 : decode cX8_result 28 = .ok (.ireturn, 1) := by decide +kernel
theorem dX8_result_29 : decode cX8_result 29 = .ok (.aload_n 0, 1) := by decide +kernel
theorem dX8_result_30 : decode cX8_result 30 = .ok (.getfield 71, 3) := by decide +kernel
theorem dX8_result_33 : decode cX8_result 33 = .ok (.bipush 16, 2) := by decide +kernel
theorem dX8_result_35 : decode cX8_result 35 = .ok (.iload_n 1, 1) := by decide +kernel
theorem dX8_result_36 : decode cX8_result 36 = .ok (.imul, 1) := by decide +kernel
theorem dX8_result_37 : decode cX8_result 37 = .ok (.iload_n 2, 1) := by decide +kernel
theorem dX8_result_38 : decode cX8_result 38 = .ok (.iadd, 1) := by decide +kernel
theorem dX8_result_39 : decode cX8_result 39 = .ok (.iload_n 3, 1) := by decide +kernel
theorem dX8_result_40 : decode cX8_result 40 = .ok (.iastore, 1) := by decide +kernel
theorem dX8_result_41 : decode cX8_result 41 = .ok (.aload_n 0, 1) := by decide +kernel
theorem dX8_result_42 : decode cX8_result 42 = .ok (.getfield 68, 3) := by decide +kernel
theorem dX8_result_45 : decode cX8_result 45 = .ok (.bipush 16, 2) := by decide +kernel
theorem dX8_result_47 : decode cX8_result 47 = .ok (.iload_n 1, 1) := by decide +kernel
theorem dX8_result_48 : decode cX8_result 48 = .ok (.imul, 1) := by decide +kernel
theorem dX8_result_49 : decode cX8_result 49 = .ok (.iload_n 2, 1) := by decide +kernel
theorem dX8_result_50 : decode cX8_result 50 = .ok (.iadd, 1) := by decide +kernel
theorem dX8_result_51 : decode cX8_result 51 = .ok (.iconst 1, 1) := by decide +kernel
theorem dX8_result_52 : decode cX8_result 52 = .ok (.bastore, 1) := by decide +kernel
theorem dX8_result_53 : decode cX8_result 53 = .ok (.iconst 1, 1) := by decide +kernel
theorem dX8_result_54 : decode cX8_result 54 = .ok (.ireturn, 1) := by decide +kernel
theorem dX8_lower_0 : decode cX8_lower 0 = .ok (.aload_n 0, 1) := by decide +kernel
theorem dX8_lower_1 : decode cX8_lower 1 = .ok (.getfield 71, 3) := by decide +kernel
theorem dX8_lower_4 : decode cX8_lower 4 = .ok (.iload_n 1, 1) := by decide +kernel
theorem dX8_lower_5 : decode cX8_lower 5 = .ok (.iaload, 1) := by decide +kernel
theorem dX8_lower_6 : decode cX8_lower 6 = .ok (.ifCond .ge 7, 3) := by decide +kernel
theorem dX8_lower_9 : decode cX8_lower 9 = .ok (.iconst 0, 1) := by decide +kernel
theorem dX8_lower_10 : decode cX8_lower 10 = .ok (.goto 9, 3) := by decide +kernel
theorem dX8_lower_13 : decode cX8_lower 13 = .ok (.aload_n 0, 1) := by decide +kernel
theorem dX8_lower_14 : decode cX8_lower 14 = .ok (.getfield 71, 3) := by decide +kernel
theorem dX8_lower_17 : decode cX8_lower 17 = .ok (.iload_n 1, 1) := by decide +kernel
theorem dX8_lower_18 : decode cX8_lower 18 = .ok (.iaload, 1) := by decide +kernel
theorem dX8_lower_19 : decode cX8_lower 19 = .ok (.ireturn, 1) := by decide +kernel
theorem dX8_upper_0 : decode cX8_upper 0 = .ok (.aload_n 0, 1) := by decide +kernel
theorem dX8_upper_1 : decode cX8_upper 1 = .ok (.getfield 71, 3) := by decide +kernel
theorem dX8_upper_4 : decode cX8_upper 4 = .ok (.iload_n 1, 1) := by decide +kernel
theorem dX8_upper_5 : decode cX8_upper 5 = .ok (.iaload, 1) := by decide +kernel
theorem dX8_upper_6 : decode cX8_upper 6 = .ok (.ifCond .ge 15, 3) := by decide +kernel
theorem dX8_upper_9 : decode cX8_upper 9 = .ok (.aload_n 0, 1) := by decide +kernel
theorem dX8_upper_10 : decode cX8_upper 10 = .ok (.getfield 71, 3) := by decide +kernel
theorem dX8_upper_13 : decode cX8_upper 13 = .ok (.iload_n 1, 1) := by decide +kernel
theorem dX8_upper_14 : decode cX8_upper 14 = .ok (.iaload, 1) := by decide +kernel
theorem dX8_upper_15 : decode cX8_upper 15 = .ok (.ineg, 1) := by decide +kernel
theorem dX8_upper_16 : decode cX8_upper 16 = .ok (.iconst 1, 1) := by decide +kernel
theorem dX8_upper_17 : decode cX8_upper 17 = .ok (.isub, 1) := by decide +kernel
theorem dX8_upper_18 : decode cX8_upper 18 = .ok (.goto 9, 3) := by decide +kernel
theorem dX8_upper_21 : decode cX8_upper 21 = .ok (.aload_n 0, 1) := by decide +kernel
theorem dX8_upper_22 : decode cX8_upper 22 = .ok (.getfield 71, 3) := by decide +kernel
theorem dX8_upper_25 : decode cX8_upper 25 = .ok (.iload_n 1, 1) := by decide +kernel
theorem dX8_upper_26 : decode cX8_upper 26 = .ok (.iaload, 1) := by decide +kernel
theorem dX8_upper_27 : decode cX8_upper 27 = .ok (.ireturn, 1) := by decide +kernel
theorem dX8_far_0 : decode cX8_far 0 = .ok (.iload_n 0, 1) := by decide +kernel
theorem dX8_far_1 : decode cX8_far 1 = .ok (.iload_n 1, 1) := by decide +kernel
theorem dX8_far_2 : decode cX8_far 2 = .ok (.if_icmp .ge 9, 3) := by decide +kernel
theorem dX8_far_5 : decode cX8_far 5 = .ok (.iload_n 1, 1) := by decide +kernel
theorem dX8_far_6 : decode cX8_far 6 = .ok (.iload_n 0, 1) := by decide +kernel
theorem dX8_far_7 : decode cX8_far 7 = .ok (.isub, 1) := by decide +kernel
theorem dX8_far_8 : decode cX8_far 8 = .ok (.goto 6, 3) := by decide +kernel
theorem dX8_far_11 : decode cX8_far 11 = .ok (.iload_n 0, 1) := by decide +kernel
theorem dX8_far_12 : decode cX8_far 12 = .ok (.iload_n 1, 1) := by decide +kernel
