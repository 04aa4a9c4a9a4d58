theorem dX7_rock_0 : decode cX7_rock 0 = .ok (.aload_n 0, 1) := by decide +kernel
theorem dX7_rock_1 : decode cX7_rock 1 = .ok (.iload_n 1, 1) := by decide +kernel
theorem dX7_rock_2 : decode cX7_rock 2 = .ok (.iload_n 2, 1) := by decide +kernel
theorem dX7_rock_3 : decode cX7_rock 3 = .ok (.invokevirtual 105, 3) := by decide +kernel
theorem dX7_rock_6 : decode cX7_rock 6 = .ok (.astore 4, 2) := by decide +kernel
theorem dX7_rock_8 : decode cX7_rock 8 = .ok (.aload 4, 2) := by decide +kernel
theorem dX7_rock_10 : decode cX7_rock 10 = .ok (.ifnonnull 6, 3) := by decide +kernel
theorem dX7_rock_13 : decode cX7_rock 13 = .ok (.bipush (-101), 2) := by decide +kernel
theorem dX7_rock_15 : decode cX7_rock 15 = .ok (.ireturn, 1) := by decide +kernel
theorem dX7_rock_16 : decode cX7_rock 16 = .ok (.aload 4, 2) := by decide +kernel
theorem dX7_rock_18 : decode cX7_rock 18 = .ok (.iload_n 3, 1) := by decide +kernel
theorem dX7_rock_19 : decode cX7_rock 19 = .ok (.invokevirtual 123, 3) := by decide +kernel
theorem dX7_rock_22 : decode cX7_rock 22 = .ok (.istore 5, 2) := by decide +kernel
theorem dX7_rock_24 : decode cX7_rock 24 = .ok (.iload 5, 2) := by decide +kernel
theorem dX7_rock_26 : decode cX7_rock 26 = .ok (.iconst (-1), 1) := by decide +kernel
theorem dX7_rock_27 : decode cX7_rock 27 = .ok (.if_icmp .ne 7, 3) := by decide +kernel
theorem dX7_rock_30 : decode cX7_rock 30 = .ok (.iconst (-1), 1) := by decide +kernel
theorem dX7_rock_31 : decode cX7_rock 31 = .ok (.goto 16, 3) := by decide +kernel
theorem dX7_rock_34 : decode cX7_rock 34 = .ok (.aload_n 0, 1) := by decide +kernel
theorem dX7_rock_35 : decode cX7_rock 35 = .ok (.getfield 27, 3) := by decide +kernel
theorem dX7_rock_38 : decode cX7_rock 38 = .ok (.aload 4, 2) := by decide +kernel
theorem dX7_rock_40 : decode cX7_rock 40 = .ok (.getfield 127, 3) := by decide +kernel
theorem dX7_rock_43 : decode cX7_rock 43 = .ok (.iload 5, 2) := by decide +kernel
theorem dX7_rock_45 : decode cX7_rock 45 = .ok (.iaload, 1) := by decide +kernel
theorem dX7_rock_46 : decode cX7_rock 46 = .ok (.iaload, 1) := by decide +kernel
theorem dX7_rock_47 : decode cX7_rock 47 = .ok (.ireturn, 1) := by decide +kernel
set_option maxRecDepth 20000 in
theorem ggX7_agree_X7_holeNamed : GoodIn wsX7_agree wsX7_holeNamed := goodIn_r _ [11, 12, 13, 41, 42, 43, 44, 45, 46, 47, 48, 49, 50, 51] (by decide +kernel) (by decide +kernel)
set_option maxRecDepth 20000 in
theorem gX7_agree_X7_holeNamed : GoodIn wsX7_agree (wsV RX7 56 RX7 yX7_holeNamed wsX7_holeNamed) := goodIn_app (goodIn_of _ (by decide +kernel)) ggX7_agree_X7_holeNamed
set_option maxRecDepth 20000 in
theorem ggX7_agree_X2_top : GoodIn wsX7_agree wsX2_top := goodIn_r _ [18, 19, 38, 39, 40] (by decide +kernel) (by decide +kernel)
set_option maxRecDepth 20000 in
theorem gX7_agree_X2_top : GoodIn wsX7_agree (wsV RX7 137 RX2 yX2_top wsX2_top) := goodIn_app (goodIn_of _ (by decide +kernel)) ggX7_agree_X2_top
set_option maxRecDepth 20000 in
theorem ggX7_agree_X7_unitsInCommon : GoodIn wsX7_agree wsX7_unitsInCommon := goodIn_r _ [22, 23, 24, 25, 26, 27, 28, 29] (by decide +kernel) (by decide +kernel)
set_option maxRecDepth 20000 in
theorem gX7_agree_X7_unitsInCommon : GoodIn wsX7_agree (va_wsS RX7 143 yX7_unitsInCommon wsX7_unitsInCommon) := goodIn_app (goodIn_of _ (by decide +kernel)) ggX7_agree_X7_unitsInCommon
theorem dX7_agree_0 : decode cX7_agree 0 = .ok (.aload_n 0, 1) := by decide +kernel
theorem dX7_agree_1 : decode cX7_agree 1 = .ok (.iload_n 1, 1) := by decide +kernel
theorem dX7_agree_2 : decode cX7_agree 2 = .ok (.invokevirtual 56, 3) := by decide +kernel
theorem dX7_agree_5 : decode cX7_agree 5 = .ok (.astore_n 2, 1) := by decide +kernel
theorem dX7_agree_6 : decode cX7_agree 6 = .ok (.aload_n 2, 1) := by decide +kernel
theorem dX7_agree_7 : decode cX7_agree 7 = .ok (.ifnonnull 6, 3) := by decide +kernel
theorem dX7_agree_10 : decode cX7_agree 10 = .ok (.bipush (-101), 2) := by decide +kernel
theorem dX7_agree_12 : decode cX7_agree 12 = .ok (.ireturn, 1) := by decide +kernel
theorem dX7_agree_13 : decode cX7_agree 13 = .ok (.aload_n 2, 1) := by decide +kernel
theorem dX7_agree_14 : decode cX7_agree 14 = .ok (.getfield 130, 3) := by decide +kernel
theorem dX7_agree_17 : decode cX7_agree 17 = .ok (.astore_n 3, 1) := by decide +kernel
theorem dX7_agree_18 : decode cX7_agree 18 = .ok (.aload_n 2, 1) := by decide +kernel
theorem dX7_agree_19 : decode cX7_agree 19 = .ok (.getfield 134, 3) := by decide +kernel
theorem dX7_agree_22 : decode cX7_agree 22 = .ok (.astore 4, 2) := by decide +kernel
theorem dX7_agree_24 : decode cX7_agree 24 = .ok (.iconst 0, 1) := by decide +kernel
theorem dX7_agree_25 : decode cX7_agree 25 = .ok (.istore 5, 2) := by decide +kernel
theorem dX7_agree_27 : decode cX7_agree 27 = .ok (.iconst 0, 1) := by decide +kernel
theorem dX7_agree_28 : decode cX7_agree 28 = .ok (.istore 6, 2) := by decide +kernel
theorem dX7_agree_30 : decode cX7_agree 30 = .ok (.iload 6, 2) := by decide +kernel
theorem dX7_agree_32 : decode cX7_agree 32 = .ok (.aload_n 3, 1) := by decide +kernel
theorem dX7_agree_33 : decode cX7_agree 33 = .ok (.getfield 117, 3) := by decide +kernel
theorem dX7_agree_36 : decode cX7_agree 36 = .ok (.if_icmp .ge 92, 3) := by decide +kernel
theorem dX7_agree_39 : decode cX7_agree 39 = .ok (.iconst 0, 1) := by decide +kernel
theorem dX7_agree_40 : decode cX7_agree 40 = .ok (.istore 7, 2) := by decide +kernel
theorem dX7_agree_42 : decode cX7_agree 42 = .ok (.iload 7, 2) := by decide +kernel
theorem dX7_agree_44 : decode cX7_agree 44 = .ok (.aload 4, 2) := by decide +kernel
theorem dX7_agree_46 : decode cX7_agree 46 = .ok (.getfield 117, 3) := by decide +kernel
theorem dX7_agree_49 : decode cX7_agree 49 = .ok (.if_icmp .ge 73, 3) := by decide +kernel
theorem dX7_agree_52 : decode cX7_agree 52 = .ok (.aload_n 0, 1) := by decide +kernel
theorem dX7_agree_53 : decode cX7_agree 53 = .ok (.getfield 27, 3) := by decide +kernel
theorem dX7_agree_56 : decode cX7_agree 56 = .ok (.aload_n 3, 1) := by decide +kernel
theorem dX7_agree_57 : decode cX7_agree 57 = .ok (.getfield 127, 3) := by decide +kernel
theorem dX7_agree_60 : decode cX7_agree 60 = .ok (.iload 6, 2) := by decide +kernel
theorem dX7_agree_62 : decode cX7_agree 62 = .ok (.iaload, 1) := by decide +kernel
theorem dX7_agree_63 : decode cX7_agree 63 = .ok (.iaload, 1) := by decide +kernel
theorem dX7_agree_64 : decode cX7_agree 64 = .ok (.aload_n 0, 1) := by decide +kernel
theorem dX7_agree_65 : decode cX7_agree 65 = .ok (.getfield 27, 3) := by decide +kernel
theorem dX7_agree_68 : decode cX7_agree 68 = .ok (.aload 4, 2) := by decide +kernel
theorem dX7_agree_70 : decode cX7_agree 70 = .ok (.getfield 127, 3) := by decide +kernel
theorem dX7_agree_73 : decode cX7_agree 73 = .ok (.iload 7, 2) := by decide +kernel
theorem dX7_agree_75 : decode cX7_agree 75 = .ok (.iaload, 1) := by decide +kernel
theorem dX7_agree_76 : decode cX7_agree 76 = .ok (.iaload, 1) := by decide +kernel
theorem dX7_agree_77 : decode cX7_agree 77 = .ok (.if_icmp .ne 39, 3) := by decide +kernel
theorem dX7_agree_80 : decode cX7_agree 80 = .ok (.iload 5, 2) := by decide +kernel
theorem dX7_agree_82 : decode cX7_agree 82 = .ok (.aload_n 3, 1) := by decide +kernel
theorem dX7_agree_83 : decode cX7_agree 83 = .ok (.iload 6, 2) := by decide +kernel
theorem dX7_agree_85 : decode cX7_agree 85 = .ok (.invokevirtual 137, 3) := by decide +kernel
theorem dX7_agree_88 : decode cX7_agree 88 = .ok (.aload_n 3, 1) := by decide +kernel
theorem dX7_agree_89 : decode cX7_agree 89 = .ok (.getfield 140, 3) := by decide +kernel
theorem dX7_agree_92 : decode cX7_agree 92 = .ok (.iload 6, 2) := by decide +kernel
theorem dX7_agree_94 : decode cX7_agree 94 = .ok (.iaload, 1) := by decide +kernel
theorem dX7_agree_95 : decode cX7_agree 95 = .ok (.aload 4, 2) := by decide +kernel
theorem dX7_agree_97 : decode cX7_agree 97 = .ok (.iload 7, 2) := by decide +kernel
theorem dX7_agree_99 : decode cX7_agree 99 = .ok (.invokevirtual 137, 3) := by decide +kernel
theorem dX7_agree_102 : decode cX7_agree 102 = .ok (.aload 4, 2) := by decide +kernel
theorem dX7_agree_104 : decode cX7_agree 104 = .ok (.getfield 140, 3) := by decide +kernel
theorem dX7_agree_107 : decode cX7_agree 107 = .ok (.iload 7, 2) := by decide +kernel
theorem dX7_agree_109 : decode cX7_agree 109 = .ok (.iaload, 1) := by decide +kernel
theorem dX7_agree_110 : decode cX7_agree 110 = .ok (.invokestatic 143, 3) := by decide +kernel
theorem dX7_agree_113 : decode cX7_agree 113 = .ok (.iadd, 1) := by decide +kernel
theorem dX7_agree_114 : decode cX7_agree 114 = .ok (.istore 5, 2) := by decide +kernel
theorem dX7_agree_116 : decode cX7_agree 116 = .ok (.iinc 7 1, 3) := by decide +kernel
theorem dX7_agree_119 : decode cX7_agree 119 = .ok (.goto (-77), 3) := by decide +kernel
theorem dX7_agree_122 : decode cX7_agree 122 = .ok (.iinc 6 1, 3) := by decide +kernel
theorem dX7_agree_125 : decode cX7_agree 125 = .ok (.goto (-95), 3) := by decide +kernel
theorem dX7_agree_128 : decode cX7_agree 128 = .ok (.iload 5, 2) := by decide +kernel
theorem dX7_agree_130 : decode cX7_agree 130 = .ok (.ireturn, 1) := by decide +kernel
set_option maxRecDepth 20000 in
theorem ggX7_sample_X7_holeNamed : GoodIn wsX7_sample wsX7_holeNamed := goodIn_r _ [10, 11, 12, 53, 54, 55, 56, 57, 58, 59, 60, 61, 62, 63] (by decide +kernel) (by decide +kernel)
set_option maxRecDepth 20000 in
theorem gX7_sample_X7_holeNamed : GoodIn wsX7_sample (wsV RX7 56 RX7 yX7_holeNamed wsX7_holeNamed) := goodIn_app (goodIn_of _ (by decide +kernel)) ggX7_sample_X7_holeNamed
set_option maxRecDepth 20000 in
theorem ggX7_sample_X1_isStretch : GoodIn wsX7_sample wsX1_isStretch := goodIn_r _ [17, 18, 68, 69, 70, 71, 72, 73, 74, 75] (by decide +kernel) (by decide +kernel)
set_option maxRecDepth 20000 in
theorem gX7_sample_X1_isStretch : GoodIn wsX7_sample (wsV RX7 82 RX1 yX1_isStretch wsX1_isStretch) := goodIn_app (goodIn_of _ (by decide +kernel)) ggX7_sample_X1_isStretch
set_option maxRecDepth 20000 in
theorem ggX7_sample_X7_isTaken : GoodIn wsX7_sample wsX7_isTaken := goodIn_r _ [22, 1, 2, 23, 24, 25, 5, 26, 27, 28, 29, 30, 9, 31, 32, 33, 34, 35, 36, 37, 38, 53, 54, 55, 56, 57, 58, 59, 60, 61, 62, 63, 64, 65, 66, 67] (by decide +kernel) (by decide +kernel)
set_option maxRecDepth 20000 in
theorem gX7_sample_X7_isTaken : GoodIn wsX7_sample (wsV RX7 147 RX7 yX7_isTaken wsX7_isTaken) := goodIn_app (goodIn_of _ (by decide +kernel)) ggX7_sample_X7_isTaken
set_option maxRecDepth 20000 in
theorem ggX7_sample_X1_coreWithin : GoodIn wsX7_sample wsX1_coreWithin := goodIn_r _ [42, 43, 44, 45, 30, 9, 31, 32, 33, 34, 35, 36, 37, 38, 68, 69, 70, 71, 72, 73, 74, 75] (by decide +kernel) (by decide +kernel)
set_option maxRecDepth 20000 in
theorem gX7_sample_X1_coreWithin : GoodIn wsX7_sample (wsV RX7 86 RX1 yX1_coreWithin wsX1_coreWithin) := goodIn_app (goodIn_of _ (by decide +kernel)) ggX7_sample_X1_coreWithin
set_option maxRecDepth 20000 in
theorem ggX7_sample_X6_init : GoodIn wsX7_sample wsX6_init := goodIn_r _ [48, 49, 50, 51, 52, 27, 28, 29, 64, 65, 66, 67] (by decide +kernel) (by decide +kernel)
set_option maxRecDepth 20000 in
theorem gX7_sample_X6_init : GoodIn wsX7_sample (wsX6_init) := ggX7_sample_X6_init
theorem dX7_sample_0 : decode cX7_sample 0 = .ok (.aload_n 0, 1) := by decide +kernel
theorem dX7_sample_1 : decode cX7_sample 1 = .ok (.iload_n 1, 1) := by decide +kernel
theorem dX7_sample_2 : decode cX7_sample 2 = .ok (.invokevirtual 56, 3) := by decide +kernel
theorem dX7_sample_5 : decode cX7_sample 5 = .ok (.astore 4, 2) := by decide +kernel
theorem dX7_sample_7 : decode cX7_sample 7 = .ok (.aload 4, 2) := by decide +kernel
theorem dX7_sample_9 : decode cX7_sample 9 = .ok (.ifnonnull 6, 3) := by decide +kernel
theorem dX7_sample_12 : decode cX7_sample 12 = .ok (.bipush (-101), 2) := by decide +kernel
theorem dX7_sample_14 : decode cX7_sample 14 = .ok (.ireturn, 1) := by decide +kernel
theorem dX7_sample_15 : decode cX7_sample 15 = .ok (.aload 4, 2) := by decide +kernel
theorem dX7_sample_17 : decode cX7_sample 17 = .ok (.iload_n 2, 1) := by decide +kernel
theorem dX7_sample_18 : decode cX7_sample 18 = .ok (.iload_n 3, 1) := by decide +kernel
theorem dX7_sample_19 : decode cX7_sample 19 = .ok (.invokevirtual 82, 3) := by decide +kernel
theorem dX7_sample_22 : decode cX7_sample 22 = .ok (.ifCond .ne 6, 3) := by decide +kernel
theorem dX7_sample_25 : decode cX7_sample 25 = .ok (.bipush (-102), 2) := by decide +kernel
theorem dX7_sample_27 : decode cX7_sample 27 = .ok (.ireturn, 1) := by decide +kernel
theorem dX7_sample_28 : decode cX7_sample 28 = .ok (.aload_n 0, 1) := by decide +kernel
theorem dX7_sample_29 : decode cX7_sample 29 = .ok (.iload_n 1, 1) := by decide +kernel
theorem dX7_sample_30 : decode cX7_sample 30 = .ok (.iload_n 2, 1) := by decide +kernel
theorem dX7_sample_31 : decode cX7_sample 31 = .ok (.iload_n 3, 1) := by decide +kernel
theorem dX7_sample_32 : decode cX7_sample 32 = .ok (.invokevirtual 147, 3) := by decide +kernel
theorem dX7_sample_35 : decode cX7_sample 35 = .ok (.ifCond .ne 13, 3) := by decide +kernel
theorem dX7_sample_38 : decode cX7_sample 38 = .ok (.aload 4, 2) := by decide +kernel
theorem dX7_sample_40 : decode cX7_sample 40 = .ok (.iload_n 2, 1) := by decide +kernel
theorem dX7_sample_41 : decode cX7_sample 41 = .ok (.iload_n 3, 1) := by decide +kernel
theorem dX7_sample_42 : decode cX7_sample 42 = .ok (.invokevirtual 86, 3) := by decide +kernel
theorem dX7_sample_45 : decode cX7_sample 45 = .ok (.ifCond .ne 6, 3) := by decide +kernel
theorem dX7_sample_48 : decode cX7_sample 48 = .ok (.bipush (-103), 2) := by decide +kernel
theorem dX7_sample_50 : decode cX7_sample 50 = .ok (.ireturn, 1) := by decide +kernel
theorem dX7_sample_51 : decode cX7_sample 51 = .ok (.aload_n 0, 1) := by decide +kernel
theorem dX7_sample_52 : decode cX7_sample 52 = .ok (.getfield 150, 3) := by decide +kernel
theorem dX7_sample_55 : decode cX7_sample 55 = .ok (.bipush 30, 2) := by decide +kernel
theorem dX7_sample_57 : decode cX7_sample 57 = .ok (.if_icmp .lt 6, 3) := by decide +kernel
theorem dX7_sample_60 : decode cX7_sample 60 = .ok (.bipush (-104), 2) := by decide +kernel
theorem dX7_sample_62 : decode cX7_sample 62 = .ok (.ireturn, 1) := by decide +kernel
theorem dX7_sample_63 : decode cX7_sample 63 = .ok (.aload_n 0, 1) := by decide +kernel
theorem dX7_sample_64 : decode cX7_sample 64 = .ok (.getfield 17, 3) := by decide +kernel
theorem dX7_sample_67 : decode cX7_sample 67 = .ok (.aload_n 0, 1) := by decide +kernel
theorem dX7_sample_68 : decode cX7_sample 68 = .ok (.getfield 150, 3) := by decide +kernel
theorem dX7_sample_71 : decode cX7_sample 71 = .ok (.new 15, 3) := by decide +kernel
theorem dX7_sample_74 : decode cX7_sample 74 = .ok (.dup, 1) := by decide +kernel
theorem dX7_sample_75 : decode cX7_sample 75 = .ok (.iload_n 1, 1) := by decide +kernel
theorem dX7_sample_76 : decode cX7_sample 76 = .ok (.iload_n 2, 1) := by decide +kernel
theorem dX7_sample_77 : decode cX7_sample 77 = .ok (.iload_n 3, 1) := by decide +kernel
theorem dX7_sample_78 : decode cX7_sample 78 = .ok (.invokespecial 153, 3) := by decide +kernel
theorem dX7_sample_81 : decode cX7_sample 81 = .ok (.aastore, 1) := by decide +kernel
theorem dX7_sample_82 : decode cX7_sample 82 = .ok (.aload_n 0, 1) := by decide +kernel
theorem dX7_sample_83 : decode cX7_sample 83 = .ok (.dup, 1) := by decide +kernel
theorem dX7_sample_84 : decode cX7_sample 84 = .ok (.getfield 150, 3) := by decide +kernel
theorem dX7_sample_87 : decode cX7_sample 87 = .ok (.iconst 1, 1) := by decide +kernel
theorem dX7_sample_88 : decode cX7_sample 88 = .ok (.iadd, 1) := by decide +kernel
theorem dX7_sample_89 : decode cX7_sample 89 = .ok (.putfield 150, 3) := by decide +kernel
theorem dX7_sample_92 : decode cX7_sample 92 = .ok (.aload_n 0, 1) := by decide +kernel
theorem dX7_sample_93 : decode cX7_sample 93 = .ok (.getfield 150, 3) := by decide +kernel
theorem dX7_sample_96 : decode cX7_sample 96 = .ok (.iconst 1, 1) := by decide +kernel
theorem dX7_sample_97 : decode cX7_sample 97 = .ok (.isub, 1) := by decide +kernel
theorem dX7_sample_98 : decode cX7_sample 98 = .ok (.ireturn, 1) := by decide +kernel
set_option maxRecDepth 20000 in
theorem ggX7_left_X7_sampleNamed : GoodIn wsX7_left wsX7_sampleNamed := goodIn_r _ [6, 7, 8, 13, 14, 15, 16, 17, 18, 19, 20, 21, 22, 23] (by decide +kernel) (by decide +kernel)
set_option maxRecDepth 20000 in
theorem gX7_left_X7_sampleNamed : GoodIn wsX7_left (wsV RX7 156 RX7 yX7_sampleNamed wsX7_sampleNamed) := goodIn_app (goodIn_of _ (by decide +kernel)) ggX7_left_X7_sampleNamed
theorem dX7_left_0 : decode cX7_left 0 = .ok (.aload_n 0, 1) := by decide +kernel
theorem dX7_left_1 : decode cX7_left 1 = .ok (.iload_n 1, 1) := by decide +kernel
theorem dX7_left_2 : decode cX7_left 2 = .ok (.invokevirtual 156, 3) := by decide +kernel
theorem dX7_left_5 : decode cX7_left 5 = .ok (.astore_n 2, 1) := by decide +kernel
theorem dX7_left_6 : decode cX7_left 6 = .ok (.aload_n 2, 1) := by decide +kernel
theorem dX7_left_7 : decode cX7_left 7 = .ok (.ifnonnull 8, 3) := by decide +kernel
theorem dX7_left_10 : decode cX7_left 10 = .ok (.bipush (-101), 2) := by decide +kernel
theorem dX7_left_12 : decode cX7_left 12 = .ok (.goto 7, 3) := by decide +kernel
theorem dX7_left_15 : decode cX7_left 15 = .ok (.aload_n 2, 1) := by decide +kernel
theorem dX7_left_16 : decode cX7_left 16 = .ok (.getfield 160, 3) := by decide +kernel
theorem dX7_left_19 : decode cX7_left 19 = .ok (.ireturn, 1) := by decide +kernel
set_option maxRecDepth 20000 in
theorem ggX7_batch_X0_init : GoodIn wsX7_batch wsX0_init := goodIn_r _ [7, 8, 9, 10, 11, 12, 24, 25] (by decide +kernel) (by decide +kernel)
set_option maxRecDepth 20000 in
theorem gX7_batch_X0_init_n166 : GoodIn wsX7_batch (wsX0_init) := ggX7_batch_X0_init
theorem dX7_batch_0 : decode cX7_batch 0 = .ok (.aload_n 0, 1) := by decide +kernel
theorem dX7_batch_1 : decode cX7_batch 1 = .ok (.getfield 163, 3) := by decide +kernel
theorem dX7_batch_4 : decode cX7_batch 4 = .ok (.bipush 6, 2) := by decide +kernel
theorem dX7_batch_6 : decode cX7_batch 6 = .ok (.if_icmp .lt 6, 3) := by decide +kernel
theorem dX7_batch_9 : decode cX7_batch 9 = .ok (.bipush (-104), 2) := by decide +kernel
theorem dX7_batch_11 : decode cX7_batch 11 = .ok (.ireturn, 1) := by decide +kernel
theorem dX7_batch_12 : decode cX7_batch 12 = .ok (.aload_n 0, 1) := by decide +kernel
theorem dX7_batch_13 : decode cX7_batch 13 = .ok (.getfield 23, 3) := by decide +kernel
theorem dX7_batch_16 : decode cX7_batch 16 = .ok (.aload_n 0, 1) := by decide +kernel
theorem dX7_batch_17 : decode cX7_batch 17 = .ok (.getfield 163, 3) := by decide +kernel
theorem dX7_batch_20 : decode cX7_batch 20 = .ok (.new 21, 3) := by decide +kernel
theorem dX7_batch_23 : decode cX7_batch 23 = .ok (.dup, 1) := by decide +kernel
theorem dX7_batch_24 : decode cX7_batch 24 = .ok (.invokespecial 166, 3) := by decide +kernel
theorem dX7_batch_27 : decode cX7_batch 27 = .ok (.aastore, 1) := by decide +kernel
theorem dX7_batch_28 : decode cX7_batch 28 = .ok (.aload_n 0, 1) := by decide +kernel
theorem dX7_batch_29 : decode cX7_batch 29 = .ok (.dup, 1) := by decide +kernel
theorem dX7_batch_30 : decode cX7_batch 30 = .ok (.getfield 163, 3) := by decide +kernel
theorem dX7_batch_33 : decode cX7_batch 33 = .ok (.iconst 1, 1) := by decide +kernel
theorem dX7_batch_34 : decode cX7_batch 34 = .ok (.iadd, 1) := by decide +kernel
theorem dX7_batch_35 : decode cX7_batch 35 = .ok (.putfield 163, 3) := by decide +kernel
theorem dX7_batch_38 : decode cX7_batch 38 = .ok (.aload_n 0, 1) := by decide +kernel
theorem dX7_batch_39 : decode cX7_batch 39 = .ok (.getfield 163, 3) := by decide +kernel
theorem dX7_batch_42 : decode cX7_batch 42 = .ok (.iconst 1, 1) := by decide +kernel
theorem dX7_batch_43 : decode cX7_batch 43 = .ok (.isub, 1) := by decide +kernel
theorem dX7_batch_44 : decode cX7_batch 44 = .ok (.ireturn, 1) := by decide +kernel
set_option maxRecDepth 20000 in
theorem ggX7_put_X7_batchNamed : GoodIn wsX7_put wsX7_batchNamed := goodIn_r _ [5, 6, 7, 49, 50, 51, 52, 53, 54, 55, 56, 57, 58, 59] (by decide +kernel) (by decide +kernel)
set_option maxRecDepth 20000 in
theorem gX7_put_X7_batchNamed : GoodIn wsX7_put (wsV RX7 167 RX7 yX7_batchNamed wsX7_batchNamed) := goodIn_app (goodIn_of _ (by decide +kernel)) ggX7_put_X7_batchNamed
set_option maxRecDepth 20000 in
theorem ggX7_put_X7_sampleNamed : GoodIn wsX7_put wsX7_sampleNamed := goodIn_r _ [11, 12, 13, 49, 50, 51, 52, 53, 54, 55, 56, 57, 58, 59] (by decide +kernel) (by decide +kernel)
set_option maxRecDepth 20000 in
theorem gX7_put_X7_sampleNamed : GoodIn wsX7_put (wsV RX7 156 RX7 yX7_sampleNamed wsX7_sampleNamed) := goodIn_app (goodIn_of _ (by decide +kernel)) ggX7_put_X7_sampleNamed
set_option maxRecDepth 20000 in
theorem ggX7_put_X0_placeOf : GoodIn wsX7_put wsX0_placeOf := goodIn_r _ [18, 19, 20, 21, 22, 60, 61, 62, 63, 64, 65, 66] (by decide +kernel) (by decide +kernel)
set_option maxRecDepth 20000 in
theorem gX7_put_X0_placeOf : GoodIn wsX7_put (wsV RX7 171 RX0 yX0_placeOf wsX0_placeOf) := goodIn_app (goodIn_of _ (by decide +kernel)) ggX7_put_X0_placeOf
set_option maxRecDepth 20000 in
theorem ggX7_put_X7_addPlaceWithQuarter : GoodIn wsX7_put wsX7_addPlaceWithQuarter := goodIn_r _ [25, 26, 27, 28, 4, 29, 30, 31, 32, 33, 34, 35, 36, 37, 17, 38, 19, 20, 39, 40, 41, 42, 43, 44, 45, 46, 47, 48, 67, 68, 69, 70, 60, 61, 62, 63, 64, 65, 66] (by decide +kernel) (by decide +kernel)
set_option maxRecDepth 20000 in
theorem gX7_put_X7_addPlaceWithQuarter : GoodIn wsX7_put (va_wsS RX7 175 yX7_addPlaceWithQuarter wsX7_addPlaceWithQuarter) := goodIn_app (goodIn_of _ (by decide +kernel)) ggX7_put_X7_addPlaceWithQuarter
theorem dX7_put_0 : decode cX7_put 0 = .ok (.aload_n 0, 1) := by decide +kernel
theorem dX7_put_1 : decode cX7_put 1 = .ok (.iload_n 1, 1) := by decide +kernel
theorem dX7_put_2 : decode cX7_put 2 = .ok (.invokevirtual 167, 3) := by decide +kernel
theorem dX7_put_5 : decode cX7_put 5 = .ok (.astore_n 3, 1) := by decide +kernel
theorem dX7_put_6 : decode cX7_put 6 = .ok (.aload_n 0, 1) := by decide +kernel
theorem dX7_put_7 : decode cX7_put 7 = .ok (.iload_n 2, 1) := by decide +kernel
theorem dX7_put_8 : decode cX7_put 8 = .ok (.invokevirtual 156, 3) := by decide +kernel
theorem dX7_put_11 : decode cX7_put 11 = .ok (.astore 4, 2) := by decide +kernel
theorem dX7_put_13 : decode cX7_put 13 = .ok (.aload_n 3, 1) := by decide +kernel
theorem dX7_put_14 : decode cX7_put 14 = .ok (.ifnull 8, 3) := by decide +kernel
theorem dX7_put_17 : decode cX7_put 17 = .ok (.aload 4, 2) := by decide +kernel
theorem dX7_put_19 : decode cX7_put 19 = .ok (.ifnonnull 6, 3) := by decide +kernel
theorem dX7_put_22 : decode cX7_put 22 = .ok (.bipush (-101), 2) := by decide +kernel
theorem dX7_put_24 : decode cX7_put 24 = .ok (.ireturn, 1) := by decide +kernel
theorem dX7_put_25 : decode cX7_put 25 = .ok (.aload_n 3, 1) := by decide +kernel
theorem dX7_put_26 : decode cX7_put 26 = .ok (.iload_n 2, 1) := by decide +kernel
theorem dX7_put_27 : decode cX7_put 27 = .ok (.invokevirtual 171, 3) := by decide +kernel
theorem dX7_put_30 : decode cX7_put 30 = .ok (.ifnull 6, 3) := by decide +kernel
theorem dX7_put_33 : decode cX7_put 33 = .ok (.bipush (-103), 2) := by decide +kernel
theorem dX7_put_35 : decode cX7_put 35 = .ok (.ireturn, 1) := by decide +kernel
theorem dX7_put_36 : decode cX7_put 36 = .ok (.aload_n 3, 1) := by decide +kernel
theorem dX7_put_37 : decode cX7_put 37 = .ok (.iconst 0, 1) := by decide +kernel
theorem dX7_put_38 : decode cX7_put 38 = .ok (.iload_n 2, 1) := by decide +kernel
theorem dX7_put_39 : decode cX7_put 39 = .ok (.aload 4, 2) := by decide +kernel
theorem dX7_put_41 : decode cX7_put 41 = .ok (.invokestatic 175, 3) := by decide +kernel
theorem dX7_put_44 : decode cX7_put 44 = .ok (.ireturn, 1) := by decide +kernel
set_option maxRecDepth 20000 in
theorem ggX7_standard_X7_batchNamed : GoodIn wsX7_standard wsX7_batchNamed := goodIn_r _ [6, 7, 8, 37, 38, 39, 40, 41, 42, 43, 44, 45, 46, 47] (by decide +kernel) (by decide +kernel)
set_option maxRecDepth 20000 in
theorem gX7_standard_X7_batchNamed : GoodIn wsX7_standard (wsV RX7 167 RX7 yX7_batchNamed wsX7_batchNamed) := goodIn_app (goodIn_of _ (by decide +kernel)) ggX7_standard_X7_batchNamed
set_option maxRecDepth 20000 in
theorem ggX7_standard_X7_isWithin : GoodIn wsX7_standard wsX7_isWithin := goodIn_r _ [11] (by decide +kernel) (by decide +kernel)
set_option maxRecDepth 20000 in
theorem gX7_standard_X7_isWithin : GoodIn wsX7_standard (va_wsS RX7 60 yX7_isWithin wsX7_isWithin) := goodIn_app (goodIn_of _ (by decide +kernel)) ggX7_standard_X7_isWithin
set_option maxRecDepth 20000 in
theorem ggX7_standard_X7_addPlace : GoodIn wsX7_standard wsX7_addPlace := goodIn_r _ [14, 15, 16, 17, 18, 19, 20, 21, 22, 23, 24, 25, 26, 27, 28, 29, 30, 31, 32, 33, 34, 35, 36, 48, 49, 50, 51, 52, 53, 54] (by decide +kernel) (by decide +kernel)
set_option maxRecDepth 20000 in
theorem gX7_standard_X7_addPlace : GoodIn wsX7_standard (va_wsS RX7 179 yX7_addPlace wsX7_addPlace) := goodIn_app (goodIn_of _ (by decide +kernel)) ggX7_standard_X7_addPlace
theorem dX7_standard_0 : decode cX7_standard 0 = .ok (.aload_n 0, 1) := by decide +kernel
theorem dX7_standard_1 : decode cX7_standard 1 = .ok (.iload_n 1, 1) := by decide +kernel
theorem dX7_standard_2 : decode cX7_standard 2 = .ok (.invokevirtual 167, 3) := by decide +kernel
theorem dX7_standard_5 : decode cX7_standard 5 = .ok (.astore 4, 2) := by decide +kernel
theorem dX7_standard_7 : decode cX7_standard 7 = .ok (.aload 4, 2) := by decide +kernel
theorem dX7_standard_9 : decode cX7_standard 9 = .ok (.ifnonnull 6, 3) := by decide +kernel
theorem dX7_standard_12 : decode cX7_standard 12 = .ok (.bipush (-101), 2) := by decide +kernel
theorem dX7_standard_14 : decode cX7_standard 14 = .ok (.ireturn, 1) := by decide +kernel
theorem dX7_standard_15 : decode cX7_standard 15 = .ok (.iload_n 2, 1) := by decide +kernel
theorem dX7_standard_16 : decode cX7_standard 16 = .ok (.iconst 0, 1) := by decide +kernel
theorem dX7_standard_17 : decode cX7_standard 17 = .ok (.ldc 90, 2) := by decide +kernel
theorem dX7_standard_19 : decode cX7_standard 19 = .ok (.invokestatic 60, 3) := by decide +kernel
theorem dX7_standard_22 : decode cX7_standard 22 = .ok (.ifCond .eq 14, 3) := by decide +kernel
theorem dX7_standard_25 : decode cX7_standard 25 = .ok (.iload_n 3, 1) := by decide +kernel
theorem dX7_standard_26 : decode cX7_standard 26 = .ok (.iconst 0, 1) := by decide +kernel
theorem dX7_standard_27 : decode cX7_standard 27 = .ok (.sipush 10000, 3) := by decide +kernel
theorem dX7_standard_30 : decode cX7_standard 30 = .ok (.invokestatic 60, 3) := by decide +kernel
theorem dX7_standard_33 : decode cX7_standard 33 = .ok (.ifCond .ne 6, 3) := by decide +kernel
theorem dX7_standard_36 : decode cX7_standard 36 = .ok (.bipush (-102), 2) := by decide +kernel
theorem dX7_standard_38 : decode cX7_standard 38 = .ok (.ireturn, 1) := by decide +kernel
theorem dX7_standard_39 : decode cX7_standard 39 = .ok (.aload 4, 2) := by decide +kernel
theorem dX7_standard_41 : decode cX7_standard 41 = .ok (.iconst 1, 1) := by decide +kernel
theorem dX7_standard_42 : decode cX7_standard 42 = .ok (.iload_n 2, 1) := by decide +kernel
theorem dX7_standard_43 : decode cX7_standard 43 = .ok (.iload_n 3, 1) := by decide +kernel
theorem dX7_standard_44 : decode cX7_standard 44 = .ok (.invokestatic 179, 3) := by decide +kernel
theorem dX7_standard_47 : decode cX7_standard 47 = .ok (.ireturn, 1) := by decide +kernel
set_option maxRecDepth 20000 in
theorem ggX7_blank_X7_batchNamed : GoodIn wsX7_blank wsX7_batchNamed := goodIn_r _ [5, 6, 7, 33, 34, 35, 36, 37, 38, 39, 40, 41, 42, 43] (by decide +kernel) (by decide +kernel)
set_option maxRecDepth 20000 in
theorem gX7_blank_X7_batchNamed : GoodIn wsX7_blank (wsV RX7 167 RX7 yX7_batchNamed wsX7_batchNamed) := goodIn_app (goodIn_of _ (by decide +kernel)) ggX7_blank_X7_batchNamed
set_option maxRecDepth 20000 in
theorem ggX7_blank_X7_addPlace : GoodIn wsX7_blank wsX7_addPlace := goodIn_r _ [10, 11, 12, 13, 14, 15, 16, 17, 18, 19, 20, 21, 22, 23, 24, 25, 26, 27, 28, 29, 30, 31, 32, 44, 45, 46, 47, 48, 49, 50] (by decide +kernel) (by decide +kernel)
set_option maxRecDepth 20000 in
theorem gX7_blank_X7_addPlace : GoodIn wsX7_blank (va_wsS RX7 179 yX7_addPlace wsX7_addPlace) := goodIn_app (goodIn_of _ (by decide +kernel)) ggX7_blank_X7_addPlace
theorem dX7_blank_0 : decode cX7_blank 0 = .ok (.aload_n 0, 1) := by decide +kernel
theorem dX7_blank_1 : decode cX7_blank 1 = .ok (.iload_n 1, 1) := by decide +kernel
theorem dX7_blank_2 : decode cX7_blank 2 = .ok (.invokevirtual 167, 3) := by decide +kernel
theorem dX7_blank_5 : decode cX7_blank 5 = .ok (.astore_n 2, 1) := by decide +kernel
theorem dX7_blank_6 : decode cX7_blank 6 = .ok (.aload_n 2, 1) := by decide +kernel
theorem dX7_blank_7 : decode cX7_blank 7 = .ok (.ifnonnull 8, 3) := by decide +kernel
theorem dX7_blank_10 : decode cX7_blank 10 = .ok (.bipush (-101), 2) := by decide +kernel
theorem dX7_blank_12 : decode cX7_blank 12 = .ok (.goto 10, 3) := by decide +kernel
theorem dX7_blank_15 : decode cX7_blank 15 = .ok (.aload_n 2, 1) := by decide +kernel
theorem dX7_blank_16 : decode cX7_blank 16 = .ok (.iconst 2, 1) := by decide +kernel
theorem dX7_blank_17 : decode cX7_blank 17 = .ok (.iconst 0, 1) := by decide +kernel
theorem dX7_blank_18 : decode cX7_blank 18 = .ok (.iconst 0, 1) := by decide +kernel
theorem dX7_blank_19 : decode cX7_blank 19 = .ok (.invokestatic 179, 3) := by decide +kernel
theorem dX7_blank_22 : decode cX7_blank 22 = .ok (.ireturn, 1) := by decide +kernel
set_option maxRecDepth 20000 in
theorem ggX7_twice_X7_batchNamed : GoodIn wsX7_twice wsX7_batchNamed := goodIn_r _ [7, 8, 9, 54, 55, 56, 57, 58, 59, 60, 61, 62, 63, 64] (by decide +kernel) (by decide +kernel)
set_option maxRecDepth 20000 in
theorem gX7_twice_X7_batchNamed : GoodIn wsX7_twice (wsV RX7 167 RX7 yX7_batchNamed wsX7_batchNamed) := goodIn_app (goodIn_of _ (by decide +kernel)) ggX7_twice_X7_batchNamed
set_option maxRecDepth 20000 in
theorem ggX7_twice_X7_placeNamed : GoodIn wsX7_twice wsX7_placeNamed := goodIn_r _ [13, 14, 15, 3, 4, 5, 6, 7, 8, 9, 65, 66, 54, 55, 56, 57, 58, 59, 60, 61, 62, 63, 64] (by decide +kernel) (by decide +kernel)
set_option maxRecDepth 20000 in
theorem gX7_twice_X7_placeNamed : GoodIn wsX7_twice (wsV RX7 183 RX7 yX7_placeNamed wsX7_placeNamed) := goodIn_app (goodIn_of _ (by decide +kernel)) ggX7_twice_X7_placeNamed
set_option maxRecDepth 20000 in
theorem ggX7_twice_X7_sampleNamed : GoodIn wsX7_twice wsX7_sampleNamed := goodIn_r _ [19, 20, 21, 54, 55, 56, 57, 58, 59, 60, 61, 62, 63, 64] (by decide +kernel) (by decide +kernel)
set_option maxRecDepth 20000 in
theorem gX7_twice_X7_sampleNamed : GoodIn wsX7_twice (wsV RX7 156 RX7 yX7_sampleNamed wsX7_sampleNamed) := goodIn_app (goodIn_of _ (by decide +kernel)) ggX7_twice_X7_sampleNamed
set_option maxRecDepth 20000 in
theorem ggX7_twice_X7_addPlaceWithQuarter : GoodIn wsX7_twice wsX7_addPlaceWithQuarter := goodIn_r _ [24, 25, 26, 27, 6, 28, 14, 15, 29, 30, 31, 32, 33, 34, 35, 36, 37, 38, 39, 40, 41, 42, 43, 44, 45, 46, 47, 48, 67, 68, 69, 70, 65, 66, 49, 50, 51, 52, 53] (by decide +kernel) (by decide +kernel)
set_option maxRecDepth 20000 in
theorem gX7_twice_X7_addPlaceWithQuarter : GoodIn wsX7_twice (va_wsS RX7 175 yX7_addPlaceWithQuarter wsX7_addPlaceWithQuarter) := goodIn_app (goodIn_of _ (by decide +kernel)) ggX7_twice_X7_addPlaceWithQuarter
theorem dX7_twice_0 : decode cX7_twice 0 = .ok (.aload_n 0, 1) := by decide +kernel
theorem dX7_twice_1 : decode cX7_twice 1 = .ok (.iload_n 1, 1) := by decide +kernel
theorem dX7_twice_2 : decode cX7_twice 2 = .ok (.invokevirtual 167, 3) := by decide +kernel
theorem dX7_twice_5 : decode cX7_twice 5 = .ok (.astore_n 3, 1) := by decide +kernel
theorem dX7_twice_6 : decode cX7_twice 6 = .ok (.aload_n 0, 1) := by decide +kernel
theorem dX7_twice_7 : decode cX7_twice 7 = .ok (.iload_n 1, 1) := by decide +kernel
theorem dX7_twice_8 : decode cX7_twice 8 = .ok (.iload_n 2, 1) := by decide +kernel
theorem dX7_twice_9 : decode cX7_twice 9 = .ok (.invokevirtual 183, 3) := by decide +kernel
theorem dX7_twice_12 : decode cX7_twice 12 = .ok (.astore 4, 2) := by decide +kernel
theorem dX7_twice_14 : decode cX7_twice 14 = .ok (.aload_n 3, 1) := by decide +kernel
theorem dX7_twice_15 : decode cX7_twice 15 = .ok (.ifnull 8, 3) := by decide +kernel
theorem dX7_twice_18 : decode cX7_twice 18 = .ok (.aload 4, 2) := by decide +kernel
theorem dX7_twice_20 : decode cX7_twice 20 = .ok (.ifnonnull 6, 3) := by decide +kernel
theorem dX7_twice_23 : decode cX7_twice 23 = .ok (.bipush (-101), 2) := by decide +kernel
theorem dX7_twice_25 : decode cX7_twice 25 = .ok (.ireturn, 1) := by decide +kernel
theorem dX7_twice_26 : decode cX7_twice 26 = .ok (.aload 4, 2) := by decide +kernel
theorem dX7_twice_28 : decode cX7_twice 28 = .ok (.getfield 187, 3) := by decide +kernel
theorem dX7_twice_31 : decode cX7_twice 31 = .ok (.ifCond .ne 15, 3) := by decide +kernel
theorem dX7_twice_34 : decode cX7_twice 34 = .ok (.aload_n 0, 1) := by decide +kernel
theorem dX7_twice_35 : decode cX7_twice 35 = .ok (.aload 4, 2) := by decide +kernel
theorem dX7_twice_37 : decode cX7_twice 37 = .ok (.getfield 192, 3) := by decide +kernel
theorem dX7_twice_40 : decode cX7_twice 40 = .ok (.invokevirtual 156, 3) := by decide +kernel
theorem dX7_twice_43 : decode cX7_twice 43 = .ok (.goto 4, 3) := by decide +kernel
theorem dX7_twice_46 : decode cX7_twice 46 = .ok (.aconst_null, 1) := by decide +kernel
theorem dX7_twice_47 : decode cX7_twice 47 = .ok (.astore 5, 2) := by decide +kernel
theorem dX7_twice_49 : decode cX7_twice 49 = .ok (.aload 5, 2) := by decide +kernel
theorem dX7_twice_51 : decode cX7_twice 51 = .ok (.ifnonnull 6, 3) := by decide +kernel
theorem dX7_twice_54 : decode cX7_twice 54 = .ok (.bipush (-102), 2) := by decide +kernel
theorem dX7_twice_56 : decode cX7_twice 56 = .ok (.ireturn, 1) := by decide +kernel
theorem dX7_twice_57 : decode cX7_twice 57 = .ok (.aload_n 3, 1) := by decide +kernel
theorem dX7_twice_58 : decode cX7_twice 58 = .ok (.iconst 3, 1) := by decide +kernel
theorem dX7_twice_59 : decode cX7_twice 59 = .ok (.iload_n 2, 1) := by decide +kernel
theorem dX7_twice_60 : decode cX7_twice 60 = .ok (.aload 5, 2) := by decide +kernel
theorem dX7_twice_62 : decode cX7_twice 62 = .ok (.invokestatic 175, 3) := by decide +kernel
theorem dX7_twice_65 : decode cX7_twice 65 = .ok (.ireturn, 1) := by decide +kernel
set_option maxRecDepth 20000 in
theorem ggX7_law_X7_isWithin : GoodIn wsX7_law wsX7_isWithin := goodIn_r _ [6] (by decide +kernel) (by decide +kernel)
set_option maxRecDepth 20000 in
theorem gX7_law_X7_isWithin : GoodIn wsX7_law (va_wsS RX7 60 yX7_isWithin wsX7_isWithin) := goodIn_app (goodIn_of _ (by decide +kernel)) ggX7_law_X7_isWithin
theorem dX7_law_0 : decode cX7_law 0 = .ok (.iload_n 1, 1) := by decide +kernel
theorem dX7_law_1 : decode cX7_law 1 = .ok (.ifCond .eq 11, 3) := by decide +kernel
theorem dX7_law_4 : decode cX7_law 4 = .ok (.iload_n 1, 1) := by decide +kernel
theorem dX7_law_5 : decode cX7_law 5 = .ok (.iconst 1, 1) := by decide +kernel
theorem dX7_law_6 : decode cX7_law 6 = .ok (.if_icmp .eq 6, 3) := by decide +kernel
theorem dX7_law_9 : decode cX7_law 9 = .ok (.bipush (-101), 2) := by decide +kernel
theorem dX7_law_11 : decode cX7_law 11 = .ok (.ireturn, 1) := by decide +kernel
theorem dX7_law_12 : decode cX7_law 12 = .ok (.iload_n 2, 1) := by decide +kernel
theorem dX7_law_13 : decode cX7_law 13 = .ok (.iconst 0, 1) := by decide +kernel
theorem dX7_law_14 : decode cX7_law 14 = .ok (.sipush 1000, 3) := by decide +kernel
theorem dX7_law_17 : decode cX7_law 17 = .ok (.invokestatic 60, 3) := by decide +kernel
theorem dX7_law_20 : decode cX7_law 20 = .ok (.ifCond .ne 6, 3) := by decide +kernel
theorem dX7_law_23 : decode cX7_law 23 = .ok (.bipush (-102), 2) := by decide +kernel
theorem dX7_law_25 : decode cX7_law 25 = .ok (.ireturn, 1) := by decide +kernel
theorem dX7_law_26 : decode cX7_law 26 = .ok (.iload_n 1, 1) := by decide +kernel
theorem dX7_law_27 : decode cX7_law 27 = .ok (.ifCond .ne 10, 3) := by decide +kernel
theorem dX7_law_30 : decode cX7_law 30 = .ok (.aload_n 0, 1) := by decide +kernel
theorem dX7_law_31 : decode cX7_law 31 = .ok (.getfield 45, 3) := by decide +kernel
theorem dX7_law_34 : decode cX7_law 34 = .ok (.goto 7, 3) := by decide +kernel
theorem dX7_law_37 : decode cX7_law 37 = .ok (.aload_n 0, 1) := by decide +kernel
theorem dX7_law_38 : decode cX7_law 38 = .ok (.getfield 49, 3) := by decide +kernel
theorem dX7_law_41 : decode cX7_law 41 = .ok (.istore_n 3, 1) := by decide +kernel
theorem dX7_law_42 : decode cX7_law 42 = .ok (.iload_n 1, 1) := by decide +kernel
theorem dX7_law_43 : decode cX7_law 43 = .ok (.ifCond .ne 11, 3) := by decide +kernel
theorem dX7_law_46 : decode cX7_law 46 = .ok (.aload_n 0, 1) := by decide +kernel
theorem dX7_law_47 : decode cX7_law 47 = .ok (.iload_n 2, 1) := by decide +kernel
theorem dX7_law_48 : decode cX7_law 48 = .ok (.putfield 45, 3) := by decide +kernel
theorem dX7_law_51 : decode cX7_law 51 = .ok (.goto 8, 3) := by decide +kernel
theorem dX7_law_54 : decode cX7_law 54 = .ok (.aload_n 0, 1) := by decide +kernel
theorem dX7_law_55 : decode cX7_law 55 = .ok (.iload_n 2, 1) := by decide +kernel
theorem dX7_law_56 : decode cX7_law 56 = .ok (.putfield 49, 3) := by decide +kernel
theorem dX7_law_59 : decode cX7_law 59 = .ok (.iload_n 3, 1) := by decide +kernel
theorem dX7_law_60 : decode cX7_law 60 = .ok (.ireturn, 1) := by decide +kernel
set_option maxRecDepth 20000 in
theorem ggX7_result_X7_placeNamed : GoodIn wsX7_result wsX7_placeNamed := goodIn_r _ [8, 9, 10, 11, 12, 13, 7, 14, 15, 16, 25, 26, 27, 28, 29, 30, 31, 32, 33, 34, 35, 36, 37] (by decide +kernel) (by decide +kernel)
set_option maxRecDepth 20000 in
theorem gX7_result_X7_placeNamed : GoodIn wsX7_result (wsV RX7 183 RX7 yX7_placeNamed wsX7_placeNamed) := goodIn_app (goodIn_of _ (by decide +kernel)) ggX7_result_X7_placeNamed
set_option maxRecDepth 20000 in
theorem ggX7_result_X7_isWithin : GoodIn wsX7_result wsX7_isWithin := goodIn_r _ [19] (by decide +kernel) (by decide +kernel)
set_option maxRecDepth 20000 in
theorem gX7_result_X7_isWithin : GoodIn wsX7_result (va_wsS RX7 60 yX7_isWithin wsX7_isWithin) := goodIn_app (goodIn_of _ (by decide +kernel)) ggX7_result_X7_isWithin
theorem dX7_result_0 : decode cX7_result 0 = .ok (.aload_n 0, 1) := by decide +kernel
theorem dX7_result_1 : decode cX7_result 1 = .ok (.iload_n 1, 1) := by decide +kernel
theorem dX7_result_2 : decode cX7_result 2 = .ok (.iload_n 2, 1) := by decide +kernel
theorem dX7_result_3 : decode cX7_result 3 = .ok (.invokevirtual 183, 3) := by decide +kernel
theorem dX7_result_6 : decode cX7_result 6 = .ok (.astore 4, 2) := by decide +kernel
theorem dX7_result_8 : decode cX7_result 8 = .ok (.aload 4, 2) := by decide +kernel
theorem dX7_result_10 : decode cX7_result 10 = .ok (.ifnonnull 6, 3) := by decide +kernel
theorem dX7_result_13 : decode cX7_result 13 = .ok (.bipush (-101), 2) := by decide +kernel
theorem dX7_result_15 : decode cX7_result 15 = .ok (.ireturn, 1) := by decide +kernel
theorem dX7_result_16 : decode cX7_result 16 = .ok (.iload_n 3, 1) := by decide +kernel
theorem dX7_result_17 : decode cX7_result 17 = .ok (.sipush (-1000), 3) := by decide +kernel
theorem dX7_result_20 : decode cX7_result 20 = .ok (.ldc 90, 2) := by decide +kernel
theorem dX7_result_22 : decode cX7_result 22 = .ok (.invokestatic 60, 3) := by decide +kernel
theorem dX7_result_25 : decode cX7_result 25 = .ok (.ifCond .ne 6, 3) := by decide +kernel
theorem dX7_result_28 : decode cX7_result 28 = .ok (.bipush (-102), 2) := by decide +kernel
theorem dX7_result_30 : decode cX7_result 30 = .ok (.ireturn, 1) := by decide +kernel
theorem dX7_result_31 : decode cX7_result 31 = .ok (.aload 4, 2) := by decide +kernel
theorem dX7_result_33 : decode cX7_result 33 = .ok (.iconst 1, 1) := by decide +kernel
theorem dX7_result_34 : decode cX7_result 34 = .ok (.putfield 195, 3) := by decide +kernel
theorem dX7_result_37 : decode cX7_result 37 = .ok (.aload 4, 2) := by decide +kernel
theorem dX7_result_39 : decode cX7_result 39 = .ok (.iload_n 3, 1) := by decide +kernel
theorem dX7_result_40 : decode cX7_result 40 = .ok (.putfield 199, 3) := by decide +kernel
theorem dX7_result_43 : decode cX7_result 43 = .ok (.iconst 1, 1) := by decide +kernel
theorem dX7_result_44 : decode cX7_result 44 = .ok (.ireturn, 1) := by decide +kernel
set_option maxRecDepth 20000 in
theorem ggX7_sound_X7_batchNamed : GoodIn wsX7_sound wsX7_batchNamed := goodIn_r _ [7, 8, 9, 55, 56, 57, 58, 59, 60, 61, 62, 63, 64, 65] (by decide +kernel) (by decide +kernel)
set_option maxRecDepth 20000 in
theorem gX7_sound_X7_batchNamed : GoodIn wsX7_sound (wsV RX7 167 RX7 yX7_batchNamed wsX7_batchNamed) := goodIn_app (goodIn_of _ (by decide +kernel)) ggX7_sound_X7_batchNamed
set_option maxRecDepth 20000 in
theorem ggX7_sound_X0_isComplete : GoodIn wsX7_sound wsX0_isComplete := goodIn_r _ [14, 15, 16, 17, 66, 67, 68, 69, 70, 71, 72] (by decide +kernel) (by decide +kernel)
set_option maxRecDepth 20000 in
theorem gX7_sound_X0_isComplete : GoodIn wsX7_sound (wsV RX7 202 RX0 yX0_isComplete wsX0_isComplete) := goodIn_app (goodIn_of _ (by decide +kernel)) ggX7_sound_X0_isComplete
set_option maxRecDepth 20000 in
theorem ggX7_sound_X0_isSound : GoodIn wsX7_sound wsX0_isSound := goodIn_r _ [21, 22, 11, 12, 13, 14, 15, 16, 17, 23, 24, 25, 26, 27, 28, 29, 30, 31, 32, 33, 34, 35, 36, 37, 38, 39, 40, 41, 42, 43, 44, 45, 46, 47, 48, 49, 50, 51, 52, 53, 54, 66, 67, 68, 69, 70, 71, 72] (by decide +kernel) (by decide +kernel)
set_option maxRecDepth 20000 in
theorem gX7_sound_X0_isSound : GoodIn wsX7_sound (wsV RX7 205 RX0 yX0_isSound wsX0_isSound) := goodIn_app (goodIn_of _ (by decide +kernel)) ggX7_sound_X0_isSound
theorem dX7_sound_0 : decode cX7_sound 0 = .ok (.aload_n 0, 1) := by decide +kernel
theorem dX7_sound_1 : decode cX7_sound 1 = .ok (.iload_n 1, 1) := by decide +kernel
theorem dX7_sound_2 : decode cX7_sound 2 = .ok (.invokevirtual 167, 3) := by decide +kernel
theorem dX7_sound_5 : decode cX7_sound 5 = .ok (.astore_n 2, 1) := by decide +kernel
theorem dX7_sound_6 : decode cX7_sound 6 = .ok (.aload_n 2, 1) := by decide +kernel
theorem dX7_sound_7 : decode cX7_sound 7 = .ok (.ifnonnull 6, 3) := by decide +kernel
theorem dX7_sound_10 : decode cX7_sound 10 = .ok (.bipush (-101), 2) := by decide +kernel
theorem dX7_sound_12 : decode cX7_sound 12 = .ok (.ireturn, 1) := by decide +kernel
theorem dX7_sound_13 : decode cX7_sound 13 = .ok (.aload_n 2, 1) := by decide +kernel
theorem dX7_sound_14 : decode cX7_sound 14 = .ok (.invokevirtual 202, 3) := by decide +kernel
theorem dX7_sound_17 : decode cX7_sound 17 = .ok (.ifCond .ne 6, 3) := by decide +kernel
theorem dX7_sound_20 : decode cX7_sound 20 = .ok (.bipush (-103), 2) := by decide +kernel
theorem dX7_sound_22 : decode cX7_sound 22 = .ok (.ireturn, 1) := by decide +kernel
theorem dX7_sound_23 : decode cX7_sound 23 = .ok (.aload_n 2, 1) := by decide +kernel
theorem dX7_sound_24 : decode cX7_sound 24 = .ok (.aload_n 0, 1) := by decide +kernel
theorem dX7_sound_25 : decode cX7_sound 25 = .ok (.getfield 45, 3) := by decide +kernel
theorem dX7_sound_28 : decode cX7_sound 28 = .ok (.aload_n 0, 1) := by decide +kernel
theorem dX7_sound_29 : decode cX7_sound 29 = .ok (.getfield 49, 3) := by decide +kernel
theorem dX7_sound_32 : decode cX7_sound 32 = .ok (.invokevirtual 205, 3) := by decide +kernel
theorem dX7_sound_35 : decode cX7_sound 35 = .ok (.ifCond .eq 7, 3) := by decide +kernel
theorem dX7_sound_38 : decode cX7_sound 38 = .ok (.iconst 1, 1) := by decide +kernel
theorem dX7_sound_39 : decode cX7_sound 39 = .ok (.goto 4, 3) := by decide +kernel
theorem dX7_sound_42 : decode cX7_sound 42 = .ok (.iconst 0, 1) := by decide +kernel
theorem dX7_sound_43 : decode cX7_sound 43 = .ok (.ireturn, 1) := by decide +kernel
set_option maxRecDepth 20000 in
theorem ggX7_fault_X7_batchNamed : GoodIn wsX7_fault wsX7_batchNamed := goodIn_r _ [7, 8, 9, 50, 51, 52, 53, 54, 55, 56, 57, 58, 59, 60] (by decide +kernel) (by decide +kernel)
set_option maxRecDepth 20000 in
theorem gX7_fault_X7_batchNamed : GoodIn wsX7_fault (wsV RX7 167 RX7 yX7_batchNamed wsX7_batchNamed) := goodIn_app (goodIn_of _ (by decide +kernel)) ggX7_fault_X7_batchNamed
set_option maxRecDepth 20000 in
theorem ggX7_fault_X0_isComplete : GoodIn wsX7_fault wsX0_isComplete := goodIn_r _ [14, 15, 16, 17, 61, 62, 63, 64, 65, 66, 67] (by decide +kernel) (by decide +kernel)
set_option maxRecDepth 20000 in
theorem gX7_fault_X0_isComplete : GoodIn wsX7_fault (wsV RX7 202 RX0 yX0_isComplete wsX0_isComplete) := goodIn_app (goodIn_of _ (by decide +kernel)) ggX7_fault_X0_isComplete
set_option maxRecDepth 20000 in
theorem ggX7_fault_X0_firstFault : GoodIn wsX7_fault wsX0_firstFault := goodIn_r _ [21, 15, 16, 22, 23, 24, 13, 25, 26, 27, 28, 29, 30, 31, 32, 33, 34, 35, 36, 37, 38, 39, 40, 41, 42, 43, 44, 45, 46, 47, 48, 49, 61, 62, 63, 64, 65, 66, 67] (by decide +kernel) (by decide +kernel)
set_option maxRecDepth 20000 in
theorem gX7_fault_X0_firstFault : GoodIn wsX7_fault (wsV RX7 208 RX0 yX0_firstFault wsX0_firstFault) := goodIn_app (goodIn_of _ (by decide +kernel)) ggX7_fault_X0_firstFault
theorem dX7_fault_0 : decode cX7_fault 0 = .ok (.aload_n 0, 1) := by decide +kernel
theorem dX7_fault_1 : decode cX7_fault 1 = .ok (.iload_n 1, 1) := by decide +kernel
theorem dX7_fault_2 : decode cX7_fault 2 = .ok (.invokevirtual 167, 3) := by decide +kernel
theorem dX7_fault_5 : decode cX7_fault 5 = .ok (.astore_n 2, 1) := by decide +kernel
theorem dX7_fault_6 : decode cX7_fault 6 = .ok (.aload_n 2, 1) := by decide +kernel
theorem dX7_fault_7 : decode cX7_fault 7 = .ok (.ifnonnull 6, 3) := by decide +kernel
theorem dX7_fault_10 : decode cX7_fault 10 = .ok (.bipush (-101), 2) := by decide +kernel
theorem dX7_fault_12 : decode cX7_fault 12 = .ok (.ireturn, 1) := by decide +kernel
theorem dX7_fault_13 : decode cX7_fault 13 = .ok (.aload_n 2, 1) := by decide +kernel
theorem dX7_fault_14 : decode cX7_fault 14 = .ok (.invokevirtual 202, 3) := by decide +kernel
theorem dX7_fault_17 : decode cX7_fault 17 = .ok (.ifCond .eq 18, 3) := by decide +kernel
theorem dX7_fault_20 : decode cX7_fault 20 = .ok (.aload_n 2, 1) := by decide +kernel
theorem dX7_fault_21 : decode cX7_fault 21 = .ok (.aload_n 0, 1) := by decide +kernel
theorem dX7_fault_22 : decode cX7_fault 22 = .ok (.getfield 45, 3) := by decide +kernel
theorem dX7_fault_25 : decode cX7_fault 25 = .ok (.aload_n 0, 1) := by decide +kernel
theorem dX7_fault_26 : decode cX7_fault 26 = .ok (.getfield 49, 3) := by decide +kernel
theorem dX7_fault_29 : decode cX7_fault 29 = .ok (.invokevirtual 208, 3) := by decide +kernel
theorem dX7_fault_32 : decode cX7_fault 32 = .ok (.goto 5, 3) := by decide +kernel
theorem dX7_fault_35 : decode cX7_fault 35 = .ok (.bipush (-103), 2) := by decide +kernel
theorem dX7_fault_37 : decode cX7_fault 37 = .ok (.ireturn, 1) := by decide +kernel
set_option maxRecDepth 20000 in
theorem ggX7_swap_X7_batchNamed : GoodIn wsX7_swap wsX7_batchNamed := goodIn_r _ [7, 8, 9, 64, 65, 66, 67, 68, 69, 70, 71, 72, 73, 74] (by decide +kernel) (by decide +kernel)
set_option maxRecDepth 20000 in
theorem gX7_swap_X7_batchNamed : GoodIn wsX7_swap (wsV RX7 167 RX7 yX7_batchNamed wsX7_batchNamed) := goodIn_app (goodIn_of _ (by decide +kernel)) ggX7_swap_X7_batchNamed
set_option maxRecDepth 20000 in
theorem ggX7_swap_X0_isComplete : GoodIn wsX7_swap wsX0_isComplete := goodIn_r _ [14, 15, 16, 17, 75, 76, 77, 78, 79, 80, 81] (by decide +kernel) (by decide +kernel)
set_option maxRecDepth 20000 in
theorem gX7_swap_X0_isComplete : GoodIn wsX7_swap (wsV RX7 202 RX0 yX0_isComplete wsX0_isComplete) := goodIn_app (goodIn_of _ (by decide +kernel)) ggX7_swap_X0_isComplete
set_option maxRecDepth 20000 in
theorem ggX7_swap_X0_isSound : GoodIn wsX7_swap wsX0_isSound := goodIn_r _ [21, 22, 11, 12, 13, 14, 15, 16, 17, 23, 24, 25, 26, 27, 28, 29, 30, 31, 32, 33, 34, 35, 36, 37, 38, 39, 40, 41, 42, 43, 44, 45, 46, 47, 48, 49, 50, 51, 52, 53, 54, 75, 76, 77, 78, 79, 80, 81] (by decide +kernel) (by decide +kernel)
set_option maxRecDepth 20000 in
theorem gX7_swap_X0_isSound : GoodIn wsX7_swap (wsV RX7 205 RX0 yX0_isSound wsX0_isSound) := goodIn_app (goodIn_of _ (by decide +kernel)) ggX7_swap_X0_isSound
set_option maxRecDepth 20000 in
theorem ggX7_swap_X0_leastMendingSwap : GoodIn wsX7_swap wsX0_leastMendingSwap := goodIn_r _ [58, 15, 16, 59, 60, 61, 41, 62, 43, 63, 19, 20, 13, 21, 22, 11, 12, 14, 17, 23, 24, 25, 26, 27, 28, 29, 30, 31, 32, 33, 34, 35, 36, 37, 38, 39, 40, 42, 44, 45, 46, 47, 48, 49, 50, 51, 52, 53, 54, 75, 76, 77, 78, 79, 80, 81] (by decide +kernel) (by decide +kernel)
set_option maxRecDepth 20000 in
theorem gX7_swap_X0_leastMendingSwap : GoodIn wsX7_swap (wsV RX7 211 RX0 yX0_leastMendingSwap wsX0_leastMendingSwap) := goodIn_app (goodIn_of _ (by decide +kernel)) ggX7_swap_X0_leastMendingSwap
theorem dX7_swap_0 : decode cX7_swap 0 = .ok (.aload_n 0, 1) := by decide +kernel
theorem dX7_swap_1 : decode cX7_swap 1 = .ok (.iload_n 1, 1) := by decide +kernel
theorem dX7_swap_2 : decode cX7_swap 2 = .ok (.invokevirtual 167, 3) := by decide +kernel
theorem dX7_swap_5 : decode cX7_swap 5 = .ok (.astore_n 2, 1) := by decide +kernel
theorem dX7_swap_6 : decode cX7_swap 6 = .ok (.aload_n 2, 1) := by decide +kernel
theorem dX7_swap_7 : decode cX7_swap 7 = .ok (.ifnonnull 6, 3) := by decide +kernel
theorem dX7_swap_10 : decode cX7_swap 10 = .ok (.bipush (-101), 2) := by decide +kernel
theorem dX7_swap_12 : decode cX7_swap 12 = .ok (.ireturn, 1) := by decide +kernel
theorem dX7_swap_13 : decode cX7_swap 13 = .ok (.aload_n 2, 1) := by decide +kernel
theorem dX7_swap_14 : decode cX7_swap 14 = .ok (.invokevirtual 202, 3) := by decide +kernel
theorem dX7_swap_17 : decode cX7_swap 17 = .ok (.ifCond .ne 6, 3) := by decide +kernel
theorem dX7_swap_20 : decode cX7_swap 20 = .ok (.bipush (-103), 2) := by decide +kernel
theorem dX7_swap_22 : decode cX7_swap 22 = .ok (.ireturn, 1) := by decide +kernel
theorem dX7_swap_23 : decode cX7_swap 23 = .ok (.aload_n 2, 1) := by decide +kernel
theorem dX7_swap_24 : decode cX7_swap 24 = .ok (.aload_n 0, 1) := by decide +kernel
theorem dX7_swap_25 : decode cX7_swap 25 = .ok (.getfield 45, 3) := by decide +kernel
theorem dX7_swap_28 : decode cX7_swap 28 = .ok (.aload_n 0, 1) := by decide +kernel
theorem dX7_swap_29 : decode cX7_swap 29 = .ok (.getfield 49, 3) := by decide +kernel
theorem dX7_swap_32 : decode cX7_swap 32 = .ok (.invokevirtual 205, 3) := by decide +kernel
theorem dX7_swap_35 : decode cX7_swap 35 = .ok (.ifCond .eq 7, 3) := by decide +kernel
theorem dX7_swap_38 : decode cX7_swap 38 = .ok (.iconst (-1), 1) := by decide +kernel
theorem dX7_swap_39 : decode cX7_swap 39 = .ok (.goto 15, 3) := by decide +kernel
theorem dX7_swap_42 : decode cX7_swap 42 = .ok (.aload_n 2, 1) := by decide +kernel
theorem dX7_swap_43 : decode cX7_swap 43 = .ok (.aload_n 0, 1) := by decide +kernel
theorem dX7_swap_44 : decode cX7_swap 44 = .ok (.getfield 45, 3) := by decide +kernel
theorem dX7_swap_47 : decode cX7_swap 47 = .ok (.aload_n 0, 1) := by decide +kernel
theorem dX7_swap_48 : decode cX7_swap 48 = .ok (.getfield 49, 3) := by decide +kernel
theorem dX7_swap_51 : decode cX7_swap 51 = .ok (.invokevirtual 211, 3) := by decide +kernel
theorem dX7_swap_54 : decode cX7_swap 54 = .ok (.ireturn, 1) := by decide +kernel
set_option maxRecDepth 20000 in
theorem ggX7_exchange_X7_placeNamed : GoodIn wsX7_exchange wsX7_placeNamed := goodIn_r _ [6, 7, 8, 9, 10, 11, 5, 12, 13, 14, 26, 27, 28, 29, 30, 31, 32, 33, 34, 35, 36, 37, 38] (by decide +kernel) (by decide +kernel)
set_option maxRecDepth 20000 in
theorem gX7_exchange_X7_placeNamed : GoodIn wsX7_exchange (wsV RX7 183 RX7 yX7_placeNamed wsX7_placeNamed) := goodIn_app (goodIn_of _ (by decide +kernel)) ggX7_exchange_X7_placeNamed
set_option maxRecDepth 20000 in
theorem ggX7_exchange_X5_exchangeResult : GoodIn wsX7_exchange wsX5_exchangeResult := goodIn_r _ [19, 20, 21, 22, 23, 24, 25] (by decide +kernel) (by decide +kernel)
set_option maxRecDepth 20000 in
theorem gX7_exchange_X5_exchangeResult : GoodIn wsX7_exchange (wsV RX7 214 RX5 yX5_exchangeResult wsX5_exchangeResult) := goodIn_app (goodIn_of _ (by decide +kernel)) ggX7_exchange_X5_exchangeResult
theorem dX7_exchange_0 : decode cX7_exchange 0 = .ok (.aload_n 0, 1) := by decide +kernel
theorem dX7_exchange_1 : decode cX7_exchange 1 = .ok (.iload_n 1, 1) := by decide +kernel
theorem dX7_exchange_2 : decode cX7_exchange 2 = .ok (.iload_n 2, 1) := by decide +kernel
theorem dX7_exchange_3 : decode cX7_exchange 3 = .ok (.invokevirtual 183, 3) := by decide +kernel
theorem dX7_exchange_6 : decode cX7_exchange 6 = .ok (.astore_n 3, 1) := by decide +kernel
theorem dX7_exchange_7 : decode cX7_exchange 7 = .ok (.aload_n 3, 1) := by decide +kernel
theorem dX7_exchange_8 : decode cX7_exchange 8 = .ok (.ifnonnull 7, 3) := by decide +kernel
theorem dX7_exchange_11 : decode cX7_exchange 11 = .ok (.aconst_null, 1) := by decide +kernel
theorem dX7_exchange_12 : decode cX7_exchange 12 = .ok (.goto 11, 3) := by decide +kernel
theorem dX7_exchange_15 : decode cX7_exchange 15 = .ok (.aload_n 0, 1) := by decide +kernel
theorem dX7_exchange_16 : decode cX7_exchange 16 = .ok (.iload_n 1, 1) := by decide +kernel
theorem dX7_exchange_17 : decode cX7_exchange 17 = .ok (.iload_n 2, 1) := by decide +kernel
theorem dX7_exchange_18 : decode cX7_exchange 18 = .ok (.iconst 1, 1) := by decide +kernel
theorem dX7_exchange_19 : decode cX7_exchange 19 = .ok (.iadd, 1) := by decide +kernel
theorem dX7_exchange_20 : decode cX7_exchange 20 = .ok (.invokevirtual 183, 3) := by decide +kernel
theorem dX7_exchange_23 : decode cX7_exchange 23 = .ok (.astore 4, 2) := by decide +kernel
theorem dX7_exchange_25 : decode cX7_exchange 25 = .ok (.aload_n 3, 1) := by decide +kernel
theorem dX7_exchange_26 : decode cX7_exchange 26 = .ok (.ifnull 8, 3) := by decide +kernel
theorem dX7_exchange_29 : decode cX7_exchange 29 = .ok (.aload 4, 2) := by decide +kernel
theorem dX7_exchange_31 : decode cX7_exchange 31 = .ok (.ifnonnull 6, 3) := by decide +kernel
theorem dX7_exchange_34 : decode cX7_exchange 34 = .ok (.bipush (-101), 2) := by decide +kernel
theorem dX7_exchange_36 : decode cX7_exchange 36 = .ok (.ireturn, 1) := by decide +kernel
theorem dX7_exchange_37 : decode cX7_exchange 37 = .ok (.aload_n 3, 1) := by decide +kernel
theorem dX7_exchange_38 : decode cX7_exchange 38 = .ok (.getfield 195, 3) := by decide +kernel
theorem dX7_exchange_41 : decode cX7_exchange 41 = .ok (.ifCond .eq 11, 3) := by decide +kernel
theorem dX7_exchange_44 : decode cX7_exchange 44 = .ok (.aload 4, 2) := by decide +kernel
theorem dX7_exchange_46 : decode cX7_exchange 46 = .ok (.getfield 195, 3) := by decide +kernel
theorem dX7_exchange_49 : decode cX7_exchange 49 = .ok (.ifCond .ne 6, 3) := by decide +kernel
theorem dX7_exchange_52 : decode cX7_exchange 52 = .ok (.bipush (-103), 2) := by decide +kernel
theorem dX7_exchange_54 : decode cX7_exchange 54 = .ok (.ireturn, 1) := by decide +kernel
theorem dX7_exchange_55 : decode cX7_exchange 55 = .ok (.aload_n 3, 1) := by decide +kernel
theorem dX7_exchange_56 : decode cX7_exchange 56 = .ok (.aload 4, 2) := by decide +kernel
theorem dX7_exchange_58 : decode cX7_exchange 58 = .ok (.invokevirtual 214, 3) := by decide +kernel
theorem dX7_exchange_61 : decode cX7_exchange 61 = .ok (.iconst 1, 1) := by decide +kernel
theorem dX7_exchange_62 : decode cX7_exchange 62 = .ok (.ireturn, 1) := by decide +kernel
set_option maxRecDepth 20000 in
theorem ggX7_about_X7_placeNamed : GoodIn wsX7_about wsX7_placeNamed := goodIn_r _ [5, 6, 7, 8, 9, 10, 4, 11, 12, 13, 27, 28, 29, 30, 31, 32, 33, 34, 35, 36, 37, 38, 39] (by decide +kernel) (by decide +kernel)
set_option maxRecDepth 20000 in
theorem gX7_about_X7_placeNamed : GoodIn wsX7_about (wsV RX7 183 RX7 yX7_placeNamed wsX7_placeNamed) := goodIn_app (goodIn_of _ (by decide +kernel)) ggX7_about_X7_placeNamed
set_option maxRecDepth 20000 in
theorem ggX7_about_X7_isWithin : GoodIn wsX7_about wsX7_isWithin := goodIn_r _ [16] (by decide +kernel) (by decide +kernel)
set_option maxRecDepth 20000 in
theorem gX7_about_X7_isWithin : GoodIn wsX7_about (va_wsS RX7 60 yX7_isWithin wsX7_isWithin) := goodIn_app (goodIn_of _ (by decide +kernel)) ggX7_about_X7_isWithin
set_option maxRecDepth 20000 in
theorem ggX7_about_X5_told : GoodIn wsX7_about wsX5_told := goodIn_r _ [21, 22, 23, 24, 25, 26, 40, 41, 42, 43, 44] (by decide +kernel) (by decide +kernel)
set_option maxRecDepth 20000 in
theorem gX7_about_X5_told : GoodIn wsX7_about (wsV RX7 218 RX5 yX5_told wsX5_told) := goodIn_app (goodIn_of _ (by decide +kernel)) ggX7_about_X5_told
theorem dX7_about_0 : decode cX7_about 0 = .ok (.aload_n 0, 1) := by decide +kernel
theorem dX7_about_1 : decode cX7_about 1 = .ok (.iload_n 1, 1) := by decide +kernel
theorem dX7_about_2 : decode cX7_about 2 = .ok (.iload_n 2, 1) := by decide +kernel
theorem dX7_about_3 : decode cX7_about 3 = .ok (.invokevirtual 183, 3) := by decide +kernel
theorem dX7_about_6 : decode cX7_about 6 = .ok (.astore 4, 2) := by decide +kernel
theorem dX7_about_8 : decode cX7_about 8 = .ok (.aload 4, 2) := by decide +kernel
theorem dX7_about_10 : decode cX7_about 10 = .ok (.ifnonnull 6, 3) := by decide +kernel
theorem dX7_about_13 : decode cX7_about 13 = .ok (.bipush (-101), 2) := by decide +kernel
theorem dX7_about_15 : decode cX7_about 15 = .ok (.ireturn, 1) := by decide +kernel
theorem dX7_about_16 : decode cX7_about 16 = .ok (.iload_n 3, 1) := by decide +kernel
theorem dX7_about_17 : decode cX7_about 17 = .ok (.iconst 0, 1) := by decide +kernel
theorem dX7_about_18 : decode cX7_about 18 = .ok (.iconst 4, 1) := by decide +kernel
theorem dX7_about_19 : decode cX7_about 19 = .ok (.invokestatic 60, 3) := by decide +kernel
theorem dX7_about_22 : decode cX7_about 22 = .ok (.ifCond .eq 12, 3) := by decide +kernel
theorem dX7_about_25 : decode cX7_about 25 = .ok (.aload 4, 2) := by decide +kernel
theorem dX7_about_27 : decode cX7_about 27 = .ok (.iload_n 3, 1) := by decide +kernel
theorem dX7_about_28 : decode cX7_about 28 = .ok (.invokevirtual 218, 3) := by decide +kernel
theorem dX7_about_31 : decode cX7_about 31 = .ok (.goto 5, 3) := by decide +kernel
theorem dX7_about_34 : decode cX7_about 34 = .ok (.bipush (-102), 2) := by decide +kernel
theorem dX7_about_36 : decode cX7_about 36 = .ok (.ireturn, 1) := by decide +kernel
set_option maxRecDepth 20000 in
theorem ggX7_grade_X7_sampleNamed : GoodIn wsX7_grade wsX7_sampleNamed := goodIn_r _ [5, 6, 7, 70, 71, 72, 73, 74, 75, 76, 77, 78, 79, 80] (by decide +kernel) (by decide +kernel)
set_option maxRecDepth 20000 in
theorem gX7_grade_X7_sampleNamed : GoodIn wsX7_grade (wsV RX7 156 RX7 yX7_sampleNamed wsX7_sampleNamed) := goodIn_app (goodIn_of _ (by decide +kernel)) ggX7_grade_X7_sampleNamed
set_option maxRecDepth 20000 in
theorem ggX7_grade_X7_gradingPlace : GoodIn wsX7_grade wsX7_gradingPlace := goodIn_r _ [11, 12, 13, 14, 15, 16, 17, 18, 19, 20, 21, 22, 23, 24, 25, 26, 27, 28, 29, 30, 31, 32, 33, 34, 35, 36, 37, 38, 39, 40, 41, 42, 43, 44, 45, 46, 47, 48, 49, 50, 51, 52, 53, 54, 55, 56, 57, 58, 59, 60, 61, 62, 63, 70, 71, 72, 73, 74, 75, 76, 77, 78, 79, 80, 81, 82, 83, 84, 85, 86, 87] (by decide +kernel) (by decide +kernel)
set_option maxRecDepth 20000 in
theorem gX7_grade_X7_gradingPlace : GoodIn wsX7_grade (wsV RX7 221 RX7 yX7_gradingPlace wsX7_gradingPlace) := goodIn_app (goodIn_of _ (by decide +kernel)) ggX7_grade_X7_gradingPlace
set_option maxRecDepth 20000 in
theorem ggX7_grade_X5_endOn : GoodIn wsX7_grade wsX5_endOn := goodIn_r _ [67, 68, 48, 49, 50, 51, 52, 53, 54, 44, 55, 69, 57, 58, 59, 83, 84, 85, 86, 87] (by decide +kernel) (by decide +kernel)
set_option maxRecDepth 20000 in
theorem gX7_grade_X5_endOn : GoodIn wsX7_grade (wsV RX7 224 RX5 yX5_endOn wsX5_endOn) := goodIn_app (goodIn_of _ (by decide +kernel)) ggX7_grade_X5_endOn
theorem dX7_grade_0 : decode cX7_grade 0 = .ok (.aload_n 0, 1) := by decide +kernel
theorem dX7_grade_1 : decode cX7_grade 1 = .ok (.iload_n 1, 1) := by decide +kernel
theorem dX7_grade_2 : decode cX7_grade 2 = .ok (.invokevirtual 156, 3) := by decide +kernel
theorem dX7_grade_5 : decode cX7_grade 5 = .ok (.ifnonnull 6, 3) := by decide +kernel
theorem dX7_grade_8 : decode cX7_grade 8 = .ok (.bipush (-101), 2) := by decide +kernel
theorem dX7_grade_10 : decode cX7_grade 10 = .ok (.ireturn, 1) := by decide +kernel
theorem dX7_grade_11 : decode cX7_grade 11 = .ok (.iload_n 2, 1) := by decide +kernel
theorem dX7_grade_12 : decode cX7_grade 12 = .ok (.ifCond .eq 11, 3) := by decide +kernel
theorem dX7_grade_15 : decode cX7_grade 15 = .ok (.iload_n 2, 1) := by decide +kernel
theorem dX7_grade_16 : decode cX7_grade 16 = .ok (.iconst 1, 1) := by decide +kernel
theorem dX7_grade_17 : decode cX7_grade 17 = .ok (.if_icmp .eq 6, 3) := by decide +kernel
theorem dX7_grade_20 : decode cX7_grade 20 = .ok (.bipush (-102), 2) := by decide +kernel
theorem dX7_grade_22 : decode cX7_grade 22 = .ok (.ireturn, 1) := by decide +kernel
theorem dX7_grade_23 : decode cX7_grade 23 = .ok (.aload_n 0, 1) := by decide +kernel
theorem dX7_grade_24 : decode cX7_grade 24 = .ok (.iload_n 1, 1) := by decide +kernel
theorem dX7_grade_25 : decode cX7_grade 25 = .ok (.invokevirtual 221, 3) := by decide +kernel
theorem dX7_grade_28 : decode cX7_grade 28 = .ok (.astore_n 3, 1) := by decide +kernel
theorem dX7_grade_29 : decode cX7_grade 29 = .ok (.aload_n 3, 1) := by decide +kernel
theorem dX7_grade_30 : decode cX7_grade 30 = .ok (.ifnonnull 7, 3) := by decide +kernel
theorem dX7_grade_33 : decode cX7_grade 33 = .ok (.iconst (-1), 1) := by decide +kernel
theorem dX7_grade_34 : decode cX7_grade 34 = .ok (.goto 8, 3) := by decide +kernel
theorem dX7_grade_37 : decode cX7_grade 37 = .ok (.aload_n 3, 1) := by decide +kernel
theorem dX7_grade_38 : decode cX7_grade 38 = .ok (.iload_n 2, 1) := by decide +kernel
theorem dX7_grade_39 : decode cX7_grade 39 = .ok (.invokevirtual 224, 3) := by decide +kernel
theorem dX7_grade_42 : decode cX7_grade 42 = .ok (.ireturn, 1) := by decide +kernel
set_option maxRecDepth 20000 in
theorem ggX7_composite_X7_holeNamed : GoodIn wsX7_composite wsX7_holeNamed := goodIn_r _ [14, 15, 16, 98, 99, 100, 101, 102, 103, 104, 105, 106, 107, 108] (by decide +kernel) (by decide +kernel)
set_option maxRecDepth 20000 in
theorem gX7_composite_X7_holeNamed : GoodIn wsX7_composite (wsV RX7 56 RX7 yX7_holeNamed wsX7_holeNamed) := goodIn_app (goodIn_of _ (by decide +kernel)) ggX7_composite_X7_holeNamed
set_option maxRecDepth 20000 in
theorem ggX7_composite_X1_isStretch : GoodIn wsX7_composite wsX1_isStretch := goodIn_r _ [21, 22, 109, 110, 111, 112, 113, 114, 115, 116] (by decide +kernel) (by decide +kernel)
set_option maxRecDepth 20000 in
theorem gX7_composite_X1_isStretch : GoodIn wsX7_composite (wsV RX7 82 RX1 yX1_isStretch wsX1_isStretch) := goodIn_app (goodIn_of _ (by decide +kernel)) ggX7_composite_X1_isStretch
set_option maxRecDepth 20000 in
theorem ggX7_composite_X7_isWithin : GoodIn wsX7_composite wsX7_isWithin := goodIn_r _ [25] (by decide +kernel) (by decide +kernel)
set_option maxRecDepth 20000 in
theorem gX7_composite_X7_isWithin : GoodIn wsX7_composite (va_wsS RX7 60 yX7_isWithin wsX7_isWithin) := goodIn_app (goodIn_of _ (by decide +kernel)) ggX7_composite_X7_isWithin
set_option maxRecDepth 20000 in
theorem ggX7_composite_X6_unitsWithin : GoodIn wsX7_composite wsX6_unitsWithin := goodIn_r _ [30, 31, 32, 33, 34, 13, 35, 6, 7, 8, 9, 36, 37, 38, 117, 118, 119, 120] (by decide +kernel) (by decide +kernel)
set_option maxRecDepth 20000 in
theorem gX7_composite_X6_unitsWithin : GoodIn wsX7_composite (wsV RX7 231 RX6 yX6_unitsWithin wsX6_unitsWithin) := goodIn_app (goodIn_of _ (by decide +kernel)) ggX7_composite_X6_unitsWithin
set_option maxRecDepth 20000 in
theorem ggX7_composite_X7_gradingPlace : GoodIn wsX7_composite wsX7_gradingPlace := goodIn_r _ [42, 43, 44, 45, 46, 47, 48, 49, 50, 51, 52, 53, 54, 55, 56, 57, 58, 59, 60, 61, 62, 63, 64, 65, 66, 67, 68, 69, 70, 71, 72, 73, 74, 8, 75, 76, 77, 78, 79, 80, 81, 82, 83, 37, 38, 84, 85, 86, 87, 88, 89, 90, 91, 98, 99, 100, 101, 102, 103, 104, 105, 106, 107, 108, 121, 122, 123, 124, 125, 126, 127] (by decide +kernel) (by decide +kernel)
set_option maxRecDepth 20000 in
theorem gX7_composite_X7_gradingPlace : GoodIn wsX7_composite (wsV RX7 221 RX7 yX7_gradingPlace wsX7_gradingPlace) := goodIn_app (goodIn_of _ (by decide +kernel)) ggX7_composite_X7_gradingPlace
set_option maxRecDepth 20000 in
theorem ggX7_composite_X5_endOn : GoodIn wsX7_composite wsX5_endOn := goodIn_r _ [95, 96, 78, 79, 80, 81, 82, 83, 37, 8, 38, 97, 85, 86, 87, 123, 124, 125, 126, 127] (by decide +kernel) (by decide +kernel)
set_option maxRecDepth 20000 in
theorem gX7_composite_X5_endOn : GoodIn wsX7_composite (wsV RX7 224 RX5 yX5_endOn wsX5_endOn) := goodIn_app (goodIn_of _ (by decide +kernel)) ggX7_composite_X5_endOn
theorem dX7_composite_0 : decode cX7_composite 0 = .ok (.aload_n 0, 1) := by decide +kernel
theorem dX7_composite_1 : decode cX7_composite 1 = .ok (.iload_n 1, 1) := by decide +kernel
theorem dX7_composite_2 : decode cX7_composite 2 = .ok (.invokevirtual 56, 3) := by decide +kernel
theorem dX7_composite_5 : decode cX7_composite 5 = .ok (.astore 6, 2) := by decide +kernel
theorem dX7_composite_7 : decode cX7_composite 7 = .ok (.aload 6, 2) := by decide +kernel
theorem dX7_composite_9 : decode cX7_composite 9 = .ok (.ifnonnull 7, 3) := by decide +kernel
theorem dX7_composite_12 : decode cX7_composite 12 = .ok (.ldc2_w 227, 3) := by decide +kernel
theorem dX7_composite_15 : decode cX7_composite 15 = .ok (.lreturn, 1) := by decide +kernel
theorem dX7_composite_16 : decode cX7_composite 16 = .ok (.aload 6, 2) := by decide +kernel
theorem dX7_composite_18 : decode cX7_composite 18 = .ok (.iload_n 2, 1) := by decide +kernel
theorem dX7_composite_19 : decode cX7_composite 19 = .ok (.iload_n 3, 1) := by decide +kernel
theorem dX7_composite_20 : decode cX7_composite 20 = .ok (.invokevirtual 82, 3) := by decide +kernel
theorem dX7_composite_23 : decode cX7_composite 23 = .ok (.ifCond .eq 24, 3) := by decide +kernel
theorem dX7_composite_26 : decode cX7_composite 26 = .ok (.iload 5, 2) := by decide +kernel
theorem dX7_composite_28 : decode cX7_composite 28 = .ok (.iconst 0, 1) := by decide +kernel
theorem dX7_composite_29 : decode cX7_composite 29 = .ok (.iconst 2, 1) := by decide +kernel
theorem dX7_composite_30 : decode cX7_composite 30 = .ok (.invokestatic 60, 3) := by decide +kernel
theorem dX7_composite_33 : decode cX7_composite 33 = .ok (.ifCond .eq 14, 3) := by decide +kernel
theorem dX7_composite_36 : decode cX7_composite 36 = .ok (.iload 4, 2) := by decide +kernel
theorem dX7_composite_38 : decode cX7_composite 38 = .ok (.iconst 1, 1) := by decide +kernel
theorem dX7_composite_39 : decode cX7_composite 39 = .ok (.ldc 90, 2) := by decide +kernel
theorem dX7_composite_41 : decode cX7_composite 41 = .ok (.invokestatic 60, 3) := by decide +kernel
theorem dX7_composite_44 : decode cX7_composite 44 = .ok (.ifCond .ne 7, 3) := by decide +kernel
theorem dX7_composite_47 : decode cX7_composite 47 = .ok (.ldc2_w 229, 3) := by decide +kernel
theorem dX7_composite_50 : decode cX7_composite 50 = .ok (.lreturn, 1) := by decide +kernel
theorem dX7_composite_51 : decode cX7_composite 51 = .ok (.lconst 0, 1) := by decide +kernel
theorem dX7_composite_52 : decode cX7_composite 52 = .ok (.lstore 7, 2) := by decide +kernel
theorem dX7_composite_54 : decode cX7_composite 54 = .ok (.iconst 0, 1) := by decide +kernel
theorem dX7_composite_55 : decode cX7_composite 55 = .ok (.istore 9, 2) := by decide +kernel
theorem dX7_composite_57 : decode cX7_composite 57 = .ok (.iload 9, 2) := by decide +kernel
theorem dX7_composite_59 : decode cX7_composite 59 = .ok (.aload_n 0, 1) := by decide +kernel
theorem dX7_composite_60 : decode cX7_composite 60 = .ok (.getfield 150, 3) := by decide +kernel
theorem dX7_composite_63 : decode cX7_composite 63 = .ok (.if_icmp .ge 78, 3) := by decide +kernel
theorem dX7_composite_66 : decode cX7_composite 66 = .ok (.aload_n 0, 1) := by decide +kernel
theorem dX7_composite_67 : decode cX7_composite 67 = .ok (.getfield 17, 3) := by decide +kernel
theorem dX7_composite_70 : decode cX7_composite 70 = .ok (.iload 9, 2) := by decide +kernel
theorem dX7_composite_72 : decode cX7_composite 72 = .ok (.aaload, 1) := by decide +kernel
theorem dX7_composite_73 : decode cX7_composite 73 = .ok (.iload_n 1, 1) := by decide +kernel
theorem dX7_composite_74 : decode cX7_composite 74 = .ok (.iload_n 2, 1) := by decide +kernel
theorem dX7_composite_75 : decode cX7_composite 75 = .ok (.iload_n 3, 1) := by decide +kernel
theorem dX7_composite_76 : decode cX7_composite 76 = .ok (.invokevirtual 231, 3) := by decide +kernel
theorem dX7_composite_79 : decode cX7_composite 79 = .ok (.istore 10, 2) := by decide +kernel
theorem dX7_composite_81 : decode cX7_composite 81 = .ok (.iload 10, 2) := by decide +kernel
theorem dX7_composite_83 : decode cX7_composite 83 = .ok (.ifCond .ne 7, 3) := by decide +kernel
theorem dX7_composite_86 : decode cX7_composite 86 = .ok (.aconst_null, 1) := by decide +kernel
theorem dX7_composite_87 : decode cX7_composite 87 = .ok (.goto 9, 3) := by decide +kernel
theorem dX7_composite_90 : decode cX7_composite 90 = .ok (.aload_n 0, 1) := by decide +kernel
theorem dX7_composite_91 : decode cX7_composite 91 = .ok (.iload 9, 2) := by decide +kernel
theorem dX7_composite_93 : decode cX7_composite 93 = .ok (.invokevirtual 221, 3) := by decide +kernel
theorem dX7_composite_96 : decode cX7_composite 96 = .ok (.astore 11, 2) := by decide +kernel
theorem dX7_composite_98 : decode cX7_composite 98 = .ok (.aload 11, 2) := by decide +kernel
theorem dX7_composite_100 : decode cX7_composite 100 = .ok (.ifnull 35, 3) := by decide +kernel
theorem dX7_composite_103 : decode cX7_composite 103 = .ok (.lload 7, 2) := by decide +kernel
theorem dX7_composite_105 : decode cX7_composite 105 = .ok (.iload 10, 2) := by decide +kernel
theorem dX7_composite_107 : decode cX7_composite 107 = .ok (.i2l, 1) := by decide +kernel
theorem dX7_composite_108 : decode cX7_composite 108 = .ok (.iload 5, 2) := by decide +kernel
theorem dX7_composite_110 : decode cX7_composite 110 = .ok (.iconst 2, 1) := by decide +kernel
theorem dX7_composite_111 : decode cX7_composite 111 = .ok (.if_icmp .ne 7, 3) := by decide +kernel
theorem dX7_composite_114 : decode cX7_composite 114 = .ok (.iconst 1, 1) := by decide +kernel
theorem dX7_composite_115 : decode cX7_composite 115 = .ok (.goto 15, 3) := by decide +kernel
theorem dX7_composite_118 : decode cX7_composite 118 = .ok (.aload 11, 2) := by decide +kernel
theorem dX7_composite_120 : decode cX7_composite 120 = .ok (.iload 5, 2) := by decide +kernel
theorem dX7_composite_122 : decode cX7_composite 122 = .ok (.invokevirtual 224, 3) := by decide +kernel
theorem dX7_composite_125 : decode cX7_composite 125 = .ok (.iload 4, 2) := by decide +kernel
theorem dX7_composite_127 : decode cX7_composite 127 = .ok (.invokestatic 235, 3) := by decide +kernel
theorem dX7_composite_130 : decode cX7_composite 130 = .ok (.i2l, 1) := by decide +kernel
theorem dX7_composite_131 : decode cX7_composite 131 = .ok (.lmul, 1) := by decide +kernel
theorem dX7_composite_132 : decode cX7_composite 132 = .ok (.ladd, 1) := by decide +kernel
theorem dX7_composite_133 : decode cX7_composite 133 = .ok (.lstore 7, 2) := by decide +kernel
theorem dX7_composite_135 : decode cX7_composite 135 = .ok (.iinc 9 1, 3) := by decide +kernel
theorem dX7_composite_138 : decode cX7_composite 138 = .ok (.goto (-81), 3) := by decide +kernel
theorem dX7_composite_141 : decode cX7_composite 141 = .ok (.lload 7, 2) := by decide +kernel
theorem dX7_composite_143 : decode cX7_composite 143 = .ok (.lreturn, 1) := by decide +kernel
set_option maxRecDepth 20000 in
theorem ggX7_cost_X7_holeNamed : GoodIn wsX7_cost wsX7_holeNamed := goodIn_r _ [9, 10, 11, 54, 55, 56, 57, 58, 59, 60, 61, 62, 63, 64] (by decide +kernel) (by decide +kernel)
set_option maxRecDepth 20000 in
theorem gX7_cost_X7_holeNamed : GoodIn wsX7_cost (wsV RX7 56 RX7 yX7_holeNamed wsX7_holeNamed) := goodIn_app (goodIn_of _ (by decide +kernel)) ggX7_cost_X7_holeNamed
set_option maxRecDepth 20000 in
theorem ggX7_cost_X3_weigh : GoodIn wsX7_cost wsX3_weigh := goodIn_r _ [16, 17, 18, 19, 20, 21, 15, 22, 23, 24, 25, 26, 27, 28, 29, 30, 31, 32, 33, 34, 35, 36, 37, 38, 39, 40, 41, 42, 43, 44, 45, 46, 47, 48, 49, 50, 51, 52, 53, 74, 75, 76, 73] (by decide +kernel) (by decide +kernel)
set_option maxRecDepth 20000 in
theorem gX7_cost_X3_weigh : GoodIn wsX7_cost (wsV RX7 240 RX3 yX3_weigh wsX3_weigh) := goodIn_app (goodIn_of _ (by decide +kernel)) ggX7_cost_X3_weigh
theorem dX7_cost_0 : decode cX7_cost 0 = .ok (.aload_n 0, 1) := by decide +kernel
theorem dX7_cost_1 : decode cX7_cost 1 = .ok (.iload_n 1, 1) := by decide +kernel
theorem dX7_cost_2 : decode cX7_cost 2 = .ok (.invokevirtual 56, 3) := by decide +kernel
theorem dX7_cost_5 : decode cX7_cost 5 = .ok (.astore_n 3, 1) := by decide +kernel
theorem dX7_cost_6 : decode cX7_cost 6 = .ok (.aload_n 0, 1) := by decide +kernel
theorem dX7_cost_7 : decode cX7_cost 7 = .ok (.iload_n 2, 1) := by decide +kernel
theorem dX7_cost_8 : decode cX7_cost 8 = .ok (.invokevirtual 56, 3) := by decide +kernel
theorem dX7_cost_11 : decode cX7_cost 11 = .ok (.astore 4, 2) := by decide +kernel
theorem dX7_cost_13 : decode cX7_cost 13 = .ok (.aload_n 3, 1) := by decide +kernel
theorem dX7_cost_14 : decode cX7_cost 14 = .ok (.ifnull 8, 3) := by decide +kernel
theorem dX7_cost_17 : decode cX7_cost 17 = .ok (.aload 4, 2) := by decide +kernel
theorem dX7_cost_19 : decode cX7_cost 19 = .ok (.ifnonnull 6, 3) := by decide +kernel
theorem dX7_cost_22 : decode cX7_cost 22 = .ok (.bipush (-101), 2) := by decide +kernel
theorem dX7_cost_24 : decode cX7_cost 24 = .ok (.ireturn, 1) := by decide +kernel
theorem dX7_cost_25 : decode cX7_cost 25 = .ok (.aload_n 0, 1) := by decide +kernel
theorem dX7_cost_26 : decode cX7_cost 26 = .ok (.getfield 41, 3) := by decide +kernel
theorem dX7_cost_29 : decode cX7_cost 29 = .ok (.aload_n 3, 1) := by decide +kernel
theorem dX7_cost_30 : decode cX7_cost 30 = .ok (.getfield 130, 3) := by decide +kernel
theorem dX7_cost_33 : decode cX7_cost 33 = .ok (.aload 4, 2) := by decide +kernel
theorem dX7_cost_35 : decode cX7_cost 35 = .ok (.getfield 130, 3) := by decide +kernel
theorem dX7_cost_38 : decode cX7_cost 38 = .ok (.aload_n 0, 1) := by decide +kernel
theorem dX7_cost_39 : decode cX7_cost 39 = .ok (.getfield 27, 3) := by decide +kernel
theorem dX7_cost_42 : decode cX7_cost 42 = .ok (.invokevirtual 240, 3) := by decide +kernel
theorem dX7_cost_45 : decode cX7_cost 45 = .ok (.aload_n 0, 1) := by decide +kernel
theorem dX7_cost_46 : decode cX7_cost 46 = .ok (.getfield 41, 3) := by decide +kernel
theorem dX7_cost_49 : decode cX7_cost 49 = .ok (.getfield 244, 3) := by decide +kernel
theorem dX7_cost_52 : decode cX7_cost 52 = .ok (.iconst 0, 1) := by decide +kernel
theorem dX7_cost_53 : decode cX7_cost 53 = .ok (.aaload, 1) := by decide +kernel
theorem dX7_cost_54 : decode cX7_cost 54 = .ok (.iconst 0, 1) := by decide +kernel
theorem dX7_cost_55 : decode cX7_cost 55 = .ok (.iaload, 1) := by decide +kernel
theorem dX7_cost_56 : decode cX7_cost 56 = .ok (.ireturn, 1) := by decide +kernel
set_option maxRecDepth 20000 in
theorem ggX7_matched_X7_holeNamed : GoodIn wsX7_matched wsX7_holeNamed := goodIn_r _ [9, 10, 11, 73, 74, 75, 76, 77, 78, 79, 80, 81, 82, 83] (by decide +kernel) (by decide +kernel)
set_option maxRecDepth 20000 in
theorem gX7_matched_X7_holeNamed : GoodIn wsX7_matched (wsV RX7 56 RX7 yX7_holeNamed wsX7_holeNamed) := goodIn_app (goodIn_of _ (by decide +kernel)) ggX7_matched_X7_holeNamed
set_option maxRecDepth 20000 in
theorem ggX7_matched_X3_weigh : GoodIn wsX7_matched wsX3_weigh := goodIn_r _ [16, 17, 18, 19, 20, 21, 15, 22, 23, 24, 25, 26, 27, 28, 29, 30, 31, 32, 33, 34, 35, 36, 37, 38, 39, 40, 41, 42, 43, 44, 45, 46, 47, 48, 49, 50, 51, 52, 53, 70, 71, 72, 84] (by decide +kernel) (by decide +kernel)
set_option maxRecDepth 20000 in
theorem gX7_matched_X3_weigh : GoodIn wsX7_matched (wsV RX7 240 RX3 yX3_weigh wsX3_weigh) := goodIn_app (goodIn_of _ (by decide +kernel)) ggX7_matched_X3_weigh
set_option maxRecDepth 20000 in
theorem ggX7_matched_X3_partnerOf : GoodIn wsX7_matched wsX3_partnerOf := goodIn_r _ [57, 58, 59, 60, 15, 61, 17, 18, 38, 34, 35, 30, 36, 37, 43, 44, 45, 46, 47, 48, 49, 50, 51, 52, 25, 53, 39, 40, 41, 42, 33, 70, 71, 72, 84] (by decide +kernel) (by decide +kernel)
set_option maxRecDepth 20000 in
theorem gX7_matched_X3_partnerOf : GoodIn wsX7_matched (wsV RX7 248 RX3 yX3_partnerOf wsX3_partnerOf) := goodIn_app (goodIn_of _ (by decide +kernel)) ggX7_matched_X3_partnerOf
theorem dX7_matched_0 : decode cX7_matched 0 = .ok (.aload_n 0, 1) := by decide +kernel
theorem dX7_matched_1 : decode cX7_matched 1 = .ok (.iload_n 1, 1) := by decide +kernel
theorem dX7_matched_2 : decode cX7_matched 2 = .ok (.invokevirtual 56, 3) := by decide +kernel
theorem dX7_matched_5 : decode cX7_matched 5 = .ok (.astore 4, 2) := by decide +kernel
theorem dX7_matched_7 : decode cX7_matched 7 = .ok (.aload_n 0, 1) := by decide +kernel
theorem dX7_matched_8 : decode cX7_matched 8 = .ok (.iload_n 2, 1) := by decide +kernel
theorem dX7_matched_9 : decode cX7_matched 9 = .ok (.invokevirtual 56, 3) := by decide +kernel
theorem dX7_matched_12 : decode cX7_matched 12 = .ok (.astore 5, 2) := by decide +kernel
theorem dX7_matched_14 : decode cX7_matched 14 = .ok (.aload 4, 2) := by decide +kernel
theorem dX7_matched_16 : decode cX7_matched 16 = .ok (.ifnull 24, 3) := by decide +kernel
theorem dX7_matched_19 : decode cX7_matched 19 = .ok (.aload 5, 2) := by decide +kernel
theorem dX7_matched_21 : decode cX7_matched 21 = .ok (.ifnull 19, 3) := by decide +kernel
theorem dX7_matched_24 : decode cX7_matched 24 = .ok (.iload_n 3, 1) := by decide +kernel
theorem dX7_matched_25 : decode cX7_matched 25 = .ok (.ifCond .lt 15, 3) := by decide +kernel
theorem dX7_matched_28 : decode cX7_matched 28 = .ok (.iload_n 3, 1) := by decide +kernel
theorem dX7_matched_29 : decode cX7_matched 29 = .ok (.aload 4, 2) := by decide +kernel
theorem dX7_matched_31 : decode cX7_matched 31 = .ok (.getfield 130, 3) := by decide +kernel
theorem dX7_matched_34 : decode cX7_matched 34 = .ok (.getfield 117, 3) := by decide +kernel
theorem dX7_matched_37 : decode cX7_matched 37 = .ok (.if_icmp .lt 6, 3) := by decide +kernel
theorem dX7_matched_40 : decode cX7_matched 40 = .ok (.bipush (-101), 2) := by decide +kernel
theorem dX7_matched_42 : decode cX7_matched 42 = .ok (.ireturn, 1) := by decide +kernel
theorem dX7_matched_43 : decode cX7_matched 43 = .ok (.aload_n 0, 1) := by decide +kernel
theorem dX7_matched_44 : decode cX7_matched 44 = .ok (.getfield 41, 3) := by decide +kernel
theorem dX7_matched_47 : decode cX7_matched 47 = .ok (.aload 4, 2) := by decide +kernel
theorem dX7_matched_49 : decode cX7_matched 49 = .ok (.getfield 130, 3) := by decide +kernel
theorem dX7_matched_52 : decode cX7_matched 52 = .ok (.aload 5, 2) := by decide +kernel
theorem dX7_matched_54 : decode cX7_matched 54 = .ok (.getfield 130, 3) := by decide +kernel
theorem dX7_matched_57 : decode cX7_matched 57 = .ok (.aload_n 0, 1) := by decide +kernel
theorem dX7_matched_58 : decode cX7_matched 58 = .ok (.getfield 27, 3) := by decide +kernel
theorem dX7_matched_61 : decode cX7_matched 61 = .ok (.invokevirtual 240, 3) := by decide +kernel
theorem dX7_matched_64 : decode cX7_matched 64 = .ok (.aload_n 0, 1) := by decide +kernel
theorem dX7_matched_65 : decode cX7_matched 65 = .ok (.getfield 41, 3) := by decide +kernel
theorem dX7_matched_68 : decode cX7_matched 68 = .ok (.iload_n 3, 1) := by decide +kernel
theorem dX7_matched_69 : decode cX7_matched 69 = .ok (.aload 4, 2) := by decide +kernel
theorem dX7_matched_71 : decode cX7_matched 71 = .ok (.getfield 130, 3) := by decide +kernel
theorem dX7_matched_74 : decode cX7_matched 74 = .ok (.aload 5, 2) := by decide +kernel
theorem dX7_matched_76 : decode cX7_matched 76 = .ok (.getfield 130, 3) := by decide +kernel
theorem dX7_matched_79 : decode cX7_matched 79 = .ok (.aload_n 0, 1) := by decide +kernel
theorem dX7_matched_80 : decode cX7_matched 80 = .ok (.getfield 27, 3) := by decide +kernel
theorem dX7_matched_83 : decode cX7_matched 83 = .ok (.invokevirtual 248, 3) := by decide +kernel
theorem dX7_matched_86 : decode cX7_matched 86 = .ok (.ireturn, 1) := by decide +kernel
set_option maxRecDepth 20000 in
theorem ggX7_count_X7_quartersTaken : GoodIn wsX7_count wsX7_quartersTaken := goodIn_r _ [8, 2, 9, 10, 62, 63, 64, 65, 66, 67, 68, 69, 70, 71, 72, 73, 74, 75, 76] (by decide +kernel) (by decide +kernel)
set_option maxRecDepth 20000 in
theorem gX7_count_X7_quartersTaken : GoodIn wsX7_count (wsV RX7 252 RX7 yX7_quartersTaken wsX7_quartersTaken) := goodIn_app (goodIn_of _ (by decide +kernel)) ggX7_count_X7_quartersTaken
set_option maxRecDepth 20000 in
theorem ggX7_count_X7_soundBatches : GoodIn wsX7_count wsX7_soundBatches := goodIn_r _ [14, 3, 15, 16, 17, 18, 19, 20, 21, 22, 23, 24, 25, 26, 27, 28, 29, 30, 31, 32, 33, 34, 35, 36, 37, 38, 39, 40, 41, 42, 43, 44, 45, 46, 47, 48, 49, 50, 51, 52, 53, 54, 55, 56, 57, 58, 59, 60, 61, 62, 63, 64, 65, 66, 67, 68, 69, 70, 71, 72, 77, 78, 79, 80, 81, 82, 83] (by decide +kernel) (by decide +kernel)
set_option maxRecDepth 20000 in
theorem gX7_count_X7_soundBatches : GoodIn wsX7_count (wsV RX7 255 RX7 yX7_soundBatches wsX7_soundBatches) := goodIn_app (goodIn_of _ (by decide +kernel)) ggX7_count_X7_soundBatches
theorem dX7_count_0 : decode cX7_count 0 = .ok (.iload_n 1, 1) := by decide +kernel
theorem dX7_count_1 : decode cX7_count 1 = .ok (.tableswitch 60 0 4 #[35, 40, 45, 50, 55], 35) := by decide +kernel
theorem dX7_count_36 : decode cX7_count 36 = .ok (.aload_n 0, 1) := by decide +kernel
theorem dX7_count_37 : decode cX7_count 37 = .ok (.getfield 52, 3) := by decide +kernel
theorem dX7_count_40 : decode cX7_count 40 = .ok (.ireturn, 1) := by decide +kernel
theorem dX7_count_41 : decode cX7_count 41 = .ok (.aload_n 0, 1) := by decide +kernel
theorem dX7_count_42 : decode cX7_count 42 = .ok (.getfield 150, 3) := by decide +kernel
theorem dX7_count_45 : decode cX7_count 45 = .ok (.ireturn, 1) := by decide +kernel
theorem dX7_count_46 : decode cX7_count 46 = .ok (.aload_n 0, 1) := by decide +kernel
theorem dX7_count_47 : decode cX7_count 47 = .ok (.getfield 163, 3) := by decide +kernel
theorem dX7_count_50 : decode cX7_count 50 = .ok (.ireturn, 1) := by decide +kernel
theorem dX7_count_51 : decode cX7_count 51 = .ok (.aload_n 0, 1) := by decide +kernel
theorem dX7_count_52 : decode cX7_count 52 = .ok (.invokevirtual 252, 3) := by decide +kernel
theorem dX7_count_55 : decode cX7_count 55 = .ok (.ireturn, 1) := by decide +kernel
theorem dX7_count_56 : decode cX7_count 56 = .ok (.aload_n 0, 1) := by decide +kernel
theorem dX7_count_57 : decode cX7_count 57 = .ok (.invokevirtual 255, 3) := by decide +kernel
theorem dX7_count_60 : decode cX7_count 60 = .ok (.ireturn, 1) := by decide +kernel
theorem dX7_count_61 : decode cX7_count 61 = .ok (.bipush (-102), 2) := by decide +kernel
theorem dX7_count_63 : decode cX7_count 63 = .ok (.ireturn, 1) := by decide +kernel
set_option maxRecDepth 20000 in
theorem ggX7_digest_X1_digestOnto : GoodIn wsX7_digest wsX1_digestOnto := goodIn_r _ [15, 16, 17, 18, 19, 20, 21, 22, 23, 24, 25, 26, 27, 28, 29, 30, 31, 32, 33, 34, 73, 74, 75, 76, 77, 78, 79, 80, 81, 82, 83] (by decide +kernel) (by decide +kernel)
set_option maxRecDepth 20000 in
theorem gX7_digest_X1_digestOnto : GoodIn wsX7_digest (wsV RX7 260 RX1 yX1_digestOnto wsX1_digestOnto) := goodIn_app (goodIn_of _ (by decide +kernel)) ggX7_digest_X1_digestOnto
set_option maxRecDepth 20000 in
theorem ggX7_digest_X7_mixed : GoodIn wsX7_digest wsX7_mixed := goodIn_r _ [25, 26] (by decide +kernel) (by decide +kernel)
set_option maxRecDepth 20000 in
theorem gX7_digest_X7_mixed : GoodIn wsX7_digest (va_wsS RX7 264 yX7_mixed wsX7_mixed) := goodIn_app (goodIn_of _ (by decide +kernel)) ggX7_digest_X7_mixed
set_option maxRecDepth 20000 in
theorem ggX7_digest_X6_digestOnto : GoodIn wsX7_digest wsX6_digestOnto := goodIn_r _ [40, 41, 42, 43, 44, 23, 24, 25, 26, 84, 85, 86, 87] (by decide +kernel) (by decide +kernel)
set_option maxRecDepth 20000 in
theorem gX7_digest_X6_digestOnto : GoodIn wsX7_digest (wsV RX7 268 RX6 yX6_digestOnto wsX6_digestOnto) := goodIn_app (goodIn_of _ (by decide +kernel)) ggX7_digest_X6_digestOnto
set_option maxRecDepth 20000 in
theorem ggX7_digest_X0_digestOnto : GoodIn wsX7_digest wsX0_digestOnto := goodIn_r _ [49, 50, 51, 52, 53, 54, 55, 56, 57, 58, 59, 60, 61, 23, 24, 25, 26, 88, 89, 90, 91, 92, 93, 94] (by decide +kernel) (by decide +kernel)
set_option maxRecDepth 20000 in
theorem gX7_digest_X0_digestOnto : GoodIn wsX7_digest (wsV RX7 269 RX0 yX0_digestOnto wsX0_digestOnto) := goodIn_app (goodIn_of _ (by decide +kernel)) ggX7_digest_X0_digestOnto
theorem dX7_digest_0 : decode cX7_digest 0 = .ok (.ldc2_w 258, 3) := by decide +kernel
theorem dX7_digest_3 : decode cX7_digest 3 = .ok (.lstore_n 1, 1) := by decide +kernel
theorem dX7_digest_4 : decode cX7_digest 4 = .ok (.iconst 0, 1) := by decide +kernel
theorem dX7_digest_5 : decode cX7_digest 5 = .ok (.istore_n 3, 1) := by decide +kernel
theorem dX7_digest_6 : decode cX7_digest 6 = .ok (.iload_n 3, 1) := by decide +kernel
theorem dX7_digest_7 : decode cX7_digest 7 = .ok (.aload_n 0, 1) := by decide +kernel
theorem dX7_digest_8 : decode cX7_digest 8 = .ok (.getfield 52, 3) := by decide +kernel
theorem dX7_digest_11 : decode cX7_digest 11 = .ok (.if_icmp .ge 20, 3) := by decide +kernel
theorem dX7_digest_14 : decode cX7_digest 14 = .ok (.aload_n 0, 1) := by decide +kernel
theorem dX7_digest_15 : decode cX7_digest 15 = .ok (.getfield 11, 3) := by decide +kernel
theorem dX7_digest_18 : decode cX7_digest 18 = .ok (.iload_n 3, 1) := by decide +kernel
theorem dX7_digest_19 : decode cX7_digest 19 = .ok (.aaload, 1) := by decide +kernel
theorem dX7_digest_20 : decode cX7_digest 20 = .ok (.lload_n 1, 1) := by decide +kernel
theorem dX7_digest_21 : decode cX7_digest 21 = .ok (.invokevirtual 260, 3) := by decide +kernel
theorem dX7_digest_24 : decode cX7_digest 24 = .ok (.lstore_n 1, 1) := by decide +kernel
theorem dX7_digest_25 : decode cX7_digest 25 = .ok (.iinc 3 1, 3) := by decide +kernel
theorem dX7_digest_28 : decode cX7_digest 28 = .ok (.goto (-22), 3) := by decide +kernel
theorem dX7_digest_31 : decode cX7_digest 31 = .ok (.iconst 0, 1) := by decide +kernel
theorem dX7_digest_32 : decode cX7_digest 32 = .ok (.istore_n 3, 1) := by decide +kernel
theorem dX7_digest_33 : decode cX7_digest 33 = .ok (.iload_n 3, 1) := by decide +kernel
theorem dX7_digest_34 : decode cX7_digest 34 = .ok (.bipush 10, 2) := by decide +kernel
theorem dX7_digest_36 : decode cX7_digest 36 = .ok (.if_icmp .ge 21, 3) := by decide +kernel
theorem dX7_digest_39 : decode cX7_digest 39 = .ok (.lload_n 1, 1) := by decide +kernel
theorem dX7_digest_40 : decode cX7_digest 40 = .ok (.aload_n 0, 1) := by decide +kernel
theorem dX7_digest_41 : decode cX7_digest 41 = .ok (.getfield 27, 3) := by decide +kernel
theorem dX7_digest_44 : decode cX7_digest 44 = .ok (.iload_n 3, 1) := by decide +kernel
theorem dX7_digest_45 : decode cX7_digest 45 = .ok (.iaload, 1) := by decide +kernel
theorem dX7_digest_46 : decode cX7_digest 46 = .ok (.i2l, 1) := by decide +kernel
theorem dX7_digest_47 : decode cX7_digest 47 = .ok (.invokestatic 264, 3) := by decide +kernel
theorem dX7_digest_50 : decode cX7_digest 50 = .ok (.lstore_n 1, 1) := by decide +kernel
theorem dX7_digest_51 : decode cX7_digest 51 = .ok (.iinc 3 1, 3) := by decide +kernel
theorem dX7_digest_54 : decode cX7_digest 54 = .ok (.goto (-21), 3) := by decide +kernel
theorem dX7_digest_57 : decode cX7_digest 57 = .ok (.iconst 0, 1) := by decide +kernel
theorem dX7_digest_58 : decode cX7_digest 58 = .ok (.istore_n 3, 1) := by decide +kernel
theorem dX7_digest_59 : decode cX7_digest 59 = .ok (.iload_n 3, 1) := by decide +kernel
theorem dX7_digest_60 : decode cX7_digest 60 = .ok (.aload_n 0, 1) := by decide +kernel
theorem dX7_digest_61 : decode cX7_digest 61 = .ok (.getfield 150, 3) := by decide +kernel
theorem dX7_digest_64 : decode cX7_digest 64 = .ok (.if_icmp .ge 20, 3) := by decide +kernel
theorem dX7_digest_67 : decode cX7_digest 67 = .ok (.aload_n 0, 1) := by decide +kernel
theorem dX7_digest_68 : decode cX7_digest 68 = .ok (.getfield 17, 3) := by decide +kernel
theorem dX7_digest_71 : decode cX7_digest 71 = .ok (.iload_n 3, 1) := by decide +kernel
theorem dX7_digest_72 : decode cX7_digest 72 = .ok (.aaload, 1) := by decide +kernel
theorem dX7_digest_73 : decode cX7_digest 73 = .ok (.lload_n 1, 1) := by decide +kernel
theorem dX7_digest_74 : decode cX7_digest 74 = .ok (.invokevirtual 268, 3) := by decide +kernel
theorem dX7_digest_77 : decode cX7_digest 77 = .ok (.lstore_n 1, 1) := by decide +kernel
theorem dX7_digest_78 : decode cX7_digest 78 = .ok (.iinc 3 1, 3) := by decide +kernel
theorem dX7_digest_81 : decode cX7_digest 81 = .ok (.goto (-22), 3) := by decide +kernel
theorem dX7_digest_84 : decode cX7_digest 84 = .ok (.iconst 0, 1) := by decide +kernel
theorem dX7_digest_85 : decode cX7_digest 85 = .ok (.istore_n 3, 1) := by decide +kernel
theorem dX7_digest_86 : decode cX7_digest 86 = .ok (.iload_n 3, 1) := by decide +kernel
theorem dX7_digest_87 : decode cX7_digest 87 = .ok (.aload_n 0, 1) := by decide +kernel
theorem dX7_digest_88 : decode cX7_digest 88 = .ok (.getfield 163, 3) := by decide +kernel
theorem dX7_digest_91 : decode cX7_digest 91 = .ok (.if_icmp .ge 20, 3) := by decide +kernel
theorem dX7_digest_94 : decode cX7_digest 94 = .ok (.aload_n 0, 1) := by decide +kernel
theorem dX7_digest_95 : decode cX7_digest 95 = .ok (.getfield 23, 3) := by decide +kernel
theorem dX7_digest_98 : decode cX7_digest 98 = .ok (.iload_n 3, 1) := by decide +kernel
theorem dX7_digest_99 : decode cX7_digest 99 = .ok (.aaload, 1) := by decide +kernel
theorem dX7_digest_100 : decode cX7_digest 100 = .ok (.lload_n 1, 1) := by decide +kernel
theorem dX7_digest_101 : decode cX7_digest 101 = .ok (.invokevirtual 269, 3) := by decide +kernel
theorem dX7_digest_104 : decode cX7_digest 104 = .ok (.lstore_n 1, 1) := by decide +kernel
theorem dX7_digest_105 : decode cX7_digest 105 = .ok (.iinc 3 1, 3) := by decide +kernel
theorem dX7_digest_108 : decode cX7_digest 108 = .ok (.goto (-22), 3) := by decide +kernel
theorem dX7_digest_111 : decode cX7_digest 111 = .ok (.lload_n 1, 1) := by decide +kernel
theorem dX7_digest_112 : decode cX7_digest 112 = .ok (.aload_n 0, 1) := by decide +kernel
theorem dX7_digest_113 : decode cX7_digest 113 = .ok (.getfield 45, 3) := by decide +kernel
theorem dX7_digest_116 : decode cX7_digest 116 = .ok (.i2l, 1) := by decide +kernel
theorem dX7_digest_117 : decode cX7_digest 117 = .ok (.invokestatic 264, 3) := by decide +kernel
theorem dX7_digest_120 : decode cX7_digest 120 = .ok (.aload_n 0, 1) := by decide +kernel
theorem dX7_digest_121 : decode cX7_digest 121 = .ok (.getfield 49, 3) := by decide +kernel
theorem dX7_digest_124 : decode cX7_digest 124 = .ok (.i2l, 1) := by decide +kernel
theorem dX7_digest_125 : decode cX7_digest 125 = .ok (.invokestatic 264, 3) := by decide +kernel
theorem dX7_digest_128 : decode cX7_digest 128 = .ok (.lreturn, 1) := by decide +kernel
theorem dX7_holeNamed_0 : decode cX7_holeNamed 0 = .ok (.iload_n 1, 1) := by decide +kernel
theorem dX7_holeNamed_1 : decode cX7_holeNamed 1 = .ok (.ifCond .lt 20, 3) := by decide +kernel
theorem dX7_holeNamed_4 : decode cX7_holeNamed 4 = .ok (.iload_n 1, 1) := by decide +kernel
theorem dX7_holeNamed_5 : decode cX7_holeNamed 5 = .ok (.aload_n 0, 1) := by decide +kernel
theorem dX7_holeNamed_6 : decode cX7_holeNamed 6 = .ok (.getfield 52, 3) := by decide +kernel
theorem dX7_holeNamed_9 : decode cX7_holeNamed 9 = .ok (.if_icmp .ge 12, 3) := by decide +kernel
theorem dX7_holeNamed_12 : decode cX7_holeNamed 12 = .ok (.aload_n 0, 1) := by decide +kernel
theorem dX7_holeNamed_13 : decode cX7_holeNamed 13 = .ok (.getfield 11, 3) := by decide +kernel
theorem dX7_holeNamed_16 : decode cX7_holeNamed 16 = .ok (.iload_n 1, 1) := by decide +kernel
theorem dX7_holeNamed_17 : decode cX7_holeNamed 17 = .ok (.aaload, 1) := by decide +kernel
theorem dX7_holeNamed_18 : decode cX7_holeNamed 18 = .ok (.goto 4, 3) := by decide +kernel
theorem dX7_holeNamed_21 : decode cX7_holeNamed 21 = .ok (.aconst_null, 1) := by decide +kernel
theorem dX7_holeNamed_22 : decode cX7_holeNamed 22 = .ok (.areturn, 1) := by decide +kernel
set_option maxRecDepth 20000 in
theorem ggX7_logNamed_X7_holeNamed : GoodIn wsX7_logNamed wsX7_holeNamed := goodIn_r _ [7, 8, 9, 18, 19, 20, 21, 22, 23, 24, 25, 26, 27, 28] (by decide +kernel) (by decide +kernel)
set_option maxRecDepth 20000 in
theorem gX7_logNamed_X7_holeNamed : GoodIn wsX7_logNamed (wsV RX7 56 RX7 yX7_holeNamed wsX7_holeNamed) := goodIn_app (goodIn_of _ (by decide +kernel)) ggX7_logNamed_X7_holeNamed
theorem dX7_logNamed_0 : decode cX7_logNamed 0 = .ok (.aload_n 0, 1) := by decide +kernel
theorem dX7_logNamed_1 : decode cX7_logNamed 1 = .ok (.iload_n 1, 1) := by decide +kernel
theorem dX7_logNamed_2 : decode cX7_logNamed 2 = .ok (.invokevirtual 56, 3) := by decide +kernel
theorem dX7_logNamed_5 : decode cX7_logNamed 5 = .ok (.astore_n 3, 1) := by decide +kernel
theorem dX7_logNamed_6 : decode cX7_logNamed 6 = .ok (.aload_n 3, 1) := by decide +kernel
theorem dX7_logNamed_7 : decode cX7_logNamed 7 = .ok (.ifnull 12, 3) := by decide +kernel
theorem dX7_logNamed_10 : decode cX7_logNamed 10 = .ok (.iload_n 2, 1) := by decide +kernel
theorem dX7_logNamed_11 : decode cX7_logNamed 11 = .ok (.ifCond .eq 10, 3) := by decide +kernel
theorem dX7_logNamed_14 : decode cX7_logNamed 14 = .ok (.iload_n 2, 1) := by decide +kernel
theorem dX7_logNamed_15 : decode cX7_logNamed 15 = .ok (.iconst 1, 1) := by decide +kernel
theorem dX7_logNamed_16 : decode cX7_logNamed 16 = .ok (.if_icmp .eq 5, 3) := by decide +kernel
theorem dX7_logNamed_19 : decode cX7_logNamed 19 = .ok (.aconst_null, 1) := by decide +kernel
theorem dX7_logNamed_20 : decode cX7_logNamed 20 = .ok (.areturn, 1) := by decide +kernel
theorem dX7_logNamed_21 : decode cX7_logNamed 21 = .ok (.iload_n 2, 1) := by decide +kernel
theorem dX7_logNamed_22 : decode cX7_logNamed 22 = .ok (.ifCond .ne 10, 3) := by decide +kernel
theorem dX7_logNamed_25 : decode cX7_logNamed 25 = .ok (.aload_n 3, 1) := by decide +kernel
theorem dX7_logNamed_26 : decode cX7_logNamed 26 = .ok (.getfield 130, 3) := by decide +kernel
theorem dX7_logNamed_29 : decode cX7_logNamed 29 = .ok (.goto 7, 3) := by decide +kernel
theorem dX7_logNamed_32 : decode cX7_logNamed 32 = .ok (.aload_n 3, 1) := by decide +kernel
theorem dX7_logNamed_33 : decode cX7_logNamed 33 = .ok (.getfield 134, 3) := by decide +kernel
theorem dX7_logNamed_36 : decode cX7_logNamed 36 = .ok (.areturn, 1) := by decide +kernel
theorem dX7_sampleNamed_0 : decode cX7_sampleNamed 0 = .ok (.iload_n 1, 1) := by decide +kernel
theorem dX7_sampleNamed_1 : decode cX7_sampleNamed 1 = .ok (.ifCond .lt 20, 3) := by decide +kernel
theorem dX7_sampleNamed_4 : decode cX7_sampleNamed 4 = .ok (.iload_n 1, 1) := by decide +kernel
theorem dX7_sampleNamed_5 : decode cX7_sampleNamed 5 = .ok (.aload_n 0, 1) := by decide +kernel
theorem dX7_sampleNamed_6 : decode cX7_sampleNamed 6 = .ok (.getfield 150, 3) := by decide +kernel
theorem dX7_sampleNamed_9 : decode cX7_sampleNamed 9 = .ok (.if_icmp .ge 12, 3) := by decide +kernel
theorem dX7_sampleNamed_12 : decode cX7_sampleNamed 12 = .ok (.aload_n 0, 1) := by decide +kernel
theorem dX7_sampleNamed_13 : decode cX7_sampleNamed 13 = .ok (.getfield 17, 3) := by decide +kernel
theorem dX7_sampleNamed_16 : decode cX7_sampleNamed 16 = .ok (.iload_n 1, 1) := by decide +kernel
theorem dX7_sampleNamed_17 : decode cX7_sampleNamed 17 = .ok (.aaload, 1) := by decide +kernel
theorem dX7_sampleNamed_18 : decode cX7_sampleNamed 18 = .ok (.goto 4, 3) := by decide +kernel
theorem dX7_sampleNamed_21 : decode cX7_sampleNamed 21 = .ok (.aconst_null, 1) := by decide +kernel
theorem dX7_sampleNamed_22 : decode cX7_sampleNamed 22 = .ok (.areturn, 1) := by decide +kernel
theorem dX7_batchNamed_0 : decode cX7_batchNamed 0 = .ok (.iload_n 1, 1) := by decide +kernel
theorem dX7_batchNamed_1 : decode cX7_batchNamed 1 = .ok (.ifCond .lt 20, 3) := by decide +kernel
theorem dX7_batchNamed_4 : decode cX7_batchNamed 4 = .ok (.iload_n 1, 1) := by decide +kernel
theorem dX7_batchNamed_5 : decode cX7_batchNamed 5 = .ok (.aload_n 0, 1) := by decide +kernel
theorem dX7_batchNamed_6 : decode cX7_batchNamed 6 = .ok (.getfield 163, 3) := by decide +kernel
theorem dX7_batchNamed_9 : decode cX7_batchNamed 9 = .ok (.if_icmp .ge 12, 3) := by decide +kernel
theorem dX7_batchNamed_12 : decode cX7_batchNamed 12 = .ok (.aload_n 0, 1) := by decide +kernel
theorem dX7_batchNamed_13 : decode cX7_batchNamed 13 = .ok (.getfield 23, 3) := by decide +kernel
theorem dX7_batchNamed_16 : decode cX7_batchNamed 16 = .ok (.iload_n 1, 1) := by decide +kernel
theorem dX7_batchNamed_17 : decode cX7_batchNamed 17 = .ok (.aaload, 1) := by decide +kernel
theorem dX7_batchNamed_18 : decode cX7_batchNamed 18 = .ok (.goto 4, 3) := by decide +kernel
theorem dX7_batchNamed_21 : decode cX7_batchNamed 21 = .ok (.aconst_null, 1) := by decide +kernel
theorem dX7_batchNamed_22 : decode cX7_batchNamed 22 = .ok (.areturn, 1) := by decide +kernel
set_option maxRecDepth 20000 in
theorem ggX7_placeNamed_X7_batchNamed : GoodIn wsX7_placeNamed wsX7_batchNamed := goodIn_r _ [7, 8, 9, 12, 13, 14, 15, 16, 17, 18, 19, 20, 21, 22] (by decide +kernel) (by decide +kernel)
set_option maxRecDepth 20000 in
theorem gX7_placeNamed_X7_batchNamed : GoodIn wsX7_placeNamed (wsV RX7 167 RX7 yX7_batchNamed wsX7_batchNamed) := goodIn_app (goodIn_of _ (by decide +kernel)) ggX7_placeNamed_X7_batchNamed
theorem dX7_placeNamed_0 : decode cX7_placeNamed 0 = .ok (.aload_n 0, 1) := by decide +kernel
theorem dX7_placeNamed_1 : decode cX7_placeNamed 1 = .ok (.iload_n 1, 1) := by decide +kernel
theorem dX7_placeNamed_2 : decode cX7_placeNamed 2 = .ok (.invokevirtual 167, 3) := by decide +kernel
theorem dX7_placeNamed_5 : decode cX7_placeNamed 5 = .ok (.astore_n 3, 1) := by decide +kernel
theorem dX7_placeNamed_6 : decode cX7_placeNamed 6 = .ok (.aload_n 3, 1) := by decide +kernel
theorem dX7_placeNamed_7 : decode cX7_placeNamed 7 = .ok (.ifnull 24, 3) := by decide +kernel
theorem dX7_placeNamed_10 : decode cX7_placeNamed 10 = .ok (.iload_n 2, 1) := by decide +kernel
theorem dX7_placeNamed_11 : decode cX7_placeNamed 11 = .ok (.ifCond .lt 20, 3) := by decide +kernel
theorem dX7_placeNamed_14 : decode cX7_placeNamed 14 = .ok (.iload_n 2, 1) := by decide +kernel
theorem dX7_placeNamed_15 : decode cX7_placeNamed 15 = .ok (.aload_n 3, 1) := by decide +kernel
theorem dX7_placeNamed_16 : decode cX7_placeNamed 16 = .ok (.getfield 270, 3) := by decide +kernel
theorem dX7_placeNamed_19 : decode cX7_placeNamed 19 = .ok (.if_icmp .ge 12, 3) := by decide +kernel
theorem dX7_placeNamed_22 : decode cX7_placeNamed 22 = .ok (.aload_n 3, 1) := by decide +kernel
theorem dX7_placeNamed_23 : decode cX7_placeNamed 23 = .ok (.getfield 271, 3) := by decide +kernel
theorem dX7_placeNamed_26 : decode cX7_placeNamed 26 = .ok (.iload_n 2, 1) := by decide +kernel
theorem dX7_placeNamed_27 : decode cX7_placeNamed 27 = .ok (.aaload, 1) := by decide +kernel
theorem dX7_placeNamed_28 : decode cX7_placeNamed 28 = .ok (.goto 4, 3) := by decide +kernel
theorem dX7_placeNamed_31 : decode cX7_placeNamed 31 = .ok (.aconst_null, 1) := by decide +kernel
theorem dX7_placeNamed_32 : decode cX7_placeNamed 32 = .ok (.areturn, 1) := by decide +kernel
theorem dX7_isSampled_0 : decode cX7_isSampled 0 = .ok (.iconst 0, 1) := by decide +kernel
theorem dX7_isSampled_1 : decode cX7_isSampled 1 = .ok (.istore_n 2, 1) := by decide +kernel
theorem dX7_isSampled_2 : decode cX7_isSampled 2 = .ok (.iload_n 2, 1) := by decide +kernel
theorem dX7_isSampled_3 : decode cX7_isSampled 3 = .ok (.aload_n 0, 1) := by decide +kernel
theorem dX7_isSampled_4 : decode cX7_isSampled 4 = .ok (.getfield 150, 3) := by decide +kernel
theorem dX7_isSampled_7 : decode cX7_isSampled 7 = .ok (.if_icmp .ge 24, 3) := by decide +kernel
theorem dX7_isSampled_10 : decode cX7_isSampled 10 = .ok (.aload_n 0, 1) := by decide +kernel
theorem dX7_isSampled_11 : decode cX7_isSampled 11 = .ok (.getfield 17, 3) := by decide +kernel
theorem dX7_isSampled_14 : decode cX7_isSampled 14 = .ok (.iload_n 2, 1) := by decide +kernel
theorem dX7_isSampled_15 : decode cX7_isSampled 15 = .ok (.aaload, 1) := by decide +kernel
theorem dX7_isSampled_16 : decode cX7_isSampled 16 = .ok (.getfield 275, 3) := by decide +kernel
theorem dX7_isSampled_19 : decode cX7_isSampled 19 = .ok (.iload_n 1, 1) := by decide +kernel
theorem dX7_isSampled_20 : decode cX7_isSampled 20 = .ok (.if_icmp .ne 5, 3) := by decide +kernel
theorem dX7_isSampled_23 : decode cX7_isSampled 23 = .ok (.iconst 1, 1) := by decide +kernel
theorem dX7_isSampled_24 : decode cX7_isSampled 24 = .ok (.ireturn, 1) := by decide +kernel
theorem dX7_isSampled_25 : decode cX7_isSampled 25 = .ok (.iinc 2 1, 3) := by decide +kernel
theorem dX7_isSampled_28 : decode cX7_isSampled 28 = .ok (.goto (-26), 3) := by decide +kernel
theorem dX7_isSampled_31 : decode cX7_isSampled 31 = .ok (.iconst 0, 1) := by decide +kernel
theorem dX7_isSampled_32 : decode cX7_isSampled 32 = .ok (.ireturn, 1) := by decide +kernel
set_option maxRecDepth 20000 in
theorem ggX7_isTaken_X6_unitsWithin : GoodIn wsX7_isTaken wsX6_unitsWithin := goodIn_r _ [7, 8, 9, 10, 11, 12, 13, 14, 15, 16, 17, 18, 19, 20, 32, 33, 34, 35] (by decide +kernel) (by decide +kernel)
set_option maxRecDepth 20000 in
theorem gX7_isTaken_X6_unitsWithin : GoodIn wsX7_isTaken (wsV RX7 231 RX6 yX6_unitsWithin wsX6_unitsWithin) := goodIn_app (goodIn_of _ (by decide +kernel)) ggX7_isTaken_X6_unitsWithin
theorem dX7_isTaken_0 : decode cX7_isTaken 0 = .ok (.iconst 0, 1) := by decide +kernel
theorem dX7_isTaken_1 : decode cX7_isTaken 1 = .ok (.istore 4, 2) := by decide +kernel
theorem dX7_isTaken_3 : decode cX7_isTaken 3 = .ok (.iload 4, 2) := by decide +kernel
theorem dX7_isTaken_5 : decode cX7_isTaken 5 = .ok (.aload_n 0, 1) := by decide +kernel
theorem dX7_isTaken_6 : decode cX7_isTaken 6 = .ok (.getfield 150, 3) := by decide +kernel
theorem dX7_isTaken_9 : decode cX7_isTaken 9 = .ok (.if_icmp .ge 27, 3) := by decide +kernel
theorem dX7_isTaken_12 : decode cX7_isTaken 12 = .ok (.aload_n 0, 1) := by decide +kernel
theorem dX7_isTaken_13 : decode cX7_isTaken 13 = .ok (.getfield 17, 3) := by decide +kernel
theorem dX7_isTaken_16 : decode cX7_isTaken 16 = .ok (.iload 4, 2) := by decide +kernel
theorem dX7_isTaken_18 : decode cX7_isTaken 18 = .ok (.aaload, 1) := by decide +kernel
theorem dX7_isTaken_19 : decode cX7_isTaken 19 = .ok (.iload_n 1, 1) := by decide +kernel
theorem dX7_isTaken_20 : decode cX7_isTaken 20 = .ok (.iload_n 2, 1) := by decide +kernel
theorem dX7_isTaken_21 : decode cX7_isTaken 21 = .ok (.iload_n 3, 1) := by decide +kernel
theorem dX7_isTaken_22 : decode cX7_isTaken 22 = .ok (.invokevirtual 231, 3) := by decide +kernel
theorem dX7_isTaken_25 : decode cX7_isTaken 25 = .ok (.ifCond .le 5, 3) := by decide +kernel
theorem dX7_isTaken_28 : decode cX7_isTaken 28 = .ok (.iconst 1, 1) := by decide +kernel
theorem dX7_isTaken_29 : decode cX7_isTaken 29 = .ok (.ireturn, 1) := by decide +kernel
theorem dX7_isTaken_30 : decode cX7_isTaken 30 = .ok (.iinc 4 1, 3) := by decide +kernel
theorem dX7_isTaken_33 : decode cX7_isTaken 33 = .ok (.goto (-30), 3) := by decide +kernel
theorem dX7_isTaken_36 : decode cX7_isTaken 36 = .ok (.iconst 0, 1) := by decide +kernel
theorem dX7_isTaken_37 : decode cX7_isTaken 37 = .ok (.ireturn, 1) := by decide +kernel
set_option maxRecDepth 20000 in
theorem ggX7_addPlace_X0_hasAnyResult : GoodIn wsX7_addPlace wsX0_hasAnyResult := goodIn_r _ [10, 11, 12, 13, 23, 24, 25, 26, 27, 28, 29] (by decide +kernel) (by decide +kernel)
set_option maxRecDepth 20000 in
theorem gX7_addPlace_X0_hasAnyResult : GoodIn wsX7_addPlace (wsV RX7 278 RX0 yX0_hasAnyResult wsX0_hasAnyResult) := goodIn_app (goodIn_of _ (by decide +kernel)) ggX7_addPlace_X0_hasAnyResult
set_option maxRecDepth 20000 in
theorem ggX7_addPlace_X5_init : GoodIn wsX7_addPlace wsX5_init := goodIn_r _ [16, 17, 18, 19, 20, 21, 22, 25, 26, 27, 28, 29] (by decide +kernel) (by decide +kernel)
set_option maxRecDepth 20000 in
theorem gX7_addPlace_X5_init : GoodIn wsX7_addPlace (wsX5_init) := ggX7_addPlace_X5_init
theorem dX7_addPlace_0 : decode cX7_addPlace 0 = .ok (.aload_n 0, 1) := by decide +kernel
theorem dX7_addPlace_1 : decode cX7_addPlace 1 = .ok (.invokevirtual 278, 3) := by decide +kernel
theorem dX7_addPlace_4 : decode cX7_addPlace 4 = .ok (.ifCond .eq 6, 3) := by decide +kernel
theorem dX7_addPlace_7 : decode cX7_addPlace 7 = .ok (.bipush (-103), 2) := by decide +kernel
theorem dX7_addPlace_9 : decode cX7_addPlace 9 = .ok (.ireturn, 1) := by decide +kernel
theorem dX7_addPlace_10 : decode cX7_addPlace 10 = .ok (.aload_n 0, 1) := by decide +kernel
theorem dX7_addPlace_11 : decode cX7_addPlace 11 = .ok (.getfield 270, 3) := by decide +kernel
theorem dX7_addPlace_14 : decode cX7_addPlace 14 = .ok (.bipush 16, 2) := by decide +kernel
theorem dX7_addPlace_16 : decode cX7_addPlace 16 = .ok (.if_icmp .lt 6, 3) := by decide +kernel
theorem dX7_addPlace_19 : decode cX7_addPlace 19 = .ok (.bipush (-104), 2) := by decide +kernel
theorem dX7_addPlace_21 : decode cX7_addPlace 21 = .ok (.ireturn, 1) := by decide +kernel
theorem dX7_addPlace_22 : decode cX7_addPlace 22 = .ok (.aload_n 0, 1) := by decide +kernel
theorem dX7_addPlace_23 : decode cX7_addPlace 23 = .ok (.getfield 271, 3) := by decide +kernel
theorem dX7_addPlace_26 : decode cX7_addPlace 26 = .ok (.aload_n 0, 1) := by decide +kernel
theorem dX7_addPlace_27 : decode cX7_addPlace 27 = .ok (.getfield 270, 3) := by decide +kernel
theorem dX7_addPlace_30 : decode cX7_addPlace 30 = .ok (.new 188, 3) := by decide +kernel
theorem dX7_addPlace_33 : decode cX7_addPlace 33 = .ok (.dup, 1) := by decide +kernel
theorem dX7_addPlace_34 : decode cX7_addPlace 34 = .ok (.iload_n 1, 1) := by decide +kernel
theorem dX7_addPlace_35 : decode cX7_addPlace 35 = .ok (.iload_n 2, 1) := by decide +kernel
theorem dX7_addPlace_36 : decode cX7_addPlace 36 = .ok (.iload_n 3, 1) := by decide +kernel
theorem dX7_addPlace_37 : decode cX7_addPlace 37 = .ok (.invokespecial 281, 3) := by decide +kernel
theorem dX7_addPlace_40 : decode cX7_addPlace 40 = .ok (.aastore, 1) := by decide +kernel
theorem dX7_addPlace_41 : decode cX7_addPlace 41 = .ok (.aload_n 0, 1) := by decide +kernel
theorem dX7_addPlace_42 : decode cX7_addPlace 42 = .ok (.dup, 1) := by decide +kernel
theorem dX7_addPlace_43 : decode cX7_addPlace 43 = .ok (.getfield 270, 3) := by decide +kernel
theorem dX7_addPlace_46 : decode cX7_addPlace 46 = .ok (.iconst 1, 1) := by decide +kernel
theorem dX7_addPlace_47 : decode cX7_addPlace 47 = .ok (.iadd, 1) := by decide +kernel
theorem dX7_addPlace_48 : decode cX7_addPlace 48 = .ok (.putfield 270, 3) := by decide +kernel
theorem dX7_addPlace_51 : decode cX7_addPlace 51 = .ok (.aload_n 0, 1) := by decide +kernel
theorem dX7_addPlace_52 : decode cX7_addPlace 52 = .ok (.getfield 270, 3) := by decide +kernel
theorem dX7_addPlace_55 : decode cX7_addPlace 55 = .ok (.iconst 1, 1) := by decide +kernel
theorem dX7_addPlace_56 : decode cX7_addPlace 56 = .ok (.isub, 1) := by decide +kernel
theorem dX7_addPlace_57 : decode cX7_addPlace 57 = .ok (.ireturn, 1) := by decide +kernel
set_option maxRecDepth 20000 in
theorem ggX7_addPlaceWithQuarter_X7_addPlace : GoodIn wsX7_addPlaceWithQuarter wsX7_addPlace := goodIn_r _ [5, 6, 7, 8, 9, 10, 11, 12, 13, 14, 15, 16, 17, 18, 19, 20, 21, 22, 23, 24, 25, 26, 27, 32, 33, 34, 35, 36, 37, 38] (by decide +kernel) (by decide +kernel)
set_option maxRecDepth 20000 in
theorem gX7_addPlaceWithQuarter_X7_addPlace : GoodIn wsX7_addPlaceWithQuarter (va_wsS RX7 179 yX7_addPlace wsX7_addPlace) := goodIn_app (goodIn_of _ (by decide +kernel)) ggX7_addPlaceWithQuarter_X7_addPlace
theorem dX7_addPlaceWithQuarter_0 : decode cX7_addPlaceWithQuarter 0 = .ok (.aload_n 3, 1) := by decide +kernel
theorem dX7_addPlaceWithQuarter_1 : decode cX7_addPlaceWithQuarter 1 = .ok (.getfield 160, 3) := by decide +kernel
theorem dX7_addPlaceWithQuarter_4 : decode cX7_addPlaceWithQuarter 4 = .ok (.ifCond .ne 6, 3) := by decide +kernel
theorem dX7_addPlaceWithQuarter_7 : decode cX7_addPlaceWithQuarter 7 = .ok (.bipush (-103), 2) := by decide +kernel
theorem dX7_addPlaceWithQuarter_9 : decode cX7_addPlaceWithQuarter 9 = .ok (.ireturn, 1) := by decide +kernel
theorem dX7_addPlaceWithQuarter_10 : decode cX7_addPlaceWithQuarter 10 = .ok (.aload_n 0, 1) := by decide +kernel
theorem dX7_addPlaceWithQuarter_11 : decode cX7_addPlaceWithQuarter 11 = .ok (.iload_n 1, 1) := by decide +kernel
theorem dX7_addPlaceWithQuarter_12 : decode cX7_addPlaceWithQuarter 12 = .ok (.iload_n 2, 1) := by decide +kernel
theorem dX7_addPlaceWithQuarter_13 : decode cX7_addPlaceWithQuarter 13 = .ok (.iconst 0, 1) := by decide +kernel
theorem dX7_addPlaceWithQuarter_14 : decode cX7_addPlaceWithQuarter 14 = .ok (.invokestatic 179, 3) := by decide +kernel
theorem dX7_addPlaceWithQuarter_17 : decode cX7_addPlaceWithQuarter 17 = .ok (.istore 4, 2) := by decide +kernel
theorem dX7_addPlaceWithQuarter_19 : decode cX7_addPlaceWithQuarter 19 = .ok (.iload 4, 2) := by decide +kernel
theorem dX7_addPlaceWithQuarter_21 : decode cX7_addPlaceWithQuarter 21 = .ok (.ifCond .lt 13, 3) := by decide +kernel
theorem dX7_addPlaceWithQuarter_24 : decode cX7_addPlaceWithQuarter 24 = .ok (.aload_n 3, 1) := by decide +kernel
theorem dX7_addPlaceWithQuarter_25 : decode cX7_addPlaceWithQuarter 25 = .ok (.dup, 1) := by decide +kernel
theorem dX7_addPlaceWithQuarter_26 : decode cX7_addPlaceWithQuarter 26 = .ok (.getfield 160, 3) := by decide +kernel
theorem dX7_addPlaceWithQuarter_29 : decode cX7_addPlaceWithQuarter 29 = .ok (.iconst 1, 1) := by decide +kernel
theorem dX7_addPlaceWithQuarter_30 : decode cX7_addPlaceWithQuarter 30 = .ok (.isub, 1) := by decide +kernel
theorem dX7_addPlaceWithQuarter_31 : decode cX7_addPlaceWithQuarter 31 = .ok (.putfield 160, 3) := by decide +kernel
theorem dX7_addPlaceWithQuarter_34 : decode cX7_addPlaceWithQuarter 34 = .ok (.iload 4, 2) := by decide +kernel
theorem dX7_addPlaceWithQuarter_36 : decode cX7_addPlaceWithQuarter 36 = .ok (.ireturn, 1) := by decide +kernel
set_option maxRecDepth 20000 in
theorem ggX7_gradingPlace_X0_placeOf : GoodIn wsX7_gradingPlace wsX0_placeOf := goodIn_r _ [9, 10, 11, 12, 13, 64, 65, 66, 67, 68, 69, 70] (by decide +kernel) (by decide +kernel)
set_option maxRecDepth 20000 in
theorem gX7_gradingPlace_X0_placeOf : GoodIn wsX7_gradingPlace (wsV RX7 171 RX0 yX0_placeOf wsX0_placeOf) := goodIn_app (goodIn_of _ (by decide +kernel)) ggX7_gradingPlace_X0_placeOf
set_option maxRecDepth 20000 in
theorem ggX7_gradingPlace_X0_isSound : GoodIn wsX7_gradingPlace wsX0_isSound := goodIn_r _ [17, 18, 19, 20, 8, 21, 10, 11, 22, 23, 24, 25, 26, 27, 28, 29, 30, 12, 13, 31, 32, 33, 34, 35, 36, 37, 38, 39, 40, 41, 42, 43, 44, 45, 46, 47, 48, 49, 50, 51, 52, 64, 65, 66, 67, 68, 69, 70] (by decide +kernel) (by decide +kernel)
set_option maxRecDepth 20000 in
theorem gX7_gradingPlace_X0_isSound : GoodIn wsX7_gradingPlace (wsV RX7 205 RX0 yX0_isSound wsX0_isSound) := goodIn_app (goodIn_of _ (by decide +kernel)) ggX7_gradingPlace_X0_isSound
theorem dX7_gradingPlace_0 : decode cX7_gradingPlace 0 = .ok (.iconst 0, 1) := by decide +kernel
theorem dX7_gradingPlace_1 : decode cX7_gradingPlace 1 = .ok (.istore_n 2, 1) := by decide +kernel
theorem dX7_gradingPlace_2 : decode cX7_gradingPlace 2 = .ok (.iload_n 2, 1) := by decide +kernel
theorem dX7_gradingPlace_3 : decode cX7_gradingPlace 3 = .ok (.aload_n 0, 1) := by decide +kernel
theorem dX7_gradingPlace_4 : decode cX7_gradingPlace 4 = .ok (.getfield 163, 3) := by decide +kernel
theorem dX7_gradingPlace_7 : decode cX7_gradingPlace 7 = .ok (.if_icmp .ge 46, 3) := by decide +kernel
theorem dX7_gradingPlace_10 : decode cX7_gradingPlace 10 = .ok (.aload_n 0, 1) := by decide +kernel
theorem dX7_gradingPlace_11 : decode cX7_gradingPlace 11 = .ok (.getfield 23, 3) := by decide +kernel
theorem dX7_gradingPlace_14 : decode cX7_gradingPlace 14 = .ok (.iload_n 2, 1) := by decide +kernel
theorem dX7_gradingPlace_15 : decode cX7_gradingPlace 15 = .ok (.aaload, 1) := by decide +kernel
theorem dX7_gradingPlace_16 : decode cX7_gradingPlace 16 = .ok (.iload_n 1, 1) := by decide +kernel
theorem dX7_gradingPlace_17 : decode cX7_gradingPlace 17 = .ok (.invokevirtual 171, 3) := by decide +kernel
theorem dX7_gradingPlace_20 : decode cX7_gradingPlace 20 = .ok (.astore_n 3, 1) := by decide +kernel
theorem dX7_gradingPlace_21 : decode cX7_gradingPlace 21 = .ok (.aload_n 3, 1) := by decide +kernel
theorem dX7_gradingPlace_22 : decode cX7_gradingPlace 22 = .ok (.ifnull 25, 3) := by decide +kernel
theorem dX7_gradingPlace_25 : decode cX7_gradingPlace 25 = .ok (.aload_n 0, 1) := by decide +kernel
theorem dX7_gradingPlace_26 : decode cX7_gradingPlace 26 = .ok (.getfield 23, 3) := by decide +kernel
theorem dX7_gradingPlace_29 : decode cX7_gradingPlace 29 = .ok (.iload_n 2, 1) := by decide +kernel
theorem dX7_gradingPlace_30 : decode cX7_gradingPlace 30 = .ok (.aaload, 1) := by decide +kernel
theorem dX7_gradingPlace_31 : decode cX7_gradingPlace 31 = .ok (.aload_n 0, 1) := by decide +kernel
theorem dX7_gradingPlace_32 : decode cX7_gradingPlace 32 = .ok (.getfield 45, 3) := by decide +kernel
theorem dX7_gradingPlace_35 : decode cX7_gradingPlace 35 = .ok (.aload_n 0, 1) := by decide +kernel
theorem dX7_gradingPlace_36 : decode cX7_gradingPlace 36 = .ok (.getfield 49, 3) := by decide +kernel
theorem dX7_gradingPlace_39 : decode cX7_gradingPlace 39 = .ok (.invokevirtual 205, 3) := by decide +kernel
theorem dX7_gradingPlace_42 : decode cX7_gradingPlace 42 = .ok (.ifCond .eq 5, 3) := by decide +kernel
theorem dX7_gradingPlace_45 : decode cX7_gradingPlace 45 = .ok (.aload_n 3, 1) := by decide +kernel
theorem dX7_gradingPlace_46 : decode cX7_gradingPlace 46 = .ok (.areturn, 1) := by decide +kernel
theorem dX7_gradingPlace_47 : decode cX7_gradingPlace 47 = .ok (.iinc 2 1, 3) := by decide +kernel
theorem dX7_gradingPlace_50 : decode cX7_gradingPlace 50 = .ok (.goto (-48), 3) := by decide +kernel
theorem dX7_gradingPlace_53 : decode cX7_gradingPlace 53 = .ok (.aconst_null, 1) := by decide +kernel
theorem dX7_gradingPlace_54 : decode cX7_gradingPlace 54 = .ok (.areturn, 1) := by decide +kernel
theorem dX7_quartersTaken_0 : decode cX7_quartersTaken 0 = .ok (.iconst 0, 1) := by decide +kernel
theorem dX7_quartersTaken_1 : decode cX7_quartersTaken 1 = .ok (.istore_n 1, 1) := by decide +kernel
theorem dX7_quartersTaken_2 : decode cX7_quartersTaken 2 = .ok (.iconst 0, 1) := by decide +kernel
theorem dX7_quartersTaken_3 : decode cX7_quartersTaken 3 = .ok (.istore_n 2, 1) := by decide +kernel
theorem dX7_quartersTaken_4 : decode cX7_quartersTaken 4 = .ok (.iload_n 2, 1) := by decide +kernel
theorem dX7_quartersTaken_5 : decode cX7_quartersTaken 5 = .ok (.aload_n 0, 1) := by decide +kernel
theorem dX7_quartersTaken_6 : decode cX7_quartersTaken 6 = .ok (.getfield 150, 3) := by decide +kernel
theorem dX7_quartersTaken_9 : decode cX7_quartersTaken 9 = .ok (.if_icmp .ge 23, 3) := by decide +kernel
theorem dX7_quartersTaken_12 : decode cX7_quartersTaken 12 = .ok (.iload_n 1, 1) := by decide +kernel
theorem dX7_quartersTaken_13 : decode cX7_quartersTaken 13 = .ok (.iconst 4, 1) := by decide +kernel
theorem dX7_quartersTaken_14 : decode cX7_quartersTaken 14 = .ok (.aload_n 0, 1) := by decide +kernel
theorem dX7_quartersTaken_15 : decode cX7_quartersTaken 15 = .ok (.getfield 17, 3) := by decide +kernel
theorem dX7_quartersTaken_18 : decode cX7_quartersTaken 18 = .ok (.iload_n 2, 1) := by decide +kernel
theorem dX7_quartersTaken_19 : decode cX7_quartersTaken 19 = .ok (.aaload, 1) := by decide +kernel
theorem dX7_quartersTaken_20 : decode cX7_quartersTaken 20 = .ok (.getfield 160, 3) := by decide +kernel
theorem dX7_quartersTaken_23 : decode cX7_quartersTaken 23 = .ok (.isub, 1) := by decide +kernel
theorem dX7_quartersTaken_24 : decode cX7_quartersTaken 24 = .ok (.iadd, 1) := by decide +kernel
theorem dX7_quartersTaken_25 : decode cX7_quartersTaken 25 = .ok (.istore_n 1, 1) := by decide +kernel
theorem dX7_quartersTaken_26 : decode cX7_quartersTaken 26 = .ok (.iinc 2 1, 3) := by decide +kernel
theorem dX7_quartersTaken_29 : decode cX7_quartersTaken 29 = .ok (.goto (-25), 3) := by decide +kernel
theorem dX7_quartersTaken_32 : decode cX7_quartersTaken 32 = .ok (.iload_n 1, 1) := by decide +kernel
theorem dX7_quartersTaken_33 : decode cX7_quartersTaken 33 = .ok (.ireturn, 1) := by decide +kernel
set_option maxRecDepth 20000 in
theorem ggX7_soundBatches_X0_isSound : GoodIn wsX7_soundBatches wsX0_isSound := goodIn_r _ [9, 10, 11, 12, 8, 13, 14, 15, 16, 17, 18, 19, 20, 21, 22, 23, 24, 25, 26, 27, 28, 29, 30, 31, 32, 33, 34, 35, 36, 37, 38, 39, 40, 41, 42, 43, 44, 45, 46, 47, 48, 60, 61, 62, 63, 64, 65, 66] (by decide +kernel) (by decide +kernel)
set_option maxRecDepth 20000 in
theorem gX7_soundBatches_X0_isSound : GoodIn wsX7_soundBatches (wsV RX7 205 RX0 yX0_isSound wsX0_isSound) := goodIn_app (goodIn_of _ (by decide +kernel)) ggX7_soundBatches_X0_isSound
theorem dX7_soundBatches_0 : decode cX7_soundBatches 0 = .ok (.iconst 0, 1) := by decide +kernel
theorem dX7_soundBatches_1 : decode cX7_soundBatches 1 = .ok (.istore_n 1, 1) := by decide +kernel
theorem dX7_soundBatches_2 : decode cX7_soundBatches 2 = .ok (.iconst 0, 1) := by decide +kernel
theorem dX7_soundBatches_3 : decode cX7_soundBatches 3 = .ok (.istore_n 2, 1) := by decide +kernel
theorem dX7_soundBatches_4 : decode cX7_soundBatches 4 = .ok (.iload_n 2, 1) := by decide +kernel
theorem dX7_soundBatches_5 : decode cX7_soundBatches 5 = .ok (.aload_n 0, 1) := by decide +kernel
theorem dX7_soundBatches_6 : decode cX7_soundBatches 6 = .ok (.getfield 163, 3) := by decide +kernel
theorem dX7_soundBatches_9 : decode cX7_soundBatches 9 = .ok (.if_icmp .ge 32, 3) := by decide +kernel
theorem dX7_soundBatches_12 : decode cX7_soundBatches 12 = .ok (.aload_n 0, 1) := by decide +kernel
theorem dX7_soundBatches_13 : decode cX7_soundBatches 13 = .ok (.getfield 23, 3) := by decide +kernel
theorem dX7_soundBatches_16 : decode cX7_soundBatches 16 = .ok (.iload_n 2, 1) := by decide +kernel
theorem dX7_soundBatches_17 : decode cX7_soundBatches 17 = .ok (.aaload, 1) := by decide +kernel
theorem dX7_soundBatches_18 : decode cX7_soundBatches 18 = .ok (.aload_n 0, 1) := by decide +kernel
theorem dX7_soundBatches_19 : decode cX7_soundBatches 19 = .ok (.getfield 45, 3) := by decide +kernel
theorem dX7_soundBatches_22 : decode cX7_soundBatches 22 = .ok (.aload_n 0, 1) := by decide +kernel
theorem dX7_soundBatches_23 : decode cX7_soundBatches 23 = .ok (.getfield 49, 3) := by decide +kernel
theorem dX7_soundBatches_26 : decode cX7_soundBatches 26 = .ok (.invokevirtual 205, 3) := by decide +kernel
theorem dX7_soundBatches_29 : decode cX7_soundBatches 29 = .ok (.ifCond .eq 6, 3) := by decide +kernel
theorem dX7_soundBatches_32 : decode cX7_soundBatches 32 = .ok (.iinc 1 1, 3) := by decide +kernel
theorem dX7_soundBatches_35 : decode cX7_soundBatches 35 = .ok (.iinc 2 1, 3) := by decide +kernel
theorem dX7_soundBatches_38 : decode cX7_soundBatches 38 = .ok (.goto (-34), 3) := by decide +kernel
theorem dX7_soundBatches_41 : decode cX7_soundBatches 41 = .ok (.iload_n 1, 1) := by decide +kernel
theorem dX7_soundBatches_42 : decode cX7_soundBatches 42 = .ok (.ireturn, 1) := by decide +kernel
theorem dX7_isWithin_0 : decode cX7_isWithin 0 = .ok (.iload_n 0, 1) := by decide +kernel
theorem dX7_isWithin_1 : decode cX7_isWithin 1 = .ok (.iload_n 1, 1) := by decide +kernel
theorem dX7_isWithin_2 : decode cX7_isWithin 2 = .ok (.if_icmp .lt 12, 3) := by decide +kernel
theorem dX7_isWithin_5 : decode cX7_isWithin 5 = .ok (.iload_n 0, 1) := by decide +kernel
theorem dX7_isWithin_6 : decode cX7_isWithin 6 = .ok (.iload_n 2, 1) := by decide +kernel
theorem dX7_isWithin_7 : decode cX7_isWithin 7 = .ok (.if_icmp .gt 7, 3) := by decide +kernel
theorem dX7_isWithin_10 : decode cX7_isWithin 10 = .ok (.iconst 1, 1) := by decide +kernel
theorem dX7_isWithin_11 : decode cX7_isWithin 11 = .ok (.goto 4, 3) := by decide +kernel
theorem dX7_isWithin_14 : decode cX7_isWithin 14 = .ok (.iconst 0, 1) := by decide +kernel
theorem dX7_isWithin_15 : decode cX7_isWithin 15 = .ok (.ireturn, 1) := by decide +kernel
set_option maxRecDepth 20000 in
theorem ggX7_isCode_X7_isWithin : GoodIn wsX7_isCode wsX7_isWithin := goodIn_r _ [4] (by decide +kernel) (by decide +kernel)
set_option maxRecDepth 20000 in
theorem gX7_isCode_X7_isWithin : GoodIn wsX7_isCode (va_wsS RX7 60 yX7_isWithin wsX7_isWithin) := goodIn_app (goodIn_of _ (by decide +kernel)) ggX7_isCode_X7_isWithin
theorem dX7_isCode_0 : decode cX7_isCode 0 = .ok (.iload_n 0, 1) := by decide +kernel
theorem dX7_isCode_1 : decode cX7_isCode 1 = .ok (.iconst 0, 1) := by decide +kernel
theorem dX7_isCode_2 : decode cX7_isCode 2 = .ok (.bipush 9, 2) := by decide +kernel
theorem dX7_isCode_4 : decode cX7_isCode 4 = .ok (.invokestatic 60, 3) := by decide +kernel
theorem dX7_isCode_7 : decode cX7_isCode 7 = .ok (.ireturn, 1) := by decide +kernel
theorem dX7_unitsInCommon_0 : decode cX7_unitsInCommon 0 = .ok (.iconst 0, 1) := by decide +kernel
theorem dX7_unitsInCommon_1 : decode cX7_unitsInCommon 1 = .ok (.iload_n 1, 1) := by decide +kernel
theorem dX7_unitsInCommon_2 : decode cX7_unitsInCommon 2 = .ok (.iload_n 3, 1) := by decide +kernel
theorem dX7_unitsInCommon_3 : decode cX7_unitsInCommon 3 = .ok (.invokestatic 235, 3) := by decide +kernel
theorem dX7_unitsInCommon_6 : decode cX7_unitsInCommon 6 = .ok (.iload_n 0, 1) := by decide +kernel
theorem dX7_unitsInCommon_7 : decode cX7_unitsInCommon 7 = .ok (.iload_n 2, 1) := by decide +kernel
theorem dX7_unitsInCommon_8 : decode cX7_unitsInCommon 8 = .ok (.invokestatic 282, 3) := by decide +kernel
theorem dX7_unitsInCommon_11 : decode cX7_unitsInCommon 11 = .ok (.isub, 1) := by decide +kernel
theorem dX7_unitsInCommon_12 : decode cX7_unitsInCommon 12 = .ok (.invokestatic 282, 3) := by decide +kernel
theorem dX7_unitsInCommon_15 : decode cX7_unitsInCommon 15 = .ok (.ireturn, 1) := by decide +kernel
theorem dX7_mixed_0 : decode cX7_mixed 0 = .ok (.ldc2_w 285, 3) := by decide +kernel
theorem dX7_mixed_3 : decode cX7_mixed 3 = .ok (.lload_n 0, 1) := by decide +kernel
theorem dX7_mixed_4 : decode cX7_mixed 4 = .ok (.lmul, 1) := by decide +kernel
theorem dX7_mixed_5 : decode cX7_mixed 5 = .ok (.lload_n 2, 1) := by decide +kernel
theorem dX7_mixed_6 : decode cX7_mixed 6 = .ok (.ladd, 1) := by decide +kernel
theorem dX7_mixed_7 : decode cX7_mixed 7 = .ok (.lreturn, 1) := by decide +kernel
theorem dX8_init_0 : decode cX8_init 0 = .ok (.aload_n 0, 1) := by decide +kernel
theorem dX8_init_1 : decode cX8_init 1 = .ok (.invokespecial 1, 3) := by decide +kernel
theorem dX8_init_4 : decode cX8_init 4 = .ok (.aload_n 0, 1) := by decide +kernel
theorem dX8_init_5 : decode cX8_init 5 = .ok (.iconst 4, 1) := by decide +kernel
theorem dX8_init_6 : decode cX8_init 6 = .ok (.newarray .int, 2) := by decide +kernel
theorem dX8_init_8 : decode cX8_init 8 = .ok (.putfield 7, 3) := by decide +kernel
theorem dX8_init_11 : decode cX8_init 11 = .ok (.aload_n 0, 1) := by decide +kernel
theorem dX8_init_12 : decode cX8_init 12 = .ok (.bipush 80, 2) := by decide +kernel
theorem dX8_init_14 : decode cX8_init 14 = .ok (.newarray .int, 2) := by decide +kernel
theorem dX8_init_16 : decode cX8_init 16 = .ok (.putfield 13, 3) := by decide +kernel
theorem dX8_init_19 : decode cX8_init 19 = .ok (.aload_n 0, 1) := by decide +kernel
theorem dX8_init_20 : decode cX8_init 20 = .ok (.bipush 80, 2) := by decide +kernel
theorem dX8_init_22 : decode cX8_init 22 = .ok (.newarray .int, 2) := by decide +kernel
theorem dX8_init_24 : decode cX8_init 24 = .ok (.putfield 16, 3) := by decide +kernel
theorem dX8_init_27 : decode cX8_init 27 = .ok (.aload_n 0, 1) := by decide +kernel
theorem dX8_init_28 : decode cX8_init 28 = .ok (.iconst 4, 1) := by decide +kernel
theorem dX8_init_29 : decode cX8_init 29 = .ok (.newarray .int, 2) := by decide +kernel
theorem dX8_init_31 : decode cX8_init 31 = .ok (.putfield 19, 3) := by decide +kernel
theorem dX8_init_34 : decode cX8_init 34 = .ok (.aload_n 0, 1) := by decide +kernel
theorem dX8_init_35 : decode cX8_init 35 = .ok (.bipush 80, 2) := by decide +kernel
theorem dX8_init_37 : decode cX8_init 37 = .ok (.newarray .int, 2) := by decide +kernel
theorem dX8_init_39 : decode cX8_init 39 = .ok (.putfield 22, 3) := by decide +kernel
theorem dX8_init_42 : decode cX8_init 42 = .ok (.aload_n 0, 1) := by decide +kernel
theorem dX8_init_43 : decode cX8_init 43 = .ok (.bipush 20, 2) := by decide +kernel
theorem dX8_init_45 : decode cX8_init 45 = .ok (.newarray .int, 2) := by decide +kernel
theorem dX8_init_47 : decode cX8_init 47 = .ok (.putfield 25, 3) := by decide +kernel
theorem dX8_init_50 : decode cX8_init 50 = .ok (.aload_n 0, 1) := by decide +kernel
theorem dX8_init_51 : decode cX8_init 51 = .ok (.bipush 20, 2) := by decide +kernel
theorem dX8_init_53 : decode cX8_init 53 = .ok (.newarray .boolean, 2) := by decide +kernel
theorem dX8_init_55 : decode cX8_init 55 = .ok (.putfield 28, 3) := by decide +kernel
theorem dX8_init_58 : decode cX8_init 58 = .ok (.aload_n 0, 1) := by decide +kernel
theorem dX8_init_59 : decode cX8_init 59 = .ok (.bipush 8, 2) := by decide +kernel
theorem dX8_init_61 : decode cX8_init 61 = .ok (.newarray .int, 2) := by decide +kernel
theorem dX8_init_63 : decode cX8_init 63 = .ok (.putfield 32, 3) := by decide +kernel
theorem dX8_init_66 : decode cX8_init 66 = .ok (.aload_n 0, 1) := by decide +kernel
theorem dX8_init_67 : decode cX8_init 67 = .ok (.sipush 160, 3) := by decide +kernel
theorem dX8_init_70 : decode cX8_init 70 = .ok (.newarray .int, 2) := by decide +kernel
theorem dX8_init_72 : decode cX8_init 72 = .ok (.putfield 35, 3) := by decide +kernel
theorem dX8_init_75 : decode cX8_init 75 = .ok (.aload_n 0, 1) := by decide +kernel
theorem dX8_init_76 : decode cX8_init 76 = .ok (.sipush 160, 3) := by decide +kernel
theorem dX8_init_79 : decode cX8_init 79 = .ok (.newarray .int, 2) := by decide +kernel
theorem dX8_init_81 : decode cX8_init 81 = .ok (.putfield 38, 3) := by decide +kernel
theorem dX8_init_84 : decode cX8_init 84 = .ok (.aload_n 0, 1) := by decide +kernel
theorem dX8_init_85 : decode cX8_init 85 = .ok (.bipush 10, 2) := by decide +kernel
theorem dX8_init_87 : decode cX8_init 87 = .ok (.newarray .int, 2) := by decide +kernel
theorem dX8_init_89 : decode cX8_init 89 = .ok (.putfield 41, 3) := by decide +kernel
theorem dX8_init_92 : decode cX8_init 92 = .ok (.aload_n 0, 1) := by decide +kernel
theorem dX8_init_93 : decode cX8_init 93 = .ok (.bipush 30, 2) := by decide +kernel
theorem dX8_init_95 : decode cX8_init 95 = .ok (.newarray .int, 2) := by decide +kernel
theorem dX8_init_97 : decode cX8_init 97 = .ok (.putfield 44, 3) := by decide +kernel
theorem dX8_init_100 : decode cX8_init 100 = .ok (.aload_n 0, 1) := by decide +kernel
theorem dX8_init_101 : decode cX8_init 101 = .ok (.bipush 30, 2) := by decide +kernel
theorem dX8_init_103 : decode cX8_init 103 = .ok (.newarray .int, 2) := by decide +kernel
theorem dX8_init_105 : decode cX8_init 105 = .ok (.putfield 47, 3) := by decide +kernel
theorem dX8_init_108 : decode cX8_init 108 = .ok (.aload_n 0, 1) := by decide +kernel
theorem dX8_init_109 : decode cX8_init 109 = .ok (.bipush 30, 2) := by decide +kernel
theorem dX8_init_111 : decode cX8_init 111 = .ok (.newarray .int, 2) := by decide +kernel
theorem dX8_init_113 : decode cX8_init 113 = .ok (.putfield 50, 3) := by decide +kernel
theorem dX8_init_116 : decode cX8_init 116 = .ok (.aload_n 0, 1) := by decide +kernel
theorem dX8_init_117 : decode cX8_init 117 = .ok (.bipush 30, 2) := by decide +kernel
theorem dX8_init_119 : decode cX8_init 119 = .ok (.newarray .int, 2) := by decide +kernel
theorem dX8_init_121 : decode cX8_init 121 = .ok (.putfield 53, 3) := by decide +kernel
theorem dX8_init_124 : decode cX8_init 124 = .ok (.aload_n 0, 1) := by decide +kernel
theorem dX8_init_125 : decode cX8_init 125 = .ok (.bipush 6, 2) := by decide +kernel
theorem dX8_init_127 : decode cX8_init 127 = .ok (.newarray .int, 2) := by decide +kernel
theorem dX8_init_129 : decode cX8_init 129 = .ok (.putfield 56, 3) := by decide +kernel
theorem dX8_init_132 : decode cX8_init 132 = .ok (.aload_n 0, 1) := by decide +kernel
theorem dX8_init_133 : decode cX8_init 133 = .ok (.bipush 96, 2) := by decide +kernel
theorem dX8_init_135 : decode cX8_init 135 = .ok (.newarray .int, 2) := by decide +kernel
theorem dX8_init_137 : decode cX8_init 137 = .ok (.putfield 59, 3) := by decide +kernel
theorem dX8_init_140 : decode cX8_init 140 = .ok (.aload_n 0, 1) := by decide +kernel
theorem dX8_init_141 : decode cX8_init 141 = .ok (.bipush 96, 2) := by decide +kernel
theorem dX8_init_143 : decode cX8_init 143 = .ok (.newarray .int, 2) := by decide +kernel
theorem dX8_init_145 : decode cX8_init 145 = .ok (.putfield 62, 3) := by decide +kernel
theorem dX8_init_148 : decode cX8_init 148 = .ok (.aload_n 0, 1) := by decide +kernel
theorem dX8_init_149 : decode cX8_init 149 = .ok (.bipush 96, 2) := by decide +kernel
theorem dX8_init_151 : decode cX8_init 151 = .ok (.newarray .int, 2) := by decide +kernel
theorem dX8_init_153 : decode cX8_init 153 = .ok (.putfield 65, 3) := by decide +kernel
theorem dX8_init_156 : decode cX8_init 156 = .ok (.aload_n 0, 1) := by decide +kernel
theorem dX8_init_157 : decode cX8_init 157 = .ok (.bipush 96, 2) := by decide +kernel
theorem dX8_init_159 : decode cX8_init 159 = .ok (.newarray .boolean, 2) := by decide +kernel
theorem dX8_init_161 : decode cX8_init 161 = .ok (.putfield 68, 3) := by decide +kernel
theorem dX8_init_164 : decode cX8_init 164 = .ok (.aload_n 0, 1) := by decide +kernel
theorem dX8_init_165 : decode cX8_init 165 = .ok (.bipush 96, 2) := by decide +kernel
theorem dX8_init_167 : decode cX8_init 167 = .ok (.newarray .int, 2) := by decide +kernel
theorem dX8_init_169 : decode cX8_init 169 = .ok (.putfield 71, 3) := by decide +kernel
theorem dX8_init_172 : decode cX8_init 172 = .ok (.aload_n 0, 1) := by decide +kernel
theorem dX8_init_173 : decode cX8_init 173 = .ok (.iconst 2, 1) := by decide +kernel
theorem dX8_init_174 : decode cX8_init 174 = .ok (.newarray .int, 2) := by decide +kernel
theorem dX8_init_176 : decode cX8_init 176 = .ok (.putfield 74, 3) := by decide +kernel
theorem dX8_init_179 : decode cX8_init 179 = .ok (.aload_n 0, 1) := by decide +kernel
theorem dX8_init_180 : decode cX8_init 180 = .ok (.sipush 441, 3) := by decide +kernel
theorem dX8_init_183 : decode cX8_init 183 = .ok (.newarray .int, 2) := by decide +kernel
theorem dX8_init_185 : decode cX8_init 185 = .ok (.putfield 77, 3) := by decide +kernel
theorem dX8_init_188 : decode cX8_init 188 = .ok (.iconst 0, 1) := by decide +kernel
theorem dX8_init_189 : decode cX8_init 189 = .ok (.istore_n 1, 1) := by decide +kernel
theorem dX8_init_190 : decode cX8_init 190 = .ok (.iload_n 1, 1) := by decide +kernel
theorem dX8_init_191 : decode cX8_init 191 = .ok (.bipush 10, 2) := by decide +kernel
theorem dX8_init_193 : decode cX8_init 193 = .ok (.if_icmp .ge 16, 3) := by decide +kernel
theorem dX8_init_196 : decode cX8_init 196 = .ok (.aload_n 0, 1) := by decide +kernel
theorem dX8_init_197 : decode cX8_init 197 = .ok (.getfield 41, 3) := by decide +kernel
theorem dX8_init_200 : decode cX8_init 200 = .ok (.iload_n 1, 1) := by decide +kernel
theorem dX8_init_201 : decode cX8_init 201 = .ok (.iload_n 1, 1) := by decide +kernel
theorem dX8_init_202 : decode cX8_init 202 = .ok (.iastore, 1) := by decide +kernel
theorem dX8_init_203 : decode cX8_init 203 = .ok (.iinc 1 1, 3) := by decide +kernel
theorem dX8_init_206 : decode cX8_init 206 = .ok (.goto (-16), 3) := by decide +kernel
theorem dX8_init_209 : decode cX8_init 209 = .ok (.aload_n 0, 1) := by decide +kernel
theorem dX8_init_210 : decode cX8_init 210 = .ok (.getfield 74, 3) := by decide +kernel
theorem dX8_init_213 : decode cX8_init 213 = .ok (.iconst 0, 1) := by decide +kernel
theorem dX8_init_214 : decode cX8_init 214 = .ok (.iconst 5, 1) := by decide +kernel
theorem dX8_init_215 : decode cX8_init 215 = .ok (.iastore, 1) := by decide +kernel
theorem dX8_init_216 : decode cX8_init 216 = .ok (.aload_n 0, 1) := by decide +kernel
theorem dX8_init_217 : decode cX8_init 217 = .ok (.getfield 74, 3) := by decide +kernel
theorem dX8_init_220 : decode cX8_init 220 = .ok (.iconst 1, 1) := by decide +kernel
theorem dX8_init_221 : decode cX8_init 221 = .ok (.bipush 100, 2) := by decide +kernel
theorem dX8_init_223 : decode cX8_init 223 = .ok (.iastore, 1) := by decide +kernel
theorem dX8_init_224 : decode cX8_init 224 = .ok (.return_, 1) := by decide +kernel
theorem dX8_in_0 : decode cX8_in 0 = .ok (.lload_n 0, 1) := by decide +kernel
theorem dX8_in_1 : decode cX8_in 1 = .ok (.lload_n 2, 1) := by decide +kernel
theorem dX8_in_2 : decode cX8_in 2 = .ok (.lcmp, 1) := by decide +kernel
theorem dX8_in_3 : decode cX8_in 3 = .ok (.ifCond .lt 14, 3) := by decide +kernel
theorem dX8_in_6 : decode cX8_in 6 = .ok (.lload_n 0, 1) := by decide +kernel
theorem dX8_in_7 : decode cX8_in 7 = .ok (.lload 4, 2) := by decide +kernel
theorem dX8_in_9 : decode cX8_in 9 = .ok (.lcmp, 1) := by decide +kernel
theorem dX8_in_10 : decode cX8_in 10 = .ok (.ifCond .gt 7, 3) := by decide +kernel
theorem dX8_in_13 : decode cX8_in 13 = .ok (.iconst 1, 1) := by decide +kernel
theorem dX8_in_14 : decode cX8_in 14 = .ok (.goto 4, 3) := by decide +kernel
theorem dX8_in_17 : decode cX8_in 17 = .ok (.iconst 0, 1) := by decide +kernel
theorem dX8_in_18 : decode cX8_in 18 = .ok (.ireturn, 1) := by decide +kernel
set_option maxRecDepth 20000 in
theorem ggX8_isHole_X8_in : GoodIn wsX8_isHole wsX8_in := goodIn_r _ [5] (by decide +kernel) (by decide +kernel)
set_option maxRecDepth 20000 in
theorem gX8_isHole_X8_in : GoodIn wsX8_isHole (va_wsS RX8 84 yX8_in wsX8_in) := goodIn_app (goodIn_of _ (by decide +kernel)) ggX8_isHole_X8_in
theorem dX8_isHole_0 : decode cX8_isHole 0 = .ok (.iload_n 1, 1) := by decide +kernel
theorem dX8_isHole_1 : decode cX8_isHole 1 = .ok (.i2l, 1) := by decide +kernel
theorem dX8_isHole_2 : decode cX8_isHole 2 = .ok (.lconst 0, 1) := by decide +kernel
theorem dX8_isHole_3 : decode cX8_isHole 3 = .ok (.aload_n 0, 1) := by decide +kernel
theorem dX8_isHole_4 : decode cX8_isHole 4 = .ok (.getfield 80, 3) := by decide +kernel
theorem dX8_isHole_7 : decode cX8_isHole 7 = .ok (.iconst 1, 1) := by decide +kernel
theorem dX8_isHole_8 : decode cX8_isHole 8 = .ok (.isub, 1) := by decide +kernel
theorem dX8_isHole_9 : decode cX8_isHole 9 = .ok (.i2l, 1) := by decide +kernel
theorem dX8_isHole_10 : decode cX8_isHole 10 = .ok (.invokestatic 84, 3) := by decide +kernel
theorem dX8_isHole_13 : decode cX8_isHole 13 = .ok (.ireturn, 1) := by decide +kernel
theorem dX8_hole_0 : decode cX8_hole 0 = .ok (.aload_n 0, 1) := by decide +kernel
theorem dX8_hole_1 : decode cX8_hole 1 = .ok (.getfield 80, 3) := by decide +kernel
theorem dX8_hole_4 : decode cX8_hole 4 = .ok (.iconst 4, 1) := by decide +kernel
theorem dX8_hole_5 : decode cX8_hole 5 = .ok (.if_icmp .ne 6, 3) := by decide +kernel
theorem dX8_hole_8 : decode cX8_hole 8 = .ok (.bipush (-104), 2) := by decide +kernel
theorem dX8_hole_10 : decode cX8_hole 10 = .ok (.ireturn, 1) := by decide +kernel
theorem dX8_hole_11 : decode cX8_hole 11 = .ok (.aload_n 0, 1) := by decide +kernel
theorem dX8_hole_12 : decode cX8_hole 12 = .ok (.dup, 1) := by decide +kernel
theorem dX8_hole_13 : decode cX8_hole 13 = .ok (.getfield 80, 3) := by decide +kernel
theorem dX8_hole_16 : decode cX8_hole 16 = .ok (.iconst 1, 1) := by decide +kernel
theorem dX8_hole_17 : decode cX8_hole 17 = .ok (.iadd, 1) := by decide +kernel
theorem dX8_hole_18 : decode cX8_hole 18 = .ok (.putfield 80, 3) := by decide +kernel
theorem dX8_hole_21 : decode cX8_hole 21 = .ok (.aload_n 0, 1) := by decide +kernel
theorem dX8_hole_22 : decode cX8_hole 22 = .ok (.getfield 80, 3) := by decide +kernel
theorem dX8_hole_25 : decode cX8_hole 25 = .ok (.iconst 1, 1) := by decide +kernel
theorem dX8_hole_26 : decode cX8_hole 26 = .ok (.isub, 1) := by decide +kernel
theorem dX8_hole_27 : decode cX8_hole 27 = .ok (.ireturn, 1) := by decide +kernel
theorem dX8_endOf_0 : decode cX8_endOf 0 = .ok (.iconst 0, 1) := by decide +kernel
theorem dX8_endOf_1 : decode cX8_endOf 1 = .ok (.istore_n 2, 1) := by decide +kernel
theorem dX8_endOf_2 : decode cX8_endOf 2 = .ok (.iconst 0, 1) := by decide +kernel
theorem dX8_endOf_3 : decode cX8_endOf 3 = .ok (.istore_n 3, 1) := by decide +kernel
theorem dX8_endOf_4 : decode cX8_endOf 4 = .ok (.iload_n 3, 1) := by decide +kernel
theorem dX8_endOf_5 : decode cX8_endOf 5 = .ok (.aload_n 0, 1) := by decide +kernel
theorem dX8_endOf_6 : decode cX8_endOf 6 = .ok (.getfield 7, 3) := by decide +kernel
theorem dX8_endOf_9 : decode cX8_endOf 9 = .ok (.iload_n 1, 1) := by decide +kernel
theorem dX8_endOf_10 : decode cX8_endOf 10 = .ok (.iaload, 1) := by decide +kernel
theorem dX8_endOf_11 : decode cX8_endOf 11 = .ok (.if_icmp .ge 23, 3) := by decide +kernel
theorem dX8_endOf_14 : decode cX8_endOf 14 = .ok (.iload_n 2, 1) := by decide +kernel
theorem dX8_endOf_15 : decode cX8_endOf 15 = .ok (.aload_n 0, 1) := by decide +kernel
theorem dX8_endOf_16 : decode cX8_endOf 16 = .ok (.getfield 13, 3) := by decide +kernel
theorem dX8_endOf_19 : decode cX8_endOf 19 = .ok (.bipush 20, 2) := by decide +kernel
theorem dX8_endOf_21 : decode cX8_endOf 21 = .ok (.iload_n 1, 1) := by decide +kernel
theorem dX8_endOf_22 : decode cX8_endOf 22 = .ok (.imul, 1) := by decide +kernel
theorem dX8_endOf_23 : decode cX8_endOf 23 = .ok (.iload_n 3, 1) := by decide +kernel
theorem dX8_endOf_24 : decode cX8_endOf 24 = .ok (.iadd, 1) := by decide +kernel
theorem dX8_endOf_25 : decode cX8_endOf 25 = .ok (.iaload, 1) := by decide +kernel
theorem dX8_endOf_26 : decode cX8_endOf 26 = .ok (.iadd, 1) := by decide +kernel
theorem dX8_endOf_27 : decode cX8_endOf 27 = .ok (.istore_n 2, 1) := by decide +kernel
theorem dX8_endOf_28 : decode cX8_endOf 28 = .ok (.iinc 3 1, 3) := by decide +kernel
theorem dX8_endOf_31 : decode cX8_endOf 31 = .ok (.goto (-27), 3) := by decide +kernel
theorem dX8_endOf_34 : decode cX8_endOf 34 = .ok (.iload_n 2, 1) := by decide +kernel
theorem dX8_endOf_35 : decode cX8_endOf 35 = .ok (.ireturn, 1) := by decide +kernel
theorem dX8_isUsed_0 : decode cX8_isUsed 0 = .ok (.aload_n 0, 1) := by decide +kernel
theorem dX8_isUsed_1 : decode cX8_isUsed 1 = .ok (.getfield 32, 3) := by decide +kernel
theorem dX8_isUsed_4 : decode cX8_isUsed 4 = .ok (.iconst 2, 1) := by decide +kernel
theorem dX8_isUsed_5 : decode cX8_isUsed 5 = .ok (.iload_n 1, 1) := by decide +kernel
theorem dX8_isUsed_6 : decode cX8_isUsed 6 = .ok (.imul, 1) := by decide +kernel
theorem dX8_isUsed_7 : decode cX8_isUsed 7 = .ok (.iaload, 1) := by decide +kernel
theorem dX8_isUsed_8 : decode cX8_isUsed 8 = .ok (.ifCond .gt 16, 3) := by decide +kernel
theorem dX8_isUsed_11 : decode cX8_isUsed 11 = .ok (.aload_n 0, 1) := by decide +kernel
theorem dX8_isUsed_12 : decode cX8_isUsed 12 = .ok (.getfield 32, 3) := by decide +kernel
theorem dX8_isUsed_15 : decode cX8_isUsed 15 = .ok (.iconst 2, 1) := by decide +kernel
theorem dX8_isUsed_16 : decode cX8_isUsed 16 = .ok (.iload_n 1, 1) := by decide +kernel
theorem dX8_isUsed_17 : decode cX8_isUsed 17 = .ok (.imul, 1) := by decide +kernel
theorem dX8_isUsed_18 : decode cX8_isUsed 18 = .ok (.iconst 1, 1) := by decide +kernel
