theorem dX8_far_13 : decode cX8_far 13 = .ok (.isub, 1) := by decide +kernel
theorem dX8_far_14 : decode cX8_far 14 = .ok (.ireturn, 1) := by decide +kernel
set_option maxRecDepth 20000 in
theorem ggX8_isGood_X8_lower : GoodIn wsX8_isGood wsX8_lower := goodIn_r _ [10, 11, 19, 20, 21, 22, 23, 24, 25, 26, 27, 28, 29, 30, 31, 32, 33, 34, 35, 36, 37, 38, 39, 40, 41, 42, 43, 44, 45] (by decide +kernel) (by decide +kernel)
set_option maxRecDepth 20000 in
theorem gX8_isGood_X8_lower : GoodIn wsX8_isGood (wsV RX8 165 RX8 yX8_lower wsX8_lower) := goodIn_app (goodIn_of _ (by decide +kernel)) ggX8_isGood_X8_lower
set_option maxRecDepth 20000 in
theorem ggX8_isGood_X8_far : GoodIn wsX8_isGood wsX8_far := goodIn_r _ [14] (by decide +kernel) (by decide +kernel)
set_option maxRecDepth 20000 in
theorem gX8_isGood_X8_far : GoodIn wsX8_isGood (va_wsS RX8 168 yX8_far wsX8_far) := goodIn_app (goodIn_of _ (by decide +kernel)) ggX8_isGood_X8_far
set_option maxRecDepth 20000 in
theorem ggX8_isGood_X8_upper : GoodIn wsX8_isGood wsX8_upper := goodIn_r _ [18, 11, 19, 20, 21, 22, 23, 24, 25, 26, 27, 28, 29, 30, 31, 32, 33, 34, 35, 36, 37, 38, 39, 40, 41, 42, 43, 44, 45] (by decide +kernel) (by decide +kernel)
set_option maxRecDepth 20000 in
theorem gX8_isGood_X8_upper : GoodIn wsX8_isGood (wsV RX8 171 RX8 yX8_upper wsX8_upper) := goodIn_app (goodIn_of _ (by decide +kernel)) ggX8_isGood_X8_upper
theorem dX8_isGood_0 : decode cX8_isGood 0 = .ok (.bipush 16, 2) := by decide +kernel
theorem dX8_isGood_2 : decode cX8_isGood 2 = .ok (.iload_n 1, 1) := by decide +kernel
theorem dX8_isGood_3 : decode cX8_isGood 3 = .ok (.imul, 1) := by decide +kernel
theorem dX8_isGood_4 : decode cX8_isGood 4 = .ok (.iload_n 2, 1) := by decide +kernel
theorem dX8_isGood_5 : decode cX8_isGood 5 = .ok (.iadd, 1) := by decide +kernel
theorem dX8_isGood_6 : decode cX8_isGood 6 = .ok (.istore_n 3, 1) := by decide +kernel
theorem dX8_isGood_7 : decode cX8_isGood 7 = .ok (.aload_n 0, 1) := by decide +kernel
theorem dX8_isGood_8 : decode cX8_isGood 8 = .ok (.getfield 59, 3) := by decide +kernel
theorem dX8_isGood_11 : decode cX8_isGood 11 = .ok (.iload_n 3, 1) := by decide +kernel
theorem dX8_isGood_12 : decode cX8_isGood 12 = .ok (.iaload, 1) := by decide +kernel
theorem dX8_isGood_13 : decode cX8_isGood 13 = .ok (.iconst 1, 1) := by decide +kernel
theorem dX8_isGood_14 : decode cX8_isGood 14 = .ok (.if_icmp .ne 55, 3) := by decide +kernel
theorem dX8_isGood_17 : decode cX8_isGood 17 = .ok (.aload_n 0, 1) := by decide +kernel
theorem dX8_isGood_18 : decode cX8_isGood 18 = .ok (.iload_n 3, 1) := by decide +kernel
theorem dX8_isGood_19 : decode cX8_isGood 19 = .ok (.invokevirtual 165, 3) := by decide +kernel
theorem dX8_isGood_22 : decode cX8_isGood 22 = .ok (.aload_n 0, 1) := by decide +kernel
theorem dX8_isGood_23 : decode cX8_isGood 23 = .ok (.getfield 62, 3) := by decide +kernel
theorem dX8_isGood_26 : decode cX8_isGood 26 = .ok (.iload_n 3, 1) := by decide +kernel
theorem dX8_isGood_27 : decode cX8_isGood 27 = .ok (.iaload, 1) := by decide +kernel
theorem dX8_isGood_28 : decode cX8_isGood 28 = .ok (.invokestatic 168, 3) := by decide +kernel
theorem dX8_isGood_31 : decode cX8_isGood 31 = .ok (.aload_n 0, 1) := by decide +kernel
theorem dX8_isGood_32 : decode cX8_isGood 32 = .ok (.getfield 65, 3) := by decide +kernel
theorem dX8_isGood_35 : decode cX8_isGood 35 = .ok (.iload_n 3, 1) := by decide +kernel
theorem dX8_isGood_36 : decode cX8_isGood 36 = .ok (.iaload, 1) := by decide +kernel
theorem dX8_isGood_37 : decode cX8_isGood 37 = .ok (.if_icmp .gt 30, 3) := by decide +kernel
theorem dX8_isGood_40 : decode cX8_isGood 40 = .ok (.aload_n 0, 1) := by decide +kernel
theorem dX8_isGood_41 : decode cX8_isGood 41 = .ok (.iload_n 3, 1) := by decide +kernel
theorem dX8_isGood_42 : decode cX8_isGood 42 = .ok (.invokevirtual 171, 3) := by decide +kernel
theorem dX8_isGood_45 : decode cX8_isGood 45 = .ok (.aload_n 0, 1) := by decide +kernel
theorem dX8_isGood_46 : decode cX8_isGood 46 = .ok (.getfield 62, 3) := by decide +kernel
theorem dX8_isGood_49 : decode cX8_isGood 49 = .ok (.iload_n 3, 1) := by decide +kernel
theorem dX8_isGood_50 : decode cX8_isGood 50 = .ok (.iaload, 1) := by decide +kernel
theorem dX8_isGood_51 : decode cX8_isGood 51 = .ok (.invokestatic 168, 3) := by decide +kernel
theorem dX8_isGood_54 : decode cX8_isGood 54 = .ok (.aload_n 0, 1) := by decide +kernel
theorem dX8_isGood_55 : decode cX8_isGood 55 = .ok (.getfield 65, 3) := by decide +kernel
theorem dX8_isGood_58 : decode cX8_isGood 58 = .ok (.iload_n 3, 1) := by decide +kernel
theorem dX8_isGood_59 : decode cX8_isGood 59 = .ok (.iaload, 1) := by decide +kernel
theorem dX8_isGood_60 : decode cX8_isGood 60 = .ok (.if_icmp .gt 7, 3) := by decide +kernel
theorem dX8_isGood_63 : decode cX8_isGood 63 = .ok (.iconst 1, 1) := by decide +kernel
theorem dX8_isGood_64 : decode cX8_isGood 64 = .ok (.goto 4, 3) := by decide +kernel
theorem dX8_isGood_67 : decode cX8_isGood 67 = .ok (.iconst 0, 1) := by decide +kernel
theorem dX8_isGood_68 : decode cX8_isGood 68 = .ok (.ireturn, 1) := by decide +kernel
theorem dX8_isGood_69 : decode cX8_isGood 69 = .ok (.aload_n 0, 1) := by decide +kernel
theorem dX8_isGood_70 : decode cX8_isGood 70 = .ok (.getfield 59, 3) := by decide +kernel
theorem dX8_isGood_73 : decode cX8_isGood 73 = .ok (.iload_n 3, 1) := by decide +kernel
theorem dX8_isGood_74 : decode cX8_isGood 74 = .ok (.iaload, 1) := by decide +kernel
theorem dX8_isGood_75 : decode cX8_isGood 75 = .ok (.iconst 2, 1) := by decide +kernel
theorem dX8_isGood_76 : decode cX8_isGood 76 = .ok (.if_icmp .ne 23, 3) := by decide +kernel
theorem dX8_isGood_79 : decode cX8_isGood 79 = .ok (.aload_n 0, 1) := by decide +kernel
theorem dX8_isGood_80 : decode cX8_isGood 80 = .ok (.iload_n 3, 1) := by decide +kernel
theorem dX8_isGood_81 : decode cX8_isGood 81 = .ok (.invokevirtual 171, 3) := by decide +kernel
theorem dX8_isGood_84 : decode cX8_isGood 84 = .ok (.aload_n 0, 1) := by decide +kernel
theorem dX8_isGood_85 : decode cX8_isGood 85 = .ok (.getfield 74, 3) := by decide +kernel
theorem dX8_isGood_88 : decode cX8_isGood 88 = .ok (.iconst 0, 1) := by decide +kernel
theorem dX8_isGood_89 : decode cX8_isGood 89 = .ok (.iaload, 1) := by decide +kernel
theorem dX8_isGood_90 : decode cX8_isGood 90 = .ok (.if_icmp .gt 7, 3) := by decide +kernel
theorem dX8_isGood_93 : decode cX8_isGood 93 = .ok (.iconst 1, 1) := by decide +kernel
theorem dX8_isGood_94 : decode cX8_isGood 94 = .ok (.goto 4, 3) := by decide +kernel
theorem dX8_isGood_97 : decode cX8_isGood 97 = .ok (.iconst 0, 1) := by decide +kernel
theorem dX8_isGood_98 : decode cX8_isGood 98 = .ok (.ireturn, 1) := by decide +kernel
theorem dX8_isGood_99 : decode cX8_isGood 99 = .ok (.aload_n 0, 1) := by decide +kernel
theorem dX8_isGood_100 : decode cX8_isGood 100 = .ok (.getfield 59, 3) := by decide +kernel
theorem dX8_isGood_103 : decode cX8_isGood 103 = .ok (.iload_n 3, 1) := by decide +kernel
theorem dX8_isGood_104 : decode cX8_isGood 104 = .ok (.iaload, 1) := by decide +kernel
theorem dX8_isGood_105 : decode cX8_isGood 105 = .ok (.iconst 3, 1) := by decide +kernel
theorem dX8_isGood_106 : decode cX8_isGood 106 = .ok (.if_icmp .ne 72, 3) := by decide +kernel
theorem dX8_isGood_109 : decode cX8_isGood 109 = .ok (.aload_n 0, 1) := by decide +kernel
theorem dX8_isGood_110 : decode cX8_isGood 110 = .ok (.iload_n 3, 1) := by decide +kernel
theorem dX8_isGood_111 : decode cX8_isGood 111 = .ok (.invokevirtual 171, 3) := by decide +kernel
theorem dX8_isGood_114 : decode cX8_isGood 114 = .ok (.istore 4, 2) := by decide +kernel
theorem dX8_isGood_116 : decode cX8_isGood 116 = .ok (.aload_n 0, 1) := by decide +kernel
theorem dX8_isGood_117 : decode cX8_isGood 117 = .ok (.bipush 16, 2) := by decide +kernel
theorem dX8_isGood_119 : decode cX8_isGood 119 = .ok (.iload_n 1, 1) := by decide +kernel
theorem dX8_isGood_120 : decode cX8_isGood 120 = .ok (.imul, 1) := by decide +kernel
theorem dX8_isGood_121 : decode cX8_isGood 121 = .ok (.aload_n 0, 1) := by decide +kernel
theorem dX8_isGood_122 : decode cX8_isGood 122 = .ok (.getfield 62, 3) := by decide +kernel
theorem dX8_isGood_125 : decode cX8_isGood 125 = .ok (.iload_n 3, 1) := by decide +kernel
theorem dX8_isGood_126 : decode cX8_isGood 126 = .ok (.iaload, 1) := by decide +kernel
theorem dX8_isGood_127 : decode cX8_isGood 127 = .ok (.iadd, 1) := by decide +kernel
theorem dX8_isGood_128 : decode cX8_isGood 128 = .ok (.invokevirtual 171, 3) := by decide +kernel
theorem dX8_isGood_131 : decode cX8_isGood 131 = .ok (.istore 5, 2) := by decide +kernel
theorem dX8_isGood_133 : decode cX8_isGood 133 = .ok (.ldc2_w 95, 3) := by decide +kernel
theorem dX8_isGood_136 : decode cX8_isGood 136 = .ok (.iload 4, 2) := by decide +kernel
theorem dX8_isGood_138 : decode cX8_isGood 138 = .ok (.iload 5, 2) := by decide +kernel
theorem dX8_isGood_140 : decode cX8_isGood 140 = .ok (.invokestatic 168, 3) := by decide +kernel
theorem dX8_isGood_143 : decode cX8_isGood 143 = .ok (.i2l, 1) := by decide +kernel
theorem dX8_isGood_144 : decode cX8_isGood 144 = .ok (.lmul, 1) := by decide +kernel
theorem dX8_isGood_145 : decode cX8_isGood 145 = .ok (.aload_n 0, 1) := by decide +kernel
theorem dX8_isGood_146 : decode cX8_isGood 146 = .ok (.getfield 74, 3) := by decide +kernel
theorem dX8_isGood_149 : decode cX8_isGood 149 = .ok (.iconst 1, 1) := by decide +kernel
theorem dX8_isGood_150 : decode cX8_isGood 150 = .ok (.iaload, 1) := by decide +kernel
theorem dX8_isGood_151 : decode cX8_isGood 151 = .ok (.i2l, 1) := by decide +kernel
theorem dX8_isGood_152 : decode cX8_isGood 152 = .ok (.iload 4, 2) := by decide +kernel
theorem dX8_isGood_154 : decode cX8_isGood 154 = .ok (.iload 5, 2) := by decide +kernel
theorem dX8_isGood_156 : decode cX8_isGood 156 = .ok (.if_icmp .le 8, 3) := by decide +kernel
theorem dX8_isGood_159 : decode cX8_isGood 159 = .ok (.iload 4, 2) := by decide +kernel
theorem dX8_isGood_161 : decode cX8_isGood 161 = .ok (.goto 5, 3) := by decide +kernel
theorem dX8_isGood_164 : decode cX8_isGood 164 = .ok (.iload 5, 2) := by decide +kernel
theorem dX8_isGood_166 : decode cX8_isGood 166 = .ok (.i2l, 1) := by decide +kernel
theorem dX8_isGood_167 : decode cX8_isGood 167 = .ok (.lmul, 1) := by decide +kernel
theorem dX8_isGood_168 : decode cX8_isGood 168 = .ok (.lcmp, 1) := by decide +kernel
theorem dX8_isGood_169 : decode cX8_isGood 169 = .ok (.ifCond .gt 7, 3) := by decide +kernel
theorem dX8_isGood_172 : decode cX8_isGood 172 = .ok (.iconst 1, 1) := by decide +kernel
theorem dX8_isGood_173 : decode cX8_isGood 173 = .ok (.goto 4, 3) := by decide +kernel
theorem dX8_isGood_176 : decode cX8_isGood 176 = .ok (.iconst 0, 1) := by decide +kernel
theorem dX8_isGood_177 : decode cX8_isGood 177 = .ok (.ireturn, 1) := by decide +kernel
theorem dX8_isGood_178 : decode cX8_isGood 178 = .ok (.iconst 1, 1) := by decide +kernel
theorem dX8_isGood_179 : decode cX8_isGood 179 = .ok (.ireturn, 1) := by decide +kernel
theorem dX8_isTold_0 : decode cX8_isTold 0 = .ok (.aload_n 0, 1) := by decide +kernel
theorem dX8_isTold_1 : decode cX8_isTold 1 = .ok (.getfield 56, 3) := by decide +kernel
theorem dX8_isTold_4 : decode cX8_isTold 4 = .ok (.iload_n 1, 1) := by decide +kernel
theorem dX8_isTold_5 : decode cX8_isTold 5 = .ok (.iaload, 1) := by decide +kernel
theorem dX8_isTold_6 : decode cX8_isTold 6 = .ok (.ifCond .le 7, 3) := by decide +kernel
theorem dX8_isTold_9 : decode cX8_isTold 9 = .ok (.iconst 1, 1) := by decide +kernel
theorem dX8_isTold_10 : decode cX8_isTold 10 = .ok (.goto 4, 3) := by decide +kernel
theorem dX8_isTold_13 : decode cX8_isTold 13 = .ok (.iconst 0, 1) := by decide +kernel
theorem dX8_isTold_14 : decode cX8_isTold 14 = .ok (.istore_n 2, 1) := by decide +kernel
theorem dX8_isTold_15 : decode cX8_isTold 15 = .ok (.iconst 0, 1) := by decide +kernel
theorem dX8_isTold_16 : decode cX8_isTold 16 = .ok (.istore_n 3, 1) := by decide +kernel
theorem dX8_isTold_17 : decode cX8_isTold 17 = .ok (.iload_n 3, 1) := by decide +kernel
theorem dX8_isTold_18 : decode cX8_isTold 18 = .ok (.aload_n 0, 1) := by decide +kernel
theorem dX8_isTold_19 : decode cX8_isTold 19 = .ok (.getfield 56, 3) := by decide +kernel
theorem dX8_isTold_22 : decode cX8_isTold 22 = .ok (.iload_n 1, 1) := by decide +kernel
theorem dX8_isTold_23 : decode cX8_isTold 23 = .ok (.iaload, 1) := by decide +kernel
theorem dX8_isTold_24 : decode cX8_isTold 24 = .ok (.if_icmp .ge 33, 3) := by decide +kernel
theorem dX8_isTold_27 : decode cX8_isTold 27 = .ok (.iload_n 2, 1) := by decide +kernel
theorem dX8_isTold_28 : decode cX8_isTold 28 = .ok (.ifCond .eq 21, 3) := by decide +kernel
theorem dX8_isTold_31 : decode cX8_isTold 31 = .ok (.aload_n 0, 1) := by decide +kernel
theorem dX8_isTold_32 : decode cX8_isTold 32 = .ok (.getfield 68, 3) := by decide +kernel
theorem dX8_isTold_35 : decode cX8_isTold 35 = .ok (.bipush 16, 2) := by decide +kernel
theorem dX8_isTold_37 : decode cX8_isTold 37 = .ok (.iload_n 1, 1) := by decide +kernel
theorem dX8_isTold_38 : decode cX8_isTold 38 = .ok (.imul, 1) := by decide +kernel
theorem dX8_isTold_39 : decode cX8_isTold 39 = .ok (.iload_n 3, 1) := by decide +kernel
theorem dX8_isTold_40 : decode cX8_isTold 40 = .ok (.iadd, 1) := by decide +kernel
theorem dX8_isTold_41 : decode cX8_isTold 41 = .ok (.baload, 1) := by decide +kernel
theorem dX8_isTold_42 : decode cX8_isTold 42 = .ok (.ifCond .eq 7, 3) := by decide +kernel
theorem dX8_isTold_45 : decode cX8_isTold 45 = .ok (.iconst 1, 1) := by decide +kernel
theorem dX8_isTold_46 : decode cX8_isTold 46 = .ok (.goto 4, 3) := by decide +kernel
theorem dX8_isTold_49 : decode cX8_isTold 49 = .ok (.iconst 0, 1) := by decide +kernel
theorem dX8_isTold_50 : decode cX8_isTold 50 = .ok (.istore_n 2, 1) := by decide +kernel
theorem dX8_isTold_51 : decode cX8_isTold 51 = .ok (.iinc 3 1, 3) := by decide +kernel
theorem dX8_isTold_54 : decode cX8_isTold 54 = .ok (.goto (-37), 3) := by decide +kernel
theorem dX8_isTold_57 : decode cX8_isTold 57 = .ok (.iload_n 2, 1) := by decide +kernel
theorem dX8_isTold_58 : decode cX8_isTold 58 = .ok (.ireturn, 1) := by decide +kernel
set_option maxRecDepth 20000 in
theorem ggX8_faultOf_X8_isGood : GoodIn wsX8_faultOf wsX8_isGood := goodIn_r _ [6, 7, 8, 9, 10, 11, 12, 13, 14, 5, 15, 16, 17, 18, 19, 20, 21, 22, 23, 24, 25, 26, 27, 28, 29, 30, 31, 32, 33, 34, 35, 36, 37, 38, 39, 40, 41, 42, 43, 44, 45, 46, 47, 48, 49, 50] (by decide +kernel) (by decide +kernel)
set_option maxRecDepth 20000 in
theorem gX8_faultOf_X8_isGood : GoodIn wsX8_faultOf (wsV RX8 174 RX8 yX8_isGood wsX8_isGood) := goodIn_app (goodIn_of _ (by decide +kernel)) ggX8_faultOf_X8_isGood
theorem dX8_faultOf_0 : decode cX8_faultOf 0 = .ok (.iconst 0, 1) := by decide +kernel
theorem dX8_faultOf_1 : decode cX8_faultOf 1 = .ok (.istore_n 2, 1) := by decide +kernel
theorem dX8_faultOf_2 : decode cX8_faultOf 2 = .ok (.iload_n 2, 1) := by decide +kernel
theorem dX8_faultOf_3 : decode cX8_faultOf 3 = .ok (.aload_n 0, 1) := by decide +kernel
theorem dX8_faultOf_4 : decode cX8_faultOf 4 = .ok (.getfield 56, 3) := by decide +kernel
theorem dX8_faultOf_7 : decode cX8_faultOf 7 = .ok (.iload_n 1, 1) := by decide +kernel
theorem dX8_faultOf_8 : decode cX8_faultOf 8 = .ok (.iaload, 1) := by decide +kernel
theorem dX8_faultOf_9 : decode cX8_faultOf 9 = .ok (.if_icmp .ge 20, 3) := by decide +kernel
theorem dX8_faultOf_12 : decode cX8_faultOf 12 = .ok (.aload_n 0, 1) := by decide +kernel
theorem dX8_faultOf_13 : decode cX8_faultOf 13 = .ok (.iload_n 1, 1) := by decide +kernel
theorem dX8_faultOf_14 : decode cX8_faultOf 14 = .ok (.iload_n 2, 1) := by decide +kernel
theorem dX8_faultOf_15 : decode cX8_faultOf 15 = .ok (.invokevirtual 174, 3) := by decide +kernel
theorem dX8_faultOf_18 : decode cX8_faultOf 18 = .ok (.ifCond .ne 5, 3) := by decide +kernel
theorem dX8_faultOf_21 : decode cX8_faultOf 21 = .ok (.iload_n 2, 1) := by decide +kernel
theorem dX8_faultOf_22 : decode cX8_faultOf 22 = .ok (.ireturn, 1) := by decide +kernel
theorem dX8_faultOf_23 : decode cX8_faultOf 23 = .ok (.iinc 2 1, 3) := by decide +kernel
theorem dX8_faultOf_26 : decode cX8_faultOf 26 = .ok (.goto (-24), 3) := by decide +kernel
theorem dX8_faultOf_29 : decode cX8_faultOf 29 = .ok (.iconst (-1), 1) := by decide +kernel
theorem dX8_faultOf_30 : decode cX8_faultOf 30 = .ok (.ireturn, 1) := by decide +kernel
set_option maxRecDepth 20000 in
theorem ggX8_isSound_X8_isTold : GoodIn wsX8_isSound wsX8_isTold := goodIn_r _ [5, 6, 7, 33, 34, 35, 36, 37, 38, 39, 40, 41, 42, 43, 44, 45, 46, 47, 48, 49, 50, 51, 52, 53, 54, 55, 56, 57, 58, 59] (by decide +kernel) (by decide +kernel)
set_option maxRecDepth 20000 in
theorem gX8_isSound_X8_isTold : GoodIn wsX8_isSound (wsV RX8 177 RX8 yX8_isTold wsX8_isTold) := goodIn_app (goodIn_of _ (by decide +kernel)) ggX8_isSound_X8_isTold
set_option maxRecDepth 20000 in
theorem ggX8_isSound_X8_faultOf : GoodIn wsX8_isSound wsX8_faultOf := goodIn_r _ [11, 6, 12, 13, 14, 4, 15, 16, 17, 18, 19, 20, 21, 22, 23, 24, 25, 26, 27, 28, 29, 30, 31, 32, 33, 34, 35, 36, 37, 38, 39, 40, 41, 42, 43, 44, 45, 46, 47, 48, 49, 50, 51, 52, 53, 54, 55, 56, 57, 58, 59] (by decide +kernel) (by decide +kernel)
set_option maxRecDepth 20000 in
theorem gX8_isSound_X8_faultOf : GoodIn wsX8_isSound (wsV RX8 180 RX8 yX8_faultOf wsX8_faultOf) := goodIn_app (goodIn_of _ (by decide +kernel)) ggX8_isSound_X8_faultOf
theorem dX8_isSound_0 : decode cX8_isSound 0 = .ok (.aload_n 0, 1) := by decide +kernel
theorem dX8_isSound_1 : decode cX8_isSound 1 = .ok (.iload_n 1, 1) := by decide +kernel
theorem dX8_isSound_2 : decode cX8_isSound 2 = .ok (.invokevirtual 177, 3) := by decide +kernel
theorem dX8_isSound_5 : decode cX8_isSound 5 = .ok (.ifCond .eq 16, 3) := by decide +kernel
theorem dX8_isSound_8 : decode cX8_isSound 8 = .ok (.aload_n 0, 1) := by decide +kernel
theorem dX8_isSound_9 : decode cX8_isSound 9 = .ok (.iload_n 1, 1) := by decide +kernel
theorem dX8_isSound_10 : decode cX8_isSound 10 = .ok (.invokevirtual 180, 3) := by decide +kernel
theorem dX8_isSound_13 : decode cX8_isSound 13 = .ok (.iconst (-1), 1) := by decide +kernel
theorem dX8_isSound_14 : decode cX8_isSound 14 = .ok (.if_icmp .ne 7, 3) := by decide +kernel
theorem dX8_isSound_17 : decode cX8_isSound 17 = .ok (.iconst 1, 1) := by decide +kernel
theorem dX8_isSound_18 : decode cX8_isSound 18 = .ok (.goto 4, 3) := by decide +kernel
theorem dX8_isSound_21 : decode cX8_isSound 21 = .ok (.iconst 0, 1) := by decide +kernel
theorem dX8_isSound_22 : decode cX8_isSound 22 = .ok (.ireturn, 1) := by decide +kernel
set_option maxRecDepth 20000 in
theorem ggX8_sound_X8_isBatch : GoodIn wsX8_sound wsX8_isBatch := goodIn_r _ [5, 6, 7, 8, 4, 9, 45, 46, 47, 48, 49, 50, 51, 52, 53, 54, 55, 56, 57, 58, 59, 60, 61, 62, 63, 64, 65, 66, 67, 68, 69, 70, 71] (by decide +kernel) (by decide +kernel)
set_option maxRecDepth 20000 in
theorem gX8_sound_X8_isBatch : GoodIn wsX8_sound (wsV RX8 136 RX8 yX8_isBatch wsX8_isBatch) := goodIn_app (goodIn_of _ (by decide +kernel)) ggX8_sound_X8_isBatch
set_option maxRecDepth 20000 in
theorem ggX8_sound_X8_isTold : GoodIn wsX8_sound wsX8_isTold := goodIn_r _ [13, 14, 15, 45, 46, 47, 48, 49, 50, 51, 52, 53, 54, 55, 56, 57, 58, 59, 60, 61, 62, 63, 64, 65, 66, 67, 68, 69, 70, 71] (by decide +kernel) (by decide +kernel)
set_option maxRecDepth 20000 in
theorem gX8_sound_X8_isTold : GoodIn wsX8_sound (wsV RX8 177 RX8 yX8_isTold wsX8_isTold) := goodIn_app (goodIn_of _ (by decide +kernel)) ggX8_sound_X8_isTold
set_option maxRecDepth 20000 in
theorem ggX8_sound_X8_isSound : GoodIn wsX8_sound wsX8_isSound := goodIn_r _ [19, 10, 11, 12, 4, 13, 14, 15, 20, 21, 22, 23, 24, 25, 26, 27, 28, 29, 30, 31, 32, 33, 34, 35, 36, 37, 38, 39, 40, 41, 42, 43, 44, 45, 46, 47, 48, 49, 50, 51, 52, 53, 54, 55, 56, 57, 58, 59, 60, 61, 62, 63, 64, 65, 66, 67, 68, 69, 70, 71] (by decide +kernel) (by decide +kernel)
set_option maxRecDepth 20000 in
theorem gX8_sound_X8_isSound : GoodIn wsX8_sound (wsV RX8 183 RX8 yX8_isSound wsX8_isSound) := goodIn_app (goodIn_of _ (by decide +kernel)) ggX8_sound_X8_isSound
theorem dX8_sound_0 : decode cX8_sound 0 = .ok (.aload_n 0, 1) := by decide +kernel
theorem dX8_sound_1 : decode cX8_sound 1 = .ok (.iload_n 1, 1) := by decide +kernel
theorem dX8_sound_2 : decode cX8_sound 2 = .ok (.invokevirtual 136, 3) := by decide +kernel
theorem dX8_sound_5 : decode cX8_sound 5 = .ok (.ifCond .ne 6, 3) := by decide +kernel
theorem dX8_sound_8 : decode cX8_sound 8 = .ok (.bipush (-101), 2) := by decide +kernel
theorem dX8_sound_10 : decode cX8_sound 10 = .ok (.ireturn, 1) := by decide +kernel
theorem dX8_sound_11 : decode cX8_sound 11 = .ok (.aload_n 0, 1) := by decide +kernel
theorem dX8_sound_12 : decode cX8_sound 12 = .ok (.iload_n 1, 1) := by decide +kernel
theorem dX8_sound_13 : decode cX8_sound 13 = .ok (.invokevirtual 177, 3) := by decide +kernel
theorem dX8_sound_16 : decode cX8_sound 16 = .ok (.ifCond .ne 8, 3) := by decide +kernel
theorem dX8_sound_19 : decode cX8_sound 19 = .ok (.bipush (-103), 2) := by decide +kernel
theorem dX8_sound_21 : decode cX8_sound 21 = .ok (.goto 16, 3) := by decide +kernel
theorem dX8_sound_24 : decode cX8_sound 24 = .ok (.aload_n 0, 1) := by decide +kernel
theorem dX8_sound_25 : decode cX8_sound 25 = .ok (.iload_n 1, 1) := by decide +kernel
theorem dX8_sound_26 : decode cX8_sound 26 = .ok (.invokevirtual 183, 3) := by decide +kernel
theorem dX8_sound_29 : decode cX8_sound 29 = .ok (.ifCond .eq 7, 3) := by decide +kernel
theorem dX8_sound_32 : decode cX8_sound 32 = .ok (.iconst 1, 1) := by decide +kernel
theorem dX8_sound_33 : decode cX8_sound 33 = .ok (.goto 4, 3) := by decide +kernel
theorem dX8_sound_36 : decode cX8_sound 36 = .ok (.iconst 0, 1) := by decide +kernel
theorem dX8_sound_37 : decode cX8_sound 37 = .ok (.ireturn, 1) := by decide +kernel
set_option maxRecDepth 20000 in
theorem ggX8_fault_X8_isBatch : GoodIn wsX8_fault wsX8_isBatch := goodIn_r _ [5, 6, 7, 8, 4, 9, 41, 42, 43, 44, 45, 46, 47, 48, 49, 50, 51, 52, 53, 54, 55, 56, 57, 58, 59, 60, 61, 62, 63, 64, 65, 66, 67] (by decide +kernel) (by decide +kernel)
set_option maxRecDepth 20000 in
theorem gX8_fault_X8_isBatch : GoodIn wsX8_fault (wsV RX8 136 RX8 yX8_isBatch wsX8_isBatch) := goodIn_app (goodIn_of _ (by decide +kernel)) ggX8_fault_X8_isBatch
set_option maxRecDepth 20000 in
theorem ggX8_fault_X8_isTold : GoodIn wsX8_fault wsX8_isTold := goodIn_r _ [13, 14, 15, 41, 42, 43, 44, 45, 46, 47, 48, 49, 50, 51, 52, 53, 54, 55, 56, 57, 58, 59, 60, 61, 62, 63, 64, 65, 66, 67] (by decide +kernel) (by decide +kernel)
set_option maxRecDepth 20000 in
theorem gX8_fault_X8_isTold : GoodIn wsX8_fault (wsV RX8 177 RX8 yX8_isTold wsX8_isTold) := goodIn_app (goodIn_of _ (by decide +kernel)) ggX8_fault_X8_isTold
set_option maxRecDepth 20000 in
theorem ggX8_fault_X8_faultOf : GoodIn wsX8_fault wsX8_faultOf := goodIn_r _ [19, 14, 20, 21, 22, 4, 23, 24, 25, 26, 27, 28, 29, 30, 31, 32, 33, 34, 35, 36, 37, 38, 39, 40, 41, 42, 43, 44, 45, 46, 47, 48, 49, 50, 51, 52, 53, 54, 55, 56, 57, 58, 59, 60, 61, 62, 63, 64, 65, 66, 67] (by decide +kernel) (by decide +kernel)
set_option maxRecDepth 20000 in
theorem gX8_fault_X8_faultOf : GoodIn wsX8_fault (wsV RX8 180 RX8 yX8_faultOf wsX8_faultOf) := goodIn_app (goodIn_of _ (by decide +kernel)) ggX8_fault_X8_faultOf
theorem dX8_fault_0 : decode cX8_fault 0 = .ok (.aload_n 0, 1) := by decide +kernel
theorem dX8_fault_1 : decode cX8_fault 1 = .ok (.iload_n 1, 1) := by decide +kernel
theorem dX8_fault_2 : decode cX8_fault 2 = .ok (.invokevirtual 136, 3) := by decide +kernel
theorem dX8_fault_5 : decode cX8_fault 5 = .ok (.ifCond .ne 6, 3) := by decide +kernel
theorem dX8_fault_8 : decode cX8_fault 8 = .ok (.bipush (-101), 2) := by decide +kernel
theorem dX8_fault_10 : decode cX8_fault 10 = .ok (.ireturn, 1) := by decide +kernel
theorem dX8_fault_11 : decode cX8_fault 11 = .ok (.aload_n 0, 1) := by decide +kernel
theorem dX8_fault_12 : decode cX8_fault 12 = .ok (.iload_n 1, 1) := by decide +kernel
theorem dX8_fault_13 : decode cX8_fault 13 = .ok (.invokevirtual 177, 3) := by decide +kernel
theorem dX8_fault_16 : decode cX8_fault 16 = .ok (.ifCond .eq 11, 3) := by decide +kernel
theorem dX8_fault_19 : decode cX8_fault 19 = .ok (.aload_n 0, 1) := by decide +kernel
theorem dX8_fault_20 : decode cX8_fault 20 = .ok (.iload_n 1, 1) := by decide +kernel
theorem dX8_fault_21 : decode cX8_fault 21 = .ok (.invokevirtual 180, 3) := by decide +kernel
theorem dX8_fault_24 : decode cX8_fault 24 = .ok (.goto 5, 3) := by decide +kernel
theorem dX8_fault_27 : decode cX8_fault 27 = .ok (.bipush (-103), 2) := by decide +kernel
theorem dX8_fault_29 : decode cX8_fault 29 = .ok (.ireturn, 1) := by decide +kernel
theorem dX8_turn_0 : decode cX8_turn 0 = .ok (.aload_n 0, 1) := by decide +kernel
theorem dX8_turn_1 : decode cX8_turn 1 = .ok (.getfield 71, 3) := by decide +kernel
theorem dX8_turn_4 : decode cX8_turn 4 = .ok (.bipush 16, 2) := by decide +kernel
theorem dX8_turn_6 : decode cX8_turn 6 = .ok (.iload_n 1, 1) := by decide +kernel
theorem dX8_turn_7 : decode cX8_turn 7 = .ok (.imul, 1) := by decide +kernel
theorem dX8_turn_8 : decode cX8_turn 8 = .ok (.iload_n 2, 1) := by decide +kernel
theorem dX8_turn_9 : decode cX8_turn 9 = .ok (.iadd, 1) := by decide +kernel
theorem dX8_turn_10 : decode cX8_turn 10 = .ok (.iaload, 1) := by decide +kernel
theorem dX8_turn_11 : decode cX8_turn 11 = .ok (.istore_n 3, 1) := by decide +kernel
theorem dX8_turn_12 : decode cX8_turn 12 = .ok (.aload_n 0, 1) := by decide +kernel
theorem dX8_turn_13 : decode cX8_turn 13 = .ok (.getfield 71, 3) := by decide +kernel
theorem dX8_turn_16 : decode cX8_turn 16 = .ok (.bipush 16, 2) := by decide +kernel
theorem dX8_turn_18 : decode cX8_turn 18 = .ok (.iload_n 1, 1) := by decide +kernel
theorem dX8_turn_19 : decode cX8_turn 19 = .ok (.imul, 1) := by decide +kernel
theorem dX8_turn_20 : decode cX8_turn 20 = .ok (.iload_n 2, 1) := by decide +kernel
theorem dX8_turn_21 : decode cX8_turn 21 = .ok (.iadd, 1) := by decide +kernel
theorem dX8_turn_22 : decode cX8_turn 22 = .ok (.aload_n 0, 1) := by decide +kernel
theorem dX8_turn_23 : decode cX8_turn 23 = .ok (.getfield 71, 3) := by decide +kernel
theorem dX8_turn_26 : decode cX8_turn 26 = .ok (.bipush 16, 2) := by decide +kernel
theorem dX8_turn_28 : decode cX8_turn 28 = .ok (.iload_n 1, 1) := by decide +kernel
theorem dX8_turn_29 : decode cX8_turn 29 = .ok (.imul, 1) := by decide +kernel
theorem dX8_turn_30 : decode cX8_turn 30 = .ok (.iload_n 2, 1) := by decide +kernel
theorem dX8_turn_31 : decode cX8_turn 31 = .ok (.iadd, 1) := by decide +kernel
theorem dX8_turn_32 : decode cX8_turn 32 = .ok (.iconst 1, 1) := by decide +kernel
theorem dX8_turn_33 : decode cX8_turn 33 = .ok (.iadd, 1) := by decide +kernel
theorem dX8_turn_34 : decode cX8_turn 34 = .ok (.iaload, 1) := by decide +kernel
theorem dX8_turn_35 : decode cX8_turn 35 = .ok (.iastore, 1) := by decide +kernel
theorem dX8_turn_36 : decode cX8_turn 36 = .ok (.aload_n 0, 1) := by decide +kernel
theorem dX8_turn_37 : decode cX8_turn 37 = .ok (.getfield 71, 3) := by decide +kernel
theorem dX8_turn_40 : decode cX8_turn 40 = .ok (.bipush 16, 2) := by decide +kernel
theorem dX8_turn_42 : decode cX8_turn 42 = .ok (.iload_n 1, 1) := by decide +kernel
theorem dX8_turn_43 : decode cX8_turn 43 = .ok (.imul, 1) := by decide +kernel
theorem dX8_turn_44 : decode cX8_turn 44 = .ok (.iload_n 2, 1) := by decide +kernel
theorem dX8_turn_45 : decode cX8_turn 45 = .ok (.iadd, 1) := by decide +kernel
theorem dX8_turn_46 : decode cX8_turn 46 = .ok (.iconst 1, 1) := by decide +kernel
theorem dX8_turn_47 : decode cX8_turn 47 = .ok (.iadd, 1) := by decide +kernel
theorem dX8_turn_48 : decode cX8_turn 48 = .ok (.iload_n 3, 1) := by decide +kernel
theorem dX8_turn_49 : decode cX8_turn 49 = .ok (.iastore, 1) := by decide +kernel
theorem dX8_turn_50 : decode cX8_turn 50 = .ok (.return_, 1) := by decide +kernel
set_option maxRecDepth 20000 in
theorem ggX8_swap_X8_isBatch : GoodIn wsX8_swap wsX8_isBatch := goodIn_r _ [6, 7, 8, 9, 5, 10, 49, 50, 51, 52, 53, 54, 55, 56, 57, 58, 59, 60, 61, 62, 63, 64, 65, 66, 67, 68, 69, 70, 71, 72, 73, 74, 75] (by decide +kernel) (by decide +kernel)
set_option maxRecDepth 20000 in
theorem gX8_swap_X8_isBatch : GoodIn wsX8_swap (wsV RX8 136 RX8 yX8_isBatch wsX8_isBatch) := goodIn_app (goodIn_of _ (by decide +kernel)) ggX8_swap_X8_isBatch
set_option maxRecDepth 20000 in
theorem ggX8_swap_X8_isTold : GoodIn wsX8_swap wsX8_isTold := goodIn_r _ [14, 1, 15, 49, 50, 51, 52, 53, 54, 55, 56, 57, 58, 59, 60, 61, 62, 63, 64, 65, 66, 67, 68, 69, 70, 71, 72, 73, 74, 75] (by decide +kernel) (by decide +kernel)
set_option maxRecDepth 20000 in
theorem gX8_swap_X8_isTold : GoodIn wsX8_swap (wsV RX8 177 RX8 yX8_isTold wsX8_isTold) := goodIn_app (goodIn_of _ (by decide +kernel)) ggX8_swap_X8_isTold
set_option maxRecDepth 20000 in
theorem ggX8_swap_X8_isSound : GoodIn wsX8_swap wsX8_isSound := goodIn_r _ [19, 11, 12, 13, 5, 14, 1, 15, 20, 21, 22, 23, 24, 25, 26, 27, 28, 29, 30, 31, 32, 33, 34, 35, 36, 37, 38, 39, 40, 41, 42, 43, 44, 49, 50, 51, 52, 53, 54, 55, 56, 57, 58, 59, 60, 61, 62, 63, 64, 65, 66, 67, 68, 69, 70, 71, 72, 73, 74, 75] (by decide +kernel) (by decide +kernel)
set_option maxRecDepth 20000 in
theorem gX8_swap_X8_isSound : GoodIn wsX8_swap (wsV RX8 183 RX8 yX8_isSound wsX8_isSound) := goodIn_app (goodIn_of _ (by decide +kernel)) ggX8_swap_X8_isSound
set_option maxRecDepth 20000 in
theorem ggX8_swap_X8_turn : GoodIn wsX8_swap wsX8_turn := goodIn_r _ [48, 37, 49, 50, 51, 52, 53, 54, 55, 56, 57, 58, 59, 60, 61, 62, 63, 64, 65, 66, 67, 68, 69, 70, 71, 72, 73, 74, 75] (by decide +kernel) (by decide +kernel)
set_option maxRecDepth 20000 in
theorem gX8_swap_X8_turn : GoodIn wsX8_swap (wsV RX8 186 RX8 yX8_turn wsX8_turn) := goodIn_app (goodIn_of _ (by decide +kernel)) ggX8_swap_X8_turn
set_option maxRecDepth 20000 in
theorem ggX8_swap_X8_faultOf : GoodIn wsX8_swap wsX8_faultOf := goodIn_r _ [23, 1, 24, 25, 26, 5, 27, 28, 29, 30, 31, 32, 33, 34, 35, 36, 37, 38, 39, 40, 41, 42, 43, 44, 49, 50, 51, 52, 53, 54, 55, 56, 57, 58, 59, 60, 61, 62, 63, 64, 65, 66, 67, 68, 69, 70, 71, 72, 73, 74, 75] (by decide +kernel) (by decide +kernel)
set_option maxRecDepth 20000 in
theorem gX8_swap_X8_faultOf : GoodIn wsX8_swap (wsV RX8 180 RX8 yX8_faultOf wsX8_faultOf) := goodIn_app (goodIn_of _ (by decide +kernel)) ggX8_swap_X8_faultOf
theorem dX8_swap_0 : decode cX8_swap 0 = .ok (.aload_n 0, 1) := by decide +kernel
theorem dX8_swap_1 : decode cX8_swap 1 = .ok (.iload_n 1, 1) := by decide +kernel
theorem dX8_swap_2 : decode cX8_swap 2 = .ok (.invokevirtual 136, 3) := by decide +kernel
theorem dX8_swap_5 : decode cX8_swap 5 = .ok (.ifCond .ne 6, 3) := by decide +kernel
theorem dX8_swap_8 : decode cX8_swap 8 = .ok (.bipush (-101), 2) := by decide +kernel
theorem dX8_swap_10 : decode cX8_swap 10 = .ok (.ireturn, 1) := by decide +kernel
theorem dX8_swap_11 : decode cX8_swap 11 = .ok (.aload_n 0, 1) := by decide +kernel
theorem dX8_swap_12 : decode cX8_swap 12 = .ok (.iload_n 1, 1) := by decide +kernel
theorem dX8_swap_13 : decode cX8_swap 13 = .ok (.invokevirtual 177, 3) := by decide +kernel
theorem dX8_swap_16 : decode cX8_swap 16 = .ok (.ifCond .ne 6, 3) := by decide +kernel
theorem dX8_swap_19 : decode cX8_swap 19 = .ok (.bipush (-103), 2) := by decide +kernel
theorem dX8_swap_21 : decode cX8_swap 21 = .ok (.ireturn, 1) := by decide +kernel
theorem dX8_swap_22 : decode cX8_swap 22 = .ok (.aload_n 0, 1) := by decide +kernel
theorem dX8_swap_23 : decode cX8_swap 23 = .ok (.iload_n 1, 1) := by decide +kernel
theorem dX8_swap_24 : decode cX8_swap 24 = .ok (.invokevirtual 183, 3) := by decide +kernel
theorem dX8_swap_27 : decode cX8_swap 27 = .ok (.ifCond .eq 5, 3) := by decide +kernel
theorem dX8_swap_30 : decode cX8_swap 30 = .ok (.iconst (-1), 1) := by decide +kernel
theorem dX8_swap_31 : decode cX8_swap 31 = .ok (.ireturn, 1) := by decide +kernel
theorem dX8_swap_32 : decode cX8_swap 32 = .ok (.iconst 0, 1) := by decide +kernel
theorem dX8_swap_33 : decode cX8_swap 33 = .ok (.istore_n 2, 1) := by decide +kernel
theorem dX8_swap_34 : decode cX8_swap 34 = .ok (.iload_n 2, 1) := by decide +kernel
theorem dX8_swap_35 : decode cX8_swap 35 = .ok (.iconst 1, 1) := by decide +kernel
theorem dX8_swap_36 : decode cX8_swap 36 = .ok (.iadd, 1) := by decide +kernel
theorem dX8_swap_37 : decode cX8_swap 37 = .ok (.aload_n 0, 1) := by decide +kernel
theorem dX8_swap_38 : decode cX8_swap 38 = .ok (.getfield 56, 3) := by decide +kernel
theorem dX8_swap_41 : decode cX8_swap 41 = .ok (.iload_n 1, 1) := by decide +kernel
theorem dX8_swap_42 : decode cX8_swap 42 = .ok (.iaload, 1) := by decide +kernel
theorem dX8_swap_43 : decode cX8_swap 43 = .ok (.if_icmp .ge 42, 3) := by decide +kernel
theorem dX8_swap_46 : decode cX8_swap 46 = .ok (.aload_n 0, 1) := by decide +kernel
theorem dX8_swap_47 : decode cX8_swap 47 = .ok (.iload_n 1, 1) := by decide +kernel
theorem dX8_swap_48 : decode cX8_swap 48 = .ok (.iload_n 2, 1) := by decide +kernel
theorem dX8_swap_49 : decode cX8_swap 49 = .ok (.invokevirtual 186, 3) := by decide +kernel
theorem dX8_swap_52 : decode cX8_swap 52 = .ok (.aload_n 0, 1) := by decide +kernel
theorem dX8_swap_53 : decode cX8_swap 53 = .ok (.iload_n 1, 1) := by decide +kernel
theorem dX8_swap_54 : decode cX8_swap 54 = .ok (.invokevirtual 180, 3) := by decide +kernel
theorem dX8_swap_57 : decode cX8_swap 57 = .ok (.iconst (-1), 1) := by decide +kernel
theorem dX8_swap_58 : decode cX8_swap 58 = .ok (.if_icmp .ne 7, 3) := by decide +kernel
theorem dX8_swap_61 : decode cX8_swap 61 = .ok (.iconst 1, 1) := by decide +kernel
theorem dX8_swap_62 : decode cX8_swap 62 = .ok (.goto 4, 3) := by decide +kernel
theorem dX8_swap_65 : decode cX8_swap 65 = .ok (.iconst 0, 1) := by decide +kernel
theorem dX8_swap_66 : decode cX8_swap 66 = .ok (.istore_n 3, 1) := by decide +kernel
theorem dX8_swap_67 : decode cX8_swap 67 = .ok (.aload_n 0, 1) := by decide +kernel
theorem dX8_swap_68 : decode cX8_swap 68 = .ok (.iload_n 1, 1) := by decide +kernel
theorem dX8_swap_69 : decode cX8_swap 69 = .ok (.iload_n 2, 1) := by decide +kernel
theorem dX8_swap_70 : decode cX8_swap 70 = .ok (.invokevirtual 186, 3) := by decide +kernel
theorem dX8_swap_73 : decode cX8_swap 73 = .ok (.iload_n 3, 1) := by decide +kernel
theorem dX8_swap_74 : decode cX8_swap 74 = .ok (.ifCond .eq 5, 3) := by decide +kernel
theorem dX8_swap_77 : decode cX8_swap 77 = .ok (.iload_n 2, 1) := by decide +kernel
theorem dX8_swap_78 : decode cX8_swap 78 = .ok (.ireturn, 1) := by decide +kernel
theorem dX8_swap_79 : decode cX8_swap 79 = .ok (.iinc 2 1, 3) := by decide +kernel
theorem dX8_swap_82 : decode cX8_swap 82 = .ok (.goto (-48), 3) := by decide +kernel
theorem dX8_swap_85 : decode cX8_swap 85 = .ok (.iconst (-1), 1) := by decide +kernel
theorem dX8_swap_86 : decode cX8_swap 86 = .ok (.ireturn, 1) := by decide +kernel
set_option maxRecDepth 20000 in
theorem ggX8_exchange_X8_isPlace : GoodIn wsX8_exchange wsX8_isPlace := goodIn_r _ [6, 7, 8, 9, 10, 5, 11, 12, 13, 14, 15, 21, 22, 23, 24, 25, 26, 27, 28, 29, 30, 31, 32, 33, 34, 35, 36, 37, 38, 39, 40, 41, 42, 43, 44, 45, 46, 47] (by decide +kernel) (by decide +kernel)
set_option maxRecDepth 20000 in
theorem gX8_exchange_X8_isPlace : GoodIn wsX8_exchange (wsV RX8 159 RX8 yX8_isPlace wsX8_isPlace) := goodIn_app (goodIn_of _ (by decide +kernel)) ggX8_exchange_X8_isPlace
set_option maxRecDepth 20000 in
theorem ggX8_exchange_X8_turn : GoodIn wsX8_exchange wsX8_turn := goodIn_r _ [19, 20, 21, 22, 23, 24, 25, 26, 27, 28, 29, 30, 31, 32, 33, 34, 35, 36, 37, 38, 39, 40, 41, 42, 43, 44, 45, 46, 47] (by decide +kernel) (by decide +kernel)
set_option maxRecDepth 20000 in
theorem gX8_exchange_X8_turn : GoodIn wsX8_exchange (wsV RX8 186 RX8 yX8_turn wsX8_turn) := goodIn_app (goodIn_of _ (by decide +kernel)) ggX8_exchange_X8_turn
theorem dX8_exchange_0 : decode cX8_exchange 0 = .ok (.aload_n 0, 1) := by decide +kernel
theorem dX8_exchange_1 : decode cX8_exchange 1 = .ok (.iload_n 1, 1) := by decide +kernel
theorem dX8_exchange_2 : decode cX8_exchange 2 = .ok (.iload_n 2, 1) := by decide +kernel
theorem dX8_exchange_3 : decode cX8_exchange 3 = .ok (.invokevirtual 159, 3) := by decide +kernel
theorem dX8_exchange_6 : decode cX8_exchange 6 = .ok (.ifCond .eq 14, 3) := by decide +kernel
theorem dX8_exchange_9 : decode cX8_exchange 9 = .ok (.aload_n 0, 1) := by decide +kernel
theorem dX8_exchange_10 : decode cX8_exchange 10 = .ok (.iload_n 1, 1) := by decide +kernel
theorem dX8_exchange_11 : decode cX8_exchange 11 = .ok (.iload_n 2, 1) := by decide +kernel
theorem dX8_exchange_12 : decode cX8_exchange 12 = .ok (.iconst 1, 1) := by decide +kernel
theorem dX8_exchange_13 : decode cX8_exchange 13 = .ok (.iadd, 1) := by decide +kernel
theorem dX8_exchange_14 : decode cX8_exchange 14 = .ok (.invokevirtual 159, 3) := by decide +kernel
theorem dX8_exchange_17 : decode cX8_exchange 17 = .ok (.ifCond .ne 6, 3) := by decide +kernel
theorem dX8_exchange_20 : decode cX8_exchange 20 = .ok (.bipush (-101), 2) := by decide +kernel
theorem dX8_exchange_22 : decode cX8_exchange 22 = .ok (.ireturn, 1) := by decide +kernel
theorem dX8_exchange_23 : decode cX8_exchange 23 = .ok (.aload_n 0, 1) := by decide +kernel
theorem dX8_exchange_24 : decode cX8_exchange 24 = .ok (.getfield 68, 3) := by decide +kernel
theorem dX8_exchange_27 : decode cX8_exchange 27 = .ok (.bipush 16, 2) := by decide +kernel
theorem dX8_exchange_29 : decode cX8_exchange 29 = .ok (.iload_n 1, 1) := by decide +kernel
theorem dX8_exchange_30 : decode cX8_exchange 30 = .ok (.imul, 1) := by decide +kernel
theorem dX8_exchange_31 : decode cX8_exchange 31 = .ok (.iload_n 2, 1) := by decide +kernel
theorem dX8_exchange_32 : decode cX8_exchange 32 = .ok (.iadd, 1) := by decide +kernel
theorem dX8_exchange_33 : decode cX8_exchange 33 = .ok (.baload, 1) := by decide +kernel
theorem dX8_exchange_34 : decode cX8_exchange 34 = .ok (.ifCond .eq 19, 3) := by decide +kernel
theorem dX8_exchange_37 : decode cX8_exchange 37 = .ok (.aload_n 0, 1) := by decide +kernel
theorem dX8_exchange_38 : decode cX8_exchange 38 = .ok (.getfield 68, 3) := by decide +kernel
theorem dX8_exchange_41 : decode cX8_exchange 41 = .ok (.bipush 16, 2) := by decide +kernel
theorem dX8_exchange_43 : decode cX8_exchange 43 = .ok (.iload_n 1, 1) := by decide +kernel
theorem dX8_exchange_44 : decode cX8_exchange 44 = .ok (.imul, 1) := by decide +kernel
theorem dX8_exchange_45 : decode cX8_exchange 45 = .ok (.iload_n 2, 1) := by decide +kernel
theorem dX8_exchange_46 : decode cX8_exchange 46 = .ok (.iadd, 1) := by decide +kernel
theorem dX8_exchange_47 : decode cX8_exchange 47 = .ok (.iconst 1, 1) := by decide +kernel
theorem dX8_exchange_48 : decode cX8_exchange 48 = .ok (.iadd, 1) := by decide +kernel
theorem dX8_exchange_49 : decode cX8_exchange 49 = .ok (.baload, 1) := by decide +kernel
theorem dX8_exchange_50 : decode cX8_exchange 50 = .ok (.ifCond .ne 6, 3) := by decide +kernel
theorem dX8_exchange_53 : decode cX8_exchange 53 = .ok (.bipush (-103), 2) := by decide +kernel
theorem dX8_exchange_55 : decode cX8_exchange 55 = .ok (.ireturn, 1) := by decide +kernel
theorem dX8_exchange_56 : decode cX8_exchange 56 = .ok (.aload_n 0, 1) := by decide +kernel
theorem dX8_exchange_57 : decode cX8_exchange 57 = .ok (.iload_n 1, 1) := by decide +kernel
theorem dX8_exchange_58 : decode cX8_exchange 58 = .ok (.iload_n 2, 1) := by decide +kernel
theorem dX8_exchange_59 : decode cX8_exchange 59 = .ok (.invokevirtual 186, 3) := by decide +kernel
theorem dX8_exchange_62 : decode cX8_exchange 62 = .ok (.iconst 1, 1) := by decide +kernel
theorem dX8_exchange_63 : decode cX8_exchange 63 = .ok (.ireturn, 1) := by decide +kernel
theorem dX8_aboutOf_0 : decode cX8_aboutOf 0 = .ok (.iload_n 2, 1) := by decide +kernel
theorem dX8_aboutOf_1 : decode cX8_aboutOf 1 = .ok (.tableswitch 91 0 4 #[35, 42, 49, 56, 71], 35) := by decide +kernel
theorem dX8_aboutOf_36 : decode cX8_aboutOf 36 = .ok (.aload_n 0, 1) := by decide +kernel
theorem dX8_aboutOf_37 : decode cX8_aboutOf 37 = .ok (.getfield 59, 3) := by decide +kernel
theorem dX8_aboutOf_40 : decode cX8_aboutOf 40 = .ok (.iload_n 1, 1) := by decide +kernel
theorem dX8_aboutOf_41 : decode cX8_aboutOf 41 = .ok (.iaload, 1) := by decide +kernel
theorem dX8_aboutOf_42 : decode cX8_aboutOf 42 = .ok (.ireturn, 1) := by decide +kernel
theorem dX8_aboutOf_43 : decode cX8_aboutOf 43 = .ok (.aload_n 0, 1) := by decide +kernel
theorem dX8_aboutOf_44 : decode cX8_aboutOf 44 = .ok (.getfield 62, 3) := by decide +kernel
theorem dX8_aboutOf_47 : decode cX8_aboutOf 47 = .ok (.iload_n 1, 1) := by decide +kernel
theorem dX8_aboutOf_48 : decode cX8_aboutOf 48 = .ok (.iaload, 1) := by decide +kernel
theorem dX8_aboutOf_49 : decode cX8_aboutOf 49 = .ok (.ireturn, 1) := by decide +kernel
theorem dX8_aboutOf_50 : decode cX8_aboutOf 50 = .ok (.aload_n 0, 1) := by decide +kernel
theorem dX8_aboutOf_51 : decode cX8_aboutOf 51 = .ok (.getfield 65, 3) := by decide +kernel
theorem dX8_aboutOf_54 : decode cX8_aboutOf 54 = .ok (.iload_n 1, 1) := by decide +kernel
theorem dX8_aboutOf_55 : decode cX8_aboutOf 55 = .ok (.iaload, 1) := by decide +kernel
theorem dX8_aboutOf_56 : decode cX8_aboutOf 56 = .ok (.ireturn, 1) := by decide +kernel
theorem dX8_aboutOf_57 : decode cX8_aboutOf 57 = .ok (.aload_n 0, 1) := by decide +kernel
theorem dX8_aboutOf_58 : decode cX8_aboutOf 58 = .ok (.getfield 68, 3) := by decide +kernel
theorem dX8_aboutOf_61 : decode cX8_aboutOf 61 = .ok (.iload_n 1, 1) := by decide +kernel
theorem dX8_aboutOf_62 : decode cX8_aboutOf 62 = .ok (.baload, 1) := by decide +kernel
theorem dX8_aboutOf_63 : decode cX8_aboutOf 63 = .ok (.ifCond .eq 7, 3) := by decide +kernel
theorem dX8_aboutOf_66 : decode cX8_aboutOf 66 = .ok (.iconst 1, 1) := by decide +kernel
theorem dX8_aboutOf_67 : decode cX8_aboutOf 67 = .ok (.goto 4, 3) := by decide +kernel
theorem dX8_aboutOf_70 : decode cX8_aboutOf 70 = .ok (.iconst 0, 1) := by decide +kernel
theorem dX8_aboutOf_71 : decode cX8_aboutOf 71 = .ok (.ireturn, 1) := by decide +kernel
theorem dX8_aboutOf_72 : decode cX8_aboutOf 72 = .ok (.aload_n 0, 1) := by decide +kernel
theorem dX8_aboutOf_73 : decode cX8_aboutOf 73 = .ok (.getfield 68, 3) := by decide +kernel
theorem dX8_aboutOf_76 : decode cX8_aboutOf 76 = .ok (.iload_n 1, 1) := by decide +kernel
theorem dX8_aboutOf_77 : decode cX8_aboutOf 77 = .ok (.baload, 1) := by decide +kernel
theorem dX8_aboutOf_78 : decode cX8_aboutOf 78 = .ok (.ifCond .eq 12, 3) := by decide +kernel
theorem dX8_aboutOf_81 : decode cX8_aboutOf 81 = .ok (.aload_n 0, 1) := by decide +kernel
theorem dX8_aboutOf_82 : decode cX8_aboutOf 82 = .ok (.getfield 71, 3) := by decide +kernel
theorem dX8_aboutOf_85 : decode cX8_aboutOf 85 = .ok (.iload_n 1, 1) := by decide +kernel
theorem dX8_aboutOf_86 : decode cX8_aboutOf 86 = .ok (.iaload, 1) := by decide +kernel
theorem dX8_aboutOf_87 : decode cX8_aboutOf 87 = .ok (.goto 4, 3) := by decide +kernel
theorem dX8_aboutOf_90 : decode cX8_aboutOf 90 = .ok (.iconst 0, 1) := by decide +kernel
theorem dX8_aboutOf_91 : decode cX8_aboutOf 91 = .ok (.ireturn, 1) := by decide +kernel
theorem dX8_aboutOf_92 : decode cX8_aboutOf 92 = .ok (.bipush (-102), 2) := by decide +kernel
theorem dX8_aboutOf_94 : decode cX8_aboutOf 94 = .ok (.ireturn, 1) := by decide +kernel
set_option maxRecDepth 20000 in
theorem ggX8_about_X8_isPlace : GoodIn wsX8_about wsX8_isPlace := goodIn_r _ [5, 6, 7, 8, 9, 4, 10, 11, 12, 13, 14, 24, 25, 26, 27, 28, 29, 30, 31, 32, 33, 34, 35, 36, 37, 38, 39, 40, 41, 42, 43, 44, 45, 46, 47, 48, 49, 50] (by decide +kernel) (by decide +kernel)
set_option maxRecDepth 20000 in
theorem gX8_about_X8_isPlace : GoodIn wsX8_about (wsV RX8 159 RX8 yX8_isPlace wsX8_isPlace) := goodIn_app (goodIn_of _ (by decide +kernel)) ggX8_about_X8_isPlace
set_option maxRecDepth 20000 in
theorem ggX8_about_X8_aboutOf : GoodIn wsX8_about wsX8_aboutOf := goodIn_r _ [18, 19, 20, 21, 22, 23, 24, 25, 26, 27, 28, 29, 30, 31, 32, 33, 34, 35, 36, 37, 38, 39, 40, 41, 42, 43, 44, 45, 46, 47, 48, 49, 50] (by decide +kernel) (by decide +kernel)
set_option maxRecDepth 20000 in
theorem gX8_about_X8_aboutOf : GoodIn wsX8_about (wsV RX8 190 RX8 yX8_aboutOf wsX8_aboutOf) := goodIn_app (goodIn_of _ (by decide +kernel)) ggX8_about_X8_aboutOf
theorem dX8_about_0 : decode cX8_about 0 = .ok (.aload_n 0, 1) := by decide +kernel
theorem dX8_about_1 : decode cX8_about 1 = .ok (.iload_n 1, 1) := by decide +kernel
theorem dX8_about_2 : decode cX8_about 2 = .ok (.iload_n 2, 1) := by decide +kernel
theorem dX8_about_3 : decode cX8_about 3 = .ok (.invokevirtual 159, 3) := by decide +kernel
theorem dX8_about_6 : decode cX8_about 6 = .ok (.ifCond .eq 17, 3) := by decide +kernel
theorem dX8_about_9 : decode cX8_about 9 = .ok (.aload_n 0, 1) := by decide +kernel
theorem dX8_about_10 : decode cX8_about 10 = .ok (.bipush 16, 2) := by decide +kernel
theorem dX8_about_12 : decode cX8_about 12 = .ok (.iload_n 1, 1) := by decide +kernel
theorem dX8_about_13 : decode cX8_about 13 = .ok (.imul, 1) := by decide +kernel
theorem dX8_about_14 : decode cX8_about 14 = .ok (.iload_n 2, 1) := by decide +kernel
theorem dX8_about_15 : decode cX8_about 15 = .ok (.iadd, 1) := by decide +kernel
theorem dX8_about_16 : decode cX8_about 16 = .ok (.iload_n 3, 1) := by decide +kernel
theorem dX8_about_17 : decode cX8_about 17 = .ok (.invokevirtual 190, 3) := by decide +kernel
theorem dX8_about_20 : decode cX8_about 20 = .ok (.goto 5, 3) := by decide +kernel
theorem dX8_about_23 : decode cX8_about 23 = .ok (.bipush (-101), 2) := by decide +kernel
theorem dX8_about_25 : decode cX8_about 25 = .ok (.ireturn, 1) := by decide +kernel
set_option maxRecDepth 20000 in
theorem ggX8_gradeAt_X8_placeOf : GoodIn wsX8_gradeAt wsX8_placeOf := goodIn_r _ [6, 7, 8, 9, 42, 43, 44, 45, 46, 47, 48, 49, 50, 51, 52, 53, 54, 55, 56, 57, 58, 59, 60, 61, 62, 63, 64, 65, 66, 67, 68] (by decide +kernel) (by decide +kernel)
set_option maxRecDepth 20000 in
theorem gX8_gradeAt_X8_placeOf : GoodIn wsX8_gradeAt (wsV RX8 148 RX8 yX8_placeOf wsX8_placeOf) := goodIn_app (goodIn_of _ (by decide +kernel)) ggX8_gradeAt_X8_placeOf
set_option maxRecDepth 20000 in
theorem ggX8_gradeAt_X8_isSound : GoodIn wsX8_gradeAt wsX8_isSound := goodIn_r _ [13, 14, 15, 16, 5, 17, 7, 18, 19, 20, 21, 22, 23, 24, 25, 26, 8, 9, 27, 28, 29, 30, 31, 32, 33, 34, 35, 36, 37, 38, 39, 40, 41, 42, 43, 44, 45, 46, 47, 48, 49, 50, 51, 52, 53, 54, 55, 56, 57, 58, 59, 60, 61, 62, 63, 64, 65, 66, 67, 68] (by decide +kernel) (by decide +kernel)
set_option maxRecDepth 20000 in
theorem gX8_gradeAt_X8_isSound : GoodIn wsX8_gradeAt (wsV RX8 183 RX8 yX8_isSound wsX8_isSound) := goodIn_app (goodIn_of _ (by decide +kernel)) ggX8_gradeAt_X8_isSound
theorem dX8_gradeAt_0 : decode cX8_gradeAt 0 = .ok (.iconst 0, 1) := by decide +kernel
theorem dX8_gradeAt_1 : decode cX8_gradeAt 1 = .ok (.istore_n 2, 1) := by decide +kernel
theorem dX8_gradeAt_2 : decode cX8_gradeAt 2 = .ok (.iload_n 2, 1) := by decide +kernel
theorem dX8_gradeAt_3 : decode cX8_gradeAt 3 = .ok (.aload_n 0, 1) := by decide +kernel
theorem dX8_gradeAt_4 : decode cX8_gradeAt 4 = .ok (.getfield 133, 3) := by decide +kernel
theorem dX8_gradeAt_7 : decode cX8_gradeAt 7 = .ok (.if_icmp .ge 36, 3) := by decide +kernel
theorem dX8_gradeAt_10 : decode cX8_gradeAt 10 = .ok (.aload_n 0, 1) := by decide +kernel
theorem dX8_gradeAt_11 : decode cX8_gradeAt 11 = .ok (.iload_n 2, 1) := by decide +kernel
theorem dX8_gradeAt_12 : decode cX8_gradeAt 12 = .ok (.iload_n 1, 1) := by decide +kernel
theorem dX8_gradeAt_13 : decode cX8_gradeAt 13 = .ok (.invokevirtual 148, 3) := by decide +kernel
theorem dX8_gradeAt_16 : decode cX8_gradeAt 16 = .ok (.istore_n 3, 1) := by decide +kernel
theorem dX8_gradeAt_17 : decode cX8_gradeAt 17 = .ok (.iload_n 3, 1) := by decide +kernel
theorem dX8_gradeAt_18 : decode cX8_gradeAt 18 = .ok (.iconst (-1), 1) := by decide +kernel
theorem dX8_gradeAt_19 : decode cX8_gradeAt 19 = .ok (.if_icmp .eq 18, 3) := by decide +kernel
theorem dX8_gradeAt_22 : decode cX8_gradeAt 22 = .ok (.aload_n 0, 1) := by decide +kernel
theorem dX8_gradeAt_23 : decode cX8_gradeAt 23 = .ok (.iload_n 2, 1) := by decide +kernel
theorem dX8_gradeAt_24 : decode cX8_gradeAt 24 = .ok (.invokevirtual 183, 3) := by decide +kernel
theorem dX8_gradeAt_27 : decode cX8_gradeAt 27 = .ok (.ifCond .eq 10, 3) := by decide +kernel
theorem dX8_gradeAt_30 : decode cX8_gradeAt 30 = .ok (.bipush 16, 2) := by decide +kernel
theorem dX8_gradeAt_32 : decode cX8_gradeAt 32 = .ok (.iload_n 2, 1) := by decide +kernel
theorem dX8_gradeAt_33 : decode cX8_gradeAt 33 = .ok (.imul, 1) := by decide +kernel
theorem dX8_gradeAt_34 : decode cX8_gradeAt 34 = .ok (.iload_n 3, 1) := by decide +kernel
theorem dX8_gradeAt_35 : decode cX8_gradeAt 35 = .ok (.iadd, 1) := by decide +kernel
theorem dX8_gradeAt_36 : decode cX8_gradeAt 36 = .ok (.ireturn, 1) := by decide +kernel
theorem dX8_gradeAt_37 : decode cX8_gradeAt 37 = .ok (.iinc 2 1, 3) := by decide +kernel
theorem dX8_gradeAt_40 : decode cX8_gradeAt 40 = .ok (.goto (-38), 3) := by decide +kernel
theorem dX8_gradeAt_43 : decode cX8_gradeAt 43 = .ok (.iconst (-1), 1) := by decide +kernel
theorem dX8_gradeAt_44 : decode cX8_gradeAt 44 = .ok (.ireturn, 1) := by decide +kernel
set_option maxRecDepth 20000 in
theorem ggX8_grade_X8_isSample : GoodIn wsX8_grade wsX8_isSample := goodIn_r _ [5, 6, 7, 8, 4, 9, 54, 55, 56, 57, 58, 59, 60, 61, 62, 63, 64, 65, 66, 67, 68, 69, 70, 71, 72, 73, 74, 75, 76, 77, 78, 79, 80] (by decide +kernel) (by decide +kernel)
set_option maxRecDepth 20000 in
theorem gX8_grade_X8_isSample : GoodIn wsX8_grade (wsV RX8 139 RX8 yX8_isSample wsX8_isSample) := goodIn_app (goodIn_of _ (by decide +kernel)) ggX8_grade_X8_isSample
set_option maxRecDepth 20000 in
theorem ggX8_grade_X8_in : GoodIn wsX8_grade wsX8_in := goodIn_r _ [9] (by decide +kernel) (by decide +kernel)
set_option maxRecDepth 20000 in
theorem gX8_grade_X8_in : GoodIn wsX8_grade (va_wsS RX8 84 yX8_in wsX8_in) := goodIn_app (goodIn_of _ (by decide +kernel)) ggX8_grade_X8_in
set_option maxRecDepth 20000 in
theorem ggX8_grade_X8_gradeAt : GoodIn wsX8_grade wsX8_gradeAt := goodIn_r _ [13, 14, 15, 16, 17, 4, 18, 19, 20, 21, 22, 23, 24, 25, 26, 27, 28, 29, 30, 31, 32, 33, 34, 35, 36, 37, 38, 39, 40, 41, 42, 43, 44, 45, 46, 47, 48, 49, 50, 51, 52, 53, 54, 55, 56, 57, 58, 59, 60, 61, 62, 63, 64, 65, 66, 67, 68, 69, 70, 71, 72, 73, 74, 75, 76, 77, 78, 79, 80] (by decide +kernel) (by decide +kernel)
set_option maxRecDepth 20000 in
theorem gX8_grade_X8_gradeAt : GoodIn wsX8_grade (wsV RX8 193 RX8 yX8_gradeAt wsX8_gradeAt) := goodIn_app (goodIn_of _ (by decide +kernel)) ggX8_grade_X8_gradeAt
set_option maxRecDepth 20000 in
theorem ggX8_grade_X8_lower : GoodIn wsX8_grade wsX8_lower := goodIn_r _ [45, 46, 54, 55, 56, 57, 58, 59, 60, 61, 62, 63, 64, 65, 66, 67, 68, 69, 70, 71, 72, 73, 74, 75, 76, 77, 78, 79, 80] (by decide +kernel) (by decide +kernel)
set_option maxRecDepth 20000 in
theorem gX8_grade_X8_lower : GoodIn wsX8_grade (wsV RX8 165 RX8 yX8_lower wsX8_lower) := goodIn_app (goodIn_of _ (by decide +kernel)) ggX8_grade_X8_lower
set_option maxRecDepth 20000 in
theorem ggX8_grade_X8_upper : GoodIn wsX8_grade wsX8_upper := goodIn_r _ [53, 46, 54, 55, 56, 57, 58, 59, 60, 61, 62, 63, 64, 65, 66, 67, 68, 69, 70, 71, 72, 73, 74, 75, 76, 77, 78, 79, 80] (by decide +kernel) (by decide +kernel)
set_option maxRecDepth 20000 in
theorem gX8_grade_X8_upper : GoodIn wsX8_grade (wsV RX8 171 RX8 yX8_upper wsX8_upper) := goodIn_app (goodIn_of _ (by decide +kernel)) ggX8_grade_X8_upper
theorem dX8_grade_0 : decode cX8_grade 0 = .ok (.aload_n 0, 1) := by decide +kernel
theorem dX8_grade_1 : decode cX8_grade 1 = .ok (.iload_n 1, 1) := by decide +kernel
theorem dX8_grade_2 : decode cX8_grade 2 = .ok (.invokevirtual 139, 3) := by decide +kernel
theorem dX8_grade_5 : decode cX8_grade 5 = .ok (.ifCond .ne 6, 3) := by decide +kernel
theorem dX8_grade_8 : decode cX8_grade 8 = .ok (.bipush (-101), 2) := by decide +kernel
theorem dX8_grade_10 : decode cX8_grade 10 = .ok (.ireturn, 1) := by decide +kernel
theorem dX8_grade_11 : decode cX8_grade 11 = .ok (.iload_n 2, 1) := by decide +kernel
theorem dX8_grade_12 : decode cX8_grade 12 = .ok (.i2l, 1) := by decide +kernel
theorem dX8_grade_13 : decode cX8_grade 13 = .ok (.lconst 0, 1) := by decide +kernel
theorem dX8_grade_14 : decode cX8_grade 14 = .ok (.lconst 1, 1) := by decide +kernel
theorem dX8_grade_15 : decode cX8_grade 15 = .ok (.invokestatic 84, 3) := by decide +kernel
theorem dX8_grade_18 : decode cX8_grade 18 = .ok (.ifCond .ne 6, 3) := by decide +kernel
theorem dX8_grade_21 : decode cX8_grade 21 = .ok (.bipush (-102), 2) := by decide +kernel
theorem dX8_grade_23 : decode cX8_grade 23 = .ok (.ireturn, 1) := by decide +kernel
theorem dX8_grade_24 : decode cX8_grade 24 = .ok (.aload_n 0, 1) := by decide +kernel
theorem dX8_grade_25 : decode cX8_grade 25 = .ok (.iload_n 1, 1) := by decide +kernel
theorem dX8_grade_26 : decode cX8_grade 26 = .ok (.invokevirtual 193, 3) := by decide +kernel
theorem dX8_grade_29 : decode cX8_grade 29 = .ok (.istore_n 3, 1) := by decide +kernel
theorem dX8_grade_30 : decode cX8_grade 30 = .ok (.iload_n 3, 1) := by decide +kernel
theorem dX8_grade_31 : decode cX8_grade 31 = .ok (.iconst (-1), 1) := by decide +kernel
theorem dX8_grade_32 : decode cX8_grade 32 = .ok (.if_icmp .ne 7, 3) := by decide +kernel
theorem dX8_grade_35 : decode cX8_grade 35 = .ok (.iconst (-1), 1) := by decide +kernel
theorem dX8_grade_36 : decode cX8_grade 36 = .ok (.goto 20, 3) := by decide +kernel
theorem dX8_grade_39 : decode cX8_grade 39 = .ok (.iload_n 2, 1) := by decide +kernel
theorem dX8_grade_40 : decode cX8_grade 40 = .ok (.ifCond .ne 11, 3) := by decide +kernel
theorem dX8_grade_43 : decode cX8_grade 43 = .ok (.aload_n 0, 1) := by decide +kernel
theorem dX8_grade_44 : decode cX8_grade 44 = .ok (.iload_n 3, 1) := by decide +kernel
theorem dX8_grade_45 : decode cX8_grade 45 = .ok (.invokevirtual 165, 3) := by decide +kernel
theorem dX8_grade_48 : decode cX8_grade 48 = .ok (.goto 8, 3) := by decide +kernel
theorem dX8_grade_51 : decode cX8_grade 51 = .ok (.aload_n 0, 1) := by decide +kernel
theorem dX8_grade_52 : decode cX8_grade 52 = .ok (.iload_n 3, 1) := by decide +kernel
theorem dX8_grade_53 : decode cX8_grade 53 = .ok (.invokevirtual 171, 3) := by decide +kernel
theorem dX8_grade_56 : decode cX8_grade 56 = .ok (.ireturn, 1) := by decide +kernel
set_option maxRecDepth 20000 in
theorem ggX8_composite_X8_isHole : GoodIn wsX8_composite wsX8_isHole := goodIn_r _ [13, 14, 15, 16, 12, 17, 75, 76, 77, 78, 79, 80, 81, 82, 83, 84, 85, 86, 87, 88, 89, 90, 91, 92, 93, 94, 95, 96, 97, 98, 99, 100, 101] (by decide +kernel) (by decide +kernel)
set_option maxRecDepth 20000 in
theorem gX8_composite_X8_isHole : GoodIn wsX8_composite (wsV RX8 91 RX8 yX8_isHole wsX8_isHole) := goodIn_app (goodIn_of _ (by decide +kernel)) ggX8_composite_X8_isHole
set_option maxRecDepth 20000 in
theorem ggX8_composite_X8_isStretch : GoodIn wsX8_composite wsX8_isStretch := goodIn_r _ [21, 22, 23, 24, 12, 25, 26, 27, 75, 76, 77, 78, 79, 80, 81, 82, 83, 84, 85, 86, 87, 88, 89, 90, 91, 92, 93, 94, 95, 96, 97, 98, 99, 100, 101] (by decide +kernel) (by decide +kernel)
set_option maxRecDepth 20000 in
theorem gX8_composite_X8_isStretch : GoodIn wsX8_composite (wsV RX8 108 RX8 yX8_isStretch wsX8_isStretch) := goodIn_app (goodIn_of _ (by decide +kernel)) ggX8_composite_X8_isStretch
set_option maxRecDepth 20000 in
theorem ggX8_composite_X8_in : GoodIn wsX8_composite wsX8_in := goodIn_r _ [17] (by decide +kernel) (by decide +kernel)
set_option maxRecDepth 20000 in
theorem gX8_composite_X8_in : GoodIn wsX8_composite (va_wsS RX8 84 yX8_in wsX8_in) := goodIn_app (goodIn_of _ (by decide +kernel)) ggX8_composite_X8_in
set_option maxRecDepth 20000 in
theorem ggX8_composite_X8_gradeAt : GoodIn wsX8_composite wsX8_gradeAt := goodIn_r _ [31, 32, 33, 34, 35, 12, 36, 37, 38, 39, 40, 41, 42, 43, 44, 45, 46, 47, 48, 49, 50, 51, 52, 53, 54, 55, 56, 57, 58, 59, 60, 61, 62, 63, 64, 65, 66, 67, 68, 69, 70, 71, 75, 76, 77, 78, 79, 80, 81, 82, 83, 84, 85, 86, 87, 88, 89, 90, 91, 92, 93, 94, 95, 96, 97, 98, 99, 100, 101] (by decide +kernel) (by decide +kernel)
set_option maxRecDepth 20000 in
theorem gX8_composite_X8_gradeAt : GoodIn wsX8_composite (wsV RX8 193 RX8 yX8_gradeAt wsX8_gradeAt) := goodIn_app (goodIn_of _ (by decide +kernel)) ggX8_composite_X8_gradeAt
set_option maxRecDepth 20000 in
theorem ggX8_composite_X8_common : GoodIn wsX8_composite wsX8_common := goodIn_r _ [74] (by decide +kernel) (by decide +kernel)
set_option maxRecDepth 20000 in
theorem gX8_composite_X8_common : GoodIn wsX8_composite (va_wsS RX8 104 yX8_common wsX8_common) := goodIn_app (goodIn_of _ (by decide +kernel)) ggX8_composite_X8_common
set_option maxRecDepth 20000 in
theorem ggX8_composite_X8_lower : GoodIn wsX8_composite wsX8_lower := goodIn_r _ [63, 64, 75, 76, 77, 78, 79, 80, 81, 82, 83, 84, 85, 86, 87, 88, 89, 90, 91, 92, 93, 94, 95, 96, 97, 98, 99, 100, 101] (by decide +kernel) (by decide +kernel)
set_option maxRecDepth 20000 in
theorem gX8_composite_X8_lower : GoodIn wsX8_composite (wsV RX8 165 RX8 yX8_lower wsX8_lower) := goodIn_app (goodIn_of _ (by decide +kernel)) ggX8_composite_X8_lower
set_option maxRecDepth 20000 in
theorem ggX8_composite_X8_upper : GoodIn wsX8_composite wsX8_upper := goodIn_r _ [71, 64, 75, 76, 77, 78, 79, 80, 81, 82, 83, 84, 85, 86, 87, 88, 89, 90, 91, 92, 93, 94, 95, 96, 97, 98, 99, 100, 101] (by decide +kernel) (by decide +kernel)
set_option maxRecDepth 20000 in
theorem gX8_composite_X8_upper : GoodIn wsX8_composite (wsV RX8 171 RX8 yX8_upper wsX8_upper) := goodIn_app (goodIn_of _ (by decide +kernel)) ggX8_composite_X8_upper
theorem dX8_composite_0 : decode cX8_composite 0 = .ok (.aload_n 0, 1) := by decide +kernel
theorem dX8_composite_1 : decode cX8_composite 1 = .ok (.iload_n 1, 1) := by decide +kernel
theorem dX8_composite_2 : decode cX8_composite 2 = .ok (.invokevirtual 91, 3) := by decide +kernel
theorem dX8_composite_5 : decode cX8_composite 5 = .ok (.ifCond .ne 7, 3) := by decide +kernel
theorem dX8_composite_8 : decode cX8_composite 8 = .ok (.ldc2_w 196, 3) := by decide +kernel
theorem dX8_composite_11 : decode cX8_composite 11 = .ok (.lreturn, 1) := by decide +kernel
theorem dX8_composite_12 : decode cX8_composite 12 = .ok (.aload_n 0, 1) := by decide +kernel
theorem dX8_composite_13 : decode cX8_composite 13 = .ok (.iload_n 1, 1) := by decide +kernel
theorem dX8_composite_14 : decode cX8_composite 14 = .ok (.iload_n 2, 1) := by decide +kernel
theorem dX8_composite_15 : decode cX8_composite 15 = .ok (.iload_n 3, 1) := by decide +kernel
theorem dX8_composite_16 : decode cX8_composite 16 = .ok (.invokevirtual 108, 3) := by decide +kernel
theorem dX8_composite_19 : decode cX8_composite 19 = .ok (.ifCond .eq 29, 3) := by decide +kernel
theorem dX8_composite_22 : decode cX8_composite 22 = .ok (.iload 4, 2) := by decide +kernel
theorem dX8_composite_24 : decode cX8_composite 24 = .ok (.i2l, 1) := by decide +kernel
theorem dX8_composite_25 : decode cX8_composite 25 = .ok (.lconst 1, 1) := by decide +kernel
theorem dX8_composite_26 : decode cX8_composite 26 = .ok (.ldc2_w 116, 3) := by decide +kernel
theorem dX8_composite_29 : decode cX8_composite 29 = .ok (.invokestatic 84, 3) := by decide +kernel
theorem dX8_composite_32 : decode cX8_composite 32 = .ok (.ifCond .eq 16, 3) := by decide +kernel
theorem dX8_composite_35 : decode cX8_composite 35 = .ok (.iload 5, 2) := by decide +kernel
theorem dX8_composite_37 : decode cX8_composite 37 = .ok (.i2l, 1) := by decide +kernel
theorem dX8_composite_38 : decode cX8_composite 38 = .ok (.lconst 0, 1) := by decide +kernel
theorem dX8_composite_39 : decode cX8_composite 39 = .ok (.ldc2_w 198, 3) := by decide +kernel
theorem dX8_composite_42 : decode cX8_composite 42 = .ok (.invokestatic 84, 3) := by decide +kernel
theorem dX8_composite_45 : decode cX8_composite 45 = .ok (.ifCond .ne 7, 3) := by decide +kernel
theorem dX8_composite_48 : decode cX8_composite 48 = .ok (.ldc2_w 200, 3) := by decide +kernel
theorem dX8_composite_51 : decode cX8_composite 51 = .ok (.lreturn, 1) := by decide +kernel
theorem dX8_composite_52 : decode cX8_composite 52 = .ok (.lconst 0, 1) := by decide +kernel
theorem dX8_composite_53 : decode cX8_composite 53 = .ok (.lstore 6, 2) := by decide +kernel
theorem dX8_composite_55 : decode cX8_composite 55 = .ok (.iconst 0, 1) := by decide +kernel
theorem dX8_composite_56 : decode cX8_composite 56 = .ok (.istore 8, 2) := by decide +kernel
theorem dX8_composite_58 : decode cX8_composite 58 = .ok (.iload 8, 2) := by decide +kernel
theorem dX8_composite_60 : decode cX8_composite 60 = .ok (.aload_n 0, 1) := by decide +kernel
theorem dX8_composite_61 : decode cX8_composite 61 = .ok (.getfield 88, 3) := by decide +kernel
theorem dX8_composite_64 : decode cX8_composite 64 = .ok (.if_icmp .ge 116, 3) := by decide +kernel
theorem dX8_composite_67 : decode cX8_composite 67 = .ok (.aload_n 0, 1) := by decide +kernel
theorem dX8_composite_68 : decode cX8_composite 68 = .ok (.getfield 44, 3) := by decide +kernel
theorem dX8_composite_71 : decode cX8_composite 71 = .ok (.iload 8, 2) := by decide +kernel
theorem dX8_composite_73 : decode cX8_composite 73 = .ok (.iaload, 1) := by decide +kernel
theorem dX8_composite_74 : decode cX8_composite 74 = .ok (.iload_n 1, 1) := by decide +kernel
theorem dX8_composite_75 : decode cX8_composite 75 = .ok (.if_icmp .ne 12, 3) := by decide +kernel
theorem dX8_composite_78 : decode cX8_composite 78 = .ok (.aload_n 0, 1) := by decide +kernel
theorem dX8_composite_79 : decode cX8_composite 79 = .ok (.iload 8, 2) := by decide +kernel
theorem dX8_composite_81 : decode cX8_composite 81 = .ok (.invokevirtual 193, 3) := by decide +kernel
theorem dX8_composite_84 : decode cX8_composite 84 = .ok (.goto 4, 3) := by decide +kernel
theorem dX8_composite_87 : decode cX8_composite 87 = .ok (.iconst (-1), 1) := by decide +kernel
theorem dX8_composite_88 : decode cX8_composite 88 = .ok (.istore 9, 2) := by decide +kernel
theorem dX8_composite_90 : decode cX8_composite 90 = .ok (.iload 9, 2) := by decide +kernel
theorem dX8_composite_92 : decode cX8_composite 92 = .ok (.iconst (-1), 1) := by decide +kernel
theorem dX8_composite_93 : decode cX8_composite 93 = .ok (.if_icmp .eq 81, 3) := by decide +kernel
theorem dX8_composite_96 : decode cX8_composite 96 = .ok (.iload_n 2, 1) := by decide +kernel
theorem dX8_composite_97 : decode cX8_composite 97 = .ok (.iload_n 3, 1) := by decide +kernel
theorem dX8_composite_98 : decode cX8_composite 98 = .ok (.aload_n 0, 1) := by decide +kernel
theorem dX8_composite_99 : decode cX8_composite 99 = .ok (.getfield 47, 3) := by decide +kernel
theorem dX8_composite_102 : decode cX8_composite 102 = .ok (.iload 8, 2) := by decide +kernel
theorem dX8_composite_104 : decode cX8_composite 104 = .ok (.iaload, 1) := by decide +kernel
theorem dX8_composite_105 : decode cX8_composite 105 = .ok (.aload_n 0, 1) := by decide +kernel
theorem dX8_composite_106 : decode cX8_composite 106 = .ok (.getfield 50, 3) := by decide +kernel
theorem dX8_composite_109 : decode cX8_composite 109 = .ok (.iload 8, 2) := by decide +kernel
theorem dX8_composite_111 : decode cX8_composite 111 = .ok (.iaload, 1) := by decide +kernel
theorem dX8_composite_112 : decode cX8_composite 112 = .ok (.invokestatic 104, 3) := by decide +kernel
theorem dX8_composite_115 : decode cX8_composite 115 = .ok (.i2l, 1) := by decide +kernel
theorem dX8_composite_116 : decode cX8_composite 116 = .ok (.lstore 10, 2) := by decide +kernel
theorem dX8_composite_118 : decode cX8_composite 118 = .ok (.iload 5, 2) := by decide +kernel
theorem dX8_composite_120 : decode cX8_composite 120 = .ok (.ifCond .ne 12, 3) := by decide +kernel
theorem dX8_composite_123 : decode cX8_composite 123 = .ok (.aload_n 0, 1) := by decide +kernel
theorem dX8_composite_124 : decode cX8_composite 124 = .ok (.iload 9, 2) := by decide +kernel
theorem dX8_composite_126 : decode cX8_composite 126 = .ok (.invokevirtual 165, 3) := by decide +kernel
theorem dX8_composite_129 : decode cX8_composite 129 = .ok (.goto 9, 3) := by decide +kernel
theorem dX8_composite_132 : decode cX8_composite 132 = .ok (.aload_n 0, 1) := by decide +kernel
theorem dX8_composite_133 : decode cX8_composite 133 = .ok (.iload 9, 2) := by decide +kernel
theorem dX8_composite_135 : decode cX8_composite 135 = .ok (.invokevirtual 171, 3) := by decide +kernel
theorem dX8_composite_138 : decode cX8_composite 138 = .ok (.istore 12, 2) := by decide +kernel
theorem dX8_composite_140 : decode cX8_composite 140 = .ok (.lload 6, 2) := by decide +kernel
theorem dX8_composite_142 : decode cX8_composite 142 = .ok (.iload 5, 2) := by decide +kernel
theorem dX8_composite_144 : decode cX8_composite 144 = .ok (.iconst 2, 1) := by decide +kernel
theorem dX8_composite_145 : decode cX8_composite 145 = .ok (.if_icmp .ne 8, 3) := by decide +kernel
theorem dX8_composite_148 : decode cX8_composite 148 = .ok (.lload 10, 2) := by decide +kernel
theorem dX8_composite_150 : decode cX8_composite 150 = .ok (.goto 21, 3) := by decide +kernel
theorem dX8_composite_153 : decode cX8_composite 153 = .ok (.lload 10, 2) := by decide +kernel
theorem dX8_composite_155 : decode cX8_composite 155 = .ok (.iload 12, 2) := by decide +kernel
theorem dX8_composite_157 : decode cX8_composite 157 = .ok (.iload 4, 2) := by decide +kernel
theorem dX8_composite_159 : decode cX8_composite 159 = .ok (.if_icmp .ge 8, 3) := by decide +kernel
theorem dX8_composite_162 : decode cX8_composite 162 = .ok (.iload 12, 2) := by decide +kernel
theorem dX8_composite_164 : decode cX8_composite 164 = .ok (.goto 5, 3) := by decide +kernel
theorem dX8_composite_167 : decode cX8_composite 167 = .ok (.iload 4, 2) := by decide +kernel
theorem dX8_composite_169 : decode cX8_composite 169 = .ok (.i2l, 1) := by decide +kernel
theorem dX8_composite_170 : decode cX8_composite 170 = .ok (.lmul, 1) := by decide +kernel
theorem dX8_composite_171 : decode cX8_composite 171 = .ok (.ladd, 1) := by decide +kernel
theorem dX8_composite_172 : decode cX8_composite 172 = .ok (.lstore 6, 2) := by decide +kernel
theorem dX8_composite_174 : decode cX8_composite 174 = .ok (.iinc 8 1, 3) := by decide +kernel
theorem dX8_composite_177 : decode cX8_composite 177 = .ok (.goto (-119), 3) := by decide +kernel
theorem dX8_composite_180 : decode cX8_composite 180 = .ok (.lload 6, 2) := by decide +kernel
theorem dX8_composite_182 : decode cX8_composite 182 = .ok (.lreturn, 1) := by decide +kernel
set_option maxRecDepth 20000 in
theorem ggX8_pairCost_X8_thick : GoodIn wsX8_pairCost wsX8_thick := goodIn_r _ [6, 7, 8, 9, 10, 5, 11, 15, 16, 17, 18, 19, 20, 21, 22, 23, 24, 25, 26, 27, 28, 29, 30, 31, 32, 33, 34, 35, 36, 37, 38, 39, 40, 41] (by decide +kernel) (by decide +kernel)
set_option maxRecDepth 20000 in
theorem gX8_pairCost_X8_thick : GoodIn wsX8_pairCost (wsV RX8 202 RX8 yX8_thick wsX8_thick) := goodIn_app (goodIn_of _ (by decide +kernel)) ggX8_pairCost_X8_thick
set_option maxRecDepth 20000 in
theorem ggX8_pairCost_X8_far : GoodIn wsX8_pairCost wsX8_far := goodIn_r _ [14] (by decide +kernel) (by decide +kernel)
set_option maxRecDepth 20000 in
theorem gX8_pairCost_X8_far : GoodIn wsX8_pairCost (va_wsS RX8 168 yX8_far wsX8_far) := goodIn_app (goodIn_of _ (by decide +kernel)) ggX8_pairCost_X8_far
theorem dX8_pairCost_0 : decode cX8_pairCost 0 = .ok (.aload_n 0, 1) := by decide +kernel
theorem dX8_pairCost_1 : decode cX8_pairCost 1 = .ok (.iconst 2, 1) := by decide +kernel
theorem dX8_pairCost_2 : decode cX8_pairCost 2 = .ok (.iload_n 1, 1) := by decide +kernel
theorem dX8_pairCost_3 : decode cX8_pairCost 3 = .ok (.imul, 1) := by decide +kernel
theorem dX8_pairCost_4 : decode cX8_pairCost 4 = .ok (.iload_n 3, 1) := by decide +kernel
theorem dX8_pairCost_5 : decode cX8_pairCost 5 = .ok (.invokevirtual 202, 3) := by decide +kernel
theorem dX8_pairCost_8 : decode cX8_pairCost 8 = .ok (.aload_n 0, 1) := by decide +kernel
theorem dX8_pairCost_9 : decode cX8_pairCost 9 = .ok (.iconst 2, 1) := by decide +kernel
theorem dX8_pairCost_10 : decode cX8_pairCost 10 = .ok (.iload_n 2, 1) := by decide +kernel
theorem dX8_pairCost_11 : decode cX8_pairCost 11 = .ok (.imul, 1) := by decide +kernel
theorem dX8_pairCost_12 : decode cX8_pairCost 12 = .ok (.iload 4, 2) := by decide +kernel
theorem dX8_pairCost_14 : decode cX8_pairCost 14 = .ok (.invokevirtual 202, 3) := by decide +kernel
theorem dX8_pairCost_17 : decode cX8_pairCost 17 = .ok (.invokestatic 168, 3) := by decide +kernel
theorem dX8_pairCost_20 : decode cX8_pairCost 20 = .ok (.aload_n 0, 1) := by decide +kernel
theorem dX8_pairCost_21 : decode cX8_pairCost 21 = .ok (.getfield 77, 3) := by decide +kernel
theorem dX8_pairCost_24 : decode cX8_pairCost 24 = .ok (.bipush 21, 2) := by decide +kernel
theorem dX8_pairCost_26 : decode cX8_pairCost 26 = .ok (.iload_n 3, 1) := by decide +kernel
theorem dX8_pairCost_27 : decode cX8_pairCost 27 = .ok (.iconst 1, 1) := by decide +kernel
theorem dX8_pairCost_28 : decode cX8_pairCost 28 = .ok (.iadd, 1) := by decide +kernel
theorem dX8_pairCost_29 : decode cX8_pairCost 29 = .ok (.imul, 1) := by decide +kernel
theorem dX8_pairCost_30 : decode cX8_pairCost 30 = .ok (.iload 4, 2) := by decide +kernel
theorem dX8_pairCost_32 : decode cX8_pairCost 32 = .ok (.iadd, 1) := by decide +kernel
theorem dX8_pairCost_33 : decode cX8_pairCost 33 = .ok (.iconst 1, 1) := by decide +kernel
theorem dX8_pairCost_34 : decode cX8_pairCost 34 = .ok (.iadd, 1) := by decide +kernel
theorem dX8_pairCost_35 : decode cX8_pairCost 35 = .ok (.iaload, 1) := by decide +kernel
theorem dX8_pairCost_36 : decode cX8_pairCost 36 = .ok (.iadd, 1) := by decide +kernel
theorem dX8_pairCost_37 : decode cX8_pairCost 37 = .ok (.ireturn, 1) := by decide +kernel
set_option maxRecDepth 20000 in
theorem ggX8_mayGo_X8_codeOf : GoodIn wsX8_mayGo wsX8_codeOf := goodIn_r _ [5, 6, 7, 8, 9, 10, 11, 12, 13, 14, 15, 16, 17, 18, 19, 20, 21, 22, 23, 24, 25, 26, 27, 28, 29, 30, 31, 32, 33, 34] (by decide +kernel) (by decide +kernel)
set_option maxRecDepth 20000 in
theorem gX8_mayGo_X8_codeOf : GoodIn wsX8_mayGo (wsV RX8 130 RX8 yX8_codeOf wsX8_codeOf) := goodIn_app (goodIn_of _ (by decide +kernel)) ggX8_mayGo_X8_codeOf
theorem dX8_mayGo_0 : decode cX8_mayGo 0 = .ok (.aload_n 0, 1) := by decide +kernel
theorem dX8_mayGo_1 : decode cX8_mayGo 1 = .ok (.iconst 2, 1) := by decide +kernel
theorem dX8_mayGo_2 : decode cX8_mayGo 2 = .ok (.iload_n 1, 1) := by decide +kernel
theorem dX8_mayGo_3 : decode cX8_mayGo 3 = .ok (.imul, 1) := by decide +kernel
theorem dX8_mayGo_4 : decode cX8_mayGo 4 = .ok (.iload_n 3, 1) := by decide +kernel
theorem dX8_mayGo_5 : decode cX8_mayGo 5 = .ok (.invokevirtual 130, 3) := by decide +kernel
theorem dX8_mayGo_8 : decode cX8_mayGo 8 = .ok (.aload_n 0, 1) := by decide +kernel
theorem dX8_mayGo_9 : decode cX8_mayGo 9 = .ok (.iconst 2, 1) := by decide +kernel
theorem dX8_mayGo_10 : decode cX8_mayGo 10 = .ok (.iload_n 2, 1) := by decide +kernel
theorem dX8_mayGo_11 : decode cX8_mayGo 11 = .ok (.imul, 1) := by decide +kernel
theorem dX8_mayGo_12 : decode cX8_mayGo 12 = .ok (.iload 4, 2) := by decide +kernel
theorem dX8_mayGo_14 : decode cX8_mayGo 14 = .ok (.invokevirtual 130, 3) := by decide +kernel
theorem dX8_mayGo_17 : decode cX8_mayGo 17 = .ok (.if_icmp .ne 7, 3) := by decide +kernel
theorem dX8_mayGo_20 : decode cX8_mayGo 20 = .ok (.iconst 1, 1) := by decide +kernel
theorem dX8_mayGo_21 : decode cX8_mayGo 21 = .ok (.goto 4, 3) := by decide +kernel
theorem dX8_mayGo_24 : decode cX8_mayGo 24 = .ok (.iconst 0, 1) := by decide +kernel
theorem dX8_mayGo_25 : decode cX8_mayGo 25 = .ok (.ireturn, 1) := by decide +kernel
set_option maxRecDepth 20000 in
theorem ggX8_match_X8_thick : GoodIn wsX8_match wsX8_thick := goodIn_r _ [8, 9, 10, 11, 12, 7, 13, 31, 32, 33, 34, 35, 36, 37, 38, 39, 40, 41, 42, 43, 44, 45, 46, 47, 48, 49, 50, 51, 52, 53, 54, 55, 56, 57] (by decide +kernel) (by decide +kernel)
set_option maxRecDepth 20000 in
theorem gX8_match_X8_thick : GoodIn wsX8_match (wsV RX8 202 RX8 yX8_thick wsX8_thick) := goodIn_app (goodIn_of _ (by decide +kernel)) ggX8_match_X8_thick
set_option maxRecDepth 20000 in
theorem ggX8_match_X8_mayGo : GoodIn wsX8_match wsX8_mayGo := goodIn_r _ [17, 18, 19, 20, 7, 21, 22, 23, 31, 32, 33, 34, 35, 36, 37, 38, 39, 40, 41, 42, 43, 44, 45, 46, 47, 48, 49, 50, 51, 52, 53, 54, 55, 56, 57] (by decide +kernel) (by decide +kernel)
set_option maxRecDepth 20000 in
theorem gX8_match_X8_mayGo : GoodIn wsX8_match (wsV RX8 206 RX8 yX8_mayGo wsX8_mayGo) := goodIn_app (goodIn_of _ (by decide +kernel)) ggX8_match_X8_mayGo
set_option maxRecDepth 20000 in
theorem ggX8_match_X8_pairCost : GoodIn wsX8_match wsX8_pairCost := goodIn_r _ [27, 3, 4, 5, 6, 7, 8, 9, 10, 11, 12, 13, 28, 29, 30, 31, 32, 33, 34, 35, 36, 37, 38, 39, 40, 41, 42, 43, 44, 45, 46, 47, 48, 49, 50, 51, 52, 53, 54, 55, 56, 57] (by decide +kernel) (by decide +kernel)
set_option maxRecDepth 20000 in
theorem gX8_match_X8_pairCost : GoodIn wsX8_match (wsV RX8 210 RX8 yX8_pairCost wsX8_pairCost) := goodIn_app (goodIn_of _ (by decide +kernel)) ggX8_match_X8_pairCost
theorem dX8_match_0 : decode cX8_match 0 = .ok (.aload_n 0, 1) := by decide +kernel
theorem dX8_match_1 : decode cX8_match 1 = .ok (.getfield 32, 3) := by decide +kernel
theorem dX8_match_4 : decode cX8_match 4 = .ok (.iconst 2, 1) := by decide +kernel
theorem dX8_match_5 : decode cX8_match 5 = .ok (.iload_n 1, 1) := by decide +kernel
theorem dX8_match_6 : decode cX8_match 6 = .ok (.imul, 1) := by decide +kernel
theorem dX8_match_7 : decode cX8_match 7 = .ok (.iaload, 1) := by decide +kernel
theorem dX8_match_8 : decode cX8_match 8 = .ok (.istore_n 3, 1) := by decide +kernel
theorem dX8_match_9 : decode cX8_match 9 = .ok (.aload_n 0, 1) := by decide +kernel
theorem dX8_match_10 : decode cX8_match 10 = .ok (.getfield 32, 3) := by decide +kernel
theorem dX8_match_13 : decode cX8_match 13 = .ok (.iconst 2, 1) := by decide +kernel
theorem dX8_match_14 : decode cX8_match 14 = .ok (.iload_n 2, 1) := by decide +kernel
theorem dX8_match_15 : decode cX8_match 15 = .ok (.imul, 1) := by decide +kernel
theorem dX8_match_16 : decode cX8_match 16 = .ok (.iaload, 1) := by decide +kernel
theorem dX8_match_17 : decode cX8_match 17 = .ok (.istore 4, 2) := by decide +kernel
theorem dX8_match_19 : decode cX8_match 19 = .ok (.iload_n 3, 1) := by decide +kernel
theorem dX8_match_20 : decode cX8_match 20 = .ok (.istore 5, 2) := by decide +kernel
theorem dX8_match_22 : decode cX8_match 22 = .ok (.iload 5, 2) := by decide +kernel
theorem dX8_match_24 : decode cX8_match 24 = .ok (.ifCond .lt 213, 3) := by decide +kernel
theorem dX8_match_27 : decode cX8_match 27 = .ok (.iload 4, 2) := by decide +kernel
theorem dX8_match_29 : decode cX8_match 29 = .ok (.istore 6, 2) := by decide +kernel
theorem dX8_match_31 : decode cX8_match 31 = .ok (.iload 6, 2) := by decide +kernel
theorem dX8_match_33 : decode cX8_match 33 = .ok (.ifCond .lt 198, 3) := by decide +kernel
theorem dX8_match_36 : decode cX8_match 36 = .ok (.iload 5, 2) := by decide +kernel
theorem dX8_match_38 : decode cX8_match 38 = .ok (.iload_n 3, 1) := by decide +kernel
theorem dX8_match_39 : decode cX8_match 39 = .ok (.if_icmp .ne 14, 3) := by decide +kernel
theorem dX8_match_42 : decode cX8_match 42 = .ok (.iload 6, 2) := by decide +kernel
theorem dX8_match_44 : decode cX8_match 44 = .ok (.iload 4, 2) := by decide +kernel
theorem dX8_match_46 : decode cX8_match 46 = .ok (.if_icmp .ne 7, 3) := by decide +kernel
theorem dX8_match_49 : decode cX8_match 49 = .ok (.iconst 0, 1) := by decide +kernel
theorem dX8_match_50 : decode cX8_match 50 = .ok (.goto 5, 3) := by decide +kernel
theorem dX8_match_53 : decode cX8_match 53 = .ok (.ldc 205, 2) := by decide +kernel
theorem dX8_match_55 : decode cX8_match 55 = .ok (.istore 7, 2) := by decide +kernel
theorem dX8_match_57 : decode cX8_match 57 = .ok (.iload 5, 2) := by decide +kernel
theorem dX8_match_59 : decode cX8_match 59 = .ok (.iload_n 3, 1) := by decide +kernel
theorem dX8_match_60 : decode cX8_match 60 = .ok (.if_icmp .ge 46, 3) := by decide +kernel
theorem dX8_match_63 : decode cX8_match 63 = .ok (.aload_n 0, 1) := by decide +kernel
theorem dX8_match_64 : decode cX8_match 64 = .ok (.iconst 2, 1) := by decide +kernel
theorem dX8_match_65 : decode cX8_match 65 = .ok (.iload_n 1, 1) := by decide +kernel
theorem dX8_match_66 : decode cX8_match 66 = .ok (.imul, 1) := by decide +kernel
theorem dX8_match_67 : decode cX8_match 67 = .ok (.iload 5, 2) := by decide +kernel
theorem dX8_match_69 : decode cX8_match 69 = .ok (.invokevirtual 202, 3) := by decide +kernel
theorem dX8_match_72 : decode cX8_match 72 = .ok (.aload_n 0, 1) := by decide +kernel
theorem dX8_match_73 : decode cX8_match 73 = .ok (.getfield 77, 3) := by decide +kernel
theorem dX8_match_76 : decode cX8_match 76 = .ok (.bipush 21, 2) := by decide +kernel
theorem dX8_match_78 : decode cX8_match 78 = .ok (.iload 5, 2) := by decide +kernel
theorem dX8_match_80 : decode cX8_match 80 = .ok (.iconst 1, 1) := by decide +kernel
theorem dX8_match_81 : decode cX8_match 81 = .ok (.iadd, 1) := by decide +kernel
theorem dX8_match_82 : decode cX8_match 82 = .ok (.imul, 1) := by decide +kernel
theorem dX8_match_83 : decode cX8_match 83 = .ok (.iload 6, 2) := by decide +kernel
theorem dX8_match_85 : decode cX8_match 85 = .ok (.iadd, 1) := by decide +kernel
theorem dX8_match_86 : decode cX8_match 86 = .ok (.iaload, 1) := by decide +kernel
theorem dX8_match_87 : decode cX8_match 87 = .ok (.iadd, 1) := by decide +kernel
theorem dX8_match_88 : decode cX8_match 88 = .ok (.istore 8, 2) := by decide +kernel
theorem dX8_match_90 : decode cX8_match 90 = .ok (.iload 8, 2) := by decide +kernel
theorem dX8_match_92 : decode cX8_match 92 = .ok (.iload 7, 2) := by decide +kernel
theorem dX8_match_94 : decode cX8_match 94 = .ok (.if_icmp .ge 8, 3) := by decide +kernel
theorem dX8_match_97 : decode cX8_match 97 = .ok (.iload 8, 2) := by decide +kernel
theorem dX8_match_99 : decode cX8_match 99 = .ok (.goto 5, 3) := by decide +kernel
theorem dX8_match_102 : decode cX8_match 102 = .ok (.iload 7, 2) := by decide +kernel
theorem dX8_match_104 : decode cX8_match 104 = .ok (.istore 7, 2) := by decide +kernel
theorem dX8_match_106 : decode cX8_match 106 = .ok (.iload 6, 2) := by decide +kernel
theorem dX8_match_108 : decode cX8_match 108 = .ok (.iload 4, 2) := by decide +kernel
theorem dX8_match_110 : decode cX8_match 110 = .ok (.if_icmp .ge 46, 3) := by decide +kernel
theorem dX8_match_113 : decode cX8_match 113 = .ok (.aload_n 0, 1) := by decide +kernel
theorem dX8_match_114 : decode cX8_match 114 = .ok (.iconst 2, 1) := by decide +kernel
theorem dX8_match_115 : decode cX8_match 115 = .ok (.iload_n 2, 1) := by decide +kernel
theorem dX8_match_116 : decode cX8_match 116 = .ok (.imul, 1) := by decide +kernel
theorem dX8_match_117 : decode cX8_match 117 = .ok (.iload 6, 2) := by decide +kernel
theorem dX8_match_119 : decode cX8_match 119 = .ok (.invokevirtual 202, 3) := by decide +kernel
theorem dX8_match_122 : decode cX8_match 122 = .ok (.aload_n 0, 1) := by decide +kernel
theorem dX8_match_123 : decode cX8_match 123 = .ok (.getfield 77, 3) := by decide +kernel
theorem dX8_match_126 : decode cX8_match 126 = .ok (.bipush 21, 2) := by decide +kernel
theorem dX8_match_128 : decode cX8_match 128 = .ok (.iload 5, 2) := by decide +kernel
theorem dX8_match_130 : decode cX8_match 130 = .ok (.imul, 1) := by decide +kernel
theorem dX8_match_131 : decode cX8_match 131 = .ok (.iload 6, 2) := by decide +kernel
theorem dX8_match_133 : decode cX8_match 133 = .ok (.iadd, 1) := by decide +kernel
theorem dX8_match_134 : decode cX8_match 134 = .ok (.iconst 1, 1) := by decide +kernel
theorem dX8_match_135 : decode cX8_match 135 = .ok (.iadd, 1) := by decide +kernel
theorem dX8_match_136 : decode cX8_match 136 = .ok (.iaload, 1) := by decide +kernel
theorem dX8_match_137 : decode cX8_match 137 = .ok (.iadd, 1) := by decide +kernel
theorem dX8_match_138 : decode cX8_match 138 = .ok (.istore 8, 2) := by decide +kernel
theorem dX8_match_140 : decode cX8_match 140 = .ok (.iload 8, 2) := by decide +kernel
theorem dX8_match_142 : decode cX8_match 142 = .ok (.iload 7, 2) := by decide +kernel
theorem dX8_match_144 : decode cX8_match 144 = .ok (.if_icmp .ge 8, 3) := by decide +kernel
theorem dX8_match_147 : decode cX8_match 147 = .ok (.iload 8, 2) := by decide +kernel
theorem dX8_match_149 : decode cX8_match 149 = .ok (.goto 5, 3) := by decide +kernel
theorem dX8_match_152 : decode cX8_match 152 = .ok (.iload 7, 2) := by decide +kernel
theorem dX8_match_154 : decode cX8_match 154 = .ok (.istore 7, 2) := by decide +kernel
theorem dX8_match_156 : decode cX8_match 156 = .ok (.iload 5, 2) := by decide +kernel
theorem dX8_match_158 : decode cX8_match 158 = .ok (.iload_n 3, 1) := by decide +kernel
theorem dX8_match_159 : decode cX8_match 159 = .ok (.if_icmp .ge 51, 3) := by decide +kernel
theorem dX8_match_162 : decode cX8_match 162 = .ok (.iload 6, 2) := by decide +kernel
theorem dX8_match_164 : decode cX8_match 164 = .ok (.iload 4, 2) := by decide +kernel
theorem dX8_match_166 : decode cX8_match 166 = .ok (.if_icmp .ge 44, 3) := by decide +kernel
theorem dX8_match_169 : decode cX8_match 169 = .ok (.aload_n 0, 1) := by decide +kernel
theorem dX8_match_170 : decode cX8_match 170 = .ok (.iload_n 1, 1) := by decide +kernel
theorem dX8_match_171 : decode cX8_match 171 = .ok (.iload_n 2, 1) := by decide +kernel
theorem dX8_match_172 : decode cX8_match 172 = .ok (.iload 5, 2) := by decide +kernel
theorem dX8_match_174 : decode cX8_match 174 = .ok (.iload 6, 2) := by decide +kernel
theorem dX8_match_176 : decode cX8_match 176 = .ok (.invokevirtual 206, 3) := by decide +kernel
theorem dX8_match_179 : decode cX8_match 179 = .ok (.ifCond .eq 31, 3) := by decide +kernel
theorem dX8_match_182 : decode cX8_match 182 = .ok (.aload_n 0, 1) := by decide +kernel
theorem dX8_match_183 : decode cX8_match 183 = .ok (.iload_n 1, 1) := by decide +kernel
theorem dX8_match_184 : decode cX8_match 184 = .ok (.iload_n 2, 1) := by decide +kernel
theorem dX8_match_185 : decode cX8_match 185 = .ok (.iload 5, 2) := by decide +kernel
theorem dX8_match_187 : decode cX8_match 187 = .ok (.iload 6, 2) := by decide +kernel
theorem dX8_match_189 : decode cX8_match 189 = .ok (.invokevirtual 210, 3) := by decide +kernel
theorem dX8_match_192 : decode cX8_match 192 = .ok (.istore 8, 2) := by decide +kernel
theorem dX8_match_194 : decode cX8_match 194 = .ok (.iload 8, 2) := by decide +kernel
theorem dX8_match_196 : decode cX8_match 196 = .ok (.iload 7, 2) := by decide +kernel
theorem dX8_match_198 : decode cX8_match 198 = .ok (.if_icmp .ge 8, 3) := by decide +kernel
theorem dX8_match_201 : decode cX8_match 201 = .ok (.iload 8, 2) := by decide +kernel
theorem dX8_match_203 : decode cX8_match 203 = .ok (.goto 5, 3) := by decide +kernel
theorem dX8_match_206 : decode cX8_match 206 = .ok (.iload 7, 2) := by decide +kernel
theorem dX8_match_208 : decode cX8_match 208 = .ok (.istore 7, 2) := by decide +kernel
theorem dX8_match_210 : decode cX8_match 210 = .ok (.aload_n 0, 1) := by decide +kernel
theorem dX8_match_211 : decode cX8_match 211 = .ok (.getfield 77, 3) := by decide +kernel
theorem dX8_match_214 : decode cX8_match 214 = .ok (.bipush 21, 2) := by decide +kernel
theorem dX8_match_216 : decode cX8_match 216 = .ok (.iload 5, 2) := by decide +kernel
theorem dX8_match_218 : decode cX8_match 218 = .ok (.imul, 1) := by decide +kernel
theorem dX8_match_219 : decode cX8_match 219 = .ok (.iload 6, 2) := by decide +kernel
theorem dX8_match_221 : decode cX8_match 221 = .ok (.iadd, 1) := by decide +kernel
theorem dX8_match_222 : decode cX8_match 222 = .ok (.iload 7, 2) := by decide +kernel
theorem dX8_match_224 : decode cX8_match 224 = .ok (.iastore, 1) := by decide +kernel
theorem dX8_match_225 : decode cX8_match 225 = .ok (.iinc 6 (-1), 3) := by decide +kernel
theorem dX8_match_228 : decode cX8_match 228 = .ok (.goto (-197), 3) := by decide +kernel
theorem dX8_match_231 : decode cX8_match 231 = .ok (.iinc 5 (-1), 3) := by decide +kernel
theorem dX8_match_234 : decode cX8_match 234 = .ok (.goto (-212), 3) := by decide +kernel
theorem dX8_match_237 : decode cX8_match 237 = .ok (.return_, 1) := by decide +kernel
set_option maxRecDepth 20000 in
theorem ggX8_cost_X8_isHole : GoodIn wsX8_cost wsX8_isHole := goodIn_r _ [6, 7, 8, 9, 5, 10, 43, 44, 45, 46, 47, 48, 49, 50, 51, 52, 53, 54, 55, 56, 57, 58, 59, 60, 61, 62, 63, 64, 65, 66, 67, 68, 69] (by decide +kernel) (by decide +kernel)
set_option maxRecDepth 20000 in
theorem gX8_cost_X8_isHole : GoodIn wsX8_cost (wsV RX8 91 RX8 yX8_isHole wsX8_isHole) := goodIn_app (goodIn_of _ (by decide +kernel)) ggX8_cost_X8_isHole
set_option maxRecDepth 20000 in
theorem ggX8_cost_X8_match : GoodIn wsX8_cost wsX8_match := goodIn_r _ [14, 15, 16, 1, 17, 18, 19, 5, 20, 21, 22, 23, 24, 25, 26, 27, 28, 29, 30, 31, 32, 33, 34, 35, 36, 37, 38, 39, 40, 41, 42, 43, 44, 45, 46, 47, 48, 49, 50, 51, 52, 53, 54, 55, 56, 57, 58, 59, 60, 61, 62, 63, 64, 65, 66, 67, 68, 69] (by decide +kernel) (by decide +kernel)
set_option maxRecDepth 20000 in
theorem gX8_cost_X8_match : GoodIn wsX8_cost (wsV RX8 213 RX8 yX8_match wsX8_match) := goodIn_app (goodIn_of _ (by decide +kernel)) ggX8_cost_X8_match
theorem dX8_cost_0 : decode cX8_cost 0 = .ok (.aload_n 0, 1) := by decide +kernel
theorem dX8_cost_1 : decode cX8_cost 1 = .ok (.iload_n 1, 1) := by decide +kernel
theorem dX8_cost_2 : decode cX8_cost 2 = .ok (.invokevirtual 91, 3) := by decide +kernel
theorem dX8_cost_5 : decode cX8_cost 5 = .ok (.ifCond .eq 11, 3) := by decide +kernel
theorem dX8_cost_8 : decode cX8_cost 8 = .ok (.aload_n 0, 1) := by decide +kernel
theorem dX8_cost_9 : decode cX8_cost 9 = .ok (.iload_n 2, 1) := by decide +kernel
theorem dX8_cost_10 : decode cX8_cost 10 = .ok (.invokevirtual 91, 3) := by decide +kernel
theorem dX8_cost_13 : decode cX8_cost 13 = .ok (.ifCond .ne 6, 3) := by decide +kernel
theorem dX8_cost_16 : decode cX8_cost 16 = .ok (.bipush (-101), 2) := by decide +kernel
theorem dX8_cost_18 : decode cX8_cost 18 = .ok (.ireturn, 1) := by decide +kernel
theorem dX8_cost_19 : decode cX8_cost 19 = .ok (.aload_n 0, 1) := by decide +kernel
theorem dX8_cost_20 : decode cX8_cost 20 = .ok (.iload_n 1, 1) := by decide +kernel
theorem dX8_cost_21 : decode cX8_cost 21 = .ok (.iload_n 2, 1) := by decide +kernel
theorem dX8_cost_22 : decode cX8_cost 22 = .ok (.invokevirtual 213, 3) := by decide +kernel
theorem dX8_cost_25 : decode cX8_cost 25 = .ok (.aload_n 0, 1) := by decide +kernel
theorem dX8_cost_26 : decode cX8_cost 26 = .ok (.getfield 77, 3) := by decide +kernel
theorem dX8_cost_29 : decode cX8_cost 29 = .ok (.iconst 0, 1) := by decide +kernel
theorem dX8_cost_30 : decode cX8_cost 30 = .ok (.iaload, 1) := by decide +kernel
theorem dX8_cost_31 : decode cX8_cost 31 = .ok (.ireturn, 1) := by decide +kernel
set_option maxRecDepth 20000 in
theorem ggX8_matched_X8_isHole : GoodIn wsX8_matched wsX8_isHole := goodIn_r _ [7, 8, 9, 10, 6, 11, 43, 44, 45, 46, 47, 48, 49, 50, 51, 52, 53, 54, 55, 56, 57, 58, 59, 60, 61, 62, 63, 64, 65, 66, 67, 68, 69] (by decide +kernel) (by decide +kernel)
set_option maxRecDepth 20000 in
theorem gX8_matched_X8_isHole : GoodIn wsX8_matched (wsV RX8 91 RX8 yX8_isHole wsX8_isHole) := goodIn_app (goodIn_of _ (by decide +kernel)) ggX8_matched_X8_isHole
set_option maxRecDepth 20000 in
theorem ggX8_matched_X8_in : GoodIn wsX8_matched wsX8_in := goodIn_r _ [11] (by decide +kernel) (by decide +kernel)
set_option maxRecDepth 20000 in
theorem gX8_matched_X8_in : GoodIn wsX8_matched (va_wsS RX8 84 yX8_in wsX8_in) := goodIn_app (goodIn_of _ (by decide +kernel)) ggX8_matched_X8_in
set_option maxRecDepth 20000 in
theorem ggX8_matched_X8_match : GoodIn wsX8_matched wsX8_match := goodIn_r _ [15, 1, 16, 2, 17, 18, 19, 6, 20, 21, 22, 23, 24, 25, 26, 27, 28, 29, 30, 31, 32, 33, 34, 35, 36, 37, 38, 39, 40, 41, 42, 43, 44, 45, 46, 47, 48, 49, 50, 51, 52, 53, 54, 55, 56, 57, 58, 59, 60, 61, 62, 63, 64, 65, 66, 67, 68, 69] (by decide +kernel) (by decide +kernel)
set_option maxRecDepth 20000 in
theorem gX8_matched_X8_match : GoodIn wsX8_matched (wsV RX8 213 RX8 yX8_match wsX8_match) := goodIn_app (goodIn_of _ (by decide +kernel)) ggX8_matched_X8_match
set_option maxRecDepth 20000 in
theorem ggX8_matched_X8_mayGo : GoodIn wsX8_matched wsX8_mayGo := goodIn_r _ [29, 30, 31, 32, 6, 33, 34, 35, 43, 44, 45, 46, 47, 48, 49, 50, 51, 52, 53, 54, 55, 56, 57, 58, 59, 60, 61, 62, 63, 64, 65, 66, 67, 68, 69] (by decide +kernel) (by decide +kernel)
set_option maxRecDepth 20000 in
theorem gX8_matched_X8_mayGo : GoodIn wsX8_matched (wsV RX8 206 RX8 yX8_mayGo wsX8_mayGo) := goodIn_app (goodIn_of _ (by decide +kernel)) ggX8_matched_X8_mayGo
set_option maxRecDepth 20000 in
theorem ggX8_matched_X8_pairCost : GoodIn wsX8_matched wsX8_pairCost := goodIn_r _ [39, 2, 17, 18, 19, 6, 20, 21, 22, 23, 24, 25, 40, 41, 42, 43, 44, 45, 46, 47, 48, 49, 50, 51, 52, 53, 54, 55, 56, 57, 58, 59, 60, 61, 62, 63, 64, 65, 66, 67, 68, 69] (by decide +kernel) (by decide +kernel)
set_option maxRecDepth 20000 in
theorem gX8_matched_X8_pairCost : GoodIn wsX8_matched (wsV RX8 210 RX8 yX8_pairCost wsX8_pairCost) := goodIn_app (goodIn_of _ (by decide +kernel)) ggX8_matched_X8_pairCost
set_option maxRecDepth 20000 in
theorem ggX8_matched_X8_thick : GoodIn wsX8_matched wsX8_thick := goodIn_r _ [20, 21, 22, 23, 24, 6, 25, 43, 44, 45, 46, 47, 48, 49, 50, 51, 52, 53, 54, 55, 56, 57, 58, 59, 60, 61, 62, 63, 64, 65, 66, 67, 68, 69] (by decide +kernel) (by decide +kernel)
set_option maxRecDepth 20000 in
theorem gX8_matched_X8_thick : GoodIn wsX8_matched (wsV RX8 202 RX8 yX8_thick wsX8_thick) := goodIn_app (goodIn_of _ (by decide +kernel)) ggX8_matched_X8_thick
theorem dX8_matched_0 : decode cX8_matched 0 = .ok (.aload_n 0, 1) := by decide +kernel
theorem dX8_matched_1 : decode cX8_matched 1 = .ok (.iload_n 1, 1) := by decide +kernel
theorem dX8_matched_2 : decode cX8_matched 2 = .ok (.invokevirtual 91, 3) := by decide +kernel
theorem dX8_matched_5 : decode cX8_matched 5 = .ok (.ifCond .eq 31, 3) := by decide +kernel
theorem dX8_matched_8 : decode cX8_matched 8 = .ok (.aload_n 0, 1) := by decide +kernel
theorem dX8_matched_9 : decode cX8_matched 9 = .ok (.iload_n 2, 1) := by decide +kernel
theorem dX8_matched_10 : decode cX8_matched 10 = .ok (.invokevirtual 91, 3) := by decide +kernel
theorem dX8_matched_13 : decode cX8_matched 13 = .ok (.ifCond .eq 23, 3) := by decide +kernel
theorem dX8_matched_16 : decode cX8_matched 16 = .ok (.iload_n 3, 1) := by decide +kernel
theorem dX8_matched_17 : decode cX8_matched 17 = .ok (.i2l, 1) := by decide +kernel
theorem dX8_matched_18 : decode cX8_matched 18 = .ok (.lconst 0, 1) := by decide +kernel
theorem dX8_matched_19 : decode cX8_matched 19 = .ok (.aload_n 0, 1) := by decide +kernel
theorem dX8_matched_20 : decode cX8_matched 20 = .ok (.getfield 32, 3) := by decide +kernel
theorem dX8_matched_23 : decode cX8_matched 23 = .ok (.iconst 2, 1) := by decide +kernel
theorem dX8_matched_24 : decode cX8_matched 24 = .ok (.iload_n 1, 1) := by decide +kernel
theorem dX8_matched_25 : decode cX8_matched 25 = .ok (.imul, 1) := by decide +kernel
theorem dX8_matched_26 : decode cX8_matched 26 = .ok (.iaload, 1) := by decide +kernel
theorem dX8_matched_27 : decode cX8_matched 27 = .ok (.iconst 1, 1) := by decide +kernel
theorem dX8_matched_28 : decode cX8_matched 28 = .ok (.isub, 1) := by decide +kernel
theorem dX8_matched_29 : decode cX8_matched 29 = .ok (.i2l, 1) := by decide +kernel
theorem dX8_matched_30 : decode cX8_matched 30 = .ok (.invokestatic 84, 3) := by decide +kernel
theorem dX8_matched_33 : decode cX8_matched 33 = .ok (.ifCond .ne 6, 3) := by decide +kernel
theorem dX8_matched_36 : decode cX8_matched 36 = .ok (.bipush (-101), 2) := by decide +kernel
theorem dX8_matched_38 : decode cX8_matched 38 = .ok (.ireturn, 1) := by decide +kernel
theorem dX8_matched_39 : decode cX8_matched 39 = .ok (.aload_n 0, 1) := by decide +kernel
theorem dX8_matched_40 : decode cX8_matched 40 = .ok (.iload_n 1, 1) := by decide +kernel
theorem dX8_matched_41 : decode cX8_matched 41 = .ok (.iload_n 2, 1) := by decide +kernel
theorem dX8_matched_42 : decode cX8_matched 42 = .ok (.invokevirtual 213, 3) := by decide +kernel
theorem dX8_matched_45 : decode cX8_matched 45 = .ok (.aload_n 0, 1) := by decide +kernel
theorem dX8_matched_46 : decode cX8_matched 46 = .ok (.getfield 32, 3) := by decide +kernel
theorem dX8_matched_49 : decode cX8_matched 49 = .ok (.iconst 2, 1) := by decide +kernel
theorem dX8_matched_50 : decode cX8_matched 50 = .ok (.iload_n 2, 1) := by decide +kernel
theorem dX8_matched_51 : decode cX8_matched 51 = .ok (.imul, 1) := by decide +kernel
theorem dX8_matched_52 : decode cX8_matched 52 = .ok (.iaload, 1) := by decide +kernel
theorem dX8_matched_53 : decode cX8_matched 53 = .ok (.istore 4, 2) := by decide +kernel
theorem dX8_matched_55 : decode cX8_matched 55 = .ok (.iconst 0, 1) := by decide +kernel
theorem dX8_matched_56 : decode cX8_matched 56 = .ok (.istore 5, 2) := by decide +kernel
theorem dX8_matched_58 : decode cX8_matched 58 = .ok (.iconst (-1), 1) := by decide +kernel
theorem dX8_matched_59 : decode cX8_matched 59 = .ok (.istore 6, 2) := by decide +kernel
theorem dX8_matched_61 : decode cX8_matched 61 = .ok (.iconst 0, 1) := by decide +kernel
theorem dX8_matched_62 : decode cX8_matched 62 = .ok (.istore 7, 2) := by decide +kernel
theorem dX8_matched_64 : decode cX8_matched 64 = .ok (.iload 7, 2) := by decide +kernel
theorem dX8_matched_66 : decode cX8_matched 66 = .ok (.iload_n 3, 1) := by decide +kernel
theorem dX8_matched_67 : decode cX8_matched 67 = .ok (.if_icmp .gt 115, 3) := by decide +kernel
theorem dX8_matched_70 : decode cX8_matched 70 = .ok (.iconst (-1), 1) := by decide +kernel
theorem dX8_matched_71 : decode cX8_matched 71 = .ok (.istore 6, 2) := by decide +kernel
theorem dX8_matched_73 : decode cX8_matched 73 = .ok (.iconst 0, 1) := by decide +kernel
theorem dX8_matched_74 : decode cX8_matched 74 = .ok (.istore 8, 2) := by decide +kernel
theorem dX8_matched_76 : decode cX8_matched 76 = .ok (.iload 5, 2) := by decide +kernel
theorem dX8_matched_78 : decode cX8_matched 78 = .ok (.istore 9, 2) := by decide +kernel
theorem dX8_matched_80 : decode cX8_matched 80 = .ok (.iload 9, 2) := by decide +kernel
theorem dX8_matched_82 : decode cX8_matched 82 = .ok (.iload 4, 2) := by decide +kernel
theorem dX8_matched_84 : decode cX8_matched 84 = .ok (.if_icmp .ge 75, 3) := by decide +kernel
theorem dX8_matched_87 : decode cX8_matched 87 = .ok (.iload 6, 2) := by decide +kernel
theorem dX8_matched_89 : decode cX8_matched 89 = .ok (.iconst (-1), 1) := by decide +kernel
theorem dX8_matched_90 : decode cX8_matched 90 = .ok (.if_icmp .ne 69, 3) := by decide +kernel
theorem dX8_matched_93 : decode cX8_matched 93 = .ok (.aload_n 0, 1) := by decide +kernel
theorem dX8_matched_94 : decode cX8_matched 94 = .ok (.iload_n 1, 1) := by decide +kernel
theorem dX8_matched_95 : decode cX8_matched 95 = .ok (.iload_n 2, 1) := by decide +kernel
theorem dX8_matched_96 : decode cX8_matched 96 = .ok (.iload 7, 2) := by decide +kernel
theorem dX8_matched_98 : decode cX8_matched 98 = .ok (.iload 9, 2) := by decide +kernel
theorem dX8_matched_100 : decode cX8_matched 100 = .ok (.invokevirtual 206, 3) := by decide +kernel
theorem dX8_matched_103 : decode cX8_matched 103 = .ok (.ifCond .eq 36, 3) := by decide +kernel
theorem dX8_matched_106 : decode cX8_matched 106 = .ok (.iload 8, 2) := by decide +kernel
theorem dX8_matched_108 : decode cX8_matched 108 = .ok (.aload_n 0, 1) := by decide +kernel
theorem dX8_matched_109 : decode cX8_matched 109 = .ok (.iload_n 1, 1) := by decide +kernel
theorem dX8_matched_110 : decode cX8_matched 110 = .ok (.iload_n 2, 1) := by decide +kernel
theorem dX8_matched_111 : decode cX8_matched 111 = .ok (.iload 7, 2) := by decide +kernel
theorem dX8_matched_113 : decode cX8_matched 113 = .ok (.iload 9, 2) := by decide +kernel
theorem dX8_matched_115 : decode cX8_matched 115 = .ok (.invokevirtual 210, 3) := by decide +kernel
theorem dX8_matched_118 : decode cX8_matched 118 = .ok (.iadd, 1) := by decide +kernel
theorem dX8_matched_119 : decode cX8_matched 119 = .ok (.aload_n 0, 1) := by decide +kernel
theorem dX8_matched_120 : decode cX8_matched 120 = .ok (.getfield 77, 3) := by decide +kernel
theorem dX8_matched_123 : decode cX8_matched 123 = .ok (.bipush 21, 2) := by decide +kernel
theorem dX8_matched_125 : decode cX8_matched 125 = .ok (.iload 7, 2) := by decide +kernel
theorem dX8_matched_127 : decode cX8_matched 127 = .ok (.imul, 1) := by decide +kernel
theorem dX8_matched_128 : decode cX8_matched 128 = .ok (.iload 5, 2) := by decide +kernel
theorem dX8_matched_130 : decode cX8_matched 130 = .ok (.iadd, 1) := by decide +kernel
theorem dX8_matched_131 : decode cX8_matched 131 = .ok (.iaload, 1) := by decide +kernel
theorem dX8_matched_132 : decode cX8_matched 132 = .ok (.if_icmp .ne 7, 3) := by decide +kernel
theorem dX8_matched_135 : decode cX8_matched 135 = .ok (.iload 9, 2) := by decide +kernel
theorem dX8_matched_137 : decode cX8_matched 137 = .ok (.istore 6, 2) := by decide +kernel
theorem dX8_matched_139 : decode cX8_matched 139 = .ok (.iload 8, 2) := by decide +kernel
theorem dX8_matched_141 : decode cX8_matched 141 = .ok (.aload_n 0, 1) := by decide +kernel
theorem dX8_matched_142 : decode cX8_matched 142 = .ok (.iconst 2, 1) := by decide +kernel
theorem dX8_matched_143 : decode cX8_matched 143 = .ok (.iload_n 2, 1) := by decide +kernel
theorem dX8_matched_144 : decode cX8_matched 144 = .ok (.imul, 1) := by decide +kernel
theorem dX8_matched_145 : decode cX8_matched 145 = .ok (.iload 9, 2) := by decide +kernel
theorem dX8_matched_147 : decode cX8_matched 147 = .ok (.invokevirtual 202, 3) := by decide +kernel
theorem dX8_matched_150 : decode cX8_matched 150 = .ok (.iadd, 1) := by decide +kernel
theorem dX8_matched_151 : decode cX8_matched 151 = .ok (.istore 8, 2) := by decide +kernel
theorem dX8_matched_153 : decode cX8_matched 153 = .ok (.iinc 9 1, 3) := by decide +kernel
theorem dX8_matched_156 : decode cX8_matched 156 = .ok (.goto (-76), 3) := by decide +kernel
theorem dX8_matched_159 : decode cX8_matched 159 = .ok (.iload 6, 2) := by decide +kernel
theorem dX8_matched_161 : decode cX8_matched 161 = .ok (.iconst (-1), 1) := by decide +kernel
theorem dX8_matched_162 : decode cX8_matched 162 = .ok (.if_icmp .ne 8, 3) := by decide +kernel
theorem dX8_matched_165 : decode cX8_matched 165 = .ok (.iload 5, 2) := by decide +kernel
theorem dX8_matched_167 : decode cX8_matched 167 = .ok (.goto 7, 3) := by decide +kernel
theorem dX8_matched_170 : decode cX8_matched 170 = .ok (.iload 6, 2) := by decide +kernel
theorem dX8_matched_172 : decode cX8_matched 172 = .ok (.iconst 1, 1) := by decide +kernel
theorem dX8_matched_173 : decode cX8_matched 173 = .ok (.iadd, 1) := by decide +kernel
theorem dX8_matched_174 : decode cX8_matched 174 = .ok (.istore 5, 2) := by decide +kernel
theorem dX8_matched_176 : decode cX8_matched 176 = .ok (.iinc 7 1, 3) := by decide +kernel
theorem dX8_matched_179 : decode cX8_matched 179 = .ok (.goto (-115), 3) := by decide +kernel
theorem dX8_matched_182 : decode cX8_matched 182 = .ok (.iload 6, 2) := by decide +kernel
theorem dX8_matched_184 : decode cX8_matched 184 = .ok (.ireturn, 1) := by decide +kernel
set_option maxRecDepth 20000 in
theorem ggX8_count_X8_isSound : GoodIn wsX8_count wsX8_isSound := goodIn_r _ [9, 10, 11, 12, 8, 13, 14, 15, 16, 17, 18, 19, 20, 21, 22, 23, 24, 25, 26, 27, 28, 29, 30, 31, 32, 33, 34, 35, 36, 37, 38, 39, 40, 41, 42, 43, 44, 45, 46, 47, 48, 49, 50, 51, 52, 53, 54, 55, 56, 57, 58, 59, 60, 61, 62, 63, 64, 65, 66, 67] (by decide +kernel) (by decide +kernel)
set_option maxRecDepth 20000 in
theorem gX8_count_X8_isSound : GoodIn wsX8_count (wsV RX8 183 RX8 yX8_isSound wsX8_isSound) := goodIn_app (goodIn_of _ (by decide +kernel)) ggX8_count_X8_isSound
theorem dX8_count_0 : decode cX8_count 0 = .ok (.iload_n 1, 1) := by decide +kernel
theorem dX8_count_1 : decode cX8_count 1 = .ok (.tableswitch 91 0 4 #[35, 40, 45, 50, 55], 35) := by decide +kernel
theorem dX8_count_36 : decode cX8_count 36 = .ok (.aload_n 0, 1) := by decide +kernel
theorem dX8_count_37 : decode cX8_count 37 = .ok (.getfield 80, 3) := by decide +kernel
theorem dX8_count_40 : decode cX8_count 40 = .ok (.ireturn, 1) := by decide +kernel
theorem dX8_count_41 : decode cX8_count 41 = .ok (.aload_n 0, 1) := by decide +kernel
theorem dX8_count_42 : decode cX8_count 42 = .ok (.getfield 88, 3) := by decide +kernel
theorem dX8_count_45 : decode cX8_count 45 = .ok (.ireturn, 1) := by decide +kernel
theorem dX8_count_46 : decode cX8_count 46 = .ok (.aload_n 0, 1) := by decide +kernel
theorem dX8_count_47 : decode cX8_count 47 = .ok (.getfield 133, 3) := by decide +kernel
theorem dX8_count_50 : decode cX8_count 50 = .ok (.ireturn, 1) := by decide +kernel
theorem dX8_count_51 : decode cX8_count 51 = .ok (.aload_n 0, 1) := by decide +kernel
theorem dX8_count_52 : decode cX8_count 52 = .ok (.getfield 142, 3) := by decide +kernel
theorem dX8_count_55 : decode cX8_count 55 = .ok (.ireturn, 1) := by decide +kernel
theorem dX8_count_56 : decode cX8_count 56 = .ok (.iconst 0, 1) := by decide +kernel
theorem dX8_count_57 : decode cX8_count 57 = .ok (.istore_n 2, 1) := by decide +kernel
theorem dX8_count_58 : decode cX8_count 58 = .ok (.iconst 0, 1) := by decide +kernel
theorem dX8_count_59 : decode cX8_count 59 = .ok (.istore_n 3, 1) := by decide +kernel
theorem dX8_count_60 : decode cX8_count 60 = .ok (.iload_n 3, 1) := by decide +kernel
theorem dX8_count_61 : decode cX8_count 61 = .ok (.aload_n 0, 1) := by decide +kernel
theorem dX8_count_62 : decode cX8_count 62 = .ok (.getfield 133, 3) := by decide +kernel
theorem dX8_count_65 : decode cX8_count 65 = .ok (.if_icmp .ge 25, 3) := by decide +kernel
theorem dX8_count_68 : decode cX8_count 68 = .ok (.iload_n 2, 1) := by decide +kernel
theorem dX8_count_69 : decode cX8_count 69 = .ok (.aload_n 0, 1) := by decide +kernel
theorem dX8_count_70 : decode cX8_count 70 = .ok (.iload_n 3, 1) := by decide +kernel
theorem dX8_count_71 : decode cX8_count 71 = .ok (.invokevirtual 183, 3) := by decide +kernel
theorem dX8_count_74 : decode cX8_count 74 = .ok (.ifCond .eq 7, 3) := by decide +kernel
theorem dX8_count_77 : decode cX8_count 77 = .ok (.iconst 1, 1) := by decide +kernel
theorem dX8_count_78 : decode cX8_count 78 = .ok (.goto 4, 3) := by decide +kernel
theorem dX8_count_81 : decode cX8_count 81 = .ok (.iconst 0, 1) := by decide +kernel
theorem dX8_count_82 : decode cX8_count 82 = .ok (.iadd, 1) := by decide +kernel
theorem dX8_count_83 : decode cX8_count 83 = .ok (.istore_n 2, 1) := by decide +kernel
theorem dX8_count_84 : decode cX8_count 84 = .ok (.iinc 3 1, 3) := by decide +kernel
theorem dX8_count_87 : decode cX8_count 87 = .ok (.goto (-27), 3) := by decide +kernel
theorem dX8_count_90 : decode cX8_count 90 = .ok (.iload_n 2, 1) := by decide +kernel
theorem dX8_count_91 : decode cX8_count 91 = .ok (.ireturn, 1) := by decide +kernel
theorem dX8_count_92 : decode cX8_count 92 = .ok (.bipush (-102), 2) := by decide +kernel
theorem dX8_count_94 : decode cX8_count 94 = .ok (.ireturn, 1) := by decide +kernel
set_option maxRecDepth 20000 in
theorem ggX8_digest_X8_aboutOf : GoodIn wsX8_digest wsX8_aboutOf := goodIn_r _ [25, 26, 27, 28, 29, 30, 31, 32, 33, 34, 35, 36, 37, 38, 39, 40, 41, 42, 43, 44, 45, 46, 47, 48, 49, 50, 51, 52, 53, 54, 55, 56, 57] (by decide +kernel) (by decide +kernel)
set_option maxRecDepth 20000 in
theorem gX8_digest_X8_aboutOf : GoodIn wsX8_digest (wsV RX8 190 RX8 yX8_aboutOf wsX8_aboutOf) := goodIn_app (goodIn_of _ (by decide +kernel)) ggX8_digest_X8_aboutOf
theorem dX8_digest_0 : decode cX8_digest 0 = .ok (.ldc2_w 216, 3) := by decide +kernel
theorem dX8_digest_3 : decode cX8_digest 3 = .ok (.lstore_n 1, 1) := by decide +kernel
theorem dX8_digest_4 : decode cX8_digest 4 = .ok (.iconst 0, 1) := by decide +kernel
theorem dX8_digest_5 : decode cX8_digest 5 = .ok (.istore_n 3, 1) := by decide +kernel
theorem dX8_digest_6 : decode cX8_digest 6 = .ok (.iload_n 3, 1) := by decide +kernel
theorem dX8_digest_7 : decode cX8_digest 7 = .ok (.aload_n 0, 1) := by decide +kernel
theorem dX8_digest_8 : decode cX8_digest 8 = .ok (.getfield 80, 3) := by decide +kernel
theorem dX8_digest_11 : decode cX8_digest 11 = .ok (.if_icmp .ge 193, 3) := by decide +kernel
theorem dX8_digest_14 : decode cX8_digest 14 = .ok (.iconst 0, 1) := by decide +kernel
theorem dX8_digest_15 : decode cX8_digest 15 = .ok (.istore 4, 2) := by decide +kernel
theorem dX8_digest_17 : decode cX8_digest 17 = .ok (.iload 4, 2) := by decide +kernel
theorem dX8_digest_19 : decode cX8_digest 19 = .ok (.aload_n 0, 1) := by decide +kernel
theorem dX8_digest_20 : decode cX8_digest 20 = .ok (.getfield 7, 3) := by decide +kernel
theorem dX8_digest_23 : decode cX8_digest 23 = .ok (.iload_n 3, 1) := by decide +kernel
theorem dX8_digest_24 : decode cX8_digest 24 = .ok (.iaload, 1) := by decide +kernel
theorem dX8_digest_25 : decode cX8_digest 25 = .ok (.if_icmp .ge 49, 3) := by decide +kernel
theorem dX8_digest_28 : decode cX8_digest 28 = .ok (.ldc2_w 218, 3) := by decide +kernel
theorem dX8_digest_31 : decode cX8_digest 31 = .ok (.lload_n 1, 1) := by decide +kernel
theorem dX8_digest_32 : decode cX8_digest 32 = .ok (.lmul, 1) := by decide +kernel
theorem dX8_digest_33 : decode cX8_digest 33 = .ok (.aload_n 0, 1) := by decide +kernel
theorem dX8_digest_34 : decode cX8_digest 34 = .ok (.getfield 13, 3) := by decide +kernel
theorem dX8_digest_37 : decode cX8_digest 37 = .ok (.bipush 20, 2) := by decide +kernel
theorem dX8_digest_39 : decode cX8_digest 39 = .ok (.iload_n 3, 1) := by decide +kernel
theorem dX8_digest_40 : decode cX8_digest 40 = .ok (.imul, 1) := by decide +kernel
theorem dX8_digest_41 : decode cX8_digest 41 = .ok (.iload 4, 2) := by decide +kernel
theorem dX8_digest_43 : decode cX8_digest 43 = .ok (.iadd, 1) := by decide +kernel
theorem dX8_digest_44 : decode cX8_digest 44 = .ok (.iaload, 1) := by decide +kernel
theorem dX8_digest_45 : decode cX8_digest 45 = .ok (.i2l, 1) := by decide +kernel
theorem dX8_digest_46 : decode cX8_digest 46 = .ok (.ladd, 1) := by decide +kernel
theorem dX8_digest_47 : decode cX8_digest 47 = .ok (.lstore_n 1, 1) := by decide +kernel
theorem dX8_digest_48 : decode cX8_digest 48 = .ok (.ldc2_w 218, 3) := by decide +kernel
theorem dX8_digest_51 : decode cX8_digest 51 = .ok (.lload_n 1, 1) := by decide +kernel
theorem dX8_digest_52 : decode cX8_digest 52 = .ok (.lmul, 1) := by decide +kernel
theorem dX8_digest_53 : decode cX8_digest 53 = .ok (.aload_n 0, 1) := by decide +kernel
theorem dX8_digest_54 : decode cX8_digest 54 = .ok (.getfield 16, 3) := by decide +kernel
theorem dX8_digest_57 : decode cX8_digest 57 = .ok (.bipush 20, 2) := by decide +kernel
theorem dX8_digest_59 : decode cX8_digest 59 = .ok (.iload_n 3, 1) := by decide +kernel
theorem dX8_digest_60 : decode cX8_digest 60 = .ok (.imul, 1) := by decide +kernel
theorem dX8_digest_61 : decode cX8_digest 61 = .ok (.iload 4, 2) := by decide +kernel
theorem dX8_digest_63 : decode cX8_digest 63 = .ok (.iadd, 1) := by decide +kernel
theorem dX8_digest_64 : decode cX8_digest 64 = .ok (.iaload, 1) := by decide +kernel
theorem dX8_digest_65 : decode cX8_digest 65 = .ok (.i2l, 1) := by decide +kernel
theorem dX8_digest_66 : decode cX8_digest 66 = .ok (.ladd, 1) := by decide +kernel
theorem dX8_digest_67 : decode cX8_digest 67 = .ok (.lstore_n 1, 1) := by decide +kernel
theorem dX8_digest_68 : decode cX8_digest 68 = .ok (.iinc 4 1, 3) := by decide +kernel
theorem dX8_digest_71 : decode cX8_digest 71 = .ok (.goto (-54), 3) := by decide +kernel
theorem dX8_digest_74 : decode cX8_digest 74 = .ok (.iconst 0, 1) := by decide +kernel
theorem dX8_digest_75 : decode cX8_digest 75 = .ok (.istore 4, 2) := by decide +kernel
theorem dX8_digest_77 : decode cX8_digest 77 = .ok (.iload 4, 2) := by decide +kernel
theorem dX8_digest_79 : decode cX8_digest 79 = .ok (.aload_n 0, 1) := by decide +kernel
theorem dX8_digest_80 : decode cX8_digest 80 = .ok (.getfield 19, 3) := by decide +kernel
theorem dX8_digest_83 : decode cX8_digest 83 = .ok (.iload_n 3, 1) := by decide +kernel
theorem dX8_digest_84 : decode cX8_digest 84 = .ok (.iaload, 1) := by decide +kernel
theorem dX8_digest_85 : decode cX8_digest 85 = .ok (.if_icmp .ge 29, 3) := by decide +kernel
theorem dX8_digest_88 : decode cX8_digest 88 = .ok (.ldc2_w 218, 3) := by decide +kernel
theorem dX8_digest_91 : decode cX8_digest 91 = .ok (.lload_n 1, 1) := by decide +kernel
theorem dX8_digest_92 : decode cX8_digest 92 = .ok (.lmul, 1) := by decide +kernel
theorem dX8_digest_93 : decode cX8_digest 93 = .ok (.aload_n 0, 1) := by decide +kernel
theorem dX8_digest_94 : decode cX8_digest 94 = .ok (.getfield 22, 3) := by decide +kernel
theorem dX8_digest_97 : decode cX8_digest 97 = .ok (.bipush 20, 2) := by decide +kernel
theorem dX8_digest_99 : decode cX8_digest 99 = .ok (.iload_n 3, 1) := by decide +kernel
theorem dX8_digest_100 : decode cX8_digest 100 = .ok (.imul, 1) := by decide +kernel
theorem dX8_digest_101 : decode cX8_digest 101 = .ok (.iload 4, 2) := by decide +kernel
theorem dX8_digest_103 : decode cX8_digest 103 = .ok (.iadd, 1) := by decide +kernel
theorem dX8_digest_104 : decode cX8_digest 104 = .ok (.iaload, 1) := by decide +kernel
theorem dX8_digest_105 : decode cX8_digest 105 = .ok (.i2l, 1) := by decide +kernel
theorem dX8_digest_106 : decode cX8_digest 106 = .ok (.ladd, 1) := by decide +kernel
theorem dX8_digest_107 : decode cX8_digest 107 = .ok (.lstore_n 1, 1) := by decide +kernel
theorem dX8_digest_108 : decode cX8_digest 108 = .ok (.iinc 4 1, 3) := by decide +kernel
theorem dX8_digest_111 : decode cX8_digest 111 = .ok (.goto (-34), 3) := by decide +kernel
theorem dX8_digest_114 : decode cX8_digest 114 = .ok (.iconst 2, 1) := by decide +kernel
theorem dX8_digest_115 : decode cX8_digest 115 = .ok (.iload_n 3, 1) := by decide +kernel
theorem dX8_digest_116 : decode cX8_digest 116 = .ok (.imul, 1) := by decide +kernel
theorem dX8_digest_117 : decode cX8_digest 117 = .ok (.istore 4, 2) := by decide +kernel
theorem dX8_digest_119 : decode cX8_digest 119 = .ok (.iload 4, 2) := by decide +kernel
theorem dX8_digest_121 : decode cX8_digest 121 = .ok (.iconst 2, 1) := by decide +kernel
theorem dX8_digest_122 : decode cX8_digest 122 = .ok (.iload_n 3, 1) := by decide +kernel
theorem dX8_digest_123 : decode cX8_digest 123 = .ok (.imul, 1) := by decide +kernel
theorem dX8_digest_124 : decode cX8_digest 124 = .ok (.iconst 2, 1) := by decide +kernel
theorem dX8_digest_125 : decode cX8_digest 125 = .ok (.iadd, 1) := by decide +kernel
theorem dX8_digest_126 : decode cX8_digest 126 = .ok (.if_icmp .ge 72, 3) := by decide +kernel
theorem dX8_digest_129 : decode cX8_digest 129 = .ok (.iconst 0, 1) := by decide +kernel
theorem dX8_digest_130 : decode cX8_digest 130 = .ok (.istore 5, 2) := by decide +kernel
theorem dX8_digest_132 : decode cX8_digest 132 = .ok (.iload 5, 2) := by decide +kernel
theorem dX8_digest_134 : decode cX8_digest 134 = .ok (.aload_n 0, 1) := by decide +kernel
theorem dX8_digest_135 : decode cX8_digest 135 = .ok (.getfield 32, 3) := by decide +kernel
theorem dX8_digest_138 : decode cX8_digest 138 = .ok (.iload 4, 2) := by decide +kernel
theorem dX8_digest_140 : decode cX8_digest 140 = .ok (.iaload, 1) := by decide +kernel
theorem dX8_digest_141 : decode cX8_digest 141 = .ok (.if_icmp .ge 51, 3) := by decide +kernel
theorem dX8_digest_144 : decode cX8_digest 144 = .ok (.ldc2_w 218, 3) := by decide +kernel
theorem dX8_digest_147 : decode cX8_digest 147 = .ok (.lload_n 1, 1) := by decide +kernel
theorem dX8_digest_148 : decode cX8_digest 148 = .ok (.lmul, 1) := by decide +kernel
theorem dX8_digest_149 : decode cX8_digest 149 = .ok (.aload_n 0, 1) := by decide +kernel
theorem dX8_digest_150 : decode cX8_digest 150 = .ok (.getfield 35, 3) := by decide +kernel
theorem dX8_digest_153 : decode cX8_digest 153 = .ok (.bipush 20, 2) := by decide +kernel
theorem dX8_digest_155 : decode cX8_digest 155 = .ok (.iload 4, 2) := by decide +kernel
theorem dX8_digest_157 : decode cX8_digest 157 = .ok (.imul, 1) := by decide +kernel
theorem dX8_digest_158 : decode cX8_digest 158 = .ok (.iload 5, 2) := by decide +kernel
theorem dX8_digest_160 : decode cX8_digest 160 = .ok (.iadd, 1) := by decide +kernel
theorem dX8_digest_161 : decode cX8_digest 161 = .ok (.iaload, 1) := by decide +kernel
theorem dX8_digest_162 : decode cX8_digest 162 = .ok (.i2l, 1) := by decide +kernel
theorem dX8_digest_163 : decode cX8_digest 163 = .ok (.ladd, 1) := by decide +kernel
theorem dX8_digest_164 : decode cX8_digest 164 = .ok (.lstore_n 1, 1) := by decide +kernel
theorem dX8_digest_165 : decode cX8_digest 165 = .ok (.ldc2_w 218, 3) := by decide +kernel
theorem dX8_digest_168 : decode cX8_digest 168 = .ok (.lload_n 1, 1) := by decide +kernel
theorem dX8_digest_169 : decode cX8_digest 169 = .ok (.lmul, 1) := by decide +kernel
theorem dX8_digest_170 : decode cX8_digest 170 = .ok (.aload_n 0, 1) := by decide +kernel
theorem dX8_digest_171 : decode cX8_digest 171 = .ok (.getfield 38, 3) := by decide +kernel
theorem dX8_digest_174 : decode cX8_digest 174 = .ok (.bipush 20, 2) := by decide +kernel
theorem dX8_digest_176 : decode cX8_digest 176 = .ok (.iload 4, 2) := by decide +kernel
theorem dX8_digest_178 : decode cX8_digest 178 = .ok (.imul, 1) := by decide +kernel
theorem dX8_digest_179 : decode cX8_digest 179 = .ok (.iload 5, 2) := by decide +kernel
theorem dX8_digest_181 : decode cX8_digest 181 = .ok (.iadd, 1) := by decide +kernel
theorem dX8_digest_182 : decode cX8_digest 182 = .ok (.iaload, 1) := by decide +kernel
theorem dX8_digest_183 : decode cX8_digest 183 = .ok (.i2l, 1) := by decide +kernel
theorem dX8_digest_184 : decode cX8_digest 184 = .ok (.ladd, 1) := by decide +kernel
theorem dX8_digest_185 : decode cX8_digest 185 = .ok (.lstore_n 1, 1) := by decide +kernel
theorem dX8_digest_186 : decode cX8_digest 186 = .ok (.iinc 5 1, 3) := by decide +kernel
theorem dX8_digest_189 : decode cX8_digest 189 = .ok (.goto (-57), 3) := by decide +kernel
theorem dX8_digest_192 : decode cX8_digest 192 = .ok (.iinc 4 1, 3) := by decide +kernel
theorem dX8_digest_195 : decode cX8_digest 195 = .ok (.goto (-76), 3) := by decide +kernel
theorem dX8_digest_198 : decode cX8_digest 198 = .ok (.iinc 3 1, 3) := by decide +kernel
theorem dX8_digest_201 : decode cX8_digest 201 = .ok (.goto (-195), 3) := by decide +kernel
theorem dX8_digest_204 : decode cX8_digest 204 = .ok (.iconst 0, 1) := by decide +kernel
theorem dX8_digest_205 : decode cX8_digest 205 = .ok (.istore_n 3, 1) := by decide +kernel
theorem dX8_digest_206 : decode cX8_digest 206 = .ok (.iload_n 3, 1) := by decide +kernel
theorem dX8_digest_207 : decode cX8_digest 207 = .ok (.bipush 10, 2) := by decide +kernel
theorem dX8_digest_209 : decode cX8_digest 209 = .ok (.if_icmp .ge 23, 3) := by decide +kernel
theorem dX8_digest_212 : decode cX8_digest 212 = .ok (.ldc2_w 218, 3) := by decide +kernel
theorem dX8_digest_215 : decode cX8_digest 215 = .ok (.lload_n 1, 1) := by decide +kernel
theorem dX8_digest_216 : decode cX8_digest 216 = .ok (.lmul, 1) := by decide +kernel
theorem dX8_digest_217 : decode cX8_digest 217 = .ok (.aload_n 0, 1) := by decide +kernel
theorem dX8_digest_218 : decode cX8_digest 218 = .ok (.getfield 41, 3) := by decide +kernel
theorem dX8_digest_221 : decode cX8_digest 221 = .ok (.iload_n 3, 1) := by decide +kernel
theorem dX8_digest_222 : decode cX8_digest 222 = .ok (.iaload, 1) := by decide +kernel
theorem dX8_digest_223 : decode cX8_digest 223 = .ok (.i2l, 1) := by decide +kernel
theorem dX8_digest_224 : decode cX8_digest 224 = .ok (.ladd, 1) := by decide +kernel
theorem dX8_digest_225 : decode cX8_digest 225 = .ok (.lstore_n 1, 1) := by decide +kernel
theorem dX8_digest_226 : decode cX8_digest 226 = .ok (.iinc 3 1, 3) := by decide +kernel
theorem dX8_digest_229 : decode cX8_digest 229 = .ok (.goto (-23), 3) := by decide +kernel
theorem dX8_digest_232 : decode cX8_digest 232 = .ok (.iconst 0, 1) := by decide +kernel
theorem dX8_digest_233 : decode cX8_digest 233 = .ok (.istore_n 3, 1) := by decide +kernel
theorem dX8_digest_234 : decode cX8_digest 234 = .ok (.iload_n 3, 1) := by decide +kernel
theorem dX8_digest_235 : decode cX8_digest 235 = .ok (.aload_n 0, 1) := by decide +kernel
theorem dX8_digest_236 : decode cX8_digest 236 = .ok (.getfield 88, 3) := by decide +kernel
theorem dX8_digest_239 : decode cX8_digest 239 = .ok (.if_icmp .ge 65, 3) := by decide +kernel
theorem dX8_digest_242 : decode cX8_digest 242 = .ok (.ldc2_w 218, 3) := by decide +kernel
theorem dX8_digest_245 : decode cX8_digest 245 = .ok (.lload_n 1, 1) := by decide +kernel
theorem dX8_digest_246 : decode cX8_digest 246 = .ok (.lmul, 1) := by decide +kernel
theorem dX8_digest_247 : decode cX8_digest 247 = .ok (.aload_n 0, 1) := by decide +kernel
theorem dX8_digest_248 : decode cX8_digest 248 = .ok (.getfield 44, 3) := by decide +kernel
theorem dX8_digest_251 : decode cX8_digest 251 = .ok (.iload_n 3, 1) := by decide +kernel
theorem dX8_digest_252 : decode cX8_digest 252 = .ok (.iaload, 1) := by decide +kernel
theorem dX8_digest_253 : decode cX8_digest 253 = .ok (.i2l, 1) := by decide +kernel
theorem dX8_digest_254 : decode cX8_digest 254 = .ok (.ladd, 1) := by decide +kernel
theorem dX8_digest_255 : decode cX8_digest 255 = .ok (.lstore_n 1, 1) := by decide +kernel
theorem dX8_digest_256 : decode cX8_digest 256 = .ok (.ldc2_w 218, 3) := by decide +kernel
theorem dX8_digest_259 : decode cX8_digest 259 = .ok (.lload_n 1, 1) := by decide +kernel
theorem dX8_digest_260 : decode cX8_digest 260 = .ok (.lmul, 1) := by decide +kernel
theorem dX8_digest_261 : decode cX8_digest 261 = .ok (.aload_n 0, 1) := by decide +kernel
theorem dX8_digest_262 : decode cX8_digest 262 = .ok (.getfield 47, 3) := by decide +kernel
theorem dX8_digest_265 : decode cX8_digest 265 = .ok (.iload_n 3, 1) := by decide +kernel
theorem dX8_digest_266 : decode cX8_digest 266 = .ok (.iaload, 1) := by decide +kernel
theorem dX8_digest_267 : decode cX8_digest 267 = .ok (.i2l, 1) := by decide +kernel
theorem dX8_digest_268 : decode cX8_digest 268 = .ok (.ladd, 1) := by decide +kernel
theorem dX8_digest_269 : decode cX8_digest 269 = .ok (.lstore_n 1, 1) := by decide +kernel
theorem dX8_digest_270 : decode cX8_digest 270 = .ok (.ldc2_w 218, 3) := by decide +kernel
theorem dX8_digest_273 : decode cX8_digest 273 = .ok (.lload_n 1, 1) := by decide +kernel
theorem dX8_digest_274 : decode cX8_digest 274 = .ok (.lmul, 1) := by decide +kernel
theorem dX8_digest_275 : decode cX8_digest 275 = .ok (.aload_n 0, 1) := by decide +kernel
theorem dX8_digest_276 : decode cX8_digest 276 = .ok (.getfield 50, 3) := by decide +kernel
theorem dX8_digest_279 : decode cX8_digest 279 = .ok (.iload_n 3, 1) := by decide +kernel
theorem dX8_digest_280 : decode cX8_digest 280 = .ok (.iaload, 1) := by decide +kernel
theorem dX8_digest_281 : decode cX8_digest 281 = .ok (.i2l, 1) := by decide +kernel
theorem dX8_digest_282 : decode cX8_digest 282 = .ok (.ladd, 1) := by decide +kernel
theorem dX8_digest_283 : decode cX8_digest 283 = .ok (.lstore_n 1, 1) := by decide +kernel
theorem dX8_digest_284 : decode cX8_digest 284 = .ok (.ldc2_w 218, 3) := by decide +kernel
theorem dX8_digest_287 : decode cX8_digest 287 = .ok (.lload_n 1, 1) := by decide +kernel
theorem dX8_digest_288 : decode cX8_digest 288 = .ok (.lmul, 1) := by decide +kernel
theorem dX8_digest_289 : decode cX8_digest 289 = .ok (.aload_n 0, 1) := by decide +kernel
theorem dX8_digest_290 : decode cX8_digest 290 = .ok (.getfield 53, 3) := by decide +kernel
theorem dX8_digest_293 : decode cX8_digest 293 = .ok (.iload_n 3, 1) := by decide +kernel
theorem dX8_digest_294 : decode cX8_digest 294 = .ok (.iaload, 1) := by decide +kernel
theorem dX8_digest_295 : decode cX8_digest 295 = .ok (.i2l, 1) := by decide +kernel
theorem dX8_digest_296 : decode cX8_digest 296 = .ok (.ladd, 1) := by decide +kernel
theorem dX8_digest_297 : decode cX8_digest 297 = .ok (.lstore_n 1, 1) := by decide +kernel
theorem dX8_digest_298 : decode cX8_digest 298 = .ok (.iinc 3 1, 3) := by decide +kernel
theorem dX8_digest_301 : decode cX8_digest 301 = .ok (.goto (-67), 3) := by decide +kernel
theorem dX8_digest_304 : decode cX8_digest 304 = .ok (.iconst 0, 1) := by decide +kernel
theorem dX8_digest_305 : decode cX8_digest 305 = .ok (.istore_n 3, 1) := by decide +kernel
theorem dX8_digest_306 : decode cX8_digest 306 = .ok (.iload_n 3, 1) := by decide +kernel
theorem dX8_digest_307 : decode cX8_digest 307 = .ok (.aload_n 0, 1) := by decide +kernel
theorem dX8_digest_308 : decode cX8_digest 308 = .ok (.getfield 133, 3) := by decide +kernel
theorem dX8_digest_311 : decode cX8_digest 311 = .ok (.if_icmp .ge 65, 3) := by decide +kernel
theorem dX8_digest_314 : decode cX8_digest 314 = .ok (.iconst 0, 1) := by decide +kernel
theorem dX8_digest_315 : decode cX8_digest 315 = .ok (.istore 4, 2) := by decide +kernel
theorem dX8_digest_317 : decode cX8_digest 317 = .ok (.iload 4, 2) := by decide +kernel
theorem dX8_digest_319 : decode cX8_digest 319 = .ok (.aload_n 0, 1) := by decide +kernel
theorem dX8_digest_320 : decode cX8_digest 320 = .ok (.getfield 56, 3) := by decide +kernel
theorem dX8_digest_323 : decode cX8_digest 323 = .ok (.iload_n 3, 1) := by decide +kernel
theorem dX8_digest_324 : decode cX8_digest 324 = .ok (.iaload, 1) := by decide +kernel
theorem dX8_digest_325 : decode cX8_digest 325 = .ok (.if_icmp .ge 45, 3) := by decide +kernel
theorem dX8_digest_328 : decode cX8_digest 328 = .ok (.iconst 0, 1) := by decide +kernel
theorem dX8_digest_329 : decode cX8_digest 329 = .ok (.istore 5, 2) := by decide +kernel
theorem dX8_digest_331 : decode cX8_digest 331 = .ok (.iload 5, 2) := by decide +kernel
theorem dX8_digest_333 : decode cX8_digest 333 = .ok (.iconst 5, 1) := by decide +kernel
theorem dX8_digest_334 : decode cX8_digest 334 = .ok (.if_icmp .ge 30, 3) := by decide +kernel
theorem dX8_digest_337 : decode cX8_digest 337 = .ok (.ldc2_w 218, 3) := by decide +kernel
theorem dX8_digest_340 : decode cX8_digest 340 = .ok (.lload_n 1, 1) := by decide +kernel
theorem dX8_digest_341 : decode cX8_digest 341 = .ok (.lmul, 1) := by decide +kernel
theorem dX8_digest_342 : decode cX8_digest 342 = .ok (.aload_n 0, 1) := by decide +kernel
theorem dX8_digest_343 : decode cX8_digest 343 = .ok (.bipush 16, 2) := by decide +kernel
theorem dX8_digest_345 : decode cX8_digest 345 = .ok (.iload_n 3, 1) := by decide +kernel
theorem dX8_digest_346 : decode cX8_digest 346 = .ok (.imul, 1) := by decide +kernel
theorem dX8_digest_347 : decode cX8_digest 347 = .ok (.iload 4, 2) := by decide +kernel
theorem dX8_digest_349 : decode cX8_digest 349 = .ok (.iadd, 1) := by decide +kernel
theorem dX8_digest_350 : decode cX8_digest 350 = .ok (.iload 5, 2) := by decide +kernel
theorem dX8_digest_352 : decode cX8_digest 352 = .ok (.invokevirtual 190, 3) := by decide +kernel
theorem dX8_digest_355 : decode cX8_digest 355 = .ok (.i2l, 1) := by decide +kernel
theorem dX8_digest_356 : decode cX8_digest 356 = .ok (.ladd, 1) := by decide +kernel
theorem dX8_digest_357 : decode cX8_digest 357 = .ok (.lstore_n 1, 1) := by decide +kernel
theorem dX8_digest_358 : decode cX8_digest 358 = .ok (.iinc 5 1, 3) := by decide +kernel
theorem dX8_digest_361 : decode cX8_digest 361 = .ok (.goto (-30), 3) := by decide +kernel
theorem dX8_digest_364 : decode cX8_digest 364 = .ok (.iinc 4 1, 3) := by decide +kernel
theorem dX8_digest_367 : decode cX8_digest 367 = .ok (.goto (-50), 3) := by decide +kernel
theorem dX8_digest_370 : decode cX8_digest 370 = .ok (.iinc 3 1, 3) := by decide +kernel
theorem dX8_digest_373 : decode cX8_digest 373 = .ok (.goto (-67), 3) := by decide +kernel
theorem dX8_digest_376 : decode cX8_digest 376 = .ok (.ldc2_w 218, 3) := by decide +kernel
theorem dX8_digest_379 : decode cX8_digest 379 = .ok (.lload_n 1, 1) := by decide +kernel
theorem dX8_digest_380 : decode cX8_digest 380 = .ok (.lmul, 1) := by decide +kernel
theorem dX8_digest_381 : decode cX8_digest 381 = .ok (.aload_n 0, 1) := by decide +kernel
theorem dX8_digest_382 : decode cX8_digest 382 = .ok (.getfield 74, 3) := by decide +kernel
theorem dX8_digest_385 : decode cX8_digest 385 = .ok (.iconst 0, 1) := by decide +kernel
theorem dX8_digest_386 : decode cX8_digest 386 = .ok (.iaload, 1) := by decide +kernel
theorem dX8_digest_387 : decode cX8_digest 387 = .ok (.i2l, 1) := by decide +kernel
theorem dX8_digest_388 : decode cX8_digest 388 = .ok (.ladd, 1) := by decide +kernel
theorem dX8_digest_389 : decode cX8_digest 389 = .ok (.lstore_n 1, 1) := by decide +kernel
theorem dX8_digest_390 : decode cX8_digest 390 = .ok (.ldc2_w 218, 3) := by decide +kernel
theorem dX8_digest_393 : decode cX8_digest 393 = .ok (.lload_n 1, 1) := by decide +kernel
theorem dX8_digest_394 : decode cX8_digest 394 = .ok (.lmul, 1) := by decide +kernel
theorem dX8_digest_395 : decode cX8_digest 395 = .ok (.aload_n 0, 1) := by decide +kernel
theorem dX8_digest_396 : decode cX8_digest 396 = .ok (.getfield 74, 3) := by decide +kernel
theorem dX8_digest_399 : decode cX8_digest 399 = .ok (.iconst 1, 1) := by decide +kernel
theorem dX8_digest_400 : decode cX8_digest 400 = .ok (.iaload, 1) := by decide +kernel
theorem dX8_digest_401 : decode cX8_digest 401 = .ok (.i2l, 1) := by decide +kernel
theorem dX8_digest_402 : decode cX8_digest 402 = .ok (.ladd, 1) := by decide +kernel
theorem dX8_digest_403 : decode cX8_digest 403 = .ok (.lreturn, 1) := by decide +kernel
theorem dJ9_abs_0f7a4_0 : decode cJ9_abs_0f7a4 0 = .ok (.iload_n 0, 1) := by decide +kernel
theorem dJ9_abs_0f7a4_1 : decode cJ9_abs_0f7a4 1 = .ok (.ifCond .ge 8, 3) := by decide +kernel
theorem dJ9_abs_0f7a4_4 : decode cJ9_abs_0f7a4 4 = .ok (.iload_n 0, 1) := by decide +kernel
theorem dJ9_abs_0f7a4_5 : decode cJ9_abs_0f7a4 5 = .ok (.ineg, 1) := by decide +kernel
theorem dJ9_abs_0f7a4_6 : decode cJ9_abs_0f7a4 6 = .ok (.goto 4, 3) := by decide +kernel
theorem dJ9_abs_0f7a4_9 : decode cJ9_abs_0f7a4 9 = .ok (.iload_n 0, 1) := by decide +kernel
theorem dJ9_abs_0f7a4_10 : decode cJ9_abs_0f7a4 10 = .ok (.ireturn, 1) := by decide +kernel
theorem dJ9_max_7cf53_0 : decode cJ9_max_7cf53 0 = .ok (.iload_n 0, 1) := by decide +kernel
theorem dJ9_max_7cf53_1 : decode cJ9_max_7cf53 1 = .ok (.iload_n 1, 1) := by decide +kernel
theorem dJ9_max_7cf53_2 : decode cJ9_max_7cf53 2 = .ok (.if_icmp .lt 7, 3) := by decide +kernel
theorem dJ9_max_7cf53_5 : decode cJ9_max_7cf53 5 = .ok (.iload_n 0, 1) := by decide +kernel
theorem dJ9_max_7cf53_6 : decode cJ9_max_7cf53 6 = .ok (.goto 4, 3) := by decide +kernel
theorem dJ9_max_7cf53_9 : decode cJ9_max_7cf53 9 = .ok (.iload_n 1, 1) := by decide +kernel
theorem dJ9_max_7cf53_10 : decode cJ9_max_7cf53 10 = .ok (.ireturn, 1) := by decide +kernel
theorem dJ9_min_7cf53_0 : decode cJ9_min_7cf53 0 = .ok (.iload_n 0, 1) := by decide +kernel
theorem dJ9_min_7cf53_1 : decode cJ9_min_7cf53 1 = .ok (.iload_n 1, 1) := by decide +kernel
theorem dJ9_min_7cf53_2 : decode cJ9_min_7cf53 2 = .ok (.if_icmp .gt 7, 3) := by decide +kernel
theorem dJ9_min_7cf53_5 : decode cJ9_min_7cf53 5 = .ok (.iload_n 0, 1) := by decide +kernel
theorem dJ9_min_7cf53_6 : decode cJ9_min_7cf53 6 = .ok (.goto 4, 3) := by decide +kernel
theorem dJ9_min_7cf53_9 : decode cJ9_min_7cf53 9 = .ok (.iload_n 1, 1) := by decide +kernel
theorem dJ9_min_7cf53_10 : decode cJ9_min_7cf53 10 = .ok (.ireturn, 1) := by decide +kernel
abbrev vwCl : List vw_C := [(RX0, TX0, 2), (RX1, TX1, 8), (RX2, TX2, 3), (RX3, TX3, 1), (RX4, TX4, 2), (RX5, TX5, 5), (RX6, TX6, 4), (RX7, TX7, 11), (RX8, TX8, 27)]
