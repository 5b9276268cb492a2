set_option maxRecDepth 20000 in
theorem ggX2_valueIn_X2_isCapital : GoodIn wsX2_valueIn wsX2_isCapital := goodIn_r _ [87] (by decide +kernel) (by decide +kernel)
set_option maxRecDepth 20000 in
theorem gX2_valueIn_X2_isCapital : GoodIn wsX2_valueIn (va_wsS RX2 51 yX2_isCapital wsX2_isCapital) := goodIn_app (goodIn_of _ (by decide +kernel)) ggX2_valueIn_X2_isCapital
set_option maxRecDepth 20000 in
theorem ggX2_valueIn_X2_numberOf : GoodIn wsX2_valueIn wsX2_numberOf := goodIn_r _ [90, 85, 86, 6, 87] (by decide +kernel) (by decide +kernel)
set_option maxRecDepth 20000 in
theorem gX2_valueIn_X2_numberOf : GoodIn wsX2_valueIn (va_wsS RX2 36 yX2_numberOf wsX2_numberOf) := goodIn_app (goodIn_of _ (by decide +kernel)) ggX2_valueIn_X2_numberOf
set_option maxRecDepth 20000 in
theorem ggX2_valueIn_X0_opposite : GoodIn wsX2_valueIn wsX0_opposite := goodIn_r _ [94, 22, 23, 26, 27, 28, 11, 29, 13, 80, 81, 82, 83, 98, 99, 100, 101, 102, 103] (by decide +kernel) (by decide +kernel)
set_option maxRecDepth 20000 in
theorem gX2_valueIn_X0_opposite : GoodIn wsX2_valueIn (wsV RX2 54 RX0 yX0_opposite wsX0_opposite) := goodIn_app (goodIn_of _ (by decide +kernel)) ggX2_valueIn_X0_opposite
theorem dX2_valueIn_0 : decode cX2_valueIn 0 = .ok (.iconst 0, 1) := by decide +kernel
theorem dX2_valueIn_1 : decode cX2_valueIn 1 = .ok (.istore_n 2, 1) := by decide +kernel
theorem dX2_valueIn_2 : decode cX2_valueIn 2 = .ok (.iconst 0, 1) := by decide +kernel
theorem dX2_valueIn_3 : decode cX2_valueIn 3 = .ok (.istore_n 3, 1) := by decide +kernel
theorem dX2_valueIn_4 : decode cX2_valueIn 4 = .ok (.aload_n 0, 1) := by decide +kernel
theorem dX2_valueIn_5 : decode cX2_valueIn 5 = .ok (.getfield 15, 3) := by decide +kernel
theorem dX2_valueIn_8 : decode cX2_valueIn 8 = .ok (.iconst 0, 1) := by decide +kernel
theorem dX2_valueIn_9 : decode cX2_valueIn 9 = .ok (.iconst 0, 1) := by decide +kernel
theorem dX2_valueIn_10 : decode cX2_valueIn 10 = .ok (.iastore, 1) := by decide +kernel
theorem dX2_valueIn_11 : decode cX2_valueIn 11 = .ok (.iconst 0, 1) := by decide +kernel
theorem dX2_valueIn_12 : decode cX2_valueIn 12 = .ok (.istore 4, 2) := by decide +kernel
theorem dX2_valueIn_14 : decode cX2_valueIn 14 = .ok (.iload 4, 2) := by decide +kernel
theorem dX2_valueIn_16 : decode cX2_valueIn 16 = .ok (.aload_n 0, 1) := by decide +kernel
theorem dX2_valueIn_17 : decode cX2_valueIn 17 = .ok (.getfield 18, 3) := by decide +kernel
theorem dX2_valueIn_20 : decode cX2_valueIn 20 = .ok (.if_icmp .ge 134, 3) := by decide +kernel
theorem dX2_valueIn_23 : decode cX2_valueIn 23 = .ok (.aload_n 0, 1) := by decide +kernel
theorem dX2_valueIn_24 : decode cX2_valueIn 24 = .ok (.getfield 9, 3) := by decide +kernel
theorem dX2_valueIn_27 : decode cX2_valueIn 27 = .ok (.iload 4, 2) := by decide +kernel
theorem dX2_valueIn_29 : decode cX2_valueIn 29 = .ok (.iaload, 1) := by decide +kernel
theorem dX2_valueIn_30 : decode cX2_valueIn 30 = .ok (.istore 5, 2) := by decide +kernel
theorem dX2_valueIn_32 : decode cX2_valueIn 32 = .ok (.iload 5, 2) := by decide +kernel
theorem dX2_valueIn_34 : decode cX2_valueIn 34 = .ok (.invokestatic 30, 3) := by decide +kernel
theorem dX2_valueIn_37 : decode cX2_valueIn 37 = .ok (.ifCond .eq 17, 3) := by decide +kernel
theorem dX2_valueIn_40 : decode cX2_valueIn 40 = .ok (.aload_n 1, 1) := by decide +kernel
theorem dX2_valueIn_41 : decode cX2_valueIn 41 = .ok (.iload_n 3, 1) := by decide +kernel
theorem dX2_valueIn_42 : decode cX2_valueIn 42 = .ok (.iload 5, 2) := by decide +kernel
theorem dX2_valueIn_44 : decode cX2_valueIn 44 = .ok (.bipush 48, 2) := by decide +kernel
theorem dX2_valueIn_46 : decode cX2_valueIn 46 = .ok (.isub, 1) := by decide +kernel
theorem dX2_valueIn_47 : decode cX2_valueIn 47 = .ok (.invokevirtual 45, 3) := by decide +kernel
theorem dX2_valueIn_50 : decode cX2_valueIn 50 = .ok (.istore_n 3, 1) := by decide +kernel
theorem dX2_valueIn_51 : decode cX2_valueIn 51 = .ok (.goto 97, 3) := by decide +kernel
theorem dX2_valueIn_54 : decode cX2_valueIn 54 = .ok (.aload_n 0, 1) := by decide +kernel
theorem dX2_valueIn_55 : decode cX2_valueIn 55 = .ok (.getfield 15, 3) := by decide +kernel
theorem dX2_valueIn_58 : decode cX2_valueIn 58 = .ok (.iload_n 2, 1) := by decide +kernel
theorem dX2_valueIn_59 : decode cX2_valueIn 59 = .ok (.aload_n 1, 1) := by decide +kernel
theorem dX2_valueIn_60 : decode cX2_valueIn 60 = .ok (.aload_n 0, 1) := by decide +kernel
theorem dX2_valueIn_61 : decode cX2_valueIn 61 = .ok (.getfield 15, 3) := by decide +kernel
theorem dX2_valueIn_64 : decode cX2_valueIn 64 = .ok (.iload_n 2, 1) := by decide +kernel
theorem dX2_valueIn_65 : decode cX2_valueIn 65 = .ok (.iaload, 1) := by decide +kernel
theorem dX2_valueIn_66 : decode cX2_valueIn 66 = .ok (.iload_n 3, 1) := by decide +kernel
theorem dX2_valueIn_67 : decode cX2_valueIn 67 = .ok (.invokevirtual 48, 3) := by decide +kernel
theorem dX2_valueIn_70 : decode cX2_valueIn 70 = .ok (.iastore, 1) := by decide +kernel
theorem dX2_valueIn_71 : decode cX2_valueIn 71 = .ok (.iload 5, 2) := by decide +kernel
theorem dX2_valueIn_73 : decode cX2_valueIn 73 = .ok (.bipush 40, 2) := by decide +kernel
theorem dX2_valueIn_75 : decode cX2_valueIn 75 = .ok (.if_icmp .ne 23, 3) := by decide +kernel
theorem dX2_valueIn_78 : decode cX2_valueIn 78 = .ok (.iload_n 2, 1) := by decide +kernel
theorem dX2_valueIn_79 : decode cX2_valueIn 79 = .ok (.iconst 4, 1) := by decide +kernel
theorem dX2_valueIn_80 : decode cX2_valueIn 80 = .ok (.if_icmp .ge 18, 3) := by decide +kernel
theorem dX2_valueIn_83 : decode cX2_valueIn 83 = .ok (.iinc 2 1, 3) := by decide +kernel
theorem dX2_valueIn_86 : decode cX2_valueIn 86 = .ok (.aload_n 0, 1) := by decide +kernel
theorem dX2_valueIn_87 : decode cX2_valueIn 87 = .ok (.getfield 15, 3) := by decide +kernel
theorem dX2_valueIn_90 : decode cX2_valueIn 90 = .ok (.iload_n 2, 1) := by decide +kernel
theorem dX2_valueIn_91 : decode cX2_valueIn 91 = .ok (.iconst 0, 1) := by decide +kernel
theorem dX2_valueIn_92 : decode cX2_valueIn 92 = .ok (.iastore, 1) := by decide +kernel
theorem dX2_valueIn_93 : decode cX2_valueIn 93 = .ok (.iconst 0, 1) := by decide +kernel
theorem dX2_valueIn_94 : decode cX2_valueIn 94 = .ok (.istore_n 3, 1) := by decide +kernel
theorem dX2_valueIn_95 : decode cX2_valueIn 95 = .ok (.goto 53, 3) := by decide +kernel
theorem dX2_valueIn_98 : decode cX2_valueIn 98 = .ok (.iload 5, 2) := by decide +kernel
theorem dX2_valueIn_100 : decode cX2_valueIn 100 = .ok (.bipush 41, 2) := by decide +kernel
theorem dX2_valueIn_102 : decode cX2_valueIn 102 = .ok (.if_icmp .ne 20, 3) := by decide +kernel
theorem dX2_valueIn_105 : decode cX2_valueIn 105 = .ok (.iload_n 2, 1) := by decide +kernel
theorem dX2_valueIn_106 : decode cX2_valueIn 106 = .ok (.ifCond .le 16, 3) := by decide +kernel
theorem dX2_valueIn_109 : decode cX2_valueIn 109 = .ok (.aload_n 0, 1) := by decide +kernel
theorem dX2_valueIn_110 : decode cX2_valueIn 110 = .ok (.getfield 15, 3) := by decide +kernel
theorem dX2_valueIn_113 : decode cX2_valueIn 113 = .ok (.iload_n 2, 1) := by decide +kernel
theorem dX2_valueIn_114 : decode cX2_valueIn 114 = .ok (.iaload, 1) := by decide +kernel
theorem dX2_valueIn_115 : decode cX2_valueIn 115 = .ok (.istore_n 3, 1) := by decide +kernel
theorem dX2_valueIn_116 : decode cX2_valueIn 116 = .ok (.iinc 2 (-1), 3) := by decide +kernel
theorem dX2_valueIn_119 : decode cX2_valueIn 119 = .ok (.goto 29, 3) := by decide +kernel
theorem dX2_valueIn_122 : decode cX2_valueIn 122 = .ok (.iload 5, 2) := by decide +kernel
theorem dX2_valueIn_124 : decode cX2_valueIn 124 = .ok (.invokestatic 51, 3) := by decide +kernel
theorem dX2_valueIn_127 : decode cX2_valueIn 127 = .ok (.ifCond .eq 11, 3) := by decide +kernel
theorem dX2_valueIn_130 : decode cX2_valueIn 130 = .ok (.iload 5, 2) := by decide +kernel
theorem dX2_valueIn_132 : decode cX2_valueIn 132 = .ok (.invokestatic 36, 3) := by decide +kernel
theorem dX2_valueIn_135 : decode cX2_valueIn 135 = .ok (.goto 12, 3) := by decide +kernel
theorem dX2_valueIn_138 : decode cX2_valueIn 138 = .ok (.aload_n 1, 1) := by decide +kernel
theorem dX2_valueIn_139 : decode cX2_valueIn 139 = .ok (.iload 5, 2) := by decide +kernel
theorem dX2_valueIn_141 : decode cX2_valueIn 141 = .ok (.invokestatic 36, 3) := by decide +kernel
theorem dX2_valueIn_144 : decode cX2_valueIn 144 = .ok (.invokevirtual 54, 3) := by decide +kernel
theorem dX2_valueIn_147 : decode cX2_valueIn 147 = .ok (.istore_n 3, 1) := by decide +kernel
theorem dX2_valueIn_148 : decode cX2_valueIn 148 = .ok (.iinc 4 1, 3) := by decide +kernel
theorem dX2_valueIn_151 : decode cX2_valueIn 151 = .ok (.goto (-137), 3) := by decide +kernel
theorem dX2_valueIn_154 : decode cX2_valueIn 154 = .ok (.aload_n 1, 1) := by decide +kernel
theorem dX2_valueIn_155 : decode cX2_valueIn 155 = .ok (.aload_n 0, 1) := by decide +kernel
theorem dX2_valueIn_156 : decode cX2_valueIn 156 = .ok (.getfield 15, 3) := by decide +kernel
theorem dX2_valueIn_159 : decode cX2_valueIn 159 = .ok (.iconst 0, 1) := by decide +kernel
theorem dX2_valueIn_160 : decode cX2_valueIn 160 = .ok (.iaload, 1) := by decide +kernel
theorem dX2_valueIn_161 : decode cX2_valueIn 161 = .ok (.iload_n 3, 1) := by decide +kernel
theorem dX2_valueIn_162 : decode cX2_valueIn 162 = .ok (.invokevirtual 48, 3) := by decide +kernel
theorem dX2_valueIn_165 : decode cX2_valueIn 165 = .ok (.ireturn, 1) := by decide +kernel
theorem dX2_byteOf_0 : decode cX2_byteOf 0 = .ok (.iload_n 0, 1) := by decide +kernel
theorem dX2_byteOf_1 : decode cX2_byteOf 1 = .ok (.bipush 8, 2) := by decide +kernel
theorem dX2_byteOf_3 : decode cX2_byteOf 3 = .ok (.iload_n 1, 1) := by decide +kernel
theorem dX2_byteOf_4 : decode cX2_byteOf 4 = .ok (.imul, 1) := by decide +kernel
theorem dX2_byteOf_5 : decode cX2_byteOf 5 = .ok (.iushr, 1) := by decide +kernel
theorem dX2_byteOf_6 : decode cX2_byteOf 6 = .ok (.sipush 255, 3) := by decide +kernel
theorem dX2_byteOf_9 : decode cX2_byteOf 9 = .ok (.iand, 1) := by decide +kernel
theorem dX2_byteOf_10 : decode cX2_byteOf 10 = .ok (.ireturn, 1) := by decide +kernel
set_option maxRecDepth 20000 in
theorem ggX2_isAllowed_X2_isLetter : GoodIn wsX2_isAllowed wsX2_isLetter := goodIn_r _ [4, 5, 6, 3, 7] (by decide +kernel) (by decide +kernel)
set_option maxRecDepth 20000 in
theorem gX2_isAllowed_X2_isLetter : GoodIn wsX2_isAllowed (va_wsS RX2 33 yX2_isLetter wsX2_isLetter) := goodIn_app (goodIn_of _ (by decide +kernel)) ggX2_isAllowed_X2_isLetter
set_option maxRecDepth 20000 in
theorem ggX2_isAllowed_X2_isPower : GoodIn wsX2_isAllowed wsX2_isPower := goodIn_r _ [10] (by decide +kernel) (by decide +kernel)
set_option maxRecDepth 20000 in
theorem gX2_isAllowed_X2_isPower : GoodIn wsX2_isAllowed (va_wsS RX2 30 yX2_isPower wsX2_isPower) := goodIn_app (goodIn_of _ (by decide +kernel)) ggX2_isAllowed_X2_isPower
theorem dX2_isAllowed_0 : decode cX2_isAllowed 0 = .ok (.iload_n 0, 1) := by decide +kernel
theorem dX2_isAllowed_1 : decode cX2_isAllowed 1 = .ok (.invokestatic 33, 3) := by decide +kernel
theorem dX2_isAllowed_4 : decode cX2_isAllowed 4 = .ok (.ifCond .ne 22, 3) := by decide +kernel
theorem dX2_isAllowed_7 : decode cX2_isAllowed 7 = .ok (.iload_n 0, 1) := by decide +kernel
theorem dX2_isAllowed_8 : decode cX2_isAllowed 8 = .ok (.invokestatic 30, 3) := by decide +kernel
theorem dX2_isAllowed_11 : decode cX2_isAllowed 11 = .ok (.ifCond .ne 15, 3) := by decide +kernel
theorem dX2_isAllowed_14 : decode cX2_isAllowed 14 = .ok (.iload_n 0, 1) := by decide +kernel
theorem dX2_isAllowed_15 : decode cX2_isAllowed 15 = .ok (.bipush 40, 2) := by decide +kernel
theorem dX2_isAllowed_17 : decode cX2_isAllowed 17 = .ok (.if_icmp .eq 9, 3) := by decide +kernel
theorem dX2_isAllowed_20 : decode cX2_isAllowed 20 = .ok (.iload_n 0, 1) := by decide +kernel
theorem dX2_isAllowed_21 : decode cX2_isAllowed 21 = .ok (.bipush 41, 2) := by decide +kernel
theorem dX2_isAllowed_23 : decode cX2_isAllowed 23 = .ok (.if_icmp .ne 7, 3) := by decide +kernel
theorem dX2_isAllowed_26 : decode cX2_isAllowed 26 = .ok (.iconst 1, 1) := by decide +kernel
theorem dX2_isAllowed_27 : decode cX2_isAllowed 27 = .ok (.goto 4, 3) := by decide +kernel
theorem dX2_isAllowed_30 : decode cX2_isAllowed 30 = .ok (.iconst 0, 1) := by decide +kernel
theorem dX2_isAllowed_31 : decode cX2_isAllowed 31 = .ok (.ireturn, 1) := by decide +kernel
set_option maxRecDepth 20000 in
theorem ggX2_isLetter_X2_isCapital : GoodIn wsX2_isLetter wsX2_isCapital := goodIn_r _ [4] (by decide +kernel) (by decide +kernel)
set_option maxRecDepth 20000 in
theorem gX2_isLetter_X2_isCapital : GoodIn wsX2_isLetter (va_wsS RX2 51 yX2_isCapital wsX2_isCapital) := goodIn_app (goodIn_of _ (by decide +kernel)) ggX2_isLetter_X2_isCapital
theorem dX2_isLetter_0 : decode cX2_isLetter 0 = .ok (.iload_n 0, 1) := by decide +kernel
theorem dX2_isLetter_1 : decode cX2_isLetter 1 = .ok (.invokestatic 51, 3) := by decide +kernel
theorem dX2_isLetter_4 : decode cX2_isLetter 4 = .ok (.ifCond .ne 15, 3) := by decide +kernel
theorem dX2_isLetter_7 : decode cX2_isLetter 7 = .ok (.iload_n 0, 1) := by decide +kernel
theorem dX2_isLetter_8 : decode cX2_isLetter 8 = .ok (.bipush 97, 2) := by decide +kernel
theorem dX2_isLetter_10 : decode cX2_isLetter 10 = .ok (.if_icmp .lt 13, 3) := by decide +kernel
theorem dX2_isLetter_13 : decode cX2_isLetter 13 = .ok (.iload_n 0, 1) := by decide +kernel
theorem dX2_isLetter_14 : decode cX2_isLetter 14 = .ok (.bipush 122, 2) := by decide +kernel
theorem dX2_isLetter_16 : decode cX2_isLetter 16 = .ok (.if_icmp .gt 7, 3) := by decide +kernel
theorem dX2_isLetter_19 : decode cX2_isLetter 19 = .ok (.iconst 1, 1) := by decide +kernel
theorem dX2_isLetter_20 : decode cX2_isLetter 20 = .ok (.goto 4, 3) := by decide +kernel
theorem dX2_isLetter_23 : decode cX2_isLetter 23 = .ok (.iconst 0, 1) := by decide +kernel
theorem dX2_isLetter_24 : decode cX2_isLetter 24 = .ok (.ireturn, 1) := by decide +kernel
theorem dX2_isCapital_0 : decode cX2_isCapital 0 = .ok (.iload_n 0, 1) := by decide +kernel
theorem dX2_isCapital_1 : decode cX2_isCapital 1 = .ok (.bipush 65, 2) := by decide +kernel
theorem dX2_isCapital_3 : decode cX2_isCapital 3 = .ok (.if_icmp .lt 13, 3) := by decide +kernel
theorem dX2_isCapital_6 : decode cX2_isCapital 6 = .ok (.iload_n 0, 1) := by decide +kernel
theorem dX2_isCapital_7 : decode cX2_isCapital 7 = .ok (.bipush 90, 2) := by decide +kernel
theorem dX2_isCapital_9 : decode cX2_isCapital 9 = .ok (.if_icmp .gt 7, 3) := by decide +kernel
theorem dX2_isCapital_12 : decode cX2_isCapital 12 = .ok (.iconst 1, 1) := by decide +kernel
theorem dX2_isCapital_13 : decode cX2_isCapital 13 = .ok (.goto 4, 3) := by decide +kernel
theorem dX2_isCapital_16 : decode cX2_isCapital 16 = .ok (.iconst 0, 1) := by decide +kernel
theorem dX2_isCapital_17 : decode cX2_isCapital 17 = .ok (.ireturn, 1) := by decide +kernel
theorem dX2_isPower_0 : decode cX2_isPower 0 = .ok (.iload_n 0, 1) := by decide +kernel
theorem dX2_isPower_1 : decode cX2_isPower 1 = .ok (.bipush 50, 2) := by decide +kernel
theorem dX2_isPower_3 : decode cX2_isPower 3 = .ok (.if_icmp .lt 13, 3) := by decide +kernel
theorem dX2_isPower_6 : decode cX2_isPower 6 = .ok (.iload_n 0, 1) := by decide +kernel
theorem dX2_isPower_7 : decode cX2_isPower 7 = .ok (.bipush 57, 2) := by decide +kernel
theorem dX2_isPower_9 : decode cX2_isPower 9 = .ok (.if_icmp .gt 7, 3) := by decide +kernel
theorem dX2_isPower_12 : decode cX2_isPower 12 = .ok (.iconst 1, 1) := by decide +kernel
theorem dX2_isPower_13 : decode cX2_isPower 13 = .ok (.goto 4, 3) := by decide +kernel
theorem dX2_isPower_16 : decode cX2_isPower 16 = .ok (.iconst 0, 1) := by decide +kernel
theorem dX2_isPower_17 : decode cX2_isPower 17 = .ok (.ireturn, 1) := by decide +kernel
set_option maxRecDepth 20000 in
theorem ggX2_numberOf_X2_isCapital : GoodIn wsX2_numberOf wsX2_isCapital := goodIn_r _ [4] (by decide +kernel) (by decide +kernel)
set_option maxRecDepth 20000 in
theorem gX2_numberOf_X2_isCapital : GoodIn wsX2_numberOf (va_wsS RX2 51 yX2_isCapital wsX2_isCapital) := goodIn_app (goodIn_of _ (by decide +kernel)) ggX2_numberOf_X2_isCapital
theorem dX2_numberOf_0 : decode cX2_numberOf 0 = .ok (.iload_n 0, 1) := by decide +kernel
theorem dX2_numberOf_1 : decode cX2_numberOf 1 = .ok (.invokestatic 51, 3) := by decide +kernel
theorem dX2_numberOf_4 : decode cX2_numberOf 4 = .ok (.ifCond .eq 10, 3) := by decide +kernel
theorem dX2_numberOf_7 : decode cX2_numberOf 7 = .ok (.iload_n 0, 1) := by decide +kernel
theorem dX2_numberOf_8 : decode cX2_numberOf 8 = .ok (.bipush 65, 2) := by decide +kernel
theorem dX2_numberOf_10 : decode cX2_numberOf 10 = .ok (.isub, 1) := by decide +kernel
theorem dX2_numberOf_11 : decode cX2_numberOf 11 = .ok (.goto 7, 3) := by decide +kernel
theorem dX2_numberOf_14 : decode cX2_numberOf 14 = .ok (.iload_n 0, 1) := by decide +kernel
theorem dX2_numberOf_15 : decode cX2_numberOf 15 = .ok (.bipush 97, 2) := by decide +kernel
theorem dX2_numberOf_17 : decode cX2_numberOf 17 = .ok (.isub, 1) := by decide +kernel
theorem dX2_numberOf_18 : decode cX2_numberOf 18 = .ok (.ireturn, 1) := by decide +kernel
set_option maxRecDepth 20000 in
theorem ggX3_init_X0_init : GoodIn wsX3_init wsX0_init := goodIn_r _ [19, 20, 2, 3, 21, 22, 23, 24, 25, 10, 11, 26, 27, 28, 29, 61, 62, 63, 64, 65, 66, 72, 73, 74, 75, 76, 77, 78, 79] (by decide +kernel) (by decide +kernel)
set_option maxRecDepth 20000 in
theorem gX3_init_X0_init_n9 : GoodIn wsX3_init (wsX0_init) := ggX3_init_X0_init
set_option maxRecDepth 20000 in
theorem ggX3_init_X1_init : GoodIn wsX3_init wsX1_init := goodIn_r _ [28, 29, 2, 3] (by decide +kernel) (by decide +kernel)
set_option maxRecDepth 20000 in
theorem gX3_init_X1_init_n21 : GoodIn wsX3_init (wsX1_init) := ggX3_init_X1_init
set_option maxRecDepth 20000 in
theorem ggX3_init_X2_init : GoodIn wsX3_init wsX2_init := goodIn_r _ [31, 32, 2, 3, 21, 33, 34, 80, 81, 82] (by decide +kernel) (by decide +kernel)
set_option maxRecDepth 20000 in
theorem gX3_init_X2_init_n32 : GoodIn wsX3_init (wsX2_init) := ggX3_init_X2_init
set_option maxRecDepth 20000 in
theorem ggX3_init_X0_fill : GoodIn wsX3_init wsX0_fill := goodIn_r _ [38, 39, 40, 41, 42, 43, 6, 44, 45, 46, 47, 48, 49, 50, 51, 52, 53, 54, 55, 56, 57, 58, 59, 60, 22, 23, 24, 61, 62, 63, 64, 65, 66] (by decide +kernel) (by decide +kernel)
set_option maxRecDepth 20000 in
theorem gX3_init_X0_fill : GoodIn wsX3_init (wsV RX3 37 RX0 yX0_fill wsX0_fill) := goodIn_app (goodIn_of _ (by decide +kernel)) ggX3_init_X0_fill
theorem dX3_init_0 : decode cX3_init 0 = .ok (.aload_n 0, 1) := by decide +kernel
theorem dX3_init_1 : decode cX3_init 1 = .ok (.invokespecial 1, 3) := by decide +kernel
theorem dX3_init_4 : decode cX3_init 4 = .ok (.aload_n 0, 1) := by decide +kernel
theorem dX3_init_5 : decode cX3_init 5 = .ok (.new 7, 3) := by decide +kernel
theorem dX3_init_8 : decode cX3_init 8 = .ok (.dup, 1) := by decide +kernel
theorem dX3_init_9 : decode cX3_init 9 = .ok (.invokespecial 9, 3) := by decide +kernel
theorem dX3_init_12 : decode cX3_init 12 = .ok (.putfield 10, 3) := by decide +kernel
theorem dX3_init_15 : decode cX3_init 15 = .ok (.aload_n 0, 1) := by decide +kernel
theorem dX3_init_16 : decode cX3_init 16 = .ok (.new 7, 3) := by decide +kernel
theorem dX3_init_19 : decode cX3_init 19 = .ok (.dup, 1) := by decide +kernel
theorem dX3_init_20 : decode cX3_init 20 = .ok (.invokespecial 9, 3) := by decide +kernel
theorem dX3_init_23 : decode cX3_init 23 = .ok (.putfield 16, 3) := by decide +kernel
theorem dX3_init_26 : decode cX3_init 26 = .ok (.aload_n 0, 1) := by decide +kernel
theorem dX3_init_27 : decode cX3_init 27 = .ok (.new 19, 3) := by decide +kernel
theorem dX3_init_30 : decode cX3_init 30 = .ok (.dup, 1) := by decide +kernel
theorem dX3_init_31 : decode cX3_init 31 = .ok (.invokespecial 21, 3) := by decide +kernel
theorem dX3_init_34 : decode cX3_init 34 = .ok (.putfield 22, 3) := by decide +kernel
theorem dX3_init_37 : decode cX3_init 37 = .ok (.aload_n 0, 1) := by decide +kernel
theorem dX3_init_38 : decode cX3_init 38 = .ok (.iconst 0, 1) := by decide +kernel
theorem dX3_init_39 : decode cX3_init 39 = .ok (.putfield 26, 3) := by decide +kernel
theorem dX3_init_42 : decode cX3_init 42 = .ok (.aload_n 0, 1) := by decide +kernel
theorem dX3_init_43 : decode cX3_init 43 = .ok (.new 30, 3) := by decide +kernel
theorem dX3_init_46 : decode cX3_init 46 = .ok (.dup, 1) := by decide +kernel
theorem dX3_init_47 : decode cX3_init 47 = .ok (.invokespecial 32, 3) := by decide +kernel
theorem dX3_init_50 : decode cX3_init 50 = .ok (.putfield 33, 3) := by decide +kernel
theorem dX3_init_53 : decode cX3_init 53 = .ok (.aload_n 0, 1) := by decide +kernel
theorem dX3_init_54 : decode cX3_init 54 = .ok (.getfield 10, 3) := by decide +kernel
theorem dX3_init_57 : decode cX3_init 57 = .ok (.bipush (-3), 2) := by decide +kernel
theorem dX3_init_59 : decode cX3_init 59 = .ok (.invokevirtual 37, 3) := by decide +kernel
theorem dX3_init_62 : decode cX3_init 62 = .ok (.pop, 1) := by decide +kernel
theorem dX3_init_63 : decode cX3_init 63 = .ok (.return_, 1) := by decide +kernel
set_option maxRecDepth 20000 in
theorem ggX3_discriminant_X3_isDeskDiscriminant : GoodIn wsX3_discriminant wsX3_isDeskDiscriminant := goodIn_r _ [10, 11, 12, 13, 14] (by decide +kernel) (by decide +kernel)
set_option maxRecDepth 20000 in
theorem gX3_discriminant_X3_isDeskDiscriminant : GoodIn wsX3_discriminant (va_wsS RX3 41 yX3_isDeskDiscriminant wsX3_isDeskDiscriminant) := goodIn_app (goodIn_of _ (by decide +kernel)) ggX3_discriminant_X3_isDeskDiscriminant
set_option maxRecDepth 20000 in
theorem ggX3_discriminant_X0_fill : GoodIn wsX3_discriminant wsX0_fill := goodIn_r _ [19, 20, 21, 22, 23, 24, 18, 25, 26, 9, 27, 28, 29, 30, 31, 32, 33, 34, 35, 36, 37, 38, 39, 40, 41, 42, 43, 49, 50, 51, 52, 53, 54] (by decide +kernel) (by decide +kernel)
set_option maxRecDepth 20000 in
theorem gX3_discriminant_X0_fill : GoodIn wsX3_discriminant (wsV RX3 37 RX0 yX0_fill wsX0_fill) := goodIn_app (goodIn_of _ (by decide +kernel)) ggX3_discriminant_X0_fill
theorem dX3_discriminant_0 : decode cX3_discriminant 0 = .ok (.iload_n 1, 1) := by decide +kernel
theorem dX3_discriminant_1 : decode cX3_discriminant 1 = .ok (.invokestatic 41, 3) := by decide +kernel
theorem dX3_discriminant_4 : decode cX3_discriminant 4 = .ok (.ifCond .ne 11, 3) := by decide +kernel
theorem dX3_discriminant_7 : decode cX3_discriminant 7 = .ok (.new 44, 3) := by decide +kernel
theorem dX3_discriminant_10 : decode cX3_discriminant 10 = .ok (.dup, 1) := by decide +kernel
theorem dX3_discriminant_11 : decode cX3_discriminant 11 = .ok (.invokespecial 46, 3) := by decide +kernel
theorem dX3_discriminant_14 : decode cX3_discriminant 14 = .ok (.athrow, 1) := by decide +kernel
theorem dX3_discriminant_15 : decode cX3_discriminant 15 = .ok (.aload_n 0, 1) := by decide +kernel
theorem dX3_discriminant_16 : decode cX3_discriminant 16 = .ok (.getfield 16, 3) := by decide +kernel
theorem dX3_discriminant_19 : decode cX3_discriminant 19 = .ok (.iload_n 1, 1) := by decide +kernel
theorem dX3_discriminant_20 : decode cX3_discriminant 20 = .ok (.invokevirtual 37, 3) := by decide +kernel
theorem dX3_discriminant_23 : decode cX3_discriminant 23 = .ok (.ifCond .ne 11, 3) := by decide +kernel
theorem dX3_discriminant_26 : decode cX3_discriminant 26 = .ok (.new 47, 3) := by decide +kernel
theorem dX3_discriminant_29 : decode cX3_discriminant 29 = .ok (.dup, 1) := by decide +kernel
theorem dX3_discriminant_30 : decode cX3_discriminant 30 = .ok (.invokespecial 49, 3) := by decide +kernel
theorem dX3_discriminant_33 : decode cX3_discriminant 33 = .ok (.athrow, 1) := by decide +kernel
theorem dX3_discriminant_34 : decode cX3_discriminant 34 = .ok (.aload_n 0, 1) := by decide +kernel
theorem dX3_discriminant_35 : decode cX3_discriminant 35 = .ok (.getfield 10, 3) := by decide +kernel
theorem dX3_discriminant_38 : decode cX3_discriminant 38 = .ok (.astore_n 2, 1) := by decide +kernel
theorem dX3_discriminant_39 : decode cX3_discriminant 39 = .ok (.aload_n 0, 1) := by decide +kernel
theorem dX3_discriminant_40 : decode cX3_discriminant 40 = .ok (.aload_n 0, 1) := by decide +kernel
theorem dX3_discriminant_41 : decode cX3_discriminant 41 = .ok (.getfield 16, 3) := by decide +kernel
theorem dX3_discriminant_44 : decode cX3_discriminant 44 = .ok (.putfield 10, 3) := by decide +kernel
theorem dX3_discriminant_47 : decode cX3_discriminant 47 = .ok (.aload_n 0, 1) := by decide +kernel
theorem dX3_discriminant_48 : decode cX3_discriminant 48 = .ok (.aload_n 2, 1) := by decide +kernel
theorem dX3_discriminant_49 : decode cX3_discriminant 49 = .ok (.putfield 16, 3) := by decide +kernel
theorem dX3_discriminant_52 : decode cX3_discriminant 52 = .ok (.aload_n 0, 1) := by decide +kernel
theorem dX3_discriminant_53 : decode cX3_discriminant 53 = .ok (.getfield 10, 3) := by decide +kernel
theorem dX3_discriminant_56 : decode cX3_discriminant 56 = .ok (.getfield 50, 3) := by decide +kernel
theorem dX3_discriminant_59 : decode cX3_discriminant 59 = .ok (.ireturn, 1) := by decide +kernel
set_option maxRecDepth 20000 in
theorem ggX3_form_X0_has : GoodIn wsX3_form wsX0_has := goodIn_r _ [8, 9, 15, 16, 17, 18, 19, 20] (by decide +kernel) (by decide +kernel)
set_option maxRecDepth 20000 in
theorem gX3_form_X0_has : GoodIn wsX3_form (wsV RX3 54 RX0 yX0_has wsX0_has) := goodIn_app (goodIn_of _ (by decide +kernel)) ggX3_form_X0_has
theorem dX3_form_0 : decode cX3_form 0 = .ok (.aload_n 0, 1) := by decide +kernel
theorem dX3_form_1 : decode cX3_form 1 = .ok (.getfield 10, 3) := by decide +kernel
theorem dX3_form_4 : decode cX3_form 4 = .ok (.iload_n 1, 1) := by decide +kernel
theorem dX3_form_5 : decode cX3_form 5 = .ok (.invokevirtual 54, 3) := by decide +kernel
theorem dX3_form_8 : decode cX3_form 8 = .ok (.ifCond .eq 12, 3) := by decide +kernel
theorem dX3_form_11 : decode cX3_form 11 = .ok (.iload_n 2, 1) := by decide +kernel
theorem dX3_form_12 : decode cX3_form 12 = .ok (.ifCond .lt 8, 3) := by decide +kernel
theorem dX3_form_15 : decode cX3_form 15 = .ok (.iload_n 2, 1) := by decide +kernel
theorem dX3_form_16 : decode cX3_form 16 = .ok (.iconst 2, 1) := by decide +kernel
theorem dX3_form_17 : decode cX3_form 17 = .ok (.if_icmp .le 11, 3) := by decide +kernel
theorem dX3_form_20 : decode cX3_form 20 = .ok (.new 57, 3) := by decide +kernel
theorem dX3_form_23 : decode cX3_form 23 = .ok (.dup, 1) := by decide +kernel
theorem dX3_form_24 : decode cX3_form 24 = .ok (.invokespecial 59, 3) := by decide +kernel
theorem dX3_form_27 : decode cX3_form 27 = .ok (.athrow, 1) := by decide +kernel
theorem dX3_form_28 : decode cX3_form 28 = .ok (.iload_n 2, 1) := by decide +kernel
theorem dX3_form_29 : decode cX3_form 29 = .ok (.ifCond .ne 15, 3) := by decide +kernel
theorem dX3_form_32 : decode cX3_form 32 = .ok (.aload_n 0, 1) := by decide +kernel
theorem dX3_form_33 : decode cX3_form 33 = .ok (.getfield 10, 3) := by decide +kernel
theorem dX3_form_36 : decode cX3_form 36 = .ok (.getfield 60, 3) := by decide +kernel
theorem dX3_form_39 : decode cX3_form 39 = .ok (.iload_n 1, 1) := by decide +kernel
theorem dX3_form_40 : decode cX3_form 40 = .ok (.iaload, 1) := by decide +kernel
theorem dX3_form_41 : decode cX3_form 41 = .ok (.goto 29, 3) := by decide +kernel
theorem dX3_form_44 : decode cX3_form 44 = .ok (.iload_n 2, 1) := by decide +kernel
theorem dX3_form_45 : decode cX3_form 45 = .ok (.iconst 1, 1) := by decide +kernel
theorem dX3_form_46 : decode cX3_form 46 = .ok (.if_icmp .ne 15, 3) := by decide +kernel
theorem dX3_form_49 : decode cX3_form 49 = .ok (.aload_n 0, 1) := by decide +kernel
theorem dX3_form_50 : decode cX3_form 50 = .ok (.getfield 10, 3) := by decide +kernel
theorem dX3_form_53 : decode cX3_form 53 = .ok (.getfield 64, 3) := by decide +kernel
theorem dX3_form_56 : decode cX3_form 56 = .ok (.iload_n 1, 1) := by decide +kernel
theorem dX3_form_57 : decode cX3_form 57 = .ok (.iaload, 1) := by decide +kernel
theorem dX3_form_58 : decode cX3_form 58 = .ok (.goto 12, 3) := by decide +kernel
theorem dX3_form_61 : decode cX3_form 61 = .ok (.aload_n 0, 1) := by decide +kernel
theorem dX3_form_62 : decode cX3_form 62 = .ok (.getfield 10, 3) := by decide +kernel
theorem dX3_form_65 : decode cX3_form 65 = .ok (.getfield 67, 3) := by decide +kernel
theorem dX3_form_68 : decode cX3_form 68 = .ok (.iload_n 1, 1) := by decide +kernel
theorem dX3_form_69 : decode cX3_form 69 = .ok (.iaload, 1) := by decide +kernel
theorem dX3_form_70 : decode cX3_form 70 = .ok (.ireturn, 1) := by decide +kernel
set_option maxRecDepth 20000 in
theorem ggX3_reduce_X3_isCoefficient : GoodIn wsX3_reduce wsX3_isCoefficient := goodIn_r _ [8] (by decide +kernel) (by decide +kernel)
set_option maxRecDepth 20000 in
theorem gX3_reduce_X3_isCoefficient : GoodIn wsX3_reduce (va_wsS RX3 70 yX3_isCoefficient wsX3_isCoefficient) := goodIn_app (goodIn_of _ (by decide +kernel)) ggX3_reduce_X3_isCoefficient
set_option maxRecDepth 20000 in
theorem ggX3_reduce_X3_isForm : GoodIn wsX3_reduce wsX3_isForm := goodIn_r _ [11, 12, 13, 7, 14, 15, 16, 17, 18, 19, 20, 21] (by decide +kernel) (by decide +kernel)
set_option maxRecDepth 20000 in
theorem gX3_reduce_X3_isForm : GoodIn wsX3_reduce (va_wsS RX3 73 yX3_isForm wsX3_isForm) := goodIn_app (goodIn_of _ (by decide +kernel)) ggX3_reduce_X3_isForm
set_option maxRecDepth 20000 in
theorem ggX3_reduce_X1_run : GoodIn wsX3_reduce wsX1_run := goodIn_r _ [26, 27, 28, 29, 30, 25, 31, 32, 33, 34, 35, 36, 37, 38, 39, 40, 41, 42, 43, 19, 20, 21, 44, 45, 46, 47, 48, 49, 50, 51, 52, 53, 54, 55, 56, 57, 58, 59, 65, 66, 67, 68, 69, 70, 71, 72] (by decide +kernel) (by decide +kernel)
set_option maxRecDepth 20000 in
theorem gX3_reduce_X1_run : GoodIn wsX3_reduce (wsV RX3 77 RX1 yX1_run wsX1_run) := goodIn_app (goodIn_of _ (by decide +kernel)) ggX3_reduce_X1_run
theorem dX3_reduce_0 : decode cX3_reduce 0 = .ok (.iload_n 1, 1) := by decide +kernel
theorem dX3_reduce_1 : decode cX3_reduce 1 = .ok (.invokestatic 70, 3) := by decide +kernel
theorem dX3_reduce_4 : decode cX3_reduce 4 = .ok (.ifCond .eq 26, 3) := by decide +kernel
theorem dX3_reduce_7 : decode cX3_reduce 7 = .ok (.iload_n 2, 1) := by decide +kernel
theorem dX3_reduce_8 : decode cX3_reduce 8 = .ok (.invokestatic 70, 3) := by decide +kernel
theorem dX3_reduce_11 : decode cX3_reduce 11 = .ok (.ifCond .eq 19, 3) := by decide +kernel
theorem dX3_reduce_14 : decode cX3_reduce 14 = .ok (.iload_n 3, 1) := by decide +kernel
theorem dX3_reduce_15 : decode cX3_reduce 15 = .ok (.invokestatic 70, 3) := by decide +kernel
theorem dX3_reduce_18 : decode cX3_reduce 18 = .ok (.ifCond .eq 12, 3) := by decide +kernel
theorem dX3_reduce_21 : decode cX3_reduce 21 = .ok (.iload_n 1, 1) := by decide +kernel
theorem dX3_reduce_22 : decode cX3_reduce 22 = .ok (.iload_n 2, 1) := by decide +kernel
theorem dX3_reduce_23 : decode cX3_reduce 23 = .ok (.iload_n 3, 1) := by decide +kernel
theorem dX3_reduce_24 : decode cX3_reduce 24 = .ok (.invokestatic 73, 3) := by decide +kernel
theorem dX3_reduce_27 : decode cX3_reduce 27 = .ok (.ifCond .ne 11, 3) := by decide +kernel
theorem dX3_reduce_30 : decode cX3_reduce 30 = .ok (.new 44, 3) := by decide +kernel
theorem dX3_reduce_33 : decode cX3_reduce 33 = .ok (.dup, 1) := by decide +kernel
theorem dX3_reduce_34 : decode cX3_reduce 34 = .ok (.invokespecial 46, 3) := by decide +kernel
theorem dX3_reduce_37 : decode cX3_reduce 37 = .ok (.athrow, 1) := by decide +kernel
theorem dX3_reduce_38 : decode cX3_reduce 38 = .ok (.aload_n 0, 1) := by decide +kernel
theorem dX3_reduce_39 : decode cX3_reduce 39 = .ok (.iconst 1, 1) := by decide +kernel
theorem dX3_reduce_40 : decode cX3_reduce 40 = .ok (.putfield 26, 3) := by decide +kernel
theorem dX3_reduce_43 : decode cX3_reduce 43 = .ok (.aload_n 0, 1) := by decide +kernel
theorem dX3_reduce_44 : decode cX3_reduce 44 = .ok (.getfield 22, 3) := by decide +kernel
theorem dX3_reduce_47 : decode cX3_reduce 47 = .ok (.iload_n 1, 1) := by decide +kernel
theorem dX3_reduce_48 : decode cX3_reduce 48 = .ok (.iload_n 2, 1) := by decide +kernel
theorem dX3_reduce_49 : decode cX3_reduce 49 = .ok (.iload_n 3, 1) := by decide +kernel
theorem dX3_reduce_50 : decode cX3_reduce 50 = .ok (.invokevirtual 77, 3) := by decide +kernel
theorem dX3_reduce_53 : decode cX3_reduce 53 = .ok (.ireturn, 1) := by decide +kernel
set_option maxRecDepth 20000 in
theorem ggX3_reduced_X3_classOfLast : GoodIn wsX3_reduced wsX3_classOfLast := goodIn_r _ [9, 4, 10, 11, 12, 13, 14, 15, 16, 17, 18, 32, 33, 34, 35, 36, 37, 38, 39, 40, 41, 42, 43, 44, 45, 46, 47, 48, 49, 50] (by decide +kernel) (by decide +kernel)
set_option maxRecDepth 20000 in
theorem gX3_reduced_X3_classOfLast : GoodIn wsX3_reduced (wsV RX3 81 RX3 yX3_classOfLast wsX3_classOfLast) := goodIn_app (goodIn_of _ (by decide +kernel)) ggX3_reduced_X3_classOfLast
set_option maxRecDepth 20000 in
theorem ggX3_reduced_X1_part : GoodIn wsX3_reduced wsX1_part := goodIn_r _ [23, 24, 25, 26, 27, 28, 29, 30, 31, 37, 38, 39, 40, 41, 42, 43, 44] (by decide +kernel) (by decide +kernel)
set_option maxRecDepth 20000 in
theorem gX3_reduced_X1_part : GoodIn wsX3_reduced (wsV RX3 85 RX1 yX1_part wsX1_part) := goodIn_app (goodIn_of _ (by decide +kernel)) ggX3_reduced_X1_part
theorem dX3_reduced_0 : decode cX3_reduced 0 = .ok (.aload_n 0, 1) := by decide +kernel
theorem dX3_reduced_1 : decode cX3_reduced 1 = .ok (.getfield 26, 3) := by decide +kernel
theorem dX3_reduced_4 : decode cX3_reduced 4 = .ok (.ifCond .eq 13, 3) := by decide +kernel
theorem dX3_reduced_7 : decode cX3_reduced 7 = .ok (.iload_n 1, 1) := by decide +kernel
theorem dX3_reduced_8 : decode cX3_reduced 8 = .ok (.ifCond .lt 9, 3) := by decide +kernel
theorem dX3_reduced_11 : decode cX3_reduced 11 = .ok (.iload_n 1, 1) := by decide +kernel
theorem dX3_reduced_12 : decode cX3_reduced 12 = .ok (.bipush 8, 2) := by decide +kernel
theorem dX3_reduced_14 : decode cX3_reduced 14 = .ok (.if_icmp .le 11, 3) := by decide +kernel
theorem dX3_reduced_17 : decode cX3_reduced 17 = .ok (.new 57, 3) := by decide +kernel
theorem dX3_reduced_20 : decode cX3_reduced 20 = .ok (.dup, 1) := by decide +kernel
theorem dX3_reduced_21 : decode cX3_reduced 21 = .ok (.invokespecial 59, 3) := by decide +kernel
theorem dX3_reduced_24 : decode cX3_reduced 24 = .ok (.athrow, 1) := by decide +kernel
theorem dX3_reduced_25 : decode cX3_reduced 25 = .ok (.iload_n 1, 1) := by decide +kernel
theorem dX3_reduced_26 : decode cX3_reduced 26 = .ok (.bipush 8, 2) := by decide +kernel
theorem dX3_reduced_28 : decode cX3_reduced 28 = .ok (.if_icmp .ne 10, 3) := by decide +kernel
theorem dX3_reduced_31 : decode cX3_reduced 31 = .ok (.aload_n 0, 1) := by decide +kernel
theorem dX3_reduced_32 : decode cX3_reduced 32 = .ok (.invokevirtual 81, 3) := by decide +kernel
theorem dX3_reduced_35 : decode cX3_reduced 35 = .ok (.goto 11, 3) := by decide +kernel
theorem dX3_reduced_38 : decode cX3_reduced 38 = .ok (.aload_n 0, 1) := by decide +kernel
theorem dX3_reduced_39 : decode cX3_reduced 39 = .ok (.getfield 22, 3) := by decide +kernel
theorem dX3_reduced_42 : decode cX3_reduced 42 = .ok (.iload_n 1, 1) := by decide +kernel
theorem dX3_reduced_43 : decode cX3_reduced 43 = .ok (.invokevirtual 85, 3) := by decide +kernel
theorem dX3_reduced_46 : decode cX3_reduced 46 = .ok (.ireturn, 1) := by decide +kernel
set_option maxRecDepth 20000 in
theorem ggX3_compose_X0_has : GoodIn wsX3_compose wsX0_has := goodIn_r _ [8, 9, 79, 80, 81, 82, 83, 84] (by decide +kernel) (by decide +kernel)
set_option maxRecDepth 20000 in
theorem gX3_compose_X0_has : GoodIn wsX3_compose (wsV RX3 54 RX0 yX0_has wsX0_has) := goodIn_app (goodIn_of _ (by decide +kernel)) ggX3_compose_X0_has
set_option maxRecDepth 20000 in
theorem ggX3_compose_X0_product : GoodIn wsX3_compose wsX0_product := goodIn_r _ [13, 14, 15, 16, 17, 18, 5, 6, 7, 8, 9, 19, 20, 21, 22, 23, 24, 25, 26, 27, 28, 29, 30, 31, 32, 33, 34, 35, 36, 37, 38, 39, 40, 41, 42, 43, 44, 45, 46, 47, 48, 49, 50, 51, 52, 53, 54, 55, 56, 57, 58, 59, 60, 61, 62, 63, 64, 65, 66, 67, 68, 69, 70, 71, 72, 73, 79, 80, 81, 82, 83, 84, 85, 86, 87, 88, 89, 90, 91, 92] (by decide +kernel) (by decide +kernel)
set_option maxRecDepth 20000 in
theorem gX3_compose_X0_product : GoodIn wsX3_compose (wsV RX3 89 RX0 yX0_product wsX0_product) := goodIn_app (goodIn_of _ (by decide +kernel)) ggX3_compose_X0_product
theorem dX3_compose_0 : decode cX3_compose 0 = .ok (.aload_n 0, 1) := by decide +kernel
theorem dX3_compose_1 : decode cX3_compose 1 = .ok (.getfield 10, 3) := by decide +kernel
theorem dX3_compose_4 : decode cX3_compose 4 = .ok (.iload_n 1, 1) := by decide +kernel
theorem dX3_compose_5 : decode cX3_compose 5 = .ok (.invokevirtual 54, 3) := by decide +kernel
theorem dX3_compose_8 : decode cX3_compose 8 = .ok (.ifCond .eq 14, 3) := by decide +kernel
theorem dX3_compose_11 : decode cX3_compose 11 = .ok (.aload_n 0, 1) := by decide +kernel
theorem dX3_compose_12 : decode cX3_compose 12 = .ok (.getfield 10, 3) := by decide +kernel
theorem dX3_compose_15 : decode cX3_compose 15 = .ok (.iload_n 2, 1) := by decide +kernel
theorem dX3_compose_16 : decode cX3_compose 16 = .ok (.invokevirtual 54, 3) := by decide +kernel
theorem dX3_compose_19 : decode cX3_compose 19 = .ok (.ifCond .ne 11, 3) := by decide +kernel
theorem dX3_compose_22 : decode cX3_compose 22 = .ok (.new 57, 3) := by decide +kernel
theorem dX3_compose_25 : decode cX3_compose 25 = .ok (.dup, 1) := by decide +kernel
theorem dX3_compose_26 : decode cX3_compose 26 = .ok (.invokespecial 59, 3) := by decide +kernel
theorem dX3_compose_29 : decode cX3_compose 29 = .ok (.athrow, 1) := by decide +kernel
theorem dX3_compose_30 : decode cX3_compose 30 = .ok (.aload_n 0, 1) := by decide +kernel
theorem dX3_compose_31 : decode cX3_compose 31 = .ok (.getfield 10, 3) := by decide +kernel
theorem dX3_compose_34 : decode cX3_compose 34 = .ok (.iload_n 1, 1) := by decide +kernel
theorem dX3_compose_35 : decode cX3_compose 35 = .ok (.iload_n 2, 1) := by decide +kernel
theorem dX3_compose_36 : decode cX3_compose 36 = .ok (.invokevirtual 89, 3) := by decide +kernel
theorem dX3_compose_39 : decode cX3_compose 39 = .ok (.ireturn, 1) := by decide +kernel
set_option maxRecDepth 20000 in
theorem ggX3_inverse_X0_has : GoodIn wsX3_inverse wsX0_has := goodIn_r _ [8, 9, 26, 27, 28, 29, 30, 31] (by decide +kernel) (by decide +kernel)
set_option maxRecDepth 20000 in
theorem gX3_inverse_X0_has : GoodIn wsX3_inverse (wsV RX3 54 RX0 yX0_has wsX0_has) := goodIn_app (goodIn_of _ (by decide +kernel)) ggX3_inverse_X0_has
set_option maxRecDepth 20000 in
theorem ggX3_inverse_X0_opposite : GoodIn wsX3_inverse wsX0_opposite := goodIn_r _ [13, 14, 15, 16, 5, 6, 7, 8, 9, 17, 18, 19, 20, 26, 27, 28, 29, 30, 31] (by decide +kernel) (by decide +kernel)
set_option maxRecDepth 20000 in
theorem gX3_inverse_X0_opposite : GoodIn wsX3_inverse (wsV RX3 93 RX0 yX0_opposite wsX0_opposite) := goodIn_app (goodIn_of _ (by decide +kernel)) ggX3_inverse_X0_opposite
theorem dX3_inverse_0 : decode cX3_inverse 0 = .ok (.aload_n 0, 1) := by decide +kernel
theorem dX3_inverse_1 : decode cX3_inverse 1 = .ok (.getfield 10, 3) := by decide +kernel
theorem dX3_inverse_4 : decode cX3_inverse 4 = .ok (.iload_n 1, 1) := by decide +kernel
theorem dX3_inverse_5 : decode cX3_inverse 5 = .ok (.invokevirtual 54, 3) := by decide +kernel
theorem dX3_inverse_8 : decode cX3_inverse 8 = .ok (.ifCond .ne 11, 3) := by decide +kernel
theorem dX3_inverse_11 : decode cX3_inverse 11 = .ok (.new 57, 3) := by decide +kernel
theorem dX3_inverse_14 : decode cX3_inverse 14 = .ok (.dup, 1) := by decide +kernel
theorem dX3_inverse_15 : decode cX3_inverse 15 = .ok (.invokespecial 59, 3) := by decide +kernel
theorem dX3_inverse_18 : decode cX3_inverse 18 = .ok (.athrow, 1) := by decide +kernel
theorem dX3_inverse_19 : decode cX3_inverse 19 = .ok (.aload_n 0, 1) := by decide +kernel
theorem dX3_inverse_20 : decode cX3_inverse 20 = .ok (.getfield 10, 3) := by decide +kernel
theorem dX3_inverse_23 : decode cX3_inverse 23 = .ok (.iload_n 1, 1) := by decide +kernel
theorem dX3_inverse_24 : decode cX3_inverse 24 = .ok (.invokevirtual 93, 3) := by decide +kernel
theorem dX3_inverse_27 : decode cX3_inverse 27 = .ok (.ireturn, 1) := by decide +kernel
set_option maxRecDepth 20000 in
theorem ggX3_power_X0_has : GoodIn wsX3_power wsX0_has := goodIn_r _ [8, 9, 86, 87, 88, 89, 90, 91] (by decide +kernel) (by decide +kernel)
set_option maxRecDepth 20000 in
theorem gX3_power_X0_has : GoodIn wsX3_power (wsV RX3 54 RX0 yX0_has wsX0_has) := goodIn_app (goodIn_of _ (by decide +kernel)) ggX3_power_X0_has
set_option maxRecDepth 20000 in
theorem ggX3_power_X0_raised : GoodIn wsX3_power wsX0_raised := goodIn_r _ [13, 9, 14, 15, 16, 17, 18, 19, 20, 7, 21, 22, 23, 24, 25, 26, 5, 6, 8, 27, 28, 29, 30, 31, 32, 33, 34, 35, 36, 37, 38, 39, 40, 41, 42, 43, 44, 45, 46, 47, 48, 49, 50, 51, 52, 53, 54, 55, 56, 57, 58, 59, 60, 61, 62, 63, 64, 65, 66, 67, 68, 69, 70, 71, 72, 73, 74, 75, 76, 77, 78, 79, 80, 86, 87, 88, 89, 90, 91, 92, 93, 94, 95, 96, 97, 98, 99] (by decide +kernel) (by decide +kernel)
set_option maxRecDepth 20000 in
theorem gX3_power_X0_raised : GoodIn wsX3_power (wsV RX3 96 RX0 yX0_raised wsX0_raised) := goodIn_app (goodIn_of _ (by decide +kernel)) ggX3_power_X0_raised
theorem dX3_power_0 : decode cX3_power 0 = .ok (.aload_n 0, 1) := by decide +kernel
theorem dX3_power_1 : decode cX3_power 1 = .ok (.getfield 10, 3) := by decide +kernel
theorem dX3_power_4 : decode cX3_power 4 = .ok (.iload_n 1, 1) := by decide +kernel
theorem dX3_power_5 : decode cX3_power 5 = .ok (.invokevirtual 54, 3) := by decide +kernel
theorem dX3_power_8 : decode cX3_power 8 = .ok (.ifCond .ne 11, 3) := by decide +kernel
theorem dX3_power_11 : decode cX3_power 11 = .ok (.new 57, 3) := by decide +kernel
theorem dX3_power_14 : decode cX3_power 14 = .ok (.dup, 1) := by decide +kernel
theorem dX3_power_15 : decode cX3_power 15 = .ok (.invokespecial 59, 3) := by decide +kernel
theorem dX3_power_18 : decode cX3_power 18 = .ok (.athrow, 1) := by decide +kernel
theorem dX3_power_19 : decode cX3_power 19 = .ok (.aload_n 0, 1) := by decide +kernel
theorem dX3_power_20 : decode cX3_power 20 = .ok (.getfield 10, 3) := by decide +kernel
theorem dX3_power_23 : decode cX3_power 23 = .ok (.iload_n 1, 1) := by decide +kernel
theorem dX3_power_24 : decode cX3_power 24 = .ok (.iload_n 2, 1) := by decide +kernel
theorem dX3_power_25 : decode cX3_power 25 = .ok (.invokevirtual 96, 3) := by decide +kernel
theorem dX3_power_28 : decode cX3_power 28 = .ok (.ireturn, 1) := by decide +kernel
set_option maxRecDepth 20000 in
theorem ggX3_order_X0_has : GoodIn wsX3_order wsX0_has := goodIn_r _ [8, 9, 83, 84, 85, 86, 87, 88] (by decide +kernel) (by decide +kernel)
set_option maxRecDepth 20000 in
theorem gX3_order_X0_has : GoodIn wsX3_order (wsV RX3 54 RX0 yX0_has wsX0_has) := goodIn_app (goodIn_of _ (by decide +kernel)) ggX3_order_X0_has
set_option maxRecDepth 20000 in
theorem ggX3_order_X0_orderOf : GoodIn wsX3_order wsX0_orderOf := goodIn_r _ [13, 9, 14, 15, 16, 7, 17, 18, 19, 20, 21, 22, 5, 6, 8, 23, 24, 25, 26, 27, 28, 29, 30, 31, 32, 33, 34, 35, 36, 37, 38, 39, 40, 41, 42, 43, 44, 45, 46, 47, 48, 49, 50, 51, 52, 53, 54, 55, 56, 57, 58, 59, 60, 61, 62, 63, 64, 65, 66, 67, 68, 69, 70, 71, 72, 73, 74, 75, 76, 77, 83, 84, 85, 86, 87, 88, 89, 90, 91, 92, 93, 94, 95, 96] (by decide +kernel) (by decide +kernel)
set_option maxRecDepth 20000 in
theorem gX3_order_X0_orderOf : GoodIn wsX3_order (wsV RX3 99 RX0 yX0_orderOf wsX0_orderOf) := goodIn_app (goodIn_of _ (by decide +kernel)) ggX3_order_X0_orderOf
theorem dX3_order_0 : decode cX3_order 0 = .ok (.aload_n 0, 1) := by decide +kernel
theorem dX3_order_1 : decode cX3_order 1 = .ok (.getfield 10, 3) := by decide +kernel
theorem dX3_order_4 : decode cX3_order 4 = .ok (.iload_n 1, 1) := by decide +kernel
theorem dX3_order_5 : decode cX3_order 5 = .ok (.invokevirtual 54, 3) := by decide +kernel
theorem dX3_order_8 : decode cX3_order 8 = .ok (.ifCond .ne 11, 3) := by decide +kernel
theorem dX3_order_11 : decode cX3_order 11 = .ok (.new 57, 3) := by decide +kernel
theorem dX3_order_14 : decode cX3_order 14 = .ok (.dup, 1) := by decide +kernel
theorem dX3_order_15 : decode cX3_order 15 = .ok (.invokespecial 59, 3) := by decide +kernel
theorem dX3_order_18 : decode cX3_order 18 = .ok (.athrow, 1) := by decide +kernel
theorem dX3_order_19 : decode cX3_order 19 = .ok (.aload_n 0, 1) := by decide +kernel
theorem dX3_order_20 : decode cX3_order 20 = .ok (.getfield 10, 3) := by decide +kernel
theorem dX3_order_23 : decode cX3_order 23 = .ok (.iload_n 1, 1) := by decide +kernel
theorem dX3_order_24 : decode cX3_order 24 = .ok (.invokevirtual 99, 3) := by decide +kernel
theorem dX3_order_27 : decode cX3_order 27 = .ok (.ireturn, 1) := by decide +kernel
set_option maxRecDepth 20000 in
theorem ggX3_genus_X0_has : GoodIn wsX3_genus wsX0_has := goodIn_r _ [8, 9, 86, 87, 88, 89, 90, 91] (by decide +kernel) (by decide +kernel)
set_option maxRecDepth 20000 in
theorem gX3_genus_X0_has : GoodIn wsX3_genus (wsV RX3 54 RX0 yX0_has wsX0_has) := goodIn_app (goodIn_of _ (by decide +kernel)) ggX3_genus_X0_has
set_option maxRecDepth 20000 in
theorem ggX3_genus_X0_genusOf : GoodIn wsX3_genus wsX0_genusOf := goodIn_r _ [13, 9, 14, 15, 16, 17, 18, 19, 20, 7, 21, 22, 23, 24, 25, 26, 5, 6, 8, 27, 28, 29, 30, 31, 32, 33, 34, 35, 36, 37, 38, 39, 40, 41, 42, 43, 44, 45, 46, 47, 48, 49, 50, 51, 52, 53, 54, 55, 56, 57, 58, 59, 60, 61, 62, 63, 64, 65, 66, 67, 68, 69, 70, 71, 72, 73, 74, 75, 76, 77, 78, 79, 80, 86, 87, 88, 89, 90, 91, 92, 93, 94, 95, 96, 97, 98, 99] (by decide +kernel) (by decide +kernel)
set_option maxRecDepth 20000 in
theorem gX3_genus_X0_genusOf : GoodIn wsX3_genus (wsV RX3 102 RX0 yX0_genusOf wsX0_genusOf) := goodIn_app (goodIn_of _ (by decide +kernel)) ggX3_genus_X0_genusOf
theorem dX3_genus_0 : decode cX3_genus 0 = .ok (.aload_n 0, 1) := by decide +kernel
theorem dX3_genus_1 : decode cX3_genus 1 = .ok (.getfield 10, 3) := by decide +kernel
theorem dX3_genus_4 : decode cX3_genus 4 = .ok (.iload_n 1, 1) := by decide +kernel
theorem dX3_genus_5 : decode cX3_genus 5 = .ok (.invokevirtual 54, 3) := by decide +kernel
theorem dX3_genus_8 : decode cX3_genus 8 = .ok (.ifCond .ne 11, 3) := by decide +kernel
theorem dX3_genus_11 : decode cX3_genus 11 = .ok (.new 57, 3) := by decide +kernel
theorem dX3_genus_14 : decode cX3_genus 14 = .ok (.dup, 1) := by decide +kernel
theorem dX3_genus_15 : decode cX3_genus 15 = .ok (.invokespecial 59, 3) := by decide +kernel
theorem dX3_genus_18 : decode cX3_genus 18 = .ok (.athrow, 1) := by decide +kernel
theorem dX3_genus_19 : decode cX3_genus 19 = .ok (.aload_n 0, 1) := by decide +kernel
theorem dX3_genus_20 : decode cX3_genus 20 = .ok (.getfield 10, 3) := by decide +kernel
theorem dX3_genus_23 : decode cX3_genus 23 = .ok (.iload_n 1, 1) := by decide +kernel
theorem dX3_genus_24 : decode cX3_genus 24 = .ok (.invokevirtual 102, 3) := by decide +kernel
theorem dX3_genus_27 : decode cX3_genus 27 = .ok (.ireturn, 1) := by decide +kernel
set_option maxRecDepth 20000 in
theorem ggX3_genera_X0_countGenera : GoodIn wsX3_genera wsX0_countGenera := goodIn_r _ [6, 7, 8, 9, 10, 5, 11, 12, 13, 14, 15, 16, 17, 18, 19, 20, 21, 27, 28, 29, 30, 31, 32] (by decide +kernel) (by decide +kernel)
set_option maxRecDepth 20000 in
theorem gX3_genera_X0_countGenera : GoodIn wsX3_genera (wsV RX3 105 RX0 yX0_countGenera wsX0_countGenera) := goodIn_app (goodIn_of _ (by decide +kernel)) ggX3_genera_X0_countGenera
theorem dX3_genera_0 : decode cX3_genera 0 = .ok (.aload_n 0, 1) := by decide +kernel
theorem dX3_genera_1 : decode cX3_genera 1 = .ok (.getfield 10, 3) := by decide +kernel
theorem dX3_genera_4 : decode cX3_genera 4 = .ok (.invokevirtual 105, 3) := by decide +kernel
theorem dX3_genera_7 : decode cX3_genera 7 = .ok (.ireturn, 1) := by decide +kernel
set_option maxRecDepth 20000 in
theorem ggX3_values_X0_has : GoodIn wsX3_values wsX0_has := goodIn_r _ [10, 11, 44, 45, 46, 47, 48, 49] (by decide +kernel) (by decide +kernel)
set_option maxRecDepth 20000 in
theorem gX3_values_X0_has : GoodIn wsX3_values (wsV RX3 54 RX0 yX0_has wsX0_has) := goodIn_app (goodIn_of _ (by decide +kernel)) ggX3_values_X0_has
set_option maxRecDepth 20000 in
theorem ggX3_values_X0_countPairs : GoodIn wsX3_values wsX0_countPairs := goodIn_r _ [15, 16, 17, 18, 7, 8, 9, 10, 11, 19, 20, 21, 22, 23, 24, 25, 26, 27, 28, 29, 30, 31, 32, 33, 34, 35, 36, 37, 38, 44, 45, 46, 47, 48, 49] (by decide +kernel) (by decide +kernel)
set_option maxRecDepth 20000 in
theorem gX3_values_X0_countPairs : GoodIn wsX3_values (wsV RX3 108 RX0 yX0_countPairs wsX0_countPairs) := goodIn_app (goodIn_of _ (by decide +kernel)) ggX3_values_X0_countPairs
theorem dX3_values_0 : decode cX3_values 0 = .ok (.aload_n 0, 1) := by decide +kernel
theorem dX3_values_1 : decode cX3_values 1 = .ok (.getfield 10, 3) := by decide +kernel
theorem dX3_values_4 : decode cX3_values 4 = .ok (.iload_n 1, 1) := by decide +kernel
theorem dX3_values_5 : decode cX3_values 5 = .ok (.invokevirtual 54, 3) := by decide +kernel
theorem dX3_values_8 : decode cX3_values 8 = .ok (.ifCond .ne 11, 3) := by decide +kernel
theorem dX3_values_11 : decode cX3_values 11 = .ok (.new 57, 3) := by decide +kernel
theorem dX3_values_14 : decode cX3_values 14 = .ok (.dup, 1) := by decide +kernel
theorem dX3_values_15 : decode cX3_values 15 = .ok (.invokespecial 59, 3) := by decide +kernel
theorem dX3_values_18 : decode cX3_values 18 = .ok (.athrow, 1) := by decide +kernel
theorem dX3_values_19 : decode cX3_values 19 = .ok (.iload_n 2, 1) := by decide +kernel
theorem dX3_values_20 : decode cX3_values 20 = .ok (.ifCond .lt 10, 3) := by decide +kernel
theorem dX3_values_23 : decode cX3_values 23 = .ok (.iload_n 2, 1) := by decide +kernel
theorem dX3_values_24 : decode cX3_values 24 = .ok (.sipush 1000, 3) := by decide +kernel
theorem dX3_values_27 : decode cX3_values 27 = .ok (.if_icmp .le 11, 3) := by decide +kernel
theorem dX3_values_30 : decode cX3_values 30 = .ok (.new 44, 3) := by decide +kernel
theorem dX3_values_33 : decode cX3_values 33 = .ok (.dup, 1) := by decide +kernel
theorem dX3_values_34 : decode cX3_values 34 = .ok (.invokespecial 46, 3) := by decide +kernel
theorem dX3_values_37 : decode cX3_values 37 = .ok (.athrow, 1) := by decide +kernel
theorem dX3_values_38 : decode cX3_values 38 = .ok (.aload_n 0, 1) := by decide +kernel
theorem dX3_values_39 : decode cX3_values 39 = .ok (.getfield 10, 3) := by decide +kernel
theorem dX3_values_42 : decode cX3_values 42 = .ok (.iload_n 1, 1) := by decide +kernel
theorem dX3_values_43 : decode cX3_values 43 = .ok (.iload_n 2, 1) := by decide +kernel
theorem dX3_values_44 : decode cX3_values 44 = .ok (.iload_n 3, 1) := by decide +kernel
theorem dX3_values_45 : decode cX3_values 45 = .ok (.invokevirtual 108, 3) := by decide +kernel
theorem dX3_values_48 : decode cX3_values 48 = .ok (.ireturn, 1) := by decide +kernel
set_option maxRecDepth 20000 in
theorem ggX3_prime_X0_has : GoodIn wsX3_prime wsX0_has := goodIn_r _ [10, 11, 49, 50, 51, 52, 53, 54] (by decide +kernel) (by decide +kernel)
set_option maxRecDepth 20000 in
theorem gX3_prime_X0_has : GoodIn wsX3_prime (wsV RX3 54 RX0 yX0_has wsX0_has) := goodIn_app (goodIn_of _ (by decide +kernel)) ggX3_prime_X0_has
set_option maxRecDepth 20000 in
theorem ggX3_prime_X0_leastCoprimeValue : GoodIn wsX3_prime wsX0_leastCoprimeValue := goodIn_r _ [15, 16, 17, 18, 19, 20, 21, 22, 23, 24, 25, 26, 9, 27, 28, 29, 30, 7, 8, 10, 11, 31, 32, 33, 34, 35, 36, 37, 38, 39, 40, 41, 42, 43, 49, 50, 51, 52, 53, 54] (by decide +kernel) (by decide +kernel)
set_option maxRecDepth 20000 in
theorem gX3_prime_X0_leastCoprimeValue : GoodIn wsX3_prime (wsV RX3 112 RX0 yX0_leastCoprimeValue wsX0_leastCoprimeValue) := goodIn_app (goodIn_of _ (by decide +kernel)) ggX3_prime_X0_leastCoprimeValue
theorem dX3_prime_0 : decode cX3_prime 0 = .ok (.aload_n 0, 1) := by decide +kernel
theorem dX3_prime_1 : decode cX3_prime 1 = .ok (.getfield 10, 3) := by decide +kernel
theorem dX3_prime_4 : decode cX3_prime 4 = .ok (.iload_n 1, 1) := by decide +kernel
theorem dX3_prime_5 : decode cX3_prime 5 = .ok (.invokevirtual 54, 3) := by decide +kernel
theorem dX3_prime_8 : decode cX3_prime 8 = .ok (.ifCond .ne 11, 3) := by decide +kernel
theorem dX3_prime_11 : decode cX3_prime 11 = .ok (.new 57, 3) := by decide +kernel
theorem dX3_prime_14 : decode cX3_prime 14 = .ok (.dup, 1) := by decide +kernel
theorem dX3_prime_15 : decode cX3_prime 15 = .ok (.invokespecial 59, 3) := by decide +kernel
theorem dX3_prime_18 : decode cX3_prime 18 = .ok (.athrow, 1) := by decide +kernel
theorem dX3_prime_19 : decode cX3_prime 19 = .ok (.iload_n 2, 1) := by decide +kernel
theorem dX3_prime_20 : decode cX3_prime 20 = .ok (.iconst 1, 1) := by decide +kernel
theorem dX3_prime_21 : decode cX3_prime 21 = .ok (.if_icmp .lt 10, 3) := by decide +kernel
theorem dX3_prime_24 : decode cX3_prime 24 = .ok (.iload_n 2, 1) := by decide +kernel
theorem dX3_prime_25 : decode cX3_prime 25 = .ok (.sipush 500, 3) := by decide +kernel
theorem dX3_prime_28 : decode cX3_prime 28 = .ok (.if_icmp .le 11, 3) := by decide +kernel
theorem dX3_prime_31 : decode cX3_prime 31 = .ok (.new 44, 3) := by decide +kernel
theorem dX3_prime_34 : decode cX3_prime 34 = .ok (.dup, 1) := by decide +kernel
theorem dX3_prime_35 : decode cX3_prime 35 = .ok (.invokespecial 46, 3) := by decide +kernel
theorem dX3_prime_38 : decode cX3_prime 38 = .ok (.athrow, 1) := by decide +kernel
theorem dX3_prime_39 : decode cX3_prime 39 = .ok (.aload_n 0, 1) := by decide +kernel
