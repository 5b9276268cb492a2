theorem dX4_reach_19 : decode cX4_reach 19 = .ok (.ldc2_w 104, 3) := by decide +kernel
theorem dX4_reach_22 : decode cX4_reach 22 = .ok (.lload_n 1, 1) := by decide +kernel
theorem dX4_reach_23 : decode cX4_reach 23 = .ok (.lmul, 1) := by decide +kernel
theorem dX4_reach_24 : decode cX4_reach 24 = .ok (.lload_n 3, 1) := by decide +kernel
theorem dX4_reach_25 : decode cX4_reach 25 = .ok (.lmul, 1) := by decide +kernel
theorem dX4_reach_26 : decode cX4_reach 26 = .ok (.lcmp, 1) := by decide +kernel
theorem dX4_reach_27 : decode cX4_reach 27 = .ok (.ifCond .gt 12, 3) := by decide +kernel
theorem dX4_reach_30 : decode cX4_reach 30 = .ok (.lload 5, 2) := by decide +kernel
theorem dX4_reach_32 : decode cX4_reach 32 = .ok (.lconst 1, 1) := by decide +kernel
theorem dX4_reach_33 : decode cX4_reach 33 = .ok (.ladd, 1) := by decide +kernel
theorem dX4_reach_34 : decode cX4_reach 34 = .ok (.lstore 5, 2) := by decide +kernel
theorem dX4_reach_36 : decode cX4_reach 36 = .ok (.goto (-33), 3) := by decide +kernel
theorem dX4_reach_39 : decode cX4_reach 39 = .ok (.lload 5, 2) := by decide +kernel
theorem dX4_reach_41 : decode cX4_reach 41 = .ok (.lreturn, 1) := by decide +kernel
set_option maxRecDepth 20000 in
theorem ggX4_values_X4_isClass : GoodIn wsX4_values wsX4_isClass := goodIn_r _ [8, 9, 10, 11, 7, 12, 34, 35, 36, 37, 38, 39, 40, 41, 42, 43, 44, 45, 46, 47, 48, 49, 50, 51] (by decide +kernel) (by decide +kernel)
set_option maxRecDepth 20000 in
theorem gX4_values_X4_isClass : GoodIn wsX4_values (wsV RX4 66 RX4 yX4_isClass wsX4_isClass) := goodIn_app (goodIn_of _ (by decide +kernel)) ggX4_values_X4_isClass
set_option maxRecDepth 20000 in
theorem ggX4_values_X4_refuse : GoodIn wsX4_values wsX4_refuse := goodIn_r _ [16, 1, 34, 35, 36, 37, 38, 39, 40, 41, 42, 43, 44, 45, 46, 47, 48, 49, 50, 51] (by decide +kernel) (by decide +kernel)
set_option maxRecDepth 20000 in
theorem gX4_values_X4_refuse : GoodIn wsX4_values (wsV RX4 63 RX4 yX4_refuse wsX4_refuse) := goodIn_app (goodIn_of _ (by decide +kernel)) ggX4_values_X4_refuse
set_option maxRecDepth 20000 in
theorem ggX4_values_X4_outside : GoodIn wsX4_values wsX4_outside := goodIn_r _ [12] (by decide +kernel) (by decide +kernel)
set_option maxRecDepth 20000 in
theorem gX4_values_X4_outside : GoodIn wsX4_values (va_wsS RX4 59 yX4_outside wsX4_outside) := goodIn_app (goodIn_of _ (by decide +kernel)) ggX4_values_X4_outside
set_option maxRecDepth 20000 in
theorem ggX4_values_X4_reach : GoodIn wsX4_values wsX4_reach := goodIn_r _ [20, 21, 22, 34, 35, 36, 37, 38, 39, 40, 41, 42, 43, 44, 45, 46, 47, 48, 49, 50, 51] (by decide +kernel) (by decide +kernel)
set_option maxRecDepth 20000 in
theorem gX4_values_X4_reach : GoodIn wsX4_values (wsV RX4 156 RX4 yX4_reach wsX4_reach) := goodIn_app (goodIn_of _ (by decide +kernel)) ggX4_values_X4_reach
set_option maxRecDepth 20000 in
theorem ggX4_values_X4_at : GoodIn wsX4_values wsX4_at := goodIn_r _ [26, 3, 27, 2, 34, 35, 36, 37, 38, 39, 40, 41, 42, 43, 44, 45, 46, 47, 48, 49, 50, 51] (by decide +kernel) (by decide +kernel)
set_option maxRecDepth 20000 in
theorem gX4_values_X4_at : GoodIn wsX4_values (wsV RX4 159 RX4 yX4_at wsX4_at) := goodIn_app (goodIn_of _ (by decide +kernel)) ggX4_values_X4_at
set_option maxRecDepth 20000 in
theorem ggX4_values_X4_common : GoodIn wsX4_values wsX4_common := goodIn_r _ [30, 31, 32, 7, 33] (by decide +kernel) (by decide +kernel)
set_option maxRecDepth 20000 in
theorem gX4_values_X4_common : GoodIn wsX4_values (va_wsS RX4 45 yX4_common wsX4_common) := goodIn_app (goodIn_of _ (by decide +kernel)) ggX4_values_X4_common
theorem dX4_values_0 : decode cX4_values 0 = .ok (.aload_n 0, 1) := by decide +kernel
theorem dX4_values_1 : decode cX4_values 1 = .ok (.iload_n 1, 1) := by decide +kernel
theorem dX4_values_2 : decode cX4_values 2 = .ok (.invokevirtual 66, 3) := by decide +kernel
theorem dX4_values_5 : decode cX4_values 5 = .ok (.ifCond .ne 9, 3) := by decide +kernel
theorem dX4_values_8 : decode cX4_values 8 = .ok (.aload_n 0, 1) := by decide +kernel
theorem dX4_values_9 : decode cX4_values 9 = .ok (.iconst 1, 1) := by decide +kernel
theorem dX4_values_10 : decode cX4_values 10 = .ok (.invokevirtual 63, 3) := by decide +kernel
theorem dX4_values_13 : decode cX4_values 13 = .ok (.ireturn, 1) := by decide +kernel
theorem dX4_values_14 : decode cX4_values 14 = .ok (.iload_n 2, 1) := by decide +kernel
theorem dX4_values_15 : decode cX4_values 15 = .ok (.iconst 0, 1) := by decide +kernel
theorem dX4_values_16 : decode cX4_values 16 = .ok (.sipush 1000, 3) := by decide +kernel
theorem dX4_values_19 : decode cX4_values 19 = .ok (.invokestatic 59, 3) := by decide +kernel
theorem dX4_values_22 : decode cX4_values 22 = .ok (.ifCond .eq 9, 3) := by decide +kernel
theorem dX4_values_25 : decode cX4_values 25 = .ok (.aload_n 0, 1) := by decide +kernel
theorem dX4_values_26 : decode cX4_values 26 = .ok (.iconst 2, 1) := by decide +kernel
theorem dX4_values_27 : decode cX4_values 27 = .ok (.invokevirtual 63, 3) := by decide +kernel
theorem dX4_values_30 : decode cX4_values 30 = .ok (.ireturn, 1) := by decide +kernel
theorem dX4_values_31 : decode cX4_values 31 = .ok (.aload_n 0, 1) := by decide +kernel
theorem dX4_values_32 : decode cX4_values 32 = .ok (.iconst 0, 1) := by decide +kernel
theorem dX4_values_33 : decode cX4_values 33 = .ok (.putfield 38, 3) := by decide +kernel
theorem dX4_values_36 : decode cX4_values 36 = .ok (.aload_n 0, 1) := by decide +kernel
theorem dX4_values_37 : decode cX4_values 37 = .ok (.aload_n 0, 1) := by decide +kernel
theorem dX4_values_38 : decode cX4_values 38 = .ok (.getfield 20, 3) := by decide +kernel
theorem dX4_values_41 : decode cX4_values 41 = .ok (.iload_n 1, 1) := by decide +kernel
theorem dX4_values_42 : decode cX4_values 42 = .ok (.laload, 1) := by decide +kernel
theorem dX4_values_43 : decode cX4_values 43 = .ok (.iload_n 2, 1) := by decide +kernel
theorem dX4_values_44 : decode cX4_values 44 = .ok (.i2l, 1) := by decide +kernel
theorem dX4_values_45 : decode cX4_values 45 = .ok (.invokevirtual 156, 3) := by decide +kernel
theorem dX4_values_48 : decode cX4_values 48 = .ok (.lstore 4, 2) := by decide +kernel
theorem dX4_values_50 : decode cX4_values 50 = .ok (.aload_n 0, 1) := by decide +kernel
theorem dX4_values_51 : decode cX4_values 51 = .ok (.aload_n 0, 1) := by decide +kernel
theorem dX4_values_52 : decode cX4_values 52 = .ok (.getfield 13, 3) := by decide +kernel
theorem dX4_values_55 : decode cX4_values 55 = .ok (.iload_n 1, 1) := by decide +kernel
theorem dX4_values_56 : decode cX4_values 56 = .ok (.laload, 1) := by decide +kernel
theorem dX4_values_57 : decode cX4_values 57 = .ok (.iload_n 2, 1) := by decide +kernel
theorem dX4_values_58 : decode cX4_values 58 = .ok (.i2l, 1) := by decide +kernel
theorem dX4_values_59 : decode cX4_values 59 = .ok (.invokevirtual 156, 3) := by decide +kernel
theorem dX4_values_62 : decode cX4_values 62 = .ok (.lstore 6, 2) := by decide +kernel
theorem dX4_values_64 : decode cX4_values 64 = .ok (.iconst 0, 1) := by decide +kernel
theorem dX4_values_65 : decode cX4_values 65 = .ok (.istore 8, 2) := by decide +kernel
theorem dX4_values_67 : decode cX4_values 67 = .ok (.lload 4, 2) := by decide +kernel
theorem dX4_values_69 : decode cX4_values 69 = .ok (.lneg, 1) := by decide +kernel
theorem dX4_values_70 : decode cX4_values 70 = .ok (.lstore 9, 2) := by decide +kernel
theorem dX4_values_72 : decode cX4_values 72 = .ok (.lload 9, 2) := by decide +kernel
theorem dX4_values_74 : decode cX4_values 74 = .ok (.lload 4, 2) := by decide +kernel
theorem dX4_values_76 : decode cX4_values 76 = .ok (.lcmp, 1) := by decide +kernel
theorem dX4_values_77 : decode cX4_values 77 = .ok (.ifCond .gt 76, 3) := by decide +kernel
theorem dX4_values_80 : decode cX4_values 80 = .ok (.lload 6, 2) := by decide +kernel
theorem dX4_values_82 : decode cX4_values 82 = .ok (.lneg, 1) := by decide +kernel
theorem dX4_values_83 : decode cX4_values 83 = .ok (.lstore 11, 2) := by decide +kernel
theorem dX4_values_85 : decode cX4_values 85 = .ok (.lload 11, 2) := by decide +kernel
theorem dX4_values_87 : decode cX4_values 87 = .ok (.lload 6, 2) := by decide +kernel
theorem dX4_values_89 : decode cX4_values 89 = .ok (.lcmp, 1) := by decide +kernel
theorem dX4_values_90 : decode cX4_values 90 = .ok (.ifCond .gt 54, 3) := by decide +kernel
theorem dX4_values_93 : decode cX4_values 93 = .ok (.aload_n 0, 1) := by decide +kernel
theorem dX4_values_94 : decode cX4_values 94 = .ok (.iload_n 1, 1) := by decide +kernel
theorem dX4_values_95 : decode cX4_values 95 = .ok (.lload 9, 2) := by decide +kernel
theorem dX4_values_97 : decode cX4_values 97 = .ok (.lload 11, 2) := by decide +kernel
theorem dX4_values_99 : decode cX4_values 99 = .ok (.invokevirtual 159, 3) := by decide +kernel
theorem dX4_values_102 : decode cX4_values 102 = .ok (.iload_n 2, 1) := by decide +kernel
theorem dX4_values_103 : decode cX4_values 103 = .ok (.i2l, 1) := by decide +kernel
theorem dX4_values_104 : decode cX4_values 104 = .ok (.lcmp, 1) := by decide +kernel
theorem dX4_values_105 : decode cX4_values 105 = .ok (.ifCond .ne 26, 3) := by decide +kernel
theorem dX4_values_108 : decode cX4_values 108 = .ok (.iload_n 3, 1) := by decide +kernel
theorem dX4_values_109 : decode cX4_values 109 = .ok (.ifCond .eq 15, 3) := by decide +kernel
theorem dX4_values_112 : decode cX4_values 112 = .ok (.lload 9, 2) := by decide +kernel
theorem dX4_values_114 : decode cX4_values 114 = .ok (.lload 11, 2) := by decide +kernel
theorem dX4_values_116 : decode cX4_values 116 = .ok (.invokestatic 45, 3) := by decide +kernel
theorem dX4_values_119 : decode cX4_values 119 = .ok (.lconst 1, 1) := by decide +kernel
theorem dX4_values_120 : decode cX4_values 120 = .ok (.lcmp, 1) := by decide +kernel
theorem dX4_values_121 : decode cX4_values 121 = .ok (.ifCond .ne 10, 3) := by decide +kernel
theorem dX4_values_124 : decode cX4_values 124 = .ok (.iload 8, 2) := by decide +kernel
theorem dX4_values_126 : decode cX4_values 126 = .ok (.iconst 1, 1) := by decide +kernel
theorem dX4_values_127 : decode cX4_values 127 = .ok (.iadd, 1) := by decide +kernel
theorem dX4_values_128 : decode cX4_values 128 = .ok (.goto 5, 3) := by decide +kernel
theorem dX4_values_131 : decode cX4_values 131 = .ok (.iload 8, 2) := by decide +kernel
theorem dX4_values_133 : decode cX4_values 133 = .ok (.istore 8, 2) := by decide +kernel
theorem dX4_values_135 : decode cX4_values 135 = .ok (.lload 11, 2) := by decide +kernel
theorem dX4_values_137 : decode cX4_values 137 = .ok (.lconst 1, 1) := by decide +kernel
theorem dX4_values_138 : decode cX4_values 138 = .ok (.ladd, 1) := by decide +kernel
theorem dX4_values_139 : decode cX4_values 139 = .ok (.lstore 11, 2) := by decide +kernel
theorem dX4_values_141 : decode cX4_values 141 = .ok (.goto (-56), 3) := by decide +kernel
theorem dX4_values_144 : decode cX4_values 144 = .ok (.lload 9, 2) := by decide +kernel
theorem dX4_values_146 : decode cX4_values 146 = .ok (.lconst 1, 1) := by decide +kernel
theorem dX4_values_147 : decode cX4_values 147 = .ok (.ladd, 1) := by decide +kernel
theorem dX4_values_148 : decode cX4_values 148 = .ok (.lstore 9, 2) := by decide +kernel
theorem dX4_values_150 : decode cX4_values 150 = .ok (.goto (-78), 3) := by decide +kernel
theorem dX4_values_153 : decode cX4_values 153 = .ok (.iload 8, 2) := by decide +kernel
theorem dX4_values_155 : decode cX4_values 155 = .ok (.ireturn, 1) := by decide +kernel
set_option maxRecDepth 20000 in
theorem ggX4_prime_X4_isClass : GoodIn wsX4_prime wsX4_isClass := goodIn_r _ [9, 10, 11, 12, 8, 13, 61, 62, 63, 64, 65, 66, 67, 68, 69, 70, 71, 72, 73, 74, 75, 76, 77, 78] (by decide +kernel) (by decide +kernel)
set_option maxRecDepth 20000 in
theorem gX4_prime_X4_isClass : GoodIn wsX4_prime (wsV RX4 66 RX4 yX4_isClass wsX4_isClass) := goodIn_app (goodIn_of _ (by decide +kernel)) ggX4_prime_X4_isClass
set_option maxRecDepth 20000 in
theorem ggX4_prime_X4_refuse : GoodIn wsX4_prime wsX4_refuse := goodIn_r _ [17, 1, 61, 62, 63, 64, 65, 66, 67, 68, 69, 70, 71, 72, 73, 74, 75, 76, 77, 78] (by decide +kernel) (by decide +kernel)
set_option maxRecDepth 20000 in
theorem gX4_prime_X4_refuse : GoodIn wsX4_prime (wsV RX4 63 RX4 yX4_refuse wsX4_refuse) := goodIn_app (goodIn_of _ (by decide +kernel)) ggX4_prime_X4_refuse
set_option maxRecDepth 20000 in
theorem ggX4_prime_X4_outside : GoodIn wsX4_prime wsX4_outside := goodIn_r _ [13] (by decide +kernel) (by decide +kernel)
set_option maxRecDepth 20000 in
theorem gX4_prime_X4_outside : GoodIn wsX4_prime (va_wsS RX4 59 yX4_outside wsX4_outside) := goodIn_app (goodIn_of _ (by decide +kernel)) ggX4_prime_X4_outside
set_option maxRecDepth 20000 in
theorem ggX4_prime_X4_away : GoodIn wsX4_prime wsX4_away := goodIn_r _ [21, 22, 4, 23, 3, 24, 25, 8, 26, 27, 28, 29, 30, 31, 32, 33, 2, 34, 35, 36, 37, 38, 39, 40, 41, 42, 43, 44, 45, 46, 47, 48, 49, 50, 61, 62, 63, 64, 65, 66, 67, 68, 69, 70, 71, 72, 73, 74, 75, 76, 77, 78] (by decide +kernel) (by decide +kernel)
set_option maxRecDepth 20000 in
theorem gX4_prime_X4_away : GoodIn wsX4_prime (wsV RX4 132 RX4 yX4_away wsX4_away) := goodIn_app (goodIn_of _ (by decide +kernel)) ggX4_prime_X4_away
set_option maxRecDepth 20000 in
theorem ggX4_prime_X4_reach : GoodIn wsX4_prime wsX4_reach := goodIn_r _ [54, 55, 56, 61, 62, 63, 64, 65, 66, 67, 68, 69, 70, 71, 72, 73, 74, 75, 76, 77, 78] (by decide +kernel) (by decide +kernel)
set_option maxRecDepth 20000 in
theorem gX4_prime_X4_reach : GoodIn wsX4_prime (wsV RX4 156 RX4 yX4_reach wsX4_reach) := goodIn_app (goodIn_of _ (by decide +kernel)) ggX4_prime_X4_reach
set_option maxRecDepth 20000 in
theorem ggX4_prime_X4_at : GoodIn wsX4_prime wsX4_at := goodIn_r _ [60, 4, 23, 3, 61, 62, 63, 64, 65, 66, 67, 68, 69, 70, 71, 72, 73, 74, 75, 76, 77, 78] (by decide +kernel) (by decide +kernel)
set_option maxRecDepth 20000 in
theorem gX4_prime_X4_at : GoodIn wsX4_prime (wsV RX4 159 RX4 yX4_at wsX4_at) := goodIn_app (goodIn_of _ (by decide +kernel)) ggX4_prime_X4_at
set_option maxRecDepth 20000 in
theorem ggX4_prime_X4_common : GoodIn wsX4_prime wsX4_common := goodIn_r _ [26, 27, 28, 8, 29] (by decide +kernel) (by decide +kernel)
set_option maxRecDepth 20000 in
theorem gX4_prime_X4_common : GoodIn wsX4_prime (va_wsS RX4 45 yX4_common wsX4_common) := goodIn_app (goodIn_of _ (by decide +kernel)) ggX4_prime_X4_common
theorem dX4_prime_0 : decode cX4_prime 0 = .ok (.aload_n 0, 1) := by decide +kernel
theorem dX4_prime_1 : decode cX4_prime 1 = .ok (.iload_n 1, 1) := by decide +kernel
theorem dX4_prime_2 : decode cX4_prime 2 = .ok (.invokevirtual 66, 3) := by decide +kernel
theorem dX4_prime_5 : decode cX4_prime 5 = .ok (.ifCond .ne 9, 3) := by decide +kernel
theorem dX4_prime_8 : decode cX4_prime 8 = .ok (.aload_n 0, 1) := by decide +kernel
theorem dX4_prime_9 : decode cX4_prime 9 = .ok (.iconst 1, 1) := by decide +kernel
theorem dX4_prime_10 : decode cX4_prime 10 = .ok (.invokevirtual 63, 3) := by decide +kernel
theorem dX4_prime_13 : decode cX4_prime 13 = .ok (.ireturn, 1) := by decide +kernel
theorem dX4_prime_14 : decode cX4_prime 14 = .ok (.iload_n 2, 1) := by decide +kernel
theorem dX4_prime_15 : decode cX4_prime 15 = .ok (.iconst 1, 1) := by decide +kernel
theorem dX4_prime_16 : decode cX4_prime 16 = .ok (.sipush 500, 3) := by decide +kernel
theorem dX4_prime_19 : decode cX4_prime 19 = .ok (.invokestatic 59, 3) := by decide +kernel
theorem dX4_prime_22 : decode cX4_prime 22 = .ok (.ifCond .eq 9, 3) := by decide +kernel
theorem dX4_prime_25 : decode cX4_prime 25 = .ok (.aload_n 0, 1) := by decide +kernel
theorem dX4_prime_26 : decode cX4_prime 26 = .ok (.iconst 2, 1) := by decide +kernel
theorem dX4_prime_27 : decode cX4_prime 27 = .ok (.invokevirtual 63, 3) := by decide +kernel
theorem dX4_prime_30 : decode cX4_prime 30 = .ok (.ireturn, 1) := by decide +kernel
theorem dX4_prime_31 : decode cX4_prime 31 = .ok (.aload_n 0, 1) := by decide +kernel
theorem dX4_prime_32 : decode cX4_prime 32 = .ok (.iconst 0, 1) := by decide +kernel
theorem dX4_prime_33 : decode cX4_prime 33 = .ok (.putfield 38, 3) := by decide +kernel
theorem dX4_prime_36 : decode cX4_prime 36 = .ok (.aload_n 0, 1) := by decide +kernel
theorem dX4_prime_37 : decode cX4_prime 37 = .ok (.iload_n 1, 1) := by decide +kernel
theorem dX4_prime_38 : decode cX4_prime 38 = .ok (.iload_n 2, 1) := by decide +kernel
theorem dX4_prime_39 : decode cX4_prime 39 = .ok (.i2l, 1) := by decide +kernel
theorem dX4_prime_40 : decode cX4_prime 40 = .ok (.invokevirtual 132, 3) := by decide +kernel
theorem dX4_prime_43 : decode cX4_prime 43 = .ok (.aload_n 0, 1) := by decide +kernel
theorem dX4_prime_44 : decode cX4_prime 44 = .ok (.getfield 70, 3) := by decide +kernel
theorem dX4_prime_47 : decode cX4_prime 47 = .ok (.lstore_n 3, 1) := by decide +kernel
theorem dX4_prime_48 : decode cX4_prime 48 = .ok (.aload_n 0, 1) := by decide +kernel
theorem dX4_prime_49 : decode cX4_prime 49 = .ok (.aload_n 0, 1) := by decide +kernel
theorem dX4_prime_50 : decode cX4_prime 50 = .ok (.getfield 20, 3) := by decide +kernel
theorem dX4_prime_53 : decode cX4_prime 53 = .ok (.iload_n 1, 1) := by decide +kernel
theorem dX4_prime_54 : decode cX4_prime 54 = .ok (.laload, 1) := by decide +kernel
theorem dX4_prime_55 : decode cX4_prime 55 = .ok (.lload_n 3, 1) := by decide +kernel
theorem dX4_prime_56 : decode cX4_prime 56 = .ok (.invokevirtual 156, 3) := by decide +kernel
theorem dX4_prime_59 : decode cX4_prime 59 = .ok (.lstore 5, 2) := by decide +kernel
theorem dX4_prime_61 : decode cX4_prime 61 = .ok (.aload_n 0, 1) := by decide +kernel
theorem dX4_prime_62 : decode cX4_prime 62 = .ok (.aload_n 0, 1) := by decide +kernel
theorem dX4_prime_63 : decode cX4_prime 63 = .ok (.getfield 13, 3) := by decide +kernel
theorem dX4_prime_66 : decode cX4_prime 66 = .ok (.iload_n 1, 1) := by decide +kernel
theorem dX4_prime_67 : decode cX4_prime 67 = .ok (.laload, 1) := by decide +kernel
theorem dX4_prime_68 : decode cX4_prime 68 = .ok (.lload_n 3, 1) := by decide +kernel
theorem dX4_prime_69 : decode cX4_prime 69 = .ok (.invokevirtual 156, 3) := by decide +kernel
theorem dX4_prime_72 : decode cX4_prime 72 = .ok (.lstore 7, 2) := by decide +kernel
theorem dX4_prime_74 : decode cX4_prime 74 = .ok (.lload 5, 2) := by decide +kernel
theorem dX4_prime_76 : decode cX4_prime 76 = .ok (.lneg, 1) := by decide +kernel
theorem dX4_prime_77 : decode cX4_prime 77 = .ok (.lstore 9, 2) := by decide +kernel
theorem dX4_prime_79 : decode cX4_prime 79 = .ok (.lload 9, 2) := by decide +kernel
theorem dX4_prime_81 : decode cX4_prime 81 = .ok (.lload 5, 2) := by decide +kernel
theorem dX4_prime_83 : decode cX4_prime 83 = .ok (.lcmp, 1) := by decide +kernel
theorem dX4_prime_84 : decode cX4_prime 84 = .ok (.ifCond .gt 84, 3) := by decide +kernel
theorem dX4_prime_87 : decode cX4_prime 87 = .ok (.lconst 0, 1) := by decide +kernel
theorem dX4_prime_88 : decode cX4_prime 88 = .ok (.lstore 11, 2) := by decide +kernel
theorem dX4_prime_90 : decode cX4_prime 90 = .ok (.lload 11, 2) := by decide +kernel
theorem dX4_prime_92 : decode cX4_prime 92 = .ok (.lload 7, 2) := by decide +kernel
theorem dX4_prime_94 : decode cX4_prime 94 = .ok (.lcmp, 1) := by decide +kernel
theorem dX4_prime_95 : decode cX4_prime 95 = .ok (.ifCond .gt 64, 3) := by decide +kernel
theorem dX4_prime_98 : decode cX4_prime 98 = .ok (.aload_n 0, 1) := by decide +kernel
theorem dX4_prime_99 : decode cX4_prime 99 = .ok (.iload_n 1, 1) := by decide +kernel
theorem dX4_prime_100 : decode cX4_prime 100 = .ok (.lload 9, 2) := by decide +kernel
theorem dX4_prime_102 : decode cX4_prime 102 = .ok (.lload 11, 2) := by decide +kernel
theorem dX4_prime_104 : decode cX4_prime 104 = .ok (.invokevirtual 159, 3) := by decide +kernel
theorem dX4_prime_107 : decode cX4_prime 107 = .ok (.lstore 13, 2) := by decide +kernel
theorem dX4_prime_109 : decode cX4_prime 109 = .ok (.lload 13, 2) := by decide +kernel
theorem dX4_prime_111 : decode cX4_prime 111 = .ok (.lconst 0, 1) := by decide +kernel
theorem dX4_prime_112 : decode cX4_prime 112 = .ok (.lcmp, 1) := by decide +kernel
theorem dX4_prime_113 : decode cX4_prime 113 = .ok (.ifCond .le 37, 3) := by decide +kernel
theorem dX4_prime_116 : decode cX4_prime 116 = .ok (.lload 13, 2) := by decide +kernel
theorem dX4_prime_118 : decode cX4_prime 118 = .ok (.lload_n 3, 1) := by decide +kernel
theorem dX4_prime_119 : decode cX4_prime 119 = .ok (.lcmp, 1) := by decide +kernel
theorem dX4_prime_120 : decode cX4_prime 120 = .ok (.ifCond .ge 30, 3) := by decide +kernel
theorem dX4_prime_123 : decode cX4_prime 123 = .ok (.lload 9, 2) := by decide +kernel
theorem dX4_prime_125 : decode cX4_prime 125 = .ok (.lload 11, 2) := by decide +kernel
theorem dX4_prime_127 : decode cX4_prime 127 = .ok (.invokestatic 45, 3) := by decide +kernel
theorem dX4_prime_130 : decode cX4_prime 130 = .ok (.lconst 1, 1) := by decide +kernel
theorem dX4_prime_131 : decode cX4_prime 131 = .ok (.lcmp, 1) := by decide +kernel
theorem dX4_prime_132 : decode cX4_prime 132 = .ok (.ifCond .ne 18, 3) := by decide +kernel
theorem dX4_prime_135 : decode cX4_prime 135 = .ok (.lload 13, 2) := by decide +kernel
theorem dX4_prime_137 : decode cX4_prime 137 = .ok (.iload_n 2, 1) := by decide +kernel
theorem dX4_prime_138 : decode cX4_prime 138 = .ok (.i2l, 1) := by decide +kernel
theorem dX4_prime_139 : decode cX4_prime 139 = .ok (.invokestatic 45, 3) := by decide +kernel
theorem dX4_prime_142 : decode cX4_prime 142 = .ok (.lconst 1, 1) := by decide +kernel
theorem dX4_prime_143 : decode cX4_prime 143 = .ok (.lcmp, 1) := by decide +kernel
theorem dX4_prime_144 : decode cX4_prime 144 = .ok (.ifCond .ne 6, 3) := by decide +kernel
theorem dX4_prime_147 : decode cX4_prime 147 = .ok (.lload 13, 2) := by decide +kernel
theorem dX4_prime_149 : decode cX4_prime 149 = .ok (.lstore_n 3, 1) := by decide +kernel
theorem dX4_prime_150 : decode cX4_prime 150 = .ok (.lload 11, 2) := by decide +kernel
theorem dX4_prime_152 : decode cX4_prime 152 = .ok (.lconst 1, 1) := by decide +kernel
theorem dX4_prime_153 : decode cX4_prime 153 = .ok (.ladd, 1) := by decide +kernel
theorem dX4_prime_154 : decode cX4_prime 154 = .ok (.lstore 11, 2) := by decide +kernel
theorem dX4_prime_156 : decode cX4_prime 156 = .ok (.goto (-66), 3) := by decide +kernel
theorem dX4_prime_159 : decode cX4_prime 159 = .ok (.lload 9, 2) := by decide +kernel
theorem dX4_prime_161 : decode cX4_prime 161 = .ok (.lconst 1, 1) := by decide +kernel
theorem dX4_prime_162 : decode cX4_prime 162 = .ok (.ladd, 1) := by decide +kernel
theorem dX4_prime_163 : decode cX4_prime 163 = .ok (.lstore 9, 2) := by decide +kernel
theorem dX4_prime_165 : decode cX4_prime 165 = .ok (.goto (-86), 3) := by decide +kernel
theorem dX4_prime_168 : decode cX4_prime 168 = .ok (.lload_n 3, 1) := by decide +kernel
theorem dX4_prime_169 : decode cX4_prime 169 = .ok (.l2i, 1) := by decide +kernel
theorem dX4_prime_170 : decode cX4_prime 170 = .ok (.ireturn, 1) := by decide +kernel
theorem dX4_isLetter_0 : decode cX4_isLetter 0 = .ok (.iload_n 0, 1) := by decide +kernel
theorem dX4_isLetter_1 : decode cX4_isLetter 1 = .ok (.bipush 97, 2) := by decide +kernel
theorem dX4_isLetter_3 : decode cX4_isLetter 3 = .ok (.if_icmp .lt 9, 3) := by decide +kernel
theorem dX4_isLetter_6 : decode cX4_isLetter 6 = .ok (.iload_n 0, 1) := by decide +kernel
theorem dX4_isLetter_7 : decode cX4_isLetter 7 = .ok (.bipush 122, 2) := by decide +kernel
theorem dX4_isLetter_9 : decode cX4_isLetter 9 = .ok (.if_icmp .le 15, 3) := by decide +kernel
theorem dX4_isLetter_12 : decode cX4_isLetter 12 = .ok (.iload_n 0, 1) := by decide +kernel
theorem dX4_isLetter_13 : decode cX4_isLetter 13 = .ok (.bipush 65, 2) := by decide +kernel
theorem dX4_isLetter_15 : decode cX4_isLetter 15 = .ok (.if_icmp .lt 13, 3) := by decide +kernel
theorem dX4_isLetter_18 : decode cX4_isLetter 18 = .ok (.iload_n 0, 1) := by decide +kernel
theorem dX4_isLetter_19 : decode cX4_isLetter 19 = .ok (.bipush 90, 2) := by decide +kernel
theorem dX4_isLetter_21 : decode cX4_isLetter 21 = .ok (.if_icmp .gt 7, 3) := by decide +kernel
theorem dX4_isLetter_24 : decode cX4_isLetter 24 = .ok (.iconst 1, 1) := by decide +kernel
theorem dX4_isLetter_25 : decode cX4_isLetter 25 = .ok (.goto 4, 3) := by decide +kernel
theorem dX4_isLetter_28 : decode cX4_isLetter 28 = .ok (.iconst 0, 1) := by decide +kernel
theorem dX4_isLetter_29 : decode cX4_isLetter 29 = .ok (.ireturn, 1) := by decide +kernel
theorem dX4_isDigit_0 : decode cX4_isDigit 0 = .ok (.iload_n 0, 1) := by decide +kernel
theorem dX4_isDigit_1 : decode cX4_isDigit 1 = .ok (.bipush 50, 2) := by decide +kernel
theorem dX4_isDigit_3 : decode cX4_isDigit 3 = .ok (.if_icmp .lt 13, 3) := by decide +kernel
theorem dX4_isDigit_6 : decode cX4_isDigit 6 = .ok (.iload_n 0, 1) := by decide +kernel
theorem dX4_isDigit_7 : decode cX4_isDigit 7 = .ok (.bipush 57, 2) := by decide +kernel
theorem dX4_isDigit_9 : decode cX4_isDigit 9 = .ok (.if_icmp .gt 7, 3) := by decide +kernel
theorem dX4_isDigit_12 : decode cX4_isDigit 12 = .ok (.iconst 1, 1) := by decide +kernel
theorem dX4_isDigit_13 : decode cX4_isDigit 13 = .ok (.goto 4, 3) := by decide +kernel
theorem dX4_isDigit_16 : decode cX4_isDigit 16 = .ok (.iconst 0, 1) := by decide +kernel
theorem dX4_isDigit_17 : decode cX4_isDigit 17 = .ok (.ireturn, 1) := by decide +kernel
set_option maxRecDepth 20000 in
theorem ggX4_put_X4_outside : GoodIn wsX4_put wsX4_outside := goodIn_r _ [7] (by decide +kernel) (by decide +kernel)
set_option maxRecDepth 20000 in
theorem gX4_put_X4_outside : GoodIn wsX4_put (va_wsS RX4 59 yX4_outside wsX4_outside) := goodIn_app (goodIn_of _ (by decide +kernel)) ggX4_put_X4_outside
set_option maxRecDepth 20000 in
theorem ggX4_put_X4_isLetter : GoodIn wsX4_put wsX4_isLetter := goodIn_r _ [10] (by decide +kernel) (by decide +kernel)
set_option maxRecDepth 20000 in
theorem gX4_put_X4_isLetter : GoodIn wsX4_put (va_wsS RX4 166 yX4_isLetter wsX4_isLetter) := goodIn_app (goodIn_of _ (by decide +kernel)) ggX4_put_X4_isLetter
set_option maxRecDepth 20000 in
theorem ggX4_put_X4_isDigit : GoodIn wsX4_put wsX4_isDigit := goodIn_r _ [13] (by decide +kernel) (by decide +kernel)
set_option maxRecDepth 20000 in
theorem gX4_put_X4_isDigit : GoodIn wsX4_put (va_wsS RX4 169 yX4_isDigit wsX4_isDigit) := goodIn_app (goodIn_of _ (by decide +kernel)) ggX4_put_X4_isDigit
theorem dX4_put_0 : decode cX4_put 0 = .ok (.aload_n 0, 1) := by decide +kernel
theorem dX4_put_1 : decode cX4_put 1 = .ok (.iconst 0, 1) := by decide +kernel
theorem dX4_put_2 : decode cX4_put 2 = .ok (.putfield 38, 3) := by decide +kernel
theorem dX4_put_5 : decode cX4_put 5 = .ok (.iload_n 2, 1) := by decide +kernel
theorem dX4_put_6 : decode cX4_put 6 = .ok (.iconst 1, 1) := by decide +kernel
theorem dX4_put_7 : decode cX4_put 7 = .ok (.iconst 4, 1) := by decide +kernel
theorem dX4_put_8 : decode cX4_put 8 = .ok (.invokestatic 59, 3) := by decide +kernel
theorem dX4_put_11 : decode cX4_put 11 = .ok (.ifCond .ne 14, 3) := by decide +kernel
theorem dX4_put_14 : decode cX4_put 14 = .ok (.aload_n 0, 1) := by decide +kernel
theorem dX4_put_15 : decode cX4_put 15 = .ok (.getfield 163, 3) := by decide +kernel
theorem dX4_put_18 : decode cX4_put 18 = .ok (.iload_n 2, 1) := by decide +kernel
theorem dX4_put_19 : decode cX4_put 19 = .ok (.iadd, 1) := by decide +kernel
theorem dX4_put_20 : decode cX4_put 20 = .ok (.bipush 40, 2) := by decide +kernel
theorem dX4_put_22 : decode cX4_put 22 = .ok (.if_icmp .le 5, 3) := by decide +kernel
theorem dX4_put_25 : decode cX4_put 25 = .ok (.iconst 0, 1) := by decide +kernel
theorem dX4_put_26 : decode cX4_put 26 = .ok (.ireturn, 1) := by decide +kernel
theorem dX4_put_27 : decode cX4_put 27 = .ok (.iconst 0, 1) := by decide +kernel
theorem dX4_put_28 : decode cX4_put 28 = .ok (.istore_n 3, 1) := by decide +kernel
theorem dX4_put_29 : decode cX4_put 29 = .ok (.iload_n 3, 1) := by decide +kernel
theorem dX4_put_30 : decode cX4_put 30 = .ok (.iload_n 2, 1) := by decide +kernel
theorem dX4_put_31 : decode cX4_put 31 = .ok (.if_icmp .ge 53, 3) := by decide +kernel
theorem dX4_put_34 : decode cX4_put 34 = .ok (.iload_n 1, 1) := by decide +kernel
theorem dX4_put_35 : decode cX4_put 35 = .ok (.bipush 8, 2) := by decide +kernel
theorem dX4_put_37 : decode cX4_put 37 = .ok (.iload_n 3, 1) := by decide +kernel
theorem dX4_put_38 : decode cX4_put 38 = .ok (.imul, 1) := by decide +kernel
theorem dX4_put_39 : decode cX4_put 39 = .ok (.ishr, 1) := by decide +kernel
theorem dX4_put_40 : decode cX4_put 40 = .ok (.sipush 255, 3) := by decide +kernel
theorem dX4_put_43 : decode cX4_put 43 = .ok (.iand, 1) := by decide +kernel
theorem dX4_put_44 : decode cX4_put 44 = .ok (.istore 4, 2) := by decide +kernel
theorem dX4_put_46 : decode cX4_put 46 = .ok (.iload 4, 2) := by decide +kernel
theorem dX4_put_48 : decode cX4_put 48 = .ok (.invokestatic 166, 3) := by decide +kernel
theorem dX4_put_51 : decode cX4_put 51 = .ok (.ifCond .ne 27, 3) := by decide +kernel
theorem dX4_put_54 : decode cX4_put 54 = .ok (.iload 4, 2) := by decide +kernel
theorem dX4_put_56 : decode cX4_put 56 = .ok (.invokestatic 169, 3) := by decide +kernel
theorem dX4_put_59 : decode cX4_put 59 = .ok (.ifCond .ne 19, 3) := by decide +kernel
theorem dX4_put_62 : decode cX4_put 62 = .ok (.iload 4, 2) := by decide +kernel
theorem dX4_put_64 : decode cX4_put 64 = .ok (.bipush 40, 2) := by decide +kernel
theorem dX4_put_66 : decode cX4_put 66 = .ok (.if_icmp .eq 12, 3) := by decide +kernel
theorem dX4_put_69 : decode cX4_put 69 = .ok (.iload 4, 2) := by decide +kernel
theorem dX4_put_71 : decode cX4_put 71 = .ok (.bipush 41, 2) := by decide +kernel
theorem dX4_put_73 : decode cX4_put 73 = .ok (.if_icmp .eq 5, 3) := by decide +kernel
theorem dX4_put_76 : decode cX4_put 76 = .ok (.iconst 0, 1) := by decide +kernel
theorem dX4_put_77 : decode cX4_put 77 = .ok (.ireturn, 1) := by decide +kernel
theorem dX4_put_78 : decode cX4_put 78 = .ok (.iinc 3 1, 3) := by decide +kernel
theorem dX4_put_81 : decode cX4_put 81 = .ok (.goto (-52), 3) := by decide +kernel
theorem dX4_put_84 : decode cX4_put 84 = .ok (.iload_n 2, 1) := by decide +kernel
theorem dX4_put_85 : decode cX4_put 85 = .ok (.iconst 1, 1) := by decide +kernel
theorem dX4_put_86 : decode cX4_put 86 = .ok (.isub, 1) := by decide +kernel
theorem dX4_put_87 : decode cX4_put 87 = .ok (.istore_n 3, 1) := by decide +kernel
theorem dX4_put_88 : decode cX4_put 88 = .ok (.iload_n 3, 1) := by decide +kernel
theorem dX4_put_89 : decode cX4_put 89 = .ok (.ifCond .lt 39, 3) := by decide +kernel
theorem dX4_put_92 : decode cX4_put 92 = .ok (.aload_n 0, 1) := by decide +kernel
theorem dX4_put_93 : decode cX4_put 93 = .ok (.getfield 26, 3) := by decide +kernel
theorem dX4_put_96 : decode cX4_put 96 = .ok (.aload_n 0, 1) := by decide +kernel
theorem dX4_put_97 : decode cX4_put 97 = .ok (.getfield 163, 3) := by decide +kernel
theorem dX4_put_100 : decode cX4_put 100 = .ok (.iload_n 1, 1) := by decide +kernel
theorem dX4_put_101 : decode cX4_put 101 = .ok (.bipush 8, 2) := by decide +kernel
theorem dX4_put_103 : decode cX4_put 103 = .ok (.iload_n 3, 1) := by decide +kernel
theorem dX4_put_104 : decode cX4_put 104 = .ok (.imul, 1) := by decide +kernel
theorem dX4_put_105 : decode cX4_put 105 = .ok (.ishr, 1) := by decide +kernel
theorem dX4_put_106 : decode cX4_put 106 = .ok (.sipush 255, 3) := by decide +kernel
theorem dX4_put_109 : decode cX4_put 109 = .ok (.iand, 1) := by decide +kernel
theorem dX4_put_110 : decode cX4_put 110 = .ok (.i2c, 1) := by decide +kernel
theorem dX4_put_111 : decode cX4_put 111 = .ok (.castore, 1) := by decide +kernel
theorem dX4_put_112 : decode cX4_put 112 = .ok (.aload_n 0, 1) := by decide +kernel
theorem dX4_put_113 : decode cX4_put 113 = .ok (.dup, 1) := by decide +kernel
theorem dX4_put_114 : decode cX4_put 114 = .ok (.getfield 163, 3) := by decide +kernel
theorem dX4_put_117 : decode cX4_put 117 = .ok (.iconst 1, 1) := by decide +kernel
theorem dX4_put_118 : decode cX4_put 118 = .ok (.iadd, 1) := by decide +kernel
theorem dX4_put_119 : decode cX4_put 119 = .ok (.putfield 163, 3) := by decide +kernel
theorem dX4_put_122 : decode cX4_put 122 = .ok (.iinc 3 (-1), 3) := by decide +kernel
theorem dX4_put_125 : decode cX4_put 125 = .ok (.goto (-37), 3) := by decide +kernel
theorem dX4_put_128 : decode cX4_put 128 = .ok (.iconst 1, 1) := by decide +kernel
theorem dX4_put_129 : decode cX4_put 129 = .ok (.ireturn, 1) := by decide +kernel
theorem dX4_clear_0 : decode cX4_clear 0 = .ok (.aload_n 0, 1) := by decide +kernel
theorem dX4_clear_1 : decode cX4_clear 1 = .ok (.iconst 0, 1) := by decide +kernel
theorem dX4_clear_2 : decode cX4_clear 2 = .ok (.putfield 38, 3) := by decide +kernel
theorem dX4_clear_5 : decode cX4_clear 5 = .ok (.aload_n 0, 1) := by decide +kernel
theorem dX4_clear_6 : decode cX4_clear 6 = .ok (.iconst 0, 1) := by decide +kernel
theorem dX4_clear_7 : decode cX4_clear 7 = .ok (.putfield 163, 3) := by decide +kernel
theorem dX4_clear_10 : decode cX4_clear 10 = .ok (.return_, 1) := by decide +kernel
set_option maxRecDepth 20000 in
theorem ggX4_join_X4_product : GoodIn wsX4_join wsX4_product := goodIn_r _ [6, 7, 8, 9, 10, 11, 12, 13, 14, 15, 16, 17, 5, 18, 19, 20, 21, 22, 23, 24, 25, 26, 27, 28, 29, 30, 31, 32, 33, 34, 35, 36, 37, 38, 39, 40, 41, 42, 43, 44, 45, 46, 47, 48, 49, 50, 51, 52, 53, 54, 55, 56, 57, 58, 59, 60, 61, 62, 63, 64, 65, 66, 67, 68, 69, 70, 71, 72, 73, 74, 75, 76, 77, 78, 79] (by decide +kernel) (by decide +kernel)
set_option maxRecDepth 20000 in
theorem gX4_join_X4_product : GoodIn wsX4_join (wsV RX4 136 RX4 yX4_product wsX4_product) := goodIn_app (goodIn_of _ (by decide +kernel)) ggX4_join_X4_product
theorem dX4_join_0 : decode cX4_join 0 = .ok (.iload_n 2, 1) := by decide +kernel
theorem dX4_join_1 : decode cX4_join 1 = .ok (.iconst (-1), 1) := by decide +kernel
theorem dX4_join_2 : decode cX4_join 2 = .ok (.if_icmp .eq 20, 3) := by decide +kernel
theorem dX4_join_5 : decode cX4_join 5 = .ok (.aload_n 0, 1) := by decide +kernel
theorem dX4_join_6 : decode cX4_join 6 = .ok (.getfield 30, 3) := by decide +kernel
theorem dX4_join_9 : decode cX4_join 9 = .ok (.iload_n 1, 1) := by decide +kernel
theorem dX4_join_10 : decode cX4_join 10 = .ok (.aload_n 0, 1) := by decide +kernel
theorem dX4_join_11 : decode cX4_join 11 = .ok (.aload_n 0, 1) := by decide +kernel
theorem dX4_join_12 : decode cX4_join 12 = .ok (.getfield 30, 3) := by decide +kernel
theorem dX4_join_15 : decode cX4_join 15 = .ok (.iload_n 1, 1) := by decide +kernel
theorem dX4_join_16 : decode cX4_join 16 = .ok (.iaload, 1) := by decide +kernel
theorem dX4_join_17 : decode cX4_join 17 = .ok (.iload_n 2, 1) := by decide +kernel
theorem dX4_join_18 : decode cX4_join 18 = .ok (.invokevirtual 136, 3) := by decide +kernel
theorem dX4_join_21 : decode cX4_join 21 = .ok (.iastore, 1) := by decide +kernel
theorem dX4_join_22 : decode cX4_join 22 = .ok (.return_, 1) := by decide +kernel
set_option maxRecDepth 20000 in
theorem ggX4_word_X4_isDigit : GoodIn wsX4_word wsX4_isDigit := goodIn_r _ [8] (by decide +kernel) (by decide +kernel)
set_option maxRecDepth 20000 in
theorem gX4_word_X4_isDigit : GoodIn wsX4_word (va_wsS RX4 169 yX4_isDigit wsX4_isDigit) := goodIn_app (goodIn_of _ (by decide +kernel)) ggX4_word_X4_isDigit
set_option maxRecDepth 20000 in
theorem ggX4_word_X4_refuse : GoodIn wsX4_word wsX4_refuse := goodIn_r _ [12, 4, 95, 96, 97, 98, 99, 100, 101, 102, 103, 104, 105, 106, 107, 108, 109, 110, 111, 112] (by decide +kernel) (by decide +kernel)
set_option maxRecDepth 20000 in
theorem gX4_word_X4_refuse : GoodIn wsX4_word (wsV RX4 63 RX4 yX4_refuse wsX4_refuse) := goodIn_app (goodIn_of _ (by decide +kernel)) ggX4_word_X4_refuse
set_option maxRecDepth 20000 in
theorem ggX4_word_X4_raised : GoodIn wsX4_word wsX4_raised := goodIn_r _ [16, 17, 18, 19, 7, 20, 21, 22, 23, 24, 25, 26, 27, 28, 29, 30, 31, 32, 33, 34, 35, 36, 37, 38, 39, 40, 41, 42, 43, 44, 45, 46, 47, 48, 49, 50, 51, 52, 53, 54, 55, 56, 57, 58, 59, 60, 61, 62, 63, 64, 65, 66, 67, 68, 69, 70, 71, 72, 73, 74, 75, 76, 77, 78, 79, 95, 96, 97, 98, 99, 100, 101, 102, 103, 104, 105, 106, 107, 108, 109, 110, 111, 112] (by decide +kernel) (by decide +kernel)
set_option maxRecDepth 20000 in
theorem gX4_word_X4_raised : GoodIn wsX4_word (wsV RX4 146 RX4 yX4_raised wsX4_raised) := goodIn_app (goodIn_of _ (by decide +kernel)) ggX4_word_X4_raised
set_option maxRecDepth 20000 in
theorem ggX4_word_X4_join : GoodIn wsX4_word wsX4_join := goodIn_r _ [83, 1, 21, 22, 23, 7, 24, 25, 26, 27, 28, 29, 30, 31, 32, 33, 34, 35, 36, 37, 38, 39, 40, 41, 42, 43, 44, 45, 46, 47, 48, 49, 50, 51, 52, 53, 54, 55, 56, 57, 58, 59, 60, 61, 62, 63, 64, 65, 66, 67, 68, 69, 70, 71, 72, 73, 74, 75, 76, 77, 78, 79, 95, 96, 97, 98, 99, 100, 101, 102, 103, 104, 105, 106, 107, 108, 109, 110, 111, 112] (by decide +kernel) (by decide +kernel)
set_option maxRecDepth 20000 in
theorem gX4_word_X4_join : GoodIn wsX4_word (wsV RX4 172 RX4 yX4_join wsX4_join) := goodIn_app (goodIn_of _ (by decide +kernel)) ggX4_word_X4_join
set_option maxRecDepth 20000 in
theorem ggX4_word_X4_isClass : GoodIn wsX4_word wsX4_isClass := goodIn_r _ [87, 79, 88, 89, 7, 90, 95, 96, 97, 98, 99, 100, 101, 102, 103, 104, 105, 106, 107, 108, 109, 110, 111, 112] (by decide +kernel) (by decide +kernel)
set_option maxRecDepth 20000 in
theorem gX4_word_X4_isClass : GoodIn wsX4_word (wsV RX4 66 RX4 yX4_isClass wsX4_isClass) := goodIn_app (goodIn_of _ (by decide +kernel)) ggX4_word_X4_isClass
set_option maxRecDepth 20000 in
theorem ggX4_word_X4_inverseOf : GoodIn wsX4_word wsX4_inverseOf := goodIn_r _ [94, 21, 22, 23, 7, 24, 25, 26, 27, 28, 29, 30, 31, 32, 33, 34, 35, 36, 37, 38, 39, 40, 41, 42, 43, 44, 45, 46, 47, 48, 49, 50, 51, 52, 53, 54, 55, 56, 57, 58, 59, 60, 61, 62, 63, 64, 65, 66, 67, 68, 69, 70, 71, 72, 73, 74, 75, 76, 77, 78, 79, 95, 96, 97, 98, 99, 100, 101, 102, 103, 104, 105, 106, 107, 108, 109, 110, 111, 112] (by decide +kernel) (by decide +kernel)
set_option maxRecDepth 20000 in
theorem gX4_word_X4_inverseOf : GoodIn wsX4_word (wsV RX4 140 RX4 yX4_inverseOf wsX4_inverseOf) := goodIn_app (goodIn_of _ (by decide +kernel)) ggX4_word_X4_inverseOf
theorem dX4_word_0 : decode cX4_word 0 = .ok (.iconst 0, 1) := by decide +kernel
theorem dX4_word_1 : decode cX4_word 1 = .ok (.istore_n 1, 1) := by decide +kernel
theorem dX4_word_2 : decode cX4_word 2 = .ok (.iconst (-1), 1) := by decide +kernel
theorem dX4_word_3 : decode cX4_word 3 = .ok (.istore_n 2, 1) := by decide +kernel
theorem dX4_word_4 : decode cX4_word 4 = .ok (.iconst 0, 1) := by decide +kernel
theorem dX4_word_5 : decode cX4_word 5 = .ok (.istore_n 3, 1) := by decide +kernel
theorem dX4_word_6 : decode cX4_word 6 = .ok (.aload_n 0, 1) := by decide +kernel
theorem dX4_word_7 : decode cX4_word 7 = .ok (.getfield 30, 3) := by decide +kernel
theorem dX4_word_10 : decode cX4_word 10 = .ok (.iconst 0, 1) := by decide +kernel
theorem dX4_word_11 : decode cX4_word 11 = .ok (.iconst 0, 1) := by decide +kernel
theorem dX4_word_12 : decode cX4_word 12 = .ok (.iastore, 1) := by decide +kernel
theorem dX4_word_13 : decode cX4_word 13 = .ok (.iconst 0, 1) := by decide +kernel
theorem dX4_word_14 : decode cX4_word 14 = .ok (.istore 4, 2) := by decide +kernel
theorem dX4_word_16 : decode cX4_word 16 = .ok (.iload 4, 2) := by decide +kernel
theorem dX4_word_18 : decode cX4_word 18 = .ok (.aload_n 0, 1) := by decide +kernel
theorem dX4_word_19 : decode cX4_word 19 = .ok (.getfield 163, 3) := by decide +kernel
theorem dX4_word_22 : decode cX4_word 22 = .ok (.if_icmp .ge 199, 3) := by decide +kernel
theorem dX4_word_25 : decode cX4_word 25 = .ok (.aload_n 0, 1) := by decide +kernel
theorem dX4_word_26 : decode cX4_word 26 = .ok (.getfield 26, 3) := by decide +kernel
theorem dX4_word_29 : decode cX4_word 29 = .ok (.iload 4, 2) := by decide +kernel
theorem dX4_word_31 : decode cX4_word 31 = .ok (.caload, 1) := by decide +kernel
theorem dX4_word_32 : decode cX4_word 32 = .ok (.istore 5, 2) := by decide +kernel
theorem dX4_word_34 : decode cX4_word 34 = .ok (.iload 5, 2) := by decide +kernel
theorem dX4_word_36 : decode cX4_word 36 = .ok (.invokestatic 169, 3) := by decide +kernel
theorem dX4_word_39 : decode cX4_word 39 = .ok (.ifCond .eq 34, 3) := by decide +kernel
theorem dX4_word_42 : decode cX4_word 42 = .ok (.iload_n 2, 1) := by decide +kernel
theorem dX4_word_43 : decode cX4_word 43 = .ok (.iconst (-1), 1) := by decide +kernel
theorem dX4_word_44 : decode cX4_word 44 = .ok (.if_icmp .ne 9, 3) := by decide +kernel
theorem dX4_word_47 : decode cX4_word 47 = .ok (.aload_n 0, 1) := by decide +kernel
theorem dX4_word_48 : decode cX4_word 48 = .ok (.iconst 1, 1) := by decide +kernel
theorem dX4_word_49 : decode cX4_word 49 = .ok (.invokevirtual 63, 3) := by decide +kernel
theorem dX4_word_52 : decode cX4_word 52 = .ok (.ireturn, 1) := by decide +kernel
theorem dX4_word_53 : decode cX4_word 53 = .ok (.aload_n 0, 1) := by decide +kernel
theorem dX4_word_54 : decode cX4_word 54 = .ok (.iload_n 1, 1) := by decide +kernel
theorem dX4_word_55 : decode cX4_word 55 = .ok (.aload_n 0, 1) := by decide +kernel
theorem dX4_word_56 : decode cX4_word 56 = .ok (.iload_n 2, 1) := by decide +kernel
theorem dX4_word_57 : decode cX4_word 57 = .ok (.iload 5, 2) := by decide +kernel
theorem dX4_word_59 : decode cX4_word 59 = .ok (.bipush 48, 2) := by decide +kernel
theorem dX4_word_61 : decode cX4_word 61 = .ok (.isub, 1) := by decide +kernel
theorem dX4_word_62 : decode cX4_word 62 = .ok (.invokevirtual 146, 3) := by decide +kernel
theorem dX4_word_65 : decode cX4_word 65 = .ok (.invokevirtual 172, 3) := by decide +kernel
theorem dX4_word_68 : decode cX4_word 68 = .ok (.iconst (-1), 1) := by decide +kernel
theorem dX4_word_69 : decode cX4_word 69 = .ok (.istore_n 2, 1) := by decide +kernel
theorem dX4_word_70 : decode cX4_word 70 = .ok (.goto 145, 3) := by decide +kernel
theorem dX4_word_73 : decode cX4_word 73 = .ok (.aload_n 0, 1) := by decide +kernel
theorem dX4_word_74 : decode cX4_word 74 = .ok (.iload_n 1, 1) := by decide +kernel
theorem dX4_word_75 : decode cX4_word 75 = .ok (.iload_n 2, 1) := by decide +kernel
theorem dX4_word_76 : decode cX4_word 76 = .ok (.invokevirtual 172, 3) := by decide +kernel
theorem dX4_word_79 : decode cX4_word 79 = .ok (.iconst (-1), 1) := by decide +kernel
theorem dX4_word_80 : decode cX4_word 80 = .ok (.istore_n 2, 1) := by decide +kernel
theorem dX4_word_81 : decode cX4_word 81 = .ok (.iload 5, 2) := by decide +kernel
theorem dX4_word_83 : decode cX4_word 83 = .ok (.bipush 40, 2) := by decide +kernel
theorem dX4_word_85 : decode cX4_word 85 = .ok (.if_icmp .ne 27, 3) := by decide +kernel
theorem dX4_word_88 : decode cX4_word 88 = .ok (.iload_n 1, 1) := by decide +kernel
theorem dX4_word_89 : decode cX4_word 89 = .ok (.iconst 4, 1) := by decide +kernel
theorem dX4_word_90 : decode cX4_word 90 = .ok (.if_icmp .ne 9, 3) := by decide +kernel
theorem dX4_word_93 : decode cX4_word 93 = .ok (.aload_n 0, 1) := by decide +kernel
theorem dX4_word_94 : decode cX4_word 94 = .ok (.iconst 1, 1) := by decide +kernel
theorem dX4_word_95 : decode cX4_word 95 = .ok (.invokevirtual 63, 3) := by decide +kernel
theorem dX4_word_98 : decode cX4_word 98 = .ok (.ireturn, 1) := by decide +kernel
theorem dX4_word_99 : decode cX4_word 99 = .ok (.iinc 1 1, 3) := by decide +kernel
theorem dX4_word_102 : decode cX4_word 102 = .ok (.aload_n 0, 1) := by decide +kernel
theorem dX4_word_103 : decode cX4_word 103 = .ok (.getfield 30, 3) := by decide +kernel
theorem dX4_word_106 : decode cX4_word 106 = .ok (.iload_n 1, 1) := by decide +kernel
theorem dX4_word_107 : decode cX4_word 107 = .ok (.iconst 0, 1) := by decide +kernel
theorem dX4_word_108 : decode cX4_word 108 = .ok (.iastore, 1) := by decide +kernel
theorem dX4_word_109 : decode cX4_word 109 = .ok (.goto 106, 3) := by decide +kernel
theorem dX4_word_112 : decode cX4_word 112 = .ok (.iload 5, 2) := by decide +kernel
theorem dX4_word_114 : decode cX4_word 114 = .ok (.bipush 41, 2) := by decide +kernel
theorem dX4_word_116 : decode cX4_word 116 = .ok (.if_icmp .ne 26, 3) := by decide +kernel
theorem dX4_word_119 : decode cX4_word 119 = .ok (.iload_n 1, 1) := by decide +kernel
theorem dX4_word_120 : decode cX4_word 120 = .ok (.ifCond .ne 9, 3) := by decide +kernel
theorem dX4_word_123 : decode cX4_word 123 = .ok (.aload_n 0, 1) := by decide +kernel
theorem dX4_word_124 : decode cX4_word 124 = .ok (.iconst 1, 1) := by decide +kernel
theorem dX4_word_125 : decode cX4_word 125 = .ok (.invokevirtual 63, 3) := by decide +kernel
theorem dX4_word_128 : decode cX4_word 128 = .ok (.ireturn, 1) := by decide +kernel
theorem dX4_word_129 : decode cX4_word 129 = .ok (.aload_n 0, 1) := by decide +kernel
theorem dX4_word_130 : decode cX4_word 130 = .ok (.getfield 30, 3) := by decide +kernel
theorem dX4_word_133 : decode cX4_word 133 = .ok (.iload_n 1, 1) := by decide +kernel
theorem dX4_word_134 : decode cX4_word 134 = .ok (.iaload, 1) := by decide +kernel
theorem dX4_word_135 : decode cX4_word 135 = .ok (.istore_n 2, 1) := by decide +kernel
theorem dX4_word_136 : decode cX4_word 136 = .ok (.iinc 1 (-1), 3) := by decide +kernel
theorem dX4_word_139 : decode cX4_word 139 = .ok (.goto 76, 3) := by decide +kernel
theorem dX4_word_142 : decode cX4_word 142 = .ok (.iload 5, 2) := by decide +kernel
theorem dX4_word_144 : decode cX4_word 144 = .ok (.bipush 97, 2) := by decide +kernel
theorem dX4_word_146 : decode cX4_word 146 = .ok (.if_icmp .lt 11, 3) := by decide +kernel
theorem dX4_word_149 : decode cX4_word 149 = .ok (.iload 5, 2) := by decide +kernel
theorem dX4_word_151 : decode cX4_word 151 = .ok (.bipush 97, 2) := by decide +kernel
theorem dX4_word_153 : decode cX4_word 153 = .ok (.isub, 1) := by decide +kernel
theorem dX4_word_154 : decode cX4_word 154 = .ok (.goto 8, 3) := by decide +kernel
theorem dX4_word_157 : decode cX4_word 157 = .ok (.iload 5, 2) := by decide +kernel
theorem dX4_word_159 : decode cX4_word 159 = .ok (.bipush 65, 2) := by decide +kernel
theorem dX4_word_161 : decode cX4_word 161 = .ok (.isub, 1) := by decide +kernel
theorem dX4_word_162 : decode cX4_word 162 = .ok (.istore 6, 2) := by decide +kernel
theorem dX4_word_164 : decode cX4_word 164 = .ok (.iload_n 3, 1) := by decide +kernel
theorem dX4_word_165 : decode cX4_word 165 = .ok (.ifCond .ne 12, 3) := by decide +kernel
theorem dX4_word_168 : decode cX4_word 168 = .ok (.aload_n 0, 1) := by decide +kernel
theorem dX4_word_169 : decode cX4_word 169 = .ok (.iload 6, 2) := by decide +kernel
theorem dX4_word_171 : decode cX4_word 171 = .ok (.invokevirtual 66, 3) := by decide +kernel
theorem dX4_word_174 : decode cX4_word 174 = .ok (.ifCond .ne 7, 3) := by decide +kernel
theorem dX4_word_177 : decode cX4_word 177 = .ok (.iconst 1, 1) := by decide +kernel
theorem dX4_word_178 : decode cX4_word 178 = .ok (.goto 4, 3) := by decide +kernel
theorem dX4_word_181 : decode cX4_word 181 = .ok (.iconst 0, 1) := by decide +kernel
theorem dX4_word_182 : decode cX4_word 182 = .ok (.istore_n 3, 1) := by decide +kernel
theorem dX4_word_183 : decode cX4_word 183 = .ok (.aload_n 0, 1) := by decide +kernel
theorem dX4_word_184 : decode cX4_word 184 = .ok (.iload 6, 2) := by decide +kernel
theorem dX4_word_186 : decode cX4_word 186 = .ok (.invokevirtual 66, 3) := by decide +kernel
theorem dX4_word_189 : decode cX4_word 189 = .ok (.ifCond .ne 7, 3) := by decide +kernel
theorem dX4_word_192 : decode cX4_word 192 = .ok (.iconst 0, 1) := by decide +kernel
theorem dX4_word_193 : decode cX4_word 193 = .ok (.goto 21, 3) := by decide +kernel
theorem dX4_word_196 : decode cX4_word 196 = .ok (.iload 5, 2) := by decide +kernel
theorem dX4_word_198 : decode cX4_word 198 = .ok (.bipush 97, 2) := by decide +kernel
theorem dX4_word_200 : decode cX4_word 200 = .ok (.if_icmp .lt 12, 3) := by decide +kernel
theorem dX4_word_203 : decode cX4_word 203 = .ok (.aload_n 0, 1) := by decide +kernel
theorem dX4_word_204 : decode cX4_word 204 = .ok (.iload 6, 2) := by decide +kernel
theorem dX4_word_206 : decode cX4_word 206 = .ok (.invokevirtual 140, 3) := by decide +kernel
theorem dX4_word_209 : decode cX4_word 209 = .ok (.goto 5, 3) := by decide +kernel
theorem dX4_word_212 : decode cX4_word 212 = .ok (.iload 6, 2) := by decide +kernel
theorem dX4_word_214 : decode cX4_word 214 = .ok (.istore_n 2, 1) := by decide +kernel
theorem dX4_word_215 : decode cX4_word 215 = .ok (.iinc 4 1, 3) := by decide +kernel
theorem dX4_word_218 : decode cX4_word 218 = .ok (.goto (-202), 3) := by decide +kernel
theorem dX4_word_221 : decode cX4_word 221 = .ok (.iload_n 1, 1) := by decide +kernel
theorem dX4_word_222 : decode cX4_word 222 = .ok (.ifCond .le 9, 3) := by decide +kernel
theorem dX4_word_225 : decode cX4_word 225 = .ok (.aload_n 0, 1) := by decide +kernel
theorem dX4_word_226 : decode cX4_word 226 = .ok (.iconst 1, 1) := by decide +kernel
theorem dX4_word_227 : decode cX4_word 227 = .ok (.invokevirtual 63, 3) := by decide +kernel
theorem dX4_word_230 : decode cX4_word 230 = .ok (.ireturn, 1) := by decide +kernel
theorem dX4_word_231 : decode cX4_word 231 = .ok (.iload_n 3, 1) := by decide +kernel
theorem dX4_word_232 : decode cX4_word 232 = .ok (.ifCond .eq 9, 3) := by decide +kernel
theorem dX4_word_235 : decode cX4_word 235 = .ok (.aload_n 0, 1) := by decide +kernel
theorem dX4_word_236 : decode cX4_word 236 = .ok (.iconst 2, 1) := by decide +kernel
theorem dX4_word_237 : decode cX4_word 237 = .ok (.invokevirtual 63, 3) := by decide +kernel
theorem dX4_word_240 : decode cX4_word 240 = .ok (.ireturn, 1) := by decide +kernel
theorem dX4_word_241 : decode cX4_word 241 = .ok (.aload_n 0, 1) := by decide +kernel
theorem dX4_word_242 : decode cX4_word 242 = .ok (.iconst 0, 1) := by decide +kernel
theorem dX4_word_243 : decode cX4_word 243 = .ok (.putfield 38, 3) := by decide +kernel
theorem dX4_word_246 : decode cX4_word 246 = .ok (.aload_n 0, 1) := by decide +kernel
theorem dX4_word_247 : decode cX4_word 247 = .ok (.iconst 0, 1) := by decide +kernel
theorem dX4_word_248 : decode cX4_word 248 = .ok (.iload_n 2, 1) := by decide +kernel
theorem dX4_word_249 : decode cX4_word 249 = .ok (.invokevirtual 172, 3) := by decide +kernel
theorem dX4_word_252 : decode cX4_word 252 = .ok (.aload_n 0, 1) := by decide +kernel
theorem dX4_word_253 : decode cX4_word 253 = .ok (.getfield 30, 3) := by decide +kernel
theorem dX4_word_256 : decode cX4_word 256 = .ok (.iconst 0, 1) := by decide +kernel
theorem dX4_word_257 : decode cX4_word 257 = .ok (.iaload, 1) := by decide +kernel
theorem dX4_word_258 : decode cX4_word 258 = .ok (.ireturn, 1) := by decide +kernel
theorem dJ9_floorDiv_7cf53_0 : decode cJ9_floorDiv_7cf53 0 = .ok (.iload_n 0, 1) := by decide +kernel
theorem dJ9_floorDiv_7cf53_1 : decode cJ9_floorDiv_7cf53 1 = .ok (.iload_n 1, 1) := by decide +kernel
theorem dJ9_floorDiv_7cf53_2 : decode cJ9_floorDiv_7cf53 2 = .ok (.idiv, 1) := by decide +kernel
theorem dJ9_floorDiv_7cf53_3 : decode cJ9_floorDiv_7cf53 3 = .ok (.istore_n 2, 1) := by decide +kernel
theorem dJ9_floorDiv_7cf53_4 : decode cJ9_floorDiv_7cf53 4 = .ok (.iload_n 0, 1) := by decide +kernel
theorem dJ9_floorDiv_7cf53_5 : decode cJ9_floorDiv_7cf53 5 = .ok (.iload_n 1, 1) := by decide +kernel
theorem dJ9_floorDiv_7cf53_6 : decode cJ9_floorDiv_7cf53 6 = .ok (.ixor, 1) := by decide +kernel
theorem dJ9_floorDiv_7cf53_7 : decode cJ9_floorDiv_7cf53 7 = .ok (.ifCond .ge 14, 3) := by decide +kernel
