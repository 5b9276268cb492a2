theorem dX4_away_73 : decode cX4_away 73 = .ok (.lmul, 1) := by decide +kernel
theorem dX4_away_74 : decode cX4_away 74 = .ok (.lload 6, 2) := by decide +kernel
theorem dX4_away_76 : decode cX4_away 76 = .ok (.lmul, 1) := by decide +kernel
theorem dX4_away_77 : decode cX4_away 77 = .ok (.aload_n 0, 1) := by decide +kernel
theorem dX4_away_78 : decode cX4_away 78 = .ok (.getfield 17, 3) := by decide +kernel
theorem dX4_away_81 : decode cX4_away 81 = .ok (.iload_n 1, 1) := by decide +kernel
theorem dX4_away_82 : decode cX4_away 82 = .ok (.laload, 1) := by decide +kernel
theorem dX4_away_83 : decode cX4_away 83 = .ok (.lload 6, 2) := by decide +kernel
theorem dX4_away_85 : decode cX4_away 85 = .ok (.lmul, 1) := by decide +kernel
theorem dX4_away_86 : decode cX4_away 86 = .ok (.lload 8, 2) := by decide +kernel
theorem dX4_away_88 : decode cX4_away 88 = .ok (.lmul, 1) := by decide +kernel
theorem dX4_away_89 : decode cX4_away 89 = .ok (.ladd, 1) := by decide +kernel
theorem dX4_away_90 : decode cX4_away 90 = .ok (.aload_n 0, 1) := by decide +kernel
theorem dX4_away_91 : decode cX4_away 91 = .ok (.getfield 20, 3) := by decide +kernel
theorem dX4_away_94 : decode cX4_away 94 = .ok (.iload_n 1, 1) := by decide +kernel
theorem dX4_away_95 : decode cX4_away 95 = .ok (.laload, 1) := by decide +kernel
theorem dX4_away_96 : decode cX4_away 96 = .ok (.lload 8, 2) := by decide +kernel
theorem dX4_away_98 : decode cX4_away 98 = .ok (.lmul, 1) := by decide +kernel
theorem dX4_away_99 : decode cX4_away 99 = .ok (.lload 8, 2) := by decide +kernel
theorem dX4_away_101 : decode cX4_away 101 = .ok (.lmul, 1) := by decide +kernel
theorem dX4_away_102 : decode cX4_away 102 = .ok (.ladd, 1) := by decide +kernel
theorem dX4_away_103 : decode cX4_away 103 = .ok (.lload_n 2, 1) := by decide +kernel
theorem dX4_away_104 : decode cX4_away 104 = .ok (.invokestatic 45, 3) := by decide +kernel
theorem dX4_away_107 : decode cX4_away 107 = .ok (.lconst 1, 1) := by decide +kernel
theorem dX4_away_108 : decode cX4_away 108 = .ok (.lcmp, 1) := by decide +kernel
theorem dX4_away_109 : decode cX4_away 109 = .ok (.ifCond .eq 6, 3) := by decide +kernel
theorem dX4_away_112 : decode cX4_away 112 = .ok (.goto 34, 3) := by decide +kernel
theorem dX4_away_115 : decode cX4_away 115 = .ok (.aload_n 0, 1) := by decide +kernel
theorem dX4_away_116 : decode cX4_away 116 = .ok (.aload_n 0, 1) := by decide +kernel
theorem dX4_away_117 : decode cX4_away 117 = .ok (.getfield 13, 3) := by decide +kernel
theorem dX4_away_120 : decode cX4_away 120 = .ok (.iload_n 1, 1) := by decide +kernel
theorem dX4_away_121 : decode cX4_away 121 = .ok (.laload, 1) := by decide +kernel
theorem dX4_away_122 : decode cX4_away 122 = .ok (.aload_n 0, 1) := by decide +kernel
theorem dX4_away_123 : decode cX4_away 123 = .ok (.getfield 17, 3) := by decide +kernel
theorem dX4_away_126 : decode cX4_away 126 = .ok (.iload_n 1, 1) := by decide +kernel
theorem dX4_away_127 : decode cX4_away 127 = .ok (.laload, 1) := by decide +kernel
theorem dX4_away_128 : decode cX4_away 128 = .ok (.aload_n 0, 1) := by decide +kernel
theorem dX4_away_129 : decode cX4_away 129 = .ok (.getfield 20, 3) := by decide +kernel
theorem dX4_away_132 : decode cX4_away 132 = .ok (.iload_n 1, 1) := by decide +kernel
theorem dX4_away_133 : decode cX4_away 133 = .ok (.laload, 1) := by decide +kernel
theorem dX4_away_134 : decode cX4_away 134 = .ok (.invokevirtual 106, 3) := by decide +kernel
theorem dX4_away_137 : decode cX4_away 137 = .ok (.aload_n 0, 1) := by decide +kernel
theorem dX4_away_138 : decode cX4_away 138 = .ok (.lload 6, 2) := by decide +kernel
theorem dX4_away_140 : decode cX4_away 140 = .ok (.lload 8, 2) := by decide +kernel
theorem dX4_away_142 : decode cX4_away 142 = .ok (.invokevirtual 124, 3) := by decide +kernel
theorem dX4_away_145 : decode cX4_away 145 = .ok (.return_, 1) := by decide +kernel
theorem dX4_away_146 : decode cX4_away 146 = .ok (.lload 8, 2) := by decide +kernel
theorem dX4_away_148 : decode cX4_away 148 = .ok (.lconst 1, 1) := by decide +kernel
theorem dX4_away_149 : decode cX4_away 149 = .ok (.ladd, 1) := by decide +kernel
theorem dX4_away_150 : decode cX4_away 150 = .ok (.lstore 8, 2) := by decide +kernel
theorem dX4_away_152 : decode cX4_away 152 = .ok (.goto (-126), 3) := by decide +kernel
theorem dX4_away_155 : decode cX4_away 155 = .ok (.lload 6, 2) := by decide +kernel
theorem dX4_away_157 : decode cX4_away 157 = .ok (.lconst 1, 1) := by decide +kernel
theorem dX4_away_158 : decode cX4_away 158 = .ok (.ladd, 1) := by decide +kernel
theorem dX4_away_159 : decode cX4_away 159 = .ok (.lstore 6, 2) := by decide +kernel
theorem dX4_away_161 : decode cX4_away 161 = .ok (.goto (-146), 3) := by decide +kernel
theorem dX4_away_164 : decode cX4_away 164 = .ok (.lload 4, 2) := by decide +kernel
theorem dX4_away_166 : decode cX4_away 166 = .ok (.lconst 1, 1) := by decide +kernel
theorem dX4_away_167 : decode cX4_away 167 = .ok (.ladd, 1) := by decide +kernel
theorem dX4_away_168 : decode cX4_away 168 = .ok (.lstore 4, 2) := by decide +kernel
theorem dX4_away_170 : decode cX4_away 170 = .ok (.goto (-167), 3) := by decide +kernel
theorem dX4_away_173 : decode cX4_away 173 = .ok (.return_, 1) := by decide +kernel
set_option maxRecDepth 20000 in
theorem ggX4_complete_X4_apply : GoodIn wsX4_complete wsX4_apply := goodIn_r _ [7, 8, 9, 10, 11, 12, 13, 14, 15, 16, 17, 18, 19, 20, 21, 22, 23, 24, 25, 26, 27, 28, 29, 30, 31, 32, 33] (by decide +kernel) (by decide +kernel)
set_option maxRecDepth 20000 in
theorem gX4_complete_X4_apply : GoodIn wsX4_complete (wsV RX4 98 RX4 yX4_apply wsX4_apply) := goodIn_app (goodIn_of _ (by decide +kernel)) ggX4_complete_X4_apply
theorem dX4_complete_0 : decode cX4_complete 0 = .ok (.ldc2_w 128, 3) := by decide +kernel
theorem dX4_complete_3 : decode cX4_complete 3 = .ok (.lstore 5, 2) := by decide +kernel
theorem dX4_complete_5 : decode cX4_complete 5 = .ok (.lload 5, 2) := by decide +kernel
theorem dX4_complete_7 : decode cX4_complete 7 = .ok (.ldc2_w 130, 3) := by decide +kernel
theorem dX4_complete_10 : decode cX4_complete 10 = .ok (.lcmp, 1) := by decide +kernel
theorem dX4_complete_11 : decode cX4_complete 11 = .ok (.ifCond .gt 87, 3) := by decide +kernel
theorem dX4_complete_14 : decode cX4_complete 14 = .ok (.lload_n 3, 1) := by decide +kernel
theorem dX4_complete_15 : decode cX4_complete 15 = .ok (.lconst 0, 1) := by decide +kernel
theorem dX4_complete_16 : decode cX4_complete 16 = .ok (.lcmp, 1) := by decide +kernel
theorem dX4_complete_17 : decode cX4_complete 17 = .ok (.ifCond .ne 20, 3) := by decide +kernel
theorem dX4_complete_20 : decode cX4_complete 20 = .ok (.lload_n 1, 1) := by decide +kernel
theorem dX4_complete_21 : decode cX4_complete 21 = .ok (.lload 5, 2) := by decide +kernel
theorem dX4_complete_23 : decode cX4_complete 23 = .ok (.lmul, 1) := by decide +kernel
theorem dX4_complete_24 : decode cX4_complete 24 = .ok (.lconst 1, 1) := by decide +kernel
theorem dX4_complete_25 : decode cX4_complete 25 = .ok (.lcmp, 1) := by decide +kernel
theorem dX4_complete_26 : decode cX4_complete 26 = .ok (.ifCond .ne 7, 3) := by decide +kernel
theorem dX4_complete_29 : decode cX4_complete 29 = .ok (.iconst 1, 1) := by decide +kernel
theorem dX4_complete_30 : decode cX4_complete 30 = .ok (.goto 25, 3) := by decide +kernel
theorem dX4_complete_33 : decode cX4_complete 33 = .ok (.iconst 0, 1) := by decide +kernel
theorem dX4_complete_34 : decode cX4_complete 34 = .ok (.goto 21, 3) := by decide +kernel
theorem dX4_complete_37 : decode cX4_complete 37 = .ok (.lload_n 1, 1) := by decide +kernel
theorem dX4_complete_38 : decode cX4_complete 38 = .ok (.lload 5, 2) := by decide +kernel
theorem dX4_complete_40 : decode cX4_complete 40 = .ok (.lmul, 1) := by decide +kernel
theorem dX4_complete_41 : decode cX4_complete 41 = .ok (.lconst 1, 1) := by decide +kernel
theorem dX4_complete_42 : decode cX4_complete 42 = .ok (.lsub, 1) := by decide +kernel
theorem dX4_complete_43 : decode cX4_complete 43 = .ok (.lload_n 3, 1) := by decide +kernel
theorem dX4_complete_44 : decode cX4_complete 44 = .ok (.lrem, 1) := by decide +kernel
theorem dX4_complete_45 : decode cX4_complete 45 = .ok (.lconst 0, 1) := by decide +kernel
theorem dX4_complete_46 : decode cX4_complete 46 = .ok (.lcmp, 1) := by decide +kernel
theorem dX4_complete_47 : decode cX4_complete 47 = .ok (.ifCond .ne 7, 3) := by decide +kernel
theorem dX4_complete_50 : decode cX4_complete 50 = .ok (.iconst 1, 1) := by decide +kernel
theorem dX4_complete_51 : decode cX4_complete 51 = .ok (.goto 4, 3) := by decide +kernel
theorem dX4_complete_54 : decode cX4_complete 54 = .ok (.iconst 0, 1) := by decide +kernel
theorem dX4_complete_55 : decode cX4_complete 55 = .ok (.istore 7, 2) := by decide +kernel
theorem dX4_complete_57 : decode cX4_complete 57 = .ok (.iload 7, 2) := by decide +kernel
theorem dX4_complete_59 : decode cX4_complete 59 = .ok (.ifCond .eq 30, 3) := by decide +kernel
theorem dX4_complete_62 : decode cX4_complete 62 = .ok (.aload_n 0, 1) := by decide +kernel
theorem dX4_complete_63 : decode cX4_complete 63 = .ok (.lload_n 1, 1) := by decide +kernel
theorem dX4_complete_64 : decode cX4_complete 64 = .ok (.lload_n 3, 1) := by decide +kernel
theorem dX4_complete_65 : decode cX4_complete 65 = .ok (.lconst 0, 1) := by decide +kernel
theorem dX4_complete_66 : decode cX4_complete 66 = .ok (.lcmp, 1) := by decide +kernel
theorem dX4_complete_67 : decode cX4_complete 67 = .ok (.ifCond .ne 7, 3) := by decide +kernel
theorem dX4_complete_70 : decode cX4_complete 70 = .ok (.lconst 0, 1) := by decide +kernel
theorem dX4_complete_71 : decode cX4_complete 71 = .ok (.goto 11, 3) := by decide +kernel
theorem dX4_complete_74 : decode cX4_complete 74 = .ok (.lload_n 1, 1) := by decide +kernel
theorem dX4_complete_75 : decode cX4_complete 75 = .ok (.lload 5, 2) := by decide +kernel
theorem dX4_complete_77 : decode cX4_complete 77 = .ok (.lmul, 1) := by decide +kernel
theorem dX4_complete_78 : decode cX4_complete 78 = .ok (.lconst 1, 1) := by decide +kernel
theorem dX4_complete_79 : decode cX4_complete 79 = .ok (.lsub, 1) := by decide +kernel
theorem dX4_complete_80 : decode cX4_complete 80 = .ok (.lload_n 3, 1) := by decide +kernel
theorem dX4_complete_81 : decode cX4_complete 81 = .ok (.ldiv, 1) := by decide +kernel
theorem dX4_complete_82 : decode cX4_complete 82 = .ok (.lload_n 3, 1) := by decide +kernel
theorem dX4_complete_83 : decode cX4_complete 83 = .ok (.lload 5, 2) := by decide +kernel
theorem dX4_complete_85 : decode cX4_complete 85 = .ok (.invokevirtual 98, 3) := by decide +kernel
theorem dX4_complete_88 : decode cX4_complete 88 = .ok (.return_, 1) := by decide +kernel
theorem dX4_complete_89 : decode cX4_complete 89 = .ok (.lload 5, 2) := by decide +kernel
theorem dX4_complete_91 : decode cX4_complete 91 = .ok (.lconst 1, 1) := by decide +kernel
theorem dX4_complete_92 : decode cX4_complete 92 = .ok (.ladd, 1) := by decide +kernel
theorem dX4_complete_93 : decode cX4_complete 93 = .ok (.lstore 5, 2) := by decide +kernel
theorem dX4_complete_95 : decode cX4_complete 95 = .ok (.goto (-90), 3) := by decide +kernel
theorem dX4_complete_98 : decode cX4_complete 98 = .ok (.return_, 1) := by decide +kernel
set_option maxRecDepth 20000 in
theorem ggX4_product_X4_away : GoodIn wsX4_product wsX4_away := goodIn_r _ [13, 14, 1, 3, 15, 16, 17, 12, 18, 19, 20, 21, 22, 23, 24, 25, 2, 4, 8, 26, 27, 28, 29, 30, 31, 32, 33, 34, 35, 36, 37, 38, 39, 5, 57, 58, 59, 60, 61, 62, 63, 64, 65, 66, 67, 68, 69, 70, 71, 72, 73, 74] (by decide +kernel) (by decide +kernel)
set_option maxRecDepth 20000 in
theorem gX4_product_X4_away : GoodIn wsX4_product (wsV RX4 132 RX4 yX4_away wsX4_away) := goodIn_app (goodIn_of _ (by decide +kernel)) ggX4_product_X4_away
set_option maxRecDepth 20000 in
theorem ggX4_product_X4_begin : GoodIn wsX4_product wsX4_begin := goodIn_r _ [25, 2, 4, 8, 26, 27, 28, 29, 57, 58, 59, 60, 61, 62, 63, 64, 65, 66, 67, 68, 69, 70, 71, 72, 73, 74] (by decide +kernel) (by decide +kernel)
set_option maxRecDepth 20000 in
theorem gX4_product_X4_begin : GoodIn wsX4_product (wsV RX4 106 RX4 yX4_begin wsX4_begin) := goodIn_app (goodIn_of _ (by decide +kernel)) ggX4_product_X4_begin
set_option maxRecDepth 20000 in
theorem ggX4_product_X4_steps : GoodIn wsX4_product wsX4_steps := goodIn_r _ [43, 2, 4, 8, 44, 45, 46, 12, 47, 19, 20, 21, 48, 49, 50, 51, 5, 36, 37, 38, 39, 26, 28, 27, 29, 57, 58, 59, 60, 61, 62, 63, 64, 65, 66, 67, 68, 69, 70, 71, 72, 73, 74] (by decide +kernel) (by decide +kernel)
set_option maxRecDepth 20000 in
theorem gX4_product_X4_steps : GoodIn wsX4_product (wsV RX4 110 RX4 yX4_steps wsX4_steps) := goodIn_app (goodIn_of _ (by decide +kernel)) ggX4_product_X4_steps
set_option maxRecDepth 20000 in
theorem ggX4_product_X4_classOf : GoodIn wsX4_product wsX4_classOf := goodIn_r _ [55, 56, 1, 3, 15, 57, 58, 59, 60, 61, 62, 63, 64, 65, 66, 67, 68, 69, 70, 71, 72, 73, 74] (by decide +kernel) (by decide +kernel)
set_option maxRecDepth 20000 in
theorem gX4_product_X4_classOf : GoodIn wsX4_product (wsV RX4 118 RX4 yX4_classOf wsX4_classOf) := goodIn_app (goodIn_of _ (by decide +kernel)) ggX4_product_X4_classOf
theorem dX4_product_0 : decode cX4_product 0 = .ok (.aload_n 0, 1) := by decide +kernel
theorem dX4_product_1 : decode cX4_product 1 = .ok (.getfield 13, 3) := by decide +kernel
theorem dX4_product_4 : decode cX4_product 4 = .ok (.iload_n 1, 1) := by decide +kernel
theorem dX4_product_5 : decode cX4_product 5 = .ok (.laload, 1) := by decide +kernel
theorem dX4_product_6 : decode cX4_product 6 = .ok (.lstore_n 3, 1) := by decide +kernel
theorem dX4_product_7 : decode cX4_product 7 = .ok (.aload_n 0, 1) := by decide +kernel
theorem dX4_product_8 : decode cX4_product 8 = .ok (.iload_n 2, 1) := by decide +kernel
theorem dX4_product_9 : decode cX4_product 9 = .ok (.lload_n 3, 1) := by decide +kernel
theorem dX4_product_10 : decode cX4_product 10 = .ok (.invokevirtual 132, 3) := by decide +kernel
theorem dX4_product_13 : decode cX4_product 13 = .ok (.aload_n 0, 1) := by decide +kernel
theorem dX4_product_14 : decode cX4_product 14 = .ok (.getfield 70, 3) := by decide +kernel
theorem dX4_product_17 : decode cX4_product 17 = .ok (.lstore 5, 2) := by decide +kernel
theorem dX4_product_19 : decode cX4_product 19 = .ok (.aload_n 0, 1) := by decide +kernel
theorem dX4_product_20 : decode cX4_product 20 = .ok (.getfield 17, 3) := by decide +kernel
theorem dX4_product_23 : decode cX4_product 23 = .ok (.iload_n 1, 1) := by decide +kernel
theorem dX4_product_24 : decode cX4_product 24 = .ok (.laload, 1) := by decide +kernel
theorem dX4_product_25 : decode cX4_product 25 = .ok (.lstore 7, 2) := by decide +kernel
theorem dX4_product_27 : decode cX4_product 27 = .ok (.lload 7, 2) := by decide +kernel
theorem dX4_product_29 : decode cX4_product 29 = .ok (.aload_n 0, 1) := by decide +kernel
theorem dX4_product_30 : decode cX4_product 30 = .ok (.getfield 74, 3) := by decide +kernel
theorem dX4_product_33 : decode cX4_product 33 = .ok (.lsub, 1) := by decide +kernel
theorem dX4_product_34 : decode cX4_product 34 = .ok (.ldc2_w 92, 3) := by decide +kernel
theorem dX4_product_37 : decode cX4_product 37 = .ok (.lload 5, 2) := by decide +kernel
theorem dX4_product_39 : decode cX4_product 39 = .ok (.lmul, 1) := by decide +kernel
theorem dX4_product_40 : decode cX4_product 40 = .ok (.lrem, 1) := by decide +kernel
theorem dX4_product_41 : decode cX4_product 41 = .ok (.lconst 0, 1) := by decide +kernel
theorem dX4_product_42 : decode cX4_product 42 = .ok (.lcmp, 1) := by decide +kernel
theorem dX4_product_43 : decode cX4_product 43 = .ok (.ifCond .eq 16, 3) := by decide +kernel
theorem dX4_product_46 : decode cX4_product 46 = .ok (.lload 7, 2) := by decide +kernel
theorem dX4_product_48 : decode cX4_product 48 = .ok (.ldc2_w 92, 3) := by decide +kernel
theorem dX4_product_51 : decode cX4_product 51 = .ok (.lload_n 3, 1) := by decide +kernel
theorem dX4_product_52 : decode cX4_product 52 = .ok (.lmul, 1) := by decide +kernel
theorem dX4_product_53 : decode cX4_product 53 = .ok (.ladd, 1) := by decide +kernel
theorem dX4_product_54 : decode cX4_product 54 = .ok (.lstore 7, 2) := by decide +kernel
theorem dX4_product_56 : decode cX4_product 56 = .ok (.goto (-29), 3) := by decide +kernel
theorem dX4_product_59 : decode cX4_product 59 = .ok (.aload_n 0, 1) := by decide +kernel
theorem dX4_product_60 : decode cX4_product 60 = .ok (.lload_n 3, 1) := by decide +kernel
theorem dX4_product_61 : decode cX4_product 61 = .ok (.lload 5, 2) := by decide +kernel
theorem dX4_product_63 : decode cX4_product 63 = .ok (.lmul, 1) := by decide +kernel
theorem dX4_product_64 : decode cX4_product 64 = .ok (.lload 7, 2) := by decide +kernel
theorem dX4_product_66 : decode cX4_product 66 = .ok (.lload 7, 2) := by decide +kernel
theorem dX4_product_68 : decode cX4_product 68 = .ok (.lload 7, 2) := by decide +kernel
theorem dX4_product_70 : decode cX4_product 70 = .ok (.lmul, 1) := by decide +kernel
theorem dX4_product_71 : decode cX4_product 71 = .ok (.aload_n 0, 1) := by decide +kernel
theorem dX4_product_72 : decode cX4_product 72 = .ok (.getfield 7, 3) := by decide +kernel
theorem dX4_product_75 : decode cX4_product 75 = .ok (.i2l, 1) := by decide +kernel
theorem dX4_product_76 : decode cX4_product 76 = .ok (.lsub, 1) := by decide +kernel
theorem dX4_product_77 : decode cX4_product 77 = .ok (.ldc2_w 104, 3) := by decide +kernel
theorem dX4_product_80 : decode cX4_product 80 = .ok (.lload_n 3, 1) := by decide +kernel
theorem dX4_product_81 : decode cX4_product 81 = .ok (.lmul, 1) := by decide +kernel
theorem dX4_product_82 : decode cX4_product 82 = .ok (.lload 5, 2) := by decide +kernel
theorem dX4_product_84 : decode cX4_product 84 = .ok (.lmul, 1) := by decide +kernel
theorem dX4_product_85 : decode cX4_product 85 = .ok (.ldiv, 1) := by decide +kernel
theorem dX4_product_86 : decode cX4_product 86 = .ok (.invokevirtual 106, 3) := by decide +kernel
theorem dX4_product_89 : decode cX4_product 89 = .ok (.aload_n 0, 1) := by decide +kernel
theorem dX4_product_90 : decode cX4_product 90 = .ok (.invokevirtual 110, 3) := by decide +kernel
theorem dX4_product_93 : decode cX4_product 93 = .ok (.pop, 1) := by decide +kernel
theorem dX4_product_94 : decode cX4_product 94 = .ok (.aload_n 0, 1) := by decide +kernel
theorem dX4_product_95 : decode cX4_product 95 = .ok (.aload_n 0, 1) := by decide +kernel
theorem dX4_product_96 : decode cX4_product 96 = .ok (.getfield 70, 3) := by decide +kernel
theorem dX4_product_99 : decode cX4_product 99 = .ok (.aload_n 0, 1) := by decide +kernel
theorem dX4_product_100 : decode cX4_product 100 = .ok (.getfield 74, 3) := by decide +kernel
theorem dX4_product_103 : decode cX4_product 103 = .ok (.aload_n 0, 1) := by decide +kernel
theorem dX4_product_104 : decode cX4_product 104 = .ok (.getfield 77, 3) := by decide +kernel
theorem dX4_product_107 : decode cX4_product 107 = .ok (.invokevirtual 118, 3) := by decide +kernel
theorem dX4_product_110 : decode cX4_product 110 = .ok (.ireturn, 1) := by decide +kernel
set_option maxRecDepth 20000 in
theorem ggX4_compose_X4_isClass : GoodIn wsX4_compose wsX4_isClass := goodIn_r _ [6, 7, 8, 9, 5, 10, 73, 74, 75, 76, 77, 78, 79, 80, 81, 82, 83, 84, 85, 86, 87, 88, 89, 90] (by decide +kernel) (by decide +kernel)
set_option maxRecDepth 20000 in
theorem gX4_compose_X4_isClass : GoodIn wsX4_compose (wsV RX4 66 RX4 yX4_isClass wsX4_isClass) := goodIn_app (goodIn_of _ (by decide +kernel)) ggX4_compose_X4_isClass
set_option maxRecDepth 20000 in
theorem ggX4_compose_X4_refuse : GoodIn wsX4_compose wsX4_refuse := goodIn_r _ [14, 1, 73, 74, 75, 76, 77, 78, 79, 80, 81, 82, 83, 84, 85, 86, 87, 88, 89, 90] (by decide +kernel) (by decide +kernel)
set_option maxRecDepth 20000 in
theorem gX4_compose_X4_refuse : GoodIn wsX4_compose (wsV RX4 63 RX4 yX4_refuse wsX4_refuse) := goodIn_app (goodIn_of _ (by decide +kernel)) ggX4_compose_X4_refuse
set_option maxRecDepth 20000 in
theorem ggX4_compose_X4_product : GoodIn wsX4_compose wsX4_product := goodIn_r _ [18, 19, 20, 21, 22, 23, 24, 25, 26, 27, 28, 29, 5, 30, 31, 32, 33, 34, 35, 36, 37, 38, 39, 40, 41, 42, 43, 44, 45, 46, 47, 48, 49, 50, 51, 52, 53, 54, 55, 56, 57, 58, 59, 60, 61, 62, 63, 64, 65, 66, 67, 68, 69, 70, 71, 72, 7, 73, 74, 75, 76, 77, 78, 79, 80, 81, 82, 83, 84, 85, 86, 87, 88, 89, 90] (by decide +kernel) (by decide +kernel)
set_option maxRecDepth 20000 in
theorem gX4_compose_X4_product : GoodIn wsX4_compose (wsV RX4 136 RX4 yX4_product wsX4_product) := goodIn_app (goodIn_of _ (by decide +kernel)) ggX4_compose_X4_product
theorem dX4_compose_0 : decode cX4_compose 0 = .ok (.aload_n 0, 1) := by decide +kernel
theorem dX4_compose_1 : decode cX4_compose 1 = .ok (.iload_n 1, 1) := by decide +kernel
theorem dX4_compose_2 : decode cX4_compose 2 = .ok (.invokevirtual 66, 3) := by decide +kernel
theorem dX4_compose_5 : decode cX4_compose 5 = .ok (.ifCond .eq 11, 3) := by decide +kernel
theorem dX4_compose_8 : decode cX4_compose 8 = .ok (.aload_n 0, 1) := by decide +kernel
theorem dX4_compose_9 : decode cX4_compose 9 = .ok (.iload_n 2, 1) := by decide +kernel
theorem dX4_compose_10 : decode cX4_compose 10 = .ok (.invokevirtual 66, 3) := by decide +kernel
theorem dX4_compose_13 : decode cX4_compose 13 = .ok (.ifCond .ne 9, 3) := by decide +kernel
theorem dX4_compose_16 : decode cX4_compose 16 = .ok (.aload_n 0, 1) := by decide +kernel
theorem dX4_compose_17 : decode cX4_compose 17 = .ok (.iconst 1, 1) := by decide +kernel
theorem dX4_compose_18 : decode cX4_compose 18 = .ok (.invokevirtual 63, 3) := by decide +kernel
theorem dX4_compose_21 : decode cX4_compose 21 = .ok (.ireturn, 1) := by decide +kernel
theorem dX4_compose_22 : decode cX4_compose 22 = .ok (.aload_n 0, 1) := by decide +kernel
theorem dX4_compose_23 : decode cX4_compose 23 = .ok (.iconst 0, 1) := by decide +kernel
theorem dX4_compose_24 : decode cX4_compose 24 = .ok (.putfield 38, 3) := by decide +kernel
theorem dX4_compose_27 : decode cX4_compose 27 = .ok (.aload_n 0, 1) := by decide +kernel
theorem dX4_compose_28 : decode cX4_compose 28 = .ok (.iload_n 1, 1) := by decide +kernel
theorem dX4_compose_29 : decode cX4_compose 29 = .ok (.iload_n 2, 1) := by decide +kernel
theorem dX4_compose_30 : decode cX4_compose 30 = .ok (.invokevirtual 136, 3) := by decide +kernel
theorem dX4_compose_33 : decode cX4_compose 33 = .ok (.ireturn, 1) := by decide +kernel
set_option maxRecDepth 20000 in
theorem ggX4_inverseOf_X4_product : GoodIn wsX4_inverseOf wsX4_product := goodIn_r _ [5, 6, 7, 8, 9, 10, 11, 12, 13, 14, 15, 16, 4, 17, 18, 19, 20, 21, 22, 23, 24, 25, 26, 27, 28, 29, 30, 31, 32, 33, 34, 35, 36, 37, 38, 39, 40, 41, 42, 43, 44, 45, 46, 47, 48, 49, 50, 51, 52, 53, 54, 55, 56, 57, 58, 59, 60, 61, 62, 63, 64, 65, 66, 67, 68, 69, 70, 71, 72, 73, 74, 75, 76, 77, 78] (by decide +kernel) (by decide +kernel)
set_option maxRecDepth 20000 in
theorem gX4_inverseOf_X4_product : GoodIn wsX4_inverseOf (wsV RX4 136 RX4 yX4_product wsX4_product) := goodIn_app (goodIn_of _ (by decide +kernel)) ggX4_inverseOf_X4_product
theorem dX4_inverseOf_0 : decode cX4_inverseOf 0 = .ok (.iconst 0, 1) := by decide +kernel
theorem dX4_inverseOf_1 : decode cX4_inverseOf 1 = .ok (.istore_n 2, 1) := by decide +kernel
theorem dX4_inverseOf_2 : decode cX4_inverseOf 2 = .ok (.aload_n 0, 1) := by decide +kernel
theorem dX4_inverseOf_3 : decode cX4_inverseOf 3 = .ok (.iload_n 1, 1) := by decide +kernel
theorem dX4_inverseOf_4 : decode cX4_inverseOf 4 = .ok (.iload_n 2, 1) := by decide +kernel
theorem dX4_inverseOf_5 : decode cX4_inverseOf 5 = .ok (.invokevirtual 136, 3) := by decide +kernel
theorem dX4_inverseOf_8 : decode cX4_inverseOf 8 = .ok (.ifCond .eq 9, 3) := by decide +kernel
theorem dX4_inverseOf_11 : decode cX4_inverseOf 11 = .ok (.iinc 2 1, 3) := by decide +kernel
theorem dX4_inverseOf_14 : decode cX4_inverseOf 14 = .ok (.goto (-12), 3) := by decide +kernel
theorem dX4_inverseOf_17 : decode cX4_inverseOf 17 = .ok (.iload_n 2, 1) := by decide +kernel
theorem dX4_inverseOf_18 : decode cX4_inverseOf 18 = .ok (.ireturn, 1) := by decide +kernel
set_option maxRecDepth 20000 in
theorem ggX4_inverse_X4_isClass : GoodIn wsX4_inverse wsX4_isClass := goodIn_r _ [6, 7, 8, 9, 5, 10, 77, 78, 79, 80, 81, 82, 83, 84, 85, 86, 87, 88, 89, 90, 91, 92, 93, 94] (by decide +kernel) (by decide +kernel)
set_option maxRecDepth 20000 in
theorem gX4_inverse_X4_isClass : GoodIn wsX4_inverse (wsV RX4 66 RX4 yX4_isClass wsX4_isClass) := goodIn_app (goodIn_of _ (by decide +kernel)) ggX4_inverse_X4_isClass
set_option maxRecDepth 20000 in
theorem ggX4_inverse_X4_refuse : GoodIn wsX4_inverse wsX4_refuse := goodIn_r _ [14, 1, 77, 78, 79, 80, 81, 82, 83, 84, 85, 86, 87, 88, 89, 90, 91, 92, 93, 94] (by decide +kernel) (by decide +kernel)
set_option maxRecDepth 20000 in
theorem gX4_inverse_X4_refuse : GoodIn wsX4_inverse (wsV RX4 63 RX4 yX4_refuse wsX4_refuse) := goodIn_app (goodIn_of _ (by decide +kernel)) ggX4_inverse_X4_refuse
set_option maxRecDepth 20000 in
theorem ggX4_inverse_X4_inverseOf : GoodIn wsX4_inverse wsX4_inverseOf := goodIn_r _ [18, 19, 20, 21, 5, 22, 23, 24, 25, 26, 27, 28, 29, 30, 31, 32, 33, 34, 35, 36, 37, 38, 39, 40, 41, 42, 43, 44, 45, 46, 47, 48, 49, 50, 51, 52, 53, 54, 55, 56, 57, 58, 59, 60, 61, 62, 63, 64, 65, 66, 67, 68, 69, 70, 71, 72, 73, 74, 75, 76, 7, 77, 78, 79, 80, 81, 82, 83, 84, 85, 86, 87, 88, 89, 90, 91, 92, 93, 94] (by decide +kernel) (by decide +kernel)
set_option maxRecDepth 20000 in
theorem gX4_inverse_X4_inverseOf : GoodIn wsX4_inverse (wsV RX4 140 RX4 yX4_inverseOf wsX4_inverseOf) := goodIn_app (goodIn_of _ (by decide +kernel)) ggX4_inverse_X4_inverseOf
theorem dX4_inverse_0 : decode cX4_inverse 0 = .ok (.aload_n 0, 1) := by decide +kernel
theorem dX4_inverse_1 : decode cX4_inverse 1 = .ok (.iload_n 1, 1) := by decide +kernel
theorem dX4_inverse_2 : decode cX4_inverse 2 = .ok (.invokevirtual 66, 3) := by decide +kernel
theorem dX4_inverse_5 : decode cX4_inverse 5 = .ok (.ifCond .ne 9, 3) := by decide +kernel
theorem dX4_inverse_8 : decode cX4_inverse 8 = .ok (.aload_n 0, 1) := by decide +kernel
theorem dX4_inverse_9 : decode cX4_inverse 9 = .ok (.iconst 1, 1) := by decide +kernel
theorem dX4_inverse_10 : decode cX4_inverse 10 = .ok (.invokevirtual 63, 3) := by decide +kernel
theorem dX4_inverse_13 : decode cX4_inverse 13 = .ok (.ireturn, 1) := by decide +kernel
theorem dX4_inverse_14 : decode cX4_inverse 14 = .ok (.aload_n 0, 1) := by decide +kernel
theorem dX4_inverse_15 : decode cX4_inverse 15 = .ok (.iconst 0, 1) := by decide +kernel
theorem dX4_inverse_16 : decode cX4_inverse 16 = .ok (.putfield 38, 3) := by decide +kernel
theorem dX4_inverse_19 : decode cX4_inverse 19 = .ok (.aload_n 0, 1) := by decide +kernel
theorem dX4_inverse_20 : decode cX4_inverse 20 = .ok (.iload_n 1, 1) := by decide +kernel
theorem dX4_inverse_21 : decode cX4_inverse 21 = .ok (.invokevirtual 140, 3) := by decide +kernel
theorem dX4_inverse_24 : decode cX4_inverse 24 = .ok (.ireturn, 1) := by decide +kernel
set_option maxRecDepth 20000 in
theorem ggX4_orderOf_X4_product : GoodIn wsX4_orderOf wsX4_product := goodIn_r _ [5, 6, 7, 8, 9, 10, 11, 12, 13, 14, 15, 16, 4, 17, 18, 19, 20, 21, 22, 23, 24, 25, 26, 27, 28, 29, 30, 31, 32, 33, 34, 35, 36, 37, 38, 39, 40, 41, 42, 43, 44, 45, 46, 47, 48, 49, 50, 51, 52, 53, 54, 55, 56, 57, 58, 59, 60, 61, 62, 63, 64, 65, 66, 67, 68, 69, 70, 71, 72, 73, 74, 75, 76, 77, 78] (by decide +kernel) (by decide +kernel)
set_option maxRecDepth 20000 in
theorem gX4_orderOf_X4_product : GoodIn wsX4_orderOf (wsV RX4 136 RX4 yX4_product wsX4_product) := goodIn_app (goodIn_of _ (by decide +kernel)) ggX4_orderOf_X4_product
theorem dX4_orderOf_0 : decode cX4_orderOf 0 = .ok (.iconst 1, 1) := by decide +kernel
theorem dX4_orderOf_1 : decode cX4_orderOf 1 = .ok (.istore_n 2, 1) := by decide +kernel
theorem dX4_orderOf_2 : decode cX4_orderOf 2 = .ok (.iload_n 1, 1) := by decide +kernel
theorem dX4_orderOf_3 : decode cX4_orderOf 3 = .ok (.istore_n 3, 1) := by decide +kernel
theorem dX4_orderOf_4 : decode cX4_orderOf 4 = .ok (.iload_n 3, 1) := by decide +kernel
theorem dX4_orderOf_5 : decode cX4_orderOf 5 = .ok (.ifCond .eq 16, 3) := by decide +kernel
theorem dX4_orderOf_8 : decode cX4_orderOf 8 = .ok (.iinc 2 1, 3) := by decide +kernel
theorem dX4_orderOf_11 : decode cX4_orderOf 11 = .ok (.aload_n 0, 1) := by decide +kernel
theorem dX4_orderOf_12 : decode cX4_orderOf 12 = .ok (.iload_n 3, 1) := by decide +kernel
theorem dX4_orderOf_13 : decode cX4_orderOf 13 = .ok (.iload_n 1, 1) := by decide +kernel
theorem dX4_orderOf_14 : decode cX4_orderOf 14 = .ok (.invokevirtual 136, 3) := by decide +kernel
theorem dX4_orderOf_17 : decode cX4_orderOf 17 = .ok (.istore_n 3, 1) := by decide +kernel
theorem dX4_orderOf_18 : decode cX4_orderOf 18 = .ok (.goto (-14), 3) := by decide +kernel
theorem dX4_orderOf_21 : decode cX4_orderOf 21 = .ok (.iload_n 2, 1) := by decide +kernel
theorem dX4_orderOf_22 : decode cX4_orderOf 22 = .ok (.ireturn, 1) := by decide +kernel
set_option maxRecDepth 20000 in
theorem ggX4_order_X4_isClass : GoodIn wsX4_order wsX4_isClass := goodIn_r _ [6, 7, 8, 9, 5, 10, 77, 78, 79, 80, 81, 82, 83, 84, 85, 86, 87, 88, 89, 90, 91, 92, 93, 94] (by decide +kernel) (by decide +kernel)
set_option maxRecDepth 20000 in
theorem gX4_order_X4_isClass : GoodIn wsX4_order (wsV RX4 66 RX4 yX4_isClass wsX4_isClass) := goodIn_app (goodIn_of _ (by decide +kernel)) ggX4_order_X4_isClass
set_option maxRecDepth 20000 in
theorem ggX4_order_X4_refuse : GoodIn wsX4_order wsX4_refuse := goodIn_r _ [14, 1, 77, 78, 79, 80, 81, 82, 83, 84, 85, 86, 87, 88, 89, 90, 91, 92, 93, 94] (by decide +kernel) (by decide +kernel)
set_option maxRecDepth 20000 in
theorem gX4_order_X4_refuse : GoodIn wsX4_order (wsV RX4 63 RX4 yX4_refuse wsX4_refuse) := goodIn_app (goodIn_of _ (by decide +kernel)) ggX4_order_X4_refuse
set_option maxRecDepth 20000 in
theorem ggX4_order_X4_orderOf : GoodIn wsX4_order wsX4_orderOf := goodIn_r _ [18, 19, 20, 21, 5, 22, 23, 24, 25, 26, 27, 28, 29, 30, 31, 32, 33, 34, 35, 36, 37, 38, 39, 40, 41, 42, 43, 44, 45, 46, 47, 48, 49, 50, 51, 52, 53, 54, 55, 56, 57, 58, 59, 60, 61, 62, 63, 64, 65, 66, 67, 68, 69, 70, 71, 72, 73, 74, 75, 76, 7, 77, 78, 79, 80, 81, 82, 83, 84, 85, 86, 87, 88, 89, 90, 91, 92, 93, 94] (by decide +kernel) (by decide +kernel)
set_option maxRecDepth 20000 in
theorem gX4_order_X4_orderOf : GoodIn wsX4_order (wsV RX4 143 RX4 yX4_orderOf wsX4_orderOf) := goodIn_app (goodIn_of _ (by decide +kernel)) ggX4_order_X4_orderOf
theorem dX4_order_0 : decode cX4_order 0 = .ok (.aload_n 0, 1) := by decide +kernel
theorem dX4_order_1 : decode cX4_order 1 = .ok (.iload_n 1, 1) := by decide +kernel
theorem dX4_order_2 : decode cX4_order 2 = .ok (.invokevirtual 66, 3) := by decide +kernel
theorem dX4_order_5 : decode cX4_order 5 = .ok (.ifCond .ne 9, 3) := by decide +kernel
theorem dX4_order_8 : decode cX4_order 8 = .ok (.aload_n 0, 1) := by decide +kernel
theorem dX4_order_9 : decode cX4_order 9 = .ok (.iconst 1, 1) := by decide +kernel
theorem dX4_order_10 : decode cX4_order 10 = .ok (.invokevirtual 63, 3) := by decide +kernel
theorem dX4_order_13 : decode cX4_order 13 = .ok (.ireturn, 1) := by decide +kernel
theorem dX4_order_14 : decode cX4_order 14 = .ok (.aload_n 0, 1) := by decide +kernel
theorem dX4_order_15 : decode cX4_order 15 = .ok (.iconst 0, 1) := by decide +kernel
theorem dX4_order_16 : decode cX4_order 16 = .ok (.putfield 38, 3) := by decide +kernel
theorem dX4_order_19 : decode cX4_order 19 = .ok (.aload_n 0, 1) := by decide +kernel
theorem dX4_order_20 : decode cX4_order 20 = .ok (.iload_n 1, 1) := by decide +kernel
theorem dX4_order_21 : decode cX4_order 21 = .ok (.invokevirtual 143, 3) := by decide +kernel
theorem dX4_order_24 : decode cX4_order 24 = .ok (.ireturn, 1) := by decide +kernel
set_option maxRecDepth 20000 in
theorem ggX4_raised_X4_orderOf : GoodIn wsX4_raised wsX4_orderOf := goodIn_r _ [5, 6, 7, 8, 4, 9, 10, 11, 12, 13, 14, 15, 16, 17, 18, 19, 20, 21, 22, 23, 24, 25, 26, 27, 28, 29, 30, 31, 32, 33, 34, 35, 36, 37, 38, 39, 40, 41, 42, 43, 44, 45, 46, 47, 48, 49, 50, 51, 52, 53, 54, 55, 56, 57, 58, 59, 60, 61, 62, 63, 64, 65, 66, 67, 68, 69, 70, 71, 72, 73, 74, 75, 76, 77, 78, 79, 80, 81, 82] (by decide +kernel) (by decide +kernel)
set_option maxRecDepth 20000 in
theorem gX4_raised_X4_orderOf : GoodIn wsX4_raised (wsV RX4 143 RX4 yX4_orderOf wsX4_orderOf) := goodIn_app (goodIn_of _ (by decide +kernel)) ggX4_raised_X4_orderOf
set_option maxRecDepth 20000 in
theorem ggX4_raised_X4_product : GoodIn wsX4_raised wsX4_product := goodIn_r _ [9, 10, 11, 12, 13, 14, 15, 16, 17, 18, 19, 20, 4, 21, 22, 23, 24, 25, 26, 27, 28, 29, 30, 31, 32, 33, 34, 35, 36, 37, 38, 39, 40, 41, 42, 43, 44, 45, 46, 47, 48, 49, 50, 51, 52, 53, 54, 55, 56, 57, 58, 59, 60, 61, 62, 63, 64, 65, 66, 67, 68, 69, 70, 71, 72, 73, 74, 75, 76, 77, 78, 79, 80, 81, 82] (by decide +kernel) (by decide +kernel)
set_option maxRecDepth 20000 in
theorem gX4_raised_X4_product : GoodIn wsX4_raised (wsV RX4 136 RX4 yX4_product wsX4_product) := goodIn_app (goodIn_of _ (by decide +kernel)) ggX4_raised_X4_product
theorem dX4_raised_0 : decode cX4_raised 0 = .ok (.aload_n 0, 1) := by decide +kernel
theorem dX4_raised_1 : decode cX4_raised 1 = .ok (.iload_n 1, 1) := by decide +kernel
theorem dX4_raised_2 : decode cX4_raised 2 = .ok (.invokevirtual 143, 3) := by decide +kernel
theorem dX4_raised_5 : decode cX4_raised 5 = .ok (.istore_n 3, 1) := by decide +kernel
theorem dX4_raised_6 : decode cX4_raised 6 = .ok (.iload_n 2, 1) := by decide +kernel
theorem dX4_raised_7 : decode cX4_raised 7 = .ok (.iload_n 3, 1) := by decide +kernel
theorem dX4_raised_8 : decode cX4_raised 8 = .ok (.irem, 1) := by decide +kernel
theorem dX4_raised_9 : decode cX4_raised 9 = .ok (.iload_n 3, 1) := by decide +kernel
theorem dX4_raised_10 : decode cX4_raised 10 = .ok (.iadd, 1) := by decide +kernel
theorem dX4_raised_11 : decode cX4_raised 11 = .ok (.iload_n 3, 1) := by decide +kernel
theorem dX4_raised_12 : decode cX4_raised 12 = .ok (.irem, 1) := by decide +kernel
theorem dX4_raised_13 : decode cX4_raised 13 = .ok (.istore 4, 2) := by decide +kernel
theorem dX4_raised_15 : decode cX4_raised 15 = .ok (.iconst 0, 1) := by decide +kernel
theorem dX4_raised_16 : decode cX4_raised 16 = .ok (.istore 5, 2) := by decide +kernel
theorem dX4_raised_18 : decode cX4_raised 18 = .ok (.iconst 0, 1) := by decide +kernel
theorem dX4_raised_19 : decode cX4_raised 19 = .ok (.istore 6, 2) := by decide +kernel
theorem dX4_raised_21 : decode cX4_raised 21 = .ok (.iload 6, 2) := by decide +kernel
theorem dX4_raised_23 : decode cX4_raised 23 = .ok (.iload 4, 2) := by decide +kernel
theorem dX4_raised_25 : decode cX4_raised 25 = .ok (.if_icmp .ge 18, 3) := by decide +kernel
theorem dX4_raised_28 : decode cX4_raised 28 = .ok (.aload_n 0, 1) := by decide +kernel
theorem dX4_raised_29 : decode cX4_raised 29 = .ok (.iload 5, 2) := by decide +kernel
theorem dX4_raised_31 : decode cX4_raised 31 = .ok (.iload_n 1, 1) := by decide +kernel
theorem dX4_raised_32 : decode cX4_raised 32 = .ok (.invokevirtual 136, 3) := by decide +kernel
theorem dX4_raised_35 : decode cX4_raised 35 = .ok (.istore 5, 2) := by decide +kernel
theorem dX4_raised_37 : decode cX4_raised 37 = .ok (.iinc 6 1, 3) := by decide +kernel
theorem dX4_raised_40 : decode cX4_raised 40 = .ok (.goto (-19), 3) := by decide +kernel
theorem dX4_raised_43 : decode cX4_raised 43 = .ok (.iload 5, 2) := by decide +kernel
theorem dX4_raised_45 : decode cX4_raised 45 = .ok (.ireturn, 1) := by decide +kernel
set_option maxRecDepth 20000 in
theorem ggX4_power_X4_isClass : GoodIn wsX4_power wsX4_isClass := goodIn_r _ [6, 7, 8, 9, 5, 10, 81, 82, 83, 84, 85, 86, 87, 88, 89, 90, 91, 92, 93, 94, 95, 96, 97, 98] (by decide +kernel) (by decide +kernel)
set_option maxRecDepth 20000 in
theorem gX4_power_X4_isClass : GoodIn wsX4_power (wsV RX4 66 RX4 yX4_isClass wsX4_isClass) := goodIn_app (goodIn_of _ (by decide +kernel)) ggX4_power_X4_isClass
set_option maxRecDepth 20000 in
theorem ggX4_power_X4_refuse : GoodIn wsX4_power wsX4_refuse := goodIn_r _ [14, 1, 81, 82, 83, 84, 85, 86, 87, 88, 89, 90, 91, 92, 93, 94, 95, 96, 97, 98] (by decide +kernel) (by decide +kernel)
set_option maxRecDepth 20000 in
theorem gX4_power_X4_refuse : GoodIn wsX4_power (wsV RX4 63 RX4 yX4_refuse wsX4_refuse) := goodIn_app (goodIn_of _ (by decide +kernel)) ggX4_power_X4_refuse
set_option maxRecDepth 20000 in
theorem ggX4_power_X4_raised : GoodIn wsX4_power wsX4_raised := goodIn_r _ [18, 19, 20, 21, 5, 22, 23, 24, 25, 26, 27, 28, 29, 30, 31, 32, 33, 34, 35, 36, 37, 38, 39, 40, 41, 42, 43, 44, 45, 46, 47, 48, 49, 50, 51, 52, 53, 54, 55, 56, 57, 58, 59, 60, 61, 62, 63, 64, 65, 66, 67, 68, 69, 70, 71, 72, 73, 74, 75, 76, 77, 78, 79, 80, 7, 81, 82, 83, 84, 85, 86, 87, 88, 89, 90, 91, 92, 93, 94, 95, 96, 97, 98] (by decide +kernel) (by decide +kernel)
set_option maxRecDepth 20000 in
theorem gX4_power_X4_raised : GoodIn wsX4_power (wsV RX4 146 RX4 yX4_raised wsX4_raised) := goodIn_app (goodIn_of _ (by decide +kernel)) ggX4_power_X4_raised
theorem dX4_power_0 : decode cX4_power 0 = .ok (.aload_n 0, 1) := by decide +kernel
theorem dX4_power_1 : decode cX4_power 1 = .ok (.iload_n 1, 1) := by decide +kernel
theorem dX4_power_2 : decode cX4_power 2 = .ok (.invokevirtual 66, 3) := by decide +kernel
theorem dX4_power_5 : decode cX4_power 5 = .ok (.ifCond .ne 9, 3) := by decide +kernel
theorem dX4_power_8 : decode cX4_power 8 = .ok (.aload_n 0, 1) := by decide +kernel
theorem dX4_power_9 : decode cX4_power 9 = .ok (.iconst 1, 1) := by decide +kernel
theorem dX4_power_10 : decode cX4_power 10 = .ok (.invokevirtual 63, 3) := by decide +kernel
theorem dX4_power_13 : decode cX4_power 13 = .ok (.ireturn, 1) := by decide +kernel
theorem dX4_power_14 : decode cX4_power 14 = .ok (.aload_n 0, 1) := by decide +kernel
theorem dX4_power_15 : decode cX4_power 15 = .ok (.iconst 0, 1) := by decide +kernel
theorem dX4_power_16 : decode cX4_power 16 = .ok (.putfield 38, 3) := by decide +kernel
theorem dX4_power_19 : decode cX4_power 19 = .ok (.aload_n 0, 1) := by decide +kernel
theorem dX4_power_20 : decode cX4_power 20 = .ok (.iload_n 1, 1) := by decide +kernel
theorem dX4_power_21 : decode cX4_power 21 = .ok (.iload_n 2, 1) := by decide +kernel
theorem dX4_power_22 : decode cX4_power 22 = .ok (.invokevirtual 146, 3) := by decide +kernel
theorem dX4_power_25 : decode cX4_power 25 = .ok (.ireturn, 1) := by decide +kernel
set_option maxRecDepth 20000 in
theorem ggX4_squares_X4_product : GoodIn wsX4_squares wsX4_product := goodIn_r _ [6, 7, 8, 9, 10, 11, 12, 13, 14, 15, 16, 17, 5, 18, 19, 20, 21, 22, 23, 24, 25, 26, 27, 28, 29, 30, 31, 32, 33, 34, 35, 36, 37, 38, 39, 40, 41, 42, 43, 44, 45, 46, 47, 48, 49, 50, 51, 52, 53, 54, 55, 56, 57, 58, 59, 60, 1, 61, 62, 63, 64, 65, 66, 67, 68, 69, 70, 71, 72, 73, 74, 75, 76, 77, 78] (by decide +kernel) (by decide +kernel)
set_option maxRecDepth 20000 in
theorem gX4_squares_X4_product : GoodIn wsX4_squares (wsV RX4 136 RX4 yX4_product wsX4_product) := goodIn_app (goodIn_of _ (by decide +kernel)) ggX4_squares_X4_product
theorem dX4_squares_0 : decode cX4_squares 0 = .ok (.lconst 0, 1) := by decide +kernel
theorem dX4_squares_1 : decode cX4_squares 1 = .ok (.lstore_n 1, 1) := by decide +kernel
theorem dX4_squares_2 : decode cX4_squares 2 = .ok (.iconst 0, 1) := by decide +kernel
theorem dX4_squares_3 : decode cX4_squares 3 = .ok (.istore_n 3, 1) := by decide +kernel
theorem dX4_squares_4 : decode cX4_squares 4 = .ok (.iload_n 3, 1) := by decide +kernel
theorem dX4_squares_5 : decode cX4_squares 5 = .ok (.aload_n 0, 1) := by decide +kernel
theorem dX4_squares_6 : decode cX4_squares 6 = .ok (.getfield 56, 3) := by decide +kernel
theorem dX4_squares_9 : decode cX4_squares 9 = .ok (.if_icmp .ge 20, 3) := by decide +kernel
theorem dX4_squares_12 : decode cX4_squares 12 = .ok (.lload_n 1, 1) := by decide +kernel
theorem dX4_squares_13 : decode cX4_squares 13 = .ok (.lconst 1, 1) := by decide +kernel
theorem dX4_squares_14 : decode cX4_squares 14 = .ok (.aload_n 0, 1) := by decide +kernel
theorem dX4_squares_15 : decode cX4_squares 15 = .ok (.iload_n 3, 1) := by decide +kernel
theorem dX4_squares_16 : decode cX4_squares 16 = .ok (.iload_n 3, 1) := by decide +kernel
theorem dX4_squares_17 : decode cX4_squares 17 = .ok (.invokevirtual 136, 3) := by decide +kernel
theorem dX4_squares_20 : decode cX4_squares 20 = .ok (.lshl, 1) := by decide +kernel
theorem dX4_squares_21 : decode cX4_squares 21 = .ok (.lor, 1) := by decide +kernel
theorem dX4_squares_22 : decode cX4_squares 22 = .ok (.lstore_n 1, 1) := by decide +kernel
theorem dX4_squares_23 : decode cX4_squares 23 = .ok (.iinc 3 1, 3) := by decide +kernel
theorem dX4_squares_26 : decode cX4_squares 26 = .ok (.goto (-22), 3) := by decide +kernel
theorem dX4_squares_29 : decode cX4_squares 29 = .ok (.lload_n 1, 1) := by decide +kernel
theorem dX4_squares_30 : decode cX4_squares 30 = .ok (.lreturn, 1) := by decide +kernel
set_option maxRecDepth 20000 in
theorem ggX4_least_X4_product : GoodIn wsX4_least wsX4_product := goodIn_r _ [6, 7, 8, 9, 10, 11, 12, 13, 14, 15, 16, 17, 5, 18, 19, 20, 21, 22, 23, 24, 25, 26, 27, 28, 29, 30, 31, 32, 33, 34, 35, 36, 37, 38, 39, 40, 41, 42, 43, 44, 45, 46, 47, 48, 49, 50, 51, 52, 53, 54, 55, 56, 57, 58, 59, 60, 1, 61, 62, 63, 64, 65, 66, 67, 68, 69, 70, 71, 72, 73, 74, 75, 76, 77, 78] (by decide +kernel) (by decide +kernel)
set_option maxRecDepth 20000 in
theorem gX4_least_X4_product : GoodIn wsX4_least (wsV RX4 136 RX4 yX4_product wsX4_product) := goodIn_app (goodIn_of _ (by decide +kernel)) ggX4_least_X4_product
theorem dX4_least_0 : decode cX4_least 0 = .ok (.iload_n 1, 1) := by decide +kernel
theorem dX4_least_1 : decode cX4_least 1 = .ok (.istore 4, 2) := by decide +kernel
theorem dX4_least_3 : decode cX4_least 3 = .ok (.iconst 0, 1) := by decide +kernel
theorem dX4_least_4 : decode cX4_least 4 = .ok (.istore 5, 2) := by decide +kernel
theorem dX4_least_6 : decode cX4_least 6 = .ok (.iload 5, 2) := by decide +kernel
theorem dX4_least_8 : decode cX4_least 8 = .ok (.aload_n 0, 1) := by decide +kernel
theorem dX4_least_9 : decode cX4_least 9 = .ok (.getfield 56, 3) := by decide +kernel
theorem dX4_least_12 : decode cX4_least 12 = .ok (.if_icmp .ge 49, 3) := by decide +kernel
theorem dX4_least_15 : decode cX4_least 15 = .ok (.lload_n 2, 1) := by decide +kernel
theorem dX4_least_16 : decode cX4_least 16 = .ok (.iload 5, 2) := by decide +kernel
theorem dX4_least_18 : decode cX4_least 18 = .ok (.lshr, 1) := by decide +kernel
theorem dX4_least_19 : decode cX4_least 19 = .ok (.lconst 1, 1) := by decide +kernel
theorem dX4_least_20 : decode cX4_least 20 = .ok (.land, 1) := by decide +kernel
theorem dX4_least_21 : decode cX4_least 21 = .ok (.lconst 1, 1) := by decide +kernel
theorem dX4_least_22 : decode cX4_least 22 = .ok (.lcmp, 1) := by decide +kernel
theorem dX4_least_23 : decode cX4_least 23 = .ok (.ifCond .ne 13, 3) := by decide +kernel
theorem dX4_least_26 : decode cX4_least 26 = .ok (.aload_n 0, 1) := by decide +kernel
theorem dX4_least_27 : decode cX4_least 27 = .ok (.iload_n 1, 1) := by decide +kernel
theorem dX4_least_28 : decode cX4_least 28 = .ok (.iload 5, 2) := by decide +kernel
theorem dX4_least_30 : decode cX4_least 30 = .ok (.invokevirtual 136, 3) := by decide +kernel
theorem dX4_least_33 : decode cX4_least 33 = .ok (.goto 4, 3) := by decide +kernel
theorem dX4_least_36 : decode cX4_least 36 = .ok (.iload_n 1, 1) := by decide +kernel
theorem dX4_least_37 : decode cX4_least 37 = .ok (.istore 6, 2) := by decide +kernel
theorem dX4_least_39 : decode cX4_least 39 = .ok (.iload 6, 2) := by decide +kernel
theorem dX4_least_41 : decode cX4_least 41 = .ok (.iload 4, 2) := by decide +kernel
theorem dX4_least_43 : decode cX4_least 43 = .ok (.if_icmp .ge 8, 3) := by decide +kernel
theorem dX4_least_46 : decode cX4_least 46 = .ok (.iload 6, 2) := by decide +kernel
theorem dX4_least_48 : decode cX4_least 48 = .ok (.goto 5, 3) := by decide +kernel
theorem dX4_least_51 : decode cX4_least 51 = .ok (.iload 4, 2) := by decide +kernel
theorem dX4_least_53 : decode cX4_least 53 = .ok (.istore 4, 2) := by decide +kernel
theorem dX4_least_55 : decode cX4_least 55 = .ok (.iinc 5 1, 3) := by decide +kernel
theorem dX4_least_58 : decode cX4_least 58 = .ok (.goto (-52), 3) := by decide +kernel
theorem dX4_least_61 : decode cX4_least 61 = .ok (.iload 4, 2) := by decide +kernel
theorem dX4_least_63 : decode cX4_least 63 = .ok (.ireturn, 1) := by decide +kernel
set_option maxRecDepth 20000 in
theorem ggX4_genus_X4_isClass : GoodIn wsX4_genus wsX4_isClass := goodIn_r _ [6, 7, 8, 9, 5, 10, 81, 82, 83, 84, 85, 86, 87, 88, 89, 90, 91, 92, 93, 94, 95, 96, 97, 98] (by decide +kernel) (by decide +kernel)
set_option maxRecDepth 20000 in
theorem gX4_genus_X4_isClass : GoodIn wsX4_genus (wsV RX4 66 RX4 yX4_isClass wsX4_isClass) := goodIn_app (goodIn_of _ (by decide +kernel)) ggX4_genus_X4_isClass
set_option maxRecDepth 20000 in
theorem ggX4_genus_X4_refuse : GoodIn wsX4_genus wsX4_refuse := goodIn_r _ [14, 1, 81, 82, 83, 84, 85, 86, 87, 88, 89, 90, 91, 92, 93, 94, 95, 96, 97, 98] (by decide +kernel) (by decide +kernel)
set_option maxRecDepth 20000 in
theorem gX4_genus_X4_refuse : GoodIn wsX4_genus (wsV RX4 63 RX4 yX4_refuse wsX4_refuse) := goodIn_app (goodIn_of _ (by decide +kernel)) ggX4_genus_X4_refuse
set_option maxRecDepth 20000 in
theorem ggX4_genus_X4_squares : GoodIn wsX4_genus wsX4_squares := goodIn_r _ [18, 7, 19, 20, 21, 5, 22, 23, 24, 25, 26, 27, 28, 29, 30, 31, 32, 33, 34, 35, 36, 37, 38, 39, 40, 41, 42, 43, 44, 45, 46, 47, 48, 49, 50, 51, 52, 53, 54, 55, 56, 57, 58, 59, 60, 61, 62, 63, 64, 65, 66, 67, 68, 69, 70, 71, 72, 73, 74, 75, 76, 81, 82, 83, 84, 85, 86, 87, 88, 89, 90, 91, 92, 93, 94, 95, 96, 97, 98] (by decide +kernel) (by decide +kernel)
set_option maxRecDepth 20000 in
theorem gX4_genus_X4_squares : GoodIn wsX4_genus (wsV RX4 149 RX4 yX4_squares wsX4_squares) := goodIn_app (goodIn_of _ (by decide +kernel)) ggX4_genus_X4_squares
set_option maxRecDepth 20000 in
theorem ggX4_genus_X4_least : GoodIn wsX4_genus wsX4_least := goodIn_r _ [80, 7, 19, 20, 21, 5, 22, 23, 24, 25, 26, 27, 28, 29, 30, 31, 32, 33, 34, 35, 36, 37, 38, 39, 40, 41, 42, 43, 44, 45, 46, 47, 48, 49, 50, 51, 52, 53, 54, 55, 56, 57, 58, 59, 60, 61, 62, 63, 64, 65, 66, 67, 68, 69, 70, 71, 72, 73, 74, 75, 76, 81, 82, 83, 84, 85, 86, 87, 88, 89, 90, 91, 92, 93, 94, 95, 96, 97, 98] (by decide +kernel) (by decide +kernel)
set_option maxRecDepth 20000 in
theorem gX4_genus_X4_least : GoodIn wsX4_genus (wsV RX4 152 RX4 yX4_least wsX4_least) := goodIn_app (goodIn_of _ (by decide +kernel)) ggX4_genus_X4_least
theorem dX4_genus_0 : decode cX4_genus 0 = .ok (.aload_n 0, 1) := by decide +kernel
theorem dX4_genus_1 : decode cX4_genus 1 = .ok (.iload_n 1, 1) := by decide +kernel
theorem dX4_genus_2 : decode cX4_genus 2 = .ok (.invokevirtual 66, 3) := by decide +kernel
theorem dX4_genus_5 : decode cX4_genus 5 = .ok (.ifCond .ne 9, 3) := by decide +kernel
theorem dX4_genus_8 : decode cX4_genus 8 = .ok (.aload_n 0, 1) := by decide +kernel
theorem dX4_genus_9 : decode cX4_genus 9 = .ok (.iconst 1, 1) := by decide +kernel
theorem dX4_genus_10 : decode cX4_genus 10 = .ok (.invokevirtual 63, 3) := by decide +kernel
theorem dX4_genus_13 : decode cX4_genus 13 = .ok (.ireturn, 1) := by decide +kernel
theorem dX4_genus_14 : decode cX4_genus 14 = .ok (.aload_n 0, 1) := by decide +kernel
theorem dX4_genus_15 : decode cX4_genus 15 = .ok (.iconst 0, 1) := by decide +kernel
theorem dX4_genus_16 : decode cX4_genus 16 = .ok (.putfield 38, 3) := by decide +kernel
theorem dX4_genus_19 : decode cX4_genus 19 = .ok (.aload_n 0, 1) := by decide +kernel
theorem dX4_genus_20 : decode cX4_genus 20 = .ok (.iload_n 1, 1) := by decide +kernel
theorem dX4_genus_21 : decode cX4_genus 21 = .ok (.aload_n 0, 1) := by decide +kernel
theorem dX4_genus_22 : decode cX4_genus 22 = .ok (.invokevirtual 149, 3) := by decide +kernel
theorem dX4_genus_25 : decode cX4_genus 25 = .ok (.invokevirtual 152, 3) := by decide +kernel
theorem dX4_genus_28 : decode cX4_genus 28 = .ok (.ireturn, 1) := by decide +kernel
set_option maxRecDepth 20000 in
theorem ggX4_genera_X4_squares : GoodIn wsX4_genera wsX4_squares := goodIn_r _ [7, 2, 8, 9, 10, 6, 11, 12, 13, 14, 15, 16, 17, 18, 19, 20, 21, 22, 23, 24, 25, 26, 27, 28, 29, 30, 31, 32, 33, 34, 35, 36, 37, 38, 39, 40, 41, 42, 43, 44, 45, 46, 47, 48, 49, 50, 51, 52, 53, 54, 55, 56, 57, 58, 59, 60, 61, 62, 63, 64, 65, 66, 67, 68, 69, 70, 71, 72, 73, 74, 75, 76, 77, 78, 79, 80, 81, 82, 83] (by decide +kernel) (by decide +kernel)
set_option maxRecDepth 20000 in
theorem gX4_genera_X4_squares : GoodIn wsX4_genera (wsV RX4 149 RX4 yX4_squares wsX4_squares) := goodIn_app (goodIn_of _ (by decide +kernel)) ggX4_genera_X4_squares
theorem dX4_genera_0 : decode cX4_genera 0 = .ok (.aload_n 0, 1) := by decide +kernel
theorem dX4_genera_1 : decode cX4_genera 1 = .ok (.iconst 0, 1) := by decide +kernel
theorem dX4_genera_2 : decode cX4_genera 2 = .ok (.putfield 38, 3) := by decide +kernel
theorem dX4_genera_5 : decode cX4_genera 5 = .ok (.aload_n 0, 1) := by decide +kernel
theorem dX4_genera_6 : decode cX4_genera 6 = .ok (.invokevirtual 149, 3) := by decide +kernel
theorem dX4_genera_9 : decode cX4_genera 9 = .ok (.lstore_n 1, 1) := by decide +kernel
theorem dX4_genera_10 : decode cX4_genera 10 = .ok (.iconst 0, 1) := by decide +kernel
theorem dX4_genera_11 : decode cX4_genera 11 = .ok (.istore_n 3, 1) := by decide +kernel
theorem dX4_genera_12 : decode cX4_genera 12 = .ok (.iconst 0, 1) := by decide +kernel
theorem dX4_genera_13 : decode cX4_genera 13 = .ok (.istore 4, 2) := by decide +kernel
theorem dX4_genera_15 : decode cX4_genera 15 = .ok (.iload 4, 2) := by decide +kernel
theorem dX4_genera_17 : decode cX4_genera 17 = .ok (.aload_n 0, 1) := by decide +kernel
theorem dX4_genera_18 : decode cX4_genera 18 = .ok (.getfield 56, 3) := by decide +kernel
theorem dX4_genera_21 : decode cX4_genera 21 = .ok (.if_icmp .ge 28, 3) := by decide +kernel
theorem dX4_genera_24 : decode cX4_genera 24 = .ok (.lload_n 1, 1) := by decide +kernel
theorem dX4_genera_25 : decode cX4_genera 25 = .ok (.iload 4, 2) := by decide +kernel
theorem dX4_genera_27 : decode cX4_genera 27 = .ok (.lshr, 1) := by decide +kernel
theorem dX4_genera_28 : decode cX4_genera 28 = .ok (.lconst 1, 1) := by decide +kernel
theorem dX4_genera_29 : decode cX4_genera 29 = .ok (.land, 1) := by decide +kernel
theorem dX4_genera_30 : decode cX4_genera 30 = .ok (.lconst 1, 1) := by decide +kernel
theorem dX4_genera_31 : decode cX4_genera 31 = .ok (.lcmp, 1) := by decide +kernel
theorem dX4_genera_32 : decode cX4_genera 32 = .ok (.ifCond .ne 9, 3) := by decide +kernel
theorem dX4_genera_35 : decode cX4_genera 35 = .ok (.iload_n 3, 1) := by decide +kernel
theorem dX4_genera_36 : decode cX4_genera 36 = .ok (.iconst 1, 1) := by decide +kernel
theorem dX4_genera_37 : decode cX4_genera 37 = .ok (.iadd, 1) := by decide +kernel
theorem dX4_genera_38 : decode cX4_genera 38 = .ok (.goto 4, 3) := by decide +kernel
theorem dX4_genera_41 : decode cX4_genera 41 = .ok (.iload_n 3, 1) := by decide +kernel
theorem dX4_genera_42 : decode cX4_genera 42 = .ok (.istore_n 3, 1) := by decide +kernel
theorem dX4_genera_43 : decode cX4_genera 43 = .ok (.iinc 4 1, 3) := by decide +kernel
theorem dX4_genera_46 : decode cX4_genera 46 = .ok (.goto (-31), 3) := by decide +kernel
theorem dX4_genera_49 : decode cX4_genera 49 = .ok (.aload_n 0, 1) := by decide +kernel
theorem dX4_genera_50 : decode cX4_genera 50 = .ok (.getfield 56, 3) := by decide +kernel
theorem dX4_genera_53 : decode cX4_genera 53 = .ok (.iload_n 3, 1) := by decide +kernel
theorem dX4_genera_54 : decode cX4_genera 54 = .ok (.idiv, 1) := by decide +kernel
theorem dX4_genera_55 : decode cX4_genera 55 = .ok (.ireturn, 1) := by decide +kernel
theorem dX4_at_0 : decode cX4_at 0 = .ok (.aload_n 0, 1) := by decide +kernel
theorem dX4_at_1 : decode cX4_at 1 = .ok (.getfield 13, 3) := by decide +kernel
theorem dX4_at_4 : decode cX4_at 4 = .ok (.iload_n 1, 1) := by decide +kernel
theorem dX4_at_5 : decode cX4_at 5 = .ok (.laload, 1) := by decide +kernel
theorem dX4_at_6 : decode cX4_at 6 = .ok (.lload_n 2, 1) := by decide +kernel
theorem dX4_at_7 : decode cX4_at 7 = .ok (.lmul, 1) := by decide +kernel
theorem dX4_at_8 : decode cX4_at 8 = .ok (.lload_n 2, 1) := by decide +kernel
theorem dX4_at_9 : decode cX4_at 9 = .ok (.lmul, 1) := by decide +kernel
theorem dX4_at_10 : decode cX4_at 10 = .ok (.aload_n 0, 1) := by decide +kernel
theorem dX4_at_11 : decode cX4_at 11 = .ok (.getfield 17, 3) := by decide +kernel
theorem dX4_at_14 : decode cX4_at 14 = .ok (.iload_n 1, 1) := by decide +kernel
theorem dX4_at_15 : decode cX4_at 15 = .ok (.laload, 1) := by decide +kernel
theorem dX4_at_16 : decode cX4_at 16 = .ok (.lload_n 2, 1) := by decide +kernel
theorem dX4_at_17 : decode cX4_at 17 = .ok (.lmul, 1) := by decide +kernel
theorem dX4_at_18 : decode cX4_at 18 = .ok (.lload 4, 2) := by decide +kernel
theorem dX4_at_20 : decode cX4_at 20 = .ok (.lmul, 1) := by decide +kernel
theorem dX4_at_21 : decode cX4_at 21 = .ok (.ladd, 1) := by decide +kernel
theorem dX4_at_22 : decode cX4_at 22 = .ok (.aload_n 0, 1) := by decide +kernel
theorem dX4_at_23 : decode cX4_at 23 = .ok (.getfield 20, 3) := by decide +kernel
theorem dX4_at_26 : decode cX4_at 26 = .ok (.iload_n 1, 1) := by decide +kernel
theorem dX4_at_27 : decode cX4_at 27 = .ok (.laload, 1) := by decide +kernel
theorem dX4_at_28 : decode cX4_at 28 = .ok (.lload 4, 2) := by decide +kernel
theorem dX4_at_30 : decode cX4_at 30 = .ok (.lmul, 1) := by decide +kernel
theorem dX4_at_31 : decode cX4_at 31 = .ok (.lload 4, 2) := by decide +kernel
theorem dX4_at_33 : decode cX4_at 33 = .ok (.lmul, 1) := by decide +kernel
theorem dX4_at_34 : decode cX4_at 34 = .ok (.ladd, 1) := by decide +kernel
theorem dX4_at_35 : decode cX4_at 35 = .ok (.lreturn, 1) := by decide +kernel
theorem dX4_reach_0 : decode cX4_reach 0 = .ok (.lconst 0, 1) := by decide +kernel
theorem dX4_reach_1 : decode cX4_reach 1 = .ok (.lstore 5, 2) := by decide +kernel
theorem dX4_reach_3 : decode cX4_reach 3 = .ok (.aload_n 0, 1) := by decide +kernel
theorem dX4_reach_4 : decode cX4_reach 4 = .ok (.getfield 7, 3) := by decide +kernel
theorem dX4_reach_7 : decode cX4_reach 7 = .ok (.ineg, 1) := by decide +kernel
theorem dX4_reach_8 : decode cX4_reach 8 = .ok (.i2l, 1) := by decide +kernel
theorem dX4_reach_9 : decode cX4_reach 9 = .ok (.lload 5, 2) := by decide +kernel
theorem dX4_reach_11 : decode cX4_reach 11 = .ok (.lconst 1, 1) := by decide +kernel
theorem dX4_reach_12 : decode cX4_reach 12 = .ok (.ladd, 1) := by decide +kernel
theorem dX4_reach_13 : decode cX4_reach 13 = .ok (.lmul, 1) := by decide +kernel
theorem dX4_reach_14 : decode cX4_reach 14 = .ok (.lload 5, 2) := by decide +kernel
theorem dX4_reach_16 : decode cX4_reach 16 = .ok (.lconst 1, 1) := by decide +kernel
theorem dX4_reach_17 : decode cX4_reach 17 = .ok (.ladd, 1) := by decide +kernel
theorem dX4_reach_18 : decode cX4_reach 18 = .ok (.lmul, 1) := by decide +kernel
