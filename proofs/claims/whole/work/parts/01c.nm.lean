set_option maxRecDepth 20000 in
set_option maxRecDepth 20000 in
theorem ggX0_init_X1_init : GoodIn wsX0_init wsX1_init := goodIn_r _ [13, 14, 2, 3] (by decide +kernel) (by decide +kernel)
set_option maxRecDepth 20000 in
theorem gX0_init_X1_init_n23 : GoodIn wsX0_init (wsX1_init) := ggX0_init_X1_init
theorem dX0_init_0 : decode cX0_init 0 = .ok (.aload_n 0, 1) := by decide +kernel
theorem dX0_init_1 : decode cX0_init 1 = .ok (.invokespecial 3, 3) := by decide +kernel
theorem dX0_init_4 : decode cX0_init 4 = .ok (.aload_n 0, 1) := by decide +kernel
theorem dX0_init_5 : decode cX0_init 5 = .ok (.bipush 40, 2) := by decide +kernel
theorem dX0_init_7 : decode cX0_init 7 = .ok (.newarray .int, 2) := by decide +kernel
theorem dX0_init_9 : decode cX0_init 9 = .ok (.putfield 9, 3) := by decide +kernel
theorem dX0_init_12 : decode cX0_init 12 = .ok (.aload_n 0, 1) := by decide +kernel
theorem dX0_init_13 : decode cX0_init 13 = .ok (.bipush 40, 2) := by decide +kernel
theorem dX0_init_15 : decode cX0_init 15 = .ok (.newarray .int, 2) := by decide +kernel
theorem dX0_init_17 : decode cX0_init 17 = .ok (.putfield 15, 3) := by decide +kernel
theorem dX0_init_20 : decode cX0_init 20 = .ok (.aload_n 0, 1) := by decide +kernel
theorem dX0_init_21 : decode cX0_init 21 = .ok (.bipush 40, 2) := by decide +kernel
theorem dX0_init_23 : decode cX0_init 23 = .ok (.newarray .int, 2) := by decide +kernel
theorem dX0_init_25 : decode cX0_init 25 = .ok (.putfield 18, 3) := by decide +kernel
theorem dX0_init_28 : decode cX0_init 28 = .ok (.aload_n 0, 1) := by decide +kernel
theorem dX0_init_29 : decode cX0_init 29 = .ok (.new 21, 3) := by decide +kernel
theorem dX0_init_32 : decode cX0_init 32 = .ok (.dup, 1) := by decide +kernel
theorem dX0_init_33 : decode cX0_init 33 = .ok (.invokespecial 23, 3) := by decide +kernel
theorem dX0_init_36 : decode cX0_init 36 = .ok (.putfield 24, 3) := by decide +kernel
theorem dX0_init_39 : decode cX0_init 39 = .ok (.return_, 1) := by decide +kernel
set_option maxRecDepth 20000 in
theorem ggX0_fill_X0_addBoth : GoodIn wsX0_fill wsX0_addBoth := goodIn_r _ [7, 1, 8, 9, 10, 11, 12, 13, 14, 15, 16, 17, 18, 19, 20, 21, 22, 6, 23, 2, 24, 25, 26, 27, 28, 29, 30, 31, 32] (by decide +kernel) (by decide +kernel)
set_option maxRecDepth 20000 in
theorem gX0_fill_X0_addBoth : GoodIn wsX0_fill (wsV RX0 35 RX0 yX0_addBoth wsX0_addBoth) := goodIn_app (goodIn_of _ (by decide +kernel)) ggX0_fill_X0_addBoth
theorem dX0_fill_0 : decode cX0_fill 0 = .ok (.aload_n 0, 1) := by decide +kernel
theorem dX0_fill_1 : decode cX0_fill 1 = .ok (.iload_n 1, 1) := by decide +kernel
theorem dX0_fill_2 : decode cX0_fill 2 = .ok (.putfield 28, 3) := by decide +kernel
theorem dX0_fill_5 : decode cX0_fill 5 = .ok (.aload_n 0, 1) := by decide +kernel
theorem dX0_fill_6 : decode cX0_fill 6 = .ok (.iconst 0, 1) := by decide +kernel
theorem dX0_fill_7 : decode cX0_fill 7 = .ok (.putfield 32, 3) := by decide +kernel
theorem dX0_fill_10 : decode cX0_fill 10 = .ok (.iconst 1, 1) := by decide +kernel
theorem dX0_fill_11 : decode cX0_fill 11 = .ok (.istore_n 2, 1) := by decide +kernel
theorem dX0_fill_12 : decode cX0_fill 12 = .ok (.iconst 3, 1) := by decide +kernel
theorem dX0_fill_13 : decode cX0_fill 13 = .ok (.iload_n 2, 1) := by decide +kernel
theorem dX0_fill_14 : decode cX0_fill 14 = .ok (.imul, 1) := by decide +kernel
theorem dX0_fill_15 : decode cX0_fill 15 = .ok (.iload_n 2, 1) := by decide +kernel
theorem dX0_fill_16 : decode cX0_fill 16 = .ok (.imul, 1) := by decide +kernel
theorem dX0_fill_17 : decode cX0_fill 17 = .ok (.iload_n 1, 1) := by decide +kernel
theorem dX0_fill_18 : decode cX0_fill 18 = .ok (.ineg, 1) := by decide +kernel
theorem dX0_fill_19 : decode cX0_fill 19 = .ok (.if_icmp .gt 33, 3) := by decide +kernel
theorem dX0_fill_22 : decode cX0_fill 22 = .ok (.iconst 0, 1) := by decide +kernel
theorem dX0_fill_23 : decode cX0_fill 23 = .ok (.istore_n 3, 1) := by decide +kernel
theorem dX0_fill_24 : decode cX0_fill 24 = .ok (.iload_n 3, 1) := by decide +kernel
theorem dX0_fill_25 : decode cX0_fill 25 = .ok (.iload_n 2, 1) := by decide +kernel
theorem dX0_fill_26 : decode cX0_fill 26 = .ok (.if_icmp .gt 20, 3) := by decide +kernel
theorem dX0_fill_29 : decode cX0_fill 29 = .ok (.aload_n 0, 1) := by decide +kernel
theorem dX0_fill_30 : decode cX0_fill 30 = .ok (.iload_n 2, 1) := by decide +kernel
theorem dX0_fill_31 : decode cX0_fill 31 = .ok (.iload_n 3, 1) := by decide +kernel
theorem dX0_fill_32 : decode cX0_fill 32 = .ok (.invokevirtual 35, 3) := by decide +kernel
theorem dX0_fill_35 : decode cX0_fill 35 = .ok (.ifCond .ne 5, 3) := by decide +kernel
theorem dX0_fill_38 : decode cX0_fill 38 = .ok (.iconst 0, 1) := by decide +kernel
theorem dX0_fill_39 : decode cX0_fill 39 = .ok (.ireturn, 1) := by decide +kernel
theorem dX0_fill_40 : decode cX0_fill 40 = .ok (.iinc 3 1, 3) := by decide +kernel
theorem dX0_fill_43 : decode cX0_fill 43 = .ok (.goto (-19), 3) := by decide +kernel
theorem dX0_fill_46 : decode cX0_fill 46 = .ok (.iinc 2 1, 3) := by decide +kernel
theorem dX0_fill_49 : decode cX0_fill 49 = .ok (.goto (-37), 3) := by decide +kernel
theorem dX0_fill_52 : decode cX0_fill 52 = .ok (.iconst 1, 1) := by decide +kernel
theorem dX0_fill_53 : decode cX0_fill 53 = .ok (.ireturn, 1) := by decide +kernel
theorem dX0_has_0 : decode cX0_has 0 = .ok (.iload_n 1, 1) := by decide +kernel
theorem dX0_has_1 : decode cX0_has 1 = .ok (.ifCond .lt 15, 3) := by decide +kernel
theorem dX0_has_4 : decode cX0_has 4 = .ok (.iload_n 1, 1) := by decide +kernel
theorem dX0_has_5 : decode cX0_has 5 = .ok (.aload_n 0, 1) := by decide +kernel
theorem dX0_has_6 : decode cX0_has 6 = .ok (.getfield 32, 3) := by decide +kernel
theorem dX0_has_9 : decode cX0_has 9 = .ok (.if_icmp .ge 7, 3) := by decide +kernel
theorem dX0_has_12 : decode cX0_has 12 = .ok (.iconst 1, 1) := by decide +kernel
theorem dX0_has_13 : decode cX0_has 13 = .ok (.goto 4, 3) := by decide +kernel
theorem dX0_has_16 : decode cX0_has 16 = .ok (.iconst 0, 1) := by decide +kernel
theorem dX0_has_17 : decode cX0_has 17 = .ok (.ireturn, 1) := by decide +kernel
theorem dX0_find_0 : decode cX0_find 0 = .ok (.iconst 0, 1) := by decide +kernel
theorem dX0_find_1 : decode cX0_find 1 = .ok (.istore_n 3, 1) := by decide +kernel
theorem dX0_find_2 : decode cX0_find 2 = .ok (.iload_n 3, 1) := by decide +kernel
theorem dX0_find_3 : decode cX0_find 3 = .ok (.aload_n 0, 1) := by decide +kernel
theorem dX0_find_4 : decode cX0_find 4 = .ok (.getfield 32, 3) := by decide +kernel
theorem dX0_find_7 : decode cX0_find 7 = .ok (.if_icmp .ge 31, 3) := by decide +kernel
theorem dX0_find_10 : decode cX0_find 10 = .ok (.aload_n 0, 1) := by decide +kernel
theorem dX0_find_11 : decode cX0_find 11 = .ok (.getfield 9, 3) := by decide +kernel
theorem dX0_find_14 : decode cX0_find 14 = .ok (.iload_n 3, 1) := by decide +kernel
theorem dX0_find_15 : decode cX0_find 15 = .ok (.iaload, 1) := by decide +kernel
theorem dX0_find_16 : decode cX0_find 16 = .ok (.iload_n 1, 1) := by decide +kernel
theorem dX0_find_17 : decode cX0_find 17 = .ok (.if_icmp .ne 15, 3) := by decide +kernel
theorem dX0_find_20 : decode cX0_find 20 = .ok (.aload_n 0, 1) := by decide +kernel
theorem dX0_find_21 : decode cX0_find 21 = .ok (.getfield 15, 3) := by decide +kernel
theorem dX0_find_24 : decode cX0_find 24 = .ok (.iload_n 3, 1) := by decide +kernel
theorem dX0_find_25 : decode cX0_find 25 = .ok (.iaload, 1) := by decide +kernel
theorem dX0_find_26 : decode cX0_find 26 = .ok (.iload_n 2, 1) := by decide +kernel
theorem dX0_find_27 : decode cX0_find 27 = .ok (.if_icmp .ne 5, 3) := by decide +kernel
theorem dX0_find_30 : decode cX0_find 30 = .ok (.iload_n 3, 1) := by decide +kernel
theorem dX0_find_31 : decode cX0_find 31 = .ok (.ireturn, 1) := by decide +kernel
theorem dX0_find_32 : decode cX0_find 32 = .ok (.iinc 3 1, 3) := by decide +kernel
theorem dX0_find_35 : decode cX0_find 35 = .ok (.goto (-33), 3) := by decide +kernel
theorem dX0_find_38 : decode cX0_find 38 = .ok (.iconst (-1), 1) := by decide +kernel
theorem dX0_find_39 : decode cX0_find 39 = .ok (.ireturn, 1) := by decide +kernel
set_option maxRecDepth 20000 in
theorem ggX0_product_X0_has : GoodIn wsX0_product wsX0_has := goodIn_r _ [9, 10, 66, 67, 68, 69, 70, 71] (by decide +kernel) (by decide +kernel)
set_option maxRecDepth 20000 in
theorem gX0_product_X0_has : GoodIn wsX0_product (wsV RX0 39 RX0 yX0_has wsX0_has) := goodIn_app (goodIn_of _ (by decide +kernel)) ggX0_product_X0_has
set_option maxRecDepth 20000 in
theorem ggX0_product_X3_gcd : GoodIn wsX0_product wsX3_gcd := goodIn_r _ [13, 14, 15, 16, 17] (by decide +kernel) (by decide +kernel)
set_option maxRecDepth 20000 in
theorem gX0_product_X3_gcd_n43 : GoodIn wsX0_product (wsX3_gcd) := ggX0_product_X3_gcd
set_option maxRecDepth 20000 in
theorem ggX0_product_X0_middleOfProduct : GoodIn wsX0_product wsX0_middleOfProduct := goodIn_r _ [21, 3, 22, 12, 23, 66, 67, 68, 69, 70, 71] (by decide +kernel) (by decide +kernel)
set_option maxRecDepth 20000 in
theorem gX0_product_X0_middleOfProduct : GoodIn wsX0_product (wsV RX0 47 RX0 yX0_middleOfProduct wsX0_middleOfProduct) := goodIn_app (goodIn_of _ (by decide +kernel)) ggX0_product_X0_middleOfProduct
set_option maxRecDepth 20000 in
theorem ggX0_product_X3_divides : GoodIn wsX0_product wsX3_divides := goodIn_r _ [23] (by decide +kernel) (by decide +kernel)
set_option maxRecDepth 20000 in
theorem gX0_product_X3_divides_n51 : GoodIn wsX0_product (wsX3_divides) := ggX0_product_X3_divides
set_option maxRecDepth 20000 in
theorem ggX0_product_X1_run : GoodIn wsX0_product wsX1_run := goodIn_r _ [28, 29, 30, 31, 32, 27, 33, 34, 35, 36, 37, 38, 39, 40, 41, 42, 43, 44, 45, 15, 16, 17, 46, 47, 48, 49, 50, 51, 52, 53, 54, 55, 56, 57, 58, 59, 60, 61, 72, 73, 74, 75, 76, 77, 78, 79] (by decide +kernel) (by decide +kernel)
set_option maxRecDepth 20000 in
theorem gX0_product_X1_run : GoodIn wsX0_product (wsV RX0 54 RX1 yX1_run wsX1_run) := goodIn_app (goodIn_of _ (by decide +kernel)) ggX0_product_X1_run
set_option maxRecDepth 20000 in
theorem ggX0_product_X0_find : GoodIn wsX0_product wsX0_find := goodIn_r _ [65, 10, 1, 2, 66, 67, 68, 69, 70, 71] (by decide +kernel) (by decide +kernel)
set_option maxRecDepth 20000 in
theorem gX0_product_X0_find : GoodIn wsX0_product (wsV RX0 62 RX0 yX0_find wsX0_find) := goodIn_app (goodIn_of _ (by decide +kernel)) ggX0_product_X0_find
theorem dX0_product_0 : decode cX0_product 0 = .ok (.aload_n 0, 1) := by decide +kernel
theorem dX0_product_1 : decode cX0_product 1 = .ok (.iload_n 1, 1) := by decide +kernel
theorem dX0_product_2 : decode cX0_product 2 = .ok (.invokevirtual 39, 3) := by decide +kernel
theorem dX0_product_5 : decode cX0_product 5 = .ok (.ifCond .eq 11, 3) := by decide +kernel
theorem dX0_product_8 : decode cX0_product 8 = .ok (.aload_n 0, 1) := by decide +kernel
theorem dX0_product_9 : decode cX0_product 9 = .ok (.iload_n 2, 1) := by decide +kernel
theorem dX0_product_10 : decode cX0_product 10 = .ok (.invokevirtual 39, 3) := by decide +kernel
theorem dX0_product_13 : decode cX0_product 13 = .ok (.ifCond .ne 5, 3) := by decide +kernel
theorem dX0_product_16 : decode cX0_product 16 = .ok (.iconst (-1), 1) := by decide +kernel
theorem dX0_product_17 : decode cX0_product 17 = .ok (.ireturn, 1) := by decide +kernel
theorem dX0_product_18 : decode cX0_product 18 = .ok (.aload_n 0, 1) := by decide +kernel
theorem dX0_product_19 : decode cX0_product 19 = .ok (.getfield 9, 3) := by decide +kernel
theorem dX0_product_22 : decode cX0_product 22 = .ok (.iload_n 1, 1) := by decide +kernel
theorem dX0_product_23 : decode cX0_product 23 = .ok (.iaload, 1) := by decide +kernel
theorem dX0_product_24 : decode cX0_product 24 = .ok (.aload_n 0, 1) := by decide +kernel
theorem dX0_product_25 : decode cX0_product 25 = .ok (.getfield 9, 3) := by decide +kernel
theorem dX0_product_28 : decode cX0_product 28 = .ok (.iload_n 2, 1) := by decide +kernel
theorem dX0_product_29 : decode cX0_product 29 = .ok (.iaload, 1) := by decide +kernel
theorem dX0_product_30 : decode cX0_product 30 = .ok (.invokestatic 43, 3) := by decide +kernel
theorem dX0_product_33 : decode cX0_product 33 = .ok (.aload_n 0, 1) := by decide +kernel
theorem dX0_product_34 : decode cX0_product 34 = .ok (.getfield 15, 3) := by decide +kernel
theorem dX0_product_37 : decode cX0_product 37 = .ok (.iload_n 1, 1) := by decide +kernel
theorem dX0_product_38 : decode cX0_product 38 = .ok (.iaload, 1) := by decide +kernel
theorem dX0_product_39 : decode cX0_product 39 = .ok (.aload_n 0, 1) := by decide +kernel
theorem dX0_product_40 : decode cX0_product 40 = .ok (.getfield 15, 3) := by decide +kernel
theorem dX0_product_43 : decode cX0_product 43 = .ok (.iload_n 2, 1) := by decide +kernel
theorem dX0_product_44 : decode cX0_product 44 = .ok (.iaload, 1) := by decide +kernel
theorem dX0_product_45 : decode cX0_product 45 = .ok (.iadd, 1) := by decide +kernel
theorem dX0_product_46 : decode cX0_product 46 = .ok (.iconst 2, 1) := by decide +kernel
theorem dX0_product_47 : decode cX0_product 47 = .ok (.idiv, 1) := by decide +kernel
theorem dX0_product_48 : decode cX0_product 48 = .ok (.invokestatic 43, 3) := by decide +kernel
theorem dX0_product_51 : decode cX0_product 51 = .ok (.istore_n 3, 1) := by decide +kernel
theorem dX0_product_52 : decode cX0_product 52 = .ok (.iload_n 3, 1) := by decide +kernel
theorem dX0_product_53 : decode cX0_product 53 = .ok (.ifCond .ne 5, 3) := by decide +kernel
theorem dX0_product_56 : decode cX0_product 56 = .ok (.iconst (-1), 1) := by decide +kernel
theorem dX0_product_57 : decode cX0_product 57 = .ok (.ireturn, 1) := by decide +kernel
theorem dX0_product_58 : decode cX0_product 58 = .ok (.aload_n 0, 1) := by decide +kernel
theorem dX0_product_59 : decode cX0_product 59 = .ok (.getfield 9, 3) := by decide +kernel
theorem dX0_product_62 : decode cX0_product 62 = .ok (.iload_n 1, 1) := by decide +kernel
theorem dX0_product_63 : decode cX0_product 63 = .ok (.iaload, 1) := by decide +kernel
theorem dX0_product_64 : decode cX0_product 64 = .ok (.iload_n 3, 1) := by decide +kernel
theorem dX0_product_65 : decode cX0_product 65 = .ok (.idiv, 1) := by decide +kernel
theorem dX0_product_66 : decode cX0_product 66 = .ok (.istore 4, 2) := by decide +kernel
theorem dX0_product_68 : decode cX0_product 68 = .ok (.aload_n 0, 1) := by decide +kernel
theorem dX0_product_69 : decode cX0_product 69 = .ok (.getfield 9, 3) := by decide +kernel
theorem dX0_product_72 : decode cX0_product 72 = .ok (.iload_n 2, 1) := by decide +kernel
theorem dX0_product_73 : decode cX0_product 73 = .ok (.iaload, 1) := by decide +kernel
theorem dX0_product_74 : decode cX0_product 74 = .ok (.iload_n 3, 1) := by decide +kernel
theorem dX0_product_75 : decode cX0_product 75 = .ok (.idiv, 1) := by decide +kernel
theorem dX0_product_76 : decode cX0_product 76 = .ok (.istore 5, 2) := by decide +kernel
theorem dX0_product_78 : decode cX0_product 78 = .ok (.aload_n 0, 1) := by decide +kernel
theorem dX0_product_79 : decode cX0_product 79 = .ok (.iload 4, 2) := by decide +kernel
theorem dX0_product_81 : decode cX0_product 81 = .ok (.aload_n 0, 1) := by decide +kernel
theorem dX0_product_82 : decode cX0_product 82 = .ok (.getfield 15, 3) := by decide +kernel
theorem dX0_product_85 : decode cX0_product 85 = .ok (.iload_n 1, 1) := by decide +kernel
theorem dX0_product_86 : decode cX0_product 86 = .ok (.iaload, 1) := by decide +kernel
theorem dX0_product_87 : decode cX0_product 87 = .ok (.iload 5, 2) := by decide +kernel
theorem dX0_product_89 : decode cX0_product 89 = .ok (.aload_n 0, 1) := by decide +kernel
theorem dX0_product_90 : decode cX0_product 90 = .ok (.getfield 15, 3) := by decide +kernel
theorem dX0_product_93 : decode cX0_product 93 = .ok (.iload_n 2, 1) := by decide +kernel
theorem dX0_product_94 : decode cX0_product 94 = .ok (.iaload, 1) := by decide +kernel
theorem dX0_product_95 : decode cX0_product 95 = .ok (.iload_n 3, 1) := by decide +kernel
theorem dX0_product_96 : decode cX0_product 96 = .ok (.invokevirtual 47, 3) := by decide +kernel
theorem dX0_product_99 : decode cX0_product 99 = .ok (.istore 6, 2) := by decide +kernel
theorem dX0_product_101 : decode cX0_product 101 = .ok (.iload 6, 2) := by decide +kernel
theorem dX0_product_103 : decode cX0_product 103 = .ok (.iload 6, 2) := by decide +kernel
theorem dX0_product_105 : decode cX0_product 105 = .ok (.imul, 1) := by decide +kernel
theorem dX0_product_106 : decode cX0_product 106 = .ok (.aload_n 0, 1) := by decide +kernel
theorem dX0_product_107 : decode cX0_product 107 = .ok (.getfield 28, 3) := by decide +kernel
theorem dX0_product_110 : decode cX0_product 110 = .ok (.isub, 1) := by decide +kernel
theorem dX0_product_111 : decode cX0_product 111 = .ok (.istore 7, 2) := by decide +kernel
theorem dX0_product_113 : decode cX0_product 113 = .ok (.iconst 4, 1) := by decide +kernel
theorem dX0_product_114 : decode cX0_product 114 = .ok (.iload 4, 2) := by decide +kernel
theorem dX0_product_116 : decode cX0_product 116 = .ok (.imul, 1) := by decide +kernel
theorem dX0_product_117 : decode cX0_product 117 = .ok (.iload 5, 2) := by decide +kernel
theorem dX0_product_119 : decode cX0_product 119 = .ok (.imul, 1) := by decide +kernel
theorem dX0_product_120 : decode cX0_product 120 = .ok (.istore 8, 2) := by decide +kernel
theorem dX0_product_122 : decode cX0_product 122 = .ok (.iload 8, 2) := by decide +kernel
theorem dX0_product_124 : decode cX0_product 124 = .ok (.iload 7, 2) := by decide +kernel
theorem dX0_product_126 : decode cX0_product 126 = .ok (.invokestatic 51, 3) := by decide +kernel
theorem dX0_product_129 : decode cX0_product 129 = .ok (.ifCond .ne 5, 3) := by decide +kernel
theorem dX0_product_132 : decode cX0_product 132 = .ok (.iconst (-1), 1) := by decide +kernel
theorem dX0_product_133 : decode cX0_product 133 = .ok (.ireturn, 1) := by decide +kernel
theorem dX0_product_134 : decode cX0_product 134 = .ok (.aload_n 0, 1) := by decide +kernel
theorem dX0_product_135 : decode cX0_product 135 = .ok (.getfield 24, 3) := by decide +kernel
theorem dX0_product_138 : decode cX0_product 138 = .ok (.iload 4, 2) := by decide +kernel
theorem dX0_product_140 : decode cX0_product 140 = .ok (.iload 5, 2) := by decide +kernel
theorem dX0_product_142 : decode cX0_product 142 = .ok (.imul, 1) := by decide +kernel
theorem dX0_product_143 : decode cX0_product 143 = .ok (.iload 6, 2) := by decide +kernel
theorem dX0_product_145 : decode cX0_product 145 = .ok (.iload 7, 2) := by decide +kernel
theorem dX0_product_147 : decode cX0_product 147 = .ok (.iload 8, 2) := by decide +kernel
theorem dX0_product_149 : decode cX0_product 149 = .ok (.idiv, 1) := by decide +kernel
theorem dX0_product_150 : decode cX0_product 150 = .ok (.invokevirtual 54, 3) := by decide +kernel
theorem dX0_product_153 : decode cX0_product 153 = .ok (.pop, 1) := by decide +kernel
theorem dX0_product_154 : decode cX0_product 154 = .ok (.aload_n 0, 1) := by decide +kernel
theorem dX0_product_155 : decode cX0_product 155 = .ok (.aload_n 0, 1) := by decide +kernel
theorem dX0_product_156 : decode cX0_product 156 = .ok (.getfield 24, 3) := by decide +kernel
theorem dX0_product_159 : decode cX0_product 159 = .ok (.getfield 58, 3) := by decide +kernel
theorem dX0_product_162 : decode cX0_product 162 = .ok (.aload_n 0, 1) := by decide +kernel
theorem dX0_product_163 : decode cX0_product 163 = .ok (.getfield 24, 3) := by decide +kernel
theorem dX0_product_166 : decode cX0_product 166 = .ok (.getfield 60, 3) := by decide +kernel
theorem dX0_product_169 : decode cX0_product 169 = .ok (.invokevirtual 62, 3) := by decide +kernel
theorem dX0_product_172 : decode cX0_product 172 = .ok (.ireturn, 1) := by decide +kernel
set_option maxRecDepth 20000 in
theorem ggX0_opposite_X0_has : GoodIn wsX0_opposite wsX0_has := goodIn_r _ [7, 8, 13, 14, 15, 16, 17, 18] (by decide +kernel) (by decide +kernel)
set_option maxRecDepth 20000 in
theorem gX0_opposite_X0_has : GoodIn wsX0_opposite (wsV RX0 39 RX0 yX0_has wsX0_has) := goodIn_app (goodIn_of _ (by decide +kernel)) ggX0_opposite_X0_has
set_option maxRecDepth 20000 in
theorem ggX0_opposite_X0_find : GoodIn wsX0_opposite wsX0_find := goodIn_r _ [12, 8, 1, 2, 13, 14, 15, 16, 17, 18] (by decide +kernel) (by decide +kernel)
set_option maxRecDepth 20000 in
theorem gX0_opposite_X0_find : GoodIn wsX0_opposite (wsV RX0 62 RX0 yX0_find wsX0_find) := goodIn_app (goodIn_of _ (by decide +kernel)) ggX0_opposite_X0_find
theorem dX0_opposite_0 : decode cX0_opposite 0 = .ok (.aload_n 0, 1) := by decide +kernel
theorem dX0_opposite_1 : decode cX0_opposite 1 = .ok (.iload_n 1, 1) := by decide +kernel
theorem dX0_opposite_2 : decode cX0_opposite 2 = .ok (.invokevirtual 39, 3) := by decide +kernel
theorem dX0_opposite_5 : decode cX0_opposite 5 = .ok (.ifCond .ne 5, 3) := by decide +kernel
theorem dX0_opposite_8 : decode cX0_opposite 8 = .ok (.iconst (-1), 1) := by decide +kernel
theorem dX0_opposite_9 : decode cX0_opposite 9 = .ok (.ireturn, 1) := by decide +kernel
theorem dX0_opposite_10 : decode cX0_opposite 10 = .ok (.aload_n 0, 1) := by decide +kernel
theorem dX0_opposite_11 : decode cX0_opposite 11 = .ok (.aload_n 0, 1) := by decide +kernel
theorem dX0_opposite_12 : decode cX0_opposite 12 = .ok (.getfield 9, 3) := by decide +kernel
theorem dX0_opposite_15 : decode cX0_opposite 15 = .ok (.iload_n 1, 1) := by decide +kernel
theorem dX0_opposite_16 : decode cX0_opposite 16 = .ok (.iaload, 1) := by decide +kernel
theorem dX0_opposite_17 : decode cX0_opposite 17 = .ok (.aload_n 0, 1) := by decide +kernel
theorem dX0_opposite_18 : decode cX0_opposite 18 = .ok (.getfield 15, 3) := by decide +kernel
theorem dX0_opposite_21 : decode cX0_opposite 21 = .ok (.iload_n 1, 1) := by decide +kernel
theorem dX0_opposite_22 : decode cX0_opposite 22 = .ok (.iaload, 1) := by decide +kernel
theorem dX0_opposite_23 : decode cX0_opposite 23 = .ok (.ineg, 1) := by decide +kernel
theorem dX0_opposite_24 : decode cX0_opposite 24 = .ok (.invokevirtual 62, 3) := by decide +kernel
theorem dX0_opposite_27 : decode cX0_opposite 27 = .ok (.istore_n 2, 1) := by decide +kernel
theorem dX0_opposite_28 : decode cX0_opposite 28 = .ok (.iload_n 2, 1) := by decide +kernel
theorem dX0_opposite_29 : decode cX0_opposite 29 = .ok (.iconst (-1), 1) := by decide +kernel
theorem dX0_opposite_30 : decode cX0_opposite 30 = .ok (.if_icmp .ne 7, 3) := by decide +kernel
theorem dX0_opposite_33 : decode cX0_opposite 33 = .ok (.iload_n 1, 1) := by decide +kernel
theorem dX0_opposite_34 : decode cX0_opposite 34 = .ok (.goto 4, 3) := by decide +kernel
theorem dX0_opposite_37 : decode cX0_opposite 37 = .ok (.iload_n 2, 1) := by decide +kernel
theorem dX0_opposite_38 : decode cX0_opposite 38 = .ok (.ireturn, 1) := by decide +kernel
set_option maxRecDepth 20000 in
theorem ggX0_raised_J9_floorMod_7cf53 : GoodIn wsX0_raised wsJ9_floorMod_7cf53 := goodIn_r _ [5] (by decide +kernel) (by decide +kernel)
set_option maxRecDepth 20000 in
theorem gX0_raised_J9_floorMod_7cf53 : GoodIn wsX0_raised (va_wsS RX0 65 yJ9_floorMod_7cf53 wsJ9_floorMod_7cf53) := goodIn_app (goodIn_of _ (by decide +kernel)) ggX0_raised_J9_floorMod_7cf53
set_option maxRecDepth 20000 in
theorem ggX0_raised_X0_product : GoodIn wsX0_raised wsX0_product := goodIn_r _ [10, 11, 12, 13, 14, 15, 16, 17, 9, 18, 1, 19, 20, 21, 22, 23, 24, 25, 26, 27, 28, 29, 30, 31, 32, 33, 34, 35, 36, 37, 38, 39, 40, 41, 42, 43, 44, 45, 46, 47, 48, 49, 50, 51, 52, 53, 54, 55, 56, 57, 58, 59, 60, 61, 62, 63, 4, 64, 65, 66, 67, 68, 69, 70, 71, 72, 73, 74, 75, 76, 77, 78, 79, 80, 81, 82, 83, 84, 85, 86] (by decide +kernel) (by decide +kernel)
set_option maxRecDepth 20000 in
theorem gX0_raised_X0_product : GoodIn wsX0_raised (wsV RX0 70 RX0 yX0_product wsX0_product) := goodIn_app (goodIn_of _ (by decide +kernel)) ggX0_raised_X0_product
theorem dX0_raised_0 : decode cX0_raised 0 = .ok (.aload_n 0, 1) := by decide +kernel
theorem dX0_raised_1 : decode cX0_raised 1 = .ok (.getfield 32, 3) := by decide +kernel
theorem dX0_raised_4 : decode cX0_raised 4 = .ok (.ifCond .ne 5, 3) := by decide +kernel
theorem dX0_raised_7 : decode cX0_raised 7 = .ok (.iconst (-1), 1) := by decide +kernel
theorem dX0_raised_8 : decode cX0_raised 8 = .ok (.ireturn, 1) := by decide +kernel
theorem dX0_raised_9 : decode cX0_raised 9 = .ok (.iload_n 2, 1) := by decide +kernel
theorem dX0_raised_10 : decode cX0_raised 10 = .ok (.aload_n 0, 1) := by decide +kernel
theorem dX0_raised_11 : decode cX0_raised 11 = .ok (.getfield 32, 3) := by decide +kernel
theorem dX0_raised_14 : decode cX0_raised 14 = .ok (.invokestatic 65, 3) := by decide +kernel
theorem dX0_raised_17 : decode cX0_raised 17 = .ok (.istore_n 3, 1) := by decide +kernel
theorem dX0_raised_18 : decode cX0_raised 18 = .ok (.iconst 0, 1) := by decide +kernel
theorem dX0_raised_19 : decode cX0_raised 19 = .ok (.istore 4, 2) := by decide +kernel
theorem dX0_raised_21 : decode cX0_raised 21 = .ok (.iconst 0, 1) := by decide +kernel
theorem dX0_raised_22 : decode cX0_raised 22 = .ok (.istore 5, 2) := by decide +kernel
theorem dX0_raised_24 : decode cX0_raised 24 = .ok (.iload 5, 2) := by decide +kernel
theorem dX0_raised_26 : decode cX0_raised 26 = .ok (.iload_n 3, 1) := by decide +kernel
theorem dX0_raised_27 : decode cX0_raised 27 = .ok (.if_icmp .ge 18, 3) := by decide +kernel
theorem dX0_raised_30 : decode cX0_raised 30 = .ok (.aload_n 0, 1) := by decide +kernel
theorem dX0_raised_31 : decode cX0_raised 31 = .ok (.iload 4, 2) := by decide +kernel
theorem dX0_raised_33 : decode cX0_raised 33 = .ok (.iload_n 1, 1) := by decide +kernel
theorem dX0_raised_34 : decode cX0_raised 34 = .ok (.invokevirtual 70, 3) := by decide +kernel
theorem dX0_raised_37 : decode cX0_raised 37 = .ok (.istore 4, 2) := by decide +kernel
theorem dX0_raised_39 : decode cX0_raised 39 = .ok (.iinc 5 1, 3) := by decide +kernel
theorem dX0_raised_42 : decode cX0_raised 42 = .ok (.goto (-18), 3) := by decide +kernel
theorem dX0_raised_45 : decode cX0_raised 45 = .ok (.iload 4, 2) := by decide +kernel
theorem dX0_raised_47 : decode cX0_raised 47 = .ok (.ireturn, 1) := by decide +kernel
set_option maxRecDepth 20000 in
theorem ggX0_orderOf_X0_product : GoodIn wsX0_orderOf wsX0_product := goodIn_r _ [6, 7, 8, 9, 10, 11, 12, 13, 5, 14, 1, 15, 16, 17, 18, 19, 20, 21, 22, 23, 24, 25, 26, 27, 28, 29, 30, 31, 32, 33, 34, 35, 36, 37, 38, 39, 40, 41, 42, 43, 44, 45, 46, 47, 48, 49, 50, 51, 52, 53, 54, 55, 56, 57, 58, 59, 60, 61, 62, 63, 64, 65, 66, 67, 68, 69, 70, 71, 72, 73, 74, 75, 76, 77, 78, 79, 80, 81, 82, 83] (by decide +kernel) (by decide +kernel)
set_option maxRecDepth 20000 in
theorem gX0_orderOf_X0_product : GoodIn wsX0_orderOf (wsV RX0 70 RX0 yX0_product wsX0_product) := goodIn_app (goodIn_of _ (by decide +kernel)) ggX0_orderOf_X0_product
theorem dX0_orderOf_0 : decode cX0_orderOf 0 = .ok (.iconst 1, 1) := by decide +kernel
theorem dX0_orderOf_1 : decode cX0_orderOf 1 = .ok (.istore_n 2, 1) := by decide +kernel
theorem dX0_orderOf_2 : decode cX0_orderOf 2 = .ok (.iload_n 1, 1) := by decide +kernel
theorem dX0_orderOf_3 : decode cX0_orderOf 3 = .ok (.istore_n 3, 1) := by decide +kernel
theorem dX0_orderOf_4 : decode cX0_orderOf 4 = .ok (.iload_n 3, 1) := by decide +kernel
theorem dX0_orderOf_5 : decode cX0_orderOf 5 = .ok (.ifCond .eq 24, 3) := by decide +kernel
theorem dX0_orderOf_8 : decode cX0_orderOf 8 = .ok (.iload_n 2, 1) := by decide +kernel
theorem dX0_orderOf_9 : decode cX0_orderOf 9 = .ok (.aload_n 0, 1) := by decide +kernel
theorem dX0_orderOf_10 : decode cX0_orderOf 10 = .ok (.getfield 32, 3) := by decide +kernel
theorem dX0_orderOf_13 : decode cX0_orderOf 13 = .ok (.if_icmp .ge 16, 3) := by decide +kernel
theorem dX0_orderOf_16 : decode cX0_orderOf 16 = .ok (.aload_n 0, 1) := by decide +kernel
theorem dX0_orderOf_17 : decode cX0_orderOf 17 = .ok (.iload_n 3, 1) := by decide +kernel
theorem dX0_orderOf_18 : decode cX0_orderOf 18 = .ok (.iload_n 1, 1) := by decide +kernel
theorem dX0_orderOf_19 : decode cX0_orderOf 19 = .ok (.invokevirtual 70, 3) := by decide +kernel
theorem dX0_orderOf_22 : decode cX0_orderOf 22 = .ok (.istore_n 3, 1) := by decide +kernel
theorem dX0_orderOf_23 : decode cX0_orderOf 23 = .ok (.iinc 2 1, 3) := by decide +kernel
theorem dX0_orderOf_26 : decode cX0_orderOf 26 = .ok (.goto (-22), 3) := by decide +kernel
theorem dX0_orderOf_29 : decode cX0_orderOf 29 = .ok (.iload_n 2, 1) := by decide +kernel
theorem dX0_orderOf_30 : decode cX0_orderOf 30 = .ok (.ireturn, 1) := by decide +kernel
set_option maxRecDepth 20000 in
theorem ggX0_genusOf_X0_product : GoodIn wsX0_genusOf wsX0_product := goodIn_r _ [10, 11, 12, 13, 14, 15, 16, 17, 9, 18, 1, 19, 20, 21, 22, 23, 4, 24, 25, 26, 27, 28, 29, 30, 31, 32, 33, 34, 35, 36, 37, 38, 39, 40, 41, 42, 43, 44, 45, 46, 47, 48, 49, 50, 51, 52, 53, 54, 55, 56, 57, 58, 59, 60, 61, 62, 63, 64, 65, 66, 67, 68, 69, 70, 71, 72, 73, 74, 75, 76, 77, 78, 79, 80, 81, 82, 83, 84, 85, 86] (by decide +kernel) (by decide +kernel)
set_option maxRecDepth 20000 in
theorem gX0_genusOf_X0_product : GoodIn wsX0_genusOf (wsV RX0 70 RX0 yX0_product wsX0_product) := goodIn_app (goodIn_of _ (by decide +kernel)) ggX0_genusOf_X0_product
theorem dX0_genusOf_0 : decode cX0_genusOf 0 = .ok (.iload_n 1, 1) := by decide +kernel
theorem dX0_genusOf_1 : decode cX0_genusOf 1 = .ok (.istore_n 2, 1) := by decide +kernel
theorem dX0_genusOf_2 : decode cX0_genusOf 2 = .ok (.iconst 0, 1) := by decide +kernel
theorem dX0_genusOf_3 : decode cX0_genusOf 3 = .ok (.istore_n 3, 1) := by decide +kernel
theorem dX0_genusOf_4 : decode cX0_genusOf 4 = .ok (.iload_n 3, 1) := by decide +kernel
theorem dX0_genusOf_5 : decode cX0_genusOf 5 = .ok (.aload_n 0, 1) := by decide +kernel
theorem dX0_genusOf_6 : decode cX0_genusOf 6 = .ok (.getfield 32, 3) := by decide +kernel
theorem dX0_genusOf_9 : decode cX0_genusOf 9 = .ok (.if_icmp .ge 25, 3) := by decide +kernel
theorem dX0_genusOf_12 : decode cX0_genusOf 12 = .ok (.iload_n 2, 1) := by decide +kernel
theorem dX0_genusOf_13 : decode cX0_genusOf 13 = .ok (.aload_n 0, 1) := by decide +kernel
theorem dX0_genusOf_14 : decode cX0_genusOf 14 = .ok (.iload_n 1, 1) := by decide +kernel
theorem dX0_genusOf_15 : decode cX0_genusOf 15 = .ok (.aload_n 0, 1) := by decide +kernel
theorem dX0_genusOf_16 : decode cX0_genusOf 16 = .ok (.iload_n 3, 1) := by decide +kernel
theorem dX0_genusOf_17 : decode cX0_genusOf 17 = .ok (.iload_n 3, 1) := by decide +kernel
theorem dX0_genusOf_18 : decode cX0_genusOf 18 = .ok (.invokevirtual 70, 3) := by decide +kernel
theorem dX0_genusOf_21 : decode cX0_genusOf 21 = .ok (.invokevirtual 70, 3) := by decide +kernel
theorem dX0_genusOf_24 : decode cX0_genusOf 24 = .ok (.invokestatic 73, 3) := by decide +kernel
theorem dX0_genusOf_27 : decode cX0_genusOf 27 = .ok (.istore_n 2, 1) := by decide +kernel
theorem dX0_genusOf_28 : decode cX0_genusOf 28 = .ok (.iinc 3 1, 3) := by decide +kernel
theorem dX0_genusOf_31 : decode cX0_genusOf 31 = .ok (.goto (-27), 3) := by decide +kernel
theorem dX0_genusOf_34 : decode cX0_genusOf 34 = .ok (.iload_n 2, 1) := by decide +kernel
theorem dX0_genusOf_35 : decode cX0_genusOf 35 = .ok (.ireturn, 1) := by decide +kernel
set_option maxRecDepth 20000 in
theorem ggX0_countGenera_X0_opposite : GoodIn wsX0_countGenera wsX0_opposite := goodIn_r _ [6, 7, 8, 9, 10, 11, 5, 12, 1, 13, 14, 15, 16, 17, 18, 19, 20, 21, 22] (by decide +kernel) (by decide +kernel)
set_option maxRecDepth 20000 in
theorem gX0_countGenera_X0_opposite : GoodIn wsX0_countGenera (wsV RX0 76 RX0 yX0_opposite wsX0_opposite) := goodIn_app (goodIn_of _ (by decide +kernel)) ggX0_countGenera_X0_opposite
theorem dX0_countGenera_0 : decode cX0_countGenera 0 = .ok (.iconst 0, 1) := by decide +kernel
theorem dX0_countGenera_1 : decode cX0_countGenera 1 = .ok (.istore_n 1, 1) := by decide +kernel
theorem dX0_countGenera_2 : decode cX0_countGenera 2 = .ok (.iconst 0, 1) := by decide +kernel
theorem dX0_countGenera_3 : decode cX0_countGenera 3 = .ok (.istore_n 2, 1) := by decide +kernel
theorem dX0_countGenera_4 : decode cX0_countGenera 4 = .ok (.iload_n 2, 1) := by decide +kernel
theorem dX0_countGenera_5 : decode cX0_countGenera 5 = .ok (.aload_n 0, 1) := by decide +kernel
theorem dX0_countGenera_6 : decode cX0_countGenera 6 = .ok (.getfield 32, 3) := by decide +kernel
theorem dX0_countGenera_9 : decode cX0_countGenera 9 = .ok (.if_icmp .ge 21, 3) := by decide +kernel
theorem dX0_countGenera_12 : decode cX0_countGenera 12 = .ok (.aload_n 0, 1) := by decide +kernel
theorem dX0_countGenera_13 : decode cX0_countGenera 13 = .ok (.iload_n 2, 1) := by decide +kernel
theorem dX0_countGenera_14 : decode cX0_countGenera 14 = .ok (.invokevirtual 76, 3) := by decide +kernel
theorem dX0_countGenera_17 : decode cX0_countGenera 17 = .ok (.iload_n 2, 1) := by decide +kernel
theorem dX0_countGenera_18 : decode cX0_countGenera 18 = .ok (.if_icmp .ne 6, 3) := by decide +kernel
theorem dX0_countGenera_21 : decode cX0_countGenera 21 = .ok (.iinc 1 1, 3) := by decide +kernel
theorem dX0_countGenera_24 : decode cX0_countGenera 24 = .ok (.iinc 2 1, 3) := by decide +kernel
theorem dX0_countGenera_27 : decode cX0_countGenera 27 = .ok (.goto (-23), 3) := by decide +kernel
theorem dX0_countGenera_30 : decode cX0_countGenera 30 = .ok (.iload_n 1, 1) := by decide +kernel
theorem dX0_countGenera_31 : decode cX0_countGenera 31 = .ok (.ireturn, 1) := by decide +kernel
set_option maxRecDepth 20000 in
theorem ggX0_countPairs_X0_has : GoodIn wsX0_countPairs wsX0_has := goodIn_r _ [7, 8, 29, 30, 31, 32, 33, 34] (by decide +kernel) (by decide +kernel)
set_option maxRecDepth 20000 in
theorem gX0_countPairs_X0_has : GoodIn wsX0_countPairs (wsV RX0 39 RX0 yX0_has wsX0_has) := goodIn_app (goodIn_of _ (by decide +kernel)) ggX0_countPairs_X0_has
set_option maxRecDepth 20000 in
theorem ggX0_countPairs_X0_countInRow : GoodIn wsX0_countPairs wsX0_countInRow := goodIn_r _ [12, 13, 14, 15, 16, 17, 18, 19, 6, 20, 1, 21, 22, 23, 24, 25, 26, 27, 28, 29, 30, 31, 32, 33, 34] (by decide +kernel) (by decide +kernel)
set_option maxRecDepth 20000 in
theorem gX0_countPairs_X0_countInRow : GoodIn wsX0_countPairs (wsV RX0 80 RX0 yX0_countInRow wsX0_countInRow) := goodIn_app (goodIn_of _ (by decide +kernel)) ggX0_countPairs_X0_countInRow
theorem dX0_countPairs_0 : decode cX0_countPairs 0 = .ok (.aload_n 0, 1) := by decide +kernel
theorem dX0_countPairs_1 : decode cX0_countPairs 1 = .ok (.iload_n 1, 1) := by decide +kernel
theorem dX0_countPairs_2 : decode cX0_countPairs 2 = .ok (.invokevirtual 39, 3) := by decide +kernel
theorem dX0_countPairs_5 : decode cX0_countPairs 5 = .ok (.ifCond .ne 5, 3) := by decide +kernel
theorem dX0_countPairs_8 : decode cX0_countPairs 8 = .ok (.iconst 0, 1) := by decide +kernel
theorem dX0_countPairs_9 : decode cX0_countPairs 9 = .ok (.ireturn, 1) := by decide +kernel
theorem dX0_countPairs_10 : decode cX0_countPairs 10 = .ok (.iconst 0, 1) := by decide +kernel
theorem dX0_countPairs_11 : decode cX0_countPairs 11 = .ok (.istore 4, 2) := by decide +kernel
theorem dX0_countPairs_13 : decode cX0_countPairs 13 = .ok (.iconst 0, 1) := by decide +kernel
theorem dX0_countPairs_14 : decode cX0_countPairs 14 = .ok (.istore 5, 2) := by decide +kernel
theorem dX0_countPairs_16 : decode cX0_countPairs 16 = .ok (.iload 5, 2) := by decide +kernel
theorem dX0_countPairs_18 : decode cX0_countPairs 18 = .ok (.iload_n 2, 1) := by decide +kernel
theorem dX0_countPairs_19 : decode cX0_countPairs 19 = .ok (.if_icmp .gt 71, 3) := by decide +kernel
theorem dX0_countPairs_22 : decode cX0_countPairs 22 = .ok (.iconst 4, 1) := by decide +kernel
theorem dX0_countPairs_23 : decode cX0_countPairs 23 = .ok (.aload_n 0, 1) := by decide +kernel
theorem dX0_countPairs_24 : decode cX0_countPairs 24 = .ok (.getfield 9, 3) := by decide +kernel
theorem dX0_countPairs_27 : decode cX0_countPairs 27 = .ok (.iload_n 1, 1) := by decide +kernel
theorem dX0_countPairs_28 : decode cX0_countPairs 28 = .ok (.iaload, 1) := by decide +kernel
theorem dX0_countPairs_29 : decode cX0_countPairs 29 = .ok (.imul, 1) := by decide +kernel
theorem dX0_countPairs_30 : decode cX0_countPairs 30 = .ok (.iload_n 2, 1) := by decide +kernel
theorem dX0_countPairs_31 : decode cX0_countPairs 31 = .ok (.imul, 1) := by decide +kernel
theorem dX0_countPairs_32 : decode cX0_countPairs 32 = .ok (.aload_n 0, 1) := by decide +kernel
theorem dX0_countPairs_33 : decode cX0_countPairs 33 = .ok (.getfield 28, 3) := by decide +kernel
theorem dX0_countPairs_36 : decode cX0_countPairs 36 = .ok (.iload 5, 2) := by decide +kernel
theorem dX0_countPairs_38 : decode cX0_countPairs 38 = .ok (.imul, 1) := by decide +kernel
theorem dX0_countPairs_39 : decode cX0_countPairs 39 = .ok (.iload 5, 2) := by decide +kernel
theorem dX0_countPairs_41 : decode cX0_countPairs 41 = .ok (.imul, 1) := by decide +kernel
theorem dX0_countPairs_42 : decode cX0_countPairs 42 = .ok (.iadd, 1) := by decide +kernel
theorem dX0_countPairs_43 : decode cX0_countPairs 43 = .ok (.istore 6, 2) := by decide +kernel
theorem dX0_countPairs_45 : decode cX0_countPairs 45 = .ok (.iload 6, 2) := by decide +kernel
theorem dX0_countPairs_47 : decode cX0_countPairs 47 = .ok (.ifCond .ge 6, 3) := by decide +kernel
theorem dX0_countPairs_50 : decode cX0_countPairs 50 = .ok (.goto 40, 3) := by decide +kernel
theorem dX0_countPairs_53 : decode cX0_countPairs 53 = .ok (.aload_n 0, 1) := by decide +kernel
theorem dX0_countPairs_54 : decode cX0_countPairs 54 = .ok (.iload_n 1, 1) := by decide +kernel
theorem dX0_countPairs_55 : decode cX0_countPairs 55 = .ok (.iload 5, 2) := by decide +kernel
theorem dX0_countPairs_57 : decode cX0_countPairs 57 = .ok (.iload 6, 2) := by decide +kernel
theorem dX0_countPairs_59 : decode cX0_countPairs 59 = .ok (.iload_n 3, 1) := by decide +kernel
theorem dX0_countPairs_60 : decode cX0_countPairs 60 = .ok (.invokevirtual 80, 3) := by decide +kernel
theorem dX0_countPairs_63 : decode cX0_countPairs 63 = .ok (.istore 7, 2) := by decide +kernel
theorem dX0_countPairs_65 : decode cX0_countPairs 65 = .ok (.iload 4, 2) := by decide +kernel
theorem dX0_countPairs_67 : decode cX0_countPairs 67 = .ok (.iload 5, 2) := by decide +kernel
theorem dX0_countPairs_69 : decode cX0_countPairs 69 = .ok (.ifCond .ne 8, 3) := by decide +kernel
theorem dX0_countPairs_72 : decode cX0_countPairs 72 = .ok (.iload 7, 2) := by decide +kernel
theorem dX0_countPairs_74 : decode cX0_countPairs 74 = .ok (.goto 7, 3) := by decide +kernel
theorem dX0_countPairs_77 : decode cX0_countPairs 77 = .ok (.iconst 2, 1) := by decide +kernel
theorem dX0_countPairs_78 : decode cX0_countPairs 78 = .ok (.iload 7, 2) := by decide +kernel
theorem dX0_countPairs_80 : decode cX0_countPairs 80 = .ok (.imul, 1) := by decide +kernel
theorem dX0_countPairs_81 : decode cX0_countPairs 81 = .ok (.iadd, 1) := by decide +kernel
theorem dX0_countPairs_82 : decode cX0_countPairs 82 = .ok (.istore 4, 2) := by decide +kernel
theorem dX0_countPairs_84 : decode cX0_countPairs 84 = .ok (.iinc 5 1, 3) := by decide +kernel
theorem dX0_countPairs_87 : decode cX0_countPairs 87 = .ok (.goto (-71), 3) := by decide +kernel
theorem dX0_countPairs_90 : decode cX0_countPairs 90 = .ok (.iload 4, 2) := by decide +kernel
theorem dX0_countPairs_92 : decode cX0_countPairs 92 = .ok (.ireturn, 1) := by decide +kernel
set_option maxRecDepth 20000 in
theorem ggX0_leastCoprimeValue_X3_gcd : GoodIn wsX0_leastCoprimeValue wsX3_gcd := goodIn_r _ [4, 5, 6, 7, 8] (by decide +kernel) (by decide +kernel)
set_option maxRecDepth 20000 in
theorem gX0_leastCoprimeValue_X3_gcd_n43 : GoodIn wsX0_leastCoprimeValue (wsX3_gcd) := ggX0_leastCoprimeValue_X3_gcd
set_option maxRecDepth 20000 in
theorem ggX0_leastCoprimeValue_X0_countPairs : GoodIn wsX0_leastCoprimeValue wsX0_countPairs := goodIn_r _ [13, 14, 15, 16, 17, 18, 12, 19, 20, 21, 22, 23, 24, 25, 26, 3, 27, 28, 29, 30, 31, 32, 33, 2, 4, 5, 6, 7, 8, 34, 35, 36, 37, 38, 39] (by decide +kernel) (by decide +kernel)
set_option maxRecDepth 20000 in
theorem gX0_leastCoprimeValue_X0_countPairs : GoodIn wsX0_leastCoprimeValue (wsV RX0 85 RX0 yX0_countPairs wsX0_countPairs) := goodIn_app (goodIn_of _ (by decide +kernel)) ggX0_leastCoprimeValue_X0_countPairs
theorem dX0_leastCoprimeValue_0 : decode cX0_leastCoprimeValue 0 = .ok (.iconst 1, 1) := by decide +kernel
theorem dX0_leastCoprimeValue_1 : decode cX0_leastCoprimeValue 1 = .ok (.istore_n 3, 1) := by decide +kernel
theorem dX0_leastCoprimeValue_2 : decode cX0_leastCoprimeValue 2 = .ok (.iload_n 3, 1) := by decide +kernel
theorem dX0_leastCoprimeValue_3 : decode cX0_leastCoprimeValue 3 = .ok (.ldc 84, 2) := by decide +kernel
theorem dX0_leastCoprimeValue_5 : decode cX0_leastCoprimeValue 5 = .ok (.if_icmp .gt 30, 3) := by decide +kernel
theorem dX0_leastCoprimeValue_8 : decode cX0_leastCoprimeValue 8 = .ok (.iload_n 3, 1) := by decide +kernel
theorem dX0_leastCoprimeValue_9 : decode cX0_leastCoprimeValue 9 = .ok (.iload_n 2, 1) := by decide +kernel
theorem dX0_leastCoprimeValue_10 : decode cX0_leastCoprimeValue 10 = .ok (.invokestatic 43, 3) := by decide +kernel
theorem dX0_leastCoprimeValue_13 : decode cX0_leastCoprimeValue 13 = .ok (.iconst 1, 1) := by decide +kernel
theorem dX0_leastCoprimeValue_14 : decode cX0_leastCoprimeValue 14 = .ok (.if_icmp .ne 15, 3) := by decide +kernel
theorem dX0_leastCoprimeValue_17 : decode cX0_leastCoprimeValue 17 = .ok (.aload_n 0, 1) := by decide +kernel
theorem dX0_leastCoprimeValue_18 : decode cX0_leastCoprimeValue 18 = .ok (.iload_n 1, 1) := by decide +kernel
theorem dX0_leastCoprimeValue_19 : decode cX0_leastCoprimeValue 19 = .ok (.iload_n 3, 1) := by decide +kernel
theorem dX0_leastCoprimeValue_20 : decode cX0_leastCoprimeValue 20 = .ok (.iconst 1, 1) := by decide +kernel
theorem dX0_leastCoprimeValue_21 : decode cX0_leastCoprimeValue 21 = .ok (.invokevirtual 85, 3) := by decide +kernel
theorem dX0_leastCoprimeValue_24 : decode cX0_leastCoprimeValue 24 = .ok (.ifCond .le 5, 3) := by decide +kernel
theorem dX0_leastCoprimeValue_27 : decode cX0_leastCoprimeValue 27 = .ok (.iload_n 3, 1) := by decide +kernel
theorem dX0_leastCoprimeValue_28 : decode cX0_leastCoprimeValue 28 = .ok (.ireturn, 1) := by decide +kernel
theorem dX0_leastCoprimeValue_29 : decode cX0_leastCoprimeValue 29 = .ok (.iinc 3 1, 3) := by decide +kernel
theorem dX0_leastCoprimeValue_32 : decode cX0_leastCoprimeValue 32 = .ok (.goto (-30), 3) := by decide +kernel
theorem dX0_leastCoprimeValue_35 : decode cX0_leastCoprimeValue 35 = .ok (.iconst (-1), 1) := by decide +kernel
theorem dX0_leastCoprimeValue_36 : decode cX0_leastCoprimeValue 36 = .ok (.ireturn, 1) := by decide +kernel
set_option maxRecDepth 20000 in
theorem ggX0_addBoth_X3_divides : GoodIn wsX0_addBoth wsX3_divides := goodIn_r _ [4] (by decide +kernel) (by decide +kernel)
set_option maxRecDepth 20000 in
theorem gX0_addBoth_X3_divides_n51 : GoodIn wsX0_addBoth (wsX3_divides) := ggX0_addBoth_X3_divides
set_option maxRecDepth 20000 in
theorem ggX0_addBoth_X3_isPrimitive : GoodIn wsX0_addBoth wsX3_isPrimitive := goodIn_r _ [6, 7, 8, 3, 9, 10, 11, 12, 13] (by decide +kernel) (by decide +kernel)
set_option maxRecDepth 20000 in
theorem gX0_addBoth_X3_isPrimitive_n89 : GoodIn wsX0_addBoth (wsX3_isPrimitive) := ggX0_addBoth_X3_isPrimitive
set_option maxRecDepth 20000 in
theorem ggX0_addBoth_X0_add : GoodIn wsX0_addBoth wsX0_add := goodIn_r _ [18, 19, 20, 21, 22, 23, 24, 25, 26, 27, 28] (by decide +kernel) (by decide +kernel)
set_option maxRecDepth 20000 in
theorem gX0_addBoth_X0_add : GoodIn wsX0_addBoth (wsV RX0 93 RX0 yX0_add wsX0_add) := goodIn_app (goodIn_of _ (by decide +kernel)) ggX0_addBoth_X0_add
theorem dX0_addBoth_0 : decode cX0_addBoth 0 = .ok (.iload_n 2, 1) := by decide +kernel
theorem dX0_addBoth_1 : decode cX0_addBoth 1 = .ok (.iload_n 2, 1) := by decide +kernel
theorem dX0_addBoth_2 : decode cX0_addBoth 2 = .ok (.imul, 1) := by decide +kernel
theorem dX0_addBoth_3 : decode cX0_addBoth 3 = .ok (.aload_n 0, 1) := by decide +kernel
theorem dX0_addBoth_4 : decode cX0_addBoth 4 = .ok (.getfield 28, 3) := by decide +kernel
theorem dX0_addBoth_7 : decode cX0_addBoth 7 = .ok (.isub, 1) := by decide +kernel
theorem dX0_addBoth_8 : decode cX0_addBoth 8 = .ok (.istore_n 3, 1) := by decide +kernel
theorem dX0_addBoth_9 : decode cX0_addBoth 9 = .ok (.iconst 4, 1) := by decide +kernel
theorem dX0_addBoth_10 : decode cX0_addBoth 10 = .ok (.iload_n 1, 1) := by decide +kernel
theorem dX0_addBoth_11 : decode cX0_addBoth 11 = .ok (.imul, 1) := by decide +kernel
theorem dX0_addBoth_12 : decode cX0_addBoth 12 = .ok (.iload_n 3, 1) := by decide +kernel
theorem dX0_addBoth_13 : decode cX0_addBoth 13 = .ok (.invokestatic 51, 3) := by decide +kernel
theorem dX0_addBoth_16 : decode cX0_addBoth 16 = .ok (.ifCond .ne 5, 3) := by decide +kernel
theorem dX0_addBoth_19 : decode cX0_addBoth 19 = .ok (.iconst 1, 1) := by decide +kernel
theorem dX0_addBoth_20 : decode cX0_addBoth 20 = .ok (.ireturn, 1) := by decide +kernel
theorem dX0_addBoth_21 : decode cX0_addBoth 21 = .ok (.iload_n 3, 1) := by decide +kernel
theorem dX0_addBoth_22 : decode cX0_addBoth 22 = .ok (.iconst 4, 1) := by decide +kernel
theorem dX0_addBoth_23 : decode cX0_addBoth 23 = .ok (.iload_n 1, 1) := by decide +kernel
theorem dX0_addBoth_24 : decode cX0_addBoth 24 = .ok (.imul, 1) := by decide +kernel
theorem dX0_addBoth_25 : decode cX0_addBoth 25 = .ok (.idiv, 1) := by decide +kernel
theorem dX0_addBoth_26 : decode cX0_addBoth 26 = .ok (.istore 4, 2) := by decide +kernel
theorem dX0_addBoth_28 : decode cX0_addBoth 28 = .ok (.iload 4, 2) := by decide +kernel
theorem dX0_addBoth_30 : decode cX0_addBoth 30 = .ok (.iload_n 1, 1) := by decide +kernel
theorem dX0_addBoth_31 : decode cX0_addBoth 31 = .ok (.if_icmp .lt 13, 3) := by decide +kernel
theorem dX0_addBoth_34 : decode cX0_addBoth 34 = .ok (.iload_n 1, 1) := by decide +kernel
theorem dX0_addBoth_35 : decode cX0_addBoth 35 = .ok (.iload_n 2, 1) := by decide +kernel
theorem dX0_addBoth_36 : decode cX0_addBoth 36 = .ok (.iload 4, 2) := by decide +kernel
theorem dX0_addBoth_38 : decode cX0_addBoth 38 = .ok (.invokestatic 89, 3) := by decide +kernel
theorem dX0_addBoth_41 : decode cX0_addBoth 41 = .ok (.ifCond .ne 5, 3) := by decide +kernel
theorem dX0_addBoth_44 : decode cX0_addBoth 44 = .ok (.iconst 1, 1) := by decide +kernel
theorem dX0_addBoth_45 : decode cX0_addBoth 45 = .ok (.ireturn, 1) := by decide +kernel
theorem dX0_addBoth_46 : decode cX0_addBoth 46 = .ok (.aload_n 0, 1) := by decide +kernel
theorem dX0_addBoth_47 : decode cX0_addBoth 47 = .ok (.iload_n 1, 1) := by decide +kernel
theorem dX0_addBoth_48 : decode cX0_addBoth 48 = .ok (.iload_n 2, 1) := by decide +kernel
theorem dX0_addBoth_49 : decode cX0_addBoth 49 = .ok (.iload 4, 2) := by decide +kernel
theorem dX0_addBoth_51 : decode cX0_addBoth 51 = .ok (.invokevirtual 93, 3) := by decide +kernel
theorem dX0_addBoth_54 : decode cX0_addBoth 54 = .ok (.istore 5, 2) := by decide +kernel
theorem dX0_addBoth_56 : decode cX0_addBoth 56 = .ok (.iload_n 2, 1) := by decide +kernel
theorem dX0_addBoth_57 : decode cX0_addBoth 57 = .ok (.ifCond .eq 14, 3) := by decide +kernel
theorem dX0_addBoth_60 : decode cX0_addBoth 60 = .ok (.iload_n 2, 1) := by decide +kernel
theorem dX0_addBoth_61 : decode cX0_addBoth 61 = .ok (.iload_n 1, 1) := by decide +kernel
theorem dX0_addBoth_62 : decode cX0_addBoth 62 = .ok (.if_icmp .eq 9, 3) := by decide +kernel
theorem dX0_addBoth_65 : decode cX0_addBoth 65 = .ok (.iload_n 1, 1) := by decide +kernel
theorem dX0_addBoth_66 : decode cX0_addBoth 66 = .ok (.iload 4, 2) := by decide +kernel
theorem dX0_addBoth_68 : decode cX0_addBoth 68 = .ok (.if_icmp .ne 6, 3) := by decide +kernel
theorem dX0_addBoth_71 : decode cX0_addBoth 71 = .ok (.iload 5, 2) := by decide +kernel
theorem dX0_addBoth_73 : decode cX0_addBoth 73 = .ok (.ireturn, 1) := by decide +kernel
theorem dX0_addBoth_74 : decode cX0_addBoth 74 = .ok (.iload 5, 2) := by decide +kernel
theorem dX0_addBoth_76 : decode cX0_addBoth 76 = .ok (.ifCond .eq 19, 3) := by decide +kernel
theorem dX0_addBoth_79 : decode cX0_addBoth 79 = .ok (.aload_n 0, 1) := by decide +kernel
theorem dX0_addBoth_80 : decode cX0_addBoth 80 = .ok (.iload_n 1, 1) := by decide +kernel
theorem dX0_addBoth_81 : decode cX0_addBoth 81 = .ok (.iload_n 2, 1) := by decide +kernel
theorem dX0_addBoth_82 : decode cX0_addBoth 82 = .ok (.ineg, 1) := by decide +kernel
theorem dX0_addBoth_83 : decode cX0_addBoth 83 = .ok (.iload 4, 2) := by decide +kernel
theorem dX0_addBoth_85 : decode cX0_addBoth 85 = .ok (.invokevirtual 93, 3) := by decide +kernel
theorem dX0_addBoth_88 : decode cX0_addBoth 88 = .ok (.ifCond .eq 7, 3) := by decide +kernel
theorem dX0_addBoth_91 : decode cX0_addBoth 91 = .ok (.iconst 1, 1) := by decide +kernel
theorem dX0_addBoth_92 : decode cX0_addBoth 92 = .ok (.goto 4, 3) := by decide +kernel
theorem dX0_addBoth_95 : decode cX0_addBoth 95 = .ok (.iconst 0, 1) := by decide +kernel
theorem dX0_addBoth_96 : decode cX0_addBoth 96 = .ok (.ireturn, 1) := by decide +kernel
theorem dX0_add_0 : decode cX0_add 0 = .ok (.aload_n 0, 1) := by decide +kernel
theorem dX0_add_1 : decode cX0_add 1 = .ok (.getfield 32, 3) := by decide +kernel
theorem dX0_add_4 : decode cX0_add 4 = .ok (.bipush 40, 2) := by decide +kernel
theorem dX0_add_6 : decode cX0_add 6 = .ok (.if_icmp .lt 5, 3) := by decide +kernel
theorem dX0_add_9 : decode cX0_add 9 = .ok (.iconst 0, 1) := by decide +kernel
theorem dX0_add_10 : decode cX0_add 10 = .ok (.ireturn, 1) := by decide +kernel
theorem dX0_add_11 : decode cX0_add 11 = .ok (.aload_n 0, 1) := by decide +kernel
theorem dX0_add_12 : decode cX0_add 12 = .ok (.getfield 9, 3) := by decide +kernel
theorem dX0_add_15 : decode cX0_add 15 = .ok (.aload_n 0, 1) := by decide +kernel
theorem dX0_add_16 : decode cX0_add 16 = .ok (.getfield 32, 3) := by decide +kernel
theorem dX0_add_19 : decode cX0_add 19 = .ok (.iload_n 1, 1) := by decide +kernel
theorem dX0_add_20 : decode cX0_add 20 = .ok (.iastore, 1) := by decide +kernel
theorem dX0_add_21 : decode cX0_add 21 = .ok (.aload_n 0, 1) := by decide +kernel
theorem dX0_add_22 : decode cX0_add 22 = .ok (.getfield 15, 3) := by decide +kernel
theorem dX0_add_25 : decode cX0_add 25 = .ok (.aload_n 0, 1) := by decide +kernel
theorem dX0_add_26 : decode cX0_add 26 = .ok (.getfield 32, 3) := by decide +kernel
theorem dX0_add_29 : decode cX0_add 29 = .ok (.iload_n 2, 1) := by decide +kernel
theorem dX0_add_30 : decode cX0_add 30 = .ok (.iastore, 1) := by decide +kernel
theorem dX0_add_31 : decode cX0_add 31 = .ok (.aload_n 0, 1) := by decide +kernel
theorem dX0_add_32 : decode cX0_add 32 = .ok (.getfield 18, 3) := by decide +kernel
theorem dX0_add_35 : decode cX0_add 35 = .ok (.aload_n 0, 1) := by decide +kernel
theorem dX0_add_36 : decode cX0_add 36 = .ok (.getfield 32, 3) := by decide +kernel
theorem dX0_add_39 : decode cX0_add 39 = .ok (.iload_n 3, 1) := by decide +kernel
theorem dX0_add_40 : decode cX0_add 40 = .ok (.iastore, 1) := by decide +kernel
theorem dX0_add_41 : decode cX0_add 41 = .ok (.aload_n 0, 1) := by decide +kernel
theorem dX0_add_42 : decode cX0_add 42 = .ok (.dup, 1) := by decide +kernel
theorem dX0_add_43 : decode cX0_add 43 = .ok (.getfield 32, 3) := by decide +kernel
theorem dX0_add_46 : decode cX0_add 46 = .ok (.iconst 1, 1) := by decide +kernel
theorem dX0_add_47 : decode cX0_add 47 = .ok (.iadd, 1) := by decide +kernel
theorem dX0_add_48 : decode cX0_add 48 = .ok (.putfield 32, 3) := by decide +kernel
theorem dX0_add_51 : decode cX0_add 51 = .ok (.iconst 1, 1) := by decide +kernel
theorem dX0_add_52 : decode cX0_add 52 = .ok (.ireturn, 1) := by decide +kernel
set_option maxRecDepth 20000 in
theorem ggX0_middleOfProduct_X3_divides : GoodIn wsX0_middleOfProduct wsX3_divides := goodIn_r _ [4] (by decide +kernel) (by decide +kernel)
set_option maxRecDepth 20000 in
theorem gX0_middleOfProduct_X3_divides_n51 : GoodIn wsX0_middleOfProduct (wsX3_divides) := ggX0_middleOfProduct_X3_divides
theorem dX0_middleOfProduct_0 : decode cX0_middleOfProduct 0 = .ok (.iload_n 2, 1) := by decide +kernel
theorem dX0_middleOfProduct_1 : decode cX0_middleOfProduct 1 = .ok (.iload 4, 2) := by decide +kernel
theorem dX0_middleOfProduct_3 : decode cX0_middleOfProduct 3 = .ok (.iadd, 1) := by decide +kernel
theorem dX0_middleOfProduct_4 : decode cX0_middleOfProduct 4 = .ok (.istore 6, 2) := by decide +kernel
theorem dX0_middleOfProduct_6 : decode cX0_middleOfProduct 6 = .ok (.iload_n 2, 1) := by decide +kernel
theorem dX0_middleOfProduct_7 : decode cX0_middleOfProduct 7 = .ok (.iload 4, 2) := by decide +kernel
theorem dX0_middleOfProduct_9 : decode cX0_middleOfProduct 9 = .ok (.imul, 1) := by decide +kernel
theorem dX0_middleOfProduct_10 : decode cX0_middleOfProduct 10 = .ok (.aload_n 0, 1) := by decide +kernel
