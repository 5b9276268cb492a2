theorem dX0_middleOfProduct_11 : decode cX0_middleOfProduct 11 = .ok (.getfield 28, 3) := by decide +kernel
theorem dX0_middleOfProduct_14 : decode cX0_middleOfProduct 14 = .ok (.iadd, 1) := by decide +kernel
theorem dX0_middleOfProduct_15 : decode cX0_middleOfProduct 15 = .ok (.istore 7, 2) := by decide +kernel
theorem dX0_middleOfProduct_17 : decode cX0_middleOfProduct 17 = .ok (.iconst 4, 1) := by decide +kernel
theorem dX0_middleOfProduct_18 : decode cX0_middleOfProduct 18 = .ok (.iload_n 1, 1) := by decide +kernel
theorem dX0_middleOfProduct_19 : decode cX0_middleOfProduct 19 = .ok (.imul, 1) := by decide +kernel
theorem dX0_middleOfProduct_20 : decode cX0_middleOfProduct 20 = .ok (.iload_n 3, 1) := by decide +kernel
theorem dX0_middleOfProduct_21 : decode cX0_middleOfProduct 21 = .ok (.imul, 1) := by decide +kernel
theorem dX0_middleOfProduct_22 : decode cX0_middleOfProduct 22 = .ok (.iload 5, 2) := by decide +kernel
theorem dX0_middleOfProduct_24 : decode cX0_middleOfProduct 24 = .ok (.imul, 1) := by decide +kernel
theorem dX0_middleOfProduct_25 : decode cX0_middleOfProduct 25 = .ok (.istore 8, 2) := by decide +kernel
theorem dX0_middleOfProduct_27 : decode cX0_middleOfProduct 27 = .ok (.iload_n 2, 1) := by decide +kernel
theorem dX0_middleOfProduct_28 : decode cX0_middleOfProduct 28 = .ok (.istore 9, 2) := by decide +kernel
theorem dX0_middleOfProduct_30 : decode cX0_middleOfProduct 30 = .ok (.iconst 0, 1) := by decide +kernel
theorem dX0_middleOfProduct_31 : decode cX0_middleOfProduct 31 = .ok (.istore 10, 2) := by decide +kernel
theorem dX0_middleOfProduct_33 : decode cX0_middleOfProduct 33 = .ok (.iload 10, 2) := by decide +kernel
theorem dX0_middleOfProduct_35 : decode cX0_middleOfProduct 35 = .ok (.iload_n 3, 1) := by decide +kernel
theorem dX0_middleOfProduct_36 : decode cX0_middleOfProduct 36 = .ok (.if_icmp .ge 50, 3) := by decide +kernel
theorem dX0_middleOfProduct_39 : decode cX0_middleOfProduct 39 = .ok (.iconst 2, 1) := by decide +kernel
theorem dX0_middleOfProduct_40 : decode cX0_middleOfProduct 40 = .ok (.iload_n 3, 1) := by decide +kernel
theorem dX0_middleOfProduct_41 : decode cX0_middleOfProduct 41 = .ok (.imul, 1) := by decide +kernel
theorem dX0_middleOfProduct_42 : decode cX0_middleOfProduct 42 = .ok (.iload 9, 2) := by decide +kernel
theorem dX0_middleOfProduct_44 : decode cX0_middleOfProduct 44 = .ok (.iload 4, 2) := by decide +kernel
theorem dX0_middleOfProduct_46 : decode cX0_middleOfProduct 46 = .ok (.isub, 1) := by decide +kernel
theorem dX0_middleOfProduct_47 : decode cX0_middleOfProduct 47 = .ok (.invokestatic 51, 3) := by decide +kernel
theorem dX0_middleOfProduct_50 : decode cX0_middleOfProduct 50 = .ok (.ifCond .eq 22, 3) := by decide +kernel
theorem dX0_middleOfProduct_53 : decode cX0_middleOfProduct 53 = .ok (.iload 8, 2) := by decide +kernel
theorem dX0_middleOfProduct_55 : decode cX0_middleOfProduct 55 = .ok (.iload 6, 2) := by decide +kernel
theorem dX0_middleOfProduct_57 : decode cX0_middleOfProduct 57 = .ok (.iload 9, 2) := by decide +kernel
theorem dX0_middleOfProduct_59 : decode cX0_middleOfProduct 59 = .ok (.imul, 1) := by decide +kernel
theorem dX0_middleOfProduct_60 : decode cX0_middleOfProduct 60 = .ok (.iload 7, 2) := by decide +kernel
theorem dX0_middleOfProduct_62 : decode cX0_middleOfProduct 62 = .ok (.isub, 1) := by decide +kernel
theorem dX0_middleOfProduct_63 : decode cX0_middleOfProduct 63 = .ok (.invokestatic 51, 3) := by decide +kernel
theorem dX0_middleOfProduct_66 : decode cX0_middleOfProduct 66 = .ok (.ifCond .eq 6, 3) := by decide +kernel
theorem dX0_middleOfProduct_69 : decode cX0_middleOfProduct 69 = .ok (.iload 9, 2) := by decide +kernel
theorem dX0_middleOfProduct_71 : decode cX0_middleOfProduct 71 = .ok (.ireturn, 1) := by decide +kernel
theorem dX0_middleOfProduct_72 : decode cX0_middleOfProduct 72 = .ok (.iload 9, 2) := by decide +kernel
theorem dX0_middleOfProduct_74 : decode cX0_middleOfProduct 74 = .ok (.iconst 2, 1) := by decide +kernel
theorem dX0_middleOfProduct_75 : decode cX0_middleOfProduct 75 = .ok (.iload_n 1, 1) := by decide +kernel
theorem dX0_middleOfProduct_76 : decode cX0_middleOfProduct 76 = .ok (.imul, 1) := by decide +kernel
theorem dX0_middleOfProduct_77 : decode cX0_middleOfProduct 77 = .ok (.iadd, 1) := by decide +kernel
theorem dX0_middleOfProduct_78 : decode cX0_middleOfProduct 78 = .ok (.istore 9, 2) := by decide +kernel
theorem dX0_middleOfProduct_80 : decode cX0_middleOfProduct 80 = .ok (.iinc 10 1, 3) := by decide +kernel
theorem dX0_middleOfProduct_83 : decode cX0_middleOfProduct 83 = .ok (.goto (-50), 3) := by decide +kernel
theorem dX0_middleOfProduct_86 : decode cX0_middleOfProduct 86 = .ok (.iload 9, 2) := by decide +kernel
theorem dX0_middleOfProduct_88 : decode cX0_middleOfProduct 88 = .ok (.ireturn, 1) := by decide +kernel
set_option maxRecDepth 20000 in
theorem ggX0_countInRow_X3_root : GoodIn wsX0_countInRow wsX3_root := goodIn_r _ [4] (by decide +kernel) (by decide +kernel)
set_option maxRecDepth 20000 in
theorem gX0_countInRow_X3_root_n96 : GoodIn wsX0_countInRow (wsX3_root) := ggX0_countInRow_X3_root
set_option maxRecDepth 20000 in
theorem ggX0_countInRow_X0_isPair : GoodIn wsX0_countInRow wsX0_isPair := goodIn_r _ [9, 10, 11, 3, 12, 13, 14, 15, 16, 17, 18, 19, 20, 21, 22, 23, 24] (by decide +kernel) (by decide +kernel)
set_option maxRecDepth 20000 in
theorem gX0_countInRow_X0_isPair : GoodIn wsX0_countInRow (wsV RX0 99 RX0 yX0_isPair wsX0_isPair) := goodIn_app (goodIn_of _ (by decide +kernel)) ggX0_countInRow_X0_isPair
theorem dX0_countInRow_0 : decode cX0_countInRow 0 = .ok (.iload_n 3, 1) := by decide +kernel
theorem dX0_countInRow_1 : decode cX0_countInRow 1 = .ok (.invokestatic 96, 3) := by decide +kernel
theorem dX0_countInRow_4 : decode cX0_countInRow 4 = .ok (.istore 5, 2) := by decide +kernel
theorem dX0_countInRow_6 : decode cX0_countInRow 6 = .ok (.iload 5, 2) := by decide +kernel
theorem dX0_countInRow_8 : decode cX0_countInRow 8 = .ok (.iload 5, 2) := by decide +kernel
theorem dX0_countInRow_10 : decode cX0_countInRow 10 = .ok (.imul, 1) := by decide +kernel
theorem dX0_countInRow_11 : decode cX0_countInRow 11 = .ok (.iload_n 3, 1) := by decide +kernel
theorem dX0_countInRow_12 : decode cX0_countInRow 12 = .ok (.if_icmp .eq 5, 3) := by decide +kernel
theorem dX0_countInRow_15 : decode cX0_countInRow 15 = .ok (.iconst 0, 1) := by decide +kernel
theorem dX0_countInRow_16 : decode cX0_countInRow 16 = .ok (.ireturn, 1) := by decide +kernel
theorem dX0_countInRow_17 : decode cX0_countInRow 17 = .ok (.aload_n 0, 1) := by decide +kernel
theorem dX0_countInRow_18 : decode cX0_countInRow 18 = .ok (.iload_n 1, 1) := by decide +kernel
theorem dX0_countInRow_19 : decode cX0_countInRow 19 = .ok (.iload 5, 2) := by decide +kernel
theorem dX0_countInRow_21 : decode cX0_countInRow 21 = .ok (.aload_n 0, 1) := by decide +kernel
theorem dX0_countInRow_22 : decode cX0_countInRow 22 = .ok (.getfield 15, 3) := by decide +kernel
theorem dX0_countInRow_25 : decode cX0_countInRow 25 = .ok (.iload_n 1, 1) := by decide +kernel
theorem dX0_countInRow_26 : decode cX0_countInRow 26 = .ok (.iaload, 1) := by decide +kernel
theorem dX0_countInRow_27 : decode cX0_countInRow 27 = .ok (.iload_n 2, 1) := by decide +kernel
theorem dX0_countInRow_28 : decode cX0_countInRow 28 = .ok (.imul, 1) := by decide +kernel
theorem dX0_countInRow_29 : decode cX0_countInRow 29 = .ok (.isub, 1) := by decide +kernel
theorem dX0_countInRow_30 : decode cX0_countInRow 30 = .ok (.iload_n 2, 1) := by decide +kernel
theorem dX0_countInRow_31 : decode cX0_countInRow 31 = .ok (.iload 4, 2) := by decide +kernel
theorem dX0_countInRow_33 : decode cX0_countInRow 33 = .ok (.invokevirtual 99, 3) := by decide +kernel
theorem dX0_countInRow_36 : decode cX0_countInRow 36 = .ok (.ifCond .eq 7, 3) := by decide +kernel
theorem dX0_countInRow_39 : decode cX0_countInRow 39 = .ok (.iconst 1, 1) := by decide +kernel
theorem dX0_countInRow_40 : decode cX0_countInRow 40 = .ok (.goto 4, 3) := by decide +kernel
theorem dX0_countInRow_43 : decode cX0_countInRow 43 = .ok (.iconst 0, 1) := by decide +kernel
theorem dX0_countInRow_44 : decode cX0_countInRow 44 = .ok (.istore 6, 2) := by decide +kernel
theorem dX0_countInRow_46 : decode cX0_countInRow 46 = .ok (.iload 5, 2) := by decide +kernel
theorem dX0_countInRow_48 : decode cX0_countInRow 48 = .ok (.ifCond .eq 29, 3) := by decide +kernel
theorem dX0_countInRow_51 : decode cX0_countInRow 51 = .ok (.aload_n 0, 1) := by decide +kernel
theorem dX0_countInRow_52 : decode cX0_countInRow 52 = .ok (.iload_n 1, 1) := by decide +kernel
theorem dX0_countInRow_53 : decode cX0_countInRow 53 = .ok (.iload 5, 2) := by decide +kernel
theorem dX0_countInRow_55 : decode cX0_countInRow 55 = .ok (.ineg, 1) := by decide +kernel
theorem dX0_countInRow_56 : decode cX0_countInRow 56 = .ok (.aload_n 0, 1) := by decide +kernel
theorem dX0_countInRow_57 : decode cX0_countInRow 57 = .ok (.getfield 15, 3) := by decide +kernel
theorem dX0_countInRow_60 : decode cX0_countInRow 60 = .ok (.iload_n 1, 1) := by decide +kernel
theorem dX0_countInRow_61 : decode cX0_countInRow 61 = .ok (.iaload, 1) := by decide +kernel
theorem dX0_countInRow_62 : decode cX0_countInRow 62 = .ok (.iload_n 2, 1) := by decide +kernel
theorem dX0_countInRow_63 : decode cX0_countInRow 63 = .ok (.imul, 1) := by decide +kernel
theorem dX0_countInRow_64 : decode cX0_countInRow 64 = .ok (.isub, 1) := by decide +kernel
theorem dX0_countInRow_65 : decode cX0_countInRow 65 = .ok (.iload_n 2, 1) := by decide +kernel
theorem dX0_countInRow_66 : decode cX0_countInRow 66 = .ok (.iload 4, 2) := by decide +kernel
theorem dX0_countInRow_68 : decode cX0_countInRow 68 = .ok (.invokevirtual 99, 3) := by decide +kernel
theorem dX0_countInRow_71 : decode cX0_countInRow 71 = .ok (.ifCond .eq 6, 3) := by decide +kernel
theorem dX0_countInRow_74 : decode cX0_countInRow 74 = .ok (.iinc 6 1, 3) := by decide +kernel
theorem dX0_countInRow_77 : decode cX0_countInRow 77 = .ok (.iload 6, 2) := by decide +kernel
theorem dX0_countInRow_79 : decode cX0_countInRow 79 = .ok (.ireturn, 1) := by decide +kernel
set_option maxRecDepth 20000 in
theorem ggX0_isPair_X3_divides : GoodIn wsX0_isPair wsX3_divides := goodIn_r _ [4] (by decide +kernel) (by decide +kernel)
set_option maxRecDepth 20000 in
theorem gX0_isPair_X3_divides_n51 : GoodIn wsX0_isPair (wsX3_divides) := ggX0_isPair_X3_divides
set_option maxRecDepth 20000 in
theorem ggX0_isPair_X3_gcd : GoodIn wsX0_isPair wsX3_gcd := goodIn_r _ [6, 7, 8, 9, 10] (by decide +kernel) (by decide +kernel)
set_option maxRecDepth 20000 in
theorem gX0_isPair_X3_gcd_n43 : GoodIn wsX0_isPair (wsX3_gcd) := ggX0_isPair_X3_gcd
theorem dX0_isPair_0 : decode cX0_isPair 0 = .ok (.iconst 2, 1) := by decide +kernel
theorem dX0_isPair_1 : decode cX0_isPair 1 = .ok (.aload_n 0, 1) := by decide +kernel
theorem dX0_isPair_2 : decode cX0_isPair 2 = .ok (.getfield 9, 3) := by decide +kernel
theorem dX0_isPair_5 : decode cX0_isPair 5 = .ok (.iload_n 1, 1) := by decide +kernel
theorem dX0_isPair_6 : decode cX0_isPair 6 = .ok (.iaload, 1) := by decide +kernel
theorem dX0_isPair_7 : decode cX0_isPair 7 = .ok (.imul, 1) := by decide +kernel
theorem dX0_isPair_8 : decode cX0_isPair 8 = .ok (.istore 5, 2) := by decide +kernel
theorem dX0_isPair_10 : decode cX0_isPair 10 = .ok (.iload 5, 2) := by decide +kernel
theorem dX0_isPair_12 : decode cX0_isPair 12 = .ok (.iload_n 2, 1) := by decide +kernel
theorem dX0_isPair_13 : decode cX0_isPair 13 = .ok (.invokestatic 51, 3) := by decide +kernel
theorem dX0_isPair_16 : decode cX0_isPair 16 = .ok (.ifCond .eq 24, 3) := by decide +kernel
theorem dX0_isPair_19 : decode cX0_isPair 19 = .ok (.iload 4, 2) := by decide +kernel
theorem dX0_isPair_21 : decode cX0_isPair 21 = .ok (.ifCond .eq 15, 3) := by decide +kernel
theorem dX0_isPair_24 : decode cX0_isPair 24 = .ok (.iload_n 2, 1) := by decide +kernel
theorem dX0_isPair_25 : decode cX0_isPair 25 = .ok (.iload 5, 2) := by decide +kernel
theorem dX0_isPair_27 : decode cX0_isPair 27 = .ok (.idiv, 1) := by decide +kernel
theorem dX0_isPair_28 : decode cX0_isPair 28 = .ok (.iload_n 3, 1) := by decide +kernel
theorem dX0_isPair_29 : decode cX0_isPair 29 = .ok (.invokestatic 43, 3) := by decide +kernel
theorem dX0_isPair_32 : decode cX0_isPair 32 = .ok (.iconst 1, 1) := by decide +kernel
theorem dX0_isPair_33 : decode cX0_isPair 33 = .ok (.if_icmp .ne 7, 3) := by decide +kernel
theorem dX0_isPair_36 : decode cX0_isPair 36 = .ok (.iconst 1, 1) := by decide +kernel
theorem dX0_isPair_37 : decode cX0_isPair 37 = .ok (.goto 4, 3) := by decide +kernel
theorem dX0_isPair_40 : decode cX0_isPair 40 = .ok (.iconst 0, 1) := by decide +kernel
theorem dX0_isPair_41 : decode cX0_isPair 41 = .ok (.ireturn, 1) := by decide +kernel
theorem dX1_init_0 : decode cX1_init 0 = .ok (.aload_n 0, 1) := by decide +kernel
theorem dX1_init_1 : decode cX1_init 1 = .ok (.invokespecial 3, 3) := by decide +kernel
theorem dX1_init_4 : decode cX1_init 4 = .ok (.return_, 1) := by decide +kernel
set_option maxRecDepth 20000 in
theorem ggX1_run_X1_start : GoodIn wsX1_run wsX1_start := goodIn_r _ [6, 1, 7, 8, 9, 10, 11, 12, 13, 38, 39, 40, 41, 42, 43, 44, 45] (by decide +kernel) (by decide +kernel)
set_option maxRecDepth 20000 in
theorem gX1_run_X1_start : GoodIn wsX1_run (wsV RX1 9 RX1 yX1_start wsX1_start) := goodIn_app (goodIn_of _ (by decide +kernel)) ggX1_run_X1_start
set_option maxRecDepth 20000 in
theorem ggX1_run_X1_isReduced : GoodIn wsX1_run wsX1_isReduced := goodIn_r _ [17, 7, 18, 19, 20, 21, 1, 8, 38, 39, 40, 41, 42, 43, 44, 45] (by decide +kernel) (by decide +kernel)
set_option maxRecDepth 20000 in
theorem gX1_run_X1_isReduced : GoodIn wsX1_run (wsV RX1 19 RX1 yX1_isReduced wsX1_isReduced) := goodIn_app (goodIn_of _ (by decide +kernel)) ggX1_run_X1_isReduced
set_option maxRecDepth 20000 in
theorem ggX1_run_X1_needsShift : GoodIn wsX1_run wsX1_needsShift := goodIn_r _ [25, 7, 18, 19, 20, 21, 1, 38, 39, 40, 41, 42, 43, 44, 45] (by decide +kernel) (by decide +kernel)
set_option maxRecDepth 20000 in
theorem gX1_run_X1_needsShift : GoodIn wsX1_run (wsV RX1 23 RX1 yX1_needsShift wsX1_needsShift) := goodIn_app (goodIn_of _ (by decide +kernel)) ggX1_run_X1_needsShift
set_option maxRecDepth 20000 in
theorem ggX1_run_X1_shift : GoodIn wsX1_run wsX1_shift := goodIn_r _ [29, 1, 7, 8, 9, 10, 11, 12, 30, 31, 32, 33, 38, 39, 40, 41, 42, 43, 44, 45] (by decide +kernel) (by decide +kernel)
set_option maxRecDepth 20000 in
theorem gX1_run_X1_shift : GoodIn wsX1_run (wsV RX1 26 RX1 yX1_shift wsX1_shift) := goodIn_app (goodIn_of _ (by decide +kernel)) ggX1_run_X1_shift
set_option maxRecDepth 20000 in
theorem ggX1_run_X1_turn : GoodIn wsX1_run wsX1_turn := goodIn_r _ [37, 1, 8, 7, 9, 10, 11, 12, 38, 39, 40, 41, 42, 43, 44, 45] (by decide +kernel) (by decide +kernel)
set_option maxRecDepth 20000 in
theorem gX1_run_X1_turn : GoodIn wsX1_run (wsV RX1 29 RX1 yX1_turn wsX1_turn) := goodIn_app (goodIn_of _ (by decide +kernel)) ggX1_run_X1_turn
theorem dX1_run_0 : decode cX1_run 0 = .ok (.aload_n 0, 1) := by decide +kernel
theorem dX1_run_1 : decode cX1_run 1 = .ok (.iload_n 1, 1) := by decide +kernel
theorem dX1_run_2 : decode cX1_run 2 = .ok (.iload_n 2, 1) := by decide +kernel
theorem dX1_run_3 : decode cX1_run 3 = .ok (.iload_n 3, 1) := by decide +kernel
theorem dX1_run_4 : decode cX1_run 4 = .ok (.invokevirtual 9, 3) := by decide +kernel
theorem dX1_run_7 : decode cX1_run 7 = .ok (.iconst 0, 1) := by decide +kernel
theorem dX1_run_8 : decode cX1_run 8 = .ok (.istore 4, 2) := by decide +kernel
theorem dX1_run_10 : decode cX1_run 10 = .ok (.iload 4, 2) := by decide +kernel
theorem dX1_run_12 : decode cX1_run 12 = .ok (.sipush 1000, 3) := by decide +kernel
theorem dX1_run_15 : decode cX1_run 15 = .ok (.if_icmp .ge 41, 3) := by decide +kernel
theorem dX1_run_18 : decode cX1_run 18 = .ok (.aload_n 0, 1) := by decide +kernel
theorem dX1_run_19 : decode cX1_run 19 = .ok (.getfield 15, 3) := by decide +kernel
theorem dX1_run_22 : decode cX1_run 22 = .ok (.ifCond .le 34, 3) := by decide +kernel
theorem dX1_run_25 : decode cX1_run 25 = .ok (.aload_n 0, 1) := by decide +kernel
theorem dX1_run_26 : decode cX1_run 26 = .ok (.invokevirtual 19, 3) := by decide +kernel
theorem dX1_run_29 : decode cX1_run 29 = .ok (.ifCond .ne 27, 3) := by decide +kernel
theorem dX1_run_32 : decode cX1_run 32 = .ok (.aload_n 0, 1) := by decide +kernel
theorem dX1_run_33 : decode cX1_run 33 = .ok (.invokevirtual 23, 3) := by decide +kernel
theorem dX1_run_36 : decode cX1_run 36 = .ok (.ifCond .eq 10, 3) := by decide +kernel
theorem dX1_run_39 : decode cX1_run 39 = .ok (.aload_n 0, 1) := by decide +kernel
theorem dX1_run_40 : decode cX1_run 40 = .ok (.invokevirtual 26, 3) := by decide +kernel
theorem dX1_run_43 : decode cX1_run 43 = .ok (.goto 7, 3) := by decide +kernel
theorem dX1_run_46 : decode cX1_run 46 = .ok (.aload_n 0, 1) := by decide +kernel
theorem dX1_run_47 : decode cX1_run 47 = .ok (.invokevirtual 29, 3) := by decide +kernel
theorem dX1_run_50 : decode cX1_run 50 = .ok (.iinc 4 1, 3) := by decide +kernel
theorem dX1_run_53 : decode cX1_run 53 = .ok (.goto (-43), 3) := by decide +kernel
theorem dX1_run_56 : decode cX1_run 56 = .ok (.iload 4, 2) := by decide +kernel
theorem dX1_run_58 : decode cX1_run 58 = .ok (.ireturn, 1) := by decide +kernel
theorem dX1_part_0 : decode cX1_part 0 = .ok (.iload_n 1, 1) := by decide +kernel
theorem dX1_part_1 : decode cX1_part 1 = .ok (.tableswitch 78 0 6 #[43, 48, 53, 58, 63, 68, 73], 43) := by decide +kernel
theorem dX1_part_44 : decode cX1_part 44 = .ok (.aload_n 0, 1) := by decide +kernel
theorem dX1_part_45 : decode cX1_part 45 = .ok (.getfield 15, 3) := by decide +kernel
theorem dX1_part_48 : decode cX1_part 48 = .ok (.ireturn, 1) := by decide +kernel
theorem dX1_part_49 : decode cX1_part 49 = .ok (.aload_n 0, 1) := by decide +kernel
theorem dX1_part_50 : decode cX1_part 50 = .ok (.getfield 32, 3) := by decide +kernel
theorem dX1_part_53 : decode cX1_part 53 = .ok (.ireturn, 1) := by decide +kernel
theorem dX1_part_54 : decode cX1_part 54 = .ok (.aload_n 0, 1) := by decide +kernel
theorem dX1_part_55 : decode cX1_part 55 = .ok (.getfield 35, 3) := by decide +kernel
theorem dX1_part_58 : decode cX1_part 58 = .ok (.ireturn, 1) := by decide +kernel
theorem dX1_part_59 : decode cX1_part 59 = .ok (.aload_n 0, 1) := by decide +kernel
theorem dX1_part_60 : decode cX1_part 60 = .ok (.getfield 38, 3) := by decide +kernel
theorem dX1_part_63 : decode cX1_part 63 = .ok (.ireturn, 1) := by decide +kernel
theorem dX1_part_64 : decode cX1_part 64 = .ok (.aload_n 0, 1) := by decide +kernel
theorem dX1_part_65 : decode cX1_part 65 = .ok (.getfield 41, 3) := by decide +kernel
theorem dX1_part_68 : decode cX1_part 68 = .ok (.ireturn, 1) := by decide +kernel
theorem dX1_part_69 : decode cX1_part 69 = .ok (.aload_n 0, 1) := by decide +kernel
theorem dX1_part_70 : decode cX1_part 70 = .ok (.getfield 44, 3) := by decide +kernel
theorem dX1_part_73 : decode cX1_part 73 = .ok (.ireturn, 1) := by decide +kernel
theorem dX1_part_74 : decode cX1_part 74 = .ok (.aload_n 0, 1) := by decide +kernel
theorem dX1_part_75 : decode cX1_part 75 = .ok (.getfield 47, 3) := by decide +kernel
theorem dX1_part_78 : decode cX1_part 78 = .ok (.ireturn, 1) := by decide +kernel
theorem dX1_part_79 : decode cX1_part 79 = .ok (.aload_n 0, 1) := by decide +kernel
theorem dX1_part_80 : decode cX1_part 80 = .ok (.getfield 50, 3) := by decide +kernel
theorem dX1_part_83 : decode cX1_part 83 = .ok (.ireturn, 1) := by decide +kernel
theorem dX1_start_0 : decode cX1_start 0 = .ok (.aload_n 0, 1) := by decide +kernel
theorem dX1_start_1 : decode cX1_start 1 = .ok (.iload_n 1, 1) := by decide +kernel
theorem dX1_start_2 : decode cX1_start 2 = .ok (.putfield 15, 3) := by decide +kernel
theorem dX1_start_5 : decode cX1_start 5 = .ok (.aload_n 0, 1) := by decide +kernel
theorem dX1_start_6 : decode cX1_start 6 = .ok (.iload_n 2, 1) := by decide +kernel
theorem dX1_start_7 : decode cX1_start 7 = .ok (.putfield 32, 3) := by decide +kernel
theorem dX1_start_10 : decode cX1_start 10 = .ok (.aload_n 0, 1) := by decide +kernel
theorem dX1_start_11 : decode cX1_start 11 = .ok (.iload_n 3, 1) := by decide +kernel
theorem dX1_start_12 : decode cX1_start 12 = .ok (.putfield 35, 3) := by decide +kernel
theorem dX1_start_15 : decode cX1_start 15 = .ok (.aload_n 0, 1) := by decide +kernel
theorem dX1_start_16 : decode cX1_start 16 = .ok (.iconst 1, 1) := by decide +kernel
theorem dX1_start_17 : decode cX1_start 17 = .ok (.putfield 38, 3) := by decide +kernel
theorem dX1_start_20 : decode cX1_start 20 = .ok (.aload_n 0, 1) := by decide +kernel
theorem dX1_start_21 : decode cX1_start 21 = .ok (.iconst 0, 1) := by decide +kernel
theorem dX1_start_22 : decode cX1_start 22 = .ok (.putfield 41, 3) := by decide +kernel
theorem dX1_start_25 : decode cX1_start 25 = .ok (.aload_n 0, 1) := by decide +kernel
theorem dX1_start_26 : decode cX1_start 26 = .ok (.iconst 0, 1) := by decide +kernel
theorem dX1_start_27 : decode cX1_start 27 = .ok (.putfield 44, 3) := by decide +kernel
theorem dX1_start_30 : decode cX1_start 30 = .ok (.aload_n 0, 1) := by decide +kernel
theorem dX1_start_31 : decode cX1_start 31 = .ok (.iconst 1, 1) := by decide +kernel
theorem dX1_start_32 : decode cX1_start 32 = .ok (.putfield 47, 3) := by decide +kernel
theorem dX1_start_35 : decode cX1_start 35 = .ok (.aload_n 0, 1) := by decide +kernel
theorem dX1_start_36 : decode cX1_start 36 = .ok (.aload_n 0, 1) := by decide +kernel
theorem dX1_start_37 : decode cX1_start 37 = .ok (.getfield 32, 3) := by decide +kernel
theorem dX1_start_40 : decode cX1_start 40 = .ok (.aload_n 0, 1) := by decide +kernel
theorem dX1_start_41 : decode cX1_start 41 = .ok (.getfield 32, 3) := by decide +kernel
theorem dX1_start_44 : decode cX1_start 44 = .ok (.imul, 1) := by decide +kernel
theorem dX1_start_45 : decode cX1_start 45 = .ok (.iconst 4, 1) := by decide +kernel
theorem dX1_start_46 : decode cX1_start 46 = .ok (.aload_n 0, 1) := by decide +kernel
theorem dX1_start_47 : decode cX1_start 47 = .ok (.getfield 15, 3) := by decide +kernel
theorem dX1_start_50 : decode cX1_start 50 = .ok (.imul, 1) := by decide +kernel
theorem dX1_start_51 : decode cX1_start 51 = .ok (.aload_n 0, 1) := by decide +kernel
theorem dX1_start_52 : decode cX1_start 52 = .ok (.getfield 35, 3) := by decide +kernel
theorem dX1_start_55 : decode cX1_start 55 = .ok (.imul, 1) := by decide +kernel
theorem dX1_start_56 : decode cX1_start 56 = .ok (.isub, 1) := by decide +kernel
theorem dX1_start_57 : decode cX1_start 57 = .ok (.putfield 50, 3) := by decide +kernel
theorem dX1_start_60 : decode cX1_start 60 = .ok (.return_, 1) := by decide +kernel
theorem dX1_isReduced_0 : decode cX1_isReduced 0 = .ok (.aload_n 0, 1) := by decide +kernel
theorem dX1_isReduced_1 : decode cX1_isReduced 1 = .ok (.getfield 32, 3) := by decide +kernel
theorem dX1_isReduced_4 : decode cX1_isReduced 4 = .ok (.invokestatic 53, 3) := by decide +kernel
theorem dX1_isReduced_7 : decode cX1_isReduced 7 = .ok (.istore_n 1, 1) := by decide +kernel
theorem dX1_isReduced_8 : decode cX1_isReduced 8 = .ok (.iload_n 1, 1) := by decide +kernel
theorem dX1_isReduced_9 : decode cX1_isReduced 9 = .ok (.aload_n 0, 1) := by decide +kernel
theorem dX1_isReduced_10 : decode cX1_isReduced 10 = .ok (.getfield 15, 3) := by decide +kernel
theorem dX1_isReduced_13 : decode cX1_isReduced 13 = .ok (.if_icmp .gt 44, 3) := by decide +kernel
theorem dX1_isReduced_16 : decode cX1_isReduced 16 = .ok (.aload_n 0, 1) := by decide +kernel
theorem dX1_isReduced_17 : decode cX1_isReduced 17 = .ok (.getfield 15, 3) := by decide +kernel
theorem dX1_isReduced_20 : decode cX1_isReduced 20 = .ok (.aload_n 0, 1) := by decide +kernel
theorem dX1_isReduced_21 : decode cX1_isReduced 21 = .ok (.getfield 35, 3) := by decide +kernel
theorem dX1_isReduced_24 : decode cX1_isReduced 24 = .ok (.if_icmp .gt 33, 3) := by decide +kernel
theorem dX1_isReduced_27 : decode cX1_isReduced 27 = .ok (.aload_n 0, 1) := by decide +kernel
theorem dX1_isReduced_28 : decode cX1_isReduced 28 = .ok (.getfield 32, 3) := by decide +kernel
theorem dX1_isReduced_31 : decode cX1_isReduced 31 = .ok (.ifCond .ge 22, 3) := by decide +kernel
theorem dX1_isReduced_34 : decode cX1_isReduced 34 = .ok (.iload_n 1, 1) := by decide +kernel
theorem dX1_isReduced_35 : decode cX1_isReduced 35 = .ok (.aload_n 0, 1) := by decide +kernel
theorem dX1_isReduced_36 : decode cX1_isReduced 36 = .ok (.getfield 15, 3) := by decide +kernel
theorem dX1_isReduced_39 : decode cX1_isReduced 39 = .ok (.if_icmp .eq 18, 3) := by decide +kernel
theorem dX1_isReduced_42 : decode cX1_isReduced 42 = .ok (.aload_n 0, 1) := by decide +kernel
theorem dX1_isReduced_43 : decode cX1_isReduced 43 = .ok (.getfield 15, 3) := by decide +kernel
theorem dX1_isReduced_46 : decode cX1_isReduced 46 = .ok (.aload_n 0, 1) := by decide +kernel
theorem dX1_isReduced_47 : decode cX1_isReduced 47 = .ok (.getfield 35, 3) := by decide +kernel
theorem dX1_isReduced_50 : decode cX1_isReduced 50 = .ok (.if_icmp .eq 7, 3) := by decide +kernel
theorem dX1_isReduced_53 : decode cX1_isReduced 53 = .ok (.iconst 1, 1) := by decide +kernel
theorem dX1_isReduced_54 : decode cX1_isReduced 54 = .ok (.goto 4, 3) := by decide +kernel
theorem dX1_isReduced_57 : decode cX1_isReduced 57 = .ok (.iconst 0, 1) := by decide +kernel
theorem dX1_isReduced_58 : decode cX1_isReduced 58 = .ok (.ireturn, 1) := by decide +kernel
theorem dX1_needsShift_0 : decode cX1_needsShift 0 = .ok (.aload_n 0, 1) := by decide +kernel
theorem dX1_needsShift_1 : decode cX1_needsShift 1 = .ok (.getfield 32, 3) := by decide +kernel
theorem dX1_needsShift_4 : decode cX1_needsShift 4 = .ok (.invokestatic 53, 3) := by decide +kernel
theorem dX1_needsShift_7 : decode cX1_needsShift 7 = .ok (.aload_n 0, 1) := by decide +kernel
theorem dX1_needsShift_8 : decode cX1_needsShift 8 = .ok (.getfield 15, 3) := by decide +kernel
theorem dX1_needsShift_11 : decode cX1_needsShift 11 = .ok (.if_icmp .gt 15, 3) := by decide +kernel
theorem dX1_needsShift_14 : decode cX1_needsShift 14 = .ok (.aload_n 0, 1) := by decide +kernel
theorem dX1_needsShift_15 : decode cX1_needsShift 15 = .ok (.getfield 32, 3) := by decide +kernel
theorem dX1_needsShift_18 : decode cX1_needsShift 18 = .ok (.aload_n 0, 1) := by decide +kernel
theorem dX1_needsShift_19 : decode cX1_needsShift 19 = .ok (.getfield 15, 3) := by decide +kernel
theorem dX1_needsShift_22 : decode cX1_needsShift 22 = .ok (.ineg, 1) := by decide +kernel
theorem dX1_needsShift_23 : decode cX1_needsShift 23 = .ok (.if_icmp .ne 7, 3) := by decide +kernel
theorem dX1_needsShift_26 : decode cX1_needsShift 26 = .ok (.iconst 1, 1) := by decide +kernel
theorem dX1_needsShift_27 : decode cX1_needsShift 27 = .ok (.goto 4, 3) := by decide +kernel
theorem dX1_needsShift_30 : decode cX1_needsShift 30 = .ok (.iconst 0, 1) := by decide +kernel
theorem dX1_needsShift_31 : decode cX1_needsShift 31 = .ok (.ireturn, 1) := by decide +kernel
set_option maxRecDepth 20000 in
theorem ggX1_shift_J9_floorDiv_7cf53 : GoodIn wsX1_shift wsJ9_floorDiv_7cf53 := goodIn_r _ [11] (by decide +kernel) (by decide +kernel)
set_option maxRecDepth 20000 in
theorem gX1_shift_J9_floorDiv_7cf53 : GoodIn wsX1_shift (va_wsS RX1 59 yJ9_floorDiv_7cf53 wsJ9_floorDiv_7cf53) := goodIn_app (goodIn_of _ (by decide +kernel)) ggX1_shift_J9_floorDiv_7cf53
theorem dX1_shift_0 : decode cX1_shift 0 = .ok (.aload_n 0, 1) := by decide +kernel
theorem dX1_shift_1 : decode cX1_shift 1 = .ok (.getfield 15, 3) := by decide +kernel
theorem dX1_shift_4 : decode cX1_shift 4 = .ok (.aload_n 0, 1) := by decide +kernel
theorem dX1_shift_5 : decode cX1_shift 5 = .ok (.getfield 32, 3) := by decide +kernel
theorem dX1_shift_8 : decode cX1_shift 8 = .ok (.isub, 1) := by decide +kernel
theorem dX1_shift_9 : decode cX1_shift 9 = .ok (.iconst 2, 1) := by decide +kernel
theorem dX1_shift_10 : decode cX1_shift 10 = .ok (.aload_n 0, 1) := by decide +kernel
theorem dX1_shift_11 : decode cX1_shift 11 = .ok (.getfield 15, 3) := by decide +kernel
theorem dX1_shift_14 : decode cX1_shift 14 = .ok (.imul, 1) := by decide +kernel
theorem dX1_shift_15 : decode cX1_shift 15 = .ok (.invokestatic 59, 3) := by decide +kernel
theorem dX1_shift_18 : decode cX1_shift 18 = .ok (.istore_n 1, 1) := by decide +kernel
theorem dX1_shift_19 : decode cX1_shift 19 = .ok (.aload_n 0, 1) := by decide +kernel
theorem dX1_shift_20 : decode cX1_shift 20 = .ok (.aload_n 0, 1) := by decide +kernel
theorem dX1_shift_21 : decode cX1_shift 21 = .ok (.getfield 15, 3) := by decide +kernel
theorem dX1_shift_24 : decode cX1_shift 24 = .ok (.iload_n 1, 1) := by decide +kernel
theorem dX1_shift_25 : decode cX1_shift 25 = .ok (.imul, 1) := by decide +kernel
theorem dX1_shift_26 : decode cX1_shift 26 = .ok (.aload_n 0, 1) := by decide +kernel
theorem dX1_shift_27 : decode cX1_shift 27 = .ok (.getfield 32, 3) := by decide +kernel
theorem dX1_shift_30 : decode cX1_shift 30 = .ok (.iadd, 1) := by decide +kernel
theorem dX1_shift_31 : decode cX1_shift 31 = .ok (.iload_n 1, 1) := by decide +kernel
theorem dX1_shift_32 : decode cX1_shift 32 = .ok (.imul, 1) := by decide +kernel
theorem dX1_shift_33 : decode cX1_shift 33 = .ok (.aload_n 0, 1) := by decide +kernel
theorem dX1_shift_34 : decode cX1_shift 34 = .ok (.getfield 35, 3) := by decide +kernel
theorem dX1_shift_37 : decode cX1_shift 37 = .ok (.iadd, 1) := by decide +kernel
theorem dX1_shift_38 : decode cX1_shift 38 = .ok (.putfield 35, 3) := by decide +kernel
theorem dX1_shift_41 : decode cX1_shift 41 = .ok (.aload_n 0, 1) := by decide +kernel
theorem dX1_shift_42 : decode cX1_shift 42 = .ok (.aload_n 0, 1) := by decide +kernel
theorem dX1_shift_43 : decode cX1_shift 43 = .ok (.getfield 32, 3) := by decide +kernel
theorem dX1_shift_46 : decode cX1_shift 46 = .ok (.iconst 2, 1) := by decide +kernel
theorem dX1_shift_47 : decode cX1_shift 47 = .ok (.aload_n 0, 1) := by decide +kernel
theorem dX1_shift_48 : decode cX1_shift 48 = .ok (.getfield 15, 3) := by decide +kernel
theorem dX1_shift_51 : decode cX1_shift 51 = .ok (.imul, 1) := by decide +kernel
theorem dX1_shift_52 : decode cX1_shift 52 = .ok (.iload_n 1, 1) := by decide +kernel
theorem dX1_shift_53 : decode cX1_shift 53 = .ok (.imul, 1) := by decide +kernel
theorem dX1_shift_54 : decode cX1_shift 54 = .ok (.iadd, 1) := by decide +kernel
theorem dX1_shift_55 : decode cX1_shift 55 = .ok (.putfield 32, 3) := by decide +kernel
theorem dX1_shift_58 : decode cX1_shift 58 = .ok (.aload_n 0, 1) := by decide +kernel
theorem dX1_shift_59 : decode cX1_shift 59 = .ok (.aload_n 0, 1) := by decide +kernel
theorem dX1_shift_60 : decode cX1_shift 60 = .ok (.getfield 38, 3) := by decide +kernel
theorem dX1_shift_63 : decode cX1_shift 63 = .ok (.iload_n 1, 1) := by decide +kernel
theorem dX1_shift_64 : decode cX1_shift 64 = .ok (.imul, 1) := by decide +kernel
theorem dX1_shift_65 : decode cX1_shift 65 = .ok (.aload_n 0, 1) := by decide +kernel
theorem dX1_shift_66 : decode cX1_shift 66 = .ok (.getfield 41, 3) := by decide +kernel
theorem dX1_shift_69 : decode cX1_shift 69 = .ok (.iadd, 1) := by decide +kernel
theorem dX1_shift_70 : decode cX1_shift 70 = .ok (.putfield 41, 3) := by decide +kernel
theorem dX1_shift_73 : decode cX1_shift 73 = .ok (.aload_n 0, 1) := by decide +kernel
theorem dX1_shift_74 : decode cX1_shift 74 = .ok (.aload_n 0, 1) := by decide +kernel
theorem dX1_shift_75 : decode cX1_shift 75 = .ok (.getfield 44, 3) := by decide +kernel
theorem dX1_shift_78 : decode cX1_shift 78 = .ok (.iload_n 1, 1) := by decide +kernel
theorem dX1_shift_79 : decode cX1_shift 79 = .ok (.imul, 1) := by decide +kernel
theorem dX1_shift_80 : decode cX1_shift 80 = .ok (.aload_n 0, 1) := by decide +kernel
theorem dX1_shift_81 : decode cX1_shift 81 = .ok (.getfield 47, 3) := by decide +kernel
theorem dX1_shift_84 : decode cX1_shift 84 = .ok (.iadd, 1) := by decide +kernel
theorem dX1_shift_85 : decode cX1_shift 85 = .ok (.putfield 47, 3) := by decide +kernel
theorem dX1_shift_88 : decode cX1_shift 88 = .ok (.return_, 1) := by decide +kernel
theorem dX1_turn_0 : decode cX1_turn 0 = .ok (.aload_n 0, 1) := by decide +kernel
theorem dX1_turn_1 : decode cX1_turn 1 = .ok (.getfield 15, 3) := by decide +kernel
theorem dX1_turn_4 : decode cX1_turn 4 = .ok (.istore_n 1, 1) := by decide +kernel
theorem dX1_turn_5 : decode cX1_turn 5 = .ok (.aload_n 0, 1) := by decide +kernel
theorem dX1_turn_6 : decode cX1_turn 6 = .ok (.aload_n 0, 1) := by decide +kernel
theorem dX1_turn_7 : decode cX1_turn 7 = .ok (.getfield 35, 3) := by decide +kernel
theorem dX1_turn_10 : decode cX1_turn 10 = .ok (.putfield 15, 3) := by decide +kernel
theorem dX1_turn_13 : decode cX1_turn 13 = .ok (.aload_n 0, 1) := by decide +kernel
theorem dX1_turn_14 : decode cX1_turn 14 = .ok (.aload_n 0, 1) := by decide +kernel
theorem dX1_turn_15 : decode cX1_turn 15 = .ok (.getfield 32, 3) := by decide +kernel
theorem dX1_turn_18 : decode cX1_turn 18 = .ok (.ineg, 1) := by decide +kernel
theorem dX1_turn_19 : decode cX1_turn 19 = .ok (.putfield 32, 3) := by decide +kernel
theorem dX1_turn_22 : decode cX1_turn 22 = .ok (.aload_n 0, 1) := by decide +kernel
theorem dX1_turn_23 : decode cX1_turn 23 = .ok (.iload_n 1, 1) := by decide +kernel
theorem dX1_turn_24 : decode cX1_turn 24 = .ok (.putfield 35, 3) := by decide +kernel
theorem dX1_turn_27 : decode cX1_turn 27 = .ok (.aload_n 0, 1) := by decide +kernel
theorem dX1_turn_28 : decode cX1_turn 28 = .ok (.getfield 38, 3) := by decide +kernel
theorem dX1_turn_31 : decode cX1_turn 31 = .ok (.istore_n 2, 1) := by decide +kernel
theorem dX1_turn_32 : decode cX1_turn 32 = .ok (.aload_n 0, 1) := by decide +kernel
theorem dX1_turn_33 : decode cX1_turn 33 = .ok (.aload_n 0, 1) := by decide +kernel
theorem dX1_turn_34 : decode cX1_turn 34 = .ok (.getfield 41, 3) := by decide +kernel
theorem dX1_turn_37 : decode cX1_turn 37 = .ok (.putfield 38, 3) := by decide +kernel
theorem dX1_turn_40 : decode cX1_turn 40 = .ok (.aload_n 0, 1) := by decide +kernel
theorem dX1_turn_41 : decode cX1_turn 41 = .ok (.iload_n 2, 1) := by decide +kernel
theorem dX1_turn_42 : decode cX1_turn 42 = .ok (.ineg, 1) := by decide +kernel
theorem dX1_turn_43 : decode cX1_turn 43 = .ok (.putfield 41, 3) := by decide +kernel
theorem dX1_turn_46 : decode cX1_turn 46 = .ok (.aload_n 0, 1) := by decide +kernel
theorem dX1_turn_47 : decode cX1_turn 47 = .ok (.getfield 44, 3) := by decide +kernel
theorem dX1_turn_50 : decode cX1_turn 50 = .ok (.istore_n 3, 1) := by decide +kernel
theorem dX1_turn_51 : decode cX1_turn 51 = .ok (.aload_n 0, 1) := by decide +kernel
theorem dX1_turn_52 : decode cX1_turn 52 = .ok (.aload_n 0, 1) := by decide +kernel
theorem dX1_turn_53 : decode cX1_turn 53 = .ok (.getfield 47, 3) := by decide +kernel
theorem dX1_turn_56 : decode cX1_turn 56 = .ok (.putfield 44, 3) := by decide +kernel
theorem dX1_turn_59 : decode cX1_turn 59 = .ok (.aload_n 0, 1) := by decide +kernel
theorem dX1_turn_60 : decode cX1_turn 60 = .ok (.iload_n 3, 1) := by decide +kernel
theorem dX1_turn_61 : decode cX1_turn 61 = .ok (.ineg, 1) := by decide +kernel
theorem dX1_turn_62 : decode cX1_turn 62 = .ok (.putfield 47, 3) := by decide +kernel
theorem dX1_turn_65 : decode cX1_turn 65 = .ok (.return_, 1) := by decide +kernel
theorem dX2_init_0 : decode cX2_init 0 = .ok (.aload_n 0, 1) := by decide +kernel
theorem dX2_init_1 : decode cX2_init 1 = .ok (.invokespecial 3, 3) := by decide +kernel
theorem dX2_init_4 : decode cX2_init 4 = .ok (.aload_n 0, 1) := by decide +kernel
theorem dX2_init_5 : decode cX2_init 5 = .ok (.bipush 40, 2) := by decide +kernel
theorem dX2_init_7 : decode cX2_init 7 = .ok (.newarray .int, 2) := by decide +kernel
theorem dX2_init_9 : decode cX2_init 9 = .ok (.putfield 9, 3) := by decide +kernel
theorem dX2_init_12 : decode cX2_init 12 = .ok (.aload_n 0, 1) := by decide +kernel
theorem dX2_init_13 : decode cX2_init 13 = .ok (.iconst 5, 1) := by decide +kernel
theorem dX2_init_14 : decode cX2_init 14 = .ok (.newarray .int, 2) := by decide +kernel
theorem dX2_init_16 : decode cX2_init 16 = .ok (.putfield 15, 3) := by decide +kernel
theorem dX2_init_19 : decode cX2_init 19 = .ok (.return_, 1) := by decide +kernel
set_option maxRecDepth 20000 in
theorem ggX2_append_X2_byteOf : GoodIn wsX2_append wsX2_byteOf := goodIn_r _ [6] (by decide +kernel) (by decide +kernel)
set_option maxRecDepth 20000 in
theorem gX2_append_X2_byteOf : GoodIn wsX2_append (va_wsS RX2 22 yX2_byteOf wsX2_byteOf) := goodIn_app (goodIn_of _ (by decide +kernel)) ggX2_append_X2_byteOf
set_option maxRecDepth 20000 in
theorem ggX2_append_X2_isAllowed : GoodIn wsX2_append wsX2_isAllowed := goodIn_r _ [9, 10, 11, 5, 12, 13, 14, 15, 16, 17, 18] (by decide +kernel) (by decide +kernel)
set_option maxRecDepth 20000 in
theorem gX2_append_X2_isAllowed : GoodIn wsX2_append (va_wsS RX2 26 yX2_isAllowed wsX2_isAllowed) := goodIn_app (goodIn_of _ (by decide +kernel)) ggX2_append_X2_isAllowed
theorem dX2_append_0 : decode cX2_append 0 = .ok (.iload_n 2, 1) := by decide +kernel
theorem dX2_append_1 : decode cX2_append 1 = .ok (.iconst 1, 1) := by decide +kernel
theorem dX2_append_2 : decode cX2_append 2 = .ok (.if_icmp .lt 19, 3) := by decide +kernel
theorem dX2_append_5 : decode cX2_append 5 = .ok (.iload_n 2, 1) := by decide +kernel
theorem dX2_append_6 : decode cX2_append 6 = .ok (.iconst 4, 1) := by decide +kernel
theorem dX2_append_7 : decode cX2_append 7 = .ok (.if_icmp .gt 14, 3) := by decide +kernel
theorem dX2_append_10 : decode cX2_append 10 = .ok (.aload_n 0, 1) := by decide +kernel
theorem dX2_append_11 : decode cX2_append 11 = .ok (.getfield 18, 3) := by decide +kernel
theorem dX2_append_14 : decode cX2_append 14 = .ok (.iload_n 2, 1) := by decide +kernel
theorem dX2_append_15 : decode cX2_append 15 = .ok (.iadd, 1) := by decide +kernel
theorem dX2_append_16 : decode cX2_append 16 = .ok (.bipush 40, 2) := by decide +kernel
theorem dX2_append_18 : decode cX2_append 18 = .ok (.if_icmp .le 5, 3) := by decide +kernel
theorem dX2_append_21 : decode cX2_append 21 = .ok (.iconst 0, 1) := by decide +kernel
theorem dX2_append_22 : decode cX2_append 22 = .ok (.ireturn, 1) := by decide +kernel
theorem dX2_append_23 : decode cX2_append 23 = .ok (.iconst 0, 1) := by decide +kernel
theorem dX2_append_24 : decode cX2_append 24 = .ok (.istore_n 3, 1) := by decide +kernel
theorem dX2_append_25 : decode cX2_append 25 = .ok (.iload_n 3, 1) := by decide +kernel
theorem dX2_append_26 : decode cX2_append 26 = .ok (.iload_n 2, 1) := by decide +kernel
theorem dX2_append_27 : decode cX2_append 27 = .ok (.if_icmp .ge 22, 3) := by decide +kernel
theorem dX2_append_30 : decode cX2_append 30 = .ok (.iload_n 1, 1) := by decide +kernel
theorem dX2_append_31 : decode cX2_append 31 = .ok (.iload_n 3, 1) := by decide +kernel
theorem dX2_append_32 : decode cX2_append 32 = .ok (.invokestatic 22, 3) := by decide +kernel
theorem dX2_append_35 : decode cX2_append 35 = .ok (.invokestatic 26, 3) := by decide +kernel
theorem dX2_append_38 : decode cX2_append 38 = .ok (.ifCond .ne 5, 3) := by decide +kernel
theorem dX2_append_41 : decode cX2_append 41 = .ok (.iconst 0, 1) := by decide +kernel
theorem dX2_append_42 : decode cX2_append 42 = .ok (.ireturn, 1) := by decide +kernel
theorem dX2_append_43 : decode cX2_append 43 = .ok (.iinc 3 1, 3) := by decide +kernel
theorem dX2_append_46 : decode cX2_append 46 = .ok (.goto (-21), 3) := by decide +kernel
theorem dX2_append_49 : decode cX2_append 49 = .ok (.iload_n 2, 1) := by decide +kernel
theorem dX2_append_50 : decode cX2_append 50 = .ok (.iconst 1, 1) := by decide +kernel
theorem dX2_append_51 : decode cX2_append 51 = .ok (.isub, 1) := by decide +kernel
theorem dX2_append_52 : decode cX2_append 52 = .ok (.istore_n 3, 1) := by decide +kernel
theorem dX2_append_53 : decode cX2_append 53 = .ok (.iload_n 3, 1) := by decide +kernel
theorem dX2_append_54 : decode cX2_append 54 = .ok (.ifCond .lt 33, 3) := by decide +kernel
theorem dX2_append_57 : decode cX2_append 57 = .ok (.aload_n 0, 1) := by decide +kernel
theorem dX2_append_58 : decode cX2_append 58 = .ok (.getfield 9, 3) := by decide +kernel
theorem dX2_append_61 : decode cX2_append 61 = .ok (.aload_n 0, 1) := by decide +kernel
theorem dX2_append_62 : decode cX2_append 62 = .ok (.getfield 18, 3) := by decide +kernel
theorem dX2_append_65 : decode cX2_append 65 = .ok (.iload_n 1, 1) := by decide +kernel
theorem dX2_append_66 : decode cX2_append 66 = .ok (.iload_n 3, 1) := by decide +kernel
theorem dX2_append_67 : decode cX2_append 67 = .ok (.invokestatic 22, 3) := by decide +kernel
theorem dX2_append_70 : decode cX2_append 70 = .ok (.iastore, 1) := by decide +kernel
theorem dX2_append_71 : decode cX2_append 71 = .ok (.aload_n 0, 1) := by decide +kernel
theorem dX2_append_72 : decode cX2_append 72 = .ok (.dup, 1) := by decide +kernel
theorem dX2_append_73 : decode cX2_append 73 = .ok (.getfield 18, 3) := by decide +kernel
theorem dX2_append_76 : decode cX2_append 76 = .ok (.iconst 1, 1) := by decide +kernel
theorem dX2_append_77 : decode cX2_append 77 = .ok (.iadd, 1) := by decide +kernel
theorem dX2_append_78 : decode cX2_append 78 = .ok (.putfield 18, 3) := by decide +kernel
theorem dX2_append_81 : decode cX2_append 81 = .ok (.iinc 3 (-1), 3) := by decide +kernel
theorem dX2_append_84 : decode cX2_append 84 = .ok (.goto (-31), 3) := by decide +kernel
theorem dX2_append_87 : decode cX2_append 87 = .ok (.iconst 1, 1) := by decide +kernel
theorem dX2_append_88 : decode cX2_append 88 = .ok (.ireturn, 1) := by decide +kernel
set_option maxRecDepth 20000 in
theorem ggX2_isWellFormed_X2_isPower : GoodIn wsX2_isWellFormed wsX2_isPower := goodIn_r _ [6] (by decide +kernel) (by decide +kernel)
set_option maxRecDepth 20000 in
theorem gX2_isWellFormed_X2_isPower : GoodIn wsX2_isWellFormed (va_wsS RX2 30 yX2_isPower wsX2_isPower) := goodIn_app (goodIn_of _ (by decide +kernel)) ggX2_isWellFormed_X2_isPower
theorem dX2_isWellFormed_0 : decode cX2_isWellFormed 0 = .ok (.iconst 0, 1) := by decide +kernel
theorem dX2_isWellFormed_1 : decode cX2_isWellFormed 1 = .ok (.istore_n 1, 1) := by decide +kernel
theorem dX2_isWellFormed_2 : decode cX2_isWellFormed 2 = .ok (.iconst 0, 1) := by decide +kernel
theorem dX2_isWellFormed_3 : decode cX2_isWellFormed 3 = .ok (.istore_n 2, 1) := by decide +kernel
theorem dX2_isWellFormed_4 : decode cX2_isWellFormed 4 = .ok (.iconst 0, 1) := by decide +kernel
theorem dX2_isWellFormed_5 : decode cX2_isWellFormed 5 = .ok (.istore_n 3, 1) := by decide +kernel
theorem dX2_isWellFormed_6 : decode cX2_isWellFormed 6 = .ok (.iload_n 3, 1) := by decide +kernel
theorem dX2_isWellFormed_7 : decode cX2_isWellFormed 7 = .ok (.aload_n 0, 1) := by decide +kernel
theorem dX2_isWellFormed_8 : decode cX2_isWellFormed 8 = .ok (.getfield 18, 3) := by decide +kernel
theorem dX2_isWellFormed_11 : decode cX2_isWellFormed 11 = .ok (.if_icmp .ge 84, 3) := by decide +kernel
theorem dX2_isWellFormed_14 : decode cX2_isWellFormed 14 = .ok (.aload_n 0, 1) := by decide +kernel
theorem dX2_isWellFormed_15 : decode cX2_isWellFormed 15 = .ok (.getfield 9, 3) := by decide +kernel
theorem dX2_isWellFormed_18 : decode cX2_isWellFormed 18 = .ok (.iload_n 3, 1) := by decide +kernel
theorem dX2_isWellFormed_19 : decode cX2_isWellFormed 19 = .ok (.iaload, 1) := by decide +kernel
theorem dX2_isWellFormed_20 : decode cX2_isWellFormed 20 = .ok (.istore 4, 2) := by decide +kernel
theorem dX2_isWellFormed_22 : decode cX2_isWellFormed 22 = .ok (.iload 4, 2) := by decide +kernel
theorem dX2_isWellFormed_24 : decode cX2_isWellFormed 24 = .ok (.bipush 40, 2) := by decide +kernel
theorem dX2_isWellFormed_26 : decode cX2_isWellFormed 26 = .ok (.if_icmp .ne 9, 3) := by decide +kernel
theorem dX2_isWellFormed_29 : decode cX2_isWellFormed 29 = .ok (.iinc 1 1, 3) := by decide +kernel
theorem dX2_isWellFormed_32 : decode cX2_isWellFormed 32 = .ok (.goto 13, 3) := by decide +kernel
theorem dX2_isWellFormed_35 : decode cX2_isWellFormed 35 = .ok (.iload 4, 2) := by decide +kernel
theorem dX2_isWellFormed_37 : decode cX2_isWellFormed 37 = .ok (.bipush 41, 2) := by decide +kernel
theorem dX2_isWellFormed_39 : decode cX2_isWellFormed 39 = .ok (.if_icmp .ne 6, 3) := by decide +kernel
theorem dX2_isWellFormed_42 : decode cX2_isWellFormed 42 = .ok (.iinc 1 (-1), 3) := by decide +kernel
theorem dX2_isWellFormed_45 : decode cX2_isWellFormed 45 = .ok (.iload_n 1, 1) := by decide +kernel
theorem dX2_isWellFormed_46 : decode cX2_isWellFormed 46 = .ok (.ifCond .lt 20, 3) := by decide +kernel
theorem dX2_isWellFormed_49 : decode cX2_isWellFormed 49 = .ok (.iload_n 1, 1) := by decide +kernel
theorem dX2_isWellFormed_50 : decode cX2_isWellFormed 50 = .ok (.iconst 4, 1) := by decide +kernel
theorem dX2_isWellFormed_51 : decode cX2_isWellFormed 51 = .ok (.if_icmp .gt 15, 3) := by decide +kernel
theorem dX2_isWellFormed_54 : decode cX2_isWellFormed 54 = .ok (.iload 4, 2) := by decide +kernel
theorem dX2_isWellFormed_56 : decode cX2_isWellFormed 56 = .ok (.invokestatic 30, 3) := by decide +kernel
theorem dX2_isWellFormed_59 : decode cX2_isWellFormed 59 = .ok (.ifCond .eq 9, 3) := by decide +kernel
theorem dX2_isWellFormed_62 : decode cX2_isWellFormed 62 = .ok (.iload_n 2, 1) := by decide +kernel
theorem dX2_isWellFormed_63 : decode cX2_isWellFormed 63 = .ok (.ifCond .ne 5, 3) := by decide +kernel
theorem dX2_isWellFormed_66 : decode cX2_isWellFormed 66 = .ok (.iconst 0, 1) := by decide +kernel
theorem dX2_isWellFormed_67 : decode cX2_isWellFormed 67 = .ok (.ireturn, 1) := by decide +kernel
theorem dX2_isWellFormed_68 : decode cX2_isWellFormed 68 = .ok (.iload 4, 2) := by decide +kernel
theorem dX2_isWellFormed_70 : decode cX2_isWellFormed 70 = .ok (.bipush 40, 2) := by decide +kernel
theorem dX2_isWellFormed_72 : decode cX2_isWellFormed 72 = .ok (.if_icmp .eq 15, 3) := by decide +kernel
theorem dX2_isWellFormed_75 : decode cX2_isWellFormed 75 = .ok (.iload 4, 2) := by decide +kernel
theorem dX2_isWellFormed_77 : decode cX2_isWellFormed 77 = .ok (.invokestatic 30, 3) := by decide +kernel
theorem dX2_isWellFormed_80 : decode cX2_isWellFormed 80 = .ok (.ifCond .ne 7, 3) := by decide +kernel
theorem dX2_isWellFormed_83 : decode cX2_isWellFormed 83 = .ok (.iconst 1, 1) := by decide +kernel
theorem dX2_isWellFormed_84 : decode cX2_isWellFormed 84 = .ok (.goto 4, 3) := by decide +kernel
theorem dX2_isWellFormed_87 : decode cX2_isWellFormed 87 = .ok (.iconst 0, 1) := by decide +kernel
theorem dX2_isWellFormed_88 : decode cX2_isWellFormed 88 = .ok (.istore_n 2, 1) := by decide +kernel
theorem dX2_isWellFormed_89 : decode cX2_isWellFormed 89 = .ok (.iinc 3 1, 3) := by decide +kernel
theorem dX2_isWellFormed_92 : decode cX2_isWellFormed 92 = .ok (.goto (-86), 3) := by decide +kernel
theorem dX2_isWellFormed_95 : decode cX2_isWellFormed 95 = .ok (.iload_n 1, 1) := by decide +kernel
theorem dX2_isWellFormed_96 : decode cX2_isWellFormed 96 = .ok (.ifCond .ne 7, 3) := by decide +kernel
theorem dX2_isWellFormed_99 : decode cX2_isWellFormed 99 = .ok (.iconst 1, 1) := by decide +kernel
theorem dX2_isWellFormed_100 : decode cX2_isWellFormed 100 = .ok (.goto 4, 3) := by decide +kernel
theorem dX2_isWellFormed_103 : decode cX2_isWellFormed 103 = .ok (.iconst 0, 1) := by decide +kernel
theorem dX2_isWellFormed_104 : decode cX2_isWellFormed 104 = .ok (.ireturn, 1) := by decide +kernel
set_option maxRecDepth 20000 in
theorem ggX2_isWithin_X2_isLetter : GoodIn wsX2_isWithin wsX2_isLetter := goodIn_r _ [6, 7, 8, 5, 9] (by decide +kernel) (by decide +kernel)
set_option maxRecDepth 20000 in
theorem gX2_isWithin_X2_isLetter : GoodIn wsX2_isWithin (va_wsS RX2 33 yX2_isLetter wsX2_isLetter) := goodIn_app (goodIn_of _ (by decide +kernel)) ggX2_isWithin_X2_isLetter
set_option maxRecDepth 20000 in
theorem ggX2_isWithin_X2_numberOf : GoodIn wsX2_isWithin wsX2_numberOf := goodIn_r _ [12, 7, 8, 5, 9] (by decide +kernel) (by decide +kernel)
set_option maxRecDepth 20000 in
theorem gX2_isWithin_X2_numberOf : GoodIn wsX2_isWithin (va_wsS RX2 36 yX2_numberOf wsX2_numberOf) := goodIn_app (goodIn_of _ (by decide +kernel)) ggX2_isWithin_X2_numberOf
set_option maxRecDepth 20000 in
theorem ggX2_isWithin_X0_has : GoodIn wsX2_isWithin wsX0_has := goodIn_r _ [17, 18, 22, 23, 24, 25, 26, 27] (by decide +kernel) (by decide +kernel)
set_option maxRecDepth 20000 in
theorem gX2_isWithin_X0_has : GoodIn wsX2_isWithin (wsV RX2 40 RX0 yX0_has wsX0_has) := goodIn_app (goodIn_of _ (by decide +kernel)) ggX2_isWithin_X0_has
theorem dX2_isWithin_0 : decode cX2_isWithin 0 = .ok (.iconst 0, 1) := by decide +kernel
theorem dX2_isWithin_1 : decode cX2_isWithin 1 = .ok (.istore_n 2, 1) := by decide +kernel
theorem dX2_isWithin_2 : decode cX2_isWithin 2 = .ok (.iload_n 2, 1) := by decide +kernel
theorem dX2_isWithin_3 : decode cX2_isWithin 3 = .ok (.aload_n 0, 1) := by decide +kernel
theorem dX2_isWithin_4 : decode cX2_isWithin 4 = .ok (.getfield 18, 3) := by decide +kernel
theorem dX2_isWithin_7 : decode cX2_isWithin 7 = .ok (.if_icmp .ge 39, 3) := by decide +kernel
theorem dX2_isWithin_10 : decode cX2_isWithin 10 = .ok (.aload_n 0, 1) := by decide +kernel
theorem dX2_isWithin_11 : decode cX2_isWithin 11 = .ok (.getfield 9, 3) := by decide +kernel
theorem dX2_isWithin_14 : decode cX2_isWithin 14 = .ok (.iload_n 2, 1) := by decide +kernel
theorem dX2_isWithin_15 : decode cX2_isWithin 15 = .ok (.iaload, 1) := by decide +kernel
theorem dX2_isWithin_16 : decode cX2_isWithin 16 = .ok (.invokestatic 33, 3) := by decide +kernel
theorem dX2_isWithin_19 : decode cX2_isWithin 19 = .ok (.ifCond .eq 21, 3) := by decide +kernel
theorem dX2_isWithin_22 : decode cX2_isWithin 22 = .ok (.aload_n 1, 1) := by decide +kernel
theorem dX2_isWithin_23 : decode cX2_isWithin 23 = .ok (.aload_n 0, 1) := by decide +kernel
theorem dX2_isWithin_24 : decode cX2_isWithin 24 = .ok (.getfield 9, 3) := by decide +kernel
theorem dX2_isWithin_27 : decode cX2_isWithin 27 = .ok (.iload_n 2, 1) := by decide +kernel
theorem dX2_isWithin_28 : decode cX2_isWithin 28 = .ok (.iaload, 1) := by decide +kernel
theorem dX2_isWithin_29 : decode cX2_isWithin 29 = .ok (.invokestatic 36, 3) := by decide +kernel
theorem dX2_isWithin_32 : decode cX2_isWithin 32 = .ok (.invokevirtual 40, 3) := by decide +kernel
theorem dX2_isWithin_35 : decode cX2_isWithin 35 = .ok (.ifCond .ne 5, 3) := by decide +kernel
theorem dX2_isWithin_38 : decode cX2_isWithin 38 = .ok (.iconst 0, 1) := by decide +kernel
theorem dX2_isWithin_39 : decode cX2_isWithin 39 = .ok (.ireturn, 1) := by decide +kernel
theorem dX2_isWithin_40 : decode cX2_isWithin 40 = .ok (.iinc 2 1, 3) := by decide +kernel
theorem dX2_isWithin_43 : decode cX2_isWithin 43 = .ok (.goto (-41), 3) := by decide +kernel
theorem dX2_isWithin_46 : decode cX2_isWithin 46 = .ok (.iconst 1, 1) := by decide +kernel
theorem dX2_isWithin_47 : decode cX2_isWithin 47 = .ok (.ireturn, 1) := by decide +kernel
set_option maxRecDepth 20000 in
theorem ggX2_valueIn_X2_isPower : GoodIn wsX2_valueIn wsX2_isPower := goodIn_r _ [7] (by decide +kernel) (by decide +kernel)
set_option maxRecDepth 20000 in
theorem gX2_valueIn_X2_isPower : GoodIn wsX2_valueIn (va_wsS RX2 30 yX2_isPower wsX2_isPower) := goodIn_app (goodIn_of _ (by decide +kernel)) ggX2_valueIn_X2_isPower
set_option maxRecDepth 20000 in
theorem ggX2_valueIn_X0_raised : GoodIn wsX2_valueIn wsX0_raised := goodIn_r _ [12, 13, 14, 15, 16, 17, 18, 19, 20, 11, 21, 22, 23, 24, 25, 26, 27, 28, 29, 30, 31, 32, 33, 34, 35, 36, 37, 38, 39, 40, 41, 42, 43, 44, 45, 46, 47, 48, 49, 50, 51, 52, 53, 54, 55, 56, 57, 58, 59, 60, 61, 62, 63, 64, 65, 66, 67, 68, 69, 70, 71, 72, 73, 74, 75, 76, 77, 78, 79, 80, 81, 82, 83, 98, 99, 100, 101, 102, 103, 104, 105, 106, 107, 108, 109, 110, 111] (by decide +kernel) (by decide +kernel)
set_option maxRecDepth 20000 in
theorem gX2_valueIn_X0_raised : GoodIn wsX2_valueIn (wsV RX2 45 RX0 yX0_raised wsX0_raised) := goodIn_app (goodIn_of _ (by decide +kernel)) ggX2_valueIn_X0_raised
set_option maxRecDepth 20000 in
theorem ggX2_valueIn_X0_product : GoodIn wsX2_valueIn wsX0_product := goodIn_r _ [21, 22, 23, 24, 25, 26, 27, 28, 11, 29, 13, 30, 31, 32, 33, 34, 35, 36, 37, 38, 39, 40, 41, 42, 43, 44, 45, 46, 47, 48, 49, 50, 51, 52, 53, 54, 55, 56, 57, 58, 59, 60, 61, 62, 63, 64, 65, 66, 67, 68, 69, 70, 71, 72, 73, 74, 16, 75, 76, 77, 78, 79, 80, 81, 82, 83, 98, 99, 100, 101, 102, 103, 104, 105, 106, 107, 108, 109, 110, 111] (by decide +kernel) (by decide +kernel)
set_option maxRecDepth 20000 in
theorem gX2_valueIn_X0_product : GoodIn wsX2_valueIn (wsV RX2 48 RX0 yX0_product wsX0_product) := goodIn_app (goodIn_of _ (by decide +kernel)) ggX2_valueIn_X0_product
