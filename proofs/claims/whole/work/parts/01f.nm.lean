theorem dX3_prime_40 : decode cX3_prime 40 = .ok (.getfield 10, 3) := by decide +kernel
theorem dX3_prime_43 : decode cX3_prime 43 = .ok (.iload_n 1, 1) := by decide +kernel
theorem dX3_prime_44 : decode cX3_prime 44 = .ok (.iload_n 2, 1) := by decide +kernel
theorem dX3_prime_45 : decode cX3_prime 45 = .ok (.invokevirtual 112, 3) := by decide +kernel
theorem dX3_prime_48 : decode cX3_prime 48 = .ok (.ireturn, 1) := by decide +kernel
set_option maxRecDepth 20000 in
theorem ggX3_put_X2_append : GoodIn wsX3_put wsX2_append := goodIn_r _ [6, 7, 8, 9, 10, 5, 11, 12, 13, 14, 15, 16, 17, 18, 19, 20, 21, 22, 23, 29, 30, 31] (by decide +kernel) (by decide +kernel)
set_option maxRecDepth 20000 in
theorem gX3_put_X2_append : GoodIn wsX3_put (wsV RX3 115 RX2 yX2_append wsX2_append) := goodIn_app (goodIn_of _ (by decide +kernel)) ggX3_put_X2_append
theorem dX3_put_0 : decode cX3_put 0 = .ok (.aload_n 0, 1) := by decide +kernel
theorem dX3_put_1 : decode cX3_put 1 = .ok (.getfield 33, 3) := by decide +kernel
theorem dX3_put_4 : decode cX3_put 4 = .ok (.iload_n 1, 1) := by decide +kernel
theorem dX3_put_5 : decode cX3_put 5 = .ok (.iload_n 2, 1) := by decide +kernel
theorem dX3_put_6 : decode cX3_put 6 = .ok (.invokevirtual 115, 3) := by decide +kernel
theorem dX3_put_9 : decode cX3_put 9 = .ok (.ireturn, 1) := by decide +kernel
theorem dX3_clear_0 : decode cX3_clear 0 = .ok (.aload_n 0, 1) := by decide +kernel
theorem dX3_clear_1 : decode cX3_clear 1 = .ok (.getfield 33, 3) := by decide +kernel
theorem dX3_clear_4 : decode cX3_clear 4 = .ok (.iconst 0, 1) := by decide +kernel
theorem dX3_clear_5 : decode cX3_clear 5 = .ok (.putfield 119, 3) := by decide +kernel
theorem dX3_clear_8 : decode cX3_clear 8 = .ok (.return_, 1) := by decide +kernel
set_option maxRecDepth 20000 in
theorem ggX3_word_X2_isWellFormed : GoodIn wsX3_word wsX2_isWellFormed := goodIn_r _ [11, 12, 13, 14, 15, 10, 16, 122, 123, 124] (by decide +kernel) (by decide +kernel)
set_option maxRecDepth 20000 in
theorem gX3_word_X2_isWellFormed : GoodIn wsX3_word (wsV RX3 122 RX2 yX2_isWellFormed wsX2_isWellFormed) := goodIn_app (goodIn_of _ (by decide +kernel)) ggX3_word_X2_isWellFormed
set_option maxRecDepth 20000 in
theorem ggX3_word_X2_isWithin : GoodIn wsX3_word wsX2_isWithin := goodIn_r _ [20, 12, 13, 21, 22, 10, 23, 24, 25, 26, 27, 28, 29, 30, 31, 32, 33, 34, 35, 122, 123, 124, 125, 126, 127, 128, 129, 130] (by decide +kernel) (by decide +kernel)
set_option maxRecDepth 20000 in
theorem gX3_word_X2_isWithin : GoodIn wsX3_word (wsV RX3 126 RX2 yX2_isWithin wsX2_isWithin) := goodIn_app (goodIn_of _ (by decide +kernel)) ggX3_word_X2_isWithin
set_option maxRecDepth 20000 in
theorem ggX3_word_X2_valueIn : GoodIn wsX3_word wsX2_valueIn := goodIn_r _ [39, 40, 12, 13, 14, 15, 10, 16, 41, 42, 43, 33, 44, 35, 45, 46, 47, 48, 49, 50, 51, 52, 53, 54, 55, 56, 57, 31, 32, 34, 58, 59, 60, 61, 62, 63, 64, 65, 66, 67, 68, 69, 70, 71, 72, 73, 74, 75, 76, 77, 78, 79, 80, 81, 82, 83, 84, 85, 86, 87, 88, 89, 90, 91, 92, 93, 94, 95, 96, 97, 98, 99, 100, 101, 102, 103, 104, 105, 106, 107, 108, 109, 110, 111, 112, 24, 25, 26, 27, 28, 29, 113, 114, 115, 116, 122, 123, 124, 125, 126, 127, 128, 129, 130, 131, 132, 133, 134, 135, 136, 137, 138] (by decide +kernel) (by decide +kernel)
set_option maxRecDepth 20000 in
theorem gX3_word_X2_valueIn : GoodIn wsX3_word (wsV RX3 130 RX2 yX2_valueIn wsX2_valueIn) := goodIn_app (goodIn_of _ (by decide +kernel)) ggX3_word_X2_valueIn
theorem dX3_word_0 : decode cX3_word 0 = .ok (.aload_n 0, 1) := by decide +kernel
theorem dX3_word_1 : decode cX3_word 1 = .ok (.getfield 33, 3) := by decide +kernel
theorem dX3_word_4 : decode cX3_word 4 = .ok (.invokevirtual 122, 3) := by decide +kernel
theorem dX3_word_7 : decode cX3_word 7 = .ok (.ifCond .ne 11, 3) := by decide +kernel
theorem dX3_word_10 : decode cX3_word 10 = .ok (.new 44, 3) := by decide +kernel
theorem dX3_word_13 : decode cX3_word 13 = .ok (.dup, 1) := by decide +kernel
theorem dX3_word_14 : decode cX3_word 14 = .ok (.invokespecial 46, 3) := by decide +kernel
theorem dX3_word_17 : decode cX3_word 17 = .ok (.athrow, 1) := by decide +kernel
theorem dX3_word_18 : decode cX3_word 18 = .ok (.aload_n 0, 1) := by decide +kernel
theorem dX3_word_19 : decode cX3_word 19 = .ok (.getfield 33, 3) := by decide +kernel
theorem dX3_word_22 : decode cX3_word 22 = .ok (.aload_n 0, 1) := by decide +kernel
theorem dX3_word_23 : decode cX3_word 23 = .ok (.getfield 10, 3) := by decide +kernel
theorem dX3_word_26 : decode cX3_word 26 = .ok (.invokevirtual 126, 3) := by decide +kernel
theorem dX3_word_29 : decode cX3_word 29 = .ok (.ifCond .ne 11, 3) := by decide +kernel
theorem dX3_word_32 : decode cX3_word 32 = .ok (.new 57, 3) := by decide +kernel
theorem dX3_word_35 : decode cX3_word 35 = .ok (.dup, 1) := by decide +kernel
theorem dX3_word_36 : decode cX3_word 36 = .ok (.invokespecial 59, 3) := by decide +kernel
theorem dX3_word_39 : decode cX3_word 39 = .ok (.athrow, 1) := by decide +kernel
theorem dX3_word_40 : decode cX3_word 40 = .ok (.aload_n 0, 1) := by decide +kernel
theorem dX3_word_41 : decode cX3_word 41 = .ok (.getfield 33, 3) := by decide +kernel
theorem dX3_word_44 : decode cX3_word 44 = .ok (.aload_n 0, 1) := by decide +kernel
theorem dX3_word_45 : decode cX3_word 45 = .ok (.getfield 10, 3) := by decide +kernel
theorem dX3_word_48 : decode cX3_word 48 = .ok (.invokevirtual 130, 3) := by decide +kernel
theorem dX3_word_51 : decode cX3_word 51 = .ok (.ireturn, 1) := by decide +kernel
set_option maxRecDepth 20000 in
theorem ggX3_classOfLast_X0_find : GoodIn wsX3_classOfLast wsX0_find := goodIn_r _ [7, 8, 9, 10, 24, 25, 26, 27, 28, 29] (by decide +kernel) (by decide +kernel)
set_option maxRecDepth 20000 in
theorem gX3_classOfLast_X0_find : GoodIn wsX3_classOfLast (wsV RX3 142 RX0 yX0_find wsX0_find) := goodIn_app (goodIn_of _ (by decide +kernel)) ggX3_classOfLast_X0_find
theorem dX3_classOfLast_0 : decode cX3_classOfLast 0 = .ok (.aload_n 0, 1) := by decide +kernel
theorem dX3_classOfLast_1 : decode cX3_classOfLast 1 = .ok (.getfield 22, 3) := by decide +kernel
theorem dX3_classOfLast_4 : decode cX3_classOfLast 4 = .ok (.getfield 134, 3) := by decide +kernel
theorem dX3_classOfLast_7 : decode cX3_classOfLast 7 = .ok (.aload_n 0, 1) := by decide +kernel
theorem dX3_classOfLast_8 : decode cX3_classOfLast 8 = .ok (.getfield 10, 3) := by decide +kernel
theorem dX3_classOfLast_11 : decode cX3_classOfLast 11 = .ok (.getfield 137, 3) := by decide +kernel
theorem dX3_classOfLast_14 : decode cX3_classOfLast 14 = .ok (.if_icmp .ne 27, 3) := by decide +kernel
theorem dX3_classOfLast_17 : decode cX3_classOfLast 17 = .ok (.aload_n 0, 1) := by decide +kernel
theorem dX3_classOfLast_18 : decode cX3_classOfLast 18 = .ok (.getfield 10, 3) := by decide +kernel
theorem dX3_classOfLast_21 : decode cX3_classOfLast 21 = .ok (.aload_n 0, 1) := by decide +kernel
theorem dX3_classOfLast_22 : decode cX3_classOfLast 22 = .ok (.getfield 22, 3) := by decide +kernel
theorem dX3_classOfLast_25 : decode cX3_classOfLast 25 = .ok (.getfield 138, 3) := by decide +kernel
theorem dX3_classOfLast_28 : decode cX3_classOfLast 28 = .ok (.aload_n 0, 1) := by decide +kernel
theorem dX3_classOfLast_29 : decode cX3_classOfLast 29 = .ok (.getfield 22, 3) := by decide +kernel
theorem dX3_classOfLast_32 : decode cX3_classOfLast 32 = .ok (.getfield 140, 3) := by decide +kernel
theorem dX3_classOfLast_35 : decode cX3_classOfLast 35 = .ok (.invokevirtual 142, 3) := by decide +kernel
theorem dX3_classOfLast_38 : decode cX3_classOfLast 38 = .ok (.goto 4, 3) := by decide +kernel
theorem dX3_classOfLast_41 : decode cX3_classOfLast 41 = .ok (.iconst (-1), 1) := by decide +kernel
theorem dX3_classOfLast_42 : decode cX3_classOfLast 42 = .ok (.ireturn, 1) := by decide +kernel
set_option maxRecDepth 20000 in
theorem ggX3_isDeskDiscriminant_J9_floorMod_7cf53 : GoodIn wsX3_isDeskDiscriminant wsJ9_floorMod_7cf53 := goodIn_r _ [4] (by decide +kernel) (by decide +kernel)
set_option maxRecDepth 20000 in
theorem gX3_isDeskDiscriminant_J9_floorMod_7cf53 : GoodIn wsX3_isDeskDiscriminant (va_wsS RX3 145 yJ9_floorMod_7cf53 wsJ9_floorMod_7cf53) := goodIn_app (goodIn_of _ (by decide +kernel)) ggX3_isDeskDiscriminant_J9_floorMod_7cf53
theorem dX3_isDeskDiscriminant_0 : decode cX3_isDeskDiscriminant 0 = .ok (.iload_n 0, 1) := by decide +kernel
theorem dX3_isDeskDiscriminant_1 : decode cX3_isDeskDiscriminant 1 = .ok (.iconst 4, 1) := by decide +kernel
theorem dX3_isDeskDiscriminant_2 : decode cX3_isDeskDiscriminant 2 = .ok (.invokestatic 145, 3) := by decide +kernel
theorem dX3_isDeskDiscriminant_5 : decode cX3_isDeskDiscriminant 5 = .ok (.istore_n 1, 1) := by decide +kernel
theorem dX3_isDeskDiscriminant_6 : decode cX3_isDeskDiscriminant 6 = .ok (.iload_n 0, 1) := by decide +kernel
theorem dX3_isDeskDiscriminant_7 : decode cX3_isDeskDiscriminant 7 = .ok (.sipush (-2000), 3) := by decide +kernel
theorem dX3_isDeskDiscriminant_10 : decode cX3_isDeskDiscriminant 10 = .ok (.if_icmp .lt 20, 3) := by decide +kernel
theorem dX3_isDeskDiscriminant_13 : decode cX3_isDeskDiscriminant 13 = .ok (.iload_n 0, 1) := by decide +kernel
theorem dX3_isDeskDiscriminant_14 : decode cX3_isDeskDiscriminant 14 = .ok (.ifCond .ge 16, 3) := by decide +kernel
theorem dX3_isDeskDiscriminant_17 : decode cX3_isDeskDiscriminant 17 = .ok (.iload_n 1, 1) := by decide +kernel
theorem dX3_isDeskDiscriminant_18 : decode cX3_isDeskDiscriminant 18 = .ok (.ifCond .eq 8, 3) := by decide +kernel
theorem dX3_isDeskDiscriminant_21 : decode cX3_isDeskDiscriminant 21 = .ok (.iload_n 1, 1) := by decide +kernel
theorem dX3_isDeskDiscriminant_22 : decode cX3_isDeskDiscriminant 22 = .ok (.iconst 1, 1) := by decide +kernel
theorem dX3_isDeskDiscriminant_23 : decode cX3_isDeskDiscriminant 23 = .ok (.if_icmp .ne 7, 3) := by decide +kernel
theorem dX3_isDeskDiscriminant_26 : decode cX3_isDeskDiscriminant 26 = .ok (.iconst 1, 1) := by decide +kernel
theorem dX3_isDeskDiscriminant_27 : decode cX3_isDeskDiscriminant 27 = .ok (.goto 4, 3) := by decide +kernel
theorem dX3_isDeskDiscriminant_30 : decode cX3_isDeskDiscriminant 30 = .ok (.iconst 0, 1) := by decide +kernel
theorem dX3_isDeskDiscriminant_31 : decode cX3_isDeskDiscriminant 31 = .ok (.ireturn, 1) := by decide +kernel
theorem dX3_isCoefficient_0 : decode cX3_isCoefficient 0 = .ok (.iload_n 0, 1) := by decide +kernel
theorem dX3_isCoefficient_1 : decode cX3_isCoefficient 1 = .ok (.sipush (-20000), 3) := by decide +kernel
theorem dX3_isCoefficient_4 : decode cX3_isCoefficient 4 = .ok (.if_icmp .lt 14, 3) := by decide +kernel
theorem dX3_isCoefficient_7 : decode cX3_isCoefficient 7 = .ok (.iload_n 0, 1) := by decide +kernel
theorem dX3_isCoefficient_8 : decode cX3_isCoefficient 8 = .ok (.sipush 20000, 3) := by decide +kernel
theorem dX3_isCoefficient_11 : decode cX3_isCoefficient 11 = .ok (.if_icmp .gt 7, 3) := by decide +kernel
theorem dX3_isCoefficient_14 : decode cX3_isCoefficient 14 = .ok (.iconst 1, 1) := by decide +kernel
theorem dX3_isCoefficient_15 : decode cX3_isCoefficient 15 = .ok (.goto 4, 3) := by decide +kernel
theorem dX3_isCoefficient_18 : decode cX3_isCoefficient 18 = .ok (.iconst 0, 1) := by decide +kernel
theorem dX3_isCoefficient_19 : decode cX3_isCoefficient 19 = .ok (.ireturn, 1) := by decide +kernel
set_option maxRecDepth 20000 in
theorem ggX3_isForm_X3_isPrimitive : GoodIn wsX3_isForm wsX3_isPrimitive := goodIn_r _ [4, 5, 6, 3, 7, 8, 9, 10, 11] (by decide +kernel) (by decide +kernel)
set_option maxRecDepth 20000 in
theorem gX3_isForm_X3_isPrimitive : GoodIn wsX3_isForm (va_wsS RX3 150 yX3_isPrimitive wsX3_isPrimitive) := goodIn_app (goodIn_of _ (by decide +kernel)) ggX3_isForm_X3_isPrimitive
theorem dX3_isForm_0 : decode cX3_isForm 0 = .ok (.iload_n 0, 1) := by decide +kernel
theorem dX3_isForm_1 : decode cX3_isForm 1 = .ok (.ifCond .le 28, 3) := by decide +kernel
theorem dX3_isForm_4 : decode cX3_isForm 4 = .ok (.iload_n 1, 1) := by decide +kernel
theorem dX3_isForm_5 : decode cX3_isForm 5 = .ok (.iload_n 1, 1) := by decide +kernel
theorem dX3_isForm_6 : decode cX3_isForm 6 = .ok (.imul, 1) := by decide +kernel
theorem dX3_isForm_7 : decode cX3_isForm 7 = .ok (.iconst 4, 1) := by decide +kernel
theorem dX3_isForm_8 : decode cX3_isForm 8 = .ok (.iload_n 0, 1) := by decide +kernel
theorem dX3_isForm_9 : decode cX3_isForm 9 = .ok (.imul, 1) := by decide +kernel
theorem dX3_isForm_10 : decode cX3_isForm 10 = .ok (.iload_n 2, 1) := by decide +kernel
theorem dX3_isForm_11 : decode cX3_isForm 11 = .ok (.imul, 1) := by decide +kernel
theorem dX3_isForm_12 : decode cX3_isForm 12 = .ok (.isub, 1) := by decide +kernel
theorem dX3_isForm_13 : decode cX3_isForm 13 = .ok (.ifCond .ge 16, 3) := by decide +kernel
theorem dX3_isForm_16 : decode cX3_isForm 16 = .ok (.iload_n 0, 1) := by decide +kernel
theorem dX3_isForm_17 : decode cX3_isForm 17 = .ok (.iload_n 1, 1) := by decide +kernel
theorem dX3_isForm_18 : decode cX3_isForm 18 = .ok (.iload_n 2, 1) := by decide +kernel
theorem dX3_isForm_19 : decode cX3_isForm 19 = .ok (.invokestatic 150, 3) := by decide +kernel
theorem dX3_isForm_22 : decode cX3_isForm 22 = .ok (.ifCond .eq 7, 3) := by decide +kernel
theorem dX3_isForm_25 : decode cX3_isForm 25 = .ok (.iconst 1, 1) := by decide +kernel
theorem dX3_isForm_26 : decode cX3_isForm 26 = .ok (.goto 4, 3) := by decide +kernel
theorem dX3_isForm_29 : decode cX3_isForm 29 = .ok (.iconst 0, 1) := by decide +kernel
theorem dX3_isForm_30 : decode cX3_isForm 30 = .ok (.ireturn, 1) := by decide +kernel
set_option maxRecDepth 20000 in
theorem ggX3_isPrimitive_X3_gcd : GoodIn wsX3_isPrimitive wsX3_gcd := goodIn_r _ [4, 5, 6, 7, 8] (by decide +kernel) (by decide +kernel)
set_option maxRecDepth 20000 in
theorem gX3_isPrimitive_X3_gcd : GoodIn wsX3_isPrimitive (va_wsS RX3 153 yX3_gcd wsX3_gcd) := goodIn_app (goodIn_of _ (by decide +kernel)) ggX3_isPrimitive_X3_gcd
theorem dX3_isPrimitive_0 : decode cX3_isPrimitive 0 = .ok (.iload_n 0, 1) := by decide +kernel
theorem dX3_isPrimitive_1 : decode cX3_isPrimitive 1 = .ok (.iload_n 1, 1) := by decide +kernel
theorem dX3_isPrimitive_2 : decode cX3_isPrimitive 2 = .ok (.invokestatic 153, 3) := by decide +kernel
theorem dX3_isPrimitive_5 : decode cX3_isPrimitive 5 = .ok (.iload_n 2, 1) := by decide +kernel
theorem dX3_isPrimitive_6 : decode cX3_isPrimitive 6 = .ok (.invokestatic 153, 3) := by decide +kernel
theorem dX3_isPrimitive_9 : decode cX3_isPrimitive 9 = .ok (.iconst 1, 1) := by decide +kernel
theorem dX3_isPrimitive_10 : decode cX3_isPrimitive 10 = .ok (.if_icmp .ne 7, 3) := by decide +kernel
theorem dX3_isPrimitive_13 : decode cX3_isPrimitive 13 = .ok (.iconst 1, 1) := by decide +kernel
theorem dX3_isPrimitive_14 : decode cX3_isPrimitive 14 = .ok (.goto 4, 3) := by decide +kernel
theorem dX3_isPrimitive_17 : decode cX3_isPrimitive 17 = .ok (.iconst 0, 1) := by decide +kernel
theorem dX3_isPrimitive_18 : decode cX3_isPrimitive 18 = .ok (.ireturn, 1) := by decide +kernel
theorem dX3_divides_0 : decode cX3_divides 0 = .ok (.iload_n 0, 1) := by decide +kernel
theorem dX3_divides_1 : decode cX3_divides 1 = .ok (.ifCond .eq 13, 3) := by decide +kernel
theorem dX3_divides_4 : decode cX3_divides 4 = .ok (.iload_n 1, 1) := by decide +kernel
theorem dX3_divides_5 : decode cX3_divides 5 = .ok (.iload_n 0, 1) := by decide +kernel
theorem dX3_divides_6 : decode cX3_divides 6 = .ok (.irem, 1) := by decide +kernel
theorem dX3_divides_7 : decode cX3_divides 7 = .ok (.ifCond .ne 7, 3) := by decide +kernel
theorem dX3_divides_10 : decode cX3_divides 10 = .ok (.iconst 1, 1) := by decide +kernel
theorem dX3_divides_11 : decode cX3_divides 11 = .ok (.goto 4, 3) := by decide +kernel
theorem dX3_divides_14 : decode cX3_divides 14 = .ok (.iconst 0, 1) := by decide +kernel
theorem dX3_divides_15 : decode cX3_divides 15 = .ok (.ireturn, 1) := by decide +kernel
theorem dX3_gcd_0 : decode cX3_gcd 0 = .ok (.iload_n 0, 1) := by decide +kernel
theorem dX3_gcd_1 : decode cX3_gcd 1 = .ok (.invokestatic 156, 3) := by decide +kernel
theorem dX3_gcd_4 : decode cX3_gcd 4 = .ok (.istore_n 2, 1) := by decide +kernel
theorem dX3_gcd_5 : decode cX3_gcd 5 = .ok (.iload_n 1, 1) := by decide +kernel
theorem dX3_gcd_6 : decode cX3_gcd 6 = .ok (.invokestatic 156, 3) := by decide +kernel
theorem dX3_gcd_9 : decode cX3_gcd 9 = .ok (.istore_n 3, 1) := by decide +kernel
theorem dX3_gcd_10 : decode cX3_gcd 10 = .ok (.iconst 0, 1) := by decide +kernel
theorem dX3_gcd_11 : decode cX3_gcd 11 = .ok (.istore 4, 2) := by decide +kernel
theorem dX3_gcd_13 : decode cX3_gcd 13 = .ok (.iload 4, 2) := by decide +kernel
theorem dX3_gcd_15 : decode cX3_gcd 15 = .ok (.bipush 100, 2) := by decide +kernel
theorem dX3_gcd_17 : decode cX3_gcd 17 = .ok (.if_icmp .ge 23, 3) := by decide +kernel
theorem dX3_gcd_20 : decode cX3_gcd 20 = .ok (.iload_n 3, 1) := by decide +kernel
theorem dX3_gcd_21 : decode cX3_gcd 21 = .ok (.ifCond .eq 19, 3) := by decide +kernel
theorem dX3_gcd_24 : decode cX3_gcd 24 = .ok (.iload_n 2, 1) := by decide +kernel
theorem dX3_gcd_25 : decode cX3_gcd 25 = .ok (.iload_n 3, 1) := by decide +kernel
theorem dX3_gcd_26 : decode cX3_gcd 26 = .ok (.irem, 1) := by decide +kernel
theorem dX3_gcd_27 : decode cX3_gcd 27 = .ok (.istore 5, 2) := by decide +kernel
theorem dX3_gcd_29 : decode cX3_gcd 29 = .ok (.iload_n 3, 1) := by decide +kernel
theorem dX3_gcd_30 : decode cX3_gcd 30 = .ok (.istore_n 2, 1) := by decide +kernel
theorem dX3_gcd_31 : decode cX3_gcd 31 = .ok (.iload 5, 2) := by decide +kernel
theorem dX3_gcd_33 : decode cX3_gcd 33 = .ok (.istore_n 3, 1) := by decide +kernel
theorem dX3_gcd_34 : decode cX3_gcd 34 = .ok (.iinc 4 1, 3) := by decide +kernel
theorem dX3_gcd_37 : decode cX3_gcd 37 = .ok (.goto (-24), 3) := by decide +kernel
theorem dX3_gcd_40 : decode cX3_gcd 40 = .ok (.iload_n 2, 1) := by decide +kernel
theorem dX3_gcd_41 : decode cX3_gcd 41 = .ok (.ireturn, 1) := by decide +kernel
theorem dX3_root_0 : decode cX3_root 0 = .ok (.iconst 0, 1) := by decide +kernel
theorem dX3_root_1 : decode cX3_root 1 = .ok (.istore_n 1, 1) := by decide +kernel
theorem dX3_root_2 : decode cX3_root 2 = .ok (.sipush 16384, 3) := by decide +kernel
theorem dX3_root_5 : decode cX3_root 5 = .ok (.istore_n 2, 1) := by decide +kernel
theorem dX3_root_6 : decode cX3_root 6 = .ok (.iload_n 2, 1) := by decide +kernel
theorem dX3_root_7 : decode cX3_root 7 = .ok (.ifCond .le 23, 3) := by decide +kernel
theorem dX3_root_10 : decode cX3_root 10 = .ok (.iload_n 1, 1) := by decide +kernel
theorem dX3_root_11 : decode cX3_root 11 = .ok (.iload_n 2, 1) := by decide +kernel
theorem dX3_root_12 : decode cX3_root 12 = .ok (.iadd, 1) := by decide +kernel
theorem dX3_root_13 : decode cX3_root 13 = .ok (.istore_n 3, 1) := by decide +kernel
theorem dX3_root_14 : decode cX3_root 14 = .ok (.iload_n 3, 1) := by decide +kernel
theorem dX3_root_15 : decode cX3_root 15 = .ok (.iload_n 3, 1) := by decide +kernel
theorem dX3_root_16 : decode cX3_root 16 = .ok (.imul, 1) := by decide +kernel
theorem dX3_root_17 : decode cX3_root 17 = .ok (.iload_n 0, 1) := by decide +kernel
theorem dX3_root_18 : decode cX3_root 18 = .ok (.if_icmp .gt 5, 3) := by decide +kernel
theorem dX3_root_21 : decode cX3_root 21 = .ok (.iload_n 3, 1) := by decide +kernel
theorem dX3_root_22 : decode cX3_root 22 = .ok (.istore_n 1, 1) := by decide +kernel
theorem dX3_root_23 : decode cX3_root 23 = .ok (.iload_n 2, 1) := by decide +kernel
theorem dX3_root_24 : decode cX3_root 24 = .ok (.iconst 1, 1) := by decide +kernel
theorem dX3_root_25 : decode cX3_root 25 = .ok (.ishr, 1) := by decide +kernel
theorem dX3_root_26 : decode cX3_root 26 = .ok (.istore_n 2, 1) := by decide +kernel
theorem dX3_root_27 : decode cX3_root 27 = .ok (.goto (-21), 3) := by decide +kernel
theorem dX3_root_30 : decode cX3_root 30 = .ok (.iload_n 1, 1) := by decide +kernel
theorem dX3_root_31 : decode cX3_root 31 = .ok (.ireturn, 1) := by decide +kernel
set_option maxRecDepth 20000 in
theorem ggX4_init_X4_list : GoodIn wsX4_init wsX4_list := goodIn_r _ [18, 6, 7, 8, 4, 19, 20, 21, 17, 22, 23, 24, 25, 26, 27, 28, 29, 30, 31, 32, 33, 34, 35, 36, 37, 38, 39, 40, 41, 42, 43, 44, 45, 46, 47, 48, 49] (by decide +kernel) (by decide +kernel)
set_option maxRecDepth 20000 in
theorem gX4_init_X4_list : GoodIn wsX4_init (wsV RX4 34 RX4 yX4_list wsX4_list) := goodIn_app (goodIn_of _ (by decide +kernel)) ggX4_init_X4_list
theorem dX4_init_0 : decode cX4_init 0 = .ok (.aload_n 0, 1) := by decide +kernel
theorem dX4_init_1 : decode cX4_init 1 = .ok (.invokespecial 1, 3) := by decide +kernel
theorem dX4_init_4 : decode cX4_init 4 = .ok (.aload_n 0, 1) := by decide +kernel
theorem dX4_init_5 : decode cX4_init 5 = .ok (.bipush (-3), 2) := by decide +kernel
theorem dX4_init_7 : decode cX4_init 7 = .ok (.putfield 7, 3) := by decide +kernel
theorem dX4_init_10 : decode cX4_init 10 = .ok (.aload_n 0, 1) := by decide +kernel
theorem dX4_init_11 : decode cX4_init 11 = .ok (.bipush 40, 2) := by decide +kernel
theorem dX4_init_13 : decode cX4_init 13 = .ok (.newarray .long, 2) := by decide +kernel
theorem dX4_init_15 : decode cX4_init 15 = .ok (.putfield 13, 3) := by decide +kernel
theorem dX4_init_18 : decode cX4_init 18 = .ok (.aload_n 0, 1) := by decide +kernel
theorem dX4_init_19 : decode cX4_init 19 = .ok (.bipush 40, 2) := by decide +kernel
theorem dX4_init_21 : decode cX4_init 21 = .ok (.newarray .long, 2) := by decide +kernel
theorem dX4_init_23 : decode cX4_init 23 = .ok (.putfield 17, 3) := by decide +kernel
theorem dX4_init_26 : decode cX4_init 26 = .ok (.aload_n 0, 1) := by decide +kernel
theorem dX4_init_27 : decode cX4_init 27 = .ok (.bipush 40, 2) := by decide +kernel
theorem dX4_init_29 : decode cX4_init 29 = .ok (.newarray .long, 2) := by decide +kernel
theorem dX4_init_31 : decode cX4_init 31 = .ok (.putfield 20, 3) := by decide +kernel
theorem dX4_init_34 : decode cX4_init 34 = .ok (.aload_n 0, 1) := by decide +kernel
theorem dX4_init_35 : decode cX4_init 35 = .ok (.bipush 7, 2) := by decide +kernel
theorem dX4_init_37 : decode cX4_init 37 = .ok (.newarray .long, 2) := by decide +kernel
theorem dX4_init_39 : decode cX4_init 39 = .ok (.putfield 23, 3) := by decide +kernel
theorem dX4_init_42 : decode cX4_init 42 = .ok (.aload_n 0, 1) := by decide +kernel
theorem dX4_init_43 : decode cX4_init 43 = .ok (.bipush 40, 2) := by decide +kernel
theorem dX4_init_45 : decode cX4_init 45 = .ok (.newarray .char, 2) := by decide +kernel
theorem dX4_init_47 : decode cX4_init 47 = .ok (.putfield 26, 3) := by decide +kernel
theorem dX4_init_50 : decode cX4_init 50 = .ok (.aload_n 0, 1) := by decide +kernel
theorem dX4_init_51 : decode cX4_init 51 = .ok (.iconst 5, 1) := by decide +kernel
theorem dX4_init_52 : decode cX4_init 52 = .ok (.newarray .int, 2) := by decide +kernel
theorem dX4_init_54 : decode cX4_init 54 = .ok (.putfield 30, 3) := by decide +kernel
theorem dX4_init_57 : decode cX4_init 57 = .ok (.aload_n 0, 1) := by decide +kernel
theorem dX4_init_58 : decode cX4_init 58 = .ok (.bipush (-3), 2) := by decide +kernel
theorem dX4_init_60 : decode cX4_init 60 = .ok (.invokevirtual 34, 3) := by decide +kernel
theorem dX4_init_63 : decode cX4_init 63 = .ok (.pop, 1) := by decide +kernel
theorem dX4_init_64 : decode cX4_init 64 = .ok (.return_, 1) := by decide +kernel
theorem dX4_thrown_0 : decode cX4_thrown 0 = .ok (.aload_n 0, 1) := by decide +kernel
theorem dX4_thrown_1 : decode cX4_thrown 1 = .ok (.getfield 38, 3) := by decide +kernel
theorem dX4_thrown_4 : decode cX4_thrown 4 = .ok (.ireturn, 1) := by decide +kernel
theorem dX4_refuse_0 : decode cX4_refuse 0 = .ok (.aload_n 0, 1) := by decide +kernel
theorem dX4_refuse_1 : decode cX4_refuse 1 = .ok (.iload_n 1, 1) := by decide +kernel
theorem dX4_refuse_2 : decode cX4_refuse 2 = .ok (.putfield 38, 3) := by decide +kernel
theorem dX4_refuse_5 : decode cX4_refuse 5 = .ok (.iconst 0, 1) := by decide +kernel
theorem dX4_refuse_6 : decode cX4_refuse 6 = .ok (.ireturn, 1) := by decide +kernel
theorem dX4_outside_0 : decode cX4_outside 0 = .ok (.iload_n 0, 1) := by decide +kernel
theorem dX4_outside_1 : decode cX4_outside 1 = .ok (.iload_n 1, 1) := by decide +kernel
theorem dX4_outside_2 : decode cX4_outside 2 = .ok (.if_icmp .lt 8, 3) := by decide +kernel
theorem dX4_outside_5 : decode cX4_outside 5 = .ok (.iload_n 0, 1) := by decide +kernel
theorem dX4_outside_6 : decode cX4_outside 6 = .ok (.iload_n 2, 1) := by decide +kernel
theorem dX4_outside_7 : decode cX4_outside 7 = .ok (.if_icmp .le 7, 3) := by decide +kernel
theorem dX4_outside_10 : decode cX4_outside 10 = .ok (.iconst 1, 1) := by decide +kernel
theorem dX4_outside_11 : decode cX4_outside 11 = .ok (.goto 4, 3) := by decide +kernel
theorem dX4_outside_14 : decode cX4_outside 14 = .ok (.iconst 0, 1) := by decide +kernel
theorem dX4_outside_15 : decode cX4_outside 15 = .ok (.ireturn, 1) := by decide +kernel
theorem dX4_size_0 : decode cX4_size 0 = .ok (.lload_n 0, 1) := by decide +kernel
theorem dX4_size_1 : decode cX4_size 1 = .ok (.lconst 0, 1) := by decide +kernel
theorem dX4_size_2 : decode cX4_size 2 = .ok (.lcmp, 1) := by decide +kernel
theorem dX4_size_3 : decode cX4_size 3 = .ok (.ifCond .ge 8, 3) := by decide +kernel
theorem dX4_size_6 : decode cX4_size 6 = .ok (.lload_n 0, 1) := by decide +kernel
theorem dX4_size_7 : decode cX4_size 7 = .ok (.lneg, 1) := by decide +kernel
theorem dX4_size_8 : decode cX4_size 8 = .ok (.goto 4, 3) := by decide +kernel
theorem dX4_size_11 : decode cX4_size 11 = .ok (.lload_n 0, 1) := by decide +kernel
theorem dX4_size_12 : decode cX4_size 12 = .ok (.lreturn, 1) := by decide +kernel
set_option maxRecDepth 20000 in
theorem ggX4_common_X4_size : GoodIn wsX4_common wsX4_size := goodIn_r _ [4] (by decide +kernel) (by decide +kernel)
set_option maxRecDepth 20000 in
theorem gX4_common_X4_size : GoodIn wsX4_common (va_wsS RX4 41 yX4_size wsX4_size) := goodIn_app (goodIn_of _ (by decide +kernel)) ggX4_common_X4_size
theorem dX4_common_0 : decode cX4_common 0 = .ok (.lload_n 0, 1) := by decide +kernel
theorem dX4_common_1 : decode cX4_common 1 = .ok (.invokestatic 41, 3) := by decide +kernel
theorem dX4_common_4 : decode cX4_common 4 = .ok (.lstore 4, 2) := by decide +kernel
theorem dX4_common_6 : decode cX4_common 6 = .ok (.lload_n 2, 1) := by decide +kernel
theorem dX4_common_7 : decode cX4_common 7 = .ok (.invokestatic 41, 3) := by decide +kernel
theorem dX4_common_10 : decode cX4_common 10 = .ok (.lstore 6, 2) := by decide +kernel
theorem dX4_common_12 : decode cX4_common 12 = .ok (.lload 4, 2) := by decide +kernel
theorem dX4_common_14 : decode cX4_common 14 = .ok (.lconst 0, 1) := by decide +kernel
theorem dX4_common_15 : decode cX4_common 15 = .ok (.lcmp, 1) := by decide +kernel
theorem dX4_common_16 : decode cX4_common 16 = .ok (.ifCond .eq 38, 3) := by decide +kernel
theorem dX4_common_19 : decode cX4_common 19 = .ok (.lload 6, 2) := by decide +kernel
theorem dX4_common_21 : decode cX4_common 21 = .ok (.lconst 0, 1) := by decide +kernel
theorem dX4_common_22 : decode cX4_common 22 = .ok (.lcmp, 1) := by decide +kernel
theorem dX4_common_23 : decode cX4_common 23 = .ok (.ifCond .eq 31, 3) := by decide +kernel
theorem dX4_common_26 : decode cX4_common 26 = .ok (.lload 4, 2) := by decide +kernel
theorem dX4_common_28 : decode cX4_common 28 = .ok (.lload 6, 2) := by decide +kernel
theorem dX4_common_30 : decode cX4_common 30 = .ok (.lcmp, 1) := by decide +kernel
theorem dX4_common_31 : decode cX4_common 31 = .ok (.ifCond .le 13, 3) := by decide +kernel
theorem dX4_common_34 : decode cX4_common 34 = .ok (.lload 4, 2) := by decide +kernel
theorem dX4_common_36 : decode cX4_common 36 = .ok (.lload 6, 2) := by decide +kernel
theorem dX4_common_38 : decode cX4_common 38 = .ok (.lrem, 1) := by decide +kernel
theorem dX4_common_39 : decode cX4_common 39 = .ok (.lstore 4, 2) := by decide +kernel
theorem dX4_common_41 : decode cX4_common 41 = .ok (.goto (-29), 3) := by decide +kernel
theorem dX4_common_44 : decode cX4_common 44 = .ok (.lload 6, 2) := by decide +kernel
theorem dX4_common_46 : decode cX4_common 46 = .ok (.lload 4, 2) := by decide +kernel
theorem dX4_common_48 : decode cX4_common 48 = .ok (.lrem, 1) := by decide +kernel
theorem dX4_common_49 : decode cX4_common 49 = .ok (.lstore 6, 2) := by decide +kernel
theorem dX4_common_51 : decode cX4_common 51 = .ok (.goto (-39), 3) := by decide +kernel
theorem dX4_common_54 : decode cX4_common 54 = .ok (.lload 4, 2) := by decide +kernel
theorem dX4_common_56 : decode cX4_common 56 = .ok (.lload 6, 2) := by decide +kernel
theorem dX4_common_58 : decode cX4_common 58 = .ok (.ladd, 1) := by decide +kernel
theorem dX4_common_59 : decode cX4_common 59 = .ok (.lreturn, 1) := by decide +kernel
set_option maxRecDepth 20000 in
theorem ggX4_primitive_X4_common : GoodIn wsX4_primitive wsX4_common := goodIn_r _ [4, 5, 6, 3, 7] (by decide +kernel) (by decide +kernel)
set_option maxRecDepth 20000 in
theorem gX4_primitive_X4_common : GoodIn wsX4_primitive (va_wsS RX4 45 yX4_common wsX4_common) := goodIn_app (goodIn_of _ (by decide +kernel)) ggX4_primitive_X4_common
theorem dX4_primitive_0 : decode cX4_primitive 0 = .ok (.lload_n 0, 1) := by decide +kernel
theorem dX4_primitive_1 : decode cX4_primitive 1 = .ok (.lload_n 2, 1) := by decide +kernel
theorem dX4_primitive_2 : decode cX4_primitive 2 = .ok (.invokestatic 45, 3) := by decide +kernel
theorem dX4_primitive_5 : decode cX4_primitive 5 = .ok (.lload 4, 2) := by decide +kernel
theorem dX4_primitive_7 : decode cX4_primitive 7 = .ok (.invokestatic 45, 3) := by decide +kernel
theorem dX4_primitive_10 : decode cX4_primitive 10 = .ok (.lconst 1, 1) := by decide +kernel
theorem dX4_primitive_11 : decode cX4_primitive 11 = .ok (.lcmp, 1) := by decide +kernel
theorem dX4_primitive_12 : decode cX4_primitive 12 = .ok (.ifCond .ne 7, 3) := by decide +kernel
theorem dX4_primitive_15 : decode cX4_primitive 15 = .ok (.iconst 1, 1) := by decide +kernel
theorem dX4_primitive_16 : decode cX4_primitive 16 = .ok (.goto 4, 3) := by decide +kernel
theorem dX4_primitive_19 : decode cX4_primitive 19 = .ok (.iconst 0, 1) := by decide +kernel
theorem dX4_primitive_20 : decode cX4_primitive 20 = .ok (.ireturn, 1) := by decide +kernel
set_option maxRecDepth 20000 in
theorem ggX4_isReduced_X4_size : GoodIn wsX4_isReduced wsX4_size := goodIn_r _ [4] (by decide +kernel) (by decide +kernel)
set_option maxRecDepth 20000 in
theorem gX4_isReduced_X4_size : GoodIn wsX4_isReduced (va_wsS RX4 41 yX4_size wsX4_size) := goodIn_app (goodIn_of _ (by decide +kernel)) ggX4_isReduced_X4_size
theorem dX4_isReduced_0 : decode cX4_isReduced 0 = .ok (.lload_n 2, 1) := by decide +kernel
theorem dX4_isReduced_1 : decode cX4_isReduced 1 = .ok (.invokestatic 41, 3) := by decide +kernel
theorem dX4_isReduced_4 : decode cX4_isReduced 4 = .ok (.lload_n 0, 1) := by decide +kernel
theorem dX4_isReduced_5 : decode cX4_isReduced 5 = .ok (.lcmp, 1) := by decide +kernel
theorem dX4_isReduced_6 : decode cX4_isReduced 6 = .ok (.ifCond .gt 10, 3) := by decide +kernel
theorem dX4_isReduced_9 : decode cX4_isReduced 9 = .ok (.lload_n 0, 1) := by decide +kernel
theorem dX4_isReduced_10 : decode cX4_isReduced 10 = .ok (.lload 4, 2) := by decide +kernel
theorem dX4_isReduced_12 : decode cX4_isReduced 12 = .ok (.lcmp, 1) := by decide +kernel
theorem dX4_isReduced_13 : decode cX4_isReduced 13 = .ok (.ifCond .le 5, 3) := by decide +kernel
theorem dX4_isReduced_16 : decode cX4_isReduced 16 = .ok (.iconst 0, 1) := by decide +kernel
theorem dX4_isReduced_17 : decode cX4_isReduced 17 = .ok (.ireturn, 1) := by decide +kernel
theorem dX4_isReduced_18 : decode cX4_isReduced 18 = .ok (.lload_n 2, 1) := by decide +kernel
theorem dX4_isReduced_19 : decode cX4_isReduced 19 = .ok (.lconst 0, 1) := by decide +kernel
theorem dX4_isReduced_20 : decode cX4_isReduced 20 = .ok (.lcmp, 1) := by decide +kernel
theorem dX4_isReduced_21 : decode cX4_isReduced 21 = .ok (.ifCond .ge 19, 3) := by decide +kernel
theorem dX4_isReduced_24 : decode cX4_isReduced 24 = .ok (.lload_n 2, 1) := by decide +kernel
theorem dX4_isReduced_25 : decode cX4_isReduced 25 = .ok (.invokestatic 41, 3) := by decide +kernel
theorem dX4_isReduced_28 : decode cX4_isReduced 28 = .ok (.lload_n 0, 1) := by decide +kernel
theorem dX4_isReduced_29 : decode cX4_isReduced 29 = .ok (.lcmp, 1) := by decide +kernel
theorem dX4_isReduced_30 : decode cX4_isReduced 30 = .ok (.ifCond .eq 14, 3) := by decide +kernel
theorem dX4_isReduced_33 : decode cX4_isReduced 33 = .ok (.lload_n 0, 1) := by decide +kernel
theorem dX4_isReduced_34 : decode cX4_isReduced 34 = .ok (.lload 4, 2) := by decide +kernel
theorem dX4_isReduced_36 : decode cX4_isReduced 36 = .ok (.lcmp, 1) := by decide +kernel
theorem dX4_isReduced_37 : decode cX4_isReduced 37 = .ok (.ifCond .eq 7, 3) := by decide +kernel
theorem dX4_isReduced_40 : decode cX4_isReduced 40 = .ok (.iconst 1, 1) := by decide +kernel
theorem dX4_isReduced_41 : decode cX4_isReduced 41 = .ok (.goto 4, 3) := by decide +kernel
theorem dX4_isReduced_44 : decode cX4_isReduced 44 = .ok (.iconst 0, 1) := by decide +kernel
theorem dX4_isReduced_45 : decode cX4_isReduced 45 = .ok (.ireturn, 1) := by decide +kernel
set_option maxRecDepth 20000 in
theorem ggX4_list_X4_isReduced : GoodIn wsX4_list wsX4_isReduced := goodIn_r _ [9, 10, 11, 8, 12] (by decide +kernel) (by decide +kernel)
set_option maxRecDepth 20000 in
theorem gX4_list_X4_isReduced : GoodIn wsX4_list (va_wsS RX4 49 yX4_isReduced wsX4_isReduced) := goodIn_app (goodIn_of _ (by decide +kernel)) ggX4_list_X4_isReduced
set_option maxRecDepth 20000 in
theorem ggX4_list_X4_primitive : GoodIn wsX4_list wsX4_primitive := goodIn_r _ [15, 16, 17, 8, 18, 10, 11, 12] (by decide +kernel) (by decide +kernel)
set_option maxRecDepth 20000 in
theorem gX4_list_X4_primitive : GoodIn wsX4_list (va_wsS RX4 53 yX4_primitive wsX4_primitive) := goodIn_app (goodIn_of _ (by decide +kernel)) ggX4_list_X4_primitive
theorem dX4_list_0 : decode cX4_list 0 = .ok (.iconst 0, 1) := by decide +kernel
theorem dX4_list_1 : decode cX4_list 1 = .ok (.istore_n 2, 1) := by decide +kernel
theorem dX4_list_2 : decode cX4_list 2 = .ok (.iconst 1, 1) := by decide +kernel
theorem dX4_list_3 : decode cX4_list 3 = .ok (.istore_n 3, 1) := by decide +kernel
theorem dX4_list_4 : decode cX4_list 4 = .ok (.iload_n 3, 1) := by decide +kernel
theorem dX4_list_5 : decode cX4_list 5 = .ok (.bipush 27, 2) := by decide +kernel
theorem dX4_list_7 : decode cX4_list 7 = .ok (.if_icmp .ge 153, 3) := by decide +kernel
theorem dX4_list_10 : decode cX4_list 10 = .ok (.iconst 0, 1) := by decide +kernel
theorem dX4_list_11 : decode cX4_list 11 = .ok (.istore 4, 2) := by decide +kernel
theorem dX4_list_13 : decode cX4_list 13 = .ok (.iload 4, 2) := by decide +kernel
theorem dX4_list_15 : decode cX4_list 15 = .ok (.iconst 2, 1) := by decide +kernel
theorem dX4_list_16 : decode cX4_list 16 = .ok (.iload_n 3, 1) := by decide +kernel
theorem dX4_list_17 : decode cX4_list 17 = .ok (.imul, 1) := by decide +kernel
theorem dX4_list_18 : decode cX4_list 18 = .ok (.iconst 1, 1) := by decide +kernel
theorem dX4_list_19 : decode cX4_list 19 = .ok (.iadd, 1) := by decide +kernel
theorem dX4_list_20 : decode cX4_list 20 = .ok (.if_icmp .ge 134, 3) := by decide +kernel
theorem dX4_list_23 : decode cX4_list 23 = .ok (.iload 4, 2) := by decide +kernel
theorem dX4_list_25 : decode cX4_list 25 = .ok (.ifCond .ne 7, 3) := by decide +kernel
theorem dX4_list_28 : decode cX4_list 28 = .ok (.iconst 0, 1) := by decide +kernel
theorem dX4_list_29 : decode cX4_list 29 = .ok (.goto 25, 3) := by decide +kernel
theorem dX4_list_32 : decode cX4_list 32 = .ok (.iload 4, 2) := by decide +kernel
theorem dX4_list_34 : decode cX4_list 34 = .ok (.iconst 2, 1) := by decide +kernel
theorem dX4_list_35 : decode cX4_list 35 = .ok (.irem, 1) := by decide +kernel
theorem dX4_list_36 : decode cX4_list 36 = .ok (.iconst 1, 1) := by decide +kernel
theorem dX4_list_37 : decode cX4_list 37 = .ok (.if_icmp .ne 12, 3) := by decide +kernel
theorem dX4_list_40 : decode cX4_list 40 = .ok (.iload 4, 2) := by decide +kernel
theorem dX4_list_42 : decode cX4_list 42 = .ok (.iconst 1, 1) := by decide +kernel
theorem dX4_list_43 : decode cX4_list 43 = .ok (.iadd, 1) := by decide +kernel
theorem dX4_list_44 : decode cX4_list 44 = .ok (.iconst 2, 1) := by decide +kernel
theorem dX4_list_45 : decode cX4_list 45 = .ok (.idiv, 1) := by decide +kernel
theorem dX4_list_46 : decode cX4_list 46 = .ok (.goto 8, 3) := by decide +kernel
theorem dX4_list_49 : decode cX4_list 49 = .ok (.iload 4, 2) := by decide +kernel
theorem dX4_list_51 : decode cX4_list 51 = .ok (.ineg, 1) := by decide +kernel
theorem dX4_list_52 : decode cX4_list 52 = .ok (.iconst 2, 1) := by decide +kernel
theorem dX4_list_53 : decode cX4_list 53 = .ok (.idiv, 1) := by decide +kernel
theorem dX4_list_54 : decode cX4_list 54 = .ok (.istore 5, 2) := by decide +kernel
theorem dX4_list_56 : decode cX4_list 56 = .ok (.iload 5, 2) := by decide +kernel
theorem dX4_list_58 : decode cX4_list 58 = .ok (.iload 5, 2) := by decide +kernel
theorem dX4_list_60 : decode cX4_list 60 = .ok (.imul, 1) := by decide +kernel
theorem dX4_list_61 : decode cX4_list 61 = .ok (.iload_n 1, 1) := by decide +kernel
theorem dX4_list_62 : decode cX4_list 62 = .ok (.isub, 1) := by decide +kernel
theorem dX4_list_63 : decode cX4_list 63 = .ok (.istore 6, 2) := by decide +kernel
theorem dX4_list_65 : decode cX4_list 65 = .ok (.iload 6, 2) := by decide +kernel
theorem dX4_list_67 : decode cX4_list 67 = .ok (.iconst 4, 1) := by decide +kernel
theorem dX4_list_68 : decode cX4_list 68 = .ok (.iload_n 3, 1) := by decide +kernel
theorem dX4_list_69 : decode cX4_list 69 = .ok (.imul, 1) := by decide +kernel
theorem dX4_list_70 : decode cX4_list 70 = .ok (.idiv, 1) := by decide +kernel
theorem dX4_list_71 : decode cX4_list 71 = .ok (.istore 7, 2) := by decide +kernel
theorem dX4_list_73 : decode cX4_list 73 = .ok (.iload 6, 2) := by decide +kernel
theorem dX4_list_75 : decode cX4_list 75 = .ok (.iconst 4, 1) := by decide +kernel
theorem dX4_list_76 : decode cX4_list 76 = .ok (.iload_n 3, 1) := by decide +kernel
theorem dX4_list_77 : decode cX4_list 77 = .ok (.imul, 1) := by decide +kernel
theorem dX4_list_78 : decode cX4_list 78 = .ok (.irem, 1) := by decide +kernel
theorem dX4_list_79 : decode cX4_list 79 = .ok (.ifCond .ne 69, 3) := by decide +kernel
theorem dX4_list_82 : decode cX4_list 82 = .ok (.iload_n 3, 1) := by decide +kernel
theorem dX4_list_83 : decode cX4_list 83 = .ok (.i2l, 1) := by decide +kernel
theorem dX4_list_84 : decode cX4_list 84 = .ok (.iload 5, 2) := by decide +kernel
theorem dX4_list_86 : decode cX4_list 86 = .ok (.i2l, 1) := by decide +kernel
theorem dX4_list_87 : decode cX4_list 87 = .ok (.iload 7, 2) := by decide +kernel
theorem dX4_list_89 : decode cX4_list 89 = .ok (.i2l, 1) := by decide +kernel
theorem dX4_list_90 : decode cX4_list 90 = .ok (.invokestatic 49, 3) := by decide +kernel
theorem dX4_list_93 : decode cX4_list 93 = .ok (.ifCond .eq 55, 3) := by decide +kernel
theorem dX4_list_96 : decode cX4_list 96 = .ok (.iload_n 3, 1) := by decide +kernel
theorem dX4_list_97 : decode cX4_list 97 = .ok (.i2l, 1) := by decide +kernel
theorem dX4_list_98 : decode cX4_list 98 = .ok (.iload 5, 2) := by decide +kernel
theorem dX4_list_100 : decode cX4_list 100 = .ok (.i2l, 1) := by decide +kernel
theorem dX4_list_101 : decode cX4_list 101 = .ok (.iload 7, 2) := by decide +kernel
theorem dX4_list_103 : decode cX4_list 103 = .ok (.i2l, 1) := by decide +kernel
theorem dX4_list_104 : decode cX4_list 104 = .ok (.invokestatic 53, 3) := by decide +kernel
theorem dX4_list_107 : decode cX4_list 107 = .ok (.ifCond .ne 6, 3) := by decide +kernel
theorem dX4_list_110 : decode cX4_list 110 = .ok (.goto 38, 3) := by decide +kernel
theorem dX4_list_113 : decode cX4_list 113 = .ok (.iload_n 2, 1) := by decide +kernel
theorem dX4_list_114 : decode cX4_list 114 = .ok (.bipush 40, 2) := by decide +kernel
theorem dX4_list_116 : decode cX4_list 116 = .ok (.if_icmp .ge 29, 3) := by decide +kernel
theorem dX4_list_119 : decode cX4_list 119 = .ok (.aload_n 0, 1) := by decide +kernel
theorem dX4_list_120 : decode cX4_list 120 = .ok (.getfield 13, 3) := by decide +kernel
theorem dX4_list_123 : decode cX4_list 123 = .ok (.iload_n 2, 1) := by decide +kernel
theorem dX4_list_124 : decode cX4_list 124 = .ok (.iload_n 3, 1) := by decide +kernel
theorem dX4_list_125 : decode cX4_list 125 = .ok (.i2l, 1) := by decide +kernel
theorem dX4_list_126 : decode cX4_list 126 = .ok (.lastore, 1) := by decide +kernel
theorem dX4_list_127 : decode cX4_list 127 = .ok (.aload_n 0, 1) := by decide +kernel
theorem dX4_list_128 : decode cX4_list 128 = .ok (.getfield 17, 3) := by decide +kernel
theorem dX4_list_131 : decode cX4_list 131 = .ok (.iload_n 2, 1) := by decide +kernel
theorem dX4_list_132 : decode cX4_list 132 = .ok (.iload 5, 2) := by decide +kernel
theorem dX4_list_134 : decode cX4_list 134 = .ok (.i2l, 1) := by decide +kernel
theorem dX4_list_135 : decode cX4_list 135 = .ok (.lastore, 1) := by decide +kernel
theorem dX4_list_136 : decode cX4_list 136 = .ok (.aload_n 0, 1) := by decide +kernel
theorem dX4_list_137 : decode cX4_list 137 = .ok (.getfield 20, 3) := by decide +kernel
theorem dX4_list_140 : decode cX4_list 140 = .ok (.iload_n 2, 1) := by decide +kernel
theorem dX4_list_141 : decode cX4_list 141 = .ok (.iload 7, 2) := by decide +kernel
theorem dX4_list_143 : decode cX4_list 143 = .ok (.i2l, 1) := by decide +kernel
theorem dX4_list_144 : decode cX4_list 144 = .ok (.lastore, 1) := by decide +kernel
theorem dX4_list_145 : decode cX4_list 145 = .ok (.iinc 2 1, 3) := by decide +kernel
theorem dX4_list_148 : decode cX4_list 148 = .ok (.iinc 4 1, 3) := by decide +kernel
theorem dX4_list_151 : decode cX4_list 151 = .ok (.goto (-138), 3) := by decide +kernel
theorem dX4_list_154 : decode cX4_list 154 = .ok (.iinc 3 1, 3) := by decide +kernel
theorem dX4_list_157 : decode cX4_list 157 = .ok (.goto (-153), 3) := by decide +kernel
theorem dX4_list_160 : decode cX4_list 160 = .ok (.aload_n 0, 1) := by decide +kernel
theorem dX4_list_161 : decode cX4_list 161 = .ok (.iload_n 1, 1) := by decide +kernel
theorem dX4_list_162 : decode cX4_list 162 = .ok (.putfield 7, 3) := by decide +kernel
theorem dX4_list_165 : decode cX4_list 165 = .ok (.aload_n 0, 1) := by decide +kernel
theorem dX4_list_166 : decode cX4_list 166 = .ok (.iload_n 2, 1) := by decide +kernel
theorem dX4_list_167 : decode cX4_list 167 = .ok (.putfield 56, 3) := by decide +kernel
theorem dX4_list_170 : decode cX4_list 170 = .ok (.iload_n 2, 1) := by decide +kernel
theorem dX4_list_171 : decode cX4_list 171 = .ok (.ireturn, 1) := by decide +kernel
set_option maxRecDepth 20000 in
theorem ggX4_discriminant_X4_outside : GoodIn wsX4_discriminant wsX4_outside := goodIn_r _ [7] (by decide +kernel) (by decide +kernel)
set_option maxRecDepth 20000 in
theorem gX4_discriminant_X4_outside : GoodIn wsX4_discriminant (va_wsS RX4 59 yX4_outside wsX4_outside) := goodIn_app (goodIn_of _ (by decide +kernel)) ggX4_discriminant_X4_outside
set_option maxRecDepth 20000 in
theorem ggX4_discriminant_X4_refuse : GoodIn wsX4_discriminant wsX4_refuse := goodIn_r _ [11, 2, 31, 32, 33, 34, 35, 36, 37, 38, 39, 40, 41, 42, 43, 44, 45, 46, 47, 48] (by decide +kernel) (by decide +kernel)
set_option maxRecDepth 20000 in
theorem gX4_discriminant_X4_refuse : GoodIn wsX4_discriminant (wsV RX4 63 RX4 yX4_refuse wsX4_refuse) := goodIn_app (goodIn_of _ (by decide +kernel)) ggX4_discriminant_X4_refuse
set_option maxRecDepth 20000 in
theorem ggX4_discriminant_X4_list : GoodIn wsX4_discriminant wsX4_list := goodIn_r _ [15, 16, 17, 18, 1, 3, 19, 20, 6, 21, 22, 23, 24, 25, 26, 27, 28, 29, 30, 31, 32, 33, 34, 35, 36, 37, 38, 39, 40, 41, 42, 43, 44, 45, 46, 47, 48] (by decide +kernel) (by decide +kernel)
set_option maxRecDepth 20000 in
theorem gX4_discriminant_X4_list : GoodIn wsX4_discriminant (wsV RX4 34 RX4 yX4_list wsX4_list) := goodIn_app (goodIn_of _ (by decide +kernel)) ggX4_discriminant_X4_list
theorem dX4_discriminant_0 : decode cX4_discriminant 0 = .ok (.iload_n 1, 1) := by decide +kernel
theorem dX4_discriminant_1 : decode cX4_discriminant 1 = .ok (.sipush (-2000), 3) := by decide +kernel
theorem dX4_discriminant_4 : decode cX4_discriminant 4 = .ok (.bipush (-3), 2) := by decide +kernel
theorem dX4_discriminant_6 : decode cX4_discriminant 6 = .ok (.invokestatic 59, 3) := by decide +kernel
theorem dX4_discriminant_9 : decode cX4_discriminant 9 = .ok (.ifCond .ne 14, 3) := by decide +kernel
theorem dX4_discriminant_12 : decode cX4_discriminant 12 = .ok (.iload_n 1, 1) := by decide +kernel
theorem dX4_discriminant_13 : decode cX4_discriminant 13 = .ok (.iconst 4, 1) := by decide +kernel
theorem dX4_discriminant_14 : decode cX4_discriminant 14 = .ok (.irem, 1) := by decide +kernel
theorem dX4_discriminant_15 : decode cX4_discriminant 15 = .ok (.iconst 4, 1) := by decide +kernel
theorem dX4_discriminant_16 : decode cX4_discriminant 16 = .ok (.iadd, 1) := by decide +kernel
theorem dX4_discriminant_17 : decode cX4_discriminant 17 = .ok (.iconst 4, 1) := by decide +kernel
theorem dX4_discriminant_18 : decode cX4_discriminant 18 = .ok (.irem, 1) := by decide +kernel
theorem dX4_discriminant_19 : decode cX4_discriminant 19 = .ok (.iconst 1, 1) := by decide +kernel
theorem dX4_discriminant_20 : decode cX4_discriminant 20 = .ok (.if_icmp .le 9, 3) := by decide +kernel
theorem dX4_discriminant_23 : decode cX4_discriminant 23 = .ok (.aload_n 0, 1) := by decide +kernel
theorem dX4_discriminant_24 : decode cX4_discriminant 24 = .ok (.iconst 1, 1) := by decide +kernel
theorem dX4_discriminant_25 : decode cX4_discriminant 25 = .ok (.invokevirtual 63, 3) := by decide +kernel
theorem dX4_discriminant_28 : decode cX4_discriminant 28 = .ok (.ireturn, 1) := by decide +kernel
theorem dX4_discriminant_29 : decode cX4_discriminant 29 = .ok (.aload_n 0, 1) := by decide +kernel
theorem dX4_discriminant_30 : decode cX4_discriminant 30 = .ok (.getfield 7, 3) := by decide +kernel
theorem dX4_discriminant_33 : decode cX4_discriminant 33 = .ok (.istore_n 2, 1) := by decide +kernel
theorem dX4_discriminant_34 : decode cX4_discriminant 34 = .ok (.aload_n 0, 1) := by decide +kernel
theorem dX4_discriminant_35 : decode cX4_discriminant 35 = .ok (.iconst 0, 1) := by decide +kernel
theorem dX4_discriminant_36 : decode cX4_discriminant 36 = .ok (.putfield 38, 3) := by decide +kernel
theorem dX4_discriminant_39 : decode cX4_discriminant 39 = .ok (.aload_n 0, 1) := by decide +kernel
theorem dX4_discriminant_40 : decode cX4_discriminant 40 = .ok (.iload_n 1, 1) := by decide +kernel
theorem dX4_discriminant_41 : decode cX4_discriminant 41 = .ok (.invokevirtual 34, 3) := by decide +kernel
theorem dX4_discriminant_44 : decode cX4_discriminant 44 = .ok (.bipush 40, 2) := by decide +kernel
theorem dX4_discriminant_46 : decode cX4_discriminant 46 = .ok (.if_icmp .gt 8, 3) := by decide +kernel
theorem dX4_discriminant_49 : decode cX4_discriminant 49 = .ok (.aload_n 0, 1) := by decide +kernel
theorem dX4_discriminant_50 : decode cX4_discriminant 50 = .ok (.getfield 56, 3) := by decide +kernel
theorem dX4_discriminant_53 : decode cX4_discriminant 53 = .ok (.ireturn, 1) := by decide +kernel
theorem dX4_discriminant_54 : decode cX4_discriminant 54 = .ok (.aload_n 0, 1) := by decide +kernel
theorem dX4_discriminant_55 : decode cX4_discriminant 55 = .ok (.iload_n 2, 1) := by decide +kernel
theorem dX4_discriminant_56 : decode cX4_discriminant 56 = .ok (.invokevirtual 34, 3) := by decide +kernel
theorem dX4_discriminant_59 : decode cX4_discriminant 59 = .ok (.pop, 1) := by decide +kernel
theorem dX4_discriminant_60 : decode cX4_discriminant 60 = .ok (.aload_n 0, 1) := by decide +kernel
theorem dX4_discriminant_61 : decode cX4_discriminant 61 = .ok (.iconst 2, 1) := by decide +kernel
theorem dX4_discriminant_62 : decode cX4_discriminant 62 = .ok (.invokevirtual 63, 3) := by decide +kernel
theorem dX4_discriminant_65 : decode cX4_discriminant 65 = .ok (.ireturn, 1) := by decide +kernel
set_option maxRecDepth 20000 in
theorem ggX4_isClass_X4_outside : GoodIn wsX4_isClass wsX4_outside := goodIn_r _ [5] (by decide +kernel) (by decide +kernel)
set_option maxRecDepth 20000 in
theorem gX4_isClass_X4_outside : GoodIn wsX4_isClass (va_wsS RX4 59 yX4_outside wsX4_outside) := goodIn_app (goodIn_of _ (by decide +kernel)) ggX4_isClass_X4_outside
theorem dX4_isClass_0 : decode cX4_isClass 0 = .ok (.iload_n 1, 1) := by decide +kernel
theorem dX4_isClass_1 : decode cX4_isClass 1 = .ok (.iconst 0, 1) := by decide +kernel
theorem dX4_isClass_2 : decode cX4_isClass 2 = .ok (.aload_n 0, 1) := by decide +kernel
theorem dX4_isClass_3 : decode cX4_isClass 3 = .ok (.getfield 56, 3) := by decide +kernel
theorem dX4_isClass_6 : decode cX4_isClass 6 = .ok (.iconst 1, 1) := by decide +kernel
theorem dX4_isClass_7 : decode cX4_isClass 7 = .ok (.isub, 1) := by decide +kernel
theorem dX4_isClass_8 : decode cX4_isClass 8 = .ok (.invokestatic 59, 3) := by decide +kernel
theorem dX4_isClass_11 : decode cX4_isClass 11 = .ok (.ifCond .ne 7, 3) := by decide +kernel
theorem dX4_isClass_14 : decode cX4_isClass 14 = .ok (.iconst 1, 1) := by decide +kernel
theorem dX4_isClass_15 : decode cX4_isClass 15 = .ok (.goto 4, 3) := by decide +kernel
theorem dX4_isClass_18 : decode cX4_isClass 18 = .ok (.iconst 0, 1) := by decide +kernel
theorem dX4_isClass_19 : decode cX4_isClass 19 = .ok (.ireturn, 1) := by decide +kernel
set_option maxRecDepth 20000 in
theorem ggX4_form_X4_isClass : GoodIn wsX4_form wsX4_isClass := goodIn_r _ [9, 10, 11, 12, 8, 13, 18, 19, 20, 21, 22, 23, 24, 25, 26, 27, 28, 29, 30, 31, 32, 33, 34, 35] (by decide +kernel) (by decide +kernel)
set_option maxRecDepth 20000 in
theorem gX4_form_X4_isClass : GoodIn wsX4_form (wsV RX4 66 RX4 yX4_isClass wsX4_isClass) := goodIn_app (goodIn_of _ (by decide +kernel)) ggX4_form_X4_isClass
set_option maxRecDepth 20000 in
theorem ggX4_form_X4_outside : GoodIn wsX4_form wsX4_outside := goodIn_r _ [13] (by decide +kernel) (by decide +kernel)
set_option maxRecDepth 20000 in
theorem gX4_form_X4_outside : GoodIn wsX4_form (va_wsS RX4 59 yX4_outside wsX4_outside) := goodIn_app (goodIn_of _ (by decide +kernel)) ggX4_form_X4_outside
set_option maxRecDepth 20000 in
theorem ggX4_form_X4_refuse : GoodIn wsX4_form wsX4_refuse := goodIn_r _ [17, 1, 18, 19, 20, 21, 22, 23, 24, 25, 26, 27, 28, 29, 30, 31, 32, 33, 34, 35] (by decide +kernel) (by decide +kernel)
set_option maxRecDepth 20000 in
theorem gX4_form_X4_refuse : GoodIn wsX4_form (wsV RX4 63 RX4 yX4_refuse wsX4_refuse) := goodIn_app (goodIn_of _ (by decide +kernel)) ggX4_form_X4_refuse
theorem dX4_form_0 : decode cX4_form 0 = .ok (.aload_n 0, 1) := by decide +kernel
theorem dX4_form_1 : decode cX4_form 1 = .ok (.iload_n 1, 1) := by decide +kernel
theorem dX4_form_2 : decode cX4_form 2 = .ok (.invokevirtual 66, 3) := by decide +kernel
theorem dX4_form_5 : decode cX4_form 5 = .ok (.ifCond .eq 12, 3) := by decide +kernel
theorem dX4_form_8 : decode cX4_form 8 = .ok (.iload_n 2, 1) := by decide +kernel
theorem dX4_form_9 : decode cX4_form 9 = .ok (.iconst 0, 1) := by decide +kernel
theorem dX4_form_10 : decode cX4_form 10 = .ok (.iconst 2, 1) := by decide +kernel
theorem dX4_form_11 : decode cX4_form 11 = .ok (.invokestatic 59, 3) := by decide +kernel
theorem dX4_form_14 : decode cX4_form 14 = .ok (.ifCond .eq 9, 3) := by decide +kernel
theorem dX4_form_17 : decode cX4_form 17 = .ok (.aload_n 0, 1) := by decide +kernel
theorem dX4_form_18 : decode cX4_form 18 = .ok (.iconst 1, 1) := by decide +kernel
theorem dX4_form_19 : decode cX4_form 19 = .ok (.invokevirtual 63, 3) := by decide +kernel
theorem dX4_form_22 : decode cX4_form 22 = .ok (.ireturn, 1) := by decide +kernel
theorem dX4_form_23 : decode cX4_form 23 = .ok (.aload_n 0, 1) := by decide +kernel
theorem dX4_form_24 : decode cX4_form 24 = .ok (.iconst 0, 1) := by decide +kernel
theorem dX4_form_25 : decode cX4_form 25 = .ok (.putfield 38, 3) := by decide +kernel
theorem dX4_form_28 : decode cX4_form 28 = .ok (.iload_n 2, 1) := by decide +kernel
