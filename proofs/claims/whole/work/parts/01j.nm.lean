theorem dJ9_floorDiv_7cf53_10 : decode cJ9_floorDiv_7cf53 10 = .ok (.iload_n 2, 1) := by decide +kernel
theorem dJ9_floorDiv_7cf53_11 : decode cJ9_floorDiv_7cf53 11 = .ok (.iload_n 1, 1) := by decide +kernel
theorem dJ9_floorDiv_7cf53_12 : decode cJ9_floorDiv_7cf53 12 = .ok (.imul, 1) := by decide +kernel
theorem dJ9_floorDiv_7cf53_13 : decode cJ9_floorDiv_7cf53 13 = .ok (.iload_n 0, 1) := by decide +kernel
theorem dJ9_floorDiv_7cf53_14 : decode cJ9_floorDiv_7cf53 14 = .ok (.if_icmp .eq 7, 3) := by decide +kernel
theorem dJ9_floorDiv_7cf53_17 : decode cJ9_floorDiv_7cf53 17 = .ok (.iload_n 2, 1) := by decide +kernel
theorem dJ9_floorDiv_7cf53_18 : decode cJ9_floorDiv_7cf53 18 = .ok (.iconst 1, 1) := by decide +kernel
theorem dJ9_floorDiv_7cf53_19 : decode cJ9_floorDiv_7cf53 19 = .ok (.isub, 1) := by decide +kernel
theorem dJ9_floorDiv_7cf53_20 : decode cJ9_floorDiv_7cf53 20 = .ok (.ireturn, 1) := by decide +kernel
theorem dJ9_floorDiv_7cf53_21 : decode cJ9_floorDiv_7cf53 21 = .ok (.iload_n 2, 1) := by decide +kernel
theorem dJ9_floorDiv_7cf53_22 : decode cJ9_floorDiv_7cf53 22 = .ok (.ireturn, 1) := by decide +kernel
theorem dJ9_floorMod_7cf53_0 : decode cJ9_floorMod_7cf53 0 = .ok (.iload_n 0, 1) := by decide +kernel
theorem dJ9_floorMod_7cf53_1 : decode cJ9_floorMod_7cf53 1 = .ok (.iload_n 1, 1) := by decide +kernel
theorem dJ9_floorMod_7cf53_2 : decode cJ9_floorMod_7cf53 2 = .ok (.irem, 1) := by decide +kernel
theorem dJ9_floorMod_7cf53_3 : decode cJ9_floorMod_7cf53 3 = .ok (.istore_n 2, 1) := by decide +kernel
theorem dJ9_floorMod_7cf53_4 : decode cJ9_floorMod_7cf53 4 = .ok (.iload_n 0, 1) := by decide +kernel
theorem dJ9_floorMod_7cf53_5 : decode cJ9_floorMod_7cf53 5 = .ok (.iload_n 1, 1) := by decide +kernel
theorem dJ9_floorMod_7cf53_6 : decode cJ9_floorMod_7cf53 6 = .ok (.ixor, 1) := by decide +kernel
theorem dJ9_floorMod_7cf53_7 : decode cJ9_floorMod_7cf53 7 = .ok (.ifCond .ge 11, 3) := by decide +kernel
theorem dJ9_floorMod_7cf53_10 : decode cJ9_floorMod_7cf53 10 = .ok (.iload_n 2, 1) := by decide +kernel
theorem dJ9_floorMod_7cf53_11 : decode cJ9_floorMod_7cf53 11 = .ok (.ifCond .eq 7, 3) := by decide +kernel
theorem dJ9_floorMod_7cf53_14 : decode cJ9_floorMod_7cf53 14 = .ok (.iload_n 2, 1) := by decide +kernel
theorem dJ9_floorMod_7cf53_15 : decode cJ9_floorMod_7cf53 15 = .ok (.iload_n 1, 1) := by decide +kernel
theorem dJ9_floorMod_7cf53_16 : decode cJ9_floorMod_7cf53 16 = .ok (.iadd, 1) := by decide +kernel
theorem dJ9_floorMod_7cf53_17 : decode cJ9_floorMod_7cf53 17 = .ok (.ireturn, 1) := by decide +kernel
theorem dJ9_floorMod_7cf53_18 : decode cJ9_floorMod_7cf53 18 = .ok (.iload_n 2, 1) := by decide +kernel
theorem dJ9_floorMod_7cf53_19 : decode cJ9_floorMod_7cf53 19 = .ok (.ireturn, 1) := by decide +kernel
theorem dJ9_abs_0f7a4_0 : decode cJ9_abs_0f7a4 0 = .ok (.iload_n 0, 1) := by decide +kernel
theorem dJ9_abs_0f7a4_1 : decode cJ9_abs_0f7a4 1 = .ok (.ifCond .ge 8, 3) := by decide +kernel
theorem dJ9_abs_0f7a4_4 : decode cJ9_abs_0f7a4 4 = .ok (.iload_n 0, 1) := by decide +kernel
theorem dJ9_abs_0f7a4_5 : decode cJ9_abs_0f7a4 5 = .ok (.ineg, 1) := by decide +kernel
theorem dJ9_abs_0f7a4_6 : decode cJ9_abs_0f7a4 6 = .ok (.goto 4, 3) := by decide +kernel
theorem dJ9_abs_0f7a4_9 : decode cJ9_abs_0f7a4 9 = .ok (.iload_n 0, 1) := by decide +kernel
theorem dJ9_abs_0f7a4_10 : decode cJ9_abs_0f7a4 10 = .ok (.ireturn, 1) := by decide +kernel
theorem dJ9_min_7cf53_0 : decode cJ9_min_7cf53 0 = .ok (.iload_n 0, 1) := by decide +kernel
theorem dJ9_min_7cf53_1 : decode cJ9_min_7cf53 1 = .ok (.iload_n 1, 1) := by decide +kernel
theorem dJ9_min_7cf53_2 : decode cJ9_min_7cf53 2 = .ok (.if_icmp .gt 7, 3) := by decide +kernel
theorem dJ9_min_7cf53_5 : decode cJ9_min_7cf53 5 = .ok (.iload_n 0, 1) := by decide +kernel
theorem dJ9_min_7cf53_6 : decode cJ9_min_7cf53 6 = .ok (.goto 4, 3) := by decide +kernel
theorem dJ9_min_7cf53_9 : decode cJ9_min_7cf53 9 = .ok (.iload_n 1, 1) := by decide +kernel
theorem dJ9_min_7cf53_10 : decode cJ9_min_7cf53 10 = .ok (.ireturn, 1) := by decide +kernel
set_option maxRecDepth 20000 in
theorem ggL_discriminant_X3_discriminant : GoodIn wsL_discriminant wsX3_discriminant := goodIn_ca (goodIn_ca (goodIn_r _ [7, 8, 9, 10, 11, 12, 13, 14, 15, 6, 16, 17, 18, 19, 20, 21, 22, 23, 24, 25, 26, 27, 28, 29, 30, 31, 32, 33, 34, 35, 36, 37, 38, 39, 40, 41, 42, 43, 44, 45, 46, 47, 48, 49, 50, 51, 52, 53, 54, 55, 56, 57, 58, 59, 60] (by decide +kernel) (by decide +kernel)) (goodIn_sub (fun _ h => List.mem_cons_of_mem _ (List.mem_append_left _ (List.mem_append_right _ h))) (by decide +kernel))) (goodIn_sub (fun _ h => List.mem_cons_of_mem _ (List.mem_append_right _ h)) (by decide +kernel))
set_option maxRecDepth 20000 in
theorem gL_discriminant_X3_discriminant : GoodIn wsL_discriminant (wsV RL 7 RX3 yX3_discriminant wsX3_discriminant) := goodIn_app (goodIn_of _ (by decide +kernel)) ggL_discriminant_X3_discriminant
theorem dL_discriminant_0 : decode cL_discriminant 0 = .ok (.aload_n 2, 1) := by decide +kernel
theorem dL_discriminant_1 : decode cL_discriminant 1 = .ok (.iconst 0, 1) := by decide +kernel
theorem dL_discriminant_2 : decode cL_discriminant 2 = .ok (.aload_n 0, 1) := by decide +kernel
theorem dL_discriminant_3 : decode cL_discriminant 3 = .ok (.iload_n 1, 1) := by decide +kernel
theorem dL_discriminant_4 : decode cL_discriminant 4 = .ok (.invokevirtual 7, 3) := by decide +kernel
theorem dL_discriminant_7 : decode cL_discriminant 7 = .ok (.i2l, 1) := by decide +kernel
theorem dL_discriminant_8 : decode cL_discriminant 8 = .ok (.lastore, 1) := by decide +kernel
theorem dL_discriminant_9 : decode cL_discriminant 9 = .ok (.goto 9, 3) := by decide +kernel
theorem dL_discriminant_12 : decode cL_discriminant 12 = .ok (.astore_n 3, 1) := by decide +kernel
theorem dL_discriminant_13 : decode cL_discriminant 13 = .ok (.iconst 1, 1) := by decide +kernel
theorem dL_discriminant_14 : decode cL_discriminant 14 = .ok (.ireturn, 1) := by decide +kernel
theorem dL_discriminant_15 : decode cL_discriminant 15 = .ok (.astore_n 3, 1) := by decide +kernel
theorem dL_discriminant_16 : decode cL_discriminant 16 = .ok (.iconst 2, 1) := by decide +kernel
theorem dL_discriminant_17 : decode cL_discriminant 17 = .ok (.ireturn, 1) := by decide +kernel
theorem dL_discriminant_18 : decode cL_discriminant 18 = .ok (.iconst 0, 1) := by decide +kernel
theorem dL_discriminant_19 : decode cL_discriminant 19 = .ok (.ireturn, 1) := by decide +kernel
set_option maxRecDepth 20000 in
theorem ggL_form_X3_form : GoodIn wsL_form wsX3_form := goodIn_ca (goodIn_r _ [6, 7, 8, 9, 10, 11, 12, 13, 14, 15, 16, 17, 18, 19, 20, 21, 22, 23, 24, 25, 26] (by decide +kernel) (by decide +kernel)) (goodIn_sub (fun _ h => List.mem_cons_of_mem _ (List.mem_append_right _ h)) (by decide +kernel))
set_option maxRecDepth 20000 in
theorem gL_form_X3_form : GoodIn wsL_form (wsV RL 17 RX3 yX3_form wsX3_form) := goodIn_app (goodIn_of _ (by decide +kernel)) ggL_form_X3_form
theorem dL_form_0 : decode cL_form 0 = .ok (.aload_n 3, 1) := by decide +kernel
theorem dL_form_1 : decode cL_form 1 = .ok (.iconst 0, 1) := by decide +kernel
theorem dL_form_2 : decode cL_form 2 = .ok (.aload_n 0, 1) := by decide +kernel
theorem dL_form_3 : decode cL_form 3 = .ok (.iload_n 1, 1) := by decide +kernel
theorem dL_form_4 : decode cL_form 4 = .ok (.iload_n 2, 1) := by decide +kernel
theorem dL_form_5 : decode cL_form 5 = .ok (.invokevirtual 17, 3) := by decide +kernel
theorem dL_form_8 : decode cL_form 8 = .ok (.i2l, 1) := by decide +kernel
theorem dL_form_9 : decode cL_form 9 = .ok (.lastore, 1) := by decide +kernel
theorem dL_form_10 : decode cL_form 10 = .ok (.goto 7, 3) := by decide +kernel
theorem dL_form_13 : decode cL_form 13 = .ok (.astore 4, 2) := by decide +kernel
theorem dL_form_15 : decode cL_form 15 = .ok (.iconst 1, 1) := by decide +kernel
theorem dL_form_16 : decode cL_form 16 = .ok (.ireturn, 1) := by decide +kernel
theorem dL_form_17 : decode cL_form 17 = .ok (.iconst 0, 1) := by decide +kernel
theorem dL_form_18 : decode cL_form 18 = .ok (.ireturn, 1) := by decide +kernel
set_option maxRecDepth 20000 in
theorem ggL_reduce_X3_reduce : GoodIn wsL_reduce wsX3_reduce := goodIn_ca (goodIn_r _ [6, 7, 8, 9, 10, 11, 12, 5, 13, 14, 15, 16, 17, 18, 19, 20, 21, 22, 23, 24, 25, 26, 27, 28, 29, 30, 31, 32, 33, 34, 35, 36, 37, 38, 39, 40, 41, 42, 43, 44, 45, 46, 47, 48, 49, 50, 51, 52, 53, 54, 55, 56, 57, 58, 59, 60, 61, 62, 63, 64, 65, 66, 67, 68, 69, 70, 71, 72, 73, 74, 75, 76, 77] (by decide +kernel) (by decide +kernel)) (goodIn_sub (fun _ h => List.mem_cons_of_mem _ (List.mem_append_right _ h)) (by decide +kernel))
set_option maxRecDepth 20000 in
theorem gL_reduce_X3_reduce : GoodIn wsL_reduce (wsV RL 23 RX3 yX3_reduce wsX3_reduce) := goodIn_app (goodIn_of _ (by decide +kernel)) ggL_reduce_X3_reduce
theorem dL_reduce_0 : decode cL_reduce 0 = .ok (.aload 4, 2) := by decide +kernel
theorem dL_reduce_2 : decode cL_reduce 2 = .ok (.iconst 0, 1) := by decide +kernel
theorem dL_reduce_3 : decode cL_reduce 3 = .ok (.aload_n 0, 1) := by decide +kernel
theorem dL_reduce_4 : decode cL_reduce 4 = .ok (.iload_n 1, 1) := by decide +kernel
theorem dL_reduce_5 : decode cL_reduce 5 = .ok (.iload_n 2, 1) := by decide +kernel
theorem dL_reduce_6 : decode cL_reduce 6 = .ok (.iload_n 3, 1) := by decide +kernel
theorem dL_reduce_7 : decode cL_reduce 7 = .ok (.invokevirtual 23, 3) := by decide +kernel
theorem dL_reduce_10 : decode cL_reduce 10 = .ok (.i2l, 1) := by decide +kernel
theorem dL_reduce_11 : decode cL_reduce 11 = .ok (.lastore, 1) := by decide +kernel
theorem dL_reduce_12 : decode cL_reduce 12 = .ok (.goto 7, 3) := by decide +kernel
theorem dL_reduce_15 : decode cL_reduce 15 = .ok (.astore 5, 2) := by decide +kernel
theorem dL_reduce_17 : decode cL_reduce 17 = .ok (.iconst 1, 1) := by decide +kernel
theorem dL_reduce_18 : decode cL_reduce 18 = .ok (.ireturn, 1) := by decide +kernel
theorem dL_reduce_19 : decode cL_reduce 19 = .ok (.iconst 0, 1) := by decide +kernel
theorem dL_reduce_20 : decode cL_reduce 20 = .ok (.ireturn, 1) := by decide +kernel
set_option maxRecDepth 20000 in
theorem ggL_reduced_X3_reduced : GoodIn wsL_reduced wsX3_reduced := goodIn_ca (goodIn_r _ [6, 7, 8, 9, 10, 11, 12, 13, 5, 14, 15, 16, 17, 18, 19, 20, 21, 22, 23, 24, 25, 26, 27, 28, 29, 30, 31, 32, 33, 34, 35, 36, 37, 38, 39, 40, 41, 42, 43, 44, 45, 46, 47, 48, 49, 50, 51, 52, 53, 54, 55] (by decide +kernel) (by decide +kernel)) (goodIn_sub (fun _ h => List.mem_cons_of_mem _ (List.mem_append_right _ h)) (by decide +kernel))
set_option maxRecDepth 20000 in
theorem gL_reduced_X3_reduced : GoodIn wsL_reduced (wsV RL 27 RX3 yX3_reduced wsX3_reduced) := goodIn_app (goodIn_of _ (by decide +kernel)) ggL_reduced_X3_reduced
theorem dL_reduced_0 : decode cL_reduced 0 = .ok (.aload_n 2, 1) := by decide +kernel
theorem dL_reduced_1 : decode cL_reduced 1 = .ok (.iconst 0, 1) := by decide +kernel
theorem dL_reduced_2 : decode cL_reduced 2 = .ok (.aload_n 0, 1) := by decide +kernel
theorem dL_reduced_3 : decode cL_reduced 3 = .ok (.iload_n 1, 1) := by decide +kernel
theorem dL_reduced_4 : decode cL_reduced 4 = .ok (.invokevirtual 27, 3) := by decide +kernel
theorem dL_reduced_7 : decode cL_reduced 7 = .ok (.i2l, 1) := by decide +kernel
theorem dL_reduced_8 : decode cL_reduced 8 = .ok (.lastore, 1) := by decide +kernel
theorem dL_reduced_9 : decode cL_reduced 9 = .ok (.goto 6, 3) := by decide +kernel
theorem dL_reduced_12 : decode cL_reduced 12 = .ok (.astore_n 3, 1) := by decide +kernel
theorem dL_reduced_13 : decode cL_reduced 13 = .ok (.iconst 1, 1) := by decide +kernel
theorem dL_reduced_14 : decode cL_reduced 14 = .ok (.ireturn, 1) := by decide +kernel
theorem dL_reduced_15 : decode cL_reduced 15 = .ok (.iconst 0, 1) := by decide +kernel
theorem dL_reduced_16 : decode cL_reduced 16 = .ok (.ireturn, 1) := by decide +kernel
set_option maxRecDepth 20000 in
theorem ggL_compose_X3_compose : GoodIn wsL_compose wsX3_compose := goodIn_ca (goodIn_r _ [6, 7, 8, 9, 10, 11, 12, 13, 14, 15, 16, 17, 18, 19, 20, 21, 22, 23, 24, 25, 5, 26, 27, 28, 29, 30, 31, 32, 33, 34, 35, 36, 37, 38, 39, 40, 41, 42, 43, 44, 45, 46, 47, 48, 49, 50, 51, 52, 53, 54, 55, 56, 57, 58, 59, 60, 61, 62, 63, 64, 65, 66, 67, 68, 69, 70, 71, 72, 73, 74, 75, 76, 77, 78, 79, 80, 81, 82, 83, 84, 85, 86, 87, 88, 89, 90, 91, 92, 93, 94, 95, 96, 97] (by decide +kernel) (by decide +kernel)) (goodIn_sub (fun _ h => List.mem_cons_of_mem _ (List.mem_append_right _ h)) (by decide +kernel))
set_option maxRecDepth 20000 in
theorem gL_compose_X3_compose : GoodIn wsL_compose (wsV RL 30 RX3 yX3_compose wsX3_compose) := goodIn_app (goodIn_of _ (by decide +kernel)) ggL_compose_X3_compose
theorem dL_compose_0 : decode cL_compose 0 = .ok (.aload_n 3, 1) := by decide +kernel
theorem dL_compose_1 : decode cL_compose 1 = .ok (.iconst 0, 1) := by decide +kernel
theorem dL_compose_2 : decode cL_compose 2 = .ok (.aload_n 0, 1) := by decide +kernel
theorem dL_compose_3 : decode cL_compose 3 = .ok (.iload_n 1, 1) := by decide +kernel
theorem dL_compose_4 : decode cL_compose 4 = .ok (.iload_n 2, 1) := by decide +kernel
theorem dL_compose_5 : decode cL_compose 5 = .ok (.invokevirtual 30, 3) := by decide +kernel
theorem dL_compose_8 : decode cL_compose 8 = .ok (.i2l, 1) := by decide +kernel
theorem dL_compose_9 : decode cL_compose 9 = .ok (.lastore, 1) := by decide +kernel
theorem dL_compose_10 : decode cL_compose 10 = .ok (.goto 7, 3) := by decide +kernel
theorem dL_compose_13 : decode cL_compose 13 = .ok (.astore 4, 2) := by decide +kernel
theorem dL_compose_15 : decode cL_compose 15 = .ok (.iconst 1, 1) := by decide +kernel
theorem dL_compose_16 : decode cL_compose 16 = .ok (.ireturn, 1) := by decide +kernel
theorem dL_compose_17 : decode cL_compose 17 = .ok (.iconst 0, 1) := by decide +kernel
theorem dL_compose_18 : decode cL_compose 18 = .ok (.ireturn, 1) := by decide +kernel
set_option maxRecDepth 20000 in
theorem ggL_inverse_X3_inverse : GoodIn wsL_inverse wsX3_inverse := goodIn_ca (goodIn_r _ [6, 7, 8, 9, 10, 11, 12, 13, 14, 15, 16, 17, 18, 19, 20, 21, 22, 23, 24, 25, 26, 27, 28, 29, 30, 31, 32, 33, 34, 35, 36, 37] (by decide +kernel) (by decide +kernel)) (goodIn_sub (fun _ h => List.mem_cons_of_mem _ (List.mem_append_right _ h)) (by decide +kernel))
set_option maxRecDepth 20000 in
theorem gL_inverse_X3_inverse : GoodIn wsL_inverse (wsV RL 33 RX3 yX3_inverse wsX3_inverse) := goodIn_app (goodIn_of _ (by decide +kernel)) ggL_inverse_X3_inverse
theorem dL_inverse_0 : decode cL_inverse 0 = .ok (.aload_n 2, 1) := by decide +kernel
theorem dL_inverse_1 : decode cL_inverse 1 = .ok (.iconst 0, 1) := by decide +kernel
theorem dL_inverse_2 : decode cL_inverse 2 = .ok (.aload_n 0, 1) := by decide +kernel
theorem dL_inverse_3 : decode cL_inverse 3 = .ok (.iload_n 1, 1) := by decide +kernel
theorem dL_inverse_4 : decode cL_inverse 4 = .ok (.invokevirtual 33, 3) := by decide +kernel
theorem dL_inverse_7 : decode cL_inverse 7 = .ok (.i2l, 1) := by decide +kernel
theorem dL_inverse_8 : decode cL_inverse 8 = .ok (.lastore, 1) := by decide +kernel
theorem dL_inverse_9 : decode cL_inverse 9 = .ok (.goto 6, 3) := by decide +kernel
theorem dL_inverse_12 : decode cL_inverse 12 = .ok (.astore_n 3, 1) := by decide +kernel
theorem dL_inverse_13 : decode cL_inverse 13 = .ok (.iconst 1, 1) := by decide +kernel
theorem dL_inverse_14 : decode cL_inverse 14 = .ok (.ireturn, 1) := by decide +kernel
theorem dL_inverse_15 : decode cL_inverse 15 = .ok (.iconst 0, 1) := by decide +kernel
theorem dL_inverse_16 : decode cL_inverse 16 = .ok (.ireturn, 1) := by decide +kernel
set_option maxRecDepth 20000 in
theorem ggL_power_X3_power : GoodIn wsL_power wsX3_power := goodIn_ca (goodIn_r _ [6, 7, 8, 9, 10, 11, 12, 13, 14, 15, 16, 17, 18, 19, 20, 21, 22, 23, 24, 25, 26, 27, 28, 29, 30, 31, 32, 33, 5, 34, 35, 36, 37, 38, 39, 40, 41, 42, 43, 44, 45, 46, 47, 48, 49, 50, 51, 52, 53, 54, 55, 56, 57, 58, 59, 60, 61, 62, 63, 64, 65, 66, 67, 68, 69, 70, 71, 72, 73, 74, 75, 76, 77, 78, 79, 80, 81, 82, 83, 84, 85, 86, 87, 88, 89, 90, 91, 92, 93, 94, 95, 96, 97, 98, 99, 100, 101, 102, 103, 104] (by decide +kernel) (by decide +kernel)) (goodIn_sub (fun _ h => List.mem_cons_of_mem _ (List.mem_append_right _ h)) (by decide +kernel))
set_option maxRecDepth 20000 in
theorem gL_power_X3_power : GoodIn wsL_power (wsV RL 36 RX3 yX3_power wsX3_power) := goodIn_app (goodIn_of _ (by decide +kernel)) ggL_power_X3_power
theorem dL_power_0 : decode cL_power 0 = .ok (.aload_n 3, 1) := by decide +kernel
theorem dL_power_1 : decode cL_power 1 = .ok (.iconst 0, 1) := by decide +kernel
theorem dL_power_2 : decode cL_power 2 = .ok (.aload_n 0, 1) := by decide +kernel
theorem dL_power_3 : decode cL_power 3 = .ok (.iload_n 1, 1) := by decide +kernel
theorem dL_power_4 : decode cL_power 4 = .ok (.iload_n 2, 1) := by decide +kernel
theorem dL_power_5 : decode cL_power 5 = .ok (.invokevirtual 36, 3) := by decide +kernel
theorem dL_power_8 : decode cL_power 8 = .ok (.i2l, 1) := by decide +kernel
theorem dL_power_9 : decode cL_power 9 = .ok (.lastore, 1) := by decide +kernel
theorem dL_power_10 : decode cL_power 10 = .ok (.goto 7, 3) := by decide +kernel
theorem dL_power_13 : decode cL_power 13 = .ok (.astore 4, 2) := by decide +kernel
theorem dL_power_15 : decode cL_power 15 = .ok (.iconst 1, 1) := by decide +kernel
theorem dL_power_16 : decode cL_power 16 = .ok (.ireturn, 1) := by decide +kernel
theorem dL_power_17 : decode cL_power 17 = .ok (.iconst 0, 1) := by decide +kernel
theorem dL_power_18 : decode cL_power 18 = .ok (.ireturn, 1) := by decide +kernel
set_option maxRecDepth 20000 in
theorem ggL_order_X3_order : GoodIn wsL_order wsX3_order := goodIn_ca (goodIn_r _ [6, 7, 8, 9, 10, 11, 12, 13, 14, 15, 16, 17, 18, 19, 20, 21, 22, 23, 24, 25, 26, 27, 28, 29, 5, 30, 31, 32, 33, 34, 35, 36, 37, 38, 39, 40, 41, 42, 43, 44, 45, 46, 47, 48, 49, 50, 51, 52, 53, 54, 55, 56, 57, 58, 59, 60, 61, 62, 63, 64, 65, 66, 67, 68, 69, 70, 71, 72, 73, 74, 75, 76, 77, 78, 79, 80, 81, 82, 83, 84, 85, 86, 87, 88, 89, 90, 91, 92, 93, 94, 95, 96, 97, 98, 99, 100, 101] (by decide +kernel) (by decide +kernel)) (goodIn_sub (fun _ h => List.mem_cons_of_mem _ (List.mem_append_right _ h)) (by decide +kernel))
set_option maxRecDepth 20000 in
theorem gL_order_X3_order : GoodIn wsL_order (wsV RL 39 RX3 yX3_order wsX3_order) := goodIn_app (goodIn_of _ (by decide +kernel)) ggL_order_X3_order
theorem dL_order_0 : decode cL_order 0 = .ok (.aload_n 2, 1) := by decide +kernel
theorem dL_order_1 : decode cL_order 1 = .ok (.iconst 0, 1) := by decide +kernel
theorem dL_order_2 : decode cL_order 2 = .ok (.aload_n 0, 1) := by decide +kernel
theorem dL_order_3 : decode cL_order 3 = .ok (.iload_n 1, 1) := by decide +kernel
theorem dL_order_4 : decode cL_order 4 = .ok (.invokevirtual 39, 3) := by decide +kernel
theorem dL_order_7 : decode cL_order 7 = .ok (.i2l, 1) := by decide +kernel
theorem dL_order_8 : decode cL_order 8 = .ok (.lastore, 1) := by decide +kernel
theorem dL_order_9 : decode cL_order 9 = .ok (.goto 6, 3) := by decide +kernel
theorem dL_order_12 : decode cL_order 12 = .ok (.astore_n 3, 1) := by decide +kernel
theorem dL_order_13 : decode cL_order 13 = .ok (.iconst 1, 1) := by decide +kernel
theorem dL_order_14 : decode cL_order 14 = .ok (.ireturn, 1) := by decide +kernel
theorem dL_order_15 : decode cL_order 15 = .ok (.iconst 0, 1) := by decide +kernel
theorem dL_order_16 : decode cL_order 16 = .ok (.ireturn, 1) := by decide +kernel
set_option maxRecDepth 20000 in
theorem ggL_genus_X3_genus : GoodIn wsL_genus wsX3_genus := goodIn_ca (goodIn_r _ [6, 7, 8, 9, 10, 11, 12, 13, 14, 15, 16, 17, 18, 19, 20, 21, 22, 23, 24, 25, 26, 27, 28, 29, 30, 31, 32, 33, 5, 34, 35, 36, 37, 38, 39, 40, 41, 42, 43, 44, 45, 46, 47, 48, 49, 50, 51, 52, 53, 54, 55, 56, 57, 58, 59, 60, 61, 62, 63, 64, 65, 66, 67, 68, 69, 70, 71, 72, 73, 74, 75, 76, 77, 78, 79, 80, 81, 82, 83, 84, 85, 86, 87, 88, 89, 90, 91, 92, 93, 94, 95, 96, 97, 98, 99, 100, 101, 102, 103, 104] (by decide +kernel) (by decide +kernel)) (goodIn_sub (fun _ h => List.mem_cons_of_mem _ (List.mem_append_right _ h)) (by decide +kernel))
set_option maxRecDepth 20000 in
theorem gL_genus_X3_genus : GoodIn wsL_genus (wsV RL 42 RX3 yX3_genus wsX3_genus) := goodIn_app (goodIn_of _ (by decide +kernel)) ggL_genus_X3_genus
theorem dL_genus_0 : decode cL_genus 0 = .ok (.aload_n 2, 1) := by decide +kernel
theorem dL_genus_1 : decode cL_genus 1 = .ok (.iconst 0, 1) := by decide +kernel
theorem dL_genus_2 : decode cL_genus 2 = .ok (.aload_n 0, 1) := by decide +kernel
theorem dL_genus_3 : decode cL_genus 3 = .ok (.iload_n 1, 1) := by decide +kernel
theorem dL_genus_4 : decode cL_genus 4 = .ok (.invokevirtual 42, 3) := by decide +kernel
theorem dL_genus_7 : decode cL_genus 7 = .ok (.i2l, 1) := by decide +kernel
theorem dL_genus_8 : decode cL_genus 8 = .ok (.lastore, 1) := by decide +kernel
theorem dL_genus_9 : decode cL_genus 9 = .ok (.goto 6, 3) := by decide +kernel
theorem dL_genus_12 : decode cL_genus 12 = .ok (.astore_n 3, 1) := by decide +kernel
theorem dL_genus_13 : decode cL_genus 13 = .ok (.iconst 1, 1) := by decide +kernel
theorem dL_genus_14 : decode cL_genus 14 = .ok (.ireturn, 1) := by decide +kernel
theorem dL_genus_15 : decode cL_genus 15 = .ok (.iconst 0, 1) := by decide +kernel
theorem dL_genus_16 : decode cL_genus 16 = .ok (.ireturn, 1) := by decide +kernel
set_option maxRecDepth 20000 in
theorem ggL_values_X3_values : GoodIn wsL_values wsX3_values := goodIn_ca (goodIn_ca (goodIn_r _ [7, 8, 9, 10, 11, 12, 13, 14, 15, 16, 17, 18, 19, 20, 21, 22, 23, 24, 25, 26, 27, 28, 29, 30, 31, 6, 32, 33, 34, 35, 36, 37, 38, 39, 40, 41, 42, 43, 44, 45, 46, 47, 48, 49, 50, 51, 52, 53, 54, 55] (by decide +kernel) (by decide +kernel)) (goodIn_sub (fun _ h => List.mem_cons_of_mem _ (List.mem_append_left _ (List.mem_append_right _ h))) (by decide +kernel))) (goodIn_sub (fun _ h => List.mem_cons_of_mem _ (List.mem_append_right _ h)) (by decide +kernel))
set_option maxRecDepth 20000 in
theorem gL_values_X3_values : GoodIn wsL_values (wsV RL 45 RX3 yX3_values wsX3_values) := goodIn_app (goodIn_of _ (by decide +kernel)) ggL_values_X3_values
theorem dL_values_0 : decode cL_values 0 = .ok (.aload 4, 2) := by decide +kernel
theorem dL_values_2 : decode cL_values 2 = .ok (.iconst 0, 1) := by decide +kernel
theorem dL_values_3 : decode cL_values 3 = .ok (.aload_n 0, 1) := by decide +kernel
theorem dL_values_4 : decode cL_values 4 = .ok (.iload_n 1, 1) := by decide +kernel
theorem dL_values_5 : decode cL_values 5 = .ok (.iload_n 2, 1) := by decide +kernel
theorem dL_values_6 : decode cL_values 6 = .ok (.iload_n 3, 1) := by decide +kernel
theorem dL_values_7 : decode cL_values 7 = .ok (.invokevirtual 45, 3) := by decide +kernel
theorem dL_values_10 : decode cL_values 10 = .ok (.i2l, 1) := by decide +kernel
theorem dL_values_11 : decode cL_values 11 = .ok (.lastore, 1) := by decide +kernel
theorem dL_values_12 : decode cL_values 12 = .ok (.goto 11, 3) := by decide +kernel
theorem dL_values_15 : decode cL_values 15 = .ok (.astore 5, 2) := by decide +kernel
theorem dL_values_17 : decode cL_values 17 = .ok (.iconst 1, 1) := by decide +kernel
theorem dL_values_18 : decode cL_values 18 = .ok (.ireturn, 1) := by decide +kernel
theorem dL_values_19 : decode cL_values 19 = .ok (.astore 5, 2) := by decide +kernel
theorem dL_values_21 : decode cL_values 21 = .ok (.iconst 2, 1) := by decide +kernel
theorem dL_values_22 : decode cL_values 22 = .ok (.ireturn, 1) := by decide +kernel
theorem dL_values_23 : decode cL_values 23 = .ok (.iconst 0, 1) := by decide +kernel
theorem dL_values_24 : decode cL_values 24 = .ok (.ireturn, 1) := by decide +kernel
set_option maxRecDepth 20000 in
theorem ggL_prime_X3_prime : GoodIn wsL_prime wsX3_prime := goodIn_ca (goodIn_ca (goodIn_r _ [7, 8, 9, 10, 11, 12, 13, 14, 15, 16, 17, 18, 19, 20, 21, 22, 23, 24, 6, 25, 26, 27, 28, 29, 30, 31, 32, 33, 34, 35, 36, 37, 38, 39, 40, 41, 42, 43, 44, 45, 46, 47, 48, 49, 50, 51, 52, 53, 54, 55, 56, 57, 58, 59, 60] (by decide +kernel) (by decide +kernel)) (goodIn_sub (fun _ h => List.mem_cons_of_mem _ (List.mem_append_left _ (List.mem_append_right _ h))) (by decide +kernel))) (goodIn_sub (fun _ h => List.mem_cons_of_mem _ (List.mem_append_right _ h)) (by decide +kernel))
set_option maxRecDepth 20000 in
theorem gL_prime_X3_prime : GoodIn wsL_prime (wsV RL 49 RX3 yX3_prime wsX3_prime) := goodIn_app (goodIn_of _ (by decide +kernel)) ggL_prime_X3_prime
theorem dL_prime_0 : decode cL_prime 0 = .ok (.aload_n 3, 1) := by decide +kernel
theorem dL_prime_1 : decode cL_prime 1 = .ok (.iconst 0, 1) := by decide +kernel
theorem dL_prime_2 : decode cL_prime 2 = .ok (.aload_n 0, 1) := by decide +kernel
theorem dL_prime_3 : decode cL_prime 3 = .ok (.iload_n 1, 1) := by decide +kernel
theorem dL_prime_4 : decode cL_prime 4 = .ok (.iload_n 2, 1) := by decide +kernel
theorem dL_prime_5 : decode cL_prime 5 = .ok (.invokevirtual 49, 3) := by decide +kernel
theorem dL_prime_8 : decode cL_prime 8 = .ok (.i2l, 1) := by decide +kernel
theorem dL_prime_9 : decode cL_prime 9 = .ok (.lastore, 1) := by decide +kernel
theorem dL_prime_10 : decode cL_prime 10 = .ok (.goto 11, 3) := by decide +kernel
theorem dL_prime_13 : decode cL_prime 13 = .ok (.astore 4, 2) := by decide +kernel
theorem dL_prime_15 : decode cL_prime 15 = .ok (.iconst 1, 1) := by decide +kernel
theorem dL_prime_16 : decode cL_prime 16 = .ok (.ireturn, 1) := by decide +kernel
theorem dL_prime_17 : decode cL_prime 17 = .ok (.astore 4, 2) := by decide +kernel
theorem dL_prime_19 : decode cL_prime 19 = .ok (.iconst 2, 1) := by decide +kernel
theorem dL_prime_20 : decode cL_prime 20 = .ok (.ireturn, 1) := by decide +kernel
theorem dL_prime_21 : decode cL_prime 21 = .ok (.iconst 0, 1) := by decide +kernel
theorem dL_prime_22 : decode cL_prime 22 = .ok (.ireturn, 1) := by decide +kernel
set_option maxRecDepth 20000 in
theorem ggL_word_X3_word : GoodIn wsL_word wsX3_word := goodIn_ca (goodIn_ca (goodIn_r _ [7, 8, 9, 10, 11, 12, 13, 14, 15, 16, 17, 18, 19, 20, 21, 22, 23, 24, 25, 26, 27, 28, 29, 30, 31, 32, 33, 34, 35, 36, 37, 38, 39, 40, 41, 42, 43, 44, 45, 46, 47, 48, 49, 50, 51, 52, 53, 54, 55, 56, 57, 58, 59, 60, 61, 62, 63, 64, 65, 6, 66, 67, 68, 69, 70, 71, 72, 73, 74, 75, 76, 77, 78, 79, 80, 81, 82, 83, 84, 85, 86, 87, 88, 89, 90, 91, 92, 93, 94, 95, 96, 97, 98, 99, 100, 101, 102, 103, 104, 105, 106, 107, 108, 109, 110, 111, 112, 113, 114, 115, 116, 117, 118, 119, 120, 121, 122, 123, 124, 125, 126, 127, 128, 129, 130, 131, 132, 133, 134, 135, 136, 137, 138, 139, 140, 141, 142, 143, 144] (by decide +kernel) (by decide +kernel)) (goodIn_sub (fun _ h => List.mem_cons_of_mem _ (List.mem_append_left _ (List.mem_append_right _ h))) (by decide +kernel))) (goodIn_sub (fun _ h => List.mem_cons_of_mem _ (List.mem_append_right _ h)) (by decide +kernel))
set_option maxRecDepth 20000 in
theorem gL_word_X3_word : GoodIn wsL_word (wsV RL 52 RX3 yX3_word wsX3_word) := goodIn_app (goodIn_of _ (by decide +kernel)) ggL_word_X3_word
theorem dL_word_0 : decode cL_word 0 = .ok (.aload_n 1, 1) := by decide +kernel
theorem dL_word_1 : decode cL_word 1 = .ok (.iconst 0, 1) := by decide +kernel
theorem dL_word_2 : decode cL_word 2 = .ok (.aload_n 0, 1) := by decide +kernel
theorem dL_word_3 : decode cL_word 3 = .ok (.invokevirtual 52, 3) := by decide +kernel
theorem dL_word_6 : decode cL_word 6 = .ok (.i2l, 1) := by decide +kernel
theorem dL_word_7 : decode cL_word 7 = .ok (.lastore, 1) := by decide +kernel
theorem dL_word_8 : decode cL_word 8 = .ok (.goto 9, 3) := by decide +kernel
theorem dL_word_11 : decode cL_word 11 = .ok (.astore_n 2, 1) := by decide +kernel
theorem dL_word_12 : decode cL_word 12 = .ok (.iconst 1, 1) := by decide +kernel
theorem dL_word_13 : decode cL_word 13 = .ok (.ireturn, 1) := by decide +kernel
theorem dL_word_14 : decode cL_word 14 = .ok (.astore_n 2, 1) := by decide +kernel
theorem dL_word_15 : decode cL_word 15 = .ok (.iconst 2, 1) := by decide +kernel
theorem dL_word_16 : decode cL_word 16 = .ok (.ireturn, 1) := by decide +kernel
theorem dL_word_17 : decode cL_word 17 = .ok (.iconst 0, 1) := by decide +kernel
theorem dL_word_18 : decode cL_word 18 = .ok (.ireturn, 1) := by decide +kernel
set_option maxRecDepth 20000 in
theorem ggL_law_X3_init : GoodIn wsL_law wsX3_init := goodIn_r _ [9, 10, 11, 12, 13, 14, 15, 16, 17, 18, 19, 20, 21, 22, 23, 24, 25, 26, 27, 28, 29, 30, 31, 32, 33, 34, 35, 36, 37, 38, 39, 40, 41, 42, 43, 44, 45, 46, 47, 48, 49, 50, 51, 52, 53, 54, 2, 55, 56, 57, 58, 59, 60, 61, 62, 63, 64, 65, 66, 67, 68, 550, 551, 552, 553, 554, 555, 527, 528, 529, 530, 531, 556, 557, 558, 559, 560, 561, 562, 563, 564, 565, 566] (by decide +kernel) (by decide +kernel)
set_option maxRecDepth 20000 in
theorem gL_law_X3_init : GoodIn wsL_law (wsX3_init) := ggL_law_X3_init
set_option maxRecDepth 20000 in
theorem ggL_law_X4_init : GoodIn wsL_law wsX4_init := goodIn_r _ [71, 72, 11, 12, 73, 6, 74, 75, 76, 77, 78, 79, 30, 80, 81, 82, 83, 5, 84, 85, 86, 87, 88, 89, 90, 91, 92, 93, 94, 95, 96, 97, 532, 533, 534, 535, 536, 537, 538, 539, 540, 541, 542, 543, 544, 545, 546, 547, 548, 549] (by decide +kernel) (by decide +kernel)
set_option maxRecDepth 20000 in
theorem gL_law_X4_init : GoodIn wsL_law (wsX4_init) := ggL_law_X4_init
set_option maxRecDepth 20000 in
theorem ggL_law_L_discriminant : GoodIn wsL_law wsL_discriminant := goodIn_ca (goodIn_ca (goodIn_r _ [101, 102, 103, 104, 105, 106, 2, 107, 108, 109, 110, 111, 17, 16, 112, 113, 114, 115, 116, 117, 118, 44, 45, 46, 15, 47, 48, 49, 50, 51, 52, 53, 54, 55, 56, 57, 58, 59, 60, 61, 62, 63, 64, 65, 66, 67, 68, 31, 32, 33, 527, 528, 529, 530, 531, 550, 551, 552, 553, 554, 555] (by decide +kernel) (by decide +kernel)) (goodIn_sub (fun _ h => List.mem_append_left _ (List.mem_append_left _ (List.mem_append_right _ h))) (by decide +kernel))) (goodIn_sub (fun _ h => List.mem_append_left _ (List.mem_append_right _ h)) (by decide +kernel))
set_option maxRecDepth 20000 in
theorem gL_law_L_discriminant : GoodIn wsL_law (va_wsS RL 60 yL_discriminant wsL_discriminant) := goodIn_app (goodIn_of _ (by decide +kernel)) ggL_law_L_discriminant
set_option maxRecDepth 20000 in
theorem ggL_law_X4_discriminant : GoodIn wsL_law wsX4_discriminant := goodIn_r _ [122, 73, 123, 85, 124, 125, 5, 126, 127, 128, 129, 130, 81, 82, 83, 84, 74, 75, 76, 86, 87, 88, 89, 90, 91, 92, 93, 94, 95, 96, 97, 532, 533, 534, 535, 536, 537, 538, 539, 540, 541, 542, 543, 544, 545, 546, 547, 548, 549] (by decide +kernel) (by decide +kernel)
set_option maxRecDepth 20000 in
theorem gL_law_X4_discriminant : GoodIn wsL_law (wsV RL 65 RX4 yX4_discriminant wsX4_discriminant) := goodIn_app (goodIn_of _ (by decide +kernel)) ggL_law_X4_discriminant
set_option maxRecDepth 20000 in
theorem ggL_law_X4_thrown : GoodIn wsL_law wsX4_thrown := goodIn_r _ [134, 123, 532, 533, 534, 535, 536, 537, 538, 539, 540, 541, 542, 543, 544, 545, 546, 547, 548, 549] (by decide +kernel) (by decide +kernel)
set_option maxRecDepth 20000 in
theorem gL_law_X4_thrown : GoodIn wsL_law (wsV RL 66 RX4 yX4_thrown wsX4_thrown) := goodIn_app (goodIn_of _ (by decide +kernel)) ggL_law_X4_thrown
set_option maxRecDepth 20000 in
theorem ggL_law_L_form : GoodIn wsL_law wsL_form := goodIn_ca (goodIn_r _ [137, 138, 139, 140, 141, 2, 142, 143, 144, 16, 145, 146, 147, 15, 148, 49, 527, 528, 529, 530, 531, 550, 551, 552, 553, 554, 555] (by decide +kernel) (by decide +kernel)) (goodIn_sub (fun _ h => List.mem_append_right _ h) (by decide +kernel))
set_option maxRecDepth 20000 in
theorem gL_law_L_form : GoodIn wsL_law (va_wsS RL 69 yL_form wsL_form) := goodIn_app (goodIn_of _ (by decide +kernel)) ggL_law_L_form
set_option maxRecDepth 20000 in
theorem ggL_law_X4_form : GoodIn wsL_law wsX4_form := goodIn_r _ [152, 123, 74, 75, 76, 153, 154, 155, 5, 156, 85, 124, 125, 126, 127, 128, 129, 130, 532, 533, 534, 535, 536, 537, 538, 539, 540, 541, 542, 543, 544, 545, 546, 547, 548, 549] (by decide +kernel) (by decide +kernel)
set_option maxRecDepth 20000 in
theorem gL_law_X4_form : GoodIn wsL_law (wsV RL 72 RX4 yX4_form wsX4_form) := goodIn_app (goodIn_of _ (by decide +kernel)) ggL_law_X4_form
set_option maxRecDepth 20000 in
theorem ggL_law_L_reduce : GoodIn wsL_law wsL_reduce := goodIn_ca (goodIn_r _ [159, 102, 160, 161, 162, 2, 163, 108, 109, 22, 21, 164, 165, 166, 167, 168, 169, 170, 56, 57, 58, 59, 60, 61, 62, 63, 64, 171, 172, 173, 20, 174, 175, 176, 177, 178, 179, 180, 181, 182, 183, 184, 185, 186, 187, 188, 189, 190, 191, 192, 193, 194, 195, 196, 197, 198, 199, 200, 201, 117, 202, 203, 204, 205, 206, 527, 528, 529, 530, 531, 556, 557, 558, 559, 560, 561, 562, 563] (by decide +kernel) (by decide +kernel)) (goodIn_sub (fun _ h => List.mem_append_left _ (List.mem_append_left _ (List.mem_append_right _ h))) (by decide +kernel))
set_option maxRecDepth 20000 in
theorem gL_law_L_reduce : GoodIn wsL_law (va_wsS RL 73 yL_reduce wsL_reduce) := goodIn_app (goodIn_of _ (by decide +kernel)) ggL_law_L_reduce
set_option maxRecDepth 20000 in
theorem ggL_law_X4_reduce : GoodIn wsL_law wsX4_reduce := goodIn_r _ [210, 211, 123, 212, 77, 213, 214, 215, 216, 217, 218, 219, 124, 125, 5, 126, 92, 93, 94, 95, 96, 97, 89, 90, 91, 127, 128, 129, 130, 220, 221, 222, 223, 224, 225, 226, 227, 228, 86, 87, 88, 229, 230, 231, 232, 233, 234, 235, 236, 237, 532, 533, 534, 535, 536, 537, 538, 539, 540, 541, 542, 543, 544, 545, 546, 547, 548, 549] (by decide +kernel) (by decide +kernel)
set_option maxRecDepth 20000 in
theorem gL_law_X4_reduce : GoodIn wsL_law (wsV RL 76 RX4 yX4_reduce wsX4_reduce) := goodIn_app (goodIn_of _ (by decide +kernel)) ggL_law_X4_reduce
set_option maxRecDepth 20000 in
theorem ggL_law_L_reduced : GoodIn wsL_law wsL_reduced := goodIn_ca (goodIn_r _ [240, 138, 241, 242, 243, 2, 244, 143, 144, 22, 21, 245, 246, 247, 248, 16, 249, 250, 251, 15, 252, 49, 31, 32, 253, 254, 255, 20, 256, 175, 180, 181, 182, 183, 184, 185, 186, 527, 528, 529, 530, 531, 556, 557, 558, 559, 560, 561, 562, 563, 550, 551, 552, 553, 554, 555] (by decide +kernel) (by decide +kernel)) (goodIn_sub (fun _ h => List.mem_append_right _ h) (by decide +kernel))
set_option maxRecDepth 20000 in
theorem gL_law_L_reduced : GoodIn wsL_law (va_wsS RL 77 yL_reduced wsL_reduced) := goodIn_app (goodIn_of _ (by decide +kernel)) ggL_law_L_reduced
set_option maxRecDepth 20000 in
theorem ggL_law_X4_reduced : GoodIn wsL_law wsX4_reduced := goodIn_r _ [260, 212, 123, 77, 211, 124, 125, 5, 126, 127, 128, 129, 130, 261, 262, 263, 264, 85, 74, 75, 76, 532, 533, 534, 535, 536, 537, 538, 539, 540, 541, 542, 543, 544, 545, 546, 547, 548, 549] (by decide +kernel) (by decide +kernel)
set_option maxRecDepth 20000 in
theorem gL_law_X4_reduced : GoodIn wsL_law (wsV RL 79 RX4 yX4_reduced wsX4_reduced) := goodIn_app (goodIn_of _ (by decide +kernel)) ggL_law_X4_reduced
set_option maxRecDepth 20000 in
theorem ggL_law_L_compose : GoodIn wsL_law wsL_compose := goodIn_ca (goodIn_r _ [267, 138, 268, 269, 270, 2, 271, 143, 144, 16, 145, 146, 147, 15, 148, 49, 272, 273, 274, 275, 31, 32, 48, 35, 276, 59, 60, 61, 62, 63, 64, 277, 278, 279, 280, 54, 55, 281, 172, 173, 20, 174, 175, 176, 177, 178, 179, 180, 181, 182, 183, 184, 185, 186, 187, 188, 189, 190, 191, 192, 193, 194, 195, 196, 197, 198, 199, 200, 201, 117, 202, 203, 204, 205, 206, 282, 250, 251, 252, 527, 528, 529, 530, 531, 550, 551, 552, 553, 554, 555, 556, 557, 558, 559, 560, 561, 562, 563] (by decide +kernel) (by decide +kernel)) (goodIn_sub (fun _ h => List.mem_append_right _ h) (by decide +kernel))
set_option maxRecDepth 20000 in
theorem gL_law_L_compose : GoodIn wsL_law (va_wsS RL 80 yL_compose wsL_compose) := goodIn_app (goodIn_of _ (by decide +kernel)) ggL_law_L_compose
set_option maxRecDepth 20000 in
theorem ggL_law_X4_compose : GoodIn wsL_law wsX4_compose := goodIn_r _ [286, 123, 153, 154, 155, 5, 156, 85, 124, 125, 126, 127, 128, 129, 130, 287, 288, 289, 290, 74, 213, 75, 214, 233, 73, 211, 215, 291, 292, 293, 294, 295, 76, 95, 96, 97, 89, 90, 91, 220, 221, 222, 223, 216, 217, 218, 219, 296, 297, 298, 299, 300, 301, 234, 235, 236, 237, 224, 225, 226, 227, 228, 86, 87, 88, 229, 230, 231, 232, 261, 262, 263, 264, 532, 533, 534, 535, 536, 537, 538, 539, 540, 541, 542, 543, 544, 545, 546, 547, 548, 549] (by decide +kernel) (by decide +kernel)
set_option maxRecDepth 20000 in
theorem gL_law_X4_compose : GoodIn wsL_law (wsV RL 82 RX4 yX4_compose wsX4_compose) := goodIn_app (goodIn_of _ (by decide +kernel)) ggL_law_X4_compose
set_option maxRecDepth 20000 in
theorem ggL_law_L_inverse : GoodIn wsL_law wsL_inverse := goodIn_ca (goodIn_r _ [304, 138, 305, 306, 307, 2, 308, 143, 144, 16, 145, 146, 147, 15, 148, 49, 309, 310, 311, 312, 31, 32, 276, 282, 250, 251, 252, 527, 528, 529, 530, 531, 550, 551, 552, 553, 554, 555] (by decide +kernel) (by decide +kernel)) (goodIn_sub (fun _ h => List.mem_append_right _ h) (by decide +kernel))
set_option maxRecDepth 20000 in
theorem gL_law_L_inverse : GoodIn wsL_law (va_wsS RL 83 yL_inverse wsL_inverse) := goodIn_app (goodIn_of _ (by decide +kernel)) ggL_law_L_inverse
set_option maxRecDepth 20000 in
theorem ggL_law_X4_inverse : GoodIn wsL_law wsX4_inverse := goodIn_r _ [316, 123, 153, 154, 155, 5, 156, 85, 124, 125, 126, 127, 128, 129, 130, 317, 318, 319, 320, 287, 288, 289, 290, 74, 213, 75, 214, 233, 73, 211, 215, 291, 292, 293, 294, 295, 76, 95, 96, 97, 89, 90, 91, 220, 221, 222, 223, 216, 217, 218, 219, 296, 297, 298, 299, 300, 301, 234, 235, 236, 237, 224, 225, 226, 227, 228, 86, 87, 88, 229, 230, 231, 232, 261, 262, 263, 264, 532, 533, 534, 535, 536, 537, 538, 539, 540, 541, 542, 543, 544, 545, 546, 547, 548, 549] (by decide +kernel) (by decide +kernel)
set_option maxRecDepth 20000 in
theorem gL_law_X4_inverse : GoodIn wsL_law (wsV RL 85 RX4 yX4_inverse wsX4_inverse) := goodIn_app (goodIn_of _ (by decide +kernel)) ggL_law_X4_inverse
set_option maxRecDepth 20000 in
theorem ggL_law_L_power : GoodIn wsL_law wsL_power := goodIn_ca (goodIn_r _ [323, 138, 324, 325, 326, 2, 327, 143, 144, 16, 145, 146, 147, 15, 148, 49, 328, 329, 330, 331, 332, 116, 117, 118, 333, 273, 274, 275, 31, 32, 48, 35, 276, 59, 60, 61, 62, 63, 64, 277, 278, 279, 280, 54, 55, 281, 172, 173, 20, 174, 175, 176, 177, 178, 179, 180, 181, 182, 183, 184, 185, 186, 187, 188, 189, 190, 191, 192, 193, 194, 195, 196, 197, 198, 199, 200, 201, 202, 203, 204, 205, 206, 282, 250, 251, 252, 527, 528, 529, 530, 531, 550, 551, 552, 553, 554, 555, 556, 557, 558, 559, 560, 561, 562, 563] (by decide +kernel) (by decide +kernel)) (goodIn_sub (fun _ h => List.mem_append_right _ h) (by decide +kernel))
set_option maxRecDepth 20000 in
theorem gL_law_L_power : GoodIn wsL_law (va_wsS RL 86 yL_power wsL_power) := goodIn_app (goodIn_of _ (by decide +kernel)) ggL_law_L_power
set_option maxRecDepth 20000 in
theorem ggL_law_X4_power : GoodIn wsL_law wsX4_power := goodIn_r _ [337, 123, 153, 154, 155, 5, 156, 85, 124, 125, 126, 127, 128, 129, 130, 338, 339, 340, 341, 342, 343, 344, 345, 287, 288, 289, 290, 74, 213, 75, 214, 233, 73, 211, 215, 291, 292, 293, 294, 295, 76, 95, 96, 97, 89, 90, 91, 220, 221, 222, 223, 216, 217, 218, 219, 296, 297, 298, 299, 300, 301, 234, 235, 236, 237, 224, 225, 226, 227, 228, 86, 87, 88, 229, 230, 231, 232, 261, 262, 263, 264, 532, 533, 534, 535, 536, 537, 538, 539, 540, 541, 542, 543, 544, 545, 546, 547, 548, 549] (by decide +kernel) (by decide +kernel)
set_option maxRecDepth 20000 in
theorem gL_law_X4_power : GoodIn wsL_law (wsV RL 88 RX4 yX4_power wsX4_power) := goodIn_app (goodIn_of _ (by decide +kernel)) ggL_law_X4_power
set_option maxRecDepth 20000 in
theorem ggL_law_L_order : GoodIn wsL_law wsL_order := goodIn_ca (goodIn_r _ [348, 138, 349, 350, 351, 2, 352, 143, 144, 16, 145, 146, 147, 15, 148, 49, 353, 354, 355, 356, 333, 273, 274, 275, 31, 32, 48, 35, 276, 59, 60, 61, 62, 63, 64, 277, 278, 279, 280, 54, 55, 281, 172, 173, 20, 174, 175, 176, 177, 178, 179, 180, 181, 182, 183, 184, 185, 186, 187, 188, 189, 190, 191, 192, 193, 194, 195, 196, 197, 198, 199, 200, 201, 117, 202, 203, 204, 205, 206, 282, 250, 251, 252, 527, 528, 529, 530, 531, 550, 551, 552, 553, 554, 555, 556, 557, 558, 559, 560, 561, 562, 563] (by decide +kernel) (by decide +kernel)) (goodIn_sub (fun _ h => List.mem_append_right _ h) (by decide +kernel))
set_option maxRecDepth 20000 in
theorem gL_law_L_order : GoodIn wsL_law (va_wsS RL 89 yL_order wsL_order) := goodIn_app (goodIn_of _ (by decide +kernel)) ggL_law_L_order
set_option maxRecDepth 20000 in
theorem ggL_law_X4_order : GoodIn wsL_law wsX4_order := goodIn_r _ [360, 123, 153, 154, 155, 5, 156, 85, 124, 125, 126, 127, 128, 129, 130, 342, 343, 344, 345, 287, 288, 289, 290, 74, 213, 75, 214, 233, 73, 211, 215, 291, 292, 293, 294, 295, 76, 95, 96, 97, 89, 90, 91, 220, 221, 222, 223, 216, 217, 218, 219, 296, 297, 298, 299, 300, 301, 234, 235, 236, 237, 224, 225, 226, 227, 228, 86, 87, 88, 229, 230, 231, 232, 261, 262, 263, 264, 532, 533, 534, 535, 536, 537, 538, 539, 540, 541, 542, 543, 544, 545, 546, 547, 548, 549] (by decide +kernel) (by decide +kernel)
set_option maxRecDepth 20000 in
theorem gL_law_X4_order : GoodIn wsL_law (wsV RL 91 RX4 yX4_order wsX4_order) := goodIn_app (goodIn_of _ (by decide +kernel)) ggL_law_X4_order
set_option maxRecDepth 20000 in
theorem ggL_law_L_genus : GoodIn wsL_law wsL_genus := goodIn_ca (goodIn_r _ [363, 138, 364, 365, 366, 2, 367, 143, 144, 16, 145, 146, 147, 15, 148, 49, 368, 369, 370, 371, 372, 373, 63, 374, 333, 273, 274, 275, 31, 32, 48, 35, 276, 59, 60, 61, 62, 64, 277, 278, 279, 280, 54, 55, 281, 172, 173, 20, 174, 175, 176, 177, 178, 179, 180, 181, 182, 183, 184, 185, 186, 187, 188, 189, 190, 191, 192, 193, 194, 195, 196, 197, 198, 199, 200, 201, 117, 202, 203, 204, 205, 206, 282, 250, 251, 252, 527, 528, 529, 530, 531, 550, 551, 552, 553, 554, 555, 556, 557, 558, 559, 560, 561, 562, 563] (by decide +kernel) (by decide +kernel)) (goodIn_sub (fun _ h => List.mem_append_right _ h) (by decide +kernel))
set_option maxRecDepth 20000 in
theorem gL_law_L_genus : GoodIn wsL_law (va_wsS RL 92 yL_genus wsL_genus) := goodIn_app (goodIn_of _ (by decide +kernel)) ggL_law_L_genus
set_option maxRecDepth 20000 in
theorem ggL_law_X4_genus : GoodIn wsL_law wsX4_genus := goodIn_r _ [378, 123, 153, 154, 155, 5, 156, 85, 124, 125, 126, 127, 128, 129, 130, 379, 380, 381, 382, 287, 288, 289, 290, 74, 213, 75, 214, 233, 73, 211, 215, 291, 292, 293, 294, 295, 76, 95, 96, 97, 89, 90, 91, 220, 221, 222, 223, 216, 217, 218, 219, 296, 297, 298, 299, 300, 301, 234, 235, 236, 237, 224, 225, 226, 227, 228, 86, 87, 88, 229, 230, 231, 232, 261, 262, 263, 264, 383, 384, 385, 386, 532, 533, 534, 535, 536, 537, 538, 539, 540, 541, 542, 543, 544, 545, 546, 547, 548, 549] (by decide +kernel) (by decide +kernel)
set_option maxRecDepth 20000 in
theorem gL_law_X4_genus : GoodIn wsL_law (wsV RL 94 RX4 yX4_genus wsX4_genus) := goodIn_app (goodIn_of _ (by decide +kernel)) ggL_law_X4_genus
set_option maxRecDepth 20000 in
theorem ggL_law_X3_genera : GoodIn wsL_law wsX3_genera := goodIn_r _ [390, 16, 391, 392, 393, 15, 394, 49, 395, 310, 311, 312, 31, 32, 276, 146, 147, 148, 282, 250, 251, 252, 527, 528, 529, 530, 531, 550, 551, 552, 553, 554, 555] (by decide +kernel) (by decide +kernel)
set_option maxRecDepth 20000 in
theorem gL_law_X3_genera : GoodIn wsL_law (wsV RL 95 RX3 yX3_genera wsX3_genera) := goodIn_app (goodIn_of _ (by decide +kernel)) ggL_law_X3_genera
set_option maxRecDepth 20000 in
theorem ggL_law_X4_genera : GoodIn wsL_law wsX4_genera := goodIn_r _ [399, 123, 85, 379, 380, 381, 5, 382, 287, 288, 289, 290, 74, 213, 75, 214, 233, 73, 211, 215, 291, 292, 293, 294, 295, 76, 95, 96, 97, 89, 90, 91, 220, 221, 222, 223, 216, 217, 218, 219, 296, 297, 298, 299, 300, 301, 234, 235, 236, 237, 224, 225, 226, 227, 228, 86, 87, 88, 229, 230, 231, 232, 261, 262, 263, 264, 532, 533, 534, 535, 536, 537, 538, 539, 540, 541, 542, 543, 544, 545, 546, 547, 548, 549] (by decide +kernel) (by decide +kernel)
set_option maxRecDepth 20000 in
theorem gL_law_X4_genera : GoodIn wsL_law (wsV RL 98 RX4 yX4_genera wsX4_genera) := goodIn_app (goodIn_of _ (by decide +kernel)) ggL_law_X4_genera
set_option maxRecDepth 20000 in
theorem ggL_law_L_values : GoodIn wsL_law wsL_values := goodIn_ca (goodIn_ca (goodIn_r _ [402, 138, 102, 403, 404, 405, 2, 406, 143, 144, 108, 109, 16, 145, 146, 147, 15, 148, 49, 407, 408, 409, 410, 31, 48, 276, 411, 412, 413, 414, 32, 415, 416, 417, 418, 419, 420, 54, 55, 59, 60, 61, 62, 63, 64, 527, 528, 529, 530, 531, 550, 551, 552, 553, 554, 555] (by decide +kernel) (by decide +kernel)) (goodIn_sub (fun _ h => List.mem_append_right _ h) (by decide +kernel))) (goodIn_sub (fun _ h => List.mem_append_left _ (List.mem_append_left _ (List.mem_append_right _ h))) (by decide +kernel))
set_option maxRecDepth 20000 in
theorem gL_law_L_values : GoodIn wsL_law (va_wsS RL 99 yL_values wsL_values) := goodIn_app (goodIn_of _ (by decide +kernel)) ggL_law_L_values
set_option maxRecDepth 20000 in
theorem ggL_law_X4_values : GoodIn wsL_law wsX4_values := goodIn_r _ [424, 123, 76, 74, 153, 154, 155, 5, 156, 85, 124, 125, 126, 127, 128, 129, 130, 425, 426, 427, 428, 73, 211, 429, 430, 431, 432, 75, 95, 96, 97, 89, 90, 91, 532, 533, 534, 535, 536, 537, 538, 539, 540, 541, 542, 543, 544, 545, 546, 547, 548, 549] (by decide +kernel) (by decide +kernel)
set_option maxRecDepth 20000 in
theorem gL_law_X4_values : GoodIn wsL_law (wsV RL 102 RX4 yX4_values wsX4_values) := goodIn_app (goodIn_of _ (by decide +kernel)) ggL_law_X4_values
set_option maxRecDepth 20000 in
theorem ggL_law_L_prime : GoodIn wsL_law wsL_prime := goodIn_ca (goodIn_ca (goodIn_r _ [435, 138, 102, 436, 437, 438, 2, 439, 143, 144, 108, 109, 16, 145, 146, 147, 15, 148, 49, 440, 441, 442, 443, 444, 59, 60, 61, 62, 63, 64, 445, 408, 409, 410, 31, 48, 276, 411, 412, 413, 414, 32, 415, 416, 417, 418, 419, 420, 54, 55, 527, 528, 529, 530, 531, 550, 551, 552, 553, 554, 555] (by decide +kernel) (by decide +kernel)) (goodIn_sub (fun _ h => List.mem_append_right _ h) (by decide +kernel))) (goodIn_sub (fun _ h => List.mem_append_left _ (List.mem_append_left _ (List.mem_append_right _ h))) (by decide +kernel))
set_option maxRecDepth 20000 in
theorem gL_law_L_prime : GoodIn wsL_law (va_wsS RL 103 yL_prime wsL_prime) := goodIn_app (goodIn_of _ (by decide +kernel)) ggL_law_L_prime
set_option maxRecDepth 20000 in
theorem ggL_law_X4_prime : GoodIn wsL_law wsX4_prime := goodIn_r _ [449, 123, 213, 76, 74, 153, 154, 155, 5, 156, 85, 124, 125, 126, 127, 128, 129, 130, 291, 292, 293, 294, 295, 75, 95, 96, 97, 89, 90, 91, 220, 221, 222, 223, 214, 215, 216, 217, 218, 219, 296, 297, 298, 299, 300, 301, 234, 235, 236, 237, 233, 425, 426, 427, 428, 73, 211, 429, 430, 431, 432, 532, 533, 534, 535, 536, 537, 538, 539, 540, 541, 542, 543, 544, 545, 546, 547, 548, 549] (by decide +kernel) (by decide +kernel)
set_option maxRecDepth 20000 in
theorem gL_law_X4_prime : GoodIn wsL_law (wsV RL 105 RX4 yX4_prime wsX4_prime) := goodIn_app (goodIn_of _ (by decide +kernel)) ggL_law_X4_prime
set_option maxRecDepth 20000 in
theorem ggL_law_X3_put : GoodIn wsL_law wsX3_put := goodIn_r _ [453, 26, 454, 455, 456, 25, 457, 458, 42, 459, 460, 461, 462, 463, 464, 465, 466, 467, 468, 469, 470, 471, 472, 473, 527, 528, 529, 530, 531, 564, 565, 566] (by decide +kernel) (by decide +kernel)
set_option maxRecDepth 20000 in
theorem gL_law_X3_put : GoodIn wsL_law (wsV RL 106 RX3 yX3_put wsX3_put) := goodIn_app (goodIn_of _ (by decide +kernel)) ggL_law_X3_put
set_option maxRecDepth 20000 in
theorem ggL_law_X4_put : GoodIn wsL_law wsX4_put := goodIn_r _ [477, 123, 478, 79, 124, 125, 5, 126, 479, 480, 481, 482, 483, 484, 532, 533, 534, 535, 536, 537, 538, 539, 540, 541, 542, 543, 544, 545, 546, 547, 548, 549] (by decide +kernel) (by decide +kernel)
set_option maxRecDepth 20000 in
theorem gL_law_X4_put : GoodIn wsL_law (wsV RL 110 RX4 yX4_put wsX4_put) := goodIn_app (goodIn_of _ (by decide +kernel)) ggL_law_X4_put
set_option maxRecDepth 20000 in
theorem ggL_law_X3_clear : GoodIn wsL_law wsX3_clear := goodIn_r _ [488, 26, 527, 528, 529, 530, 531, 564, 565, 566] (by decide +kernel) (by decide +kernel)
set_option maxRecDepth 20000 in
theorem gL_law_X3_clear : GoodIn wsL_law (wsV RL 111 RX3 yX3_clear wsX3_clear) := goodIn_app (goodIn_of _ (by decide +kernel)) ggL_law_X3_clear
set_option maxRecDepth 20000 in
theorem ggL_law_X4_clear : GoodIn wsL_law wsX4_clear := goodIn_r _ [492, 123, 478, 532, 533, 534, 535, 536, 537, 538, 539, 540, 541, 542, 543, 544, 545, 546, 547, 548, 549] (by decide +kernel) (by decide +kernel)
set_option maxRecDepth 20000 in
theorem gL_law_X4_clear : GoodIn wsL_law (wsV RL 114 RX4 yX4_clear wsX4_clear) := goodIn_app (goodIn_of _ (by decide +kernel)) ggL_law_X4_clear
set_option maxRecDepth 20000 in
theorem ggL_law_L_word : GoodIn wsL_law wsL_word := goodIn_ca (goodIn_ca (goodIn_r _ [495, 102, 138, 496, 497, 498, 2, 499, 108, 109, 143, 144, 26, 16, 500, 501, 502, 25, 503, 458, 42, 471, 472, 473, 504, 505, 506, 507, 465, 466, 467, 468, 469, 470, 508, 509, 510, 511, 146, 147, 15, 148, 49, 512, 513, 514, 515, 43, 516, 329, 330, 331, 332, 116, 117, 118, 333, 273, 274, 275, 31, 32, 48, 35, 276, 59, 60, 61, 62, 63, 64, 277, 278, 279, 280, 54, 55, 281, 172, 173, 20, 174, 175, 176, 177, 178, 179, 180, 181, 182, 183, 184, 185, 186, 187, 188, 189, 190, 191, 192, 193, 194, 195, 196, 197, 198, 199, 200, 201, 202, 203, 204, 205, 206, 282, 250, 251, 252, 517, 518, 310, 311, 312, 527, 528, 529, 530, 531, 564, 565, 566, 550, 551, 552, 553, 554, 555, 556, 557, 558, 559, 560, 561, 562, 563] (by decide +kernel) (by decide +kernel)) (goodIn_sub (fun _ h => List.mem_append_left _ (List.mem_append_left _ (List.mem_append_right _ h))) (by decide +kernel))) (goodIn_sub (fun _ h => List.mem_append_right _ h) (by decide +kernel))
set_option maxRecDepth 20000 in
theorem gL_law_L_word : GoodIn wsL_law (va_wsS RL 115 yL_word wsL_word) := goodIn_app (goodIn_of _ (by decide +kernel)) ggL_law_L_word
set_option maxRecDepth 20000 in
theorem ggL_law_X4_word : GoodIn wsL_law wsX4_word := goodIn_r _ [522, 80, 478, 79, 123, 482, 483, 5, 484, 127, 128, 129, 130, 338, 339, 340, 341, 342, 343, 344, 345, 287, 288, 289, 290, 74, 213, 75, 214, 233, 73, 211, 215, 291, 292, 293, 294, 295, 76, 95, 96, 97, 89, 90, 91, 220, 221, 222, 223, 216, 217, 218, 219, 296, 297, 298, 299, 300, 301, 234, 235, 236, 237, 224, 225, 226, 227, 228, 86, 87, 88, 229, 230, 231, 232, 261, 262, 263, 264, 85, 523, 524, 525, 526, 153, 154, 155, 156, 124, 125, 126, 317, 318, 319, 320, 532, 533, 534, 535, 536, 537, 538, 539, 540, 541, 542, 543, 544, 545, 546, 547, 548, 549] (by decide +kernel) (by decide +kernel)
set_option maxRecDepth 20000 in
theorem gL_law_X4_word : GoodIn wsL_law (wsV RL 118 RX4 yX4_word wsX4_word) := goodIn_app (goodIn_of _ (by decide +kernel)) ggL_law_X4_word
theorem dL_law_0 : decode cL_law 0 = .ok (.new 8, 3) := by decide +kernel
theorem dL_law_3 : decode cL_law 3 = .ok (.dup, 1) := by decide +kernel
theorem dL_law_4 : decode cL_law 4 = .ok (.invokespecial 56, 3) := by decide +kernel
theorem dL_law_7 : decode cL_law 7 = .ok (.astore_n 1, 1) := by decide +kernel
theorem dL_law_8 : decode cL_law 8 = .ok (.new 57, 3) := by decide +kernel
theorem dL_law_11 : decode cL_law 11 = .ok (.dup, 1) := by decide +kernel
theorem dL_law_12 : decode cL_law 12 = .ok (.invokespecial 59, 3) := by decide +kernel
theorem dL_law_15 : decode cL_law 15 = .ok (.astore_n 2, 1) := by decide +kernel
theorem dL_law_16 : decode cL_law 16 = .ok (.iconst 1, 1) := by decide +kernel
theorem dL_law_17 : decode cL_law 17 = .ok (.newarray .long, 2) := by decide +kernel
theorem dL_law_19 : decode cL_law 19 = .ok (.astore_n 3, 1) := by decide +kernel
theorem dL_law_20 : decode cL_law 20 = .ok (.iconst 0, 1) := by decide +kernel
theorem dL_law_21 : decode cL_law 21 = .ok (.istore 4, 2) := by decide +kernel
theorem dL_law_23 : decode cL_law 23 = .ok (.iload 4, 2) := by decide +kernel
theorem dL_law_25 : decode cL_law 25 = .ok (.aload_n 0, 1) := by decide +kernel
theorem dL_law_26 : decode cL_law 26 = .ok (.arraylength, 1) := by decide +kernel
theorem dL_law_27 : decode cL_law 27 = .ok (.iconst 4, 1) := by decide +kernel
theorem dL_law_28 : decode cL_law 28 = .ok (.isub, 1) := by decide +kernel
theorem dL_law_29 : decode cL_law 29 = .ok (.if_icmp .gt 922, 3) := by decide +kernel
theorem dL_law_32 : decode cL_law 32 = .ok (.aload_n 0, 1) := by decide +kernel
theorem dL_law_33 : decode cL_law 33 = .ok (.iload 4, 2) := by decide +kernel
theorem dL_law_35 : decode cL_law 35 = .ok (.iaload, 1) := by decide +kernel
theorem dL_law_36 : decode cL_law 36 = .ok (.bipush 15, 2) := by decide +kernel
theorem dL_law_38 : decode cL_law 38 = .ok (.iand, 1) := by decide +kernel
theorem dL_law_39 : decode cL_law 39 = .ok (.tableswitch 906 0 14 #[73, 129, 197, 277, 333, 401, 457, 525, 581, 637, 650, 746, 814, 851, 862], 73) := by decide +kernel
theorem dL_law_112 : decode cL_law 112 = .ok (.aload_n 1, 1) := by decide +kernel
theorem dL_law_113 : decode cL_law 113 = .ok (.aload_n 0, 1) := by decide +kernel
theorem dL_law_114 : decode cL_law 114 = .ok (.iload 4, 2) := by decide +kernel
theorem dL_law_116 : decode cL_law 116 = .ok (.iconst 1, 1) := by decide +kernel
theorem dL_law_117 : decode cL_law 117 = .ok (.iadd, 1) := by decide +kernel
theorem dL_law_118 : decode cL_law 118 = .ok (.iaload, 1) := by decide +kernel
theorem dL_law_119 : decode cL_law 119 = .ok (.aload_n 3, 1) := by decide +kernel
theorem dL_law_120 : decode cL_law 120 = .ok (.invokestatic 60, 3) := by decide +kernel
theorem dL_law_123 : decode cL_law 123 = .ok (.istore 5, 2) := by decide +kernel
theorem dL_law_125 : decode cL_law 125 = .ok (.aload_n 2, 1) := by decide +kernel
theorem dL_law_126 : decode cL_law 126 = .ok (.aload_n 0, 1) := by decide +kernel
theorem dL_law_127 : decode cL_law 127 = .ok (.iload 4, 2) := by decide +kernel
theorem dL_law_129 : decode cL_law 129 = .ok (.iconst 1, 1) := by decide +kernel
theorem dL_law_130 : decode cL_law 130 = .ok (.iadd, 1) := by decide +kernel
theorem dL_law_131 : decode cL_law 131 = .ok (.iaload, 1) := by decide +kernel
theorem dL_law_132 : decode cL_law 132 = .ok (.invokevirtual 65, 3) := by decide +kernel
theorem dL_law_135 : decode cL_law 135 = .ok (.istore 6, 2) := by decide +kernel
theorem dL_law_137 : decode cL_law 137 = .ok (.aload_n 2, 1) := by decide +kernel
theorem dL_law_138 : decode cL_law 138 = .ok (.invokevirtual 66, 3) := by decide +kernel
theorem dL_law_141 : decode cL_law 141 = .ok (.iload 5, 2) := by decide +kernel
theorem dL_law_143 : decode cL_law 143 = .ok (.if_icmp .eq 5, 3) := by decide +kernel
theorem dL_law_146 : decode cL_law 146 = .ok (.iconst 0, 1) := by decide +kernel
theorem dL_law_147 : decode cL_law 147 = .ok (.ireturn, 1) := by decide +kernel
theorem dL_law_148 : decode cL_law 148 = .ok (.iload 5, 2) := by decide +kernel
theorem dL_law_150 : decode cL_law 150 = .ok (.ifCond .ne 15, 3) := by decide +kernel
theorem dL_law_153 : decode cL_law 153 = .ok (.aload_n 3, 1) := by decide +kernel
theorem dL_law_154 : decode cL_law 154 = .ok (.iconst 0, 1) := by decide +kernel
theorem dL_law_155 : decode cL_law 155 = .ok (.laload, 1) := by decide +kernel
theorem dL_law_156 : decode cL_law 156 = .ok (.iload 6, 2) := by decide +kernel
theorem dL_law_158 : decode cL_law 158 = .ok (.i2l, 1) := by decide +kernel
theorem dL_law_159 : decode cL_law 159 = .ok (.lcmp, 1) := by decide +kernel
theorem dL_law_160 : decode cL_law 160 = .ok (.ifCond .eq 5, 3) := by decide +kernel
theorem dL_law_163 : decode cL_law 163 = .ok (.iconst 0, 1) := by decide +kernel
theorem dL_law_164 : decode cL_law 164 = .ok (.ireturn, 1) := by decide +kernel
theorem dL_law_165 : decode cL_law 165 = .ok (.goto 780, 3) := by decide +kernel
theorem dL_law_168 : decode cL_law 168 = .ok (.aload_n 1, 1) := by decide +kernel
theorem dL_law_169 : decode cL_law 169 = .ok (.aload_n 0, 1) := by decide +kernel
theorem dL_law_170 : decode cL_law 170 = .ok (.iload 4, 2) := by decide +kernel
theorem dL_law_172 : decode cL_law 172 = .ok (.iconst 1, 1) := by decide +kernel
theorem dL_law_173 : decode cL_law 173 = .ok (.iadd, 1) := by decide +kernel
theorem dL_law_174 : decode cL_law 174 = .ok (.iaload, 1) := by decide +kernel
theorem dL_law_175 : decode cL_law 175 = .ok (.aload_n 0, 1) := by decide +kernel
theorem dL_law_176 : decode cL_law 176 = .ok (.iload 4, 2) := by decide +kernel
theorem dL_law_178 : decode cL_law 178 = .ok (.iconst 2, 1) := by decide +kernel
theorem dL_law_179 : decode cL_law 179 = .ok (.iadd, 1) := by decide +kernel
theorem dL_law_180 : decode cL_law 180 = .ok (.iaload, 1) := by decide +kernel
theorem dL_law_181 : decode cL_law 181 = .ok (.aload_n 3, 1) := by decide +kernel
theorem dL_law_182 : decode cL_law 182 = .ok (.invokestatic 69, 3) := by decide +kernel
theorem dL_law_185 : decode cL_law 185 = .ok (.istore 5, 2) := by decide +kernel
theorem dL_law_187 : decode cL_law 187 = .ok (.aload_n 2, 1) := by decide +kernel
theorem dL_law_188 : decode cL_law 188 = .ok (.aload_n 0, 1) := by decide +kernel
theorem dL_law_189 : decode cL_law 189 = .ok (.iload 4, 2) := by decide +kernel
theorem dL_law_191 : decode cL_law 191 = .ok (.iconst 1, 1) := by decide +kernel
theorem dL_law_192 : decode cL_law 192 = .ok (.iadd, 1) := by decide +kernel
theorem dL_law_193 : decode cL_law 193 = .ok (.iaload, 1) := by decide +kernel
theorem dL_law_194 : decode cL_law 194 = .ok (.aload_n 0, 1) := by decide +kernel
theorem dL_law_195 : decode cL_law 195 = .ok (.iload 4, 2) := by decide +kernel
theorem dL_law_197 : decode cL_law 197 = .ok (.iconst 2, 1) := by decide +kernel
theorem dL_law_198 : decode cL_law 198 = .ok (.iadd, 1) := by decide +kernel
theorem dL_law_199 : decode cL_law 199 = .ok (.iaload, 1) := by decide +kernel
theorem dL_law_200 : decode cL_law 200 = .ok (.invokevirtual 72, 3) := by decide +kernel
theorem dL_law_203 : decode cL_law 203 = .ok (.istore 6, 2) := by decide +kernel
theorem dL_law_205 : decode cL_law 205 = .ok (.aload_n 2, 1) := by decide +kernel
theorem dL_law_206 : decode cL_law 206 = .ok (.invokevirtual 66, 3) := by decide +kernel
theorem dL_law_209 : decode cL_law 209 = .ok (.iload 5, 2) := by decide +kernel
theorem dL_law_211 : decode cL_law 211 = .ok (.if_icmp .eq 5, 3) := by decide +kernel
theorem dL_law_214 : decode cL_law 214 = .ok (.iconst 0, 1) := by decide +kernel
theorem dL_law_215 : decode cL_law 215 = .ok (.ireturn, 1) := by decide +kernel
theorem dL_law_216 : decode cL_law 216 = .ok (.iload 5, 2) := by decide +kernel
theorem dL_law_218 : decode cL_law 218 = .ok (.ifCond .ne 15, 3) := by decide +kernel
theorem dL_law_221 : decode cL_law 221 = .ok (.aload_n 3, 1) := by decide +kernel
theorem dL_law_222 : decode cL_law 222 = .ok (.iconst 0, 1) := by decide +kernel
theorem dL_law_223 : decode cL_law 223 = .ok (.laload, 1) := by decide +kernel
theorem dL_law_224 : decode cL_law 224 = .ok (.iload 6, 2) := by decide +kernel
theorem dL_law_226 : decode cL_law 226 = .ok (.i2l, 1) := by decide +kernel
theorem dL_law_227 : decode cL_law 227 = .ok (.lcmp, 1) := by decide +kernel
theorem dL_law_228 : decode cL_law 228 = .ok (.ifCond .eq 5, 3) := by decide +kernel
theorem dL_law_231 : decode cL_law 231 = .ok (.iconst 0, 1) := by decide +kernel
theorem dL_law_232 : decode cL_law 232 = .ok (.ireturn, 1) := by decide +kernel
theorem dL_law_233 : decode cL_law 233 = .ok (.goto 712, 3) := by decide +kernel
theorem dL_law_236 : decode cL_law 236 = .ok (.aload_n 1, 1) := by decide +kernel
theorem dL_law_237 : decode cL_law 237 = .ok (.aload_n 0, 1) := by decide +kernel
theorem dL_law_238 : decode cL_law 238 = .ok (.iload 4, 2) := by decide +kernel
theorem dL_law_240 : decode cL_law 240 = .ok (.iconst 1, 1) := by decide +kernel
theorem dL_law_241 : decode cL_law 241 = .ok (.iadd, 1) := by decide +kernel
theorem dL_law_242 : decode cL_law 242 = .ok (.iaload, 1) := by decide +kernel
theorem dL_law_243 : decode cL_law 243 = .ok (.aload_n 0, 1) := by decide +kernel
theorem dL_law_244 : decode cL_law 244 = .ok (.iload 4, 2) := by decide +kernel
theorem dL_law_246 : decode cL_law 246 = .ok (.iconst 2, 1) := by decide +kernel
theorem dL_law_247 : decode cL_law 247 = .ok (.iadd, 1) := by decide +kernel
theorem dL_law_248 : decode cL_law 248 = .ok (.iaload, 1) := by decide +kernel
theorem dL_law_249 : decode cL_law 249 = .ok (.aload_n 0, 1) := by decide +kernel
theorem dL_law_250 : decode cL_law 250 = .ok (.iload 4, 2) := by decide +kernel
theorem dL_law_252 : decode cL_law 252 = .ok (.iconst 3, 1) := by decide +kernel
theorem dL_law_253 : decode cL_law 253 = .ok (.iadd, 1) := by decide +kernel
theorem dL_law_254 : decode cL_law 254 = .ok (.iaload, 1) := by decide +kernel
theorem dL_law_255 : decode cL_law 255 = .ok (.aload_n 3, 1) := by decide +kernel
theorem dL_law_256 : decode cL_law 256 = .ok (.invokestatic 73, 3) := by decide +kernel
theorem dL_law_259 : decode cL_law 259 = .ok (.istore 5, 2) := by decide +kernel
theorem dL_law_261 : decode cL_law 261 = .ok (.aload_n 2, 1) := by decide +kernel
theorem dL_law_262 : decode cL_law 262 = .ok (.aload_n 0, 1) := by decide +kernel
theorem dL_law_263 : decode cL_law 263 = .ok (.iload 4, 2) := by decide +kernel
theorem dL_law_265 : decode cL_law 265 = .ok (.iconst 1, 1) := by decide +kernel
theorem dL_law_266 : decode cL_law 266 = .ok (.iadd, 1) := by decide +kernel
theorem dL_law_267 : decode cL_law 267 = .ok (.iaload, 1) := by decide +kernel
theorem dL_law_268 : decode cL_law 268 = .ok (.aload_n 0, 1) := by decide +kernel
theorem dL_law_269 : decode cL_law 269 = .ok (.iload 4, 2) := by decide +kernel
theorem dL_law_271 : decode cL_law 271 = .ok (.iconst 2, 1) := by decide +kernel
theorem dL_law_272 : decode cL_law 272 = .ok (.iadd, 1) := by decide +kernel
theorem dL_law_273 : decode cL_law 273 = .ok (.iaload, 1) := by decide +kernel
theorem dL_law_274 : decode cL_law 274 = .ok (.aload_n 0, 1) := by decide +kernel
theorem dL_law_275 : decode cL_law 275 = .ok (.iload 4, 2) := by decide +kernel
theorem dL_law_277 : decode cL_law 277 = .ok (.iconst 3, 1) := by decide +kernel
theorem dL_law_278 : decode cL_law 278 = .ok (.iadd, 1) := by decide +kernel
theorem dL_law_279 : decode cL_law 279 = .ok (.iaload, 1) := by decide +kernel
theorem dL_law_280 : decode cL_law 280 = .ok (.invokevirtual 76, 3) := by decide +kernel
theorem dL_law_283 : decode cL_law 283 = .ok (.istore 6, 2) := by decide +kernel
theorem dL_law_285 : decode cL_law 285 = .ok (.aload_n 2, 1) := by decide +kernel
theorem dL_law_286 : decode cL_law 286 = .ok (.invokevirtual 66, 3) := by decide +kernel
theorem dL_law_289 : decode cL_law 289 = .ok (.iload 5, 2) := by decide +kernel
theorem dL_law_291 : decode cL_law 291 = .ok (.if_icmp .eq 5, 3) := by decide +kernel
theorem dL_law_294 : decode cL_law 294 = .ok (.iconst 0, 1) := by decide +kernel
theorem dL_law_295 : decode cL_law 295 = .ok (.ireturn, 1) := by decide +kernel
theorem dL_law_296 : decode cL_law 296 = .ok (.iload 5, 2) := by decide +kernel
theorem dL_law_298 : decode cL_law 298 = .ok (.ifCond .ne 15, 3) := by decide +kernel
theorem dL_law_301 : decode cL_law 301 = .ok (.aload_n 3, 1) := by decide +kernel
theorem dL_law_302 : decode cL_law 302 = .ok (.iconst 0, 1) := by decide +kernel
theorem dL_law_303 : decode cL_law 303 = .ok (.laload, 1) := by decide +kernel
theorem dL_law_304 : decode cL_law 304 = .ok (.iload 6, 2) := by decide +kernel
theorem dL_law_306 : decode cL_law 306 = .ok (.i2l, 1) := by decide +kernel
theorem dL_law_307 : decode cL_law 307 = .ok (.lcmp, 1) := by decide +kernel
theorem dL_law_308 : decode cL_law 308 = .ok (.ifCond .eq 5, 3) := by decide +kernel
theorem dL_law_311 : decode cL_law 311 = .ok (.iconst 0, 1) := by decide +kernel
