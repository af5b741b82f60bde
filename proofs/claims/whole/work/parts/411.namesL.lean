theorem dJ9_max_7cf53_0 : decode cJ9_max_7cf53 0 = .ok (.iload_n 0, 1) := by decide +kernel
theorem dJ9_max_7cf53_1 : decode cJ9_max_7cf53 1 = .ok (.iload_n 1, 1) := by decide +kernel
theorem dJ9_max_7cf53_2 : decode cJ9_max_7cf53 2 = .ok (.if_icmp .lt 7, 3) := by decide +kernel
theorem dJ9_max_7cf53_5 : decode cJ9_max_7cf53 5 = .ok (.iload_n 0, 1) := by decide +kernel
theorem dJ9_max_7cf53_6 : decode cJ9_max_7cf53 6 = .ok (.goto 4, 3) := by decide +kernel
theorem dJ9_max_7cf53_9 : decode cJ9_max_7cf53 9 = .ok (.iload_n 1, 1) := by decide +kernel
theorem dJ9_max_7cf53_10 : decode cJ9_max_7cf53 10 = .ok (.ireturn, 1) := by decide +kernel
theorem dJ9_min_7cf53_0 : decode cJ9_min_7cf53 0 = .ok (.iload_n 0, 1) := by decide +kernel
theorem dJ9_min_7cf53_1 : decode cJ9_min_7cf53 1 = .ok (.iload_n 1, 1) := by decide +kernel
theorem dJ9_min_7cf53_2 : decode cJ9_min_7cf53 2 = .ok (.if_icmp .gt 7, 3) := by decide +kernel
theorem dJ9_min_7cf53_5 : decode cJ9_min_7cf53 5 = .ok (.iload_n 0, 1) := by decide +kernel
theorem dJ9_min_7cf53_6 : decode cJ9_min_7cf53 6 = .ok (.goto 4, 3) := by decide +kernel
theorem dJ9_min_7cf53_9 : decode cJ9_min_7cf53 9 = .ok (.iload_n 1, 1) := by decide +kernel
theorem dJ9_min_7cf53_10 : decode cJ9_min_7cf53 10 = .ok (.ireturn, 1) := by decide +kernel
theorem dJ9_min_f86c9_0 : decode cJ9_min_f86c9 0 = .ok (.lload_n 0, 1) := by decide +kernel
theorem dJ9_min_f86c9_1 : decode cJ9_min_f86c9 1 = .ok (.lload_n 2, 1) := by decide +kernel
theorem dJ9_min_f86c9_2 : decode cJ9_min_f86c9 2 = .ok (.lcmp, 1) := by decide +kernel
theorem dJ9_min_f86c9_3 : decode cJ9_min_f86c9 3 = .ok (.ifCond .gt 7, 3) := by decide +kernel
theorem dJ9_min_f86c9_6 : decode cJ9_min_f86c9 6 = .ok (.lload_n 0, 1) := by decide +kernel
theorem dJ9_min_f86c9_7 : decode cJ9_min_f86c9 7 = .ok (.goto 4, 3) := by decide +kernel
theorem dJ9_min_f86c9_10 : decode cJ9_min_f86c9 10 = .ok (.lload_n 2, 1) := by decide +kernel
theorem dJ9_min_f86c9_11 : decode cJ9_min_f86c9 11 = .ok (.lreturn, 1) := by decide +kernel
set_option maxRecDepth 20000 in
theorem ggL_setWeights_X3_setWeights : GoodIn wsL_setWeights wsX3_setWeights := goodIn_ca (goodIn_ca (goodIn_r _ [7, 8, 9, 10, 11, 12, 13, 14, 15, 6, 16, 17, 18, 19, 20, 21, 22, 23, 24, 25, 26, 27, 28, 29, 30, 31, 32, 33, 34] (by decide +kernel) (by decide +kernel)) (goodIn_sub (fun _ h => List.mem_cons_of_mem _ (List.mem_append_left _ (List.mem_append_right _ h))) (by decide +kernel))) (goodIn_sub (fun _ h => List.mem_cons_of_mem _ (List.mem_append_right _ h)) (by decide +kernel))
set_option maxRecDepth 20000 in
theorem gL_setWeights_X3_setWeights : GoodIn wsL_setWeights (wsV RL 7 RX3 yX3_setWeights wsX3_setWeights) := goodIn_app (goodIn_of _ (by decide +kernel)) ggL_setWeights_X3_setWeights
theorem dL_setWeights_0 : decode cL_setWeights 0 = .ok (.aload 4, 2) := by decide +kernel
theorem dL_setWeights_2 : decode cL_setWeights 2 = .ok (.iconst 0, 1) := by decide +kernel
theorem dL_setWeights_3 : decode cL_setWeights 3 = .ok (.aload_n 0, 1) := by decide +kernel
theorem dL_setWeights_4 : decode cL_setWeights 4 = .ok (.iload_n 1, 1) := by decide +kernel
theorem dL_setWeights_5 : decode cL_setWeights 5 = .ok (.iload_n 2, 1) := by decide +kernel
theorem dL_setWeights_6 : decode cL_setWeights 6 = .ok (.iload_n 3, 1) := by decide +kernel
theorem dL_setWeights_7 : decode cL_setWeights 7 = .ok (.invokevirtual 7, 3) := by decide +kernel
theorem dL_setWeights_10 : decode cL_setWeights 10 = .ok (.i2l, 1) := by decide +kernel
theorem dL_setWeights_11 : decode cL_setWeights 11 = .ok (.lastore, 1) := by decide +kernel
theorem dL_setWeights_12 : decode cL_setWeights 12 = .ok (.goto 11, 3) := by decide +kernel
theorem dL_setWeights_15 : decode cL_setWeights 15 = .ok (.astore 5, 2) := by decide +kernel
theorem dL_setWeights_17 : decode cL_setWeights 17 = .ok (.iconst 1, 1) := by decide +kernel
theorem dL_setWeights_18 : decode cL_setWeights 18 = .ok (.ireturn, 1) := by decide +kernel
theorem dL_setWeights_19 : decode cL_setWeights 19 = .ok (.astore 5, 2) := by decide +kernel
theorem dL_setWeights_21 : decode cL_setWeights 21 = .ok (.iconst 2, 1) := by decide +kernel
theorem dL_setWeights_22 : decode cL_setWeights 22 = .ok (.ireturn, 1) := by decide +kernel
theorem dL_setWeights_23 : decode cL_setWeights 23 = .ok (.iconst 0, 1) := by decide +kernel
theorem dL_setWeights_24 : decode cL_setWeights 24 = .ok (.ireturn, 1) := by decide +kernel
set_option maxRecDepth 20000 in
theorem ggL_setFloor_X3_setFloor : GoodIn wsL_setFloor wsX3_setFloor := goodIn_ca (goodIn_r _ [6, 7, 8, 9, 10, 11, 5, 12, 13, 14, 15, 16, 17, 18, 19, 20, 21] (by decide +kernel) (by decide +kernel)) (goodIn_sub (fun _ h => List.mem_cons_of_mem _ (List.mem_append_right _ h)) (by decide +kernel))
set_option maxRecDepth 20000 in
theorem gL_setFloor_X3_setFloor : GoodIn wsL_setFloor (wsV RL 17 RX3 yX3_setFloor wsX3_setFloor) := goodIn_app (goodIn_of _ (by decide +kernel)) ggL_setFloor_X3_setFloor
theorem dL_setFloor_0 : decode cL_setFloor 0 = .ok (.aload_n 2, 1) := by decide +kernel
theorem dL_setFloor_1 : decode cL_setFloor 1 = .ok (.iconst 0, 1) := by decide +kernel
theorem dL_setFloor_2 : decode cL_setFloor 2 = .ok (.aload_n 0, 1) := by decide +kernel
theorem dL_setFloor_3 : decode cL_setFloor 3 = .ok (.iload_n 1, 1) := by decide +kernel
theorem dL_setFloor_4 : decode cL_setFloor 4 = .ok (.invokevirtual 17, 3) := by decide +kernel
theorem dL_setFloor_7 : decode cL_setFloor 7 = .ok (.i2l, 1) := by decide +kernel
theorem dL_setFloor_8 : decode cL_setFloor 8 = .ok (.lastore, 1) := by decide +kernel
theorem dL_setFloor_9 : decode cL_setFloor 9 = .ok (.goto 6, 3) := by decide +kernel
theorem dL_setFloor_12 : decode cL_setFloor 12 = .ok (.astore_n 3, 1) := by decide +kernel
theorem dL_setFloor_13 : decode cL_setFloor 13 = .ok (.iconst 1, 1) := by decide +kernel
theorem dL_setFloor_14 : decode cL_setFloor 14 = .ok (.ireturn, 1) := by decide +kernel
theorem dL_setFloor_15 : decode cL_setFloor 15 = .ok (.iconst 0, 1) := by decide +kernel
theorem dL_setFloor_16 : decode cL_setFloor 16 = .ok (.ireturn, 1) := by decide +kernel
set_option maxRecDepth 20000 in
theorem ggL_setCapital_X3_setCapital : GoodIn wsL_setCapital wsX3_setCapital := goodIn_ca (goodIn_r _ [6, 7, 8, 9, 10, 11, 12, 5, 13, 14, 15, 16, 17, 18, 19, 20, 21, 22] (by decide +kernel) (by decide +kernel)) (goodIn_sub (fun _ h => List.mem_cons_of_mem _ (List.mem_append_right _ h)) (by decide +kernel))
set_option maxRecDepth 20000 in
theorem gL_setCapital_X3_setCapital : GoodIn wsL_setCapital (wsV RL 21 RX3 yX3_setCapital wsX3_setCapital) := goodIn_app (goodIn_of _ (by decide +kernel)) ggL_setCapital_X3_setCapital
theorem dL_setCapital_0 : decode cL_setCapital 0 = .ok (.aload_n 2, 1) := by decide +kernel
theorem dL_setCapital_1 : decode cL_setCapital 1 = .ok (.iconst 0, 1) := by decide +kernel
theorem dL_setCapital_2 : decode cL_setCapital 2 = .ok (.aload_n 0, 1) := by decide +kernel
theorem dL_setCapital_3 : decode cL_setCapital 3 = .ok (.iload_n 1, 1) := by decide +kernel
theorem dL_setCapital_4 : decode cL_setCapital 4 = .ok (.invokevirtual 21, 3) := by decide +kernel
theorem dL_setCapital_7 : decode cL_setCapital 7 = .ok (.i2l, 1) := by decide +kernel
theorem dL_setCapital_8 : decode cL_setCapital 8 = .ok (.lastore, 1) := by decide +kernel
theorem dL_setCapital_9 : decode cL_setCapital 9 = .ok (.goto 6, 3) := by decide +kernel
theorem dL_setCapital_12 : decode cL_setCapital 12 = .ok (.astore_n 3, 1) := by decide +kernel
theorem dL_setCapital_13 : decode cL_setCapital 13 = .ok (.iconst 1, 1) := by decide +kernel
theorem dL_setCapital_14 : decode cL_setCapital 14 = .ok (.ireturn, 1) := by decide +kernel
theorem dL_setCapital_15 : decode cL_setCapital 15 = .ok (.iconst 0, 1) := by decide +kernel
theorem dL_setCapital_16 : decode cL_setCapital 16 = .ok (.ireturn, 1) := by decide +kernel
set_option maxRecDepth 20000 in
theorem ggL_addExposure_X3_addExposure : GoodIn wsL_addExposure wsX3_addExposure := goodIn_ca (goodIn_ca (goodIn_ca (goodIn_r _ [8, 9, 10, 11, 12, 13, 14, 15, 16, 17, 18, 19, 20, 21, 7, 22, 23, 24, 25, 26, 27, 28, 29, 30, 31, 32, 33, 34, 35, 36, 37, 38, 39, 40, 41, 42, 43, 44, 45, 46, 47, 48, 49, 50, 51, 52, 53, 54, 55, 56, 57, 58, 59, 60, 61, 62, 63, 64, 65, 66, 67, 68] (by decide +kernel) (by decide +kernel)) (goodIn_sub (fun _ h => List.mem_cons_of_mem _ (List.mem_append_left _ (List.mem_append_left _ (List.mem_append_right _ h)))) (by decide +kernel))) (goodIn_sub (fun _ h => List.mem_cons_of_mem _ (List.mem_append_left _ (List.mem_append_right _ h))) (by decide +kernel))) (goodIn_sub (fun _ h => List.mem_cons_of_mem _ (List.mem_append_right _ h)) (by decide +kernel))
set_option maxRecDepth 20000 in
theorem gL_addExposure_X3_addExposure : GoodIn wsL_addExposure (wsV RL 24 RX3 yX3_addExposure wsX3_addExposure) := goodIn_app (goodIn_of _ (by decide +kernel)) ggL_addExposure_X3_addExposure
theorem dL_addExposure_0 : decode cL_addExposure 0 = .ok (.aload 7, 2) := by decide +kernel
theorem dL_addExposure_2 : decode cL_addExposure 2 = .ok (.iconst 0, 1) := by decide +kernel
theorem dL_addExposure_3 : decode cL_addExposure 3 = .ok (.aload_n 0, 1) := by decide +kernel
theorem dL_addExposure_4 : decode cL_addExposure 4 = .ok (.iload_n 1, 1) := by decide +kernel
theorem dL_addExposure_5 : decode cL_addExposure 5 = .ok (.iload_n 2, 1) := by decide +kernel
theorem dL_addExposure_6 : decode cL_addExposure 6 = .ok (.iload_n 3, 1) := by decide +kernel
theorem dL_addExposure_7 : decode cL_addExposure 7 = .ok (.iload 4, 2) := by decide +kernel
theorem dL_addExposure_9 : decode cL_addExposure 9 = .ok (.iload 5, 2) := by decide +kernel
theorem dL_addExposure_11 : decode cL_addExposure 11 = .ok (.iload 6, 2) := by decide +kernel
theorem dL_addExposure_13 : decode cL_addExposure 13 = .ok (.invokevirtual 24, 3) := by decide +kernel
theorem dL_addExposure_16 : decode cL_addExposure 16 = .ok (.i2l, 1) := by decide +kernel
theorem dL_addExposure_17 : decode cL_addExposure 17 = .ok (.lastore, 1) := by decide +kernel
theorem dL_addExposure_18 : decode cL_addExposure 18 = .ok (.goto 15, 3) := by decide +kernel
theorem dL_addExposure_21 : decode cL_addExposure 21 = .ok (.astore 8, 2) := by decide +kernel
theorem dL_addExposure_23 : decode cL_addExposure 23 = .ok (.iconst 1, 1) := by decide +kernel
theorem dL_addExposure_24 : decode cL_addExposure 24 = .ok (.ireturn, 1) := by decide +kernel
theorem dL_addExposure_25 : decode cL_addExposure 25 = .ok (.astore 8, 2) := by decide +kernel
theorem dL_addExposure_27 : decode cL_addExposure 27 = .ok (.iconst 2, 1) := by decide +kernel
theorem dL_addExposure_28 : decode cL_addExposure 28 = .ok (.ireturn, 1) := by decide +kernel
theorem dL_addExposure_29 : decode cL_addExposure 29 = .ok (.astore 8, 2) := by decide +kernel
theorem dL_addExposure_31 : decode cL_addExposure 31 = .ok (.iconst 3, 1) := by decide +kernel
theorem dL_addExposure_32 : decode cL_addExposure 32 = .ok (.ireturn, 1) := by decide +kernel
theorem dL_addExposure_33 : decode cL_addExposure 33 = .ok (.iconst 0, 1) := by decide +kernel
theorem dL_addExposure_34 : decode cL_addExposure 34 = .ok (.ireturn, 1) := by decide +kernel
set_option maxRecDepth 20000 in
theorem ggL_draw_X3_draw : GoodIn wsL_draw wsX3_draw := goodIn_ca (goodIn_ca (goodIn_ca (goodIn_r _ [8, 9, 10, 11, 12, 13, 14, 15, 16, 17, 18, 19, 7, 20, 21, 22, 23, 24, 25, 26, 27, 28, 29, 30, 31, 32, 33, 34, 35, 36, 37, 38, 39, 40, 41, 42, 43, 44] (by decide +kernel) (by decide +kernel)) (goodIn_sub (fun _ h => List.mem_cons_of_mem _ (List.mem_append_left _ (List.mem_append_left _ (List.mem_append_right _ h)))) (by decide +kernel))) (goodIn_sub (fun _ h => List.mem_cons_of_mem _ (List.mem_append_left _ (List.mem_append_right _ h))) (by decide +kernel))) (goodIn_sub (fun _ h => List.mem_cons_of_mem _ (List.mem_append_right _ h)) (by decide +kernel))
set_option maxRecDepth 20000 in
theorem gL_draw_X3_draw : GoodIn wsL_draw (wsV RL 30 RX3 yX3_draw wsX3_draw) := goodIn_app (goodIn_of _ (by decide +kernel)) ggL_draw_X3_draw
theorem dL_draw_0 : decode cL_draw 0 = .ok (.aload_n 3, 1) := by decide +kernel
theorem dL_draw_1 : decode cL_draw 1 = .ok (.iconst 0, 1) := by decide +kernel
theorem dL_draw_2 : decode cL_draw 2 = .ok (.aload_n 0, 1) := by decide +kernel
theorem dL_draw_3 : decode cL_draw 3 = .ok (.iload_n 1, 1) := by decide +kernel
theorem dL_draw_4 : decode cL_draw 4 = .ok (.iload_n 2, 1) := by decide +kernel
theorem dL_draw_5 : decode cL_draw 5 = .ok (.invokevirtual 30, 3) := by decide +kernel
theorem dL_draw_8 : decode cL_draw 8 = .ok (.i2l, 1) := by decide +kernel
theorem dL_draw_9 : decode cL_draw 9 = .ok (.lastore, 1) := by decide +kernel
theorem dL_draw_10 : decode cL_draw 10 = .ok (.goto 15, 3) := by decide +kernel
theorem dL_draw_13 : decode cL_draw 13 = .ok (.astore 4, 2) := by decide +kernel
theorem dL_draw_15 : decode cL_draw 15 = .ok (.iconst 1, 1) := by decide +kernel
theorem dL_draw_16 : decode cL_draw 16 = .ok (.ireturn, 1) := by decide +kernel
theorem dL_draw_17 : decode cL_draw 17 = .ok (.astore 4, 2) := by decide +kernel
theorem dL_draw_19 : decode cL_draw 19 = .ok (.iconst 2, 1) := by decide +kernel
theorem dL_draw_20 : decode cL_draw 20 = .ok (.ireturn, 1) := by decide +kernel
theorem dL_draw_21 : decode cL_draw 21 = .ok (.astore 4, 2) := by decide +kernel
theorem dL_draw_23 : decode cL_draw 23 = .ok (.iconst 3, 1) := by decide +kernel
theorem dL_draw_24 : decode cL_draw 24 = .ok (.ireturn, 1) := by decide +kernel
theorem dL_draw_25 : decode cL_draw 25 = .ok (.iconst 0, 1) := by decide +kernel
theorem dL_draw_26 : decode cL_draw 26 = .ok (.ireturn, 1) := by decide +kernel
set_option maxRecDepth 20000 in
theorem ggL_setClass_X3_setClass : GoodIn wsL_setClass wsX3_setClass := goodIn_ca (goodIn_r _ [6, 7, 8, 9, 10, 11, 5, 12, 13, 14, 15, 16, 17, 18, 19, 20, 21, 22, 23, 24, 25, 26, 27, 28, 29, 30, 31, 32, 33, 34, 35, 36] (by decide +kernel) (by decide +kernel)) (goodIn_sub (fun _ h => List.mem_cons_of_mem _ (List.mem_append_right _ h)) (by decide +kernel))
set_option maxRecDepth 20000 in
theorem gL_setClass_X3_setClass : GoodIn wsL_setClass (wsV RL 34 RX3 yX3_setClass wsX3_setClass) := goodIn_app (goodIn_of _ (by decide +kernel)) ggL_setClass_X3_setClass
theorem dL_setClass_0 : decode cL_setClass 0 = .ok (.aload_n 3, 1) := by decide +kernel
theorem dL_setClass_1 : decode cL_setClass 1 = .ok (.iconst 0, 1) := by decide +kernel
theorem dL_setClass_2 : decode cL_setClass 2 = .ok (.aload_n 0, 1) := by decide +kernel
theorem dL_setClass_3 : decode cL_setClass 3 = .ok (.iload_n 1, 1) := by decide +kernel
theorem dL_setClass_4 : decode cL_setClass 4 = .ok (.iload_n 2, 1) := by decide +kernel
theorem dL_setClass_5 : decode cL_setClass 5 = .ok (.invokevirtual 34, 3) := by decide +kernel
theorem dL_setClass_8 : decode cL_setClass 8 = .ok (.i2l, 1) := by decide +kernel
theorem dL_setClass_9 : decode cL_setClass 9 = .ok (.lastore, 1) := by decide +kernel
theorem dL_setClass_10 : decode cL_setClass 10 = .ok (.goto 7, 3) := by decide +kernel
theorem dL_setClass_13 : decode cL_setClass 13 = .ok (.astore 4, 2) := by decide +kernel
theorem dL_setClass_15 : decode cL_setClass 15 = .ok (.iconst 1, 1) := by decide +kernel
theorem dL_setClass_16 : decode cL_setClass 16 = .ok (.ireturn, 1) := by decide +kernel
theorem dL_setClass_17 : decode cL_setClass 17 = .ok (.iconst 0, 1) := by decide +kernel
theorem dL_setClass_18 : decode cL_setClass 18 = .ok (.ireturn, 1) := by decide +kernel
set_option maxRecDepth 20000 in
theorem ggL_guarantee_X3_guarantee : GoodIn wsL_guarantee wsX3_guarantee := goodIn_ca (goodIn_ca (goodIn_r _ [7, 8, 9, 10, 11, 12, 13, 14, 6, 15, 16, 17, 18, 19, 20, 21, 22, 23, 24, 25, 26, 27, 28, 29, 30, 31, 32, 33, 34, 35, 36, 37, 38, 39, 40, 41, 42, 43] (by decide +kernel) (by decide +kernel)) (goodIn_sub (fun _ h => List.mem_cons_of_mem _ (List.mem_append_left _ (List.mem_append_right _ h))) (by decide +kernel))) (goodIn_sub (fun _ h => List.mem_cons_of_mem _ (List.mem_append_right _ h)) (by decide +kernel))
set_option maxRecDepth 20000 in
theorem gL_guarantee_X3_guarantee : GoodIn wsL_guarantee (wsV RL 37 RX3 yX3_guarantee wsX3_guarantee) := goodIn_app (goodIn_of _ (by decide +kernel)) ggL_guarantee_X3_guarantee
theorem dL_guarantee_0 : decode cL_guarantee 0 = .ok (.aload 4, 2) := by decide +kernel
theorem dL_guarantee_2 : decode cL_guarantee 2 = .ok (.iconst 0, 1) := by decide +kernel
theorem dL_guarantee_3 : decode cL_guarantee 3 = .ok (.aload_n 0, 1) := by decide +kernel
theorem dL_guarantee_4 : decode cL_guarantee 4 = .ok (.iload_n 1, 1) := by decide +kernel
theorem dL_guarantee_5 : decode cL_guarantee 5 = .ok (.iload_n 2, 1) := by decide +kernel
theorem dL_guarantee_6 : decode cL_guarantee 6 = .ok (.iload_n 3, 1) := by decide +kernel
theorem dL_guarantee_7 : decode cL_guarantee 7 = .ok (.invokevirtual 37, 3) := by decide +kernel
theorem dL_guarantee_10 : decode cL_guarantee 10 = .ok (.i2l, 1) := by decide +kernel
theorem dL_guarantee_11 : decode cL_guarantee 11 = .ok (.lastore, 1) := by decide +kernel
theorem dL_guarantee_12 : decode cL_guarantee 12 = .ok (.goto 11, 3) := by decide +kernel
theorem dL_guarantee_15 : decode cL_guarantee 15 = .ok (.astore 5, 2) := by decide +kernel
theorem dL_guarantee_17 : decode cL_guarantee 17 = .ok (.iconst 1, 1) := by decide +kernel
theorem dL_guarantee_18 : decode cL_guarantee 18 = .ok (.ireturn, 1) := by decide +kernel
theorem dL_guarantee_19 : decode cL_guarantee 19 = .ok (.astore 5, 2) := by decide +kernel
theorem dL_guarantee_21 : decode cL_guarantee 21 = .ok (.iconst 2, 1) := by decide +kernel
theorem dL_guarantee_22 : decode cL_guarantee 22 = .ok (.ireturn, 1) := by decide +kernel
theorem dL_guarantee_23 : decode cL_guarantee 23 = .ok (.iconst 0, 1) := by decide +kernel
theorem dL_guarantee_24 : decode cL_guarantee 24 = .ok (.ireturn, 1) := by decide +kernel
set_option maxRecDepth 20000 in
theorem ggL_amount_X3_amount : GoodIn wsL_amount wsX3_amount := goodIn_ca (goodIn_r _ [6, 7, 8, 9, 10, 11, 5, 12, 13, 14, 15, 16, 17, 18, 19, 20, 21, 22, 23, 24, 25, 26, 27, 28, 29, 30, 31, 32, 33, 34, 35, 36, 37, 38, 39] (by decide +kernel) (by decide +kernel)) (goodIn_sub (fun _ h => List.mem_cons_of_mem _ (List.mem_append_right _ h)) (by decide +kernel))
set_option maxRecDepth 20000 in
theorem gL_amount_X3_amount : GoodIn wsL_amount (wsV RL 40 RX3 yX3_amount wsX3_amount) := goodIn_app (goodIn_of _ (by decide +kernel)) ggL_amount_X3_amount
theorem dL_amount_0 : decode cL_amount 0 = .ok (.aload_n 2, 1) := by decide +kernel
theorem dL_amount_1 : decode cL_amount 1 = .ok (.iconst 0, 1) := by decide +kernel
theorem dL_amount_2 : decode cL_amount 2 = .ok (.aload_n 0, 1) := by decide +kernel
theorem dL_amount_3 : decode cL_amount 3 = .ok (.iload_n 1, 1) := by decide +kernel
theorem dL_amount_4 : decode cL_amount 4 = .ok (.invokevirtual 40, 3) := by decide +kernel
theorem dL_amount_7 : decode cL_amount 7 = .ok (.i2l, 1) := by decide +kernel
theorem dL_amount_8 : decode cL_amount 8 = .ok (.lastore, 1) := by decide +kernel
theorem dL_amount_9 : decode cL_amount 9 = .ok (.goto 6, 3) := by decide +kernel
theorem dL_amount_12 : decode cL_amount 12 = .ok (.astore_n 3, 1) := by decide +kernel
theorem dL_amount_13 : decode cL_amount 13 = .ok (.iconst 1, 1) := by decide +kernel
theorem dL_amount_14 : decode cL_amount 14 = .ok (.ireturn, 1) := by decide +kernel
theorem dL_amount_15 : decode cL_amount 15 = .ok (.iconst 0, 1) := by decide +kernel
theorem dL_amount_16 : decode cL_amount 16 = .ok (.ireturn, 1) := by decide +kernel
set_option maxRecDepth 20000 in
theorem ggL_addPiece_X3_addPiece : GoodIn wsL_addPiece wsX3_addPiece := goodIn_ca (goodIn_ca (goodIn_r _ [7, 8, 9, 10, 11, 12, 13, 14, 15, 16, 17, 18, 6, 19, 20, 21, 22, 23, 24, 25, 26, 27, 28, 29, 30, 31, 32, 33, 34, 35, 36, 37, 38, 39, 40, 41, 42, 43, 44, 45, 46, 47, 48, 49, 50, 51, 52, 53, 54, 55, 56] (by decide +kernel) (by decide +kernel)) (goodIn_sub (fun _ h => List.mem_cons_of_mem _ (List.mem_append_left _ (List.mem_append_right _ h))) (by decide +kernel))) (goodIn_sub (fun _ h => List.mem_cons_of_mem _ (List.mem_append_right _ h)) (by decide +kernel))
set_option maxRecDepth 20000 in
theorem gL_addPiece_X3_addPiece : GoodIn wsL_addPiece (wsV RL 43 RX3 yX3_addPiece wsX3_addPiece) := goodIn_app (goodIn_of _ (by decide +kernel)) ggL_addPiece_X3_addPiece
theorem dL_addPiece_0 : decode cL_addPiece 0 = .ok (.aload 6, 2) := by decide +kernel
theorem dL_addPiece_2 : decode cL_addPiece 2 = .ok (.iconst 0, 1) := by decide +kernel
theorem dL_addPiece_3 : decode cL_addPiece 3 = .ok (.aload_n 0, 1) := by decide +kernel
theorem dL_addPiece_4 : decode cL_addPiece 4 = .ok (.iload_n 1, 1) := by decide +kernel
theorem dL_addPiece_5 : decode cL_addPiece 5 = .ok (.iload_n 2, 1) := by decide +kernel
theorem dL_addPiece_6 : decode cL_addPiece 6 = .ok (.iload_n 3, 1) := by decide +kernel
theorem dL_addPiece_7 : decode cL_addPiece 7 = .ok (.iload 4, 2) := by decide +kernel
theorem dL_addPiece_9 : decode cL_addPiece 9 = .ok (.iload 5, 2) := by decide +kernel
theorem dL_addPiece_11 : decode cL_addPiece 11 = .ok (.invokevirtual 43, 3) := by decide +kernel
theorem dL_addPiece_14 : decode cL_addPiece 14 = .ok (.i2l, 1) := by decide +kernel
theorem dL_addPiece_15 : decode cL_addPiece 15 = .ok (.lastore, 1) := by decide +kernel
theorem dL_addPiece_16 : decode cL_addPiece 16 = .ok (.goto 11, 3) := by decide +kernel
theorem dL_addPiece_19 : decode cL_addPiece 19 = .ok (.astore 7, 2) := by decide +kernel
theorem dL_addPiece_21 : decode cL_addPiece 21 = .ok (.iconst 1, 1) := by decide +kernel
theorem dL_addPiece_22 : decode cL_addPiece 22 = .ok (.ireturn, 1) := by decide +kernel
theorem dL_addPiece_23 : decode cL_addPiece 23 = .ok (.astore 7, 2) := by decide +kernel
theorem dL_addPiece_25 : decode cL_addPiece 25 = .ok (.iconst 2, 1) := by decide +kernel
theorem dL_addPiece_26 : decode cL_addPiece 26 = .ok (.ireturn, 1) := by decide +kernel
theorem dL_addPiece_27 : decode cL_addPiece 27 = .ok (.iconst 0, 1) := by decide +kernel
theorem dL_addPiece_28 : decode cL_addPiece 28 = .ok (.ireturn, 1) := by decide +kernel
set_option maxRecDepth 20000 in
theorem ggL_setPiece_X3_setPiece : GoodIn wsL_setPiece wsX3_setPiece := goodIn_ca (goodIn_ca (goodIn_r _ [7, 8, 9, 10, 11, 12, 13, 14, 6, 15, 16, 17, 18, 19, 20, 21, 22, 23, 24, 25, 26, 27, 28, 29, 30, 31, 32, 33, 34, 35, 36, 37, 38, 39, 40] (by decide +kernel) (by decide +kernel)) (goodIn_sub (fun _ h => List.mem_cons_of_mem _ (List.mem_append_left _ (List.mem_append_right _ h))) (by decide +kernel))) (goodIn_sub (fun _ h => List.mem_cons_of_mem _ (List.mem_append_right _ h)) (by decide +kernel))
set_option maxRecDepth 20000 in
theorem gL_setPiece_X3_setPiece : GoodIn wsL_setPiece (wsV RL 47 RX3 yX3_setPiece wsX3_setPiece) := goodIn_app (goodIn_of _ (by decide +kernel)) ggL_setPiece_X3_setPiece
theorem dL_setPiece_0 : decode cL_setPiece 0 = .ok (.aload 4, 2) := by decide +kernel
theorem dL_setPiece_2 : decode cL_setPiece 2 = .ok (.iconst 0, 1) := by decide +kernel
theorem dL_setPiece_3 : decode cL_setPiece 3 = .ok (.aload_n 0, 1) := by decide +kernel
theorem dL_setPiece_4 : decode cL_setPiece 4 = .ok (.iload_n 1, 1) := by decide +kernel
theorem dL_setPiece_5 : decode cL_setPiece 5 = .ok (.iload_n 2, 1) := by decide +kernel
theorem dL_setPiece_6 : decode cL_setPiece 6 = .ok (.iload_n 3, 1) := by decide +kernel
theorem dL_setPiece_7 : decode cL_setPiece 7 = .ok (.invokevirtual 47, 3) := by decide +kernel
theorem dL_setPiece_10 : decode cL_setPiece 10 = .ok (.i2l, 1) := by decide +kernel
theorem dL_setPiece_11 : decode cL_setPiece 11 = .ok (.lastore, 1) := by decide +kernel
theorem dL_setPiece_12 : decode cL_setPiece 12 = .ok (.goto 11, 3) := by decide +kernel
theorem dL_setPiece_15 : decode cL_setPiece 15 = .ok (.astore 5, 2) := by decide +kernel
theorem dL_setPiece_17 : decode cL_setPiece 17 = .ok (.iconst 1, 1) := by decide +kernel
theorem dL_setPiece_18 : decode cL_setPiece 18 = .ok (.ireturn, 1) := by decide +kernel
theorem dL_setPiece_19 : decode cL_setPiece 19 = .ok (.astore 5, 2) := by decide +kernel
theorem dL_setPiece_21 : decode cL_setPiece 21 = .ok (.iconst 2, 1) := by decide +kernel
theorem dL_setPiece_22 : decode cL_setPiece 22 = .ok (.ireturn, 1) := by decide +kernel
theorem dL_setPiece_23 : decode cL_setPiece 23 = .ok (.iconst 0, 1) := by decide +kernel
theorem dL_setPiece_24 : decode cL_setPiece 24 = .ok (.ireturn, 1) := by decide +kernel
set_option maxRecDepth 20000 in
theorem ggL_value_X3_value : GoodIn wsL_value wsX3_value := goodIn_ca (goodIn_r _ [6, 7, 8, 9, 10, 11, 5, 12, 13, 14, 15, 16, 17, 18, 19, 20, 21, 22, 23, 24, 25, 26, 27, 28, 29, 30, 31, 32, 33, 34, 35, 36, 37, 38, 39, 40, 41, 42, 43, 44, 45, 46, 47, 48, 49, 50, 51] (by decide +kernel) (by decide +kernel)) (goodIn_sub (fun _ h => List.mem_cons_of_mem _ (List.mem_append_right _ h)) (by decide +kernel))
set_option maxRecDepth 20000 in
theorem gL_value_X3_value : GoodIn wsL_value (wsV RL 50 RX3 yX3_value wsX3_value) := goodIn_app (goodIn_of _ (by decide +kernel)) ggL_value_X3_value
theorem dL_value_0 : decode cL_value 0 = .ok (.aload_n 3, 1) := by decide +kernel
theorem dL_value_1 : decode cL_value 1 = .ok (.iconst 0, 1) := by decide +kernel
theorem dL_value_2 : decode cL_value 2 = .ok (.aload_n 0, 1) := by decide +kernel
theorem dL_value_3 : decode cL_value 3 = .ok (.iload_n 1, 1) := by decide +kernel
theorem dL_value_4 : decode cL_value 4 = .ok (.iload_n 2, 1) := by decide +kernel
theorem dL_value_5 : decode cL_value 5 = .ok (.invokevirtual 50, 3) := by decide +kernel
theorem dL_value_8 : decode cL_value 8 = .ok (.i2l, 1) := by decide +kernel
theorem dL_value_9 : decode cL_value 9 = .ok (.lastore, 1) := by decide +kernel
theorem dL_value_10 : decode cL_value 10 = .ok (.goto 7, 3) := by decide +kernel
theorem dL_value_13 : decode cL_value 13 = .ok (.astore 4, 2) := by decide +kernel
theorem dL_value_15 : decode cL_value 15 = .ok (.iconst 1, 1) := by decide +kernel
theorem dL_value_16 : decode cL_value 16 = .ok (.ireturn, 1) := by decide +kernel
theorem dL_value_17 : decode cL_value 17 = .ok (.iconst 0, 1) := by decide +kernel
theorem dL_value_18 : decode cL_value 18 = .ok (.ireturn, 1) := by decide +kernel
set_option maxRecDepth 20000 in
theorem ggL_givenTo_X3_givenTo : GoodIn wsL_givenTo wsX3_givenTo := goodIn_ca (goodIn_r _ [6, 7, 8, 9, 10, 11, 12, 5, 13, 14, 15, 16, 17, 18, 19, 20, 21, 22, 23, 24, 25, 26, 27, 28, 29, 30, 31, 32, 33, 34, 35, 36, 37, 38, 39, 40, 41, 42, 43, 44, 45, 46, 47, 48, 49, 50, 51, 52, 53, 54, 55, 56, 57, 58, 59, 60, 61, 62, 63, 64, 65, 66, 67, 68, 69, 70, 71, 72, 73, 74, 75, 76, 77, 78, 79, 80, 81, 82, 83, 84, 85, 86, 87, 88, 89, 90, 91, 92, 93, 94, 95, 96, 97, 98, 99, 100, 101, 102, 103, 104, 105, 106, 107, 108, 109, 110, 111, 112, 113, 114, 115, 116, 117, 118, 119, 120, 121, 122, 123, 124, 125, 126, 127, 128, 129, 130, 131, 132, 133, 134, 135, 136, 137, 138, 139, 140, 141, 142, 143, 144, 145, 146, 147, 148, 149, 150, 151, 152, 153, 154, 155, 156, 157, 158, 159, 160, 161, 162, 163, 164] (by decide +kernel) (by decide +kernel)) (goodIn_sub (fun _ h => List.mem_cons_of_mem _ (List.mem_append_right _ h)) (by decide +kernel))
set_option maxRecDepth 20000 in
theorem gL_givenTo_X3_givenTo : GoodIn wsL_givenTo (wsV RL 53 RX3 yX3_givenTo wsX3_givenTo) := goodIn_app (goodIn_of _ (by decide +kernel)) ggL_givenTo_X3_givenTo
theorem dL_givenTo_0 : decode cL_givenTo 0 = .ok (.aload_n 2, 1) := by decide +kernel
theorem dL_givenTo_1 : decode cL_givenTo 1 = .ok (.iconst 0, 1) := by decide +kernel
theorem dL_givenTo_2 : decode cL_givenTo 2 = .ok (.aload_n 0, 1) := by decide +kernel
theorem dL_givenTo_3 : decode cL_givenTo 3 = .ok (.iload_n 1, 1) := by decide +kernel
theorem dL_givenTo_4 : decode cL_givenTo 4 = .ok (.invokevirtual 53, 3) := by decide +kernel
theorem dL_givenTo_7 : decode cL_givenTo 7 = .ok (.i2l, 1) := by decide +kernel
theorem dL_givenTo_8 : decode cL_givenTo 8 = .ok (.lastore, 1) := by decide +kernel
theorem dL_givenTo_9 : decode cL_givenTo 9 = .ok (.goto 6, 3) := by decide +kernel
theorem dL_givenTo_12 : decode cL_givenTo 12 = .ok (.astore_n 3, 1) := by decide +kernel
theorem dL_givenTo_13 : decode cL_givenTo 13 = .ok (.iconst 1, 1) := by decide +kernel
theorem dL_givenTo_14 : decode cL_givenTo 14 = .ok (.ireturn, 1) := by decide +kernel
theorem dL_givenTo_15 : decode cL_givenTo 15 = .ok (.iconst 0, 1) := by decide +kernel
theorem dL_givenTo_16 : decode cL_givenTo 16 = .ok (.ireturn, 1) := by decide +kernel
set_option maxRecDepth 20000 in
theorem ggL_bare_X3_bare : GoodIn wsL_bare wsX3_bare := goodIn_ca (goodIn_r _ [6, 7, 8, 9, 10, 11, 12, 5, 13, 14, 15, 16, 17, 18, 19, 20, 21, 22, 23, 24, 25, 26, 27, 28, 29, 30, 31, 32, 33, 34, 35, 36, 37, 38, 39, 40, 41, 42, 43, 44, 45, 46, 47, 48, 49, 50, 51, 52, 53, 54, 55, 56, 57, 58, 59, 60, 61, 62, 63, 64, 65, 66, 67, 68, 69, 70, 71, 72, 73, 74, 75, 76, 77, 78, 79, 80, 81, 82, 83, 84, 85, 86, 87, 88, 89, 90, 91, 92, 93, 94, 95, 96, 97, 98, 99, 100, 101, 102, 103, 104, 105, 106, 107, 108, 109, 110, 111, 112, 113, 114, 115, 116, 117, 118, 119, 120, 121, 122, 123, 124, 125, 126, 127, 128, 129, 130, 131, 132, 133, 134, 135, 136, 137, 138, 139, 140, 141, 142, 143, 144, 145, 146, 147, 148, 149, 150, 151, 152, 153, 154, 155, 156, 157, 158, 159, 160, 161, 162, 163, 164, 165, 166, 167, 168] (by decide +kernel) (by decide +kernel)) (goodIn_sub (fun _ h => List.mem_cons_of_mem _ (List.mem_append_right _ h)) (by decide +kernel))
set_option maxRecDepth 20000 in
theorem gL_bare_X3_bare : GoodIn wsL_bare (wsV RL 56 RX3 yX3_bare wsX3_bare) := goodIn_app (goodIn_of _ (by decide +kernel)) ggL_bare_X3_bare
theorem dL_bare_0 : decode cL_bare 0 = .ok (.aload_n 2, 1) := by decide +kernel
theorem dL_bare_1 : decode cL_bare 1 = .ok (.iconst 0, 1) := by decide +kernel
theorem dL_bare_2 : decode cL_bare 2 = .ok (.aload_n 0, 1) := by decide +kernel
theorem dL_bare_3 : decode cL_bare 3 = .ok (.iload_n 1, 1) := by decide +kernel
theorem dL_bare_4 : decode cL_bare 4 = .ok (.invokevirtual 56, 3) := by decide +kernel
theorem dL_bare_7 : decode cL_bare 7 = .ok (.i2l, 1) := by decide +kernel
theorem dL_bare_8 : decode cL_bare 8 = .ok (.lastore, 1) := by decide +kernel
theorem dL_bare_9 : decode cL_bare 9 = .ok (.goto 6, 3) := by decide +kernel
theorem dL_bare_12 : decode cL_bare 12 = .ok (.astore_n 3, 1) := by decide +kernel
theorem dL_bare_13 : decode cL_bare 13 = .ok (.iconst 1, 1) := by decide +kernel
theorem dL_bare_14 : decode cL_bare 14 = .ok (.ireturn, 1) := by decide +kernel
theorem dL_bare_15 : decode cL_bare 15 = .ok (.iconst 0, 1) := by decide +kernel
theorem dL_bare_16 : decode cL_bare 16 = .ok (.ireturn, 1) := by decide +kernel
set_option maxRecDepth 20000 in
theorem ggL_weighted_X3_weighted : GoodIn wsL_weighted wsX3_weighted := goodIn_ca (goodIn_r _ [6, 7, 8, 9, 10, 11, 12, 5, 13, 14, 15, 16, 17, 18, 19, 20, 21, 22, 23, 24, 25, 26, 27, 28, 29, 30, 31, 32, 33, 34, 35, 36, 37, 38, 39, 40, 41, 42, 43, 44, 45, 46, 47, 48, 49, 50, 51, 52, 53, 54, 55, 56, 57, 58, 59, 60, 61, 62, 63, 64, 65, 66, 67, 68, 69, 70, 71, 72, 73, 74, 75, 76, 77, 78, 79, 80, 81, 82, 83, 84, 85, 86, 87, 88, 89, 90, 91, 92, 93, 94, 95, 96, 97, 98, 99, 100, 101, 102, 103, 104, 105, 106, 107, 108, 109, 110, 111, 112, 113, 114, 115, 116, 117, 118, 119, 120, 121, 122, 123, 124, 125, 126, 127, 128, 129, 130, 131, 132, 133, 134, 135, 136, 137, 138, 139, 140, 141, 142, 143, 144, 145, 146, 147, 148, 149, 150, 151, 152, 153, 154, 155, 156, 157, 158, 159, 160, 161, 162, 163, 164, 165, 166, 167, 168] (by decide +kernel) (by decide +kernel)) (goodIn_sub (fun _ h => List.mem_cons_of_mem _ (List.mem_append_right _ h)) (by decide +kernel))
set_option maxRecDepth 20000 in
theorem gL_weighted_X3_weighted : GoodIn wsL_weighted (wsV RL 59 RX3 yX3_weighted wsX3_weighted) := goodIn_app (goodIn_of _ (by decide +kernel)) ggL_weighted_X3_weighted
theorem dL_weighted_0 : decode cL_weighted 0 = .ok (.aload_n 2, 1) := by decide +kernel
theorem dL_weighted_1 : decode cL_weighted 1 = .ok (.iconst 0, 1) := by decide +kernel
theorem dL_weighted_2 : decode cL_weighted 2 = .ok (.aload_n 0, 1) := by decide +kernel
theorem dL_weighted_3 : decode cL_weighted 3 = .ok (.iload_n 1, 1) := by decide +kernel
theorem dL_weighted_4 : decode cL_weighted 4 = .ok (.invokevirtual 59, 3) := by decide +kernel
theorem dL_weighted_7 : decode cL_weighted 7 = .ok (.i2l, 1) := by decide +kernel
theorem dL_weighted_8 : decode cL_weighted 8 = .ok (.lastore, 1) := by decide +kernel
theorem dL_weighted_9 : decode cL_weighted 9 = .ok (.goto 6, 3) := by decide +kernel
theorem dL_weighted_12 : decode cL_weighted 12 = .ok (.astore_n 3, 1) := by decide +kernel
theorem dL_weighted_13 : decode cL_weighted 13 = .ok (.iconst 1, 1) := by decide +kernel
theorem dL_weighted_14 : decode cL_weighted 14 = .ok (.ireturn, 1) := by decide +kernel
theorem dL_weighted_15 : decode cL_weighted 15 = .ok (.iconst 0, 1) := by decide +kernel
theorem dL_weighted_16 : decode cL_weighted 16 = .ok (.ireturn, 1) := by decide +kernel
set_option maxRecDepth 20000 in
theorem ggL_worth_X3_worth : GoodIn wsL_worth wsX3_worth := goodIn_ca (goodIn_r _ [6, 7, 8, 9, 10, 11, 12, 5, 13, 14, 15, 16, 17, 18, 19, 20, 21, 22, 23, 24, 25, 26, 27, 28, 29, 30, 31, 32, 33, 34, 35, 36, 37, 38, 39, 40, 41, 42, 43, 44, 45, 46, 47, 48, 49, 50, 51, 52, 53, 54, 55, 56, 57, 58, 59, 60, 61, 62, 63, 64, 65, 66, 67, 68, 69, 70, 71, 72, 73, 74, 75, 76, 77, 78, 79, 80, 81, 82, 83, 84, 85, 86, 87, 88, 89, 90, 91, 92, 93, 94, 95, 96, 97, 98, 99, 100, 101, 102, 103, 104, 105, 106, 107, 108, 109, 110, 111, 112, 113, 114, 115, 116, 117, 118, 119, 120, 121, 122, 123, 124, 125, 126, 127, 128, 129, 130, 131, 132, 133, 134, 135, 136, 137, 138, 139, 140, 141, 142, 143, 144, 145, 146, 147, 148, 149, 150, 151, 152, 153, 154, 155, 156, 157, 158, 159, 160, 161, 162, 163, 164, 165, 166, 167] (by decide +kernel) (by decide +kernel)) (goodIn_sub (fun _ h => List.mem_cons_of_mem _ (List.mem_append_right _ h)) (by decide +kernel))
set_option maxRecDepth 20000 in
theorem gL_worth_X3_worth : GoodIn wsL_worth (wsV RL 62 RX3 yX3_worth wsX3_worth) := goodIn_app (goodIn_of _ (by decide +kernel)) ggL_worth_X3_worth
theorem dL_worth_0 : decode cL_worth 0 = .ok (.aload_n 2, 1) := by decide +kernel
theorem dL_worth_1 : decode cL_worth 1 = .ok (.iconst 0, 1) := by decide +kernel
theorem dL_worth_2 : decode cL_worth 2 = .ok (.aload_n 0, 1) := by decide +kernel
theorem dL_worth_3 : decode cL_worth 3 = .ok (.iload_n 1, 1) := by decide +kernel
theorem dL_worth_4 : decode cL_worth 4 = .ok (.invokevirtual 62, 3) := by decide +kernel
theorem dL_worth_7 : decode cL_worth 7 = .ok (.i2l, 1) := by decide +kernel
theorem dL_worth_8 : decode cL_worth 8 = .ok (.lastore, 1) := by decide +kernel
theorem dL_worth_9 : decode cL_worth 9 = .ok (.goto 6, 3) := by decide +kernel
theorem dL_worth_12 : decode cL_worth 12 = .ok (.astore_n 3, 1) := by decide +kernel
theorem dL_worth_13 : decode cL_worth 13 = .ok (.iconst 1, 1) := by decide +kernel
theorem dL_worth_14 : decode cL_worth 14 = .ok (.ireturn, 1) := by decide +kernel
theorem dL_worth_15 : decode cL_worth 15 = .ok (.iconst 0, 1) := by decide +kernel
theorem dL_worth_16 : decode cL_worth 16 = .ok (.ireturn, 1) := by decide +kernel
set_option maxRecDepth 20000 in
theorem ggL_partyBare_X3_partyBare : GoodIn wsL_partyBare wsX3_partyBare := goodIn_ca (goodIn_r _ [6, 7, 8, 9, 10, 5, 11, 12, 13, 14, 15, 16, 17, 18, 19, 20, 21, 22, 23, 24, 25, 26, 27, 28, 29, 30, 31, 32, 33, 34, 35, 36, 37, 38, 39, 40, 41, 42, 43, 44, 45, 46, 47, 48, 49, 50, 51, 52, 53, 54, 55, 56, 57, 58, 59, 60, 61, 62, 63, 64, 65, 66, 67, 68, 69, 70, 71, 72, 73, 74, 75, 76, 77, 78, 79, 80, 81, 82, 83, 84, 85, 86, 87, 88, 89, 90, 91, 92, 93, 94, 95, 96, 97, 98, 99, 100, 101, 102, 103, 104, 105, 106, 107, 108, 109, 110, 111, 112, 113, 114, 115, 116, 117, 118, 119, 120, 121, 122, 123, 124, 125, 126, 127, 128, 129, 130, 131, 132, 133, 134, 135, 136, 137, 138, 139, 140, 141, 142, 143, 144, 145, 146, 147, 148, 149, 150, 151, 152, 153, 154, 155, 156, 157, 158, 159, 160, 161, 162, 163, 164, 165, 166, 167, 168, 169, 170, 171, 172, 173, 174, 175, 176, 177, 178] (by decide +kernel) (by decide +kernel)) (goodIn_sub (fun _ h => List.mem_cons_of_mem _ (List.mem_append_right _ h)) (by decide +kernel))
set_option maxRecDepth 20000 in
theorem gL_partyBare_X3_partyBare : GoodIn wsL_partyBare (wsV RL 65 RX3 yX3_partyBare wsX3_partyBare) := goodIn_app (goodIn_of _ (by decide +kernel)) ggL_partyBare_X3_partyBare
theorem dL_partyBare_0 : decode cL_partyBare 0 = .ok (.aload_n 2, 1) := by decide +kernel
theorem dL_partyBare_1 : decode cL_partyBare 1 = .ok (.iconst 0, 1) := by decide +kernel
theorem dL_partyBare_2 : decode cL_partyBare 2 = .ok (.aload_n 0, 1) := by decide +kernel
theorem dL_partyBare_3 : decode cL_partyBare 3 = .ok (.iload_n 1, 1) := by decide +kernel
theorem dL_partyBare_4 : decode cL_partyBare 4 = .ok (.invokevirtual 65, 3) := by decide +kernel
theorem dL_partyBare_7 : decode cL_partyBare 7 = .ok (.i2l, 1) := by decide +kernel
theorem dL_partyBare_8 : decode cL_partyBare 8 = .ok (.lastore, 1) := by decide +kernel
theorem dL_partyBare_9 : decode cL_partyBare 9 = .ok (.goto 6, 3) := by decide +kernel
theorem dL_partyBare_12 : decode cL_partyBare 12 = .ok (.astore_n 3, 1) := by decide +kernel
theorem dL_partyBare_13 : decode cL_partyBare 13 = .ok (.iconst 1, 1) := by decide +kernel
theorem dL_partyBare_14 : decode cL_partyBare 14 = .ok (.ireturn, 1) := by decide +kernel
theorem dL_partyBare_15 : decode cL_partyBare 15 = .ok (.iconst 0, 1) := by decide +kernel
theorem dL_partyBare_16 : decode cL_partyBare 16 = .ok (.ireturn, 1) := by decide +kernel
