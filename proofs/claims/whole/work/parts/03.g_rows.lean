theorem dL_probeWind_2 : decode cL_probeWind 2 = .ok (.aload_n 0, 1) := by decide +kernel
theorem dL_probeWind_3 : decode cL_probeWind 3 = .ok (.fload_n 1, 1) := by decide +kernel
theorem dL_probeWind_4 : decode cL_probeWind 4 = .ok (.invokevirtual 45, 3) := by decide +kernel
theorem dL_probeWind_7 : decode cL_probeWind 7 = .ok (.i2l, 1) := by decide +kernel
theorem dL_probeWind_8 : decode cL_probeWind 8 = .ok (.lastore, 1) := by decide +kernel
theorem dL_probeWind_9 : decode cL_probeWind 9 = .ok (.goto 6, 3) := by decide +kernel
theorem dL_probeWind_12 : decode cL_probeWind 12 = .ok (.astore_n 3, 1) := by decide +kernel
theorem dL_probeWind_13 : decode cL_probeWind 13 = .ok (.iconst 1, 1) := by decide +kernel
theorem dL_probeWind_14 : decode cL_probeWind 14 = .ok (.ireturn, 1) := by decide +kernel
theorem dL_probeWind_15 : decode cL_probeWind 15 = .ok (.iconst 0, 1) := by decide +kernel
theorem dL_probeWind_16 : decode cL_probeWind 16 = .ok (.ireturn, 1) := by decide +kernel
set_option maxRecDepth 20000 in
theorem ggL_probeOut_X0_probeOut : GoodIn wsL_probeOut wsX0_probeOut := goodIn_ca (goodIn_r _ [6, 7, 8, 5, 9, 10, 11, 12, 13, 14, 15, 16, 17, 18, 19, 20, 21, 22, 23, 24, 25, 26, 27, 28, 29, 30, 31, 32, 33, 34, 35, 36, 37, 38, 39, 40, 41, 42, 43, 44] (by decide +kernel) (by decide +kernel)) (goodIn_sub (fun _ h => List.mem_cons_of_mem _ (List.mem_append_right _ h)) (by decide +kernel))
set_option maxRecDepth 20000 in
theorem gL_probeOut_X0_probeOut : GoodIn wsL_probeOut (wsV RL 49 RX0 yX0_probeOut wsX0_probeOut) := goodIn_app (goodIn_of _ (by decide +kernel)) ggL_probeOut_X0_probeOut
theorem dL_probeOut_0 : decode cL_probeOut 0 = .ok (.aload_n 2, 1) := by decide +kernel
theorem dL_probeOut_1 : decode cL_probeOut 1 = .ok (.iconst 0, 1) := by decide +kernel
theorem dL_probeOut_2 : decode cL_probeOut 2 = .ok (.aload_n 0, 1) := by decide +kernel
theorem dL_probeOut_3 : decode cL_probeOut 3 = .ok (.iload_n 1, 1) := by decide +kernel
theorem dL_probeOut_4 : decode cL_probeOut 4 = .ok (.invokevirtual 49, 3) := by decide +kernel
theorem dL_probeOut_7 : decode cL_probeOut 7 = .ok (.i2l, 1) := by decide +kernel
theorem dL_probeOut_8 : decode cL_probeOut 8 = .ok (.lastore, 1) := by decide +kernel
theorem dL_probeOut_9 : decode cL_probeOut 9 = .ok (.goto 6, 3) := by decide +kernel
theorem dL_probeOut_12 : decode cL_probeOut 12 = .ok (.astore_n 3, 1) := by decide +kernel
theorem dL_probeOut_13 : decode cL_probeOut 13 = .ok (.iconst 1, 1) := by decide +kernel
theorem dL_probeOut_14 : decode cL_probeOut 14 = .ok (.ireturn, 1) := by decide +kernel
theorem dL_probeOut_15 : decode cL_probeOut 15 = .ok (.iconst 0, 1) := by decide +kernel
theorem dL_probeOut_16 : decode cL_probeOut 16 = .ok (.ireturn, 1) := by decide +kernel
set_option maxRecDepth 20000 in
theorem ggL_run_X0_run : GoodIn wsL_run wsX0_run := goodIn_ca (goodIn_r _ [6, 7, 8, 5, 9, 10, 11, 12, 13, 14, 15, 16, 17, 18, 19, 20, 21, 22, 23, 24, 25, 26, 27, 28, 29, 30, 31, 32, 33, 34, 35, 36, 37, 38, 39, 40, 41, 42, 43, 44, 45, 46] (by decide +kernel) (by decide +kernel)) (goodIn_sub (fun _ h => List.mem_cons_of_mem _ (List.mem_append_right _ h)) (by decide +kernel))
set_option maxRecDepth 20000 in
theorem gL_run_X0_run : GoodIn wsL_run (wsV RL 52 RX0 yX0_run wsX0_run) := goodIn_app (goodIn_of _ (by decide +kernel)) ggL_run_X0_run
theorem dL_run_0 : decode cL_run 0 = .ok (.aload 5, 2) := by decide +kernel
theorem dL_run_2 : decode cL_run 2 = .ok (.iconst 0, 1) := by decide +kernel
theorem dL_run_3 : decode cL_run 3 = .ok (.aload_n 0, 1) := by decide +kernel
theorem dL_run_4 : decode cL_run 4 = .ok (.iload_n 1, 1) := by decide +kernel
theorem dL_run_5 : decode cL_run 5 = .ok (.iload_n 2, 1) := by decide +kernel
theorem dL_run_6 : decode cL_run 6 = .ok (.iload_n 3, 1) := by decide +kernel
theorem dL_run_7 : decode cL_run 7 = .ok (.iload 4, 2) := by decide +kernel
theorem dL_run_9 : decode cL_run 9 = .ok (.invokevirtual 52, 3) := by decide +kernel
theorem dL_run_12 : decode cL_run 12 = .ok (.i2l, 1) := by decide +kernel
theorem dL_run_13 : decode cL_run 13 = .ok (.lastore, 1) := by decide +kernel
theorem dL_run_14 : decode cL_run 14 = .ok (.goto 7, 3) := by decide +kernel
theorem dL_run_17 : decode cL_run 17 = .ok (.astore 6, 2) := by decide +kernel
theorem dL_run_19 : decode cL_run 19 = .ok (.iconst 1, 1) := by decide +kernel
theorem dL_run_20 : decode cL_run 20 = .ok (.ireturn, 1) := by decide +kernel
theorem dL_run_21 : decode cL_run 21 = .ok (.iconst 0, 1) := by decide +kernel
theorem dL_run_22 : decode cL_run 22 = .ok (.ireturn, 1) := by decide +kernel
set_option maxRecDepth 20000 in
theorem ggL_count_X0_count : GoodIn wsL_count wsX0_count := goodIn_ca (goodIn_r _ [6, 7, 8, 9, 5, 10, 11, 12, 13, 14, 15, 16, 17, 18, 19, 20, 21, 22, 23, 24, 25, 26, 27, 28, 29, 30, 31, 32, 33, 34, 35, 36, 37, 38] (by decide +kernel) (by decide +kernel)) (goodIn_sub (fun _ h => List.mem_cons_of_mem _ (List.mem_append_right _ h)) (by decide +kernel))
set_option maxRecDepth 20000 in
theorem gL_count_X0_count : GoodIn wsL_count (wsV RL 56 RX0 yX0_count wsX0_count) := goodIn_app (goodIn_of _ (by decide +kernel)) ggL_count_X0_count
theorem dL_count_0 : decode cL_count 0 = .ok (.aload 5, 2) := by decide +kernel
theorem dL_count_2 : decode cL_count 2 = .ok (.iconst 0, 1) := by decide +kernel
theorem dL_count_3 : decode cL_count 3 = .ok (.aload_n 0, 1) := by decide +kernel
theorem dL_count_4 : decode cL_count 4 = .ok (.iload_n 1, 1) := by decide +kernel
theorem dL_count_5 : decode cL_count 5 = .ok (.iload_n 2, 1) := by decide +kernel
theorem dL_count_6 : decode cL_count 6 = .ok (.iload_n 3, 1) := by decide +kernel
theorem dL_count_7 : decode cL_count 7 = .ok (.iload 4, 2) := by decide +kernel
theorem dL_count_9 : decode cL_count 9 = .ok (.invokevirtual 56, 3) := by decide +kernel
theorem dL_count_12 : decode cL_count 12 = .ok (.i2l, 1) := by decide +kernel
theorem dL_count_13 : decode cL_count 13 = .ok (.lastore, 1) := by decide +kernel
theorem dL_count_14 : decode cL_count 14 = .ok (.goto 7, 3) := by decide +kernel
theorem dL_count_17 : decode cL_count 17 = .ok (.astore 6, 2) := by decide +kernel
theorem dL_count_19 : decode cL_count 19 = .ok (.iconst 1, 1) := by decide +kernel
theorem dL_count_20 : decode cL_count 20 = .ok (.ireturn, 1) := by decide +kernel
theorem dL_count_21 : decode cL_count 21 = .ok (.iconst 0, 1) := by decide +kernel
theorem dL_count_22 : decode cL_count 22 = .ok (.ireturn, 1) := by decide +kernel
set_option maxRecDepth 20000 in
theorem ggL_holds_X0_holds : GoodIn wsL_holds wsX0_holds := goodIn_ca (goodIn_r _ [6, 7, 8, 5, 9, 10, 11, 12, 13, 14, 15, 16, 17, 18, 19, 20, 21, 22, 23, 24, 25, 26, 27, 28, 29, 30, 31, 32, 33, 34, 35, 36, 37, 38, 39] (by decide +kernel) (by decide +kernel)) (goodIn_sub (fun _ h => List.mem_cons_of_mem _ (List.mem_append_right _ h)) (by decide +kernel))
set_option maxRecDepth 20000 in
theorem gL_holds_X0_holds : GoodIn wsL_holds (wsV RL 59 RX0 yX0_holds wsX0_holds) := goodIn_app (goodIn_of _ (by decide +kernel)) ggL_holds_X0_holds
theorem dL_holds_0 : decode cL_holds 0 = .ok (.aload 5, 2) := by decide +kernel
theorem dL_holds_2 : decode cL_holds 2 = .ok (.iconst 0, 1) := by decide +kernel
theorem dL_holds_3 : decode cL_holds 3 = .ok (.aload_n 0, 1) := by decide +kernel
theorem dL_holds_4 : decode cL_holds 4 = .ok (.iload_n 1, 1) := by decide +kernel
theorem dL_holds_5 : decode cL_holds 5 = .ok (.iload_n 2, 1) := by decide +kernel
theorem dL_holds_6 : decode cL_holds 6 = .ok (.iload_n 3, 1) := by decide +kernel
theorem dL_holds_7 : decode cL_holds 7 = .ok (.iload 4, 2) := by decide +kernel
theorem dL_holds_9 : decode cL_holds 9 = .ok (.invokevirtual 59, 3) := by decide +kernel
theorem dL_holds_12 : decode cL_holds 12 = .ok (.ifCond .eq 7, 3) := by decide +kernel
theorem dL_holds_15 : decode cL_holds 15 = .ok (.lconst 1, 1) := by decide +kernel
theorem dL_holds_16 : decode cL_holds 16 = .ok (.goto 4, 3) := by decide +kernel
theorem dL_holds_19 : decode cL_holds 19 = .ok (.lconst 0, 1) := by decide +kernel
theorem dL_holds_20 : decode cL_holds 20 = .ok (.lastore, 1) := by decide +kernel
theorem dL_holds_21 : decode cL_holds 21 = .ok (.goto 7, 3) := by decide +kernel
theorem dL_holds_24 : decode cL_holds 24 = .ok (.astore 6, 2) := by decide +kernel
theorem dL_holds_26 : decode cL_holds 26 = .ok (.iconst 1, 1) := by decide +kernel
theorem dL_holds_27 : decode cL_holds 27 = .ok (.ireturn, 1) := by decide +kernel
theorem dL_holds_28 : decode cL_holds 28 = .ok (.iconst 0, 1) := by decide +kernel
theorem dL_holds_29 : decode cL_holds 29 = .ok (.ireturn, 1) := by decide +kernel
set_option maxRecDepth 20000 in
theorem ggL_pick_X0_pick : GoodIn wsL_pick wsX0_pick := goodIn_ca (goodIn_r _ [6, 7, 8, 5, 9, 10, 11, 12, 13, 14, 15, 16, 17, 18, 19, 20, 21, 22, 23, 24, 25, 26, 27, 28, 29, 30, 31, 32, 33, 34, 35, 36, 37, 38, 39] (by decide +kernel) (by decide +kernel)) (goodIn_sub (fun _ h => List.mem_cons_of_mem _ (List.mem_append_right _ h)) (by decide +kernel))
set_option maxRecDepth 20000 in
theorem gL_pick_X0_pick : GoodIn wsL_pick (wsV RL 63 RX0 yX0_pick wsX0_pick) := goodIn_app (goodIn_of _ (by decide +kernel)) ggL_pick_X0_pick
theorem dL_pick_0 : decode cL_pick 0 = .ok (.aload 5, 2) := by decide +kernel
theorem dL_pick_2 : decode cL_pick 2 = .ok (.iconst 0, 1) := by decide +kernel
theorem dL_pick_3 : decode cL_pick 3 = .ok (.aload_n 0, 1) := by decide +kernel
theorem dL_pick_4 : decode cL_pick 4 = .ok (.iload_n 1, 1) := by decide +kernel
theorem dL_pick_5 : decode cL_pick 5 = .ok (.iload_n 2, 1) := by decide +kernel
theorem dL_pick_6 : decode cL_pick 6 = .ok (.iload_n 3, 1) := by decide +kernel
theorem dL_pick_7 : decode cL_pick 7 = .ok (.iload 4, 2) := by decide +kernel
theorem dL_pick_9 : decode cL_pick 9 = .ok (.invokevirtual 63, 3) := by decide +kernel
theorem dL_pick_12 : decode cL_pick 12 = .ok (.i2l, 1) := by decide +kernel
theorem dL_pick_13 : decode cL_pick 13 = .ok (.lastore, 1) := by decide +kernel
theorem dL_pick_14 : decode cL_pick 14 = .ok (.goto 7, 3) := by decide +kernel
theorem dL_pick_17 : decode cL_pick 17 = .ok (.astore 6, 2) := by decide +kernel
theorem dL_pick_19 : decode cL_pick 19 = .ok (.iconst 1, 1) := by decide +kernel
theorem dL_pick_20 : decode cL_pick 20 = .ok (.ireturn, 1) := by decide +kernel
theorem dL_pick_21 : decode cL_pick 21 = .ok (.iconst 0, 1) := by decide +kernel
theorem dL_pick_22 : decode cL_pick 22 = .ok (.ireturn, 1) := by decide +kernel
set_option maxRecDepth 20000 in
theorem ggL_stand_X0_stand : GoodIn wsL_stand wsX0_stand := goodIn_ca (goodIn_r _ [6, 7, 8, 5, 9, 10, 11, 12, 13, 14, 15, 16, 17, 18, 19, 20, 21, 22, 23, 24, 25, 26, 27, 28, 29, 30, 31, 32, 33, 34, 35, 36, 37, 38, 39, 40, 41, 42, 43, 44] (by decide +kernel) (by decide +kernel)) (goodIn_sub (fun _ h => List.mem_cons_of_mem _ (List.mem_append_right _ h)) (by decide +kernel))
set_option maxRecDepth 20000 in
theorem gL_stand_X0_stand : GoodIn wsL_stand (wsV RL 67 RX0 yX0_stand wsX0_stand) := goodIn_app (goodIn_of _ (by decide +kernel)) ggL_stand_X0_stand
theorem dL_stand_0 : decode cL_stand 0 = .ok (.aload_n 2, 1) := by decide +kernel
theorem dL_stand_1 : decode cL_stand 1 = .ok (.iconst 0, 1) := by decide +kernel
theorem dL_stand_2 : decode cL_stand 2 = .ok (.aload_n 0, 1) := by decide +kernel
theorem dL_stand_3 : decode cL_stand 3 = .ok (.iload_n 1, 1) := by decide +kernel
theorem dL_stand_4 : decode cL_stand 4 = .ok (.invokevirtual 67, 3) := by decide +kernel
theorem dL_stand_7 : decode cL_stand 7 = .ok (.i2l, 1) := by decide +kernel
theorem dL_stand_8 : decode cL_stand 8 = .ok (.lastore, 1) := by decide +kernel
theorem dL_stand_9 : decode cL_stand 9 = .ok (.goto 6, 3) := by decide +kernel
theorem dL_stand_12 : decode cL_stand 12 = .ok (.astore_n 3, 1) := by decide +kernel
theorem dL_stand_13 : decode cL_stand 13 = .ok (.iconst 1, 1) := by decide +kernel
theorem dL_stand_14 : decode cL_stand 14 = .ok (.ireturn, 1) := by decide +kernel
theorem dL_stand_15 : decode cL_stand 15 = .ok (.iconst 0, 1) := by decide +kernel
theorem dL_stand_16 : decode cL_stand 16 = .ok (.ireturn, 1) := by decide +kernel
set_option maxRecDepth 20000 in
theorem ggL_order_X0_order : GoodIn wsL_order wsX0_order := goodIn_ca (goodIn_r _ [6, 7, 8, 9, 10, 11, 5, 12, 13, 14, 15, 16, 17, 18, 19, 20, 21, 22, 23, 24, 25, 26, 27, 28, 29, 30, 31, 32, 33, 34, 35, 36, 37, 38, 39, 40, 41, 42] (by decide +kernel) (by decide +kernel)) (goodIn_sub (fun _ h => List.mem_cons_of_mem _ (List.mem_append_right _ h)) (by decide +kernel))
set_option maxRecDepth 20000 in
theorem gL_order_X0_order : GoodIn wsL_order (wsV RL 70 RX0 yX0_order wsX0_order) := goodIn_app (goodIn_of _ (by decide +kernel)) ggL_order_X0_order
theorem dL_order_0 : decode cL_order 0 = .ok (.aload_n 2, 1) := by decide +kernel
theorem dL_order_1 : decode cL_order 1 = .ok (.iconst 0, 1) := by decide +kernel
theorem dL_order_2 : decode cL_order 2 = .ok (.aload_n 0, 1) := by decide +kernel
theorem dL_order_3 : decode cL_order 3 = .ok (.iload_n 1, 1) := by decide +kernel
theorem dL_order_4 : decode cL_order 4 = .ok (.invokevirtual 70, 3) := by decide +kernel
theorem dL_order_7 : decode cL_order 7 = .ok (.i2l, 1) := by decide +kernel
theorem dL_order_8 : decode cL_order 8 = .ok (.lastore, 1) := by decide +kernel
theorem dL_order_9 : decode cL_order 9 = .ok (.goto 6, 3) := by decide +kernel
theorem dL_order_12 : decode cL_order 12 = .ok (.astore_n 3, 1) := by decide +kernel
theorem dL_order_13 : decode cL_order 13 = .ok (.iconst 1, 1) := by decide +kernel
theorem dL_order_14 : decode cL_order 14 = .ok (.ireturn, 1) := by decide +kernel
theorem dL_order_15 : decode cL_order 15 = .ok (.iconst 0, 1) := by decide +kernel
theorem dL_order_16 : decode cL_order 16 = .ok (.ireturn, 1) := by decide +kernel
set_option maxRecDepth 20000 in
theorem ggL_highest_X0_highest : GoodIn wsL_highest wsX0_highest := goodIn_ca (goodIn_ca (goodIn_r _ [7, 8, 9, 10, 6, 11, 12, 13, 14, 15, 16, 17, 18, 19, 20, 21, 22, 23, 24, 25, 26, 27, 28, 29, 30, 31, 32, 33, 34, 35, 36] (by decide +kernel) (by decide +kernel)) (goodIn_sub (fun _ h => List.mem_cons_of_mem _ (List.mem_append_left _ (List.mem_append_right _ h))) (by decide +kernel))) (goodIn_sub (fun _ h => List.mem_cons_of_mem _ (List.mem_append_right _ h)) (by decide +kernel))
set_option maxRecDepth 20000 in
theorem gL_highest_X0_highest : GoodIn wsL_highest (wsV RL 73 RX0 yX0_highest wsX0_highest) := goodIn_app (goodIn_of _ (by decide +kernel)) ggL_highest_X0_highest
theorem dL_highest_0 : decode cL_highest 0 = .ok (.aload_n 2, 1) := by decide +kernel
theorem dL_highest_1 : decode cL_highest 1 = .ok (.iconst 0, 1) := by decide +kernel
theorem dL_highest_2 : decode cL_highest 2 = .ok (.aload_n 0, 1) := by decide +kernel
theorem dL_highest_3 : decode cL_highest 3 = .ok (.iload_n 1, 1) := by decide +kernel
theorem dL_highest_4 : decode cL_highest 4 = .ok (.invokevirtual 73, 3) := by decide +kernel
theorem dL_highest_7 : decode cL_highest 7 = .ok (.dastore, 1) := by decide +kernel
theorem dL_highest_8 : decode cL_highest 8 = .ok (.goto 9, 3) := by decide +kernel
theorem dL_highest_11 : decode cL_highest 11 = .ok (.astore_n 3, 1) := by decide +kernel
theorem dL_highest_12 : decode cL_highest 12 = .ok (.iconst 1, 1) := by decide +kernel
theorem dL_highest_13 : decode cL_highest 13 = .ok (.ireturn, 1) := by decide +kernel
theorem dL_highest_14 : decode cL_highest 14 = .ok (.astore_n 3, 1) := by decide +kernel
theorem dL_highest_15 : decode cL_highest 15 = .ok (.iconst 2, 1) := by decide +kernel
theorem dL_highest_16 : decode cL_highest 16 = .ok (.ireturn, 1) := by decide +kernel
theorem dL_highest_17 : decode cL_highest 17 = .ok (.iconst 0, 1) := by decide +kernel
theorem dL_highest_18 : decode cL_highest 18 = .ok (.ireturn, 1) := by decide +kernel
set_option maxRecDepth 20000 in
theorem ggL_calmest_X0_calmest : GoodIn wsL_calmest wsX0_calmest := goodIn_ca (goodIn_ca (goodIn_r _ [7, 8, 9, 10, 6, 11, 12, 13, 14, 15, 16, 17, 18, 19, 20, 21, 22, 23, 24, 25, 26, 27, 28, 29, 30, 31, 32, 33, 34, 35, 36] (by decide +kernel) (by decide +kernel)) (goodIn_sub (fun _ h => List.mem_cons_of_mem _ (List.mem_append_left _ (List.mem_append_right _ h))) (by decide +kernel))) (goodIn_sub (fun _ h => List.mem_cons_of_mem _ (List.mem_append_right _ h)) (by decide +kernel))
set_option maxRecDepth 20000 in
theorem gL_calmest_X0_calmest : GoodIn wsL_calmest (wsV RL 79 RX0 yX0_calmest wsX0_calmest) := goodIn_app (goodIn_of _ (by decide +kernel)) ggL_calmest_X0_calmest
theorem dL_calmest_0 : decode cL_calmest 0 = .ok (.aload_n 2, 1) := by decide +kernel
theorem dL_calmest_1 : decode cL_calmest 1 = .ok (.iconst 0, 1) := by decide +kernel
theorem dL_calmest_2 : decode cL_calmest 2 = .ok (.aload_n 0, 1) := by decide +kernel
theorem dL_calmest_3 : decode cL_calmest 3 = .ok (.iload_n 1, 1) := by decide +kernel
theorem dL_calmest_4 : decode cL_calmest 4 = .ok (.invokevirtual 79, 3) := by decide +kernel
theorem dL_calmest_7 : decode cL_calmest 7 = .ok (.f2d, 1) := by decide +kernel
theorem dL_calmest_8 : decode cL_calmest 8 = .ok (.dastore, 1) := by decide +kernel
theorem dL_calmest_9 : decode cL_calmest 9 = .ok (.goto 9, 3) := by decide +kernel
theorem dL_calmest_12 : decode cL_calmest 12 = .ok (.astore_n 3, 1) := by decide +kernel
theorem dL_calmest_13 : decode cL_calmest 13 = .ok (.iconst 1, 1) := by decide +kernel
theorem dL_calmest_14 : decode cL_calmest 14 = .ok (.ireturn, 1) := by decide +kernel
theorem dL_calmest_15 : decode cL_calmest 15 = .ok (.astore_n 3, 1) := by decide +kernel
theorem dL_calmest_16 : decode cL_calmest 16 = .ok (.iconst 2, 1) := by decide +kernel
theorem dL_calmest_17 : decode cL_calmest 17 = .ok (.ireturn, 1) := by decide +kernel
theorem dL_calmest_18 : decode cL_calmest 18 = .ok (.iconst 0, 1) := by decide +kernel
theorem dL_calmest_19 : decode cL_calmest 19 = .ok (.ireturn, 1) := by decide +kernel
set_option maxRecDepth 20000 in
theorem ggL_same_X0_same : GoodIn wsL_same wsX0_same := goodIn_ca (goodIn_r _ [6, 7, 8, 9, 10, 11, 12, 13, 5, 14, 15, 16, 17, 18, 19, 20, 21, 22, 23, 24, 25, 26, 27, 28, 29, 30, 31, 32, 33, 34, 35, 36, 37] (by decide +kernel) (by decide +kernel)) (goodIn_sub (fun _ h => List.mem_cons_of_mem _ (List.mem_append_right _ h)) (by decide +kernel))
set_option maxRecDepth 20000 in
theorem gL_same_X0_same : GoodIn wsL_same (wsV RL 83 RX0 yX0_same wsX0_same) := goodIn_app (goodIn_of _ (by decide +kernel)) ggL_same_X0_same
theorem dL_same_0 : decode cL_same 0 = .ok (.aload_n 3, 1) := by decide +kernel
theorem dL_same_1 : decode cL_same 1 = .ok (.iconst 0, 1) := by decide +kernel
theorem dL_same_2 : decode cL_same 2 = .ok (.aload_n 0, 1) := by decide +kernel
theorem dL_same_3 : decode cL_same 3 = .ok (.iload_n 1, 1) := by decide +kernel
theorem dL_same_4 : decode cL_same 4 = .ok (.iload_n 2, 1) := by decide +kernel
theorem dL_same_5 : decode cL_same 5 = .ok (.invokevirtual 83, 3) := by decide +kernel
theorem dL_same_8 : decode cL_same 8 = .ok (.i2l, 1) := by decide +kernel
theorem dL_same_9 : decode cL_same 9 = .ok (.lastore, 1) := by decide +kernel
theorem dL_same_10 : decode cL_same 10 = .ok (.goto 7, 3) := by decide +kernel
theorem dL_same_13 : decode cL_same 13 = .ok (.astore 4, 2) := by decide +kernel
theorem dL_same_15 : decode cL_same 15 = .ok (.iconst 1, 1) := by decide +kernel
theorem dL_same_16 : decode cL_same 16 = .ok (.ireturn, 1) := by decide +kernel
theorem dL_same_17 : decode cL_same 17 = .ok (.iconst 0, 1) := by decide +kernel
theorem dL_same_18 : decode cL_same 18 = .ok (.ireturn, 1) := by decide +kernel
set_option maxRecDepth 20000 in
theorem ggL_move_X0_move : GoodIn wsL_move wsX0_move := goodIn_ca (goodIn_ca (goodIn_ca (goodIn_r _ [8, 9, 10, 11, 12, 13, 14, 15, 7, 16, 17, 18, 19, 20, 21, 22, 23, 24, 25, 26, 27, 28, 29, 30, 31, 32, 33, 34, 35, 36, 37, 38, 39, 40, 41, 42, 43, 44, 45, 46, 47, 48, 49] (by decide +kernel) (by decide +kernel)) (goodIn_sub (fun _ h => List.mem_cons_of_mem _ (List.mem_append_left _ (List.mem_append_left _ (List.mem_append_right _ h)))) (by decide +kernel))) (goodIn_sub (fun _ h => List.mem_cons_of_mem _ (List.mem_append_left _ (List.mem_append_right _ h))) (by decide +kernel))) (goodIn_sub (fun _ h => List.mem_cons_of_mem _ (List.mem_append_right _ h)) (by decide +kernel))
set_option maxRecDepth 20000 in
theorem gL_move_X0_move : GoodIn wsL_move (wsV RL 86 RX0 yX0_move wsX0_move) := goodIn_app (goodIn_of _ (by decide +kernel)) ggL_move_X0_move
theorem dL_move_0 : decode cL_move 0 = .ok (.aload_n 2, 1) := by decide +kernel
theorem dL_move_1 : decode cL_move 1 = .ok (.iconst 0, 1) := by decide +kernel
theorem dL_move_2 : decode cL_move 2 = .ok (.aload_n 0, 1) := by decide +kernel
theorem dL_move_3 : decode cL_move 3 = .ok (.iload_n 1, 1) := by decide +kernel
theorem dL_move_4 : decode cL_move 4 = .ok (.invokevirtual 86, 3) := by decide +kernel
theorem dL_move_7 : decode cL_move 7 = .ok (.i2l, 1) := by decide +kernel
theorem dL_move_8 : decode cL_move 8 = .ok (.lastore, 1) := by decide +kernel
theorem dL_move_9 : decode cL_move 9 = .ok (.goto 12, 3) := by decide +kernel
theorem dL_move_12 : decode cL_move 12 = .ok (.astore_n 3, 1) := by decide +kernel
theorem dL_move_13 : decode cL_move 13 = .ok (.iconst 1, 1) := by decide +kernel
theorem dL_move_14 : decode cL_move 14 = .ok (.ireturn, 1) := by decide +kernel
theorem dL_move_15 : decode cL_move 15 = .ok (.astore_n 3, 1) := by decide +kernel
theorem dL_move_16 : decode cL_move 16 = .ok (.iconst 2, 1) := by decide +kernel
theorem dL_move_17 : decode cL_move 17 = .ok (.ireturn, 1) := by decide +kernel
theorem dL_move_18 : decode cL_move 18 = .ok (.astore_n 3, 1) := by decide +kernel
theorem dL_move_19 : decode cL_move 19 = .ok (.iconst 3, 1) := by decide +kernel
theorem dL_move_20 : decode cL_move 20 = .ok (.ireturn, 1) := by decide +kernel
theorem dL_move_21 : decode cL_move 21 = .ok (.iconst 0, 1) := by decide +kernel
theorem dL_move_22 : decode cL_move 22 = .ok (.ireturn, 1) := by decide +kernel
set_option maxRecDepth 20000 in
theorem ggL_size_X0_size : GoodIn wsL_size wsX0_size := goodIn_ca (goodIn_r _ [6, 7, 8, 9, 5, 10, 11, 12, 13, 14, 15, 16, 17, 18, 19, 20, 21, 22, 23] (by decide +kernel) (by decide +kernel)) (goodIn_sub (fun _ h => List.mem_cons_of_mem _ (List.mem_append_right _ h)) (by decide +kernel))
set_option maxRecDepth 20000 in
theorem gL_size_X0_size : GoodIn wsL_size (wsV RL 94 RX0 yX0_size wsX0_size) := goodIn_app (goodIn_of _ (by decide +kernel)) ggL_size_X0_size
theorem dL_size_0 : decode cL_size 0 = .ok (.aload_n 3, 1) := by decide +kernel
theorem dL_size_1 : decode cL_size 1 = .ok (.iconst 0, 1) := by decide +kernel
theorem dL_size_2 : decode cL_size 2 = .ok (.aload_n 0, 1) := by decide +kernel
theorem dL_size_3 : decode cL_size 3 = .ok (.iload_n 1, 1) := by decide +kernel
theorem dL_size_4 : decode cL_size 4 = .ok (.iload_n 2, 1) := by decide +kernel
theorem dL_size_5 : decode cL_size 5 = .ok (.invokevirtual 94, 3) := by decide +kernel
theorem dL_size_8 : decode cL_size 8 = .ok (.i2l, 1) := by decide +kernel
theorem dL_size_9 : decode cL_size 9 = .ok (.lastore, 1) := by decide +kernel
theorem dL_size_10 : decode cL_size 10 = .ok (.goto 7, 3) := by decide +kernel
theorem dL_size_13 : decode cL_size 13 = .ok (.astore 4, 2) := by decide +kernel
theorem dL_size_15 : decode cL_size 15 = .ok (.iconst 1, 1) := by decide +kernel
theorem dL_size_16 : decode cL_size 16 = .ok (.ireturn, 1) := by decide +kernel
theorem dL_size_17 : decode cL_size 17 = .ok (.iconst 0, 1) := by decide +kernel
theorem dL_size_18 : decode cL_size 18 = .ok (.ireturn, 1) := by decide +kernel
set_option maxRecDepth 20000 in
theorem ggL_law_X0_init : GoodIn wsL_law wsX0_init := goodIn_r _ [12, 13, 14, 15, 16, 17, 7, 18, 19, 20, 21, 22, 471, 472, 473, 474, 475] (by decide +kernel) (by decide +kernel)
set_option maxRecDepth 20000 in
theorem gL_law_X0_init : GoodIn wsL_law (wsX0_init) := ggL_law_X0_init
set_option maxRecDepth 20000 in
theorem ggL_law_X1_init : GoodIn wsL_law wsX1_init := goodIn_r _ [25, 26, 14, 15, 7, 27, 16, 28, 19, 29, 30, 31, 32, 33, 476, 477, 478, 479, 480, 481, 482, 483, 484, 485] (by decide +kernel) (by decide +kernel)
set_option maxRecDepth 20000 in
theorem gL_law_X1_init : GoodIn wsL_law (wsX1_init) := ggL_law_X1_init
set_option maxRecDepth 20000 in
theorem ggL_law_L_level : GoodIn wsL_law wsL_level := goodIn_ca (goodIn_ca (goodIn_r _ [37, 38, 39, 40, 41, 42, 2, 43, 44, 45, 46, 47, 48, 49, 50, 51, 52, 53, 54, 55, 56, 57, 58, 59, 60, 20, 61, 62, 63, 64, 65, 66, 67, 68, 69, 70, 71, 72, 73, 17, 18, 471, 472, 473, 474, 475] (by decide +kernel) (by decide +kernel)) (goodIn_sub (fun _ h => List.mem_append_left _ (List.mem_append_left _ (List.mem_append_left _ (List.mem_append_left _ (List.mem_append_right _ h))))) (by decide +kernel))) (goodIn_sub (fun _ h => List.mem_append_left _ (List.mem_append_left _ (List.mem_append_left _ (List.mem_append_right _ h)))) (by decide +kernel))
set_option maxRecDepth 20000 in
theorem gL_law_L_level : GoodIn wsL_law (va_wsS RL 103 yL_level wsL_level) := goodIn_app (goodIn_of _ (by decide +kernel)) ggL_law_L_level
set_option maxRecDepth 20000 in
theorem ggL_law_X1_level : GoodIn wsL_law wsX1_level := goodIn_r _ [77, 29, 78, 79, 5, 80, 81, 82, 83, 84, 85, 86, 87, 88, 89, 90, 91, 92, 93, 94, 27, 28, 476, 477, 478, 479, 480, 481, 482, 483, 484, 485] (by decide +kernel) (by decide +kernel)
set_option maxRecDepth 20000 in
theorem gL_law_X1_level : GoodIn wsL_law (wsV RL 108 RX1 yX1_level wsX1_level) := goodIn_app (goodIn_of _ (by decide +kernel)) ggL_law_X1_level
set_option maxRecDepth 20000 in
theorem ggL_law_X1_thrown : GoodIn wsL_law wsX1_thrown := goodIn_r _ [98, 90, 476, 477, 478, 479, 480, 481, 482, 483, 484, 485] (by decide +kernel) (by decide +kernel)
set_option maxRecDepth 20000 in
theorem gL_law_X1_thrown : GoodIn wsL_law (wsV RL 109 RX1 yX1_thrown wsX1_thrown) := goodIn_app (goodIn_of _ (by decide +kernel)) ggL_law_X1_thrown
set_option maxRecDepth 20000 in
theorem ggL_law_L_wind : GoodIn wsL_law wsL_wind := goodIn_ca (goodIn_ca (goodIn_r _ [101, 38, 39, 102, 103, 104, 2, 105, 44, 45, 46, 47, 48, 106, 107, 108, 109, 54, 55, 56, 57, 58, 59, 60, 20, 61, 62, 63, 64, 65, 66, 67, 68, 69, 70, 71, 72, 73, 17, 18, 471, 472, 473, 474, 475] (by decide +kernel) (by decide +kernel)) (goodIn_sub (fun _ h => List.mem_append_left _ (List.mem_append_left _ (List.mem_append_left _ (List.mem_append_left _ (List.mem_append_right _ h))))) (by decide +kernel))) (goodIn_sub (fun _ h => List.mem_append_left _ (List.mem_append_left _ (List.mem_append_left _ (List.mem_append_right _ h)))) (by decide +kernel))
set_option maxRecDepth 20000 in
theorem gL_law_L_wind : GoodIn wsL_law (va_wsS RL 114 yL_wind wsL_wind) := goodIn_app (goodIn_of _ (by decide +kernel)) ggL_law_L_wind
set_option maxRecDepth 20000 in
theorem ggL_law_X1_wind : GoodIn wsL_law wsX1_wind := goodIn_r _ [113, 29, 78, 79, 5, 80, 114, 115, 116, 117, 86, 87, 88, 89, 90, 91, 92, 93, 94, 27, 28, 476, 477, 478, 479, 480, 481, 482, 483, 484, 485] (by decide +kernel) (by decide +kernel)
set_option maxRecDepth 20000 in
theorem gL_law_X1_wind : GoodIn wsL_law (wsV RL 117 RX1 yX1_wind wsX1_wind) := goodIn_app (goodIn_of _ (by decide +kernel)) ggL_law_X1_wind
set_option maxRecDepth 20000 in
theorem ggL_law_L_out : GoodIn wsL_law wsL_out := goodIn_ca (goodIn_ca (goodIn_r _ [120, 38, 39, 121, 122, 123, 2, 124, 44, 45, 46, 47, 48, 125, 126, 127, 54, 55, 56, 128, 129, 130, 131, 20, 61, 62, 63, 64, 65, 66, 67, 68, 69, 132, 133, 134, 135, 17, 471, 472, 473, 474, 475] (by decide +kernel) (by decide +kernel)) (goodIn_sub (fun _ h => List.mem_append_left _ (List.mem_append_left _ (List.mem_append_left _ (List.mem_append_left _ (List.mem_append_right _ h))))) (by decide +kernel))) (goodIn_sub (fun _ h => List.mem_append_left _ (List.mem_append_left _ (List.mem_append_left _ (List.mem_append_right _ h)))) (by decide +kernel))
set_option maxRecDepth 20000 in
theorem gL_law_L_out : GoodIn wsL_law (va_wsS RL 118 yL_out wsL_out) := goodIn_app (goodIn_of _ (by decide +kernel)) ggL_law_L_out
set_option maxRecDepth 20000 in
theorem ggL_law_X1_out : GoodIn wsL_law wsX1_out := goodIn_r _ [139, 29, 78, 79, 5, 80, 86, 87, 88, 89, 90, 91, 92, 93, 94, 27, 28, 476, 477, 478, 479, 480, 481, 482, 483, 484, 485] (by decide +kernel) (by decide +kernel)
set_option maxRecDepth 20000 in
theorem gL_law_X1_out : GoodIn wsL_law (wsV RL 121 RX1 yX1_out wsX1_out) := goodIn_app (goodIn_of _ (by decide +kernel)) ggL_law_X1_out
set_option maxRecDepth 20000 in
theorem ggL_law_L_clear : GoodIn wsL_law wsL_clear := goodIn_ca (goodIn_r _ [142, 38, 143, 144, 145, 2, 146, 44, 45, 46, 47, 48, 54, 55, 56, 147, 148, 149, 150, 20, 471, 472, 473, 474, 475] (by decide +kernel) (by decide +kernel)) (goodIn_sub (fun _ h => List.mem_append_left _ (List.mem_append_left _ (List.mem_append_left _ (List.mem_append_left _ (List.mem_append_right _ h))))) (by decide +kernel))
set_option maxRecDepth 20000 in
theorem gL_law_L_clear : GoodIn wsL_law (va_wsS RL 122 yL_clear wsL_clear) := goodIn_app (goodIn_of _ (by decide +kernel)) ggL_law_L_clear
set_option maxRecDepth 20000 in
theorem ggL_law_X1_clear : GoodIn wsL_law wsX1_clear := goodIn_r _ [154, 29, 78, 79, 5, 80, 86, 87, 88, 89, 90, 476, 477, 478, 479, 480, 481, 482, 483, 484, 485] (by decide +kernel) (by decide +kernel)
set_option maxRecDepth 20000 in
theorem gL_law_X1_clear : GoodIn wsL_law (wsV RL 125 RX1 yX1_clear wsX1_clear) := goodIn_app (goodIn_of _ (by decide +kernel)) ggL_law_X1_clear
set_option maxRecDepth 20000 in
theorem ggL_law_L_mark : GoodIn wsL_law wsL_mark := goodIn_ca (goodIn_r _ [157, 38, 158, 159, 160, 2, 161, 47, 48, 44, 45, 46, 49, 50, 51, 52, 53, 162, 163, 164, 70, 71, 72, 73, 17, 18, 471, 472, 473, 474, 475] (by decide +kernel) (by decide +kernel)) (goodIn_sub (fun _ h => List.mem_append_left _ (List.mem_append_left _ (List.mem_append_left _ (List.mem_append_left _ (List.mem_append_right _ h))))) (by decide +kernel))
set_option maxRecDepth 20000 in
theorem gL_law_L_mark : GoodIn wsL_law (va_wsS RL 126 yL_mark wsL_mark) := goodIn_app (goodIn_of _ (by decide +kernel)) ggL_law_L_mark
set_option maxRecDepth 20000 in
theorem ggL_law_X1_mark : GoodIn wsL_law wsX1_mark := goodIn_r _ [168, 78, 79, 5, 80, 81, 82, 83, 84, 85, 86, 87, 88, 89, 90, 169, 170, 171, 172, 31, 30, 476, 477, 478, 479, 480, 481, 482, 483, 484, 485] (by decide +kernel) (by decide +kernel)
set_option maxRecDepth 20000 in
theorem gL_law_X1_mark : GoodIn wsL_law (wsV RL 129 RX1 yX1_mark wsX1_mark) := goodIn_app (goodIn_of _ (by decide +kernel)) ggL_law_X1_mark
set_option maxRecDepth 20000 in
theorem ggL_law_L_gale : GoodIn wsL_law wsL_gale := goodIn_ca (goodIn_r _ [175, 38, 176, 177, 178, 2, 179, 44, 45, 46, 47, 48, 106, 107, 108, 109, 162, 163, 164, 70, 71, 72, 73, 17, 18, 471, 472, 473, 474, 475] (by decide +kernel) (by decide +kernel)) (goodIn_sub (fun _ h => List.mem_append_left _ (List.mem_append_left _ (List.mem_append_left _ (List.mem_append_left _ (List.mem_append_right _ h))))) (by decide +kernel))
set_option maxRecDepth 20000 in
theorem gL_law_L_gale : GoodIn wsL_law (va_wsS RL 130 yL_gale wsL_gale) := goodIn_app (goodIn_of _ (by decide +kernel)) ggL_law_L_gale
set_option maxRecDepth 20000 in
theorem ggL_law_X1_gale : GoodIn wsL_law wsX1_gale := goodIn_r _ [183, 78, 79, 5, 80, 114, 115, 116, 117, 86, 87, 88, 89, 90, 169, 170, 171, 172, 31, 30, 476, 477, 478, 479, 480, 481, 482, 483, 484, 485] (by decide +kernel) (by decide +kernel)
set_option maxRecDepth 20000 in
theorem gL_law_X1_gale : GoodIn wsL_law (wsV RL 132 RX1 yX1_gale wsX1_gale) := goodIn_app (goodIn_of _ (by decide +kernel)) ggL_law_X1_gale
set_option maxRecDepth 20000 in
theorem ggL_law_L_lift : GoodIn wsL_law wsL_lift := goodIn_ca (goodIn_r _ [186, 38, 187, 188, 189, 2, 190, 47, 48, 44, 45, 46, 162, 163, 164, 132, 133, 134, 135, 17, 471, 472, 473, 474, 475] (by decide +kernel) (by decide +kernel)) (goodIn_sub (fun _ h => List.mem_append_left _ (List.mem_append_left _ (List.mem_append_left _ (List.mem_append_left _ (List.mem_append_right _ h))))) (by decide +kernel))
set_option maxRecDepth 20000 in
theorem gL_law_L_lift : GoodIn wsL_law (va_wsS RL 133 yL_lift wsL_lift) := goodIn_app (goodIn_of _ (by decide +kernel)) ggL_law_L_lift
set_option maxRecDepth 20000 in
theorem ggL_law_X1_lift : GoodIn wsL_law wsX1_lift := goodIn_r _ [194, 78, 79, 5, 80, 86, 87, 88, 89, 90, 169, 170, 171, 172, 31, 30, 476, 477, 478, 479, 480, 481, 482, 483, 484, 485] (by decide +kernel) (by decide +kernel)
set_option maxRecDepth 20000 in
theorem gL_law_X1_lift : GoodIn wsL_law (wsV RL 135 RX1 yX1_lift wsX1_lift) := goodIn_app (goodIn_of _ (by decide +kernel)) ggL_law_X1_lift
set_option maxRecDepth 20000 in
theorem ggL_law_L_probe : GoodIn wsL_law wsL_probe := goodIn_ca (goodIn_r _ [197, 38, 198, 199, 200, 2, 201, 49, 50, 51, 47, 48, 52, 53, 202, 203, 204, 70, 71, 72, 73, 17, 18, 205, 206, 207, 208, 209, 210, 211, 212, 20, 54, 55, 56, 67, 68, 69, 213, 214, 215, 216, 471, 472, 473, 474, 475] (by decide +kernel) (by decide +kernel)) (goodIn_sub (fun _ h => List.mem_append_left _ (List.mem_append_left _ (List.mem_append_left _ (List.mem_append_left _ (List.mem_append_right _ h))))) (by decide +kernel))
set_option maxRecDepth 20000 in
theorem gL_law_L_probe : GoodIn wsL_law (va_wsS RL 136 yL_probe wsL_probe) := goodIn_app (goodIn_of _ (by decide +kernel)) ggL_law_L_probe
set_option maxRecDepth 20000 in
theorem ggL_law_X1_probe : GoodIn wsL_law wsX1_probe := goodIn_r _ [220, 81, 82, 5, 83, 84, 85, 86, 87, 88, 89, 90, 221, 222, 223, 224, 33, 32, 225, 226, 227, 228, 29, 28, 229, 230, 231, 232, 233, 234, 235, 236, 27, 237, 238, 239, 240, 241, 242, 243, 244, 245, 476, 477, 478, 479, 480, 481, 482, 483, 484, 485] (by decide +kernel) (by decide +kernel)
set_option maxRecDepth 20000 in
theorem gL_law_X1_probe : GoodIn wsL_law (wsV RL 139 RX1 yX1_probe wsX1_probe) := goodIn_app (goodIn_of _ (by decide +kernel)) ggL_law_X1_probe
set_option maxRecDepth 20000 in
theorem ggL_law_L_probeWind : GoodIn wsL_law wsL_probeWind := goodIn_ca (goodIn_r _ [248, 38, 249, 250, 251, 2, 252, 106, 107, 108, 47, 48, 109, 202, 203, 204, 70, 71, 72, 73, 17, 18, 205, 206, 207, 208, 209, 210, 211, 212, 20, 54, 55, 56, 67, 68, 69, 213, 214, 215, 216, 471, 472, 473, 474, 475] (by decide +kernel) (by decide +kernel)) (goodIn_sub (fun _ h => List.mem_append_left _ (List.mem_append_left _ (List.mem_append_left _ (List.mem_append_left _ (List.mem_append_right _ h))))) (by decide +kernel))
set_option maxRecDepth 20000 in
theorem gL_law_L_probeWind : GoodIn wsL_law (va_wsS RL 140 yL_probeWind wsL_probeWind) := goodIn_app (goodIn_of _ (by decide +kernel)) ggL_law_L_probeWind
set_option maxRecDepth 20000 in
theorem ggL_law_X1_probeWind : GoodIn wsL_law wsX1_probeWind := goodIn_r _ [256, 114, 115, 5, 116, 117, 86, 87, 88, 89, 90, 221, 222, 223, 224, 33, 32, 225, 226, 227, 228, 29, 28, 229, 230, 231, 232, 233, 234, 235, 236, 27, 237, 238, 239, 240, 241, 242, 243, 244, 245, 476, 477, 478, 479, 480, 481, 482, 483, 484, 485] (by decide +kernel) (by decide +kernel)
set_option maxRecDepth 20000 in
theorem gL_law_X1_probeWind : GoodIn wsL_law (wsV RL 143 RX1 yX1_probeWind wsX1_probeWind) := goodIn_app (goodIn_of _ (by decide +kernel)) ggL_law_X1_probeWind
set_option maxRecDepth 20000 in
theorem ggL_law_L_probeOut : GoodIn wsL_law wsL_probeOut := goodIn_ca (goodIn_r _ [259, 38, 260, 261, 262, 2, 263, 125, 126, 127, 47, 48, 202, 203, 204, 132, 133, 134, 135, 17, 205, 206, 207, 208, 209, 210, 211, 212, 20, 54, 55, 56, 67, 68, 69, 213, 214, 215, 216, 18, 471, 472, 473, 474, 475] (by decide +kernel) (by decide +kernel)) (goodIn_sub (fun _ h => List.mem_append_left _ (List.mem_append_left _ (List.mem_append_left _ (List.mem_append_left _ (List.mem_append_right _ h))))) (by decide +kernel))
set_option maxRecDepth 20000 in
theorem gL_law_L_probeOut : GoodIn wsL_law (va_wsS RL 144 yL_probeOut wsL_probeOut) := goodIn_app (goodIn_of _ (by decide +kernel)) ggL_law_L_probeOut
set_option maxRecDepth 20000 in
theorem ggL_law_X1_probeOut : GoodIn wsL_law wsX1_probeOut := goodIn_r _ [267, 78, 79, 5, 80, 86, 87, 88, 89, 90, 221, 222, 223, 224, 33, 32, 225, 226, 227, 228, 29, 28, 229, 230, 231, 232, 233, 234, 235, 236, 27, 237, 238, 239, 240, 241, 242, 243, 244, 245, 476, 477, 478, 479, 480, 481, 482, 483, 484, 485] (by decide +kernel) (by decide +kernel)
set_option maxRecDepth 20000 in
theorem gL_law_X1_probeOut : GoodIn wsL_law (wsV RL 146 RX1 yX1_probeOut wsX1_probeOut) := goodIn_app (goodIn_of _ (by decide +kernel)) ggL_law_X1_probeOut
set_option maxRecDepth 20000 in
theorem ggL_law_L_run : GoodIn wsL_law wsL_run := goodIn_ca (goodIn_r _ [270, 38, 271, 272, 273, 2, 274, 44, 45, 46, 47, 48, 125, 126, 127, 275, 276, 277, 54, 55, 56, 202, 203, 204, 278, 279, 280, 281, 20, 67, 68, 69, 213, 214, 215, 216, 17, 18, 282, 283, 284, 285, 471, 472, 473, 474, 475] (by decide +kernel) (by decide +kernel)) (goodIn_sub (fun _ h => List.mem_append_left _ (List.mem_append_left _ (List.mem_append_left _ (List.mem_append_left _ (List.mem_append_right _ h))))) (by decide +kernel))
set_option maxRecDepth 20000 in
theorem gL_law_L_run : GoodIn wsL_law (va_wsS RL 147 yL_run wsL_run) := goodIn_app (goodIn_of _ (by decide +kernel)) ggL_law_L_run
set_option maxRecDepth 20000 in
theorem ggL_law_X1_run : GoodIn wsL_law wsX1_run := goodIn_r _ [289, 29, 78, 79, 5, 80, 86, 87, 88, 89, 90, 290, 291, 292, 293, 28, 33, 27, 32, 237, 238, 239, 240, 241, 242, 243, 244, 245, 476, 477, 478, 479, 480, 481, 482, 483, 484, 485] (by decide +kernel) (by decide +kernel)
set_option maxRecDepth 20000 in
theorem gL_law_X1_run : GoodIn wsL_law (wsV RL 150 RX1 yX1_run wsX1_run) := goodIn_app (goodIn_of _ (by decide +kernel)) ggL_law_X1_run
set_option maxRecDepth 20000 in
theorem ggL_law_L_count : GoodIn wsL_law wsL_count := goodIn_ca (goodIn_r _ [296, 38, 297, 298, 299, 2, 300, 20, 44, 45, 46, 47, 48, 125, 126, 127, 275, 276, 277, 54, 55, 56, 67, 68, 69, 202, 203, 204, 213, 214, 215, 216, 17, 18, 471, 472, 473, 474, 475] (by decide +kernel) (by decide +kernel)) (goodIn_sub (fun _ h => List.mem_append_left _ (List.mem_append_left _ (List.mem_append_left _ (List.mem_append_left _ (List.mem_append_right _ h))))) (by decide +kernel))
set_option maxRecDepth 20000 in
theorem gL_law_L_count : GoodIn wsL_law (va_wsS RL 151 yL_count wsL_count) := goodIn_app (goodIn_of _ (by decide +kernel)) ggL_law_L_count
set_option maxRecDepth 20000 in
theorem ggL_law_X1_count : GoodIn wsL_law wsX1_count := goodIn_r _ [304, 29, 78, 79, 5, 80, 86, 87, 88, 89, 90, 290, 291, 292, 293, 28, 33, 27, 32, 237, 238, 239, 240, 241, 242, 243, 244, 245, 476, 477, 478, 479, 480, 481, 482, 483, 484, 485] (by decide +kernel) (by decide +kernel)
set_option maxRecDepth 20000 in
theorem gL_law_X1_count : GoodIn wsL_law (wsV RL 153 RX1 yX1_count wsX1_count) := goodIn_app (goodIn_of _ (by decide +kernel)) ggL_law_X1_count
set_option maxRecDepth 20000 in
theorem ggL_law_L_holds : GoodIn wsL_law wsL_holds := goodIn_ca (goodIn_r _ [307, 38, 308, 309, 310, 2, 311, 44, 45, 46, 47, 48, 125, 126, 127, 275, 276, 277, 209, 210, 211, 212, 20, 54, 55, 56, 67, 68, 69, 213, 214, 215, 216, 17, 18, 471, 472, 473, 474, 475] (by decide +kernel) (by decide +kernel)) (goodIn_sub (fun _ h => List.mem_append_left _ (List.mem_append_left _ (List.mem_append_left _ (List.mem_append_left _ (List.mem_append_right _ h))))) (by decide +kernel))
set_option maxRecDepth 20000 in
theorem gL_law_L_holds : GoodIn wsL_law (va_wsS RL 154 yL_holds wsL_holds) := goodIn_app (goodIn_of _ (by decide +kernel)) ggL_law_L_holds
set_option maxRecDepth 20000 in
theorem ggL_law_X1_holds : GoodIn wsL_law wsX1_holds := goodIn_r _ [315, 78, 79, 5, 80, 86, 87, 88, 89, 90, 316, 317, 318, 319, 225, 226, 227, 228, 29, 28, 229, 230, 231, 232, 233, 234, 235, 236, 27, 237, 238, 239, 240, 241, 242, 243, 244, 245, 476, 477, 478, 479, 480, 481, 482, 483, 484, 485] (by decide +kernel) (by decide +kernel)
set_option maxRecDepth 20000 in
theorem gL_law_X1_holds : GoodIn wsL_law (wsV RL 157 RX1 yX1_holds wsX1_holds) := goodIn_app (goodIn_of _ (by decide +kernel)) ggL_law_X1_holds
set_option maxRecDepth 20000 in
theorem ggL_law_L_pick : GoodIn wsL_law wsL_pick := goodIn_ca (goodIn_r _ [322, 38, 323, 324, 325, 2, 326, 44, 45, 46, 47, 48, 125, 126, 127, 275, 276, 277, 209, 210, 211, 212, 20, 54, 55, 56, 67, 68, 69, 213, 214, 215, 216, 17, 18, 471, 472, 473, 474, 475] (by decide +kernel) (by decide +kernel)) (goodIn_sub (fun _ h => List.mem_append_left _ (List.mem_append_left _ (List.mem_append_left _ (List.mem_append_left _ (List.mem_append_right _ h))))) (by decide +kernel))
set_option maxRecDepth 20000 in
theorem gL_law_L_pick : GoodIn wsL_law (va_wsS RL 158 yL_pick wsL_pick) := goodIn_app (goodIn_of _ (by decide +kernel)) ggL_law_L_pick
set_option maxRecDepth 20000 in
theorem ggL_law_X1_pick : GoodIn wsL_law wsX1_pick := goodIn_r _ [330, 78, 79, 5, 80, 86, 87, 88, 89, 90, 316, 317, 318, 319, 225, 226, 227, 228, 29, 28, 229, 230, 231, 232, 233, 234, 235, 236, 27, 237, 238, 239, 240, 241, 242, 243, 244, 245, 476, 477, 478, 479, 480, 481, 482, 483, 484, 485] (by decide +kernel) (by decide +kernel)
set_option maxRecDepth 20000 in
theorem gL_law_X1_pick : GoodIn wsL_law (wsV RL 160 RX1 yX1_pick wsX1_pick) := goodIn_app (goodIn_of _ (by decide +kernel)) ggL_law_X1_pick
set_option maxRecDepth 20000 in
theorem ggL_law_L_stand : GoodIn wsL_law wsL_stand := goodIn_ca (goodIn_r _ [333, 38, 334, 335, 336, 2, 337, 44, 45, 46, 47, 48, 338, 339, 340, 341, 20, 17, 54, 55, 56, 209, 210, 211, 212, 67, 68, 69, 162, 163, 164, 213, 214, 215, 216, 18, 342, 343, 344, 345, 471, 472, 473, 474, 475] (by decide +kernel) (by decide +kernel)) (goodIn_sub (fun _ h => List.mem_append_left _ (List.mem_append_left _ (List.mem_append_left _ (List.mem_append_left _ (List.mem_append_right _ h))))) (by decide +kernel))
set_option maxRecDepth 20000 in
theorem gL_law_L_stand : GoodIn wsL_law (va_wsS RL 161 yL_stand wsL_stand) := goodIn_app (goodIn_of _ (by decide +kernel)) ggL_law_L_stand
set_option maxRecDepth 20000 in
theorem ggL_law_X1_stand : GoodIn wsL_law wsX1_stand := goodIn_r _ [349, 31, 78, 79, 5, 80, 86, 87, 88, 89, 90, 350, 351, 352, 353, 30, 225, 226, 227, 228, 29, 28, 229, 230, 231, 232, 233, 234, 235, 236, 27, 237, 238, 239, 354, 355, 356, 357, 476, 477, 478, 479, 480, 481, 482, 483, 484, 485] (by decide +kernel) (by decide +kernel)
set_option maxRecDepth 20000 in
theorem gL_law_X1_stand : GoodIn wsL_law (wsV RL 163 RX1 yX1_stand wsX1_stand) := goodIn_app (goodIn_of _ (by decide +kernel)) ggL_law_X1_stand
set_option maxRecDepth 20000 in
theorem ggL_law_L_order : GoodIn wsL_law wsL_order := goodIn_ca (goodIn_r _ [360, 38, 361, 362, 363, 2, 364, 47, 48, 365, 366, 367, 368, 369, 370, 371, 372, 17, 209, 210, 211, 212, 20, 54, 55, 56, 67, 68, 69, 373, 374, 375, 376, 213, 214, 215, 216, 18, 471, 472, 473, 474, 475] (by decide +kernel) (by decide +kernel)) (goodIn_sub (fun _ h => List.mem_append_left _ (List.mem_append_left _ (List.mem_append_left _ (List.mem_append_left _ (List.mem_append_right _ h))))) (by decide +kernel))
set_option maxRecDepth 20000 in
theorem gL_law_L_order : GoodIn wsL_law (va_wsS RL 164 yL_order wsL_order) := goodIn_app (goodIn_of _ (by decide +kernel)) ggL_law_L_order
set_option maxRecDepth 20000 in
theorem ggL_law_X1_order : GoodIn wsL_law wsX1_order := goodIn_r _ [380, 78, 79, 5, 80, 86, 87, 88, 89, 90, 381, 382, 383, 384, 225, 226, 227, 228, 29, 28, 229, 230, 231, 232, 316, 317, 318, 319, 233, 234, 235, 236, 27, 237, 238, 239, 476, 477, 478, 479, 480, 481, 482, 483, 484, 485] (by decide +kernel) (by decide +kernel)
set_option maxRecDepth 20000 in
theorem gL_law_X1_order : GoodIn wsL_law (wsV RL 166 RX1 yX1_order wsX1_order) := goodIn_app (goodIn_of _ (by decide +kernel)) ggL_law_X1_order
set_option maxRecDepth 20000 in
theorem ggL_law_L_highest : GoodIn wsL_law wsL_highest := goodIn_ca (goodIn_ca (goodIn_r _ [387, 38, 388, 389, 390, 391, 2, 392, 18, 44, 45, 46, 47, 48, 54, 55, 56, 393, 394, 395, 396, 397, 398, 20, 17, 67, 68, 69, 213, 214, 215, 216, 471, 472, 473, 474, 475] (by decide +kernel) (by decide +kernel)) (goodIn_sub (fun _ h => List.mem_append_left _ (List.mem_append_left _ (List.mem_append_left _ (List.mem_append_left _ (List.mem_append_right _ h))))) (by decide +kernel))) (goodIn_sub (fun _ h => List.mem_append_left _ (List.mem_append_left _ (List.mem_append_right _ h))) (by decide +kernel))
set_option maxRecDepth 20000 in
theorem gL_law_L_highest : GoodIn wsL_law (va_wsS RL 167 yL_highest wsL_highest) := goodIn_app (goodIn_of _ (by decide +kernel)) ggL_law_L_highest
set_option maxRecDepth 20000 in
theorem ggL_law_X1_highest : GoodIn wsL_law wsX1_highest := goodIn_r _ [402, 27, 78, 79, 5, 80, 403, 404, 405, 406, 29, 28, 237, 238, 239, 86, 87, 88, 89, 90, 476, 477, 478, 479, 480, 481, 482, 483, 484, 485] (by decide +kernel) (by decide +kernel)
set_option maxRecDepth 20000 in
theorem gL_law_X1_highest : GoodIn wsL_law (wsV RL 170 RX1 yX1_highest wsX1_highest) := goodIn_app (goodIn_of _ (by decide +kernel)) ggL_law_X1_highest
set_option maxRecDepth 20000 in
theorem ggL_law_L_calmest : GoodIn wsL_law wsL_calmest := goodIn_ca (goodIn_ca (goodIn_r _ [409, 38, 388, 410, 411, 412, 2, 413, 18, 44, 45, 46, 47, 48, 54, 55, 56, 393, 394, 395, 396, 397, 398, 20, 17, 67, 68, 69, 213, 214, 215, 216, 471, 472, 473, 474, 475] (by decide +kernel) (by decide +kernel)) (goodIn_sub (fun _ h => List.mem_append_left _ (List.mem_append_left _ (List.mem_append_left _ (List.mem_append_left _ (List.mem_append_right _ h))))) (by decide +kernel))) (goodIn_sub (fun _ h => List.mem_append_left _ (List.mem_append_left _ (List.mem_append_right _ h))) (by decide +kernel))
set_option maxRecDepth 20000 in
theorem gL_law_L_calmest : GoodIn wsL_law (va_wsS RL 171 yL_calmest wsL_calmest) := goodIn_app (goodIn_of _ (by decide +kernel)) ggL_law_L_calmest
set_option maxRecDepth 20000 in
theorem ggL_law_X1_calmest : GoodIn wsL_law wsX1_calmest := goodIn_r _ [417, 27, 78, 79, 5, 80, 403, 404, 405, 406, 29, 28, 237, 238, 239, 86, 87, 88, 89, 90, 476, 477, 478, 479, 480, 481, 482, 483, 484, 485] (by decide +kernel) (by decide +kernel)
set_option maxRecDepth 20000 in
theorem gL_law_X1_calmest : GoodIn wsL_law (wsV RL 173 RX1 yX1_calmest wsX1_calmest) := goodIn_app (goodIn_of _ (by decide +kernel)) ggL_law_X1_calmest
set_option maxRecDepth 20000 in
theorem ggL_law_L_same : GoodIn wsL_law wsL_same := goodIn_ca (goodIn_r _ [420, 38, 421, 422, 423, 2, 424, 20, 425, 426, 427, 428, 44, 45, 46, 47, 48, 54, 55, 56, 67, 68, 69, 373, 374, 375, 376, 17, 213, 214, 215, 216, 18, 471, 472, 473, 474, 475] (by decide +kernel) (by decide +kernel)) (goodIn_sub (fun _ h => List.mem_append_left _ (List.mem_append_left _ (List.mem_append_left _ (List.mem_append_left _ (List.mem_append_right _ h))))) (by decide +kernel))
set_option maxRecDepth 20000 in
theorem gL_law_L_same : GoodIn wsL_law (va_wsS RL 174 yL_same wsL_same) := goodIn_app (goodIn_of _ (by decide +kernel)) ggL_law_L_same
set_option maxRecDepth 20000 in
theorem ggL_law_X1_same : GoodIn wsL_law wsX1_same := goodIn_r _ [432, 29, 28, 27, 78, 79, 5, 80, 86, 87, 88, 89, 90, 237, 238, 239, 476, 477, 478, 479, 480, 481, 482, 483, 484, 485] (by decide +kernel) (by decide +kernel)
set_option maxRecDepth 20000 in
theorem gL_law_X1_same : GoodIn wsL_law (wsV RL 176 RX1 yX1_same wsX1_same) := goodIn_app (goodIn_of _ (by decide +kernel)) ggL_law_X1_same
set_option maxRecDepth 20000 in
theorem ggL_law_L_move : GoodIn wsL_law wsL_move := goodIn_ca (goodIn_ca (goodIn_ca (goodIn_r _ [435, 39, 436, 437, 438, 439, 440, 2, 441, 65, 66, 21, 22, 442, 443, 444, 445, 446, 447, 448, 449, 17, 209, 210, 211, 212, 20, 54, 55, 56, 67, 68, 69, 213, 214, 215, 216, 18, 162, 163, 164, 450, 451, 452, 453, 471, 472, 473, 474, 475] (by decide +kernel) (by decide +kernel)) (goodIn_sub (fun _ h => List.mem_append_left _ (List.mem_append_left _ (List.mem_append_left _ (List.mem_append_right _ h)))) (by decide +kernel))) (goodIn_sub (fun _ h => List.mem_append_left _ (List.mem_append_right _ h)) (by decide +kernel))) (goodIn_sub (fun _ h => List.mem_append_right _ h) (by decide +kernel))
set_option maxRecDepth 20000 in
theorem gL_law_L_move : GoodIn wsL_law (va_wsS RL 177 yL_move wsL_move) := goodIn_app (goodIn_of _ (by decide +kernel)) ggL_law_L_move
set_option maxRecDepth 20000 in
theorem ggL_law_X1_move : GoodIn wsL_law wsX1_move := goodIn_r _ [457, 458, 31, 30, 459, 316, 317, 318, 5, 319, 225, 226, 227, 228, 29, 28, 229, 230, 231, 232, 233, 234, 235, 236, 27, 237, 238, 239, 350, 351, 352, 353, 86, 87, 88, 89, 90, 476, 477, 478, 479, 480, 481, 482, 483, 484, 485] (by decide +kernel) (by decide +kernel)
set_option maxRecDepth 20000 in
theorem gL_law_X1_move : GoodIn wsL_law (wsV RL 180 RX1 yX1_move wsX1_move) := goodIn_app (goodIn_of _ (by decide +kernel)) ggL_law_X1_move
set_option maxRecDepth 20000 in
theorem ggL_law_L_size : GoodIn wsL_law wsL_size := goodIn_ca (goodIn_r _ [462, 38, 463, 464, 465, 2, 466, 20, 44, 45, 46, 47, 48, 125, 126, 127, 54, 55, 56, 471, 472, 473, 474, 475] (by decide +kernel) (by decide +kernel)) (goodIn_sub (fun _ h => List.mem_append_left _ (List.mem_append_left _ (List.mem_append_left _ (List.mem_append_left _ (List.mem_append_right _ h))))) (by decide +kernel))
set_option maxRecDepth 20000 in
theorem gL_law_L_size : GoodIn wsL_law (va_wsS RL 181 yL_size wsL_size) := goodIn_app (goodIn_of _ (by decide +kernel)) ggL_law_L_size
set_option maxRecDepth 20000 in
theorem ggL_law_X1_size : GoodIn wsL_law wsX1_size := goodIn_r _ [470, 29, 78, 79, 5, 80, 86, 87, 88, 89, 90, 476, 477, 478, 479, 480, 481, 482, 483, 484, 485] (by decide +kernel) (by decide +kernel)
set_option maxRecDepth 20000 in
theorem gL_law_X1_size : GoodIn wsL_law (wsV RL 183 RX1 yX1_size wsX1_size) := goodIn_app (goodIn_of _ (by decide +kernel)) ggL_law_X1_size
abbrev vwCl : List vw_C := [(RJ0, TJ0, 2), (RX0, TX0, 5), (RX1, TX1, 10)]
