set_option maxRecDepth 20000 in
theorem ggL_addStep_X0_addStep : GoodIn wsL_addStep wsX0_addStep := goodIn_ca (goodIn_ca (goodIn_ca (goodIn_r _ [8, 9, 10, 11, 12, 13, 14, 15, 16, 17, 18, 19, 20, 7, 21, 22, 23, 24, 25, 26, 27, 28, 29, 30, 31, 32, 33, 34, 35, 36, 37, 38, 39, 40, 41, 42, 43, 44] (by decide +kernel) (by decide +kernel)) (goodIn_sub (fun _ h => List.mem_cons_of_mem _ (List.mem_append_left _ (List.mem_append_left _ (List.mem_append_right _ h)))) (by decide +kernel))) (goodIn_sub (fun _ h => List.mem_cons_of_mem _ (List.mem_append_left _ (List.mem_append_right _ h))) (by decide +kernel))) (goodIn_sub (fun _ h => List.mem_cons_of_mem _ (List.mem_append_right _ h)) (by decide +kernel))
set_option maxRecDepth 20000 in
theorem gL_addStep_X0_addStep : GoodIn wsL_addStep (wsV RL 7 RX0 yX0_addStep wsX0_addStep) := goodIn_app (goodIn_of _ (by decide +kernel)) ggL_addStep_X0_addStep
theorem dL_addStep_0 : decode cL_addStep 0 = .ok (.aload 5, 2) := by decide +kernel
theorem dL_addStep_2 : decode cL_addStep 2 = .ok (.iconst 0, 1) := by decide +kernel
theorem dL_addStep_3 : decode cL_addStep 3 = .ok (.aload_n 0, 1) := by decide +kernel
theorem dL_addStep_4 : decode cL_addStep 4 = .ok (.iload_n 1, 1) := by decide +kernel
theorem dL_addStep_5 : decode cL_addStep 5 = .ok (.iload_n 2, 1) := by decide +kernel
theorem dL_addStep_6 : decode cL_addStep 6 = .ok (.iload_n 3, 1) := by decide +kernel
theorem dL_addStep_7 : decode cL_addStep 7 = .ok (.iload 4, 2) := by decide +kernel
theorem dL_addStep_9 : decode cL_addStep 9 = .ok (.invokevirtual 7, 3) := by decide +kernel
theorem dL_addStep_12 : decode cL_addStep 12 = .ok (.i2l, 1) := by decide +kernel
theorem dL_addStep_13 : decode cL_addStep 13 = .ok (.lastore, 1) := by decide +kernel
theorem dL_addStep_14 : decode cL_addStep 14 = .ok (.goto 15, 3) := by decide +kernel
theorem dL_addStep_17 : decode cL_addStep 17 = .ok (.astore 6, 2) := by decide +kernel
theorem dL_addStep_19 : decode cL_addStep 19 = .ok (.iconst 1, 1) := by decide +kernel
theorem dL_addStep_20 : decode cL_addStep 20 = .ok (.ireturn, 1) := by decide +kernel
theorem dL_addStep_21 : decode cL_addStep 21 = .ok (.astore 6, 2) := by decide +kernel
theorem dL_addStep_23 : decode cL_addStep 23 = .ok (.iconst 2, 1) := by decide +kernel
theorem dL_addStep_24 : decode cL_addStep 24 = .ok (.ireturn, 1) := by decide +kernel
theorem dL_addStep_25 : decode cL_addStep 25 = .ok (.astore 6, 2) := by decide +kernel
theorem dL_addStep_27 : decode cL_addStep 27 = .ok (.iconst 3, 1) := by decide +kernel
theorem dL_addStep_28 : decode cL_addStep 28 = .ok (.ireturn, 1) := by decide +kernel
theorem dL_addStep_29 : decode cL_addStep 29 = .ok (.iconst 0, 1) := by decide +kernel
theorem dL_addStep_30 : decode cL_addStep 30 = .ok (.ireturn, 1) := by decide +kernel
set_option maxRecDepth 20000 in
theorem ggL_enter_X0_enter : GoodIn wsL_enter wsX0_enter := goodIn_ca (goodIn_ca (goodIn_r _ [7, 8, 9, 10, 11, 12, 13, 14, 15, 16, 17, 6, 18, 19, 20, 21, 22, 23, 24, 25, 26, 27, 28, 29, 30, 31, 32, 33, 34, 35, 36, 37, 38, 39, 40, 41, 42, 43, 44, 45, 46, 47, 48, 49, 50, 51, 52, 53, 54, 55, 56, 57, 58] (by decide +kernel) (by decide +kernel)) (goodIn_sub (fun _ h => List.mem_cons_of_mem _ (List.mem_append_left _ (List.mem_append_right _ h))) (by decide +kernel))) (goodIn_sub (fun _ h => List.mem_cons_of_mem _ (List.mem_append_right _ h)) (by decide +kernel))
set_option maxRecDepth 20000 in
theorem gL_enter_X0_enter : GoodIn wsL_enter (wsV RL 19 RX0 yX0_enter wsX0_enter) := goodIn_app (goodIn_of _ (by decide +kernel)) ggL_enter_X0_enter
theorem dL_enter_0 : decode cL_enter 0 = .ok (.aload_n 2, 1) := by decide +kernel
theorem dL_enter_1 : decode cL_enter 1 = .ok (.iconst 0, 1) := by decide +kernel
theorem dL_enter_2 : decode cL_enter 2 = .ok (.aload_n 0, 1) := by decide +kernel
theorem dL_enter_3 : decode cL_enter 3 = .ok (.iload_n 1, 1) := by decide +kernel
theorem dL_enter_4 : decode cL_enter 4 = .ok (.invokevirtual 19, 3) := by decide +kernel
theorem dL_enter_7 : decode cL_enter 7 = .ok (.i2l, 1) := by decide +kernel
theorem dL_enter_8 : decode cL_enter 8 = .ok (.lastore, 1) := by decide +kernel
theorem dL_enter_9 : decode cL_enter 9 = .ok (.goto 9, 3) := by decide +kernel
theorem dL_enter_12 : decode cL_enter 12 = .ok (.astore_n 3, 1) := by decide +kernel
theorem dL_enter_13 : decode cL_enter 13 = .ok (.iconst 1, 1) := by decide +kernel
theorem dL_enter_14 : decode cL_enter 14 = .ok (.ireturn, 1) := by decide +kernel
theorem dL_enter_15 : decode cL_enter 15 = .ok (.astore_n 3, 1) := by decide +kernel
theorem dL_enter_16 : decode cL_enter 16 = .ok (.iconst 2, 1) := by decide +kernel
theorem dL_enter_17 : decode cL_enter 17 = .ok (.ireturn, 1) := by decide +kernel
theorem dL_enter_18 : decode cL_enter 18 = .ok (.iconst 0, 1) := by decide +kernel
theorem dL_enter_19 : decode cL_enter 19 = .ok (.ireturn, 1) := by decide +kernel
set_option maxRecDepth 20000 in
theorem ggL_start_X0_start : GoodIn wsL_start wsX0_start := goodIn_ca (goodIn_ca (goodIn_r _ [7, 8, 9, 10, 11, 12, 13, 14, 15, 16, 17, 18, 6, 19, 20, 21, 22, 23, 24, 25, 26, 27, 28, 29, 30, 31, 32, 33, 34, 35, 36, 37, 38, 39, 40, 41, 42, 43, 44, 45, 46, 47, 48, 49, 50, 51, 52, 53, 54, 55, 56, 57, 58, 59, 60, 61, 62, 63, 64, 65, 66, 67, 68, 69, 70, 71, 72, 73] (by decide +kernel) (by decide +kernel)) (goodIn_sub (fun _ h => List.mem_cons_of_mem _ (List.mem_append_left _ (List.mem_append_right _ h))) (by decide +kernel))) (goodIn_sub (fun _ h => List.mem_cons_of_mem _ (List.mem_append_right _ h)) (by decide +kernel))
set_option maxRecDepth 20000 in
theorem gL_start_X0_start : GoodIn wsL_start (wsV RL 23 RX0 yX0_start wsX0_start) := goodIn_app (goodIn_of _ (by decide +kernel)) ggL_start_X0_start
theorem dL_start_0 : decode cL_start 0 = .ok (.aload_n 2, 1) := by decide +kernel
theorem dL_start_1 : decode cL_start 1 = .ok (.iconst 0, 1) := by decide +kernel
theorem dL_start_2 : decode cL_start 2 = .ok (.aload_n 0, 1) := by decide +kernel
theorem dL_start_3 : decode cL_start 3 = .ok (.iload_n 1, 1) := by decide +kernel
theorem dL_start_4 : decode cL_start 4 = .ok (.invokevirtual 23, 3) := by decide +kernel
theorem dL_start_7 : decode cL_start 7 = .ok (.i2l, 1) := by decide +kernel
theorem dL_start_8 : decode cL_start 8 = .ok (.lastore, 1) := by decide +kernel
theorem dL_start_9 : decode cL_start 9 = .ok (.goto 9, 3) := by decide +kernel
theorem dL_start_12 : decode cL_start 12 = .ok (.astore_n 3, 1) := by decide +kernel
theorem dL_start_13 : decode cL_start 13 = .ok (.iconst 1, 1) := by decide +kernel
theorem dL_start_14 : decode cL_start 14 = .ok (.ireturn, 1) := by decide +kernel
theorem dL_start_15 : decode cL_start 15 = .ok (.astore_n 3, 1) := by decide +kernel
theorem dL_start_16 : decode cL_start 16 = .ok (.iconst 2, 1) := by decide +kernel
theorem dL_start_17 : decode cL_start 17 = .ok (.ireturn, 1) := by decide +kernel
theorem dL_start_18 : decode cL_start 18 = .ok (.iconst 0, 1) := by decide +kernel
theorem dL_start_19 : decode cL_start 19 = .ok (.ireturn, 1) := by decide +kernel
set_option maxRecDepth 20000 in
theorem ggL_rework_X0_rework : GoodIn wsL_rework wsX0_rework := goodIn_ca (goodIn_ca (goodIn_r _ [7, 8, 9, 10, 11, 12, 13, 14, 15, 16, 17, 6, 18, 19, 20, 21, 22, 23, 24, 25, 26, 27, 28, 29, 30, 31, 32, 33, 34, 35, 36, 37, 38, 39, 40, 41, 42, 43, 44, 45, 46, 47, 48, 49, 50, 51, 52, 53, 54] (by decide +kernel) (by decide +kernel)) (goodIn_sub (fun _ h => List.mem_cons_of_mem _ (List.mem_append_left _ (List.mem_append_right _ h))) (by decide +kernel))) (goodIn_sub (fun _ h => List.mem_cons_of_mem _ (List.mem_append_right _ h)) (by decide +kernel))
set_option maxRecDepth 20000 in
theorem gL_rework_X0_rework : GoodIn wsL_rework (wsV RL 26 RX0 yX0_rework wsX0_rework) := goodIn_app (goodIn_of _ (by decide +kernel)) ggL_rework_X0_rework
theorem dL_rework_0 : decode cL_rework 0 = .ok (.aload_n 2, 1) := by decide +kernel
theorem dL_rework_1 : decode cL_rework 1 = .ok (.iconst 0, 1) := by decide +kernel
theorem dL_rework_2 : decode cL_rework 2 = .ok (.aload_n 0, 1) := by decide +kernel
theorem dL_rework_3 : decode cL_rework 3 = .ok (.iload_n 1, 1) := by decide +kernel
theorem dL_rework_4 : decode cL_rework 4 = .ok (.invokevirtual 26, 3) := by decide +kernel
theorem dL_rework_7 : decode cL_rework 7 = .ok (.i2l, 1) := by decide +kernel
theorem dL_rework_8 : decode cL_rework 8 = .ok (.lastore, 1) := by decide +kernel
theorem dL_rework_9 : decode cL_rework 9 = .ok (.goto 9, 3) := by decide +kernel
theorem dL_rework_12 : decode cL_rework 12 = .ok (.astore_n 3, 1) := by decide +kernel
theorem dL_rework_13 : decode cL_rework 13 = .ok (.iconst 1, 1) := by decide +kernel
theorem dL_rework_14 : decode cL_rework 14 = .ok (.ireturn, 1) := by decide +kernel
theorem dL_rework_15 : decode cL_rework 15 = .ok (.astore_n 3, 1) := by decide +kernel
theorem dL_rework_16 : decode cL_rework 16 = .ok (.iconst 2, 1) := by decide +kernel
theorem dL_rework_17 : decode cL_rework 17 = .ok (.ireturn, 1) := by decide +kernel
theorem dL_rework_18 : decode cL_rework 18 = .ok (.iconst 0, 1) := by decide +kernel
theorem dL_rework_19 : decode cL_rework 19 = .ok (.ireturn, 1) := by decide +kernel
set_option maxRecDepth 20000 in
theorem ggL_split_X0_split : GoodIn wsL_split wsX0_split := goodIn_ca (goodIn_ca (goodIn_ca (goodIn_r _ [8, 9, 10, 11, 12, 13, 14, 15, 16, 17, 18, 19, 20, 21, 22, 7, 23, 24, 25, 26, 27, 28, 29, 30, 31, 32, 33, 34, 35, 36, 37, 38, 39, 40, 41, 42, 43, 44, 45, 46, 47, 48, 49, 50, 51, 52, 53, 54, 55, 56, 57, 58, 59, 60, 61, 62, 63, 64, 65, 66, 67] (by decide +kernel) (by decide +kernel)) (goodIn_sub (fun _ h => List.mem_cons_of_mem _ (List.mem_append_left _ (List.mem_append_left _ (List.mem_append_right _ h)))) (by decide +kernel))) (goodIn_sub (fun _ h => List.mem_cons_of_mem _ (List.mem_append_left _ (List.mem_append_right _ h))) (by decide +kernel))) (goodIn_sub (fun _ h => List.mem_cons_of_mem _ (List.mem_append_right _ h)) (by decide +kernel))
set_option maxRecDepth 20000 in
theorem gL_split_X0_split : GoodIn wsL_split (wsV RL 29 RX0 yX0_split wsX0_split) := goodIn_app (goodIn_of _ (by decide +kernel)) ggL_split_X0_split
theorem dL_split_0 : decode cL_split 0 = .ok (.aload_n 3, 1) := by decide +kernel
theorem dL_split_1 : decode cL_split 1 = .ok (.iconst 0, 1) := by decide +kernel
theorem dL_split_2 : decode cL_split 2 = .ok (.aload_n 0, 1) := by decide +kernel
theorem dL_split_3 : decode cL_split 3 = .ok (.iload_n 1, 1) := by decide +kernel
theorem dL_split_4 : decode cL_split 4 = .ok (.iload_n 2, 1) := by decide +kernel
theorem dL_split_5 : decode cL_split 5 = .ok (.invokevirtual 29, 3) := by decide +kernel
theorem dL_split_8 : decode cL_split 8 = .ok (.i2l, 1) := by decide +kernel
theorem dL_split_9 : decode cL_split 9 = .ok (.lastore, 1) := by decide +kernel
theorem dL_split_10 : decode cL_split 10 = .ok (.goto 15, 3) := by decide +kernel
theorem dL_split_13 : decode cL_split 13 = .ok (.astore 4, 2) := by decide +kernel
theorem dL_split_15 : decode cL_split 15 = .ok (.iconst 1, 1) := by decide +kernel
theorem dL_split_16 : decode cL_split 16 = .ok (.ireturn, 1) := by decide +kernel
theorem dL_split_17 : decode cL_split 17 = .ok (.astore 4, 2) := by decide +kernel
theorem dL_split_19 : decode cL_split 19 = .ok (.iconst 2, 1) := by decide +kernel
theorem dL_split_20 : decode cL_split 20 = .ok (.ireturn, 1) := by decide +kernel
theorem dL_split_21 : decode cL_split 21 = .ok (.astore 4, 2) := by decide +kernel
theorem dL_split_23 : decode cL_split 23 = .ok (.iconst 3, 1) := by decide +kernel
theorem dL_split_24 : decode cL_split 24 = .ok (.ireturn, 1) := by decide +kernel
theorem dL_split_25 : decode cL_split 25 = .ok (.iconst 0, 1) := by decide +kernel
theorem dL_split_26 : decode cL_split 26 = .ok (.ireturn, 1) := by decide +kernel
set_option maxRecDepth 20000 in
theorem ggL_merge_X0_merge : GoodIn wsL_merge wsX0_merge := goodIn_ca (goodIn_ca (goodIn_ca (goodIn_r _ [8, 9, 10, 11, 12, 13, 14, 15, 16, 17, 18, 19, 20, 21, 22, 23, 24, 25, 26, 7, 27, 28, 29, 30, 31, 32, 33, 34, 35, 36, 37, 38, 39, 40, 41, 42, 43, 44, 45, 46, 47, 48, 49, 50, 51, 52, 53, 54, 55, 56, 57, 58, 59, 60, 61, 62, 63, 64, 65, 66, 67, 68, 69, 70, 71, 72, 73, 74] (by decide +kernel) (by decide +kernel)) (goodIn_sub (fun _ h => List.mem_cons_of_mem _ (List.mem_append_left _ (List.mem_append_left _ (List.mem_append_right _ h)))) (by decide +kernel))) (goodIn_sub (fun _ h => List.mem_cons_of_mem _ (List.mem_append_left _ (List.mem_append_right _ h))) (by decide +kernel))) (goodIn_sub (fun _ h => List.mem_cons_of_mem _ (List.mem_append_right _ h)) (by decide +kernel))
set_option maxRecDepth 20000 in
theorem gL_merge_X0_merge : GoodIn wsL_merge (wsV RL 33 RX0 yX0_merge wsX0_merge) := goodIn_app (goodIn_of _ (by decide +kernel)) ggL_merge_X0_merge
theorem dL_merge_0 : decode cL_merge 0 = .ok (.aload_n 3, 1) := by decide +kernel
theorem dL_merge_1 : decode cL_merge 1 = .ok (.iconst 0, 1) := by decide +kernel
theorem dL_merge_2 : decode cL_merge 2 = .ok (.aload_n 0, 1) := by decide +kernel
theorem dL_merge_3 : decode cL_merge 3 = .ok (.iload_n 1, 1) := by decide +kernel
theorem dL_merge_4 : decode cL_merge 4 = .ok (.iload_n 2, 1) := by decide +kernel
theorem dL_merge_5 : decode cL_merge 5 = .ok (.invokevirtual 33, 3) := by decide +kernel
theorem dL_merge_8 : decode cL_merge 8 = .ok (.i2l, 1) := by decide +kernel
theorem dL_merge_9 : decode cL_merge 9 = .ok (.lastore, 1) := by decide +kernel
theorem dL_merge_10 : decode cL_merge 10 = .ok (.goto 15, 3) := by decide +kernel
theorem dL_merge_13 : decode cL_merge 13 = .ok (.astore 4, 2) := by decide +kernel
theorem dL_merge_15 : decode cL_merge 15 = .ok (.iconst 1, 1) := by decide +kernel
theorem dL_merge_16 : decode cL_merge 16 = .ok (.ireturn, 1) := by decide +kernel
theorem dL_merge_17 : decode cL_merge 17 = .ok (.astore 4, 2) := by decide +kernel
theorem dL_merge_19 : decode cL_merge 19 = .ok (.iconst 2, 1) := by decide +kernel
theorem dL_merge_20 : decode cL_merge 20 = .ok (.ireturn, 1) := by decide +kernel
theorem dL_merge_21 : decode cL_merge 21 = .ok (.astore 4, 2) := by decide +kernel
theorem dL_merge_23 : decode cL_merge 23 = .ok (.iconst 3, 1) := by decide +kernel
theorem dL_merge_24 : decode cL_merge 24 = .ok (.ireturn, 1) := by decide +kernel
theorem dL_merge_25 : decode cL_merge 25 = .ok (.iconst 0, 1) := by decide +kernel
theorem dL_merge_26 : decode cL_merge 26 = .ok (.ireturn, 1) := by decide +kernel
set_option maxRecDepth 20000 in
theorem ggL_hold_X0_hold : GoodIn wsL_hold wsX0_hold := goodIn_ca (goodIn_ca (goodIn_r _ [7, 8, 9, 10, 11, 12, 13, 14, 6, 15, 16, 17, 18, 19, 20, 21, 22, 23, 24, 25, 26, 27, 28, 29, 30, 31, 32, 33, 34, 35, 36, 37, 38, 39, 40] (by decide +kernel) (by decide +kernel)) (goodIn_sub (fun _ h => List.mem_cons_of_mem _ (List.mem_append_left _ (List.mem_append_right _ h))) (by decide +kernel))) (goodIn_sub (fun _ h => List.mem_cons_of_mem _ (List.mem_append_right _ h)) (by decide +kernel))
set_option maxRecDepth 20000 in
theorem gL_hold_X0_hold : GoodIn wsL_hold (wsV RL 36 RX0 yX0_hold wsX0_hold) := goodIn_app (goodIn_of _ (by decide +kernel)) ggL_hold_X0_hold
theorem dL_hold_0 : decode cL_hold 0 = .ok (.aload_n 3, 1) := by decide +kernel
theorem dL_hold_1 : decode cL_hold 1 = .ok (.iconst 0, 1) := by decide +kernel
theorem dL_hold_2 : decode cL_hold 2 = .ok (.aload_n 0, 1) := by decide +kernel
theorem dL_hold_3 : decode cL_hold 3 = .ok (.iload_n 1, 1) := by decide +kernel
theorem dL_hold_4 : decode cL_hold 4 = .ok (.iload_n 2, 1) := by decide +kernel
theorem dL_hold_5 : decode cL_hold 5 = .ok (.invokevirtual 36, 3) := by decide +kernel
theorem dL_hold_8 : decode cL_hold 8 = .ok (.ifCond .eq 7, 3) := by decide +kernel
theorem dL_hold_11 : decode cL_hold 11 = .ok (.lconst 1, 1) := by decide +kernel
theorem dL_hold_12 : decode cL_hold 12 = .ok (.goto 4, 3) := by decide +kernel
theorem dL_hold_15 : decode cL_hold 15 = .ok (.lconst 0, 1) := by decide +kernel
theorem dL_hold_16 : decode cL_hold 16 = .ok (.lastore, 1) := by decide +kernel
theorem dL_hold_17 : decode cL_hold 17 = .ok (.goto 11, 3) := by decide +kernel
theorem dL_hold_20 : decode cL_hold 20 = .ok (.astore 4, 2) := by decide +kernel
theorem dL_hold_22 : decode cL_hold 22 = .ok (.iconst 1, 1) := by decide +kernel
theorem dL_hold_23 : decode cL_hold 23 = .ok (.ireturn, 1) := by decide +kernel
theorem dL_hold_24 : decode cL_hold 24 = .ok (.astore 4, 2) := by decide +kernel
theorem dL_hold_26 : decode cL_hold 26 = .ok (.iconst 2, 1) := by decide +kernel
theorem dL_hold_27 : decode cL_hold 27 = .ok (.ireturn, 1) := by decide +kernel
theorem dL_hold_28 : decode cL_hold 28 = .ok (.iconst 0, 1) := by decide +kernel
theorem dL_hold_29 : decode cL_hold 29 = .ok (.ireturn, 1) := by decide +kernel
set_option maxRecDepth 20000 in
theorem ggL_scrap_X0_scrap : GoodIn wsL_scrap wsX0_scrap := goodIn_ca (goodIn_ca (goodIn_r _ [7, 8, 9, 10, 11, 12, 13, 14, 15, 6, 16, 17, 18, 19, 20, 21, 22, 23, 24, 25, 26, 27, 28, 29, 30, 31, 32, 33, 34, 35, 36, 37, 38, 39, 40, 41, 42, 43, 44, 45, 46, 47] (by decide +kernel) (by decide +kernel)) (goodIn_sub (fun _ h => List.mem_cons_of_mem _ (List.mem_append_left _ (List.mem_append_right _ h))) (by decide +kernel))) (goodIn_sub (fun _ h => List.mem_cons_of_mem _ (List.mem_append_right _ h)) (by decide +kernel))
set_option maxRecDepth 20000 in
theorem gL_scrap_X0_scrap : GoodIn wsL_scrap (wsV RL 40 RX0 yX0_scrap wsX0_scrap) := goodIn_app (goodIn_of _ (by decide +kernel)) ggL_scrap_X0_scrap
theorem dL_scrap_0 : decode cL_scrap 0 = .ok (.aload_n 2, 1) := by decide +kernel
theorem dL_scrap_1 : decode cL_scrap 1 = .ok (.iconst 0, 1) := by decide +kernel
theorem dL_scrap_2 : decode cL_scrap 2 = .ok (.aload_n 0, 1) := by decide +kernel
theorem dL_scrap_3 : decode cL_scrap 3 = .ok (.iload_n 1, 1) := by decide +kernel
theorem dL_scrap_4 : decode cL_scrap 4 = .ok (.invokevirtual 40, 3) := by decide +kernel
theorem dL_scrap_7 : decode cL_scrap 7 = .ok (.i2l, 1) := by decide +kernel
theorem dL_scrap_8 : decode cL_scrap 8 = .ok (.lastore, 1) := by decide +kernel
theorem dL_scrap_9 : decode cL_scrap 9 = .ok (.goto 9, 3) := by decide +kernel
theorem dL_scrap_12 : decode cL_scrap 12 = .ok (.astore_n 3, 1) := by decide +kernel
theorem dL_scrap_13 : decode cL_scrap 13 = .ok (.iconst 1, 1) := by decide +kernel
theorem dL_scrap_14 : decode cL_scrap 14 = .ok (.ireturn, 1) := by decide +kernel
theorem dL_scrap_15 : decode cL_scrap 15 = .ok (.astore_n 3, 1) := by decide +kernel
theorem dL_scrap_16 : decode cL_scrap 16 = .ok (.iconst 2, 1) := by decide +kernel
theorem dL_scrap_17 : decode cL_scrap 17 = .ok (.ireturn, 1) := by decide +kernel
theorem dL_scrap_18 : decode cL_scrap 18 = .ok (.iconst 0, 1) := by decide +kernel
theorem dL_scrap_19 : decode cL_scrap 19 = .ok (.ireturn, 1) := by decide +kernel
set_option maxRecDepth 20000 in
theorem ggL_advance_X0_advance : GoodIn wsL_advance wsX0_advance := goodIn_ca (goodIn_r _ [6, 7, 8, 9, 10, 11, 12, 13, 14, 5, 15, 16, 17, 18, 19, 20, 21, 22, 23, 24, 25, 26, 27, 28, 29, 30, 31, 32, 33, 34, 35, 36, 37, 38, 39, 40, 41, 42, 43, 44, 45, 46, 47] (by decide +kernel) (by decide +kernel)) (goodIn_sub (fun _ h => List.mem_cons_of_mem _ (List.mem_append_right _ h)) (by decide +kernel))
set_option maxRecDepth 20000 in
theorem gL_advance_X0_advance : GoodIn wsL_advance (wsV RL 43 RX0 yX0_advance wsX0_advance) := goodIn_app (goodIn_of _ (by decide +kernel)) ggL_advance_X0_advance
theorem dL_advance_0 : decode cL_advance 0 = .ok (.aload_n 2, 1) := by decide +kernel
theorem dL_advance_1 : decode cL_advance 1 = .ok (.iconst 0, 1) := by decide +kernel
theorem dL_advance_2 : decode cL_advance 2 = .ok (.aload_n 0, 1) := by decide +kernel
theorem dL_advance_3 : decode cL_advance 3 = .ok (.iload_n 1, 1) := by decide +kernel
theorem dL_advance_4 : decode cL_advance 4 = .ok (.invokevirtual 43, 3) := by decide +kernel
theorem dL_advance_7 : decode cL_advance 7 = .ok (.i2l, 1) := by decide +kernel
theorem dL_advance_8 : decode cL_advance 8 = .ok (.lastore, 1) := by decide +kernel
theorem dL_advance_9 : decode cL_advance 9 = .ok (.goto 6, 3) := by decide +kernel
theorem dL_advance_12 : decode cL_advance 12 = .ok (.astore_n 3, 1) := by decide +kernel
theorem dL_advance_13 : decode cL_advance 13 = .ok (.iconst 1, 1) := by decide +kernel
theorem dL_advance_14 : decode cL_advance 14 = .ok (.ireturn, 1) := by decide +kernel
theorem dL_advance_15 : decode cL_advance 15 = .ok (.iconst 0, 1) := by decide +kernel
theorem dL_advance_16 : decode cL_advance 16 = .ok (.ireturn, 1) := by decide +kernel
set_option maxRecDepth 20000 in
theorem ggL_state_X0_state : GoodIn wsL_state wsX0_state := goodIn_ca (goodIn_r _ [6, 7, 8, 9, 10, 5, 11, 12, 13, 14, 15, 16, 17, 18, 19, 20, 21, 22, 23, 24, 25, 26, 27, 28, 29, 30, 31, 32, 33, 34, 35, 36] (by decide +kernel) (by decide +kernel)) (goodIn_sub (fun _ h => List.mem_cons_of_mem _ (List.mem_append_right _ h)) (by decide +kernel))
set_option maxRecDepth 20000 in
theorem gL_state_X0_state : GoodIn wsL_state (wsV RL 46 RX0 yX0_state wsX0_state) := goodIn_app (goodIn_of _ (by decide +kernel)) ggL_state_X0_state
theorem dL_state_0 : decode cL_state 0 = .ok (.aload_n 2, 1) := by decide +kernel
theorem dL_state_1 : decode cL_state 1 = .ok (.iconst 0, 1) := by decide +kernel
theorem dL_state_2 : decode cL_state 2 = .ok (.aload_n 0, 1) := by decide +kernel
theorem dL_state_3 : decode cL_state 3 = .ok (.iload_n 1, 1) := by decide +kernel
theorem dL_state_4 : decode cL_state 4 = .ok (.invokevirtual 46, 3) := by decide +kernel
theorem dL_state_7 : decode cL_state 7 = .ok (.i2l, 1) := by decide +kernel
theorem dL_state_8 : decode cL_state 8 = .ok (.lastore, 1) := by decide +kernel
theorem dL_state_9 : decode cL_state 9 = .ok (.goto 6, 3) := by decide +kernel
theorem dL_state_12 : decode cL_state 12 = .ok (.astore_n 3, 1) := by decide +kernel
theorem dL_state_13 : decode cL_state 13 = .ok (.iconst 1, 1) := by decide +kernel
theorem dL_state_14 : decode cL_state 14 = .ok (.ireturn, 1) := by decide +kernel
theorem dL_state_15 : decode cL_state 15 = .ok (.iconst 0, 1) := by decide +kernel
theorem dL_state_16 : decode cL_state 16 = .ok (.ireturn, 1) := by decide +kernel
set_option maxRecDepth 20000 in
theorem ggL_stepOf_X0_stepOf : GoodIn wsL_stepOf wsX0_stepOf := goodIn_ca (goodIn_r _ [6, 7, 8, 9, 10, 5, 11, 12, 13, 14, 15, 16, 17, 18, 19, 20, 21, 22, 23, 24, 25, 26, 27, 28, 29, 30, 31, 32, 33, 34, 35, 36] (by decide +kernel) (by decide +kernel)) (goodIn_sub (fun _ h => List.mem_cons_of_mem _ (List.mem_append_right _ h)) (by decide +kernel))
set_option maxRecDepth 20000 in
theorem gL_stepOf_X0_stepOf : GoodIn wsL_stepOf (wsV RL 49 RX0 yX0_stepOf wsX0_stepOf) := goodIn_app (goodIn_of _ (by decide +kernel)) ggL_stepOf_X0_stepOf
theorem dL_stepOf_0 : decode cL_stepOf 0 = .ok (.aload_n 2, 1) := by decide +kernel
theorem dL_stepOf_1 : decode cL_stepOf 1 = .ok (.iconst 0, 1) := by decide +kernel
theorem dL_stepOf_2 : decode cL_stepOf 2 = .ok (.aload_n 0, 1) := by decide +kernel
theorem dL_stepOf_3 : decode cL_stepOf 3 = .ok (.iload_n 1, 1) := by decide +kernel
theorem dL_stepOf_4 : decode cL_stepOf 4 = .ok (.invokevirtual 49, 3) := by decide +kernel
theorem dL_stepOf_7 : decode cL_stepOf 7 = .ok (.i2l, 1) := by decide +kernel
theorem dL_stepOf_8 : decode cL_stepOf 8 = .ok (.lastore, 1) := by decide +kernel
theorem dL_stepOf_9 : decode cL_stepOf 9 = .ok (.goto 6, 3) := by decide +kernel
theorem dL_stepOf_12 : decode cL_stepOf 12 = .ok (.astore_n 3, 1) := by decide +kernel
theorem dL_stepOf_13 : decode cL_stepOf 13 = .ok (.iconst 1, 1) := by decide +kernel
theorem dL_stepOf_14 : decode cL_stepOf 14 = .ok (.ireturn, 1) := by decide +kernel
theorem dL_stepOf_15 : decode cL_stepOf 15 = .ok (.iconst 0, 1) := by decide +kernel
theorem dL_stepOf_16 : decode cL_stepOf 16 = .ok (.ireturn, 1) := by decide +kernel
set_option maxRecDepth 20000 in
theorem ggL_size_X0_size : GoodIn wsL_size wsX0_size := goodIn_ca (goodIn_r _ [6, 7, 8, 9, 10, 5, 11, 12, 13, 14, 15, 16, 17, 18, 19, 20, 21, 22, 23, 24, 25, 26, 27, 28, 29, 30, 31, 32, 33, 34, 35, 36] (by decide +kernel) (by decide +kernel)) (goodIn_sub (fun _ h => List.mem_cons_of_mem _ (List.mem_append_right _ h)) (by decide +kernel))
set_option maxRecDepth 20000 in
theorem gL_size_X0_size : GoodIn wsL_size (wsV RL 52 RX0 yX0_size wsX0_size) := goodIn_app (goodIn_of _ (by decide +kernel)) ggL_size_X0_size
theorem dL_size_0 : decode cL_size 0 = .ok (.aload_n 2, 1) := by decide +kernel
theorem dL_size_1 : decode cL_size 1 = .ok (.iconst 0, 1) := by decide +kernel
theorem dL_size_2 : decode cL_size 2 = .ok (.aload_n 0, 1) := by decide +kernel
theorem dL_size_3 : decode cL_size 3 = .ok (.iload_n 1, 1) := by decide +kernel
theorem dL_size_4 : decode cL_size 4 = .ok (.invokevirtual 52, 3) := by decide +kernel
theorem dL_size_7 : decode cL_size 7 = .ok (.i2l, 1) := by decide +kernel
theorem dL_size_8 : decode cL_size 8 = .ok (.lastore, 1) := by decide +kernel
theorem dL_size_9 : decode cL_size 9 = .ok (.goto 6, 3) := by decide +kernel
theorem dL_size_12 : decode cL_size 12 = .ok (.astore_n 3, 1) := by decide +kernel
theorem dL_size_13 : decode cL_size 13 = .ok (.iconst 1, 1) := by decide +kernel
theorem dL_size_14 : decode cL_size 14 = .ok (.ireturn, 1) := by decide +kernel
theorem dL_size_15 : decode cL_size 15 = .ok (.iconst 0, 1) := by decide +kernel
theorem dL_size_16 : decode cL_size 16 = .ok (.ireturn, 1) := by decide +kernel
set_option maxRecDepth 20000 in
theorem ggL_slack_X0_slack : GoodIn wsL_slack wsX0_slack := goodIn_ca (goodIn_r _ [6, 7, 8, 9, 5, 10, 11, 12, 13, 14, 15, 16, 17, 18, 19, 20, 21, 22, 23, 24, 25, 26, 27, 28, 29, 30, 31, 32, 33, 34, 35, 36, 37, 38, 39, 40, 41, 42, 43, 44, 45, 46, 47, 48, 49, 50, 51] (by decide +kernel) (by decide +kernel)) (goodIn_sub (fun _ h => List.mem_cons_of_mem _ (List.mem_append_right _ h)) (by decide +kernel))
set_option maxRecDepth 20000 in
theorem gL_slack_X0_slack : GoodIn wsL_slack (wsV RL 55 RX0 yX0_slack wsX0_slack) := goodIn_app (goodIn_of _ (by decide +kernel)) ggL_slack_X0_slack
theorem dL_slack_0 : decode cL_slack 0 = .ok (.aload_n 2, 1) := by decide +kernel
theorem dL_slack_1 : decode cL_slack 1 = .ok (.iconst 0, 1) := by decide +kernel
theorem dL_slack_2 : decode cL_slack 2 = .ok (.aload_n 0, 1) := by decide +kernel
theorem dL_slack_3 : decode cL_slack 3 = .ok (.iload_n 1, 1) := by decide +kernel
theorem dL_slack_4 : decode cL_slack 4 = .ok (.invokevirtual 55, 3) := by decide +kernel
theorem dL_slack_7 : decode cL_slack 7 = .ok (.i2l, 1) := by decide +kernel
theorem dL_slack_8 : decode cL_slack 8 = .ok (.lastore, 1) := by decide +kernel
theorem dL_slack_9 : decode cL_slack 9 = .ok (.goto 6, 3) := by decide +kernel
theorem dL_slack_12 : decode cL_slack 12 = .ok (.astore_n 3, 1) := by decide +kernel
theorem dL_slack_13 : decode cL_slack 13 = .ok (.iconst 1, 1) := by decide +kernel
theorem dL_slack_14 : decode cL_slack 14 = .ok (.ireturn, 1) := by decide +kernel
theorem dL_slack_15 : decode cL_slack 15 = .ok (.iconst 0, 1) := by decide +kernel
theorem dL_slack_16 : decode cL_slack 16 = .ok (.ireturn, 1) := by decide +kernel
set_option maxRecDepth 20000 in
theorem ggL_isLate_X0_isLate : GoodIn wsL_isLate wsX0_isLate := goodIn_ca (goodIn_r _ [6, 7, 8, 9, 5, 10, 11, 12, 13, 14, 15, 16, 17, 18, 19, 20, 21, 22, 23, 24, 25, 26, 27, 28, 29, 30, 31, 32, 33, 34, 35, 36, 37, 38, 39, 40, 41, 42, 43, 44, 45, 46, 47, 48, 49, 50, 51] (by decide +kernel) (by decide +kernel)) (goodIn_sub (fun _ h => List.mem_cons_of_mem _ (List.mem_append_right _ h)) (by decide +kernel))
set_option maxRecDepth 20000 in
theorem gL_isLate_X0_isLate : GoodIn wsL_isLate (wsV RL 58 RX0 yX0_isLate wsX0_isLate) := goodIn_app (goodIn_of _ (by decide +kernel)) ggL_isLate_X0_isLate
theorem dL_isLate_0 : decode cL_isLate 0 = .ok (.aload_n 2, 1) := by decide +kernel
theorem dL_isLate_1 : decode cL_isLate 1 = .ok (.iconst 0, 1) := by decide +kernel
theorem dL_isLate_2 : decode cL_isLate 2 = .ok (.aload_n 0, 1) := by decide +kernel
theorem dL_isLate_3 : decode cL_isLate 3 = .ok (.iload_n 1, 1) := by decide +kernel
theorem dL_isLate_4 : decode cL_isLate 4 = .ok (.invokevirtual 58, 3) := by decide +kernel
theorem dL_isLate_7 : decode cL_isLate 7 = .ok (.ifCond .eq 7, 3) := by decide +kernel
theorem dL_isLate_10 : decode cL_isLate 10 = .ok (.lconst 1, 1) := by decide +kernel
theorem dL_isLate_11 : decode cL_isLate 11 = .ok (.goto 4, 3) := by decide +kernel
theorem dL_isLate_14 : decode cL_isLate 14 = .ok (.lconst 0, 1) := by decide +kernel
theorem dL_isLate_15 : decode cL_isLate 15 = .ok (.lastore, 1) := by decide +kernel
theorem dL_isLate_16 : decode cL_isLate 16 = .ok (.goto 6, 3) := by decide +kernel
theorem dL_isLate_19 : decode cL_isLate 19 = .ok (.astore_n 3, 1) := by decide +kernel
theorem dL_isLate_20 : decode cL_isLate 20 = .ok (.iconst 1, 1) := by decide +kernel
theorem dL_isLate_21 : decode cL_isLate 21 = .ok (.ireturn, 1) := by decide +kernel
theorem dL_isLate_22 : decode cL_isLate 22 = .ok (.iconst 0, 1) := by decide +kernel
theorem dL_isLate_23 : decode cL_isLate 23 = .ok (.ireturn, 1) := by decide +kernel
set_option maxRecDepth 20000 in
theorem ggL_reworks_X0_reworks : GoodIn wsL_reworks wsX0_reworks := goodIn_ca (goodIn_r _ [6, 7, 8, 9, 10, 5, 11, 12, 13, 14, 15, 16, 17, 18, 19, 20, 21, 22, 23, 24, 25, 26, 27, 28, 29, 30, 31, 32, 33, 34, 35, 36] (by decide +kernel) (by decide +kernel)) (goodIn_sub (fun _ h => List.mem_cons_of_mem _ (List.mem_append_right _ h)) (by decide +kernel))
set_option maxRecDepth 20000 in
theorem gL_reworks_X0_reworks : GoodIn wsL_reworks (wsV RL 62 RX0 yX0_reworks wsX0_reworks) := goodIn_app (goodIn_of _ (by decide +kernel)) ggL_reworks_X0_reworks
theorem dL_reworks_0 : decode cL_reworks 0 = .ok (.aload_n 2, 1) := by decide +kernel
theorem dL_reworks_1 : decode cL_reworks 1 = .ok (.iconst 0, 1) := by decide +kernel
theorem dL_reworks_2 : decode cL_reworks 2 = .ok (.aload_n 0, 1) := by decide +kernel
theorem dL_reworks_3 : decode cL_reworks 3 = .ok (.iload_n 1, 1) := by decide +kernel
theorem dL_reworks_4 : decode cL_reworks 4 = .ok (.invokevirtual 62, 3) := by decide +kernel
theorem dL_reworks_7 : decode cL_reworks 7 = .ok (.i2l, 1) := by decide +kernel
theorem dL_reworks_8 : decode cL_reworks 8 = .ok (.lastore, 1) := by decide +kernel
theorem dL_reworks_9 : decode cL_reworks 9 = .ok (.goto 6, 3) := by decide +kernel
theorem dL_reworks_12 : decode cL_reworks 12 = .ok (.astore_n 3, 1) := by decide +kernel
theorem dL_reworks_13 : decode cL_reworks 13 = .ok (.iconst 1, 1) := by decide +kernel
theorem dL_reworks_14 : decode cL_reworks 14 = .ok (.ireturn, 1) := by decide +kernel
theorem dL_reworks_15 : decode cL_reworks 15 = .ok (.iconst 0, 1) := by decide +kernel
theorem dL_reworks_16 : decode cL_reworks 16 = .ok (.ireturn, 1) := by decide +kernel
set_option maxRecDepth 20000 in
theorem ggL_nextFor_X0_nextFor : GoodIn wsL_nextFor wsX0_nextFor := goodIn_ca (goodIn_r _ [6, 7, 8, 9, 10, 5, 11, 12, 13, 14, 15, 16, 17, 18, 19, 20, 21, 22, 23, 24, 25, 26, 27, 28, 29, 30, 31, 32, 33, 34, 35, 36, 37, 38, 39, 40, 41, 42, 43, 44, 45, 46, 47, 48, 49, 50, 51, 52, 53, 54, 55, 56, 57, 58, 59, 60, 61, 62, 63, 64, 65, 66, 67] (by decide +kernel) (by decide +kernel)) (goodIn_sub (fun _ h => List.mem_cons_of_mem _ (List.mem_append_right _ h)) (by decide +kernel))
set_option maxRecDepth 20000 in
theorem gL_nextFor_X0_nextFor : GoodIn wsL_nextFor (wsV RL 65 RX0 yX0_nextFor wsX0_nextFor) := goodIn_app (goodIn_of _ (by decide +kernel)) ggL_nextFor_X0_nextFor
theorem dL_nextFor_0 : decode cL_nextFor 0 = .ok (.aload_n 2, 1) := by decide +kernel
theorem dL_nextFor_1 : decode cL_nextFor 1 = .ok (.iconst 0, 1) := by decide +kernel
theorem dL_nextFor_2 : decode cL_nextFor 2 = .ok (.aload_n 0, 1) := by decide +kernel
theorem dL_nextFor_3 : decode cL_nextFor 3 = .ok (.iload_n 1, 1) := by decide +kernel
theorem dL_nextFor_4 : decode cL_nextFor 4 = .ok (.invokevirtual 65, 3) := by decide +kernel
theorem dL_nextFor_7 : decode cL_nextFor 7 = .ok (.i2l, 1) := by decide +kernel
theorem dL_nextFor_8 : decode cL_nextFor 8 = .ok (.lastore, 1) := by decide +kernel
theorem dL_nextFor_9 : decode cL_nextFor 9 = .ok (.goto 6, 3) := by decide +kernel
theorem dL_nextFor_12 : decode cL_nextFor 12 = .ok (.astore_n 3, 1) := by decide +kernel
theorem dL_nextFor_13 : decode cL_nextFor 13 = .ok (.iconst 1, 1) := by decide +kernel
theorem dL_nextFor_14 : decode cL_nextFor 14 = .ok (.ireturn, 1) := by decide +kernel
theorem dL_nextFor_15 : decode cL_nextFor 15 = .ok (.iconst 0, 1) := by decide +kernel
theorem dL_nextFor_16 : decode cL_nextFor 16 = .ok (.ireturn, 1) := by decide +kernel
set_option maxRecDepth 20000 in
theorem ggL_wafersAt_X0_wafersAt : GoodIn wsL_wafersAt wsX0_wafersAt := goodIn_ca (goodIn_r _ [6, 7, 8, 9, 10, 11, 12, 5, 13, 14, 15, 16, 17, 18, 19, 20, 21, 22, 23, 24, 25, 26, 27, 28, 29, 30, 31, 32, 33, 34, 35, 36, 37, 38] (by decide +kernel) (by decide +kernel)) (goodIn_sub (fun _ h => List.mem_cons_of_mem _ (List.mem_append_right _ h)) (by decide +kernel))
set_option maxRecDepth 20000 in
theorem gL_wafersAt_X0_wafersAt : GoodIn wsL_wafersAt (wsV RL 68 RX0 yX0_wafersAt wsX0_wafersAt) := goodIn_app (goodIn_of _ (by decide +kernel)) ggL_wafersAt_X0_wafersAt
theorem dL_wafersAt_0 : decode cL_wafersAt 0 = .ok (.aload_n 2, 1) := by decide +kernel
theorem dL_wafersAt_1 : decode cL_wafersAt 1 = .ok (.iconst 0, 1) := by decide +kernel
theorem dL_wafersAt_2 : decode cL_wafersAt 2 = .ok (.aload_n 0, 1) := by decide +kernel
theorem dL_wafersAt_3 : decode cL_wafersAt 3 = .ok (.iload_n 1, 1) := by decide +kernel
theorem dL_wafersAt_4 : decode cL_wafersAt 4 = .ok (.invokevirtual 68, 3) := by decide +kernel
theorem dL_wafersAt_7 : decode cL_wafersAt 7 = .ok (.i2l, 1) := by decide +kernel
theorem dL_wafersAt_8 : decode cL_wafersAt 8 = .ok (.lastore, 1) := by decide +kernel
theorem dL_wafersAt_9 : decode cL_wafersAt 9 = .ok (.goto 6, 3) := by decide +kernel
theorem dL_wafersAt_12 : decode cL_wafersAt 12 = .ok (.astore_n 3, 1) := by decide +kernel
theorem dL_wafersAt_13 : decode cL_wafersAt 13 = .ok (.iconst 1, 1) := by decide +kernel
theorem dL_wafersAt_14 : decode cL_wafersAt 14 = .ok (.ireturn, 1) := by decide +kernel
theorem dL_wafersAt_15 : decode cL_wafersAt 15 = .ok (.iconst 0, 1) := by decide +kernel
theorem dL_wafersAt_16 : decode cL_wafersAt 16 = .ok (.ireturn, 1) := by decide +kernel
set_option maxRecDepth 20000 in
theorem ggL_wafersAtByWafers_X0_wafersAtByWafers : GoodIn wsL_wafersAtByWafers wsX0_wafersAtByWafers := goodIn_ca (goodIn_r _ [6, 7, 8, 9, 10, 11, 12, 5, 13, 14, 15, 16, 17, 18, 19, 20, 21, 22, 23, 24, 25, 26, 27, 28, 29, 30, 31, 32, 33, 34, 35, 36, 37, 38, 39, 40, 41, 42, 43] (by decide +kernel) (by decide +kernel)) (goodIn_sub (fun _ h => List.mem_cons_of_mem _ (List.mem_append_right _ h)) (by decide +kernel))
set_option maxRecDepth 20000 in
theorem gL_wafersAtByWafers_X0_wafersAtByWafers : GoodIn wsL_wafersAtByWafers (wsV RL 71 RX0 yX0_wafersAtByWafers wsX0_wafersAtByWafers) := goodIn_app (goodIn_of _ (by decide +kernel)) ggL_wafersAtByWafers_X0_wafersAtByWafers
theorem dL_wafersAtByWafers_0 : decode cL_wafersAtByWafers 0 = .ok (.aload_n 2, 1) := by decide +kernel
theorem dL_wafersAtByWafers_1 : decode cL_wafersAtByWafers 1 = .ok (.iconst 0, 1) := by decide +kernel
theorem dL_wafersAtByWafers_2 : decode cL_wafersAtByWafers 2 = .ok (.aload_n 0, 1) := by decide +kernel
theorem dL_wafersAtByWafers_3 : decode cL_wafersAtByWafers 3 = .ok (.iload_n 1, 1) := by decide +kernel
theorem dL_wafersAtByWafers_4 : decode cL_wafersAtByWafers 4 = .ok (.invokevirtual 71, 3) := by decide +kernel
theorem dL_wafersAtByWafers_7 : decode cL_wafersAtByWafers 7 = .ok (.i2l, 1) := by decide +kernel
theorem dL_wafersAtByWafers_8 : decode cL_wafersAtByWafers 8 = .ok (.lastore, 1) := by decide +kernel
theorem dL_wafersAtByWafers_9 : decode cL_wafersAtByWafers 9 = .ok (.goto 6, 3) := by decide +kernel
theorem dL_wafersAtByWafers_12 : decode cL_wafersAtByWafers 12 = .ok (.astore_n 3, 1) := by decide +kernel
theorem dL_wafersAtByWafers_13 : decode cL_wafersAtByWafers 13 = .ok (.iconst 1, 1) := by decide +kernel
theorem dL_wafersAtByWafers_14 : decode cL_wafersAtByWafers 14 = .ok (.ireturn, 1) := by decide +kernel
theorem dL_wafersAtByWafers_15 : decode cL_wafersAtByWafers 15 = .ok (.iconst 0, 1) := by decide +kernel
theorem dL_wafersAtByWafers_16 : decode cL_wafersAtByWafers 16 = .ok (.ireturn, 1) := by decide +kernel
set_option maxRecDepth 20000 in
theorem ggL_lotOf_X0_lotOf : GoodIn wsL_lotOf wsX0_lotOf := goodIn_ca (goodIn_r _ [6, 7, 8, 9, 10, 5, 11, 12, 13, 14, 15, 16, 17, 18, 19, 20, 21, 22, 23, 24, 25, 26, 27, 28, 29, 30, 31, 32] (by decide +kernel) (by decide +kernel)) (goodIn_sub (fun _ h => List.mem_cons_of_mem _ (List.mem_append_right _ h)) (by decide +kernel))
set_option maxRecDepth 20000 in
theorem gL_lotOf_X0_lotOf : GoodIn wsL_lotOf (wsV RL 74 RX0 yX0_lotOf wsX0_lotOf) := goodIn_app (goodIn_of _ (by decide +kernel)) ggL_lotOf_X0_lotOf
theorem dL_lotOf_0 : decode cL_lotOf 0 = .ok (.aload_n 2, 1) := by decide +kernel
theorem dL_lotOf_1 : decode cL_lotOf 1 = .ok (.iconst 0, 1) := by decide +kernel
theorem dL_lotOf_2 : decode cL_lotOf 2 = .ok (.aload_n 0, 1) := by decide +kernel
theorem dL_lotOf_3 : decode cL_lotOf 3 = .ok (.iload_n 1, 1) := by decide +kernel
theorem dL_lotOf_4 : decode cL_lotOf 4 = .ok (.invokevirtual 74, 3) := by decide +kernel
theorem dL_lotOf_7 : decode cL_lotOf 7 = .ok (.i2l, 1) := by decide +kernel
theorem dL_lotOf_8 : decode cL_lotOf 8 = .ok (.lastore, 1) := by decide +kernel
theorem dL_lotOf_9 : decode cL_lotOf 9 = .ok (.goto 6, 3) := by decide +kernel
theorem dL_lotOf_12 : decode cL_lotOf 12 = .ok (.astore_n 3, 1) := by decide +kernel
theorem dL_lotOf_13 : decode cL_lotOf 13 = .ok (.iconst 1, 1) := by decide +kernel
theorem dL_lotOf_14 : decode cL_lotOf 14 = .ok (.ireturn, 1) := by decide +kernel
theorem dL_lotOf_15 : decode cL_lotOf 15 = .ok (.iconst 0, 1) := by decide +kernel
theorem dL_lotOf_16 : decode cL_lotOf 16 = .ok (.ireturn, 1) := by decide +kernel
set_option maxRecDepth 20000 in
theorem ggL_parentOf_X0_parentOf : GoodIn wsL_parentOf wsX0_parentOf := goodIn_ca (goodIn_r _ [6, 7, 8, 9, 10, 5, 11, 12, 13, 14, 15, 16, 17, 18, 19, 20, 21, 22, 23, 24, 25, 26, 27, 28, 29, 30, 31, 32, 33, 34, 35, 36] (by decide +kernel) (by decide +kernel)) (goodIn_sub (fun _ h => List.mem_cons_of_mem _ (List.mem_append_right _ h)) (by decide +kernel))
set_option maxRecDepth 20000 in
theorem gL_parentOf_X0_parentOf : GoodIn wsL_parentOf (wsV RL 77 RX0 yX0_parentOf wsX0_parentOf) := goodIn_app (goodIn_of _ (by decide +kernel)) ggL_parentOf_X0_parentOf
theorem dL_parentOf_0 : decode cL_parentOf 0 = .ok (.aload_n 2, 1) := by decide +kernel
theorem dL_parentOf_1 : decode cL_parentOf 1 = .ok (.iconst 0, 1) := by decide +kernel
theorem dL_parentOf_2 : decode cL_parentOf 2 = .ok (.aload_n 0, 1) := by decide +kernel
theorem dL_parentOf_3 : decode cL_parentOf 3 = .ok (.iload_n 1, 1) := by decide +kernel
theorem dL_parentOf_4 : decode cL_parentOf 4 = .ok (.invokevirtual 77, 3) := by decide +kernel
theorem dL_parentOf_7 : decode cL_parentOf 7 = .ok (.i2l, 1) := by decide +kernel
theorem dL_parentOf_8 : decode cL_parentOf 8 = .ok (.lastore, 1) := by decide +kernel
theorem dL_parentOf_9 : decode cL_parentOf 9 = .ok (.goto 6, 3) := by decide +kernel
theorem dL_parentOf_12 : decode cL_parentOf 12 = .ok (.astore_n 3, 1) := by decide +kernel
theorem dL_parentOf_13 : decode cL_parentOf 13 = .ok (.iconst 1, 1) := by decide +kernel
theorem dL_parentOf_14 : decode cL_parentOf 14 = .ok (.ireturn, 1) := by decide +kernel
theorem dL_parentOf_15 : decode cL_parentOf 15 = .ok (.iconst 0, 1) := by decide +kernel
theorem dL_parentOf_16 : decode cL_parentOf 16 = .ok (.ireturn, 1) := by decide +kernel
set_option maxRecDepth 20000 in
theorem ggL_common_X0_common : GoodIn wsL_common wsX0_common := goodIn_ca (goodIn_r _ [6, 7, 8, 9, 5, 10, 11, 12, 13, 14, 15, 16, 17, 18, 19, 20, 21, 22, 23, 24, 25, 26, 27, 28, 29, 30, 31, 32, 33, 34, 35, 36, 37, 38, 39, 40] (by decide +kernel) (by decide +kernel)) (goodIn_sub (fun _ h => List.mem_cons_of_mem _ (List.mem_append_right _ h)) (by decide +kernel))
set_option maxRecDepth 20000 in
theorem gL_common_X0_common : GoodIn wsL_common (wsV RL 80 RX0 yX0_common wsX0_common) := goodIn_app (goodIn_of _ (by decide +kernel)) ggL_common_X0_common
theorem dL_common_0 : decode cL_common 0 = .ok (.aload_n 3, 1) := by decide +kernel
theorem dL_common_1 : decode cL_common 1 = .ok (.iconst 0, 1) := by decide +kernel
theorem dL_common_2 : decode cL_common 2 = .ok (.aload_n 0, 1) := by decide +kernel
theorem dL_common_3 : decode cL_common 3 = .ok (.iload_n 1, 1) := by decide +kernel
theorem dL_common_4 : decode cL_common 4 = .ok (.iload_n 2, 1) := by decide +kernel
theorem dL_common_5 : decode cL_common 5 = .ok (.invokevirtual 80, 3) := by decide +kernel
theorem dL_common_8 : decode cL_common 8 = .ok (.i2l, 1) := by decide +kernel
theorem dL_common_9 : decode cL_common 9 = .ok (.lastore, 1) := by decide +kernel
theorem dL_common_10 : decode cL_common 10 = .ok (.goto 7, 3) := by decide +kernel
theorem dL_common_13 : decode cL_common 13 = .ok (.astore 4, 2) := by decide +kernel
theorem dL_common_15 : decode cL_common 15 = .ok (.iconst 1, 1) := by decide +kernel
theorem dL_common_16 : decode cL_common 16 = .ok (.ireturn, 1) := by decide +kernel
theorem dL_common_17 : decode cL_common 17 = .ok (.iconst 0, 1) := by decide +kernel
theorem dL_common_18 : decode cL_common 18 = .ok (.ireturn, 1) := by decide +kernel
set_option maxRecDepth 20000 in
theorem ggL_path_X0_path : GoodIn wsL_path wsX0_path := goodIn_ca (goodIn_r _ [6, 7, 8, 9, 10, 5, 11, 12, 13, 14, 15, 16, 17, 18, 19, 20, 21, 22, 23, 24, 25, 26, 27, 28, 29, 30, 31, 32] (by decide +kernel) (by decide +kernel)) (goodIn_sub (fun _ h => List.mem_cons_of_mem _ (List.mem_append_right _ h)) (by decide +kernel))
set_option maxRecDepth 20000 in
theorem gL_path_X0_path : GoodIn wsL_path (wsV RL 83 RX0 yX0_path wsX0_path) := goodIn_app (goodIn_of _ (by decide +kernel)) ggL_path_X0_path
theorem dL_path_0 : decode cL_path 0 = .ok (.aload_n 2, 1) := by decide +kernel
theorem dL_path_1 : decode cL_path 1 = .ok (.iconst 0, 1) := by decide +kernel
theorem dL_path_2 : decode cL_path 2 = .ok (.aload_n 0, 1) := by decide +kernel
theorem dL_path_3 : decode cL_path 3 = .ok (.iload_n 1, 1) := by decide +kernel
theorem dL_path_4 : decode cL_path 4 = .ok (.invokevirtual 83, 3) := by decide +kernel
theorem dL_path_7 : decode cL_path 7 = .ok (.i2l, 1) := by decide +kernel
theorem dL_path_8 : decode cL_path 8 = .ok (.lastore, 1) := by decide +kernel
theorem dL_path_9 : decode cL_path 9 = .ok (.goto 6, 3) := by decide +kernel
theorem dL_path_12 : decode cL_path 12 = .ok (.astore_n 3, 1) := by decide +kernel
theorem dL_path_13 : decode cL_path 13 = .ok (.iconst 1, 1) := by decide +kernel
theorem dL_path_14 : decode cL_path 14 = .ok (.ireturn, 1) := by decide +kernel
theorem dL_path_15 : decode cL_path 15 = .ok (.iconst 0, 1) := by decide +kernel
theorem dL_path_16 : decode cL_path 16 = .ok (.ireturn, 1) := by decide +kernel
set_option maxRecDepth 20000 in
theorem ggL_pathAt_X0_pathAt : GoodIn wsL_pathAt wsX0_pathAt := goodIn_ca (goodIn_r _ [6, 7, 8, 9, 10, 11, 12, 13, 5, 14, 15, 16, 17, 18, 19, 20, 21, 22, 23, 24, 25, 26, 27, 28, 29, 30, 31, 32, 33, 34, 35, 36] (by decide +kernel) (by decide +kernel)) (goodIn_sub (fun _ h => List.mem_cons_of_mem _ (List.mem_append_right _ h)) (by decide +kernel))
set_option maxRecDepth 20000 in
theorem gL_pathAt_X0_pathAt : GoodIn wsL_pathAt (wsV RL 86 RX0 yX0_pathAt wsX0_pathAt) := goodIn_app (goodIn_of _ (by decide +kernel)) ggL_pathAt_X0_pathAt
theorem dL_pathAt_0 : decode cL_pathAt 0 = .ok (.aload_n 3, 1) := by decide +kernel
theorem dL_pathAt_1 : decode cL_pathAt 1 = .ok (.iconst 0, 1) := by decide +kernel
theorem dL_pathAt_2 : decode cL_pathAt 2 = .ok (.aload_n 0, 1) := by decide +kernel
theorem dL_pathAt_3 : decode cL_pathAt 3 = .ok (.iload_n 1, 1) := by decide +kernel
theorem dL_pathAt_4 : decode cL_pathAt 4 = .ok (.iload_n 2, 1) := by decide +kernel
theorem dL_pathAt_5 : decode cL_pathAt 5 = .ok (.invokevirtual 86, 3) := by decide +kernel
theorem dL_pathAt_8 : decode cL_pathAt 8 = .ok (.i2l, 1) := by decide +kernel
theorem dL_pathAt_9 : decode cL_pathAt 9 = .ok (.lastore, 1) := by decide +kernel
theorem dL_pathAt_10 : decode cL_pathAt 10 = .ok (.goto 7, 3) := by decide +kernel
theorem dL_pathAt_13 : decode cL_pathAt 13 = .ok (.astore 4, 2) := by decide +kernel
theorem dL_pathAt_15 : decode cL_pathAt 15 = .ok (.iconst 1, 1) := by decide +kernel
theorem dL_pathAt_16 : decode cL_pathAt 16 = .ok (.ireturn, 1) := by decide +kernel
theorem dL_pathAt_17 : decode cL_pathAt 17 = .ok (.iconst 0, 1) := by decide +kernel
theorem dL_pathAt_18 : decode cL_pathAt 18 = .ok (.ireturn, 1) := by decide +kernel
