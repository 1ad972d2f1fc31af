theorem dL_cell_0 : decode cL_cell 0 = .ok (.iload_n 1, 1) := by decide +kernel
theorem dL_cell_1 : decode cL_cell 1 = .ok (.aload_n 0, 1) := by decide +kernel
theorem dL_cell_2 : decode cL_cell 2 = .ok (.arraylength, 1) := by decide +kernel
theorem dL_cell_3 : decode cL_cell 3 = .ok (.if_icmp .ge 9, 3) := by decide +kernel
theorem dL_cell_6 : decode cL_cell 6 = .ok (.aload_n 0, 1) := by decide +kernel
theorem dL_cell_7 : decode cL_cell 7 = .ok (.iload_n 1, 1) := by decide +kernel
theorem dL_cell_8 : decode cL_cell 8 = .ok (.iaload, 1) := by decide +kernel
theorem dL_cell_9 : decode cL_cell 9 = .ok (.goto 15, 3) := by decide +kernel
theorem dL_cell_12 : decode cL_cell 12 = .ok (.sipush 7919, 3) := by decide +kernel
theorem dL_cell_15 : decode cL_cell 15 = .ok (.iload_n 1, 1) := by decide +kernel
theorem dL_cell_16 : decode cL_cell 16 = .ok (.iconst 3, 1) := by decide +kernel
theorem dL_cell_17 : decode cL_cell 17 = .ok (.iadd, 1) := by decide +kernel
theorem dL_cell_18 : decode cL_cell 18 = .ok (.imul, 1) := by decide +kernel
theorem dL_cell_19 : decode cL_cell 19 = .ok (.iload_n 1, 1) := by decide +kernel
theorem dL_cell_20 : decode cL_cell 20 = .ok (.bipush 11, 2) := by decide +kernel
theorem dL_cell_22 : decode cL_cell 22 = .ok (.iadd, 1) := by decide +kernel
theorem dL_cell_23 : decode cL_cell 23 = .ok (.imul, 1) := by decide +kernel
theorem dL_cell_24 : decode cL_cell 24 = .ok (.ireturn, 1) := by decide +kernel
theorem dL_low_0 : decode cL_low 0 = .ok (.iload_n 0, 1) := by decide +kernel
theorem dL_low_1 : decode cL_low 1 = .ok (.ldc 7, 2) := by decide +kernel
theorem dL_low_3 : decode cL_low 3 = .ok (.iand, 1) := by decide +kernel
theorem dL_low_4 : decode cL_low 4 = .ok (.iload_n 1, 1) := by decide +kernel
theorem dL_low_5 : decode cL_low 5 = .ok (.irem, 1) := by decide +kernel
theorem dL_low_6 : decode cL_low 6 = .ok (.ireturn, 1) := by decide +kernel
set_option maxRecDepth 20000 in
theorem ggL_isWafer_X0_lotOf : GoodIn wsL_isWafer wsX0_lotOf := goodIn_ca (goodIn_r _ [5, 6, 7, 8, 9, 4, 10, 11, 12, 13, 46, 47, 48, 49, 50, 51, 52, 53, 54, 55, 56, 57, 58, 59, 60, 61, 62, 63] (by decide +kernel) (by decide +kernel)) (goodIn_sub (fun _ h => List.mem_cons_of_mem _ (List.mem_append_right _ h)) (by decide +kernel))
set_option maxRecDepth 20000 in
theorem gL_isWafer_X0_lotOf : GoodIn wsL_isWafer (wsV RL 8 RX0 yX0_lotOf wsX0_lotOf) := goodIn_app (goodIn_of _ (by decide +kernel)) ggL_isWafer_X0_lotOf
set_option maxRecDepth 20000 in
theorem ggL_isWafer_X0_path : GoodIn wsL_isWafer wsX0_path := goodIn_ca (goodIn_r _ [17, 18, 7, 8, 9, 4, 10, 11, 12, 13, 46, 47, 48, 49, 50, 51, 52, 53, 54, 55, 56, 57, 58, 59, 60, 61, 62, 63] (by decide +kernel) (by decide +kernel)) (goodIn_sub (fun _ h => List.mem_cons_of_mem _ (List.mem_append_right _ h)) (by decide +kernel))
set_option maxRecDepth 20000 in
theorem gL_isWafer_X0_path : GoodIn wsL_isWafer (wsV RL 14 RX0 yX0_path wsX0_path) := goodIn_app (goodIn_of _ (by decide +kernel)) ggL_isWafer_X0_path
set_option maxRecDepth 20000 in
theorem ggL_isWafer_X0_pathAt : GoodIn wsL_isWafer wsX0_pathAt := goodIn_ca (goodIn_r _ [22, 11, 12, 18, 23, 7, 8, 9, 4, 10, 13, 24, 25, 26, 46, 47, 48, 49, 50, 51, 52, 53, 54, 55, 56, 57, 58, 59, 60, 61, 62, 63] (by decide +kernel) (by decide +kernel)) (goodIn_sub (fun _ h => List.mem_cons_of_mem _ (List.mem_append_right _ h)) (by decide +kernel))
set_option maxRecDepth 20000 in
theorem gL_isWafer_X0_pathAt : GoodIn wsL_isWafer (wsV RL 17 RX0 yX0_pathAt wsX0_pathAt) := goodIn_app (goodIn_of _ (by decide +kernel)) ggL_isWafer_X0_pathAt
set_option maxRecDepth 20000 in
theorem ggL_isWafer_X0_parentOf : GoodIn wsL_isWafer wsX0_parentOf := goodIn_ca (goodIn_r _ [30, 31, 32, 33, 34, 4, 35, 11, 12, 36, 37, 38, 39, 40, 46, 47, 48, 49, 50, 51, 52, 53, 54, 55, 56, 57, 58, 59, 60, 61, 62, 63] (by decide +kernel) (by decide +kernel)) (goodIn_sub (fun _ h => List.mem_cons_of_mem _ (List.mem_append_right _ h)) (by decide +kernel))
set_option maxRecDepth 20000 in
theorem gL_isWafer_X0_parentOf : GoodIn wsL_isWafer (wsV RL 21 RX0 yX0_parentOf wsX0_parentOf) := goodIn_app (goodIn_of _ (by decide +kernel)) ggL_isWafer_X0_parentOf
set_option maxRecDepth 20000 in
theorem ggL_isWafer_X0_state : GoodIn wsL_isWafer wsX0_state := goodIn_ca (goodIn_r _ [44, 45, 32, 33, 34, 4, 35, 11, 12, 36, 37, 38, 39, 40, 46, 47, 48, 49, 50, 51, 52, 53, 54, 55, 56, 57, 58, 59, 60, 61, 62, 63] (by decide +kernel) (by decide +kernel)) (goodIn_sub (fun _ h => List.mem_cons_of_mem _ (List.mem_append_right _ h)) (by decide +kernel))
set_option maxRecDepth 20000 in
theorem gL_isWafer_X0_state : GoodIn wsL_isWafer (wsV RL 24 RX0 yX0_state wsX0_state) := goodIn_app (goodIn_of _ (by decide +kernel)) ggL_isWafer_X0_state
theorem dL_isWafer_0 : decode cL_isWafer 0 = .ok (.aload_n 0, 1) := by decide +kernel
theorem dL_isWafer_1 : decode cL_isWafer 1 = .ok (.iload_n 1, 1) := by decide +kernel
theorem dL_isWafer_2 : decode cL_isWafer 2 = .ok (.invokevirtual 8, 3) := by decide +kernel
theorem dL_isWafer_5 : decode cL_isWafer 5 = .ok (.istore_n 2, 1) := by decide +kernel
theorem dL_isWafer_6 : decode cL_isWafer 6 = .ok (.aload_n 0, 1) := by decide +kernel
theorem dL_isWafer_7 : decode cL_isWafer 7 = .ok (.iload_n 1, 1) := by decide +kernel
theorem dL_isWafer_8 : decode cL_isWafer 8 = .ok (.invokevirtual 14, 3) := by decide +kernel
theorem dL_isWafer_11 : decode cL_isWafer 11 = .ok (.istore_n 3, 1) := by decide +kernel
theorem dL_isWafer_12 : decode cL_isWafer 12 = .ok (.iload_n 3, 1) := by decide +kernel
theorem dL_isWafer_13 : decode cL_isWafer 13 = .ok (.iconst 1, 1) := by decide +kernel
theorem dL_isWafer_14 : decode cL_isWafer 14 = .ok (.if_icmp .lt 47, 3) := by decide +kernel
theorem dL_isWafer_17 : decode cL_isWafer 17 = .ok (.aload_n 0, 1) := by decide +kernel
theorem dL_isWafer_18 : decode cL_isWafer 18 = .ok (.aload_n 0, 1) := by decide +kernel
theorem dL_isWafer_19 : decode cL_isWafer 19 = .ok (.iload_n 1, 1) := by decide +kernel
theorem dL_isWafer_20 : decode cL_isWafer 20 = .ok (.iconst 0, 1) := by decide +kernel
theorem dL_isWafer_21 : decode cL_isWafer 21 = .ok (.invokevirtual 17, 3) := by decide +kernel
theorem dL_isWafer_24 : decode cL_isWafer 24 = .ok (.invokevirtual 21, 3) := by decide +kernel
theorem dL_isWafer_27 : decode cL_isWafer 27 = .ok (.iconst (-1), 1) := by decide +kernel
theorem dL_isWafer_28 : decode cL_isWafer 28 = .ok (.if_icmp .ne 33, 3) := by decide +kernel
theorem dL_isWafer_31 : decode cL_isWafer 31 = .ok (.iload_n 2, 1) := by decide +kernel
theorem dL_isWafer_32 : decode cL_isWafer 32 = .ok (.iconst (-1), 1) := by decide +kernel
theorem dL_isWafer_33 : decode cL_isWafer 33 = .ok (.if_icmp .eq 24, 3) := by decide +kernel
theorem dL_isWafer_36 : decode cL_isWafer 36 = .ok (.aload_n 0, 1) := by decide +kernel
theorem dL_isWafer_37 : decode cL_isWafer 37 = .ok (.iload_n 1, 1) := by decide +kernel
theorem dL_isWafer_38 : decode cL_isWafer 38 = .ok (.iload_n 3, 1) := by decide +kernel
theorem dL_isWafer_39 : decode cL_isWafer 39 = .ok (.iconst 1, 1) := by decide +kernel
theorem dL_isWafer_40 : decode cL_isWafer 40 = .ok (.isub, 1) := by decide +kernel
theorem dL_isWafer_41 : decode cL_isWafer 41 = .ok (.invokevirtual 17, 3) := by decide +kernel
theorem dL_isWafer_44 : decode cL_isWafer 44 = .ok (.iload_n 2, 1) := by decide +kernel
theorem dL_isWafer_45 : decode cL_isWafer 45 = .ok (.if_icmp .ne 16, 3) := by decide +kernel
theorem dL_isWafer_48 : decode cL_isWafer 48 = .ok (.aload_n 0, 1) := by decide +kernel
theorem dL_isWafer_49 : decode cL_isWafer 49 = .ok (.iload_n 2, 1) := by decide +kernel
theorem dL_isWafer_50 : decode cL_isWafer 50 = .ok (.invokevirtual 24, 3) := by decide +kernel
theorem dL_isWafer_53 : decode cL_isWafer 53 = .ok (.iconst 3, 1) := by decide +kernel
theorem dL_isWafer_54 : decode cL_isWafer 54 = .ok (.if_icmp .eq 7, 3) := by decide +kernel
theorem dL_isWafer_57 : decode cL_isWafer 57 = .ok (.iconst 1, 1) := by decide +kernel
theorem dL_isWafer_58 : decode cL_isWafer 58 = .ok (.goto 4, 3) := by decide +kernel
theorem dL_isWafer_61 : decode cL_isWafer 61 = .ok (.iconst 0, 1) := by decide +kernel
theorem dL_isWafer_62 : decode cL_isWafer 62 = .ok (.istore 4, 2) := by decide +kernel
theorem dL_isWafer_64 : decode cL_isWafer 64 = .ok (.iconst 1, 1) := by decide +kernel
theorem dL_isWafer_65 : decode cL_isWafer 65 = .ok (.istore 5, 2) := by decide +kernel
theorem dL_isWafer_67 : decode cL_isWafer 67 = .ok (.iload 5, 2) := by decide +kernel
theorem dL_isWafer_69 : decode cL_isWafer 69 = .ok (.iload_n 3, 1) := by decide +kernel
theorem dL_isWafer_70 : decode cL_isWafer 70 = .ok (.if_icmp .ge 69, 3) := by decide +kernel
theorem dL_isWafer_73 : decode cL_isWafer 73 = .ok (.iload 4, 2) := by decide +kernel
theorem dL_isWafer_75 : decode cL_isWafer 75 = .ok (.ifCond .eq 64, 3) := by decide +kernel
theorem dL_isWafer_78 : decode cL_isWafer 78 = .ok (.aload_n 0, 1) := by decide +kernel
theorem dL_isWafer_79 : decode cL_isWafer 79 = .ok (.iload_n 1, 1) := by decide +kernel
theorem dL_isWafer_80 : decode cL_isWafer 80 = .ok (.iload 5, 2) := by decide +kernel
theorem dL_isWafer_82 : decode cL_isWafer 82 = .ok (.iconst 1, 1) := by decide +kernel
theorem dL_isWafer_83 : decode cL_isWafer 83 = .ok (.isub, 1) := by decide +kernel
theorem dL_isWafer_84 : decode cL_isWafer 84 = .ok (.invokevirtual 17, 3) := by decide +kernel
theorem dL_isWafer_87 : decode cL_isWafer 87 = .ok (.istore 6, 2) := by decide +kernel
theorem dL_isWafer_89 : decode cL_isWafer 89 = .ok (.aload_n 0, 1) := by decide +kernel
theorem dL_isWafer_90 : decode cL_isWafer 90 = .ok (.iload_n 1, 1) := by decide +kernel
theorem dL_isWafer_91 : decode cL_isWafer 91 = .ok (.iload 5, 2) := by decide +kernel
theorem dL_isWafer_93 : decode cL_isWafer 93 = .ok (.invokevirtual 17, 3) := by decide +kernel
theorem dL_isWafer_96 : decode cL_isWafer 96 = .ok (.istore 7, 2) := by decide +kernel
theorem dL_isWafer_98 : decode cL_isWafer 98 = .ok (.iload 6, 2) := by decide +kernel
theorem dL_isWafer_100 : decode cL_isWafer 100 = .ok (.iload 7, 2) := by decide +kernel
theorem dL_isWafer_102 : decode cL_isWafer 102 = .ok (.if_icmp .eq 28, 3) := by decide +kernel
theorem dL_isWafer_105 : decode cL_isWafer 105 = .ok (.aload_n 0, 1) := by decide +kernel
theorem dL_isWafer_106 : decode cL_isWafer 106 = .ok (.iload 7, 2) := by decide +kernel
theorem dL_isWafer_108 : decode cL_isWafer 108 = .ok (.invokevirtual 21, 3) := by decide +kernel
theorem dL_isWafer_111 : decode cL_isWafer 111 = .ok (.iload 6, 2) := by decide +kernel
theorem dL_isWafer_113 : decode cL_isWafer 113 = .ok (.if_icmp .eq 13, 3) := by decide +kernel
theorem dL_isWafer_116 : decode cL_isWafer 116 = .ok (.aload_n 0, 1) := by decide +kernel
theorem dL_isWafer_117 : decode cL_isWafer 117 = .ok (.iload 6, 2) := by decide +kernel
theorem dL_isWafer_119 : decode cL_isWafer 119 = .ok (.invokevirtual 24, 3) := by decide +kernel
theorem dL_isWafer_122 : decode cL_isWafer 122 = .ok (.iconst 3, 1) := by decide +kernel
theorem dL_isWafer_123 : decode cL_isWafer 123 = .ok (.if_icmp .ne 7, 3) := by decide +kernel
theorem dL_isWafer_126 : decode cL_isWafer 126 = .ok (.iconst 1, 1) := by decide +kernel
theorem dL_isWafer_127 : decode cL_isWafer 127 = .ok (.goto 4, 3) := by decide +kernel
theorem dL_isWafer_130 : decode cL_isWafer 130 = .ok (.iconst 0, 1) := by decide +kernel
theorem dL_isWafer_131 : decode cL_isWafer 131 = .ok (.istore 4, 2) := by decide +kernel
theorem dL_isWafer_133 : decode cL_isWafer 133 = .ok (.iinc 5 1, 3) := by decide +kernel
theorem dL_isWafer_136 : decode cL_isWafer 136 = .ok (.goto (-69), 3) := by decide +kernel
theorem dL_isWafer_139 : decode cL_isWafer 139 = .ok (.iload 4, 2) := by decide +kernel
theorem dL_isWafer_141 : decode cL_isWafer 141 = .ok (.ireturn, 1) := by decide +kernel
set_option maxRecDepth 20000 in
theorem ggL_isLot_X0_wafers : GoodIn wsL_isLot wsX0_wafers := goodIn_r _ [6, 7, 75, 76, 77, 78, 79, 80, 81, 82, 83, 84, 85, 86, 87, 88, 89, 90, 91, 92] (by decide +kernel) (by decide +kernel)
set_option maxRecDepth 20000 in
theorem gL_isLot_X0_wafers : GoodIn wsL_isLot (wsV RL 27 RX0 yX0_wafers wsX0_wafers) := goodIn_app (goodIn_of _ (by decide +kernel)) ggL_isLot_X0_wafers
set_option maxRecDepth 20000 in
theorem ggL_isLot_X0_lotOf : GoodIn wsL_isLot wsX0_lotOf := goodIn_ca (goodIn_r _ [11, 12, 13, 14, 15, 5, 16, 17, 18, 7, 75, 76, 77, 78, 79, 80, 81, 82, 83, 84, 85, 86, 87, 88, 89, 90, 91, 92] (by decide +kernel) (by decide +kernel)) (goodIn_sub (fun _ h => List.mem_cons_of_mem _ (List.mem_append_right _ h)) (by decide +kernel))
set_option maxRecDepth 20000 in
theorem gL_isLot_X0_lotOf : GoodIn wsL_isLot (wsV RL 8 RX0 yX0_lotOf wsX0_lotOf) := goodIn_app (goodIn_of _ (by decide +kernel)) ggL_isLot_X0_lotOf
set_option maxRecDepth 20000 in
theorem ggL_isLot_X0_state : GoodIn wsL_isLot wsX0_state := goodIn_ca (goodIn_r _ [22, 23, 24, 25, 26, 5, 27, 17, 18, 28, 29, 30, 31, 32, 75, 76, 77, 78, 79, 80, 81, 82, 83, 84, 85, 86, 87, 88, 89, 90, 91, 92] (by decide +kernel) (by decide +kernel)) (goodIn_sub (fun _ h => List.mem_cons_of_mem _ (List.mem_append_right _ h)) (by decide +kernel))
set_option maxRecDepth 20000 in
theorem gL_isLot_X0_state : GoodIn wsL_isLot (wsV RL 24 RX0 yX0_state wsX0_state) := goodIn_app (goodIn_of _ (by decide +kernel)) ggL_isLot_X0_state
set_option maxRecDepth 20000 in
theorem ggL_isLot_X0_size : GoodIn wsL_isLot wsX0_size := goodIn_ca (goodIn_r _ [36, 37, 24, 25, 26, 5, 27, 17, 18, 28, 29, 30, 31, 32, 75, 76, 77, 78, 79, 80, 81, 82, 83, 84, 85, 86, 87, 88, 89, 90, 91, 92] (by decide +kernel) (by decide +kernel)) (goodIn_sub (fun _ h => List.mem_cons_of_mem _ (List.mem_append_right _ h)) (by decide +kernel))
set_option maxRecDepth 20000 in
theorem gL_isLot_X0_size : GoodIn wsL_isLot (wsV RL 31 RX0 yX0_size wsX0_size) := goodIn_app (goodIn_of _ (by decide +kernel)) ggL_isLot_X0_size
set_option maxRecDepth 20000 in
theorem ggL_isLot_X0_stepOf : GoodIn wsL_isLot wsX0_stepOf := goodIn_ca (goodIn_r _ [41, 42, 24, 25, 26, 5, 27, 17, 18, 28, 29, 30, 31, 32, 75, 76, 77, 78, 79, 80, 81, 82, 83, 84, 85, 86, 87, 88, 89, 90, 91, 92] (by decide +kernel) (by decide +kernel)) (goodIn_sub (fun _ h => List.mem_cons_of_mem _ (List.mem_append_right _ h)) (by decide +kernel))
set_option maxRecDepth 20000 in
theorem gL_isLot_X0_stepOf : GoodIn wsL_isLot (wsV RL 34 RX0 yX0_stepOf wsX0_stepOf) := goodIn_app (goodIn_of _ (by decide +kernel)) ggL_isLot_X0_stepOf
set_option maxRecDepth 20000 in
theorem ggL_isLot_X0_parentOf : GoodIn wsL_isLot wsX0_parentOf := goodIn_ca (goodIn_r _ [46, 47, 24, 25, 26, 5, 27, 17, 18, 28, 29, 30, 31, 32, 75, 76, 77, 78, 79, 80, 81, 82, 83, 84, 85, 86, 87, 88, 89, 90, 91, 92] (by decide +kernel) (by decide +kernel)) (goodIn_sub (fun _ h => List.mem_cons_of_mem _ (List.mem_append_right _ h)) (by decide +kernel))
set_option maxRecDepth 20000 in
theorem gL_isLot_X0_parentOf : GoodIn wsL_isLot (wsV RL 21 RX0 yX0_parentOf wsX0_parentOf) := goodIn_app (goodIn_of _ (by decide +kernel)) ggL_isLot_X0_parentOf
set_option maxRecDepth 20000 in
theorem ggL_isLot_X0_isLate : GoodIn wsL_isLot wsX0_isLate := goodIn_ca (goodIn_r _ [51, 24, 25, 26, 5, 27, 17, 18, 28, 29, 30, 31, 32, 52, 53, 54, 55, 42, 23, 56, 57, 58, 59, 60, 61, 62, 63, 64, 65, 75, 76, 77, 78, 79, 80, 81, 82, 83, 84, 85, 86, 87, 88, 89, 90, 91, 92] (by decide +kernel) (by decide +kernel)) (goodIn_sub (fun _ h => List.mem_cons_of_mem _ (List.mem_append_right _ h)) (by decide +kernel))
set_option maxRecDepth 20000 in
theorem gL_isLot_X0_isLate : GoodIn wsL_isLot (wsV RL 37 RX0 yX0_isLate wsX0_isLate) := goodIn_app (goodIn_of _ (by decide +kernel)) ggL_isLot_X0_isLate
set_option maxRecDepth 20000 in
theorem ggL_isLot_X0_slack : GoodIn wsL_isLot wsX0_slack := goodIn_ca (goodIn_r _ [69, 24, 25, 26, 5, 27, 17, 18, 28, 29, 30, 31, 32, 52, 53, 54, 55, 42, 23, 56, 57, 58, 59, 60, 61, 62, 63, 64, 65, 75, 76, 77, 78, 79, 80, 81, 82, 83, 84, 85, 86, 87, 88, 89, 90, 91, 92] (by decide +kernel) (by decide +kernel)) (goodIn_sub (fun _ h => List.mem_cons_of_mem _ (List.mem_append_right _ h)) (by decide +kernel))
set_option maxRecDepth 20000 in
theorem gL_isLot_X0_slack : GoodIn wsL_isLot (wsV RL 41 RX0 yX0_slack wsX0_slack) := goodIn_app (goodIn_of _ (by decide +kernel)) ggL_isLot_X0_slack
set_option maxRecDepth 20000 in
theorem ggL_isLot_X0_reworks : GoodIn wsL_isLot wsX0_reworks := goodIn_ca (goodIn_r _ [73, 74, 24, 25, 26, 5, 27, 17, 18, 28, 29, 30, 31, 32, 75, 76, 77, 78, 79, 80, 81, 82, 83, 84, 85, 86, 87, 88, 89, 90, 91, 92] (by decide +kernel) (by decide +kernel)) (goodIn_sub (fun _ h => List.mem_cons_of_mem _ (List.mem_append_right _ h)) (by decide +kernel))
set_option maxRecDepth 20000 in
theorem gL_isLot_X0_reworks : GoodIn wsL_isLot (wsV RL 45 RX0 yX0_reworks wsX0_reworks) := goodIn_app (goodIn_of _ (by decide +kernel)) ggL_isLot_X0_reworks
theorem dL_isLot_0 : decode cL_isLot 0 = .ok (.iconst 0, 1) := by decide +kernel
theorem dL_isLot_1 : decode cL_isLot 1 = .ok (.istore_n 2, 1) := by decide +kernel
theorem dL_isLot_2 : decode cL_isLot 2 = .ok (.iconst 0, 1) := by decide +kernel
theorem dL_isLot_3 : decode cL_isLot 3 = .ok (.istore_n 3, 1) := by decide +kernel
theorem dL_isLot_4 : decode cL_isLot 4 = .ok (.iload_n 3, 1) := by decide +kernel
theorem dL_isLot_5 : decode cL_isLot 5 = .ok (.aload_n 0, 1) := by decide +kernel
theorem dL_isLot_6 : decode cL_isLot 6 = .ok (.invokevirtual 27, 3) := by decide +kernel
theorem dL_isLot_9 : decode cL_isLot 9 = .ok (.if_icmp .ge 26, 3) := by decide +kernel
theorem dL_isLot_12 : decode cL_isLot 12 = .ok (.iload_n 2, 1) := by decide +kernel
theorem dL_isLot_13 : decode cL_isLot 13 = .ok (.aload_n 0, 1) := by decide +kernel
theorem dL_isLot_14 : decode cL_isLot 14 = .ok (.iload_n 3, 1) := by decide +kernel
theorem dL_isLot_15 : decode cL_isLot 15 = .ok (.invokevirtual 8, 3) := by decide +kernel
theorem dL_isLot_18 : decode cL_isLot 18 = .ok (.iload_n 1, 1) := by decide +kernel
theorem dL_isLot_19 : decode cL_isLot 19 = .ok (.if_icmp .ne 7, 3) := by decide +kernel
theorem dL_isLot_22 : decode cL_isLot 22 = .ok (.iconst 1, 1) := by decide +kernel
theorem dL_isLot_23 : decode cL_isLot 23 = .ok (.goto 4, 3) := by decide +kernel
theorem dL_isLot_26 : decode cL_isLot 26 = .ok (.iconst 0, 1) := by decide +kernel
theorem dL_isLot_27 : decode cL_isLot 27 = .ok (.iadd, 1) := by decide +kernel
theorem dL_isLot_28 : decode cL_isLot 28 = .ok (.istore_n 2, 1) := by decide +kernel
theorem dL_isLot_29 : decode cL_isLot 29 = .ok (.iinc 3 1, 3) := by decide +kernel
theorem dL_isLot_32 : decode cL_isLot 32 = .ok (.goto (-28), 3) := by decide +kernel
theorem dL_isLot_35 : decode cL_isLot 35 = .ok (.aload_n 0, 1) := by decide +kernel
theorem dL_isLot_36 : decode cL_isLot 36 = .ok (.iload_n 1, 1) := by decide +kernel
theorem dL_isLot_37 : decode cL_isLot 37 = .ok (.invokevirtual 24, 3) := by decide +kernel
theorem dL_isLot_40 : decode cL_isLot 40 = .ok (.istore_n 3, 1) := by decide +kernel
theorem dL_isLot_41 : decode cL_isLot 41 = .ok (.aload_n 0, 1) := by decide +kernel
theorem dL_isLot_42 : decode cL_isLot 42 = .ok (.iload_n 1, 1) := by decide +kernel
theorem dL_isLot_43 : decode cL_isLot 43 = .ok (.invokevirtual 31, 3) := by decide +kernel
theorem dL_isLot_46 : decode cL_isLot 46 = .ok (.iload_n 2, 1) := by decide +kernel
theorem dL_isLot_47 : decode cL_isLot 47 = .ok (.if_icmp .ne 65, 3) := by decide +kernel
theorem dL_isLot_50 : decode cL_isLot 50 = .ok (.iload_n 3, 1) := by decide +kernel
theorem dL_isLot_51 : decode cL_isLot 51 = .ok (.iconst 3, 1) := by decide +kernel
theorem dL_isLot_52 : decode cL_isLot 52 = .ok (.if_icmp .ne 7, 3) := by decide +kernel
theorem dL_isLot_55 : decode cL_isLot 55 = .ok (.iconst 1, 1) := by decide +kernel
theorem dL_isLot_56 : decode cL_isLot 56 = .ok (.goto 4, 3) := by decide +kernel
theorem dL_isLot_59 : decode cL_isLot 59 = .ok (.iconst 0, 1) := by decide +kernel
theorem dL_isLot_60 : decode cL_isLot 60 = .ok (.iload_n 2, 1) := by decide +kernel
theorem dL_isLot_61 : decode cL_isLot 61 = .ok (.ifCond .ne 7, 3) := by decide +kernel
theorem dL_isLot_64 : decode cL_isLot 64 = .ok (.iconst 1, 1) := by decide +kernel
theorem dL_isLot_65 : decode cL_isLot 65 = .ok (.goto 4, 3) := by decide +kernel
theorem dL_isLot_68 : decode cL_isLot 68 = .ok (.iconst 0, 1) := by decide +kernel
theorem dL_isLot_69 : decode cL_isLot 69 = .ok (.if_icmp .ne 43, 3) := by decide +kernel
theorem dL_isLot_72 : decode cL_isLot 72 = .ok (.iload_n 3, 1) := by decide +kernel
theorem dL_isLot_73 : decode cL_isLot 73 = .ok (.iconst 1, 1) := by decide +kernel
theorem dL_isLot_74 : decode cL_isLot 74 = .ok (.if_icmp .le 7, 3) := by decide +kernel
theorem dL_isLot_77 : decode cL_isLot 77 = .ok (.iconst 1, 1) := by decide +kernel
theorem dL_isLot_78 : decode cL_isLot 78 = .ok (.goto 4, 3) := by decide +kernel
theorem dL_isLot_81 : decode cL_isLot 81 = .ok (.iconst 0, 1) := by decide +kernel
theorem dL_isLot_82 : decode cL_isLot 82 = .ok (.aload_n 0, 1) := by decide +kernel
theorem dL_isLot_83 : decode cL_isLot 83 = .ok (.iload_n 1, 1) := by decide +kernel
theorem dL_isLot_84 : decode cL_isLot 84 = .ok (.invokevirtual 34, 3) := by decide +kernel
theorem dL_isLot_87 : decode cL_isLot 87 = .ok (.iconst (-1), 1) := by decide +kernel
theorem dL_isLot_88 : decode cL_isLot 88 = .ok (.if_icmp .ne 7, 3) := by decide +kernel
theorem dL_isLot_91 : decode cL_isLot 91 = .ok (.iconst 1, 1) := by decide +kernel
theorem dL_isLot_92 : decode cL_isLot 92 = .ok (.goto 4, 3) := by decide +kernel
theorem dL_isLot_95 : decode cL_isLot 95 = .ok (.iconst 0, 1) := by decide +kernel
theorem dL_isLot_96 : decode cL_isLot 96 = .ok (.if_icmp .ne 16, 3) := by decide +kernel
theorem dL_isLot_99 : decode cL_isLot 99 = .ok (.aload_n 0, 1) := by decide +kernel
theorem dL_isLot_100 : decode cL_isLot 100 = .ok (.iload_n 1, 1) := by decide +kernel
theorem dL_isLot_101 : decode cL_isLot 101 = .ok (.invokevirtual 21, 3) := by decide +kernel
theorem dL_isLot_104 : decode cL_isLot 104 = .ok (.iload_n 1, 1) := by decide +kernel
theorem dL_isLot_105 : decode cL_isLot 105 = .ok (.if_icmp .ge 7, 3) := by decide +kernel
theorem dL_isLot_108 : decode cL_isLot 108 = .ok (.iconst 1, 1) := by decide +kernel
theorem dL_isLot_109 : decode cL_isLot 109 = .ok (.goto 4, 3) := by decide +kernel
theorem dL_isLot_112 : decode cL_isLot 112 = .ok (.iconst 0, 1) := by decide +kernel
theorem dL_isLot_113 : decode cL_isLot 113 = .ok (.istore 4, 2) := by decide +kernel
theorem dL_isLot_115 : decode cL_isLot 115 = .ok (.iload 4, 2) := by decide +kernel
theorem dL_isLot_117 : decode cL_isLot 117 = .ok (.ifCond .eq 59, 3) := by decide +kernel
theorem dL_isLot_120 : decode cL_isLot 120 = .ok (.aload_n 0, 1) := by decide +kernel
theorem dL_isLot_121 : decode cL_isLot 121 = .ok (.iload_n 1, 1) := by decide +kernel
theorem dL_isLot_122 : decode cL_isLot 122 = .ok (.invokevirtual 37, 3) := by decide +kernel
theorem dL_isLot_125 : decode cL_isLot 125 = .ok (.aload_n 0, 1) := by decide +kernel
theorem dL_isLot_126 : decode cL_isLot 126 = .ok (.iload_n 1, 1) := by decide +kernel
theorem dL_isLot_127 : decode cL_isLot 127 = .ok (.invokevirtual 41, 3) := by decide +kernel
theorem dL_isLot_130 : decode cL_isLot 130 = .ok (.ifCond .ge 7, 3) := by decide +kernel
theorem dL_isLot_133 : decode cL_isLot 133 = .ok (.iconst 1, 1) := by decide +kernel
theorem dL_isLot_134 : decode cL_isLot 134 = .ok (.goto 4, 3) := by decide +kernel
theorem dL_isLot_137 : decode cL_isLot 137 = .ok (.iconst 0, 1) := by decide +kernel
theorem dL_isLot_138 : decode cL_isLot 138 = .ok (.if_icmp .ne 38, 3) := by decide +kernel
theorem dL_isLot_141 : decode cL_isLot 141 = .ok (.iload_n 3, 1) := by decide +kernel
theorem dL_isLot_142 : decode cL_isLot 142 = .ok (.ifCond .eq 13, 3) := by decide +kernel
theorem dL_isLot_145 : decode cL_isLot 145 = .ok (.aload_n 0, 1) := by decide +kernel
theorem dL_isLot_146 : decode cL_isLot 146 = .ok (.iload_n 1, 1) := by decide +kernel
theorem dL_isLot_147 : decode cL_isLot 147 = .ok (.invokevirtual 41, 3) := by decide +kernel
theorem dL_isLot_150 : decode cL_isLot 150 = .ok (.ldc 44, 2) := by decide +kernel
theorem dL_isLot_152 : decode cL_isLot 152 = .ok (.if_icmp .ne 24, 3) := by decide +kernel
theorem dL_isLot_155 : decode cL_isLot 155 = .ok (.aload_n 0, 1) := by decide +kernel
theorem dL_isLot_156 : decode cL_isLot 156 = .ok (.iload_n 1, 1) := by decide +kernel
theorem dL_isLot_157 : decode cL_isLot 157 = .ok (.invokevirtual 45, 3) := by decide +kernel
theorem dL_isLot_160 : decode cL_isLot 160 = .ok (.ifCond .lt 16, 3) := by decide +kernel
theorem dL_isLot_163 : decode cL_isLot 163 = .ok (.aload_n 0, 1) := by decide +kernel
theorem dL_isLot_164 : decode cL_isLot 164 = .ok (.iload_n 1, 1) := by decide +kernel
theorem dL_isLot_165 : decode cL_isLot 165 = .ok (.invokevirtual 45, 3) := by decide +kernel
theorem dL_isLot_168 : decode cL_isLot 168 = .ok (.iconst 2, 1) := by decide +kernel
theorem dL_isLot_169 : decode cL_isLot 169 = .ok (.if_icmp .gt 7, 3) := by decide +kernel
theorem dL_isLot_172 : decode cL_isLot 172 = .ok (.iconst 1, 1) := by decide +kernel
theorem dL_isLot_173 : decode cL_isLot 173 = .ok (.goto 4, 3) := by decide +kernel
theorem dL_isLot_176 : decode cL_isLot 176 = .ok (.iconst 0, 1) := by decide +kernel
theorem dL_isLot_177 : decode cL_isLot 177 = .ok (.ireturn, 1) := by decide +kernel
set_option maxRecDepth 20000 in
theorem ggL_areSteps_X0_lots : GoodIn wsL_areSteps wsX0_lots := goodIn_r _ [5, 6, 51, 52, 53, 54, 55, 56, 57, 58, 59, 60, 61, 62, 63, 64, 65, 66, 67, 68] (by decide +kernel) (by decide +kernel)
set_option maxRecDepth 20000 in
theorem gL_areSteps_X0_lots : GoodIn wsL_areSteps (wsV RL 48 RX0 yX0_lots wsX0_lots) := goodIn_app (goodIn_of _ (by decide +kernel)) ggL_areSteps_X0_lots
set_option maxRecDepth 20000 in
theorem ggL_areSteps_X0_stepOf : GoodIn wsL_areSteps wsX0_stepOf := goodIn_ca (goodIn_r _ [10, 11, 12, 13, 14, 4, 15, 16, 17, 18, 19, 20, 21, 6, 51, 52, 53, 54, 55, 56, 57, 58, 59, 60, 61, 62, 63, 64, 65, 66, 67, 68] (by decide +kernel) (by decide +kernel)) (goodIn_sub (fun _ h => List.mem_cons_of_mem _ (List.mem_append_right _ h)) (by decide +kernel))
set_option maxRecDepth 20000 in
theorem gL_areSteps_X0_stepOf : GoodIn wsL_areSteps (wsV RL 34 RX0 yX0_stepOf wsX0_stepOf) := goodIn_app (goodIn_of _ (by decide +kernel)) ggL_areSteps_X0_stepOf
set_option maxRecDepth 20000 in
theorem ggL_areSteps_X0_size : GoodIn wsL_areSteps wsX0_size := goodIn_ca (goodIn_r _ [25, 26, 12, 13, 14, 4, 15, 16, 17, 18, 19, 20, 21, 6, 51, 52, 53, 54, 55, 56, 57, 58, 59, 60, 61, 62, 63, 64, 65, 66, 67, 68] (by decide +kernel) (by decide +kernel)) (goodIn_sub (fun _ h => List.mem_cons_of_mem _ (List.mem_append_right _ h)) (by decide +kernel))
set_option maxRecDepth 20000 in
theorem gL_areSteps_X0_size : GoodIn wsL_areSteps (wsV RL 31 RX0 yX0_size wsX0_size) := goodIn_app (goodIn_of _ (by decide +kernel)) ggL_areSteps_X0_size
set_option maxRecDepth 20000 in
theorem ggL_areSteps_X0_wafersAt : GoodIn wsL_areSteps wsX0_wafersAt := goodIn_ca (goodIn_r _ [30, 6, 11, 26, 31, 32, 33, 4, 34, 16, 17, 35, 36, 37, 38, 39, 51, 52, 53, 54, 55, 56, 57, 58, 59, 60, 61, 62, 63, 64, 65, 66, 67, 68] (by decide +kernel) (by decide +kernel)) (goodIn_sub (fun _ h => List.mem_cons_of_mem _ (List.mem_append_right _ h)) (by decide +kernel))
set_option maxRecDepth 20000 in
theorem gL_areSteps_X0_wafersAt : GoodIn wsL_areSteps (wsV RL 51 RX0 yX0_wafersAt wsX0_wafersAt) := goodIn_app (goodIn_of _ (by decide +kernel)) ggL_areSteps_X0_wafersAt
set_option maxRecDepth 20000 in
theorem ggL_areSteps_X0_wafersAtByWafers : GoodIn wsL_areSteps wsX0_wafersAtByWafers := goodIn_ca (goodIn_r _ [43, 44, 45, 11, 31, 32, 33, 4, 34, 16, 17, 35, 36, 37, 38, 39, 18, 19, 20, 21, 6, 51, 52, 53, 54, 55, 56, 57, 58, 59, 60, 61, 62, 63, 64, 65, 66, 67, 68] (by decide +kernel) (by decide +kernel)) (goodIn_sub (fun _ h => List.mem_cons_of_mem _ (List.mem_append_right _ h)) (by decide +kernel))
set_option maxRecDepth 20000 in
theorem gL_areSteps_X0_wafersAtByWafers : GoodIn wsL_areSteps (wsV RL 54 RX0 yX0_wafersAtByWafers wsX0_wafersAtByWafers) := goodIn_app (goodIn_of _ (by decide +kernel)) ggL_areSteps_X0_wafersAtByWafers
set_option maxRecDepth 20000 in
theorem ggL_areSteps_X0_state : GoodIn wsL_areSteps wsX0_state := goodIn_ca (goodIn_r _ [49, 50, 12, 13, 14, 4, 15, 16, 17, 18, 19, 20, 21, 6, 51, 52, 53, 54, 55, 56, 57, 58, 59, 60, 61, 62, 63, 64, 65, 66, 67, 68] (by decide +kernel) (by decide +kernel)) (goodIn_sub (fun _ h => List.mem_cons_of_mem _ (List.mem_append_right _ h)) (by decide +kernel))
set_option maxRecDepth 20000 in
theorem gL_areSteps_X0_state : GoodIn wsL_areSteps (wsV RL 24 RX0 yX0_state wsX0_state) := goodIn_app (goodIn_of _ (by decide +kernel)) ggL_areSteps_X0_state
theorem dL_areSteps_0 : decode cL_areSteps 0 = .ok (.iconst 1, 1) := by decide +kernel
theorem dL_areSteps_1 : decode cL_areSteps 1 = .ok (.istore_n 2, 1) := by decide +kernel
theorem dL_areSteps_2 : decode cL_areSteps 2 = .ok (.iconst 0, 1) := by decide +kernel
theorem dL_areSteps_3 : decode cL_areSteps 3 = .ok (.istore_n 3, 1) := by decide +kernel
theorem dL_areSteps_4 : decode cL_areSteps 4 = .ok (.iconst 0, 1) := by decide +kernel
theorem dL_areSteps_5 : decode cL_areSteps 5 = .ok (.istore 4, 2) := by decide +kernel
theorem dL_areSteps_7 : decode cL_areSteps 7 = .ok (.iload 4, 2) := by decide +kernel
theorem dL_areSteps_9 : decode cL_areSteps 9 = .ok (.iload_n 1, 1) := by decide +kernel
theorem dL_areSteps_10 : decode cL_areSteps 10 = .ok (.if_icmp .ge 93, 3) := by decide +kernel
theorem dL_areSteps_13 : decode cL_areSteps 13 = .ok (.iload_n 2, 1) := by decide +kernel
theorem dL_areSteps_14 : decode cL_areSteps 14 = .ok (.ifCond .eq 89, 3) := by decide +kernel
theorem dL_areSteps_17 : decode cL_areSteps 17 = .ok (.iconst 0, 1) := by decide +kernel
theorem dL_areSteps_18 : decode cL_areSteps 18 = .ok (.istore 5, 2) := by decide +kernel
theorem dL_areSteps_20 : decode cL_areSteps 20 = .ok (.iconst 0, 1) := by decide +kernel
theorem dL_areSteps_21 : decode cL_areSteps 21 = .ok (.istore 6, 2) := by decide +kernel
theorem dL_areSteps_23 : decode cL_areSteps 23 = .ok (.iload 6, 2) := by decide +kernel
theorem dL_areSteps_25 : decode cL_areSteps 25 = .ok (.aload_n 0, 1) := by decide +kernel
theorem dL_areSteps_26 : decode cL_areSteps 26 = .ok (.invokevirtual 48, 3) := by decide +kernel
theorem dL_areSteps_29 : decode cL_areSteps 29 = .ok (.if_icmp .ge 35, 3) := by decide +kernel
theorem dL_areSteps_32 : decode cL_areSteps 32 = .ok (.iload 5, 2) := by decide +kernel
theorem dL_areSteps_34 : decode cL_areSteps 34 = .ok (.aload_n 0, 1) := by decide +kernel
theorem dL_areSteps_35 : decode cL_areSteps 35 = .ok (.iload 6, 2) := by decide +kernel
theorem dL_areSteps_37 : decode cL_areSteps 37 = .ok (.invokevirtual 34, 3) := by decide +kernel
theorem dL_areSteps_40 : decode cL_areSteps 40 = .ok (.iload 4, 2) := by decide +kernel
theorem dL_areSteps_42 : decode cL_areSteps 42 = .ok (.if_icmp .ne 12, 3) := by decide +kernel
theorem dL_areSteps_45 : decode cL_areSteps 45 = .ok (.aload_n 0, 1) := by decide +kernel
theorem dL_areSteps_46 : decode cL_areSteps 46 = .ok (.iload 6, 2) := by decide +kernel
theorem dL_areSteps_48 : decode cL_areSteps 48 = .ok (.invokevirtual 31, 3) := by decide +kernel
theorem dL_areSteps_51 : decode cL_areSteps 51 = .ok (.goto 4, 3) := by decide +kernel
theorem dL_areSteps_54 : decode cL_areSteps 54 = .ok (.iconst 0, 1) := by decide +kernel
theorem dL_areSteps_55 : decode cL_areSteps 55 = .ok (.iadd, 1) := by decide +kernel
theorem dL_areSteps_56 : decode cL_areSteps 56 = .ok (.istore 5, 2) := by decide +kernel
theorem dL_areSteps_58 : decode cL_areSteps 58 = .ok (.iinc 6 1, 3) := by decide +kernel
theorem dL_areSteps_61 : decode cL_areSteps 61 = .ok (.goto (-38), 3) := by decide +kernel
theorem dL_areSteps_64 : decode cL_areSteps 64 = .ok (.iload_n 3, 1) := by decide +kernel
theorem dL_areSteps_65 : decode cL_areSteps 65 = .ok (.iload 5, 2) := by decide +kernel
theorem dL_areSteps_67 : decode cL_areSteps 67 = .ok (.iadd, 1) := by decide +kernel
theorem dL_areSteps_68 : decode cL_areSteps 68 = .ok (.istore_n 3, 1) := by decide +kernel
theorem dL_areSteps_69 : decode cL_areSteps 69 = .ok (.aload_n 0, 1) := by decide +kernel
theorem dL_areSteps_70 : decode cL_areSteps 70 = .ok (.iload 4, 2) := by decide +kernel
theorem dL_areSteps_72 : decode cL_areSteps 72 = .ok (.invokevirtual 51, 3) := by decide +kernel
theorem dL_areSteps_75 : decode cL_areSteps 75 = .ok (.iload 5, 2) := by decide +kernel
theorem dL_areSteps_77 : decode cL_areSteps 77 = .ok (.if_icmp .ne 18, 3) := by decide +kernel
theorem dL_areSteps_80 : decode cL_areSteps 80 = .ok (.aload_n 0, 1) := by decide +kernel
theorem dL_areSteps_81 : decode cL_areSteps 81 = .ok (.iload 4, 2) := by decide +kernel
theorem dL_areSteps_83 : decode cL_areSteps 83 = .ok (.invokevirtual 54, 3) := by decide +kernel
theorem dL_areSteps_86 : decode cL_areSteps 86 = .ok (.iload 5, 2) := by decide +kernel
theorem dL_areSteps_88 : decode cL_areSteps 88 = .ok (.if_icmp .ne 7, 3) := by decide +kernel
theorem dL_areSteps_91 : decode cL_areSteps 91 = .ok (.iconst 1, 1) := by decide +kernel
theorem dL_areSteps_92 : decode cL_areSteps 92 = .ok (.goto 4, 3) := by decide +kernel
theorem dL_areSteps_95 : decode cL_areSteps 95 = .ok (.iconst 0, 1) := by decide +kernel
theorem dL_areSteps_96 : decode cL_areSteps 96 = .ok (.istore_n 2, 1) := by decide +kernel
theorem dL_areSteps_97 : decode cL_areSteps 97 = .ok (.iinc 4 1, 3) := by decide +kernel
theorem dL_areSteps_100 : decode cL_areSteps 100 = .ok (.goto (-93), 3) := by decide +kernel
theorem dL_areSteps_103 : decode cL_areSteps 103 = .ok (.iconst 0, 1) := by decide +kernel
theorem dL_areSteps_104 : decode cL_areSteps 104 = .ok (.istore 4, 2) := by decide +kernel
theorem dL_areSteps_106 : decode cL_areSteps 106 = .ok (.iconst 0, 1) := by decide +kernel
theorem dL_areSteps_107 : decode cL_areSteps 107 = .ok (.istore 5, 2) := by decide +kernel
theorem dL_areSteps_109 : decode cL_areSteps 109 = .ok (.iload 5, 2) := by decide +kernel
theorem dL_areSteps_111 : decode cL_areSteps 111 = .ok (.aload_n 0, 1) := by decide +kernel
theorem dL_areSteps_112 : decode cL_areSteps 112 = .ok (.invokevirtual 48, 3) := by decide +kernel
theorem dL_areSteps_115 : decode cL_areSteps 115 = .ok (.if_icmp .ge 34, 3) := by decide +kernel
theorem dL_areSteps_118 : decode cL_areSteps 118 = .ok (.iload 4, 2) := by decide +kernel
theorem dL_areSteps_120 : decode cL_areSteps 120 = .ok (.aload_n 0, 1) := by decide +kernel
theorem dL_areSteps_121 : decode cL_areSteps 121 = .ok (.iload 5, 2) := by decide +kernel
theorem dL_areSteps_123 : decode cL_areSteps 123 = .ok (.invokevirtual 24, 3) := by decide +kernel
theorem dL_areSteps_126 : decode cL_areSteps 126 = .ok (.iconst 2, 1) := by decide +kernel
theorem dL_areSteps_127 : decode cL_areSteps 127 = .ok (.if_icmp .ge 12, 3) := by decide +kernel
theorem dL_areSteps_130 : decode cL_areSteps 130 = .ok (.aload_n 0, 1) := by decide +kernel
theorem dL_areSteps_131 : decode cL_areSteps 131 = .ok (.iload 5, 2) := by decide +kernel
theorem dL_areSteps_133 : decode cL_areSteps 133 = .ok (.invokevirtual 31, 3) := by decide +kernel
theorem dL_areSteps_136 : decode cL_areSteps 136 = .ok (.goto 4, 3) := by decide +kernel
theorem dL_areSteps_139 : decode cL_areSteps 139 = .ok (.iconst 0, 1) := by decide +kernel
theorem dL_areSteps_140 : decode cL_areSteps 140 = .ok (.iadd, 1) := by decide +kernel
theorem dL_areSteps_141 : decode cL_areSteps 141 = .ok (.istore 4, 2) := by decide +kernel
theorem dL_areSteps_143 : decode cL_areSteps 143 = .ok (.iinc 5 1, 3) := by decide +kernel
theorem dL_areSteps_146 : decode cL_areSteps 146 = .ok (.goto (-37), 3) := by decide +kernel
theorem dL_areSteps_149 : decode cL_areSteps 149 = .ok (.iload_n 2, 1) := by decide +kernel
theorem dL_areSteps_150 : decode cL_areSteps 150 = .ok (.ifCond .eq 13, 3) := by decide +kernel
theorem dL_areSteps_153 : decode cL_areSteps 153 = .ok (.iload_n 3, 1) := by decide +kernel
theorem dL_areSteps_154 : decode cL_areSteps 154 = .ok (.iload 4, 2) := by decide +kernel
theorem dL_areSteps_156 : decode cL_areSteps 156 = .ok (.if_icmp .ne 7, 3) := by decide +kernel
theorem dL_areSteps_159 : decode cL_areSteps 159 = .ok (.iconst 1, 1) := by decide +kernel
theorem dL_areSteps_160 : decode cL_areSteps 160 = .ok (.goto 4, 3) := by decide +kernel
theorem dL_areSteps_163 : decode cL_areSteps 163 = .ok (.iconst 0, 1) := by decide +kernel
theorem dL_areSteps_164 : decode cL_areSteps 164 = .ok (.ireturn, 1) := by decide +kernel
set_option maxRecDepth 20000 in
theorem ggL_isCommon_X0_common : GoodIn wsL_isCommon wsX0_common := goodIn_ca (goodIn_r _ [5, 6, 7, 8, 4, 9, 10, 11, 12, 13, 14, 15, 16, 17, 18, 19, 20, 21, 26, 27, 28, 29, 30, 31, 32, 33, 34, 35, 36, 37, 38, 39, 40, 41, 42, 43] (by decide +kernel) (by decide +kernel)) (goodIn_sub (fun _ h => List.mem_cons_of_mem _ (List.mem_append_right _ h)) (by decide +kernel))
set_option maxRecDepth 20000 in
theorem gL_isCommon_X0_common : GoodIn wsL_isCommon (wsV RL 57 RX0 yX0_common wsX0_common) := goodIn_app (goodIn_of _ (by decide +kernel)) ggL_isCommon_X0_common
set_option maxRecDepth 20000 in
theorem ggL_isCommon_X0_parentOf : GoodIn wsL_isCommon wsX0_parentOf := goodIn_ca (goodIn_r _ [25, 21, 6, 7, 8, 4, 9, 10, 11, 12, 13, 14, 15, 16, 26, 27, 28, 29, 30, 31, 32, 33, 34, 35, 36, 37, 38, 39, 40, 41, 42, 43] (by decide +kernel) (by decide +kernel)) (goodIn_sub (fun _ h => List.mem_cons_of_mem _ (List.mem_append_right _ h)) (by decide +kernel))
set_option maxRecDepth 20000 in
theorem gL_isCommon_X0_parentOf : GoodIn wsL_isCommon (wsV RL 21 RX0 yX0_parentOf wsX0_parentOf) := goodIn_app (goodIn_of _ (by decide +kernel)) ggL_isCommon_X0_parentOf
theorem dL_isCommon_0 : decode cL_isCommon 0 = .ok (.aload_n 0, 1) := by decide +kernel
theorem dL_isCommon_1 : decode cL_isCommon 1 = .ok (.iload_n 1, 1) := by decide +kernel
theorem dL_isCommon_2 : decode cL_isCommon 2 = .ok (.iload_n 2, 1) := by decide +kernel
theorem dL_isCommon_3 : decode cL_isCommon 3 = .ok (.invokevirtual 57, 3) := by decide +kernel
theorem dL_isCommon_6 : decode cL_isCommon 6 = .ok (.istore_n 3, 1) := by decide +kernel
theorem dL_isCommon_7 : decode cL_isCommon 7 = .ok (.iload_n 3, 1) := by decide +kernel
theorem dL_isCommon_8 : decode cL_isCommon 8 = .ok (.aload_n 0, 1) := by decide +kernel
theorem dL_isCommon_9 : decode cL_isCommon 9 = .ok (.iload_n 2, 1) := by decide +kernel
theorem dL_isCommon_10 : decode cL_isCommon 10 = .ok (.iload_n 1, 1) := by decide +kernel
theorem dL_isCommon_11 : decode cL_isCommon 11 = .ok (.invokevirtual 57, 3) := by decide +kernel
theorem dL_isCommon_14 : decode cL_isCommon 14 = .ok (.if_icmp .ne 27, 3) := by decide +kernel
theorem dL_isCommon_17 : decode cL_isCommon 17 = .ok (.aload_n 0, 1) := by decide +kernel
theorem dL_isCommon_18 : decode cL_isCommon 18 = .ok (.iload_n 1, 1) := by decide +kernel
theorem dL_isCommon_19 : decode cL_isCommon 19 = .ok (.iload_n 1, 1) := by decide +kernel
theorem dL_isCommon_20 : decode cL_isCommon 20 = .ok (.invokevirtual 57, 3) := by decide +kernel
theorem dL_isCommon_23 : decode cL_isCommon 23 = .ok (.iload_n 1, 1) := by decide +kernel
theorem dL_isCommon_24 : decode cL_isCommon 24 = .ok (.if_icmp .ne 17, 3) := by decide +kernel
theorem dL_isCommon_27 : decode cL_isCommon 27 = .ok (.iload_n 3, 1) := by decide +kernel
theorem dL_isCommon_28 : decode cL_isCommon 28 = .ok (.iload_n 1, 1) := by decide +kernel
theorem dL_isCommon_29 : decode cL_isCommon 29 = .ok (.if_icmp .gt 12, 3) := by decide +kernel
theorem dL_isCommon_32 : decode cL_isCommon 32 = .ok (.iload_n 3, 1) := by decide +kernel
theorem dL_isCommon_33 : decode cL_isCommon 33 = .ok (.iload_n 2, 1) := by decide +kernel
theorem dL_isCommon_34 : decode cL_isCommon 34 = .ok (.if_icmp .gt 7, 3) := by decide +kernel
theorem dL_isCommon_37 : decode cL_isCommon 37 = .ok (.iconst 1, 1) := by decide +kernel
theorem dL_isCommon_38 : decode cL_isCommon 38 = .ok (.goto 4, 3) := by decide +kernel
theorem dL_isCommon_41 : decode cL_isCommon 41 = .ok (.iconst 0, 1) := by decide +kernel
theorem dL_isCommon_42 : decode cL_isCommon 42 = .ok (.istore 4, 2) := by decide +kernel
theorem dL_isCommon_44 : decode cL_isCommon 44 = .ok (.iload_n 1, 1) := by decide +kernel
theorem dL_isCommon_45 : decode cL_isCommon 45 = .ok (.istore 5, 2) := by decide +kernel
theorem dL_isCommon_47 : decode cL_isCommon 47 = .ok (.iload_n 3, 1) := by decide +kernel
theorem dL_isCommon_48 : decode cL_isCommon 48 = .ok (.iconst (-1), 1) := by decide +kernel
theorem dL_isCommon_49 : decode cL_isCommon 49 = .ok (.if_icmp .ne 7, 3) := by decide +kernel
theorem dL_isCommon_52 : decode cL_isCommon 52 = .ok (.iconst 1, 1) := by decide +kernel
theorem dL_isCommon_53 : decode cL_isCommon 53 = .ok (.goto 4, 3) := by decide +kernel
theorem dL_isCommon_56 : decode cL_isCommon 56 = .ok (.iconst 0, 1) := by decide +kernel
theorem dL_isCommon_57 : decode cL_isCommon 57 = .ok (.istore 6, 2) := by decide +kernel
theorem dL_isCommon_59 : decode cL_isCommon 59 = .ok (.iload 5, 2) := by decide +kernel
theorem dL_isCommon_61 : decode cL_isCommon 61 = .ok (.iconst (-1), 1) := by decide +kernel
theorem dL_isCommon_62 : decode cL_isCommon 62 = .ok (.if_icmp .eq 32, 3) := by decide +kernel
theorem dL_isCommon_65 : decode cL_isCommon 65 = .ok (.iload 6, 2) := by decide +kernel
theorem dL_isCommon_67 : decode cL_isCommon 67 = .ok (.ifCond .ne 27, 3) := by decide +kernel
theorem dL_isCommon_70 : decode cL_isCommon 70 = .ok (.iload 5, 2) := by decide +kernel
theorem dL_isCommon_72 : decode cL_isCommon 72 = .ok (.iload_n 3, 1) := by decide +kernel
theorem dL_isCommon_73 : decode cL_isCommon 73 = .ok (.if_icmp .ne 7, 3) := by decide +kernel
theorem dL_isCommon_76 : decode cL_isCommon 76 = .ok (.iconst 1, 1) := by decide +kernel
theorem dL_isCommon_77 : decode cL_isCommon 77 = .ok (.goto 4, 3) := by decide +kernel
theorem dL_isCommon_80 : decode cL_isCommon 80 = .ok (.iconst 0, 1) := by decide +kernel
theorem dL_isCommon_81 : decode cL_isCommon 81 = .ok (.istore 6, 2) := by decide +kernel
theorem dL_isCommon_83 : decode cL_isCommon 83 = .ok (.aload_n 0, 1) := by decide +kernel
theorem dL_isCommon_84 : decode cL_isCommon 84 = .ok (.iload 5, 2) := by decide +kernel
theorem dL_isCommon_86 : decode cL_isCommon 86 = .ok (.invokevirtual 21, 3) := by decide +kernel
theorem dL_isCommon_89 : decode cL_isCommon 89 = .ok (.istore 5, 2) := by decide +kernel
theorem dL_isCommon_91 : decode cL_isCommon 91 = .ok (.goto (-32), 3) := by decide +kernel
theorem dL_isCommon_94 : decode cL_isCommon 94 = .ok (.iload 4, 2) := by decide +kernel
theorem dL_isCommon_96 : decode cL_isCommon 96 = .ok (.ifCond .eq 12, 3) := by decide +kernel
theorem dL_isCommon_99 : decode cL_isCommon 99 = .ok (.iload 6, 2) := by decide +kernel
theorem dL_isCommon_101 : decode cL_isCommon 101 = .ok (.ifCond .eq 7, 3) := by decide +kernel
theorem dL_isCommon_104 : decode cL_isCommon 104 = .ok (.iconst 1, 1) := by decide +kernel
theorem dL_isCommon_105 : decode cL_isCommon 105 = .ok (.goto 4, 3) := by decide +kernel
theorem dL_isCommon_108 : decode cL_isCommon 108 = .ok (.iconst 0, 1) := by decide +kernel
theorem dL_isCommon_109 : decode cL_isCommon 109 = .ok (.ireturn, 1) := by decide +kernel
