theorem dX0_init_0 : decode cX0_init 0 = .ok (.aload_n 0, 1) := by decide +kernel
theorem dX0_init_1 : decode cX0_init 1 = .ok (.invokespecial 3, 3) := by decide +kernel
theorem dX0_init_4 : decode cX0_init 4 = .ok (.aload_n 0, 1) := by decide +kernel
theorem dX0_init_5 : decode cX0_init 5 = .ok (.bipush 12, 2) := by decide +kernel
theorem dX0_init_7 : decode cX0_init 7 = .ok (.newarray .int, 2) := by decide +kernel
theorem dX0_init_9 : decode cX0_init 9 = .ok (.putfield 9, 3) := by decide +kernel
theorem dX0_init_12 : decode cX0_init 12 = .ok (.aload_n 0, 1) := by decide +kernel
theorem dX0_init_13 : decode cX0_init 13 = .ok (.bipush 12, 2) := by decide +kernel
theorem dX0_init_15 : decode cX0_init 15 = .ok (.newarray .int, 2) := by decide +kernel
theorem dX0_init_17 : decode cX0_init 17 = .ok (.putfield 13, 3) := by decide +kernel
theorem dX0_init_20 : decode cX0_init 20 = .ok (.aload_n 0, 1) := by decide +kernel
theorem dX0_init_21 : decode cX0_init 21 = .ok (.bipush 12, 2) := by decide +kernel
theorem dX0_init_23 : decode cX0_init 23 = .ok (.newarray .int, 2) := by decide +kernel
theorem dX0_init_25 : decode cX0_init 25 = .ok (.putfield 16, 3) := by decide +kernel
theorem dX0_init_28 : decode cX0_init 28 = .ok (.aload_n 0, 1) := by decide +kernel
theorem dX0_init_29 : decode cX0_init 29 = .ok (.bipush 12, 2) := by decide +kernel
theorem dX0_init_31 : decode cX0_init 31 = .ok (.newarray .int, 2) := by decide +kernel
theorem dX0_init_33 : decode cX0_init 33 = .ok (.putfield 19, 3) := by decide +kernel
theorem dX0_init_36 : decode cX0_init 36 = .ok (.aload_n 0, 1) := by decide +kernel
theorem dX0_init_37 : decode cX0_init 37 = .ok (.iconst 0, 1) := by decide +kernel
theorem dX0_init_38 : decode cX0_init 38 = .ok (.putfield 22, 3) := by decide +kernel
theorem dX0_init_41 : decode cX0_init 41 = .ok (.aload_n 0, 1) := by decide +kernel
theorem dX0_init_42 : decode cX0_init 42 = .ok (.bipush 24, 2) := by decide +kernel
theorem dX0_init_44 : decode cX0_init 44 = .ok (.newarray .int, 2) := by decide +kernel
theorem dX0_init_46 : decode cX0_init 46 = .ok (.putfield 26, 3) := by decide +kernel
theorem dX0_init_49 : decode cX0_init 49 = .ok (.aload_n 0, 1) := by decide +kernel
theorem dX0_init_50 : decode cX0_init 50 = .ok (.bipush 24, 2) := by decide +kernel
theorem dX0_init_52 : decode cX0_init 52 = .ok (.newarray .int, 2) := by decide +kernel
theorem dX0_init_54 : decode cX0_init 54 = .ok (.putfield 29, 3) := by decide +kernel
theorem dX0_init_57 : decode cX0_init 57 = .ok (.aload_n 0, 1) := by decide +kernel
theorem dX0_init_58 : decode cX0_init 58 = .ok (.bipush 24, 2) := by decide +kernel
theorem dX0_init_60 : decode cX0_init 60 = .ok (.newarray .int, 2) := by decide +kernel
theorem dX0_init_62 : decode cX0_init 62 = .ok (.putfield 32, 3) := by decide +kernel
theorem dX0_init_65 : decode cX0_init 65 = .ok (.aload_n 0, 1) := by decide +kernel
theorem dX0_init_66 : decode cX0_init 66 = .ok (.bipush 24, 2) := by decide +kernel
theorem dX0_init_68 : decode cX0_init 68 = .ok (.newarray .boolean, 2) := by decide +kernel
theorem dX0_init_70 : decode cX0_init 70 = .ok (.putfield 35, 3) := by decide +kernel
theorem dX0_init_73 : decode cX0_init 73 = .ok (.aload_n 0, 1) := by decide +kernel
theorem dX0_init_74 : decode cX0_init 74 = .ok (.bipush 24, 2) := by decide +kernel
theorem dX0_init_76 : decode cX0_init 76 = .ok (.newarray .int, 2) := by decide +kernel
theorem dX0_init_78 : decode cX0_init 78 = .ok (.putfield 39, 3) := by decide +kernel
theorem dX0_init_81 : decode cX0_init 81 = .ok (.aload_n 0, 1) := by decide +kernel
theorem dX0_init_82 : decode cX0_init 82 = .ok (.bipush 24, 2) := by decide +kernel
theorem dX0_init_84 : decode cX0_init 84 = .ok (.newarray .int, 2) := by decide +kernel
theorem dX0_init_86 : decode cX0_init 86 = .ok (.putfield 42, 3) := by decide +kernel
theorem dX0_init_89 : decode cX0_init 89 = .ok (.aload_n 0, 1) := by decide +kernel
theorem dX0_init_90 : decode cX0_init 90 = .ok (.bipush 24, 2) := by decide +kernel
theorem dX0_init_92 : decode cX0_init 92 = .ok (.newarray .int, 2) := by decide +kernel
theorem dX0_init_94 : decode cX0_init 94 = .ok (.putfield 45, 3) := by decide +kernel
theorem dX0_init_97 : decode cX0_init 97 = .ok (.aload_n 0, 1) := by decide +kernel
theorem dX0_init_98 : decode cX0_init 98 = .ok (.iconst 0, 1) := by decide +kernel
theorem dX0_init_99 : decode cX0_init 99 = .ok (.putfield 48, 3) := by decide +kernel
theorem dX0_init_102 : decode cX0_init 102 = .ok (.aload_n 0, 1) := by decide +kernel
theorem dX0_init_103 : decode cX0_init 103 = .ok (.bipush 60, 2) := by decide +kernel
theorem dX0_init_105 : decode cX0_init 105 = .ok (.newarray .int, 2) := by decide +kernel
theorem dX0_init_107 : decode cX0_init 107 = .ok (.putfield 51, 3) := by decide +kernel
theorem dX0_init_110 : decode cX0_init 110 = .ok (.aload_n 0, 1) := by decide +kernel
theorem dX0_init_111 : decode cX0_init 111 = .ok (.bipush 60, 2) := by decide +kernel
theorem dX0_init_113 : decode cX0_init 113 = .ok (.bipush 47, 2) := by decide +kernel
theorem dX0_init_115 : decode cX0_init 115 = .ok (.multianewarray 54 2, 4) := by decide +kernel
theorem dX0_init_119 : decode cX0_init 119 = .ok (.putfield 56, 3) := by decide +kernel
theorem dX0_init_122 : decode cX0_init 122 = .ok (.aload_n 0, 1) := by decide +kernel
theorem dX0_init_123 : decode cX0_init 123 = .ok (.bipush 60, 2) := by decide +kernel
theorem dX0_init_125 : decode cX0_init 125 = .ok (.newarray .int, 2) := by decide +kernel
theorem dX0_init_127 : decode cX0_init 127 = .ok (.putfield 59, 3) := by decide +kernel
theorem dX0_init_130 : decode cX0_init 130 = .ok (.aload_n 0, 1) := by decide +kernel
theorem dX0_init_131 : decode cX0_init 131 = .ok (.iconst 0, 1) := by decide +kernel
theorem dX0_init_132 : decode cX0_init 132 = .ok (.putfield 62, 3) := by decide +kernel
theorem dX0_init_135 : decode cX0_init 135 = .ok (.aload_n 0, 1) := by decide +kernel
theorem dX0_init_136 : decode cX0_init 136 = .ok (.iconst 0, 1) := by decide +kernel
theorem dX0_init_137 : decode cX0_init 137 = .ok (.putfield 65, 3) := by decide +kernel
theorem dX0_init_140 : decode cX0_init 140 = .ok (.return_, 1) := by decide +kernel
set_option maxRecDepth 20000 in
theorem ggX0_addStep_X0_checkTool : GoodIn wsX0_addStep wsX0_checkTool := goodIn_ca (goodIn_r _ [14, 15, 16, 17, 18, 13, 19] (by decide +kernel) (by decide +kernel)) (goodIn_sub (fun _ h => List.mem_cons_of_mem _ (List.mem_append_right _ h)) (by decide +kernel))
set_option maxRecDepth 20000 in
theorem gX0_addStep_X0_checkTool : GoodIn wsX0_addStep (va_wsS RX0 68 yX0_checkTool wsX0_checkTool) := goodIn_app (goodIn_of _ (by decide +kernel)) ggX0_addStep_X0_checkTool
set_option maxRecDepth 20000 in
theorem ggX0_addStep_X0_isWithin : GoodIn wsX0_addStep wsX0_isWithin := goodIn_r _ [19] (by decide +kernel) (by decide +kernel)
set_option maxRecDepth 20000 in
theorem gX0_addStep_X0_isWithin : GoodIn wsX0_addStep (va_wsS RX0 72 yX0_isWithin wsX0_isWithin) := goodIn_app (goodIn_of _ (by decide +kernel)) ggX0_addStep_X0_isWithin
theorem dX0_addStep_0 : decode cX0_addStep 0 = .ok (.iload_n 1, 1) := by decide +kernel
theorem dX0_addStep_1 : decode cX0_addStep 1 = .ok (.invokestatic 68, 3) := by decide +kernel
theorem dX0_addStep_4 : decode cX0_addStep 4 = .ok (.iload_n 2, 1) := by decide +kernel
theorem dX0_addStep_5 : decode cX0_addStep 5 = .ok (.iconst 1, 1) := by decide +kernel
theorem dX0_addStep_6 : decode cX0_addStep 6 = .ok (.sipush 1000, 3) := by decide +kernel
theorem dX0_addStep_9 : decode cX0_addStep 9 = .ok (.invokestatic 72, 3) := by decide +kernel
theorem dX0_addStep_12 : decode cX0_addStep 12 = .ok (.ifCond .eq 27, 3) := by decide +kernel
theorem dX0_addStep_15 : decode cX0_addStep 15 = .ok (.iload_n 3, 1) := by decide +kernel
theorem dX0_addStep_16 : decode cX0_addStep 16 = .ok (.iconst 0, 1) := by decide +kernel
theorem dX0_addStep_17 : decode cX0_addStep 17 = .ok (.sipush 10000, 3) := by decide +kernel
theorem dX0_addStep_20 : decode cX0_addStep 20 = .ok (.invokestatic 72, 3) := by decide +kernel
theorem dX0_addStep_23 : decode cX0_addStep 23 = .ok (.ifCond .eq 16, 3) := by decide +kernel
theorem dX0_addStep_26 : decode cX0_addStep 26 = .ok (.iload 4, 2) := by decide +kernel
theorem dX0_addStep_28 : decode cX0_addStep 28 = .ok (.iconst 0, 1) := by decide +kernel
theorem dX0_addStep_29 : decode cX0_addStep 29 = .ok (.aload_n 0, 1) := by decide +kernel
theorem dX0_addStep_30 : decode cX0_addStep 30 = .ok (.getfield 22, 3) := by decide +kernel
theorem dX0_addStep_33 : decode cX0_addStep 33 = .ok (.invokestatic 72, 3) := by decide +kernel
theorem dX0_addStep_36 : decode cX0_addStep 36 = .ok (.ifCond .ne 13, 3) := by decide +kernel
theorem dX0_addStep_39 : decode cX0_addStep 39 = .ok (.new 76, 3) := by decide +kernel
theorem dX0_addStep_42 : decode cX0_addStep 42 = .ok (.dup, 1) := by decide +kernel
theorem dX0_addStep_43 : decode cX0_addStep 43 = .ok (.ldc 78, 2) := by decide +kernel
theorem dX0_addStep_45 : decode cX0_addStep 45 = .ok (.invokespecial 80, 3) := by decide +kernel
theorem dX0_addStep_48 : decode cX0_addStep 48 = .ok (.athrow, 1) := by decide +kernel
theorem dX0_addStep_49 : decode cX0_addStep 49 = .ok (.aload_n 0, 1) := by decide +kernel
theorem dX0_addStep_50 : decode cX0_addStep 50 = .ok (.getfield 22, 3) := by decide +kernel
theorem dX0_addStep_53 : decode cX0_addStep 53 = .ok (.bipush 12, 2) := by decide +kernel
theorem dX0_addStep_55 : decode cX0_addStep 55 = .ok (.if_icmp .ge 10, 3) := by decide +kernel
theorem dX0_addStep_58 : decode cX0_addStep 58 = .ok (.aload_n 0, 1) := by decide +kernel
theorem dX0_addStep_59 : decode cX0_addStep 59 = .ok (.getfield 48, 3) := by decide +kernel
theorem dX0_addStep_62 : decode cX0_addStep 62 = .ok (.ifCond .le 13, 3) := by decide +kernel
theorem dX0_addStep_65 : decode cX0_addStep 65 = .ok (.new 83, 3) := by decide +kernel
theorem dX0_addStep_68 : decode cX0_addStep 68 = .ok (.dup, 1) := by decide +kernel
theorem dX0_addStep_69 : decode cX0_addStep 69 = .ok (.ldc 85, 2) := by decide +kernel
theorem dX0_addStep_71 : decode cX0_addStep 71 = .ok (.invokespecial 87, 3) := by decide +kernel
theorem dX0_addStep_74 : decode cX0_addStep 74 = .ok (.athrow, 1) := by decide +kernel
theorem dX0_addStep_75 : decode cX0_addStep 75 = .ok (.aload_n 0, 1) := by decide +kernel
theorem dX0_addStep_76 : decode cX0_addStep 76 = .ok (.getfield 22, 3) := by decide +kernel
theorem dX0_addStep_79 : decode cX0_addStep 79 = .ok (.istore 5, 2) := by decide +kernel
theorem dX0_addStep_81 : decode cX0_addStep 81 = .ok (.aload_n 0, 1) := by decide +kernel
theorem dX0_addStep_82 : decode cX0_addStep 82 = .ok (.getfield 9, 3) := by decide +kernel
theorem dX0_addStep_85 : decode cX0_addStep 85 = .ok (.iload 5, 2) := by decide +kernel
theorem dX0_addStep_87 : decode cX0_addStep 87 = .ok (.iload_n 1, 1) := by decide +kernel
theorem dX0_addStep_88 : decode cX0_addStep 88 = .ok (.iastore, 1) := by decide +kernel
theorem dX0_addStep_89 : decode cX0_addStep 89 = .ok (.aload_n 0, 1) := by decide +kernel
theorem dX0_addStep_90 : decode cX0_addStep 90 = .ok (.getfield 13, 3) := by decide +kernel
theorem dX0_addStep_93 : decode cX0_addStep 93 = .ok (.iload 5, 2) := by decide +kernel
theorem dX0_addStep_95 : decode cX0_addStep 95 = .ok (.iload_n 2, 1) := by decide +kernel
theorem dX0_addStep_96 : decode cX0_addStep 96 = .ok (.iastore, 1) := by decide +kernel
theorem dX0_addStep_97 : decode cX0_addStep 97 = .ok (.aload_n 0, 1) := by decide +kernel
theorem dX0_addStep_98 : decode cX0_addStep 98 = .ok (.getfield 16, 3) := by decide +kernel
theorem dX0_addStep_101 : decode cX0_addStep 101 = .ok (.iload 5, 2) := by decide +kernel
theorem dX0_addStep_103 : decode cX0_addStep 103 = .ok (.iload_n 3, 1) := by decide +kernel
theorem dX0_addStep_104 : decode cX0_addStep 104 = .ok (.iastore, 1) := by decide +kernel
theorem dX0_addStep_105 : decode cX0_addStep 105 = .ok (.aload_n 0, 1) := by decide +kernel
theorem dX0_addStep_106 : decode cX0_addStep 106 = .ok (.getfield 19, 3) := by decide +kernel
theorem dX0_addStep_109 : decode cX0_addStep 109 = .ok (.iload 5, 2) := by decide +kernel
theorem dX0_addStep_111 : decode cX0_addStep 111 = .ok (.iload 4, 2) := by decide +kernel
theorem dX0_addStep_113 : decode cX0_addStep 113 = .ok (.iastore, 1) := by decide +kernel
theorem dX0_addStep_114 : decode cX0_addStep 114 = .ok (.aload_n 0, 1) := by decide +kernel
theorem dX0_addStep_115 : decode cX0_addStep 115 = .ok (.iload 5, 2) := by decide +kernel
theorem dX0_addStep_117 : decode cX0_addStep 117 = .ok (.iconst 1, 1) := by decide +kernel
theorem dX0_addStep_118 : decode cX0_addStep 118 = .ok (.iadd, 1) := by decide +kernel
theorem dX0_addStep_119 : decode cX0_addStep 119 = .ok (.putfield 22, 3) := by decide +kernel
theorem dX0_addStep_122 : decode cX0_addStep 122 = .ok (.iload 5, 2) := by decide +kernel
theorem dX0_addStep_124 : decode cX0_addStep 124 = .ok (.ireturn, 1) := by decide +kernel
set_option maxRecDepth 20000 in
theorem ggX0_enter_X0_isWithin : GoodIn wsX0_enter wsX0_isWithin := goodIn_r _ [12] (by decide +kernel) (by decide +kernel)
set_option maxRecDepth 20000 in
theorem gX0_enter_X0_isWithin : GoodIn wsX0_enter (va_wsS RX0 72 yX0_isWithin wsX0_isWithin) := goodIn_app (goodIn_of _ (by decide +kernel)) ggX0_enter_X0_isWithin
set_option maxRecDepth 20000 in
theorem ggX0_enter_X0_makeLot : GoodIn wsX0_enter wsX0_makeLot := goodIn_r _ [16, 6, 17, 18, 19, 20, 21, 22, 23, 35, 36, 37, 38, 39, 40, 41, 42, 43, 44, 45, 46, 47, 48, 49, 50, 51, 52] (by decide +kernel) (by decide +kernel)
set_option maxRecDepth 20000 in
theorem gX0_enter_X0_makeLot : GoodIn wsX0_enter (wsV RX0 92 RX0 yX0_makeLot wsX0_makeLot) := goodIn_app (goodIn_of _ (by decide +kernel)) ggX0_enter_X0_makeLot
set_option maxRecDepth 20000 in
theorem ggX0_enter_X0_makeWafer : GoodIn wsX0_enter wsX0_makeWafer := goodIn_r _ [27, 7, 28, 29, 30, 31, 11, 32, 33, 23, 34, 35, 36, 37, 38, 39, 40, 41, 42, 43, 44, 45, 46, 47, 48, 49, 50, 51, 52] (by decide +kernel) (by decide +kernel)
set_option maxRecDepth 20000 in
theorem gX0_enter_X0_makeWafer : GoodIn wsX0_enter (wsV RX0 96 RX0 yX0_makeWafer wsX0_makeWafer) := goodIn_app (goodIn_of _ (by decide +kernel)) ggX0_enter_X0_makeWafer
theorem dX0_enter_0 : decode cX0_enter 0 = .ok (.iload_n 1, 1) := by decide +kernel
theorem dX0_enter_1 : decode cX0_enter 1 = .ok (.iconst 1, 1) := by decide +kernel
theorem dX0_enter_2 : decode cX0_enter 2 = .ok (.bipush 12, 2) := by decide +kernel
theorem dX0_enter_4 : decode cX0_enter 4 = .ok (.invokestatic 72, 3) := by decide +kernel
theorem dX0_enter_7 : decode cX0_enter 7 = .ok (.ifCond .ne 13, 3) := by decide +kernel
theorem dX0_enter_10 : decode cX0_enter 10 = .ok (.new 76, 3) := by decide +kernel
theorem dX0_enter_13 : decode cX0_enter 13 = .ok (.dup, 1) := by decide +kernel
theorem dX0_enter_14 : decode cX0_enter 14 = .ok (.ldc 88, 2) := by decide +kernel
theorem dX0_enter_16 : decode cX0_enter 16 = .ok (.invokespecial 80, 3) := by decide +kernel
theorem dX0_enter_19 : decode cX0_enter 19 = .ok (.athrow, 1) := by decide +kernel
theorem dX0_enter_20 : decode cX0_enter 20 = .ok (.aload_n 0, 1) := by decide +kernel
theorem dX0_enter_21 : decode cX0_enter 21 = .ok (.getfield 22, 3) := by decide +kernel
theorem dX0_enter_24 : decode cX0_enter 24 = .ok (.ifCond .eq 23, 3) := by decide +kernel
theorem dX0_enter_27 : decode cX0_enter 27 = .ok (.aload_n 0, 1) := by decide +kernel
theorem dX0_enter_28 : decode cX0_enter 28 = .ok (.getfield 48, 3) := by decide +kernel
theorem dX0_enter_31 : decode cX0_enter 31 = .ok (.bipush 24, 2) := by decide +kernel
theorem dX0_enter_33 : decode cX0_enter 33 = .ok (.if_icmp .ge 14, 3) := by decide +kernel
theorem dX0_enter_36 : decode cX0_enter 36 = .ok (.aload_n 0, 1) := by decide +kernel
theorem dX0_enter_37 : decode cX0_enter 37 = .ok (.getfield 62, 3) := by decide +kernel
theorem dX0_enter_40 : decode cX0_enter 40 = .ok (.iload_n 1, 1) := by decide +kernel
theorem dX0_enter_41 : decode cX0_enter 41 = .ok (.iadd, 1) := by decide +kernel
theorem dX0_enter_42 : decode cX0_enter 42 = .ok (.bipush 60, 2) := by decide +kernel
theorem dX0_enter_44 : decode cX0_enter 44 = .ok (.if_icmp .le 13, 3) := by decide +kernel
theorem dX0_enter_47 : decode cX0_enter 47 = .ok (.new 83, 3) := by decide +kernel
theorem dX0_enter_50 : decode cX0_enter 50 = .ok (.dup, 1) := by decide +kernel
theorem dX0_enter_51 : decode cX0_enter 51 = .ok (.ldc 90, 2) := by decide +kernel
theorem dX0_enter_53 : decode cX0_enter 53 = .ok (.invokespecial 87, 3) := by decide +kernel
theorem dX0_enter_56 : decode cX0_enter 56 = .ok (.athrow, 1) := by decide +kernel
theorem dX0_enter_57 : decode cX0_enter 57 = .ok (.aload_n 0, 1) := by decide +kernel
theorem dX0_enter_58 : decode cX0_enter 58 = .ok (.iconst 0, 1) := by decide +kernel
theorem dX0_enter_59 : decode cX0_enter 59 = .ok (.aload_n 0, 1) := by decide +kernel
theorem dX0_enter_60 : decode cX0_enter 60 = .ok (.getfield 65, 3) := by decide +kernel
theorem dX0_enter_63 : decode cX0_enter 63 = .ok (.iconst 0, 1) := by decide +kernel
theorem dX0_enter_64 : decode cX0_enter 64 = .ok (.iconst 0, 1) := by decide +kernel
theorem dX0_enter_65 : decode cX0_enter 65 = .ok (.iconst (-1), 1) := by decide +kernel
theorem dX0_enter_66 : decode cX0_enter 66 = .ok (.invokevirtual 92, 3) := by decide +kernel
theorem dX0_enter_69 : decode cX0_enter 69 = .ok (.istore_n 2, 1) := by decide +kernel
theorem dX0_enter_70 : decode cX0_enter 70 = .ok (.iconst 0, 1) := by decide +kernel
theorem dX0_enter_71 : decode cX0_enter 71 = .ok (.istore_n 3, 1) := by decide +kernel
theorem dX0_enter_72 : decode cX0_enter 72 = .ok (.iload_n 3, 1) := by decide +kernel
theorem dX0_enter_73 : decode cX0_enter 73 = .ok (.iload_n 1, 1) := by decide +kernel
theorem dX0_enter_74 : decode cX0_enter 74 = .ok (.if_icmp .ge 14, 3) := by decide +kernel
theorem dX0_enter_77 : decode cX0_enter 77 = .ok (.aload_n 0, 1) := by decide +kernel
theorem dX0_enter_78 : decode cX0_enter 78 = .ok (.iload_n 2, 1) := by decide +kernel
theorem dX0_enter_79 : decode cX0_enter 79 = .ok (.invokevirtual 96, 3) := by decide +kernel
theorem dX0_enter_82 : decode cX0_enter 82 = .ok (.iinc 3 1, 3) := by decide +kernel
theorem dX0_enter_85 : decode cX0_enter 85 = .ok (.goto (-13), 3) := by decide +kernel
theorem dX0_enter_88 : decode cX0_enter 88 = .ok (.iload_n 2, 1) := by decide +kernel
theorem dX0_enter_89 : decode cX0_enter 89 = .ok (.ireturn, 1) := by decide +kernel
set_option maxRecDepth 20000 in
theorem ggX0_start_X0_checkLot : GoodIn wsX0_start wsX0_checkLot := goodIn_ca (goodIn_r _ [13, 14, 15, 16, 17, 18, 12, 19, 20, 50, 51, 52, 53, 54, 55, 56, 57, 58, 59, 60, 61, 62, 63, 64, 65, 66, 67] (by decide +kernel) (by decide +kernel)) (goodIn_sub (fun _ h => List.mem_cons_of_mem _ (List.mem_append_right _ h)) (by decide +kernel))
set_option maxRecDepth 20000 in
theorem gX0_start_X0_checkLot : GoodIn wsX0_start (wsV RX0 99 RX0 yX0_checkLot wsX0_checkLot) := goodIn_app (goodIn_of _ (by decide +kernel)) ggX0_start_X0_checkLot
set_option maxRecDepth 20000 in
theorem ggX0_start_X0_isReady : GoodIn wsX0_start wsX0_isReady := goodIn_r _ [24, 25, 26, 27, 12, 28, 5, 29, 30, 31, 32, 33, 3, 34, 35, 36, 7, 6, 37, 38, 39, 40, 41, 50, 51, 52, 53, 54, 55, 56, 57, 58, 59, 60, 61, 62, 63, 64, 65, 66, 67] (by decide +kernel) (by decide +kernel)
set_option maxRecDepth 20000 in
theorem gX0_start_X0_isReady : GoodIn wsX0_start (wsV RX0 102 RX0 yX0_isReady wsX0_isReady) := goodIn_app (goodIn_of _ (by decide +kernel)) ggX0_start_X0_isReady
set_option maxRecDepth 20000 in
theorem ggX0_start_X0_isStep : GoodIn wsX0_start wsX0_isStep := goodIn_r _ [40, 41, 50, 51, 52, 53, 54, 55, 56, 57, 58, 59, 60, 61, 62, 63, 64, 65, 66, 67] (by decide +kernel) (by decide +kernel)
set_option maxRecDepth 20000 in
theorem gX0_start_X0_isStep : GoodIn wsX0_start (wsV RX0 106 RX0 yX0_isStep wsX0_isStep) := goodIn_app (goodIn_of _ (by decide +kernel)) ggX0_start_X0_isStep
set_option maxRecDepth 20000 in
theorem ggX0_start_X0_isBusy : GoodIn wsX0_start wsX0_isBusy := goodIn_r _ [45, 20, 5, 46, 47, 48, 12, 49, 3, 4, 37, 38, 39, 40, 41, 50, 51, 52, 53, 54, 55, 56, 57, 58, 59, 60, 61, 62, 63, 64, 65, 66, 67] (by decide +kernel) (by decide +kernel)
set_option maxRecDepth 20000 in
theorem gX0_start_X0_isBusy : GoodIn wsX0_start (wsV RX0 109 RX0 yX0_isBusy wsX0_isBusy) := goodIn_app (goodIn_of _ (by decide +kernel)) ggX0_start_X0_isBusy
theorem dX0_start_0 : decode cX0_start 0 = .ok (.aload_n 0, 1) := by decide +kernel
theorem dX0_start_1 : decode cX0_start 1 = .ok (.iload_n 1, 1) := by decide +kernel
theorem dX0_start_2 : decode cX0_start 2 = .ok (.invokevirtual 99, 3) := by decide +kernel
theorem dX0_start_5 : decode cX0_start 5 = .ok (.aload_n 0, 1) := by decide +kernel
theorem dX0_start_6 : decode cX0_start 6 = .ok (.getfield 29, 3) := by decide +kernel
theorem dX0_start_9 : decode cX0_start 9 = .ok (.iload_n 1, 1) := by decide +kernel
theorem dX0_start_10 : decode cX0_start 10 = .ok (.iaload, 1) := by decide +kernel
theorem dX0_start_11 : decode cX0_start 11 = .ok (.istore_n 2, 1) := by decide +kernel
theorem dX0_start_12 : decode cX0_start 12 = .ok (.aload_n 0, 1) := by decide +kernel
theorem dX0_start_13 : decode cX0_start 13 = .ok (.iload_n 1, 1) := by decide +kernel
theorem dX0_start_14 : decode cX0_start 14 = .ok (.invokevirtual 102, 3) := by decide +kernel
theorem dX0_start_17 : decode cX0_start 17 = .ok (.ifCond .eq 24, 3) := by decide +kernel
theorem dX0_start_20 : decode cX0_start 20 = .ok (.aload_n 0, 1) := by decide +kernel
theorem dX0_start_21 : decode cX0_start 21 = .ok (.iload_n 2, 1) := by decide +kernel
theorem dX0_start_22 : decode cX0_start 22 = .ok (.invokevirtual 106, 3) := by decide +kernel
theorem dX0_start_25 : decode cX0_start 25 = .ok (.ifCond .eq 16, 3) := by decide +kernel
theorem dX0_start_28 : decode cX0_start 28 = .ok (.aload_n 0, 1) := by decide +kernel
theorem dX0_start_29 : decode cX0_start 29 = .ok (.aload_n 0, 1) := by decide +kernel
theorem dX0_start_30 : decode cX0_start 30 = .ok (.getfield 9, 3) := by decide +kernel
theorem dX0_start_33 : decode cX0_start 33 = .ok (.iload_n 2, 1) := by decide +kernel
theorem dX0_start_34 : decode cX0_start 34 = .ok (.iaload, 1) := by decide +kernel
theorem dX0_start_35 : decode cX0_start 35 = .ok (.invokevirtual 109, 3) := by decide +kernel
theorem dX0_start_38 : decode cX0_start 38 = .ok (.ifCond .eq 13, 3) := by decide +kernel
theorem dX0_start_41 : decode cX0_start 41 = .ok (.new 83, 3) := by decide +kernel
theorem dX0_start_44 : decode cX0_start 44 = .ok (.dup, 1) := by decide +kernel
theorem dX0_start_45 : decode cX0_start 45 = .ok (.ldc 112, 2) := by decide +kernel
theorem dX0_start_47 : decode cX0_start 47 = .ok (.invokespecial 87, 3) := by decide +kernel
theorem dX0_start_50 : decode cX0_start 50 = .ok (.athrow, 1) := by decide +kernel
theorem dX0_start_51 : decode cX0_start 51 = .ok (.aload_n 0, 1) := by decide +kernel
theorem dX0_start_52 : decode cX0_start 52 = .ok (.getfield 26, 3) := by decide +kernel
theorem dX0_start_55 : decode cX0_start 55 = .ok (.iload_n 1, 1) := by decide +kernel
theorem dX0_start_56 : decode cX0_start 56 = .ok (.iconst 1, 1) := by decide +kernel
theorem dX0_start_57 : decode cX0_start 57 = .ok (.iastore, 1) := by decide +kernel
theorem dX0_start_58 : decode cX0_start 58 = .ok (.aload_n 0, 1) := by decide +kernel
theorem dX0_start_59 : decode cX0_start 59 = .ok (.getfield 32, 3) := by decide +kernel
theorem dX0_start_62 : decode cX0_start 62 = .ok (.iload_n 1, 1) := by decide +kernel
theorem dX0_start_63 : decode cX0_start 63 = .ok (.aload_n 0, 1) := by decide +kernel
theorem dX0_start_64 : decode cX0_start 64 = .ok (.getfield 65, 3) := by decide +kernel
theorem dX0_start_67 : decode cX0_start 67 = .ok (.aload_n 0, 1) := by decide +kernel
theorem dX0_start_68 : decode cX0_start 68 = .ok (.getfield 13, 3) := by decide +kernel
theorem dX0_start_71 : decode cX0_start 71 = .ok (.iload_n 2, 1) := by decide +kernel
theorem dX0_start_72 : decode cX0_start 72 = .ok (.iaload, 1) := by decide +kernel
theorem dX0_start_73 : decode cX0_start 73 = .ok (.iadd, 1) := by decide +kernel
theorem dX0_start_74 : decode cX0_start 74 = .ok (.iastore, 1) := by decide +kernel
theorem dX0_start_75 : decode cX0_start 75 = .ok (.aload_n 0, 1) := by decide +kernel
theorem dX0_start_76 : decode cX0_start 76 = .ok (.getfield 32, 3) := by decide +kernel
theorem dX0_start_79 : decode cX0_start 79 = .ok (.iload_n 1, 1) := by decide +kernel
theorem dX0_start_80 : decode cX0_start 80 = .ok (.iaload, 1) := by decide +kernel
theorem dX0_start_81 : decode cX0_start 81 = .ok (.ireturn, 1) := by decide +kernel
set_option maxRecDepth 20000 in
theorem ggX0_split_X0_checkLot : GoodIn wsX0_split wsX0_checkLot := goodIn_ca (goodIn_r _ [16, 17, 18, 19, 20, 21, 15, 22, 7, 43, 44, 45, 46, 47, 48, 49, 50, 51, 52, 53, 54, 55, 56, 57, 58, 59, 60] (by decide +kernel) (by decide +kernel)) (goodIn_sub (fun _ h => List.mem_cons_of_mem _ (List.mem_append_right _ h)) (by decide +kernel))
set_option maxRecDepth 20000 in
theorem gX0_split_X0_checkLot : GoodIn wsX0_split (wsV RX0 99 RX0 yX0_checkLot wsX0_checkLot) := goodIn_app (goodIn_of _ (by decide +kernel)) ggX0_split_X0_checkLot
set_option maxRecDepth 20000 in
theorem ggX0_split_X0_isWithin : GoodIn wsX0_split wsX0_isWithin := goodIn_r _ [25] (by decide +kernel) (by decide +kernel)
set_option maxRecDepth 20000 in
theorem gX0_split_X0_isWithin : GoodIn wsX0_split (va_wsS RX0 72 yX0_isWithin wsX0_isWithin) := goodIn_app (goodIn_of _ (by decide +kernel)) ggX0_split_X0_isWithin
set_option maxRecDepth 20000 in
theorem ggX0_split_X0_makeLot : GoodIn wsX0_split wsX0_makeLot := goodIn_r _ [29, 7, 6, 8, 9, 10, 11, 30, 5, 43, 44, 45, 46, 47, 48, 49, 50, 51, 52, 53, 54, 55, 56, 57, 58, 59, 60] (by decide +kernel) (by decide +kernel)
set_option maxRecDepth 20000 in
theorem gX0_split_X0_makeLot : GoodIn wsX0_split (wsV RX0 92 RX0 yX0_makeLot wsX0_makeLot) := goodIn_app (goodIn_of _ (by decide +kernel)) ggX0_split_X0_makeLot
set_option maxRecDepth 20000 in
theorem ggX0_split_X0_moveWafers : GoodIn wsX0_split wsX0_moveWafers := goodIn_r _ [34, 35, 36, 5, 37, 38, 39, 15, 40, 41, 42, 43, 44, 45, 46, 47, 48, 49, 50, 51, 52, 53, 54, 55, 56, 57, 58, 59, 60] (by decide +kernel) (by decide +kernel)
set_option maxRecDepth 20000 in
theorem gX0_split_X0_moveWafers : GoodIn wsX0_split (wsV RX0 121 RX0 yX0_moveWafers wsX0_moveWafers) := goodIn_app (goodIn_of _ (by decide +kernel)) ggX0_split_X0_moveWafers
theorem dX0_split_0 : decode cX0_split 0 = .ok (.aload_n 0, 1) := by decide +kernel
theorem dX0_split_1 : decode cX0_split 1 = .ok (.iload_n 1, 1) := by decide +kernel
theorem dX0_split_2 : decode cX0_split 2 = .ok (.invokevirtual 99, 3) := by decide +kernel
theorem dX0_split_5 : decode cX0_split 5 = .ok (.iload_n 2, 1) := by decide +kernel
theorem dX0_split_6 : decode cX0_split 6 = .ok (.iconst 1, 1) := by decide +kernel
theorem dX0_split_7 : decode cX0_split 7 = .ok (.aload_n 0, 1) := by decide +kernel
theorem dX0_split_8 : decode cX0_split 8 = .ok (.getfield 45, 3) := by decide +kernel
theorem dX0_split_11 : decode cX0_split 11 = .ok (.iload_n 1, 1) := by decide +kernel
theorem dX0_split_12 : decode cX0_split 12 = .ok (.iaload, 1) := by decide +kernel
theorem dX0_split_13 : decode cX0_split 13 = .ok (.iconst 1, 1) := by decide +kernel
theorem dX0_split_14 : decode cX0_split 14 = .ok (.isub, 1) := by decide +kernel
theorem dX0_split_15 : decode cX0_split 15 = .ok (.invokestatic 72, 3) := by decide +kernel
theorem dX0_split_18 : decode cX0_split 18 = .ok (.ifCond .ne 13, 3) := by decide +kernel
theorem dX0_split_21 : decode cX0_split 21 = .ok (.new 76, 3) := by decide +kernel
theorem dX0_split_24 : decode cX0_split 24 = .ok (.dup, 1) := by decide +kernel
theorem dX0_split_25 : decode cX0_split 25 = .ok (.ldc 88, 2) := by decide +kernel
theorem dX0_split_27 : decode cX0_split 27 = .ok (.invokespecial 80, 3) := by decide +kernel
theorem dX0_split_30 : decode cX0_split 30 = .ok (.athrow, 1) := by decide +kernel
theorem dX0_split_31 : decode cX0_split 31 = .ok (.aload_n 0, 1) := by decide +kernel
theorem dX0_split_32 : decode cX0_split 32 = .ok (.getfield 26, 3) := by decide +kernel
theorem dX0_split_35 : decode cX0_split 35 = .ok (.iload_n 1, 1) := by decide +kernel
theorem dX0_split_36 : decode cX0_split 36 = .ok (.iaload, 1) := by decide +kernel
theorem dX0_split_37 : decode cX0_split 37 = .ok (.ifCond .ne 12, 3) := by decide +kernel
theorem dX0_split_40 : decode cX0_split 40 = .ok (.aload_n 0, 1) := by decide +kernel
theorem dX0_split_41 : decode cX0_split 41 = .ok (.getfield 48, 3) := by decide +kernel
theorem dX0_split_44 : decode cX0_split 44 = .ok (.bipush 24, 2) := by decide +kernel
theorem dX0_split_46 : decode cX0_split 46 = .ok (.if_icmp .lt 13, 3) := by decide +kernel
theorem dX0_split_49 : decode cX0_split 49 = .ok (.new 83, 3) := by decide +kernel
theorem dX0_split_52 : decode cX0_split 52 = .ok (.dup, 1) := by decide +kernel
theorem dX0_split_53 : decode cX0_split 53 = .ok (.ldc 119, 2) := by decide +kernel
theorem dX0_split_55 : decode cX0_split 55 = .ok (.invokespecial 87, 3) := by decide +kernel
theorem dX0_split_58 : decode cX0_split 58 = .ok (.athrow, 1) := by decide +kernel
theorem dX0_split_59 : decode cX0_split 59 = .ok (.aload_n 0, 1) := by decide +kernel
theorem dX0_split_60 : decode cX0_split 60 = .ok (.aload_n 0, 1) := by decide +kernel
theorem dX0_split_61 : decode cX0_split 61 = .ok (.getfield 29, 3) := by decide +kernel
theorem dX0_split_64 : decode cX0_split 64 = .ok (.iload_n 1, 1) := by decide +kernel
theorem dX0_split_65 : decode cX0_split 65 = .ok (.iaload, 1) := by decide +kernel
theorem dX0_split_66 : decode cX0_split 66 = .ok (.aload_n 0, 1) := by decide +kernel
theorem dX0_split_67 : decode cX0_split 67 = .ok (.getfield 32, 3) := by decide +kernel
theorem dX0_split_70 : decode cX0_split 70 = .ok (.iload_n 1, 1) := by decide +kernel
theorem dX0_split_71 : decode cX0_split 71 = .ok (.iaload, 1) := by decide +kernel
theorem dX0_split_72 : decode cX0_split 72 = .ok (.aload_n 0, 1) := by decide +kernel
theorem dX0_split_73 : decode cX0_split 73 = .ok (.getfield 35, 3) := by decide +kernel
theorem dX0_split_76 : decode cX0_split 76 = .ok (.iload_n 1, 1) := by decide +kernel
theorem dX0_split_77 : decode cX0_split 77 = .ok (.baload, 1) := by decide +kernel
theorem dX0_split_78 : decode cX0_split 78 = .ok (.aload_n 0, 1) := by decide +kernel
theorem dX0_split_79 : decode cX0_split 79 = .ok (.getfield 39, 3) := by decide +kernel
theorem dX0_split_82 : decode cX0_split 82 = .ok (.iload_n 1, 1) := by decide +kernel
theorem dX0_split_83 : decode cX0_split 83 = .ok (.iaload, 1) := by decide +kernel
theorem dX0_split_84 : decode cX0_split 84 = .ok (.iload_n 1, 1) := by decide +kernel
theorem dX0_split_85 : decode cX0_split 85 = .ok (.invokevirtual 92, 3) := by decide +kernel
theorem dX0_split_88 : decode cX0_split 88 = .ok (.istore_n 3, 1) := by decide +kernel
theorem dX0_split_89 : decode cX0_split 89 = .ok (.aload_n 0, 1) := by decide +kernel
theorem dX0_split_90 : decode cX0_split 90 = .ok (.iload_n 1, 1) := by decide +kernel
theorem dX0_split_91 : decode cX0_split 91 = .ok (.iload_n 3, 1) := by decide +kernel
theorem dX0_split_92 : decode cX0_split 92 = .ok (.iload_n 2, 1) := by decide +kernel
theorem dX0_split_93 : decode cX0_split 93 = .ok (.invokevirtual 121, 3) := by decide +kernel
theorem dX0_split_96 : decode cX0_split 96 = .ok (.iload_n 3, 1) := by decide +kernel
theorem dX0_split_97 : decode cX0_split 97 = .ok (.ireturn, 1) := by decide +kernel
set_option maxRecDepth 20000 in
theorem ggX0_hold_X0_checkLot : GoodIn wsX0_hold wsX0_checkLot := goodIn_ca (goodIn_r _ [9, 10, 11, 12, 13, 14, 8, 15, 16, 17, 18, 19, 20, 21, 22, 23, 24, 25, 26, 27, 28, 29, 30, 31, 32, 33, 34] (by decide +kernel) (by decide +kernel)) (goodIn_sub (fun _ h => List.mem_cons_of_mem _ (List.mem_append_right _ h)) (by decide +kernel))
set_option maxRecDepth 20000 in
theorem gX0_hold_X0_checkLot : GoodIn wsX0_hold (wsV RX0 99 RX0 yX0_checkLot wsX0_checkLot) := goodIn_app (goodIn_of _ (by decide +kernel)) ggX0_hold_X0_checkLot
theorem dX0_hold_0 : decode cX0_hold 0 = .ok (.aload_n 0, 1) := by decide +kernel
theorem dX0_hold_1 : decode cX0_hold 1 = .ok (.iload_n 1, 1) := by decide +kernel
theorem dX0_hold_2 : decode cX0_hold 2 = .ok (.invokevirtual 99, 3) := by decide +kernel
theorem dX0_hold_5 : decode cX0_hold 5 = .ok (.aload_n 0, 1) := by decide +kernel
theorem dX0_hold_6 : decode cX0_hold 6 = .ok (.getfield 26, 3) := by decide +kernel
theorem dX0_hold_9 : decode cX0_hold 9 = .ok (.iload_n 1, 1) := by decide +kernel
theorem dX0_hold_10 : decode cX0_hold 10 = .ok (.iaload, 1) := by decide +kernel
theorem dX0_hold_11 : decode cX0_hold 11 = .ok (.iconst 2, 1) := by decide +kernel
theorem dX0_hold_12 : decode cX0_hold 12 = .ok (.if_icmp .eq 13, 3) := by decide +kernel
theorem dX0_hold_15 : decode cX0_hold 15 = .ok (.aload_n 0, 1) := by decide +kernel
theorem dX0_hold_16 : decode cX0_hold 16 = .ok (.getfield 26, 3) := by decide +kernel
theorem dX0_hold_19 : decode cX0_hold 19 = .ok (.iload_n 1, 1) := by decide +kernel
theorem dX0_hold_20 : decode cX0_hold 20 = .ok (.iaload, 1) := by decide +kernel
theorem dX0_hold_21 : decode cX0_hold 21 = .ok (.iconst 3, 1) := by decide +kernel
theorem dX0_hold_22 : decode cX0_hold 22 = .ok (.if_icmp .ne 13, 3) := by decide +kernel
theorem dX0_hold_25 : decode cX0_hold 25 = .ok (.new 83, 3) := by decide +kernel
theorem dX0_hold_28 : decode cX0_hold 28 = .ok (.dup, 1) := by decide +kernel
theorem dX0_hold_29 : decode cX0_hold 29 = .ok (.ldc 142, 2) := by decide +kernel
theorem dX0_hold_31 : decode cX0_hold 31 = .ok (.invokespecial 87, 3) := by decide +kernel
theorem dX0_hold_34 : decode cX0_hold 34 = .ok (.athrow, 1) := by decide +kernel
theorem dX0_hold_35 : decode cX0_hold 35 = .ok (.aload_n 0, 1) := by decide +kernel
theorem dX0_hold_36 : decode cX0_hold 36 = .ok (.getfield 35, 3) := by decide +kernel
theorem dX0_hold_39 : decode cX0_hold 39 = .ok (.iload_n 1, 1) := by decide +kernel
theorem dX0_hold_40 : decode cX0_hold 40 = .ok (.baload, 1) := by decide +kernel
theorem dX0_hold_41 : decode cX0_hold 41 = .ok (.istore_n 3, 1) := by decide +kernel
theorem dX0_hold_42 : decode cX0_hold 42 = .ok (.aload_n 0, 1) := by decide +kernel
theorem dX0_hold_43 : decode cX0_hold 43 = .ok (.getfield 35, 3) := by decide +kernel
theorem dX0_hold_46 : decode cX0_hold 46 = .ok (.iload_n 1, 1) := by decide +kernel
theorem dX0_hold_47 : decode cX0_hold 47 = .ok (.iload_n 2, 1) := by decide +kernel
theorem dX0_hold_48 : decode cX0_hold 48 = .ok (.bastore, 1) := by decide +kernel
theorem dX0_hold_49 : decode cX0_hold 49 = .ok (.iload_n 3, 1) := by decide +kernel
theorem dX0_hold_50 : decode cX0_hold 50 = .ok (.ireturn, 1) := by decide +kernel
set_option maxRecDepth 20000 in
theorem ggX0_scrap_X0_checkWafer : GoodIn wsX0_scrap wsX0_checkWafer := goodIn_ca (goodIn_r _ [10, 11, 12, 13, 24, 25, 26, 27, 28, 29, 30, 31, 32, 33, 34, 35, 36, 37, 38, 39, 40, 41] (by decide +kernel) (by decide +kernel)) (goodIn_sub (fun _ h => List.mem_cons_of_mem _ (List.mem_append_right _ h)) (by decide +kernel))
set_option maxRecDepth 20000 in
theorem gX0_scrap_X0_checkWafer : GoodIn wsX0_scrap (wsV RX0 144 RX0 yX0_checkWafer wsX0_checkWafer) := goodIn_app (goodIn_of _ (by decide +kernel)) ggX0_scrap_X0_checkWafer
set_option maxRecDepth 20000 in
theorem ggX0_scrap_X0_isLot : GoodIn wsX0_scrap wsX0_isLot := goodIn_r _ [17, 18, 24, 25, 26, 27, 28, 29, 30, 31, 32, 33, 34, 35, 36, 37, 38, 39, 40, 41] (by decide +kernel) (by decide +kernel)
set_option maxRecDepth 20000 in
theorem gX0_scrap_X0_isLot : GoodIn wsX0_scrap (wsV RX0 147 RX0 yX0_isLot wsX0_isLot) := goodIn_app (goodIn_of _ (by decide +kernel)) ggX0_scrap_X0_isLot
set_option maxRecDepth 20000 in
theorem ggX0_scrap_X0_leaveRoute : GoodIn wsX0_scrap wsX0_leaveRoute := goodIn_r _ [22, 4, 23, 24, 25, 26, 27, 28, 29, 30, 31, 32, 33, 34, 35, 36, 37, 38, 39, 40, 41] (by decide +kernel) (by decide +kernel)
set_option maxRecDepth 20000 in
theorem gX0_scrap_X0_leaveRoute : GoodIn wsX0_scrap (wsV RX0 138 RX0 yX0_leaveRoute wsX0_leaveRoute) := goodIn_app (goodIn_of _ (by decide +kernel)) ggX0_scrap_X0_leaveRoute
theorem dX0_scrap_0 : decode cX0_scrap 0 = .ok (.aload_n 0, 1) := by decide +kernel
theorem dX0_scrap_1 : decode cX0_scrap 1 = .ok (.iload_n 1, 1) := by decide +kernel
theorem dX0_scrap_2 : decode cX0_scrap 2 = .ok (.invokevirtual 144, 3) := by decide +kernel
theorem dX0_scrap_5 : decode cX0_scrap 5 = .ok (.aload_n 0, 1) := by decide +kernel
theorem dX0_scrap_6 : decode cX0_scrap 6 = .ok (.getfield 51, 3) := by decide +kernel
theorem dX0_scrap_9 : decode cX0_scrap 9 = .ok (.iload_n 1, 1) := by decide +kernel
theorem dX0_scrap_10 : decode cX0_scrap 10 = .ok (.iaload, 1) := by decide +kernel
theorem dX0_scrap_11 : decode cX0_scrap 11 = .ok (.istore_n 2, 1) := by decide +kernel
theorem dX0_scrap_12 : decode cX0_scrap 12 = .ok (.aload_n 0, 1) := by decide +kernel
theorem dX0_scrap_13 : decode cX0_scrap 13 = .ok (.iload_n 2, 1) := by decide +kernel
theorem dX0_scrap_14 : decode cX0_scrap 14 = .ok (.invokevirtual 147, 3) := by decide +kernel
theorem dX0_scrap_17 : decode cX0_scrap 17 = .ok (.ifCond .eq 12, 3) := by decide +kernel
theorem dX0_scrap_20 : decode cX0_scrap 20 = .ok (.aload_n 0, 1) := by decide +kernel
theorem dX0_scrap_21 : decode cX0_scrap 21 = .ok (.getfield 26, 3) := by decide +kernel
theorem dX0_scrap_24 : decode cX0_scrap 24 = .ok (.iload_n 2, 1) := by decide +kernel
theorem dX0_scrap_25 : decode cX0_scrap 25 = .ok (.iaload, 1) := by decide +kernel
theorem dX0_scrap_26 : decode cX0_scrap 26 = .ok (.ifCond .eq 13, 3) := by decide +kernel
theorem dX0_scrap_29 : decode cX0_scrap 29 = .ok (.new 83, 3) := by decide +kernel
theorem dX0_scrap_32 : decode cX0_scrap 32 = .ok (.dup, 1) := by decide +kernel
theorem dX0_scrap_33 : decode cX0_scrap 33 = .ok (.ldc 150, 2) := by decide +kernel
theorem dX0_scrap_35 : decode cX0_scrap 35 = .ok (.invokespecial 87, 3) := by decide +kernel
theorem dX0_scrap_38 : decode cX0_scrap 38 = .ok (.athrow, 1) := by decide +kernel
theorem dX0_scrap_39 : decode cX0_scrap 39 = .ok (.aload_n 0, 1) := by decide +kernel
theorem dX0_scrap_40 : decode cX0_scrap 40 = .ok (.getfield 51, 3) := by decide +kernel
theorem dX0_scrap_43 : decode cX0_scrap 43 = .ok (.iload_n 1, 1) := by decide +kernel
theorem dX0_scrap_44 : decode cX0_scrap 44 = .ok (.iconst (-1), 1) := by decide +kernel
theorem dX0_scrap_45 : decode cX0_scrap 45 = .ok (.iastore, 1) := by decide +kernel
theorem dX0_scrap_46 : decode cX0_scrap 46 = .ok (.aload_n 0, 1) := by decide +kernel
theorem dX0_scrap_47 : decode cX0_scrap 47 = .ok (.getfield 45, 3) := by decide +kernel
theorem dX0_scrap_50 : decode cX0_scrap 50 = .ok (.iload_n 2, 1) := by decide +kernel
theorem dX0_scrap_51 : decode cX0_scrap 51 = .ok (.dup2, 1) := by decide +kernel
theorem dX0_scrap_52 : decode cX0_scrap 52 = .ok (.iaload, 1) := by decide +kernel
theorem dX0_scrap_53 : decode cX0_scrap 53 = .ok (.iconst 1, 1) := by decide +kernel
theorem dX0_scrap_54 : decode cX0_scrap 54 = .ok (.isub, 1) := by decide +kernel
theorem dX0_scrap_55 : decode cX0_scrap 55 = .ok (.iastore, 1) := by decide +kernel
theorem dX0_scrap_56 : decode cX0_scrap 56 = .ok (.aload_n 0, 1) := by decide +kernel
theorem dX0_scrap_57 : decode cX0_scrap 57 = .ok (.getfield 45, 3) := by decide +kernel
theorem dX0_scrap_60 : decode cX0_scrap 60 = .ok (.iload_n 2, 1) := by decide +kernel
theorem dX0_scrap_61 : decode cX0_scrap 61 = .ok (.iaload, 1) := by decide +kernel
theorem dX0_scrap_62 : decode cX0_scrap 62 = .ok (.ifCond .ne 9, 3) := by decide +kernel
theorem dX0_scrap_65 : decode cX0_scrap 65 = .ok (.aload_n 0, 1) := by decide +kernel
theorem dX0_scrap_66 : decode cX0_scrap 66 = .ok (.iload_n 2, 1) := by decide +kernel
theorem dX0_scrap_67 : decode cX0_scrap 67 = .ok (.iconst 3, 1) := by decide +kernel
theorem dX0_scrap_68 : decode cX0_scrap 68 = .ok (.invokevirtual 138, 3) := by decide +kernel
theorem dX0_scrap_71 : decode cX0_scrap 71 = .ok (.aload_n 0, 1) := by decide +kernel
theorem dX0_scrap_72 : decode cX0_scrap 72 = .ok (.getfield 45, 3) := by decide +kernel
theorem dX0_scrap_75 : decode cX0_scrap 75 = .ok (.iload_n 2, 1) := by decide +kernel
theorem dX0_scrap_76 : decode cX0_scrap 76 = .ok (.iaload, 1) := by decide +kernel
theorem dX0_scrap_77 : decode cX0_scrap 77 = .ok (.ireturn, 1) := by decide +kernel
set_option maxRecDepth 20000 in
theorem ggX0_advance_X0_isWithin : GoodIn wsX0_advance wsX0_isWithin := goodIn_r _ [10] (by decide +kernel) (by decide +kernel)
set_option maxRecDepth 20000 in
theorem gX0_advance_X0_isWithin : GoodIn wsX0_advance (va_wsS RX0 72 yX0_isWithin wsX0_isWithin) := goodIn_app (goodIn_of _ (by decide +kernel)) ggX0_advance_X0_isWithin
set_option maxRecDepth 20000 in
theorem ggX0_advance_X0_endProcessing : GoodIn wsX0_advance wsX0_endProcessing := goodIn_r _ [14, 15, 5, 16, 17, 18, 9, 19, 20, 21, 22, 23, 24, 25, 26, 27, 28, 29, 30, 31, 32, 33, 34, 35, 36, 37, 38, 39, 40, 41, 42] (by decide +kernel) (by decide +kernel)
set_option maxRecDepth 20000 in
theorem gX0_advance_X0_endProcessing : GoodIn wsX0_advance (wsV RX0 154 RX0 yX0_endProcessing wsX0_endProcessing) := goodIn_app (goodIn_of _ (by decide +kernel)) ggX0_advance_X0_endProcessing
theorem dX0_advance_0 : decode cX0_advance 0 = .ok (.iload_n 1, 1) := by decide +kernel
theorem dX0_advance_1 : decode cX0_advance 1 = .ok (.iconst 1, 1) := by decide +kernel
theorem dX0_advance_2 : decode cX0_advance 2 = .ok (.sipush 10000, 3) := by decide +kernel
theorem dX0_advance_5 : decode cX0_advance 5 = .ok (.invokestatic 72, 3) := by decide +kernel
theorem dX0_advance_8 : decode cX0_advance 8 = .ok (.ifCond .ne 13, 3) := by decide +kernel
theorem dX0_advance_11 : decode cX0_advance 11 = .ok (.new 76, 3) := by decide +kernel
theorem dX0_advance_14 : decode cX0_advance 14 = .ok (.dup, 1) := by decide +kernel
theorem dX0_advance_15 : decode cX0_advance 15 = .ok (.ldc 152, 2) := by decide +kernel
theorem dX0_advance_17 : decode cX0_advance 17 = .ok (.invokespecial 80, 3) := by decide +kernel
theorem dX0_advance_20 : decode cX0_advance 20 = .ok (.athrow, 1) := by decide +kernel
theorem dX0_advance_21 : decode cX0_advance 21 = .ok (.aload_n 0, 1) := by decide +kernel
theorem dX0_advance_22 : decode cX0_advance 22 = .ok (.dup, 1) := by decide +kernel
theorem dX0_advance_23 : decode cX0_advance 23 = .ok (.getfield 65, 3) := by decide +kernel
theorem dX0_advance_26 : decode cX0_advance 26 = .ok (.iload_n 1, 1) := by decide +kernel
theorem dX0_advance_27 : decode cX0_advance 27 = .ok (.iadd, 1) := by decide +kernel
theorem dX0_advance_28 : decode cX0_advance 28 = .ok (.putfield 65, 3) := by decide +kernel
theorem dX0_advance_31 : decode cX0_advance 31 = .ok (.iconst 0, 1) := by decide +kernel
theorem dX0_advance_32 : decode cX0_advance 32 = .ok (.istore_n 2, 1) := by decide +kernel
theorem dX0_advance_33 : decode cX0_advance 33 = .ok (.iconst 0, 1) := by decide +kernel
theorem dX0_advance_34 : decode cX0_advance 34 = .ok (.istore_n 3, 1) := by decide +kernel
theorem dX0_advance_35 : decode cX0_advance 35 = .ok (.iload_n 3, 1) := by decide +kernel
theorem dX0_advance_36 : decode cX0_advance 36 = .ok (.aload_n 0, 1) := by decide +kernel
theorem dX0_advance_37 : decode cX0_advance 37 = .ok (.getfield 48, 3) := by decide +kernel
theorem dX0_advance_40 : decode cX0_advance 40 = .ok (.if_icmp .ge 40, 3) := by decide +kernel
theorem dX0_advance_43 : decode cX0_advance 43 = .ok (.aload_n 0, 1) := by decide +kernel
theorem dX0_advance_44 : decode cX0_advance 44 = .ok (.getfield 26, 3) := by decide +kernel
theorem dX0_advance_47 : decode cX0_advance 47 = .ok (.iload_n 3, 1) := by decide +kernel
theorem dX0_advance_48 : decode cX0_advance 48 = .ok (.iaload, 1) := by decide +kernel
theorem dX0_advance_49 : decode cX0_advance 49 = .ok (.iconst 1, 1) := by decide +kernel
theorem dX0_advance_50 : decode cX0_advance 50 = .ok (.if_icmp .ne 24, 3) := by decide +kernel
theorem dX0_advance_53 : decode cX0_advance 53 = .ok (.aload_n 0, 1) := by decide +kernel
theorem dX0_advance_54 : decode cX0_advance 54 = .ok (.getfield 32, 3) := by decide +kernel
theorem dX0_advance_57 : decode cX0_advance 57 = .ok (.iload_n 3, 1) := by decide +kernel
theorem dX0_advance_58 : decode cX0_advance 58 = .ok (.iaload, 1) := by decide +kernel
theorem dX0_advance_59 : decode cX0_advance 59 = .ok (.aload_n 0, 1) := by decide +kernel
theorem dX0_advance_60 : decode cX0_advance 60 = .ok (.getfield 65, 3) := by decide +kernel
theorem dX0_advance_63 : decode cX0_advance 63 = .ok (.if_icmp .gt 11, 3) := by decide +kernel
theorem dX0_advance_66 : decode cX0_advance 66 = .ok (.aload_n 0, 1) := by decide +kernel
theorem dX0_advance_67 : decode cX0_advance 67 = .ok (.iload_n 3, 1) := by decide +kernel
theorem dX0_advance_68 : decode cX0_advance 68 = .ok (.invokevirtual 154, 3) := by decide +kernel
theorem dX0_advance_71 : decode cX0_advance 71 = .ok (.iinc 2 1, 3) := by decide +kernel
theorem dX0_advance_74 : decode cX0_advance 74 = .ok (.iinc 3 1, 3) := by decide +kernel
theorem dX0_advance_77 : decode cX0_advance 77 = .ok (.goto (-42), 3) := by decide +kernel
theorem dX0_advance_80 : decode cX0_advance 80 = .ok (.iload_n 2, 1) := by decide +kernel
theorem dX0_advance_81 : decode cX0_advance 81 = .ok (.ireturn, 1) := by decide +kernel
theorem dX0_time_0 : decode cX0_time 0 = .ok (.aload_n 0, 1) := by decide +kernel
theorem dX0_time_1 : decode cX0_time 1 = .ok (.getfield 65, 3) := by decide +kernel
theorem dX0_time_4 : decode cX0_time 4 = .ok (.ireturn, 1) := by decide +kernel
theorem dX0_lots_0 : decode cX0_lots 0 = .ok (.aload_n 0, 1) := by decide +kernel
theorem dX0_lots_1 : decode cX0_lots 1 = .ok (.getfield 48, 3) := by decide +kernel
theorem dX0_lots_4 : decode cX0_lots 4 = .ok (.ireturn, 1) := by decide +kernel
theorem dX0_wafers_0 : decode cX0_wafers 0 = .ok (.aload_n 0, 1) := by decide +kernel
theorem dX0_wafers_1 : decode cX0_wafers 1 = .ok (.getfield 62, 3) := by decide +kernel
theorem dX0_wafers_4 : decode cX0_wafers 4 = .ok (.ireturn, 1) := by decide +kernel
set_option maxRecDepth 20000 in
theorem ggX0_state_X0_checkLot : GoodIn wsX0_state wsX0_checkLot := goodIn_ca (goodIn_r _ [6, 7, 8, 9, 10, 11, 5, 12, 13, 14, 15, 16, 17, 18, 19, 20, 21, 22, 23, 24, 25, 26, 27, 28, 29, 30, 31] (by decide +kernel) (by decide +kernel)) (goodIn_sub (fun _ h => List.mem_cons_of_mem _ (List.mem_append_right _ h)) (by decide +kernel))
set_option maxRecDepth 20000 in
theorem gX0_state_X0_checkLot : GoodIn wsX0_state (wsV RX0 99 RX0 yX0_checkLot wsX0_checkLot) := goodIn_app (goodIn_of _ (by decide +kernel)) ggX0_state_X0_checkLot
theorem dX0_state_0 : decode cX0_state 0 = .ok (.aload_n 0, 1) := by decide +kernel
theorem dX0_state_1 : decode cX0_state 1 = .ok (.iload_n 1, 1) := by decide +kernel
theorem dX0_state_2 : decode cX0_state 2 = .ok (.invokevirtual 99, 3) := by decide +kernel
theorem dX0_state_5 : decode cX0_state 5 = .ok (.aload_n 0, 1) := by decide +kernel
theorem dX0_state_6 : decode cX0_state 6 = .ok (.getfield 26, 3) := by decide +kernel
theorem dX0_state_9 : decode cX0_state 9 = .ok (.iload_n 1, 1) := by decide +kernel
theorem dX0_state_10 : decode cX0_state 10 = .ok (.iaload, 1) := by decide +kernel
theorem dX0_state_11 : decode cX0_state 11 = .ok (.ireturn, 1) := by decide +kernel
set_option maxRecDepth 20000 in
theorem ggX0_stepOf_X0_checkLot : GoodIn wsX0_stepOf wsX0_checkLot := goodIn_ca (goodIn_r _ [6, 7, 8, 9, 10, 11, 5, 12, 13, 14, 15, 16, 17, 18, 19, 20, 21, 22, 23, 24, 25, 26, 27, 28, 29, 30, 31] (by decide +kernel) (by decide +kernel)) (goodIn_sub (fun _ h => List.mem_cons_of_mem _ (List.mem_append_right _ h)) (by decide +kernel))
set_option maxRecDepth 20000 in
theorem gX0_stepOf_X0_checkLot : GoodIn wsX0_stepOf (wsV RX0 99 RX0 yX0_checkLot wsX0_checkLot) := goodIn_app (goodIn_of _ (by decide +kernel)) ggX0_stepOf_X0_checkLot
theorem dX0_stepOf_0 : decode cX0_stepOf 0 = .ok (.aload_n 0, 1) := by decide +kernel
theorem dX0_stepOf_1 : decode cX0_stepOf 1 = .ok (.iload_n 1, 1) := by decide +kernel
theorem dX0_stepOf_2 : decode cX0_stepOf 2 = .ok (.invokevirtual 99, 3) := by decide +kernel
theorem dX0_stepOf_5 : decode cX0_stepOf 5 = .ok (.aload_n 0, 1) := by decide +kernel
theorem dX0_stepOf_6 : decode cX0_stepOf 6 = .ok (.getfield 29, 3) := by decide +kernel
theorem dX0_stepOf_9 : decode cX0_stepOf 9 = .ok (.iload_n 1, 1) := by decide +kernel
theorem dX0_stepOf_10 : decode cX0_stepOf 10 = .ok (.iaload, 1) := by decide +kernel
theorem dX0_stepOf_11 : decode cX0_stepOf 11 = .ok (.ireturn, 1) := by decide +kernel
set_option maxRecDepth 20000 in
theorem ggX0_size_X0_checkLot : GoodIn wsX0_size wsX0_checkLot := goodIn_ca (goodIn_r _ [6, 7, 8, 9, 10, 11, 5, 12, 13, 14, 15, 16, 17, 18, 19, 20, 21, 22, 23, 24, 25, 26, 27, 28, 29, 30, 31] (by decide +kernel) (by decide +kernel)) (goodIn_sub (fun _ h => List.mem_cons_of_mem _ (List.mem_append_right _ h)) (by decide +kernel))
set_option maxRecDepth 20000 in
theorem gX0_size_X0_checkLot : GoodIn wsX0_size (wsV RX0 99 RX0 yX0_checkLot wsX0_checkLot) := goodIn_app (goodIn_of _ (by decide +kernel)) ggX0_size_X0_checkLot
theorem dX0_size_0 : decode cX0_size 0 = .ok (.aload_n 0, 1) := by decide +kernel
theorem dX0_size_1 : decode cX0_size 1 = .ok (.iload_n 1, 1) := by decide +kernel
theorem dX0_size_2 : decode cX0_size 2 = .ok (.invokevirtual 99, 3) := by decide +kernel
theorem dX0_size_5 : decode cX0_size 5 = .ok (.aload_n 0, 1) := by decide +kernel
theorem dX0_size_6 : decode cX0_size 6 = .ok (.getfield 45, 3) := by decide +kernel
theorem dX0_size_9 : decode cX0_size 9 = .ok (.iload_n 1, 1) := by decide +kernel
theorem dX0_size_10 : decode cX0_size 10 = .ok (.iaload, 1) := by decide +kernel
theorem dX0_size_11 : decode cX0_size 11 = .ok (.ireturn, 1) := by decide +kernel
set_option maxRecDepth 20000 in
theorem ggX0_slack_X0_checkLot : GoodIn wsX0_slack wsX0_checkLot := goodIn_ca (goodIn_r _ [5, 6, 7, 8, 9, 10, 4, 11, 12, 29, 30, 31, 32, 33, 34, 35, 36, 37, 38, 39, 40, 41, 42, 43, 44, 45, 46] (by decide +kernel) (by decide +kernel)) (goodIn_sub (fun _ h => List.mem_cons_of_mem _ (List.mem_append_right _ h)) (by decide +kernel))
set_option maxRecDepth 20000 in
theorem gX0_slack_X0_checkLot : GoodIn wsX0_slack (wsV RX0 99 RX0 yX0_checkLot wsX0_checkLot) := goodIn_app (goodIn_of _ (by decide +kernel)) ggX0_slack_X0_checkLot
set_option maxRecDepth 20000 in
theorem ggX0_slack_X0_waitingLeft : GoodIn wsX0_slack wsX0_waitingLeft := goodIn_r _ [16, 17, 18, 19, 20, 21, 22, 23, 24, 25, 26, 4, 27, 28, 29, 30, 31, 32, 33, 34, 35, 36, 37, 38, 39, 40, 41, 42, 43, 44, 45, 46] (by decide +kernel) (by decide +kernel)
set_option maxRecDepth 20000 in
theorem gX0_slack_X0_waitingLeft : GoodIn wsX0_slack (wsV RX0 157 RX0 yX0_waitingLeft wsX0_waitingLeft) := goodIn_app (goodIn_of _ (by decide +kernel)) ggX0_slack_X0_waitingLeft
theorem dX0_slack_0 : decode cX0_slack 0 = .ok (.aload_n 0, 1) := by decide +kernel
theorem dX0_slack_1 : decode cX0_slack 1 = .ok (.iload_n 1, 1) := by decide +kernel
theorem dX0_slack_2 : decode cX0_slack 2 = .ok (.invokevirtual 99, 3) := by decide +kernel
theorem dX0_slack_5 : decode cX0_slack 5 = .ok (.aload_n 0, 1) := by decide +kernel
theorem dX0_slack_6 : decode cX0_slack 6 = .ok (.iload_n 1, 1) := by decide +kernel
theorem dX0_slack_7 : decode cX0_slack 7 = .ok (.invokevirtual 157, 3) := by decide +kernel
theorem dX0_slack_10 : decode cX0_slack 10 = .ok (.ireturn, 1) := by decide +kernel
set_option maxRecDepth 20000 in
theorem ggX0_isLate_X0_checkLot : GoodIn wsX0_isLate wsX0_checkLot := goodIn_ca (goodIn_r _ [5, 6, 7, 8, 9, 10, 4, 11, 12, 29, 30, 31, 32, 33, 34, 35, 36, 37, 38, 39, 40, 41, 42, 43, 44, 45, 46] (by decide +kernel) (by decide +kernel)) (goodIn_sub (fun _ h => List.mem_cons_of_mem _ (List.mem_append_right _ h)) (by decide +kernel))
set_option maxRecDepth 20000 in
theorem gX0_isLate_X0_checkLot : GoodIn wsX0_isLate (wsV RX0 99 RX0 yX0_checkLot wsX0_checkLot) := goodIn_app (goodIn_of _ (by decide +kernel)) ggX0_isLate_X0_checkLot
set_option maxRecDepth 20000 in
theorem ggX0_isLate_X0_waitingLeft : GoodIn wsX0_isLate wsX0_waitingLeft := goodIn_r _ [16, 17, 18, 19, 20, 21, 22, 23, 24, 25, 26, 4, 27, 28, 29, 30, 31, 32, 33, 34, 35, 36, 37, 38, 39, 40, 41, 42, 43, 44, 45, 46] (by decide +kernel) (by decide +kernel)
set_option maxRecDepth 20000 in
theorem gX0_isLate_X0_waitingLeft : GoodIn wsX0_isLate (wsV RX0 157 RX0 yX0_waitingLeft wsX0_waitingLeft) := goodIn_app (goodIn_of _ (by decide +kernel)) ggX0_isLate_X0_waitingLeft
theorem dX0_isLate_0 : decode cX0_isLate 0 = .ok (.aload_n 0, 1) := by decide +kernel
theorem dX0_isLate_1 : decode cX0_isLate 1 = .ok (.iload_n 1, 1) := by decide +kernel
theorem dX0_isLate_2 : decode cX0_isLate 2 = .ok (.invokevirtual 99, 3) := by decide +kernel
theorem dX0_isLate_5 : decode cX0_isLate 5 = .ok (.aload_n 0, 1) := by decide +kernel
theorem dX0_isLate_6 : decode cX0_isLate 6 = .ok (.iload_n 1, 1) := by decide +kernel
theorem dX0_isLate_7 : decode cX0_isLate 7 = .ok (.invokevirtual 157, 3) := by decide +kernel
theorem dX0_isLate_10 : decode cX0_isLate 10 = .ok (.ifCond .ge 7, 3) := by decide +kernel
theorem dX0_isLate_13 : decode cX0_isLate 13 = .ok (.iconst 1, 1) := by decide +kernel
theorem dX0_isLate_14 : decode cX0_isLate 14 = .ok (.goto 4, 3) := by decide +kernel
theorem dX0_isLate_17 : decode cX0_isLate 17 = .ok (.iconst 0, 1) := by decide +kernel
theorem dX0_isLate_18 : decode cX0_isLate 18 = .ok (.ireturn, 1) := by decide +kernel
set_option maxRecDepth 20000 in
theorem ggX0_reworks_X0_checkLot : GoodIn wsX0_reworks wsX0_checkLot := goodIn_ca (goodIn_r _ [6, 7, 8, 9, 10, 11, 5, 12, 13, 14, 15, 16, 17, 18, 19, 20, 21, 22, 23, 24, 25, 26, 27, 28, 29, 30, 31] (by decide +kernel) (by decide +kernel)) (goodIn_sub (fun _ h => List.mem_cons_of_mem _ (List.mem_append_right _ h)) (by decide +kernel))
set_option maxRecDepth 20000 in
theorem gX0_reworks_X0_checkLot : GoodIn wsX0_reworks (wsV RX0 99 RX0 yX0_checkLot wsX0_checkLot) := goodIn_app (goodIn_of _ (by decide +kernel)) ggX0_reworks_X0_checkLot
theorem dX0_reworks_0 : decode cX0_reworks 0 = .ok (.aload_n 0, 1) := by decide +kernel
theorem dX0_reworks_1 : decode cX0_reworks 1 = .ok (.iload_n 1, 1) := by decide +kernel
theorem dX0_reworks_2 : decode cX0_reworks 2 = .ok (.invokevirtual 99, 3) := by decide +kernel
theorem dX0_reworks_5 : decode cX0_reworks 5 = .ok (.aload_n 0, 1) := by decide +kernel
theorem dX0_reworks_6 : decode cX0_reworks 6 = .ok (.getfield 39, 3) := by decide +kernel
theorem dX0_reworks_9 : decode cX0_reworks 9 = .ok (.iload_n 1, 1) := by decide +kernel
theorem dX0_reworks_10 : decode cX0_reworks 10 = .ok (.iaload, 1) := by decide +kernel
theorem dX0_reworks_11 : decode cX0_reworks 11 = .ok (.ireturn, 1) := by decide +kernel
set_option maxRecDepth 20000 in
theorem ggX0_nextFor_X0_checkTool : GoodIn wsX0_nextFor wsX0_checkTool := goodIn_ca (goodIn_r _ [6, 7, 8, 9, 10, 5, 11] (by decide +kernel) (by decide +kernel)) (goodIn_sub (fun _ h => List.mem_cons_of_mem _ (List.mem_append_right _ h)) (by decide +kernel))
set_option maxRecDepth 20000 in
theorem gX0_nextFor_X0_checkTool : GoodIn wsX0_nextFor (va_wsS RX0 68 yX0_checkTool wsX0_checkTool) := goodIn_app (goodIn_of _ (by decide +kernel)) ggX0_nextFor_X0_checkTool
set_option maxRecDepth 20000 in
theorem ggX0_nextFor_X0_isBusy : GoodIn wsX0_nextFor wsX0_isBusy := goodIn_r _ [15, 2, 16, 17, 18, 19, 5, 20, 21, 22, 23, 24, 25, 26, 27, 45, 46, 47, 48, 49, 50, 51, 52, 53, 54, 55, 56, 57, 58, 59, 60, 61, 62] (by decide +kernel) (by decide +kernel)
set_option maxRecDepth 20000 in
theorem gX0_nextFor_X0_isBusy : GoodIn wsX0_nextFor (wsV RX0 109 RX0 yX0_isBusy wsX0_isBusy) := goodIn_app (goodIn_of _ (by decide +kernel)) ggX0_nextFor_X0_isBusy
set_option maxRecDepth 20000 in
theorem ggX0_nextFor_X0_isReady : GoodIn wsX0_nextFor wsX0_isReady := goodIn_r _ [31, 32, 33, 34, 5, 35, 16, 36, 37, 38, 39, 40, 21, 1, 41, 42, 43, 44, 23, 24, 25, 26, 27, 45, 46, 47, 48, 49, 50, 51, 52, 53, 54, 55, 56, 57, 58, 59, 60, 61, 62] (by decide +kernel) (by decide +kernel)
set_option maxRecDepth 20000 in
theorem gX0_nextFor_X0_isReady : GoodIn wsX0_nextFor (wsV RX0 102 RX0 yX0_isReady wsX0_isReady) := goodIn_app (goodIn_of _ (by decide +kernel)) ggX0_nextFor_X0_isReady
set_option maxRecDepth 20000 in
theorem ggX0_nextFor_X0_usesTool : GoodIn wsX0_nextFor wsX0_usesTool := goodIn_r _ [20, 21, 22, 23, 24, 25, 5, 26, 27, 45, 46, 47, 48, 49, 50, 51, 52, 53, 54, 55, 56, 57, 58, 59, 60, 61, 62] (by decide +kernel) (by decide +kernel)
set_option maxRecDepth 20000 in
theorem gX0_nextFor_X0_usesTool : GoodIn wsX0_nextFor (wsV RX0 162 RX0 yX0_usesTool wsX0_usesTool) := goodIn_app (goodIn_of _ (by decide +kernel)) ggX0_nextFor_X0_usesTool
set_option maxRecDepth 20000 in
theorem ggX0_nextFor_X0_waitingLeft : GoodIn wsX0_nextFor wsX0_waitingLeft := goodIn_r _ [40, 21, 16, 1, 41, 42, 43, 44, 23, 24, 25, 5, 26, 27, 45, 46, 47, 48, 49, 50, 51, 52, 53, 54, 55, 56, 57, 58, 59, 60, 61, 62] (by decide +kernel) (by decide +kernel)
set_option maxRecDepth 20000 in
theorem gX0_nextFor_X0_waitingLeft : GoodIn wsX0_nextFor (wsV RX0 157 RX0 yX0_waitingLeft wsX0_waitingLeft) := goodIn_app (goodIn_of _ (by decide +kernel)) ggX0_nextFor_X0_waitingLeft
theorem dX0_nextFor_0 : decode cX0_nextFor 0 = .ok (.iload_n 1, 1) := by decide +kernel
theorem dX0_nextFor_1 : decode cX0_nextFor 1 = .ok (.invokestatic 68, 3) := by decide +kernel
theorem dX0_nextFor_4 : decode cX0_nextFor 4 = .ok (.aload_n 0, 1) := by decide +kernel
theorem dX0_nextFor_5 : decode cX0_nextFor 5 = .ok (.iload_n 1, 1) := by decide +kernel
theorem dX0_nextFor_6 : decode cX0_nextFor 6 = .ok (.invokevirtual 109, 3) := by decide +kernel
theorem dX0_nextFor_9 : decode cX0_nextFor 9 = .ok (.ifCond .eq 5, 3) := by decide +kernel
theorem dX0_nextFor_12 : decode cX0_nextFor 12 = .ok (.iconst (-1), 1) := by decide +kernel
theorem dX0_nextFor_13 : decode cX0_nextFor 13 = .ok (.ireturn, 1) := by decide +kernel
theorem dX0_nextFor_14 : decode cX0_nextFor 14 = .ok (.iconst (-1), 1) := by decide +kernel
theorem dX0_nextFor_15 : decode cX0_nextFor 15 = .ok (.istore_n 2, 1) := by decide +kernel
theorem dX0_nextFor_16 : decode cX0_nextFor 16 = .ok (.ldc 161, 2) := by decide +kernel
theorem dX0_nextFor_18 : decode cX0_nextFor 18 = .ok (.istore_n 3, 1) := by decide +kernel
theorem dX0_nextFor_19 : decode cX0_nextFor 19 = .ok (.iconst 0, 1) := by decide +kernel
theorem dX0_nextFor_20 : decode cX0_nextFor 20 = .ok (.istore 4, 2) := by decide +kernel
theorem dX0_nextFor_22 : decode cX0_nextFor 22 = .ok (.iload 4, 2) := by decide +kernel
theorem dX0_nextFor_24 : decode cX0_nextFor 24 = .ok (.aload_n 0, 1) := by decide +kernel
theorem dX0_nextFor_25 : decode cX0_nextFor 25 = .ok (.getfield 48, 3) := by decide +kernel
theorem dX0_nextFor_28 : decode cX0_nextFor 28 = .ok (.if_icmp .ge 48, 3) := by decide +kernel
theorem dX0_nextFor_31 : decode cX0_nextFor 31 = .ok (.aload_n 0, 1) := by decide +kernel
theorem dX0_nextFor_32 : decode cX0_nextFor 32 = .ok (.iload 4, 2) := by decide +kernel
theorem dX0_nextFor_34 : decode cX0_nextFor 34 = .ok (.invokevirtual 102, 3) := by decide +kernel
theorem dX0_nextFor_37 : decode cX0_nextFor 37 = .ok (.ifCond .eq 33, 3) := by decide +kernel
theorem dX0_nextFor_40 : decode cX0_nextFor 40 = .ok (.aload_n 0, 1) := by decide +kernel
theorem dX0_nextFor_41 : decode cX0_nextFor 41 = .ok (.iload 4, 2) := by decide +kernel
theorem dX0_nextFor_43 : decode cX0_nextFor 43 = .ok (.iload_n 1, 1) := by decide +kernel
theorem dX0_nextFor_44 : decode cX0_nextFor 44 = .ok (.invokevirtual 162, 3) := by decide +kernel
theorem dX0_nextFor_47 : decode cX0_nextFor 47 = .ok (.ifCond .eq 23, 3) := by decide +kernel
theorem dX0_nextFor_50 : decode cX0_nextFor 50 = .ok (.aload_n 0, 1) := by decide +kernel
theorem dX0_nextFor_51 : decode cX0_nextFor 51 = .ok (.iload 4, 2) := by decide +kernel
theorem dX0_nextFor_53 : decode cX0_nextFor 53 = .ok (.invokevirtual 157, 3) := by decide +kernel
theorem dX0_nextFor_56 : decode cX0_nextFor 56 = .ok (.iload_n 3, 1) := by decide +kernel
theorem dX0_nextFor_57 : decode cX0_nextFor 57 = .ok (.if_icmp .ge 13, 3) := by decide +kernel
theorem dX0_nextFor_60 : decode cX0_nextFor 60 = .ok (.iload 4, 2) := by decide +kernel
theorem dX0_nextFor_62 : decode cX0_nextFor 62 = .ok (.istore_n 2, 1) := by decide +kernel
theorem dX0_nextFor_63 : decode cX0_nextFor 63 = .ok (.aload_n 0, 1) := by decide +kernel
theorem dX0_nextFor_64 : decode cX0_nextFor 64 = .ok (.iload 4, 2) := by decide +kernel
theorem dX0_nextFor_66 : decode cX0_nextFor 66 = .ok (.invokevirtual 157, 3) := by decide +kernel
theorem dX0_nextFor_69 : decode cX0_nextFor 69 = .ok (.istore_n 3, 1) := by decide +kernel
theorem dX0_nextFor_70 : decode cX0_nextFor 70 = .ok (.iinc 4 1, 3) := by decide +kernel
theorem dX0_nextFor_73 : decode cX0_nextFor 73 = .ok (.goto (-51), 3) := by decide +kernel
theorem dX0_nextFor_76 : decode cX0_nextFor 76 = .ok (.iload_n 2, 1) := by decide +kernel
theorem dX0_nextFor_77 : decode cX0_nextFor 77 = .ok (.ireturn, 1) := by decide +kernel
set_option maxRecDepth 20000 in
theorem ggX0_wafersAt_X0_checkStep : GoodIn wsX0_wafersAt wsX0_checkStep := goodIn_ca (goodIn_r _ [8, 9, 10, 11, 12, 13, 7, 14, 15, 16, 17, 18, 19, 20, 21, 22, 23, 24, 25, 26, 27, 28, 29, 30, 31, 32, 33] (by decide +kernel) (by decide +kernel)) (goodIn_sub (fun _ h => List.mem_cons_of_mem _ (List.mem_append_right _ h)) (by decide +kernel))
set_option maxRecDepth 20000 in
theorem gX0_wafersAt_X0_checkStep : GoodIn wsX0_wafersAt (wsV RX0 166 RX0 yX0_checkStep wsX0_checkStep) := goodIn_app (goodIn_of _ (by decide +kernel)) ggX0_wafersAt_X0_checkStep
theorem dX0_wafersAt_0 : decode cX0_wafersAt 0 = .ok (.aload_n 0, 1) := by decide +kernel
theorem dX0_wafersAt_1 : decode cX0_wafersAt 1 = .ok (.iload_n 1, 1) := by decide +kernel
theorem dX0_wafersAt_2 : decode cX0_wafersAt 2 = .ok (.invokevirtual 166, 3) := by decide +kernel
theorem dX0_wafersAt_5 : decode cX0_wafersAt 5 = .ok (.iconst 0, 1) := by decide +kernel
theorem dX0_wafersAt_6 : decode cX0_wafersAt 6 = .ok (.istore_n 2, 1) := by decide +kernel
theorem dX0_wafersAt_7 : decode cX0_wafersAt 7 = .ok (.iconst 0, 1) := by decide +kernel
theorem dX0_wafersAt_8 : decode cX0_wafersAt 8 = .ok (.istore_n 3, 1) := by decide +kernel
theorem dX0_wafersAt_9 : decode cX0_wafersAt 9 = .ok (.iload_n 3, 1) := by decide +kernel
theorem dX0_wafersAt_10 : decode cX0_wafersAt 10 = .ok (.aload_n 0, 1) := by decide +kernel
theorem dX0_wafersAt_11 : decode cX0_wafersAt 11 = .ok (.getfield 48, 3) := by decide +kernel
theorem dX0_wafersAt_14 : decode cX0_wafersAt 14 = .ok (.if_icmp .ge 28, 3) := by decide +kernel
theorem dX0_wafersAt_17 : decode cX0_wafersAt 17 = .ok (.aload_n 0, 1) := by decide +kernel
theorem dX0_wafersAt_18 : decode cX0_wafersAt 18 = .ok (.getfield 29, 3) := by decide +kernel
theorem dX0_wafersAt_21 : decode cX0_wafersAt 21 = .ok (.iload_n 3, 1) := by decide +kernel
theorem dX0_wafersAt_22 : decode cX0_wafersAt 22 = .ok (.iaload, 1) := by decide +kernel
theorem dX0_wafersAt_23 : decode cX0_wafersAt 23 = .ok (.iload_n 1, 1) := by decide +kernel
theorem dX0_wafersAt_24 : decode cX0_wafersAt 24 = .ok (.if_icmp .ne 12, 3) := by decide +kernel
theorem dX0_wafersAt_27 : decode cX0_wafersAt 27 = .ok (.iload_n 2, 1) := by decide +kernel
theorem dX0_wafersAt_28 : decode cX0_wafersAt 28 = .ok (.aload_n 0, 1) := by decide +kernel
theorem dX0_wafersAt_29 : decode cX0_wafersAt 29 = .ok (.getfield 45, 3) := by decide +kernel
theorem dX0_wafersAt_32 : decode cX0_wafersAt 32 = .ok (.iload_n 3, 1) := by decide +kernel
theorem dX0_wafersAt_33 : decode cX0_wafersAt 33 = .ok (.iaload, 1) := by decide +kernel
theorem dX0_wafersAt_34 : decode cX0_wafersAt 34 = .ok (.iadd, 1) := by decide +kernel
theorem dX0_wafersAt_35 : decode cX0_wafersAt 35 = .ok (.istore_n 2, 1) := by decide +kernel
theorem dX0_wafersAt_36 : decode cX0_wafersAt 36 = .ok (.iinc 3 1, 3) := by decide +kernel
theorem dX0_wafersAt_39 : decode cX0_wafersAt 39 = .ok (.goto (-30), 3) := by decide +kernel
theorem dX0_wafersAt_42 : decode cX0_wafersAt 42 = .ok (.iload_n 2, 1) := by decide +kernel
theorem dX0_wafersAt_43 : decode cX0_wafersAt 43 = .ok (.ireturn, 1) := by decide +kernel
set_option maxRecDepth 20000 in
theorem ggX0_wafersAtByWafers_X0_checkStep : GoodIn wsX0_wafersAtByWafers wsX0_checkStep := goodIn_ca (goodIn_r _ [8, 9, 10, 11, 12, 13, 7, 14, 15, 21, 22, 23, 24, 25, 26, 27, 28, 29, 30, 31, 32, 33, 34, 35, 36, 37, 38] (by decide +kernel) (by decide +kernel)) (goodIn_sub (fun _ h => List.mem_cons_of_mem _ (List.mem_append_right _ h)) (by decide +kernel))
set_option maxRecDepth 20000 in
theorem gX0_wafersAtByWafers_X0_checkStep : GoodIn wsX0_wafersAtByWafers (wsV RX0 166 RX0 yX0_checkStep wsX0_checkStep) := goodIn_app (goodIn_of _ (by decide +kernel)) ggX0_wafersAtByWafers_X0_checkStep
set_option maxRecDepth 20000 in
theorem ggX0_wafersAtByWafers_X0_isLot : GoodIn wsX0_wafersAtByWafers wsX0_isLot := goodIn_r _ [19, 20, 21, 22, 23, 24, 25, 26, 27, 28, 29, 30, 31, 32, 33, 34, 35, 36, 37, 38] (by decide +kernel) (by decide +kernel)
set_option maxRecDepth 20000 in
theorem gX0_wafersAtByWafers_X0_isLot : GoodIn wsX0_wafersAtByWafers (wsV RX0 147 RX0 yX0_isLot wsX0_isLot) := goodIn_app (goodIn_of _ (by decide +kernel)) ggX0_wafersAtByWafers_X0_isLot
theorem dX0_wafersAtByWafers_0 : decode cX0_wafersAtByWafers 0 = .ok (.aload_n 0, 1) := by decide +kernel
theorem dX0_wafersAtByWafers_1 : decode cX0_wafersAtByWafers 1 = .ok (.iload_n 1, 1) := by decide +kernel
theorem dX0_wafersAtByWafers_2 : decode cX0_wafersAtByWafers 2 = .ok (.invokevirtual 166, 3) := by decide +kernel
theorem dX0_wafersAtByWafers_5 : decode cX0_wafersAtByWafers 5 = .ok (.iconst 0, 1) := by decide +kernel
theorem dX0_wafersAtByWafers_6 : decode cX0_wafersAtByWafers 6 = .ok (.istore_n 2, 1) := by decide +kernel
theorem dX0_wafersAtByWafers_7 : decode cX0_wafersAtByWafers 7 = .ok (.iconst 0, 1) := by decide +kernel
theorem dX0_wafersAtByWafers_8 : decode cX0_wafersAtByWafers 8 = .ok (.istore_n 3, 1) := by decide +kernel
theorem dX0_wafersAtByWafers_9 : decode cX0_wafersAtByWafers 9 = .ok (.iload_n 3, 1) := by decide +kernel
theorem dX0_wafersAtByWafers_10 : decode cX0_wafersAtByWafers 10 = .ok (.aload_n 0, 1) := by decide +kernel
theorem dX0_wafersAtByWafers_11 : decode cX0_wafersAtByWafers 11 = .ok (.getfield 62, 3) := by decide +kernel
theorem dX0_wafersAtByWafers_14 : decode cX0_wafersAtByWafers 14 = .ok (.if_icmp .ge 40, 3) := by decide +kernel
theorem dX0_wafersAtByWafers_17 : decode cX0_wafersAtByWafers 17 = .ok (.aload_n 0, 1) := by decide +kernel
theorem dX0_wafersAtByWafers_18 : decode cX0_wafersAtByWafers 18 = .ok (.getfield 51, 3) := by decide +kernel
theorem dX0_wafersAtByWafers_21 : decode cX0_wafersAtByWafers 21 = .ok (.iload_n 3, 1) := by decide +kernel
theorem dX0_wafersAtByWafers_22 : decode cX0_wafersAtByWafers 22 = .ok (.iaload, 1) := by decide +kernel
theorem dX0_wafersAtByWafers_23 : decode cX0_wafersAtByWafers 23 = .ok (.istore 4, 2) := by decide +kernel
theorem dX0_wafersAtByWafers_25 : decode cX0_wafersAtByWafers 25 = .ok (.aload_n 0, 1) := by decide +kernel
theorem dX0_wafersAtByWafers_26 : decode cX0_wafersAtByWafers 26 = .ok (.iload 4, 2) := by decide +kernel
theorem dX0_wafersAtByWafers_28 : decode cX0_wafersAtByWafers 28 = .ok (.invokevirtual 147, 3) := by decide +kernel
theorem dX0_wafersAtByWafers_31 : decode cX0_wafersAtByWafers 31 = .ok (.ifCond .eq 17, 3) := by decide +kernel
theorem dX0_wafersAtByWafers_34 : decode cX0_wafersAtByWafers 34 = .ok (.aload_n 0, 1) := by decide +kernel
theorem dX0_wafersAtByWafers_35 : decode cX0_wafersAtByWafers 35 = .ok (.getfield 29, 3) := by decide +kernel
theorem dX0_wafersAtByWafers_38 : decode cX0_wafersAtByWafers 38 = .ok (.iload 4, 2) := by decide +kernel
theorem dX0_wafersAtByWafers_40 : decode cX0_wafersAtByWafers 40 = .ok (.iaload, 1) := by decide +kernel
theorem dX0_wafersAtByWafers_41 : decode cX0_wafersAtByWafers 41 = .ok (.iload_n 1, 1) := by decide +kernel
theorem dX0_wafersAtByWafers_42 : decode cX0_wafersAtByWafers 42 = .ok (.if_icmp .ne 6, 3) := by decide +kernel
theorem dX0_wafersAtByWafers_45 : decode cX0_wafersAtByWafers 45 = .ok (.iinc 2 1, 3) := by decide +kernel
theorem dX0_wafersAtByWafers_48 : decode cX0_wafersAtByWafers 48 = .ok (.iinc 3 1, 3) := by decide +kernel
theorem dX0_wafersAtByWafers_51 : decode cX0_wafersAtByWafers 51 = .ok (.goto (-42), 3) := by decide +kernel
theorem dX0_wafersAtByWafers_54 : decode cX0_wafersAtByWafers 54 = .ok (.iload_n 2, 1) := by decide +kernel
theorem dX0_wafersAtByWafers_55 : decode cX0_wafersAtByWafers 55 = .ok (.ireturn, 1) := by decide +kernel
set_option maxRecDepth 20000 in
theorem ggX0_lotOf_X0_checkWafer : GoodIn wsX0_lotOf wsX0_checkWafer := goodIn_ca (goodIn_r _ [6, 7, 8, 9, 10, 11, 12, 13, 14, 15, 16, 17, 18, 19, 20, 21, 22, 23, 24, 25, 26, 27] (by decide +kernel) (by decide +kernel)) (goodIn_sub (fun _ h => List.mem_cons_of_mem _ (List.mem_append_right _ h)) (by decide +kernel))
set_option maxRecDepth 20000 in
theorem gX0_lotOf_X0_checkWafer : GoodIn wsX0_lotOf (wsV RX0 144 RX0 yX0_checkWafer wsX0_checkWafer) := goodIn_app (goodIn_of _ (by decide +kernel)) ggX0_lotOf_X0_checkWafer
theorem dX0_lotOf_0 : decode cX0_lotOf 0 = .ok (.aload_n 0, 1) := by decide +kernel
theorem dX0_lotOf_1 : decode cX0_lotOf 1 = .ok (.iload_n 1, 1) := by decide +kernel
theorem dX0_lotOf_2 : decode cX0_lotOf 2 = .ok (.invokevirtual 144, 3) := by decide +kernel
theorem dX0_lotOf_5 : decode cX0_lotOf 5 = .ok (.aload_n 0, 1) := by decide +kernel
theorem dX0_lotOf_6 : decode cX0_lotOf 6 = .ok (.getfield 51, 3) := by decide +kernel
theorem dX0_lotOf_9 : decode cX0_lotOf 9 = .ok (.iload_n 1, 1) := by decide +kernel
theorem dX0_lotOf_10 : decode cX0_lotOf 10 = .ok (.iaload, 1) := by decide +kernel
theorem dX0_lotOf_11 : decode cX0_lotOf 11 = .ok (.ireturn, 1) := by decide +kernel
set_option maxRecDepth 20000 in
theorem ggX0_parentOf_X0_checkLot : GoodIn wsX0_parentOf wsX0_checkLot := goodIn_ca (goodIn_r _ [6, 7, 8, 9, 10, 11, 5, 12, 13, 14, 15, 16, 17, 18, 19, 20, 21, 22, 23, 24, 25, 26, 27, 28, 29, 30, 31] (by decide +kernel) (by decide +kernel)) (goodIn_sub (fun _ h => List.mem_cons_of_mem _ (List.mem_append_right _ h)) (by decide +kernel))
set_option maxRecDepth 20000 in
theorem gX0_parentOf_X0_checkLot : GoodIn wsX0_parentOf (wsV RX0 99 RX0 yX0_checkLot wsX0_checkLot) := goodIn_app (goodIn_of _ (by decide +kernel)) ggX0_parentOf_X0_checkLot
theorem dX0_parentOf_0 : decode cX0_parentOf 0 = .ok (.aload_n 0, 1) := by decide +kernel
theorem dX0_parentOf_1 : decode cX0_parentOf 1 = .ok (.iload_n 1, 1) := by decide +kernel
theorem dX0_parentOf_2 : decode cX0_parentOf 2 = .ok (.invokevirtual 99, 3) := by decide +kernel
theorem dX0_parentOf_5 : decode cX0_parentOf 5 = .ok (.aload_n 0, 1) := by decide +kernel
theorem dX0_parentOf_6 : decode cX0_parentOf 6 = .ok (.getfield 42, 3) := by decide +kernel
theorem dX0_parentOf_9 : decode cX0_parentOf 9 = .ok (.iload_n 1, 1) := by decide +kernel
theorem dX0_parentOf_10 : decode cX0_parentOf 10 = .ok (.iaload, 1) := by decide +kernel
theorem dX0_parentOf_11 : decode cX0_parentOf 11 = .ok (.ireturn, 1) := by decide +kernel
set_option maxRecDepth 20000 in
theorem ggX0_common_X0_checkLot : GoodIn wsX0_common wsX0_checkLot := goodIn_ca (goodIn_r _ [5, 6, 7, 8, 9, 10, 4, 11, 12, 18, 19, 20, 21, 22, 23, 24, 25, 26, 27, 28, 29, 30, 31, 32, 33, 34, 35] (by decide +kernel) (by decide +kernel)) (goodIn_sub (fun _ h => List.mem_cons_of_mem _ (List.mem_append_right _ h)) (by decide +kernel))
set_option maxRecDepth 20000 in
theorem gX0_common_X0_checkLot : GoodIn wsX0_common (wsV RX0 99 RX0 yX0_checkLot wsX0_checkLot) := goodIn_app (goodIn_of _ (by decide +kernel)) ggX0_common_X0_checkLot
set_option maxRecDepth 20000 in
theorem ggX0_common_X0_parentOrNone : GoodIn wsX0_common wsX0_parentOrNone := goodIn_r _ [16, 17, 8, 9, 10, 4, 11, 12, 18, 19, 20, 21, 22, 23, 24, 25, 26, 27, 28, 29, 30, 31, 32, 33, 34, 35] (by decide +kernel) (by decide +kernel)
set_option maxRecDepth 20000 in
theorem gX0_common_X0_parentOrNone : GoodIn wsX0_common (wsV RX0 169 RX0 yX0_parentOrNone wsX0_parentOrNone) := goodIn_app (goodIn_of _ (by decide +kernel)) ggX0_common_X0_parentOrNone
theorem dX0_common_0 : decode cX0_common 0 = .ok (.aload_n 0, 1) := by decide +kernel
theorem dX0_common_1 : decode cX0_common 1 = .ok (.iload_n 1, 1) := by decide +kernel
theorem dX0_common_2 : decode cX0_common 2 = .ok (.invokevirtual 99, 3) := by decide +kernel
theorem dX0_common_5 : decode cX0_common 5 = .ok (.aload_n 0, 1) := by decide +kernel
theorem dX0_common_6 : decode cX0_common 6 = .ok (.iload_n 2, 1) := by decide +kernel
theorem dX0_common_7 : decode cX0_common 7 = .ok (.invokevirtual 99, 3) := by decide +kernel
theorem dX0_common_10 : decode cX0_common 10 = .ok (.iload_n 1, 1) := by decide +kernel
theorem dX0_common_11 : decode cX0_common 11 = .ok (.istore_n 3, 1) := by decide +kernel
theorem dX0_common_12 : decode cX0_common 12 = .ok (.iload_n 2, 1) := by decide +kernel
theorem dX0_common_13 : decode cX0_common 13 = .ok (.istore 4, 2) := by decide +kernel
theorem dX0_common_15 : decode cX0_common 15 = .ok (.iconst 0, 1) := by decide +kernel
theorem dX0_common_16 : decode cX0_common 16 = .ok (.istore 5, 2) := by decide +kernel
theorem dX0_common_18 : decode cX0_common 18 = .ok (.iload 5, 2) := by decide +kernel
theorem dX0_common_20 : decode cX0_common 20 = .ok (.bipush 48, 2) := by decide +kernel
theorem dX0_common_22 : decode cX0_common 22 = .ok (.if_icmp .ge 38, 3) := by decide +kernel
theorem dX0_common_25 : decode cX0_common 25 = .ok (.iload_n 3, 1) := by decide +kernel
theorem dX0_common_26 : decode cX0_common 26 = .ok (.iload 4, 2) := by decide +kernel
theorem dX0_common_28 : decode cX0_common 28 = .ok (.if_icmp .eq 32, 3) := by decide +kernel
theorem dX0_common_31 : decode cX0_common 31 = .ok (.iload_n 3, 1) := by decide +kernel
theorem dX0_common_32 : decode cX0_common 32 = .ok (.iload 4, 2) := by decide +kernel
theorem dX0_common_34 : decode cX0_common 34 = .ok (.if_icmp .le 12, 3) := by decide +kernel
theorem dX0_common_37 : decode cX0_common 37 = .ok (.aload_n 0, 1) := by decide +kernel
theorem dX0_common_38 : decode cX0_common 38 = .ok (.iload_n 3, 1) := by decide +kernel
theorem dX0_common_39 : decode cX0_common 39 = .ok (.invokevirtual 169, 3) := by decide +kernel
theorem dX0_common_42 : decode cX0_common 42 = .ok (.istore_n 3, 1) := by decide +kernel
theorem dX0_common_43 : decode cX0_common 43 = .ok (.goto 11, 3) := by decide +kernel
theorem dX0_common_46 : decode cX0_common 46 = .ok (.aload_n 0, 1) := by decide +kernel
theorem dX0_common_47 : decode cX0_common 47 = .ok (.iload 4, 2) := by decide +kernel
theorem dX0_common_49 : decode cX0_common 49 = .ok (.invokevirtual 169, 3) := by decide +kernel
theorem dX0_common_52 : decode cX0_common 52 = .ok (.istore 4, 2) := by decide +kernel
theorem dX0_common_54 : decode cX0_common 54 = .ok (.iinc 5 1, 3) := by decide +kernel
theorem dX0_common_57 : decode cX0_common 57 = .ok (.goto (-39), 3) := by decide +kernel
theorem dX0_common_60 : decode cX0_common 60 = .ok (.iload_n 3, 1) := by decide +kernel
theorem dX0_common_61 : decode cX0_common 61 = .ok (.ireturn, 1) := by decide +kernel
set_option maxRecDepth 20000 in
theorem ggX0_path_X0_checkWafer : GoodIn wsX0_path wsX0_checkWafer := goodIn_ca (goodIn_r _ [6, 7, 8, 9, 10, 11, 12, 13, 14, 15, 16, 17, 18, 19, 20, 21, 22, 23, 24, 25, 26, 27] (by decide +kernel) (by decide +kernel)) (goodIn_sub (fun _ h => List.mem_cons_of_mem _ (List.mem_append_right _ h)) (by decide +kernel))
set_option maxRecDepth 20000 in
theorem gX0_path_X0_checkWafer : GoodIn wsX0_path (wsV RX0 144 RX0 yX0_checkWafer wsX0_checkWafer) := goodIn_app (goodIn_of _ (by decide +kernel)) ggX0_path_X0_checkWafer
theorem dX0_path_0 : decode cX0_path 0 = .ok (.aload_n 0, 1) := by decide +kernel
theorem dX0_path_1 : decode cX0_path 1 = .ok (.iload_n 1, 1) := by decide +kernel
theorem dX0_path_2 : decode cX0_path 2 = .ok (.invokevirtual 144, 3) := by decide +kernel
theorem dX0_path_5 : decode cX0_path 5 = .ok (.aload_n 0, 1) := by decide +kernel
theorem dX0_path_6 : decode cX0_path 6 = .ok (.getfield 59, 3) := by decide +kernel
theorem dX0_path_9 : decode cX0_path 9 = .ok (.iload_n 1, 1) := by decide +kernel
theorem dX0_path_10 : decode cX0_path 10 = .ok (.iaload, 1) := by decide +kernel
theorem dX0_path_11 : decode cX0_path 11 = .ok (.ireturn, 1) := by decide +kernel
set_option maxRecDepth 20000 in
theorem ggX0_pathAt_X0_checkWafer : GoodIn wsX0_pathAt wsX0_checkWafer := goodIn_ca (goodIn_r _ [9, 1, 2, 10, 14, 15, 16, 17, 18, 19, 20, 21, 22, 23, 24, 25, 26, 27, 28, 29, 30, 31] (by decide +kernel) (by decide +kernel)) (goodIn_sub (fun _ h => List.mem_cons_of_mem _ (List.mem_append_right _ h)) (by decide +kernel))
set_option maxRecDepth 20000 in
theorem gX0_pathAt_X0_checkWafer : GoodIn wsX0_pathAt (wsV RX0 144 RX0 yX0_checkWafer wsX0_checkWafer) := goodIn_app (goodIn_of _ (by decide +kernel)) ggX0_pathAt_X0_checkWafer
set_option maxRecDepth 20000 in
theorem ggX0_pathAt_X0_isWithin : GoodIn wsX0_pathAt wsX0_isWithin := goodIn_r _ [13] (by decide +kernel) (by decide +kernel)
set_option maxRecDepth 20000 in
theorem gX0_pathAt_X0_isWithin : GoodIn wsX0_pathAt (va_wsS RX0 72 yX0_isWithin wsX0_isWithin) := goodIn_app (goodIn_of _ (by decide +kernel)) ggX0_pathAt_X0_isWithin
theorem dX0_pathAt_0 : decode cX0_pathAt 0 = .ok (.aload_n 0, 1) := by decide +kernel
theorem dX0_pathAt_1 : decode cX0_pathAt 1 = .ok (.iload_n 1, 1) := by decide +kernel
theorem dX0_pathAt_2 : decode cX0_pathAt 2 = .ok (.invokevirtual 144, 3) := by decide +kernel
theorem dX0_pathAt_5 : decode cX0_pathAt 5 = .ok (.iload_n 2, 1) := by decide +kernel
theorem dX0_pathAt_6 : decode cX0_pathAt 6 = .ok (.iconst 0, 1) := by decide +kernel
theorem dX0_pathAt_7 : decode cX0_pathAt 7 = .ok (.aload_n 0, 1) := by decide +kernel
theorem dX0_pathAt_8 : decode cX0_pathAt 8 = .ok (.getfield 59, 3) := by decide +kernel
theorem dX0_pathAt_11 : decode cX0_pathAt 11 = .ok (.iload_n 1, 1) := by decide +kernel
theorem dX0_pathAt_12 : decode cX0_pathAt 12 = .ok (.iaload, 1) := by decide +kernel
theorem dX0_pathAt_13 : decode cX0_pathAt 13 = .ok (.iconst 1, 1) := by decide +kernel
theorem dX0_pathAt_14 : decode cX0_pathAt 14 = .ok (.isub, 1) := by decide +kernel
theorem dX0_pathAt_15 : decode cX0_pathAt 15 = .ok (.invokestatic 72, 3) := by decide +kernel
theorem dX0_pathAt_18 : decode cX0_pathAt 18 = .ok (.ifCond .ne 13, 3) := by decide +kernel
theorem dX0_pathAt_21 : decode cX0_pathAt 21 = .ok (.new 172, 3) := by decide +kernel
theorem dX0_pathAt_24 : decode cX0_pathAt 24 = .ok (.dup, 1) := by decide +kernel
theorem dX0_pathAt_25 : decode cX0_pathAt 25 = .ok (.ldc 174, 2) := by decide +kernel
theorem dX0_pathAt_27 : decode cX0_pathAt 27 = .ok (.invokespecial 176, 3) := by decide +kernel
theorem dX0_pathAt_30 : decode cX0_pathAt 30 = .ok (.athrow, 1) := by decide +kernel
theorem dX0_pathAt_31 : decode cX0_pathAt 31 = .ok (.aload_n 0, 1) := by decide +kernel
theorem dX0_pathAt_32 : decode cX0_pathAt 32 = .ok (.getfield 56, 3) := by decide +kernel
theorem dX0_pathAt_35 : decode cX0_pathAt 35 = .ok (.iload_n 1, 1) := by decide +kernel
theorem dX0_pathAt_36 : decode cX0_pathAt 36 = .ok (.aaload, 1) := by decide +kernel
theorem dX0_pathAt_37 : decode cX0_pathAt 37 = .ok (.iload_n 2, 1) := by decide +kernel
theorem dX0_pathAt_38 : decode cX0_pathAt 38 = .ok (.iaload, 1) := by decide +kernel
theorem dX0_pathAt_39 : decode cX0_pathAt 39 = .ok (.ireturn, 1) := by decide +kernel
theorem dX0_isWithin_0 : decode cX0_isWithin 0 = .ok (.iload_n 0, 1) := by decide +kernel
theorem dX0_isWithin_1 : decode cX0_isWithin 1 = .ok (.iload_n 1, 1) := by decide +kernel
theorem dX0_isWithin_2 : decode cX0_isWithin 2 = .ok (.if_icmp .lt 12, 3) := by decide +kernel
theorem dX0_isWithin_5 : decode cX0_isWithin 5 = .ok (.iload_n 0, 1) := by decide +kernel
theorem dX0_isWithin_6 : decode cX0_isWithin 6 = .ok (.iload_n 2, 1) := by decide +kernel
theorem dX0_isWithin_7 : decode cX0_isWithin 7 = .ok (.if_icmp .gt 7, 3) := by decide +kernel
theorem dX0_isWithin_10 : decode cX0_isWithin 10 = .ok (.iconst 1, 1) := by decide +kernel
theorem dX0_isWithin_11 : decode cX0_isWithin 11 = .ok (.goto 4, 3) := by decide +kernel
theorem dX0_isWithin_14 : decode cX0_isWithin 14 = .ok (.iconst 0, 1) := by decide +kernel
theorem dX0_isWithin_15 : decode cX0_isWithin 15 = .ok (.ireturn, 1) := by decide +kernel
theorem dX0_isStep_0 : decode cX0_isStep 0 = .ok (.iload_n 1, 1) := by decide +kernel
theorem dX0_isStep_1 : decode cX0_isStep 1 = .ok (.ifCond .lt 15, 3) := by decide +kernel
theorem dX0_isStep_4 : decode cX0_isStep 4 = .ok (.iload_n 1, 1) := by decide +kernel
theorem dX0_isStep_5 : decode cX0_isStep 5 = .ok (.aload_n 0, 1) := by decide +kernel
theorem dX0_isStep_6 : decode cX0_isStep 6 = .ok (.getfield 22, 3) := by decide +kernel
theorem dX0_isStep_9 : decode cX0_isStep 9 = .ok (.if_icmp .ge 7, 3) := by decide +kernel
theorem dX0_isStep_12 : decode cX0_isStep 12 = .ok (.iconst 1, 1) := by decide +kernel
theorem dX0_isStep_13 : decode cX0_isStep 13 = .ok (.goto 4, 3) := by decide +kernel
theorem dX0_isStep_16 : decode cX0_isStep 16 = .ok (.iconst 0, 1) := by decide +kernel
theorem dX0_isStep_17 : decode cX0_isStep 17 = .ok (.ireturn, 1) := by decide +kernel
theorem dX0_isLot_0 : decode cX0_isLot 0 = .ok (.iload_n 1, 1) := by decide +kernel
theorem dX0_isLot_1 : decode cX0_isLot 1 = .ok (.ifCond .lt 15, 3) := by decide +kernel
theorem dX0_isLot_4 : decode cX0_isLot 4 = .ok (.iload_n 1, 1) := by decide +kernel
theorem dX0_isLot_5 : decode cX0_isLot 5 = .ok (.aload_n 0, 1) := by decide +kernel
theorem dX0_isLot_6 : decode cX0_isLot 6 = .ok (.getfield 48, 3) := by decide +kernel
theorem dX0_isLot_9 : decode cX0_isLot 9 = .ok (.if_icmp .ge 7, 3) := by decide +kernel
theorem dX0_isLot_12 : decode cX0_isLot 12 = .ok (.iconst 1, 1) := by decide +kernel
theorem dX0_isLot_13 : decode cX0_isLot 13 = .ok (.goto 4, 3) := by decide +kernel
theorem dX0_isLot_16 : decode cX0_isLot 16 = .ok (.iconst 0, 1) := by decide +kernel
theorem dX0_isLot_17 : decode cX0_isLot 17 = .ok (.ireturn, 1) := by decide +kernel
set_option maxRecDepth 20000 in
theorem ggX0_checkTool_X0_isWithin : GoodIn wsX0_checkTool wsX0_isWithin := goodIn_r _ [6] (by decide +kernel) (by decide +kernel)
set_option maxRecDepth 20000 in
theorem gX0_checkTool_X0_isWithin : GoodIn wsX0_checkTool (va_wsS RX0 72 yX0_isWithin wsX0_isWithin) := goodIn_app (goodIn_of _ (by decide +kernel)) ggX0_checkTool_X0_isWithin
theorem dX0_checkTool_0 : decode cX0_checkTool 0 = .ok (.iload_n 0, 1) := by decide +kernel
theorem dX0_checkTool_1 : decode cX0_checkTool 1 = .ok (.iconst 0, 1) := by decide +kernel
theorem dX0_checkTool_2 : decode cX0_checkTool 2 = .ok (.iconst 5, 1) := by decide +kernel
theorem dX0_checkTool_3 : decode cX0_checkTool 3 = .ok (.invokestatic 72, 3) := by decide +kernel
theorem dX0_checkTool_6 : decode cX0_checkTool 6 = .ok (.ifCond .ne 13, 3) := by decide +kernel
theorem dX0_checkTool_9 : decode cX0_checkTool 9 = .ok (.new 172, 3) := by decide +kernel
theorem dX0_checkTool_12 : decode cX0_checkTool 12 = .ok (.dup, 1) := by decide +kernel
theorem dX0_checkTool_13 : decode cX0_checkTool 13 = .ok (.ldc 177, 2) := by decide +kernel
theorem dX0_checkTool_15 : decode cX0_checkTool 15 = .ok (.invokespecial 176, 3) := by decide +kernel
theorem dX0_checkTool_18 : decode cX0_checkTool 18 = .ok (.athrow, 1) := by decide +kernel
theorem dX0_checkTool_19 : decode cX0_checkTool 19 = .ok (.return_, 1) := by decide +kernel
set_option maxRecDepth 20000 in
theorem ggX0_checkStep_X0_isStep : GoodIn wsX0_checkStep wsX0_isStep := goodIn_r _ [7, 8, 9, 10, 11, 12, 13, 14, 15, 16, 17, 18, 19, 20, 21, 22, 23, 24, 25, 26] (by decide +kernel) (by decide +kernel)
set_option maxRecDepth 20000 in
theorem gX0_checkStep_X0_isStep : GoodIn wsX0_checkStep (wsV RX0 106 RX0 yX0_isStep wsX0_isStep) := goodIn_app (goodIn_of _ (by decide +kernel)) ggX0_checkStep_X0_isStep
theorem dX0_checkStep_0 : decode cX0_checkStep 0 = .ok (.aload_n 0, 1) := by decide +kernel
theorem dX0_checkStep_1 : decode cX0_checkStep 1 = .ok (.iload_n 1, 1) := by decide +kernel
theorem dX0_checkStep_2 : decode cX0_checkStep 2 = .ok (.invokevirtual 106, 3) := by decide +kernel
theorem dX0_checkStep_5 : decode cX0_checkStep 5 = .ok (.ifCond .ne 13, 3) := by decide +kernel
theorem dX0_checkStep_8 : decode cX0_checkStep 8 = .ok (.new 172, 3) := by decide +kernel
theorem dX0_checkStep_11 : decode cX0_checkStep 11 = .ok (.dup, 1) := by decide +kernel
theorem dX0_checkStep_12 : decode cX0_checkStep 12 = .ok (.ldc 179, 2) := by decide +kernel
theorem dX0_checkStep_14 : decode cX0_checkStep 14 = .ok (.invokespecial 176, 3) := by decide +kernel
theorem dX0_checkStep_17 : decode cX0_checkStep 17 = .ok (.athrow, 1) := by decide +kernel
theorem dX0_checkStep_18 : decode cX0_checkStep 18 = .ok (.return_, 1) := by decide +kernel
set_option maxRecDepth 20000 in
theorem ggX0_checkLot_X0_isLot : GoodIn wsX0_checkLot wsX0_isLot := goodIn_r _ [7, 8, 9, 10, 11, 12, 13, 14, 15, 16, 17, 18, 19, 20, 21, 22, 23, 24, 25, 26] (by decide +kernel) (by decide +kernel)
set_option maxRecDepth 20000 in
theorem gX0_checkLot_X0_isLot : GoodIn wsX0_checkLot (wsV RX0 147 RX0 yX0_isLot wsX0_isLot) := goodIn_app (goodIn_of _ (by decide +kernel)) ggX0_checkLot_X0_isLot
theorem dX0_checkLot_0 : decode cX0_checkLot 0 = .ok (.aload_n 0, 1) := by decide +kernel
theorem dX0_checkLot_1 : decode cX0_checkLot 1 = .ok (.iload_n 1, 1) := by decide +kernel
theorem dX0_checkLot_2 : decode cX0_checkLot 2 = .ok (.invokevirtual 147, 3) := by decide +kernel
theorem dX0_checkLot_5 : decode cX0_checkLot 5 = .ok (.ifCond .ne 13, 3) := by decide +kernel
theorem dX0_checkLot_8 : decode cX0_checkLot 8 = .ok (.new 172, 3) := by decide +kernel
theorem dX0_checkLot_11 : decode cX0_checkLot 11 = .ok (.dup, 1) := by decide +kernel
theorem dX0_checkLot_12 : decode cX0_checkLot 12 = .ok (.ldc 181, 2) := by decide +kernel
theorem dX0_checkLot_14 : decode cX0_checkLot 14 = .ok (.invokespecial 176, 3) := by decide +kernel
theorem dX0_checkLot_17 : decode cX0_checkLot 17 = .ok (.athrow, 1) := by decide +kernel
theorem dX0_checkLot_18 : decode cX0_checkLot 18 = .ok (.return_, 1) := by decide +kernel
theorem dX0_checkWafer_0 : decode cX0_checkWafer 0 = .ok (.iload_n 1, 1) := by decide +kernel
theorem dX0_checkWafer_1 : decode cX0_checkWafer 1 = .ok (.ifCond .lt 11, 3) := by decide +kernel
theorem dX0_checkWafer_4 : decode cX0_checkWafer 4 = .ok (.iload_n 1, 1) := by decide +kernel
theorem dX0_checkWafer_5 : decode cX0_checkWafer 5 = .ok (.aload_n 0, 1) := by decide +kernel
theorem dX0_checkWafer_6 : decode cX0_checkWafer 6 = .ok (.getfield 62, 3) := by decide +kernel
theorem dX0_checkWafer_9 : decode cX0_checkWafer 9 = .ok (.if_icmp .lt 13, 3) := by decide +kernel
theorem dX0_checkWafer_12 : decode cX0_checkWafer 12 = .ok (.new 172, 3) := by decide +kernel
theorem dX0_checkWafer_15 : decode cX0_checkWafer 15 = .ok (.dup, 1) := by decide +kernel
theorem dX0_checkWafer_16 : decode cX0_checkWafer 16 = .ok (.ldc 183, 2) := by decide +kernel
theorem dX0_checkWafer_18 : decode cX0_checkWafer 18 = .ok (.invokespecial 176, 3) := by decide +kernel
theorem dX0_checkWafer_21 : decode cX0_checkWafer 21 = .ok (.athrow, 1) := by decide +kernel
theorem dX0_checkWafer_22 : decode cX0_checkWafer 22 = .ok (.return_, 1) := by decide +kernel
theorem dX0_isFree_0 : decode cX0_isFree 0 = .ok (.aload_n 0, 1) := by decide +kernel
theorem dX0_isFree_1 : decode cX0_isFree 1 = .ok (.getfield 26, 3) := by decide +kernel
theorem dX0_isFree_4 : decode cX0_isFree 4 = .ok (.iload_n 1, 1) := by decide +kernel
theorem dX0_isFree_5 : decode cX0_isFree 5 = .ok (.iaload, 1) := by decide +kernel
theorem dX0_isFree_6 : decode cX0_isFree 6 = .ok (.ifCond .ne 16, 3) := by decide +kernel
theorem dX0_isFree_9 : decode cX0_isFree 9 = .ok (.aload_n 0, 1) := by decide +kernel
theorem dX0_isFree_10 : decode cX0_isFree 10 = .ok (.getfield 35, 3) := by decide +kernel
theorem dX0_isFree_13 : decode cX0_isFree 13 = .ok (.iload_n 1, 1) := by decide +kernel
theorem dX0_isFree_14 : decode cX0_isFree 14 = .ok (.baload, 1) := by decide +kernel
theorem dX0_isFree_15 : decode cX0_isFree 15 = .ok (.ifCond .ne 7, 3) := by decide +kernel
theorem dX0_isFree_18 : decode cX0_isFree 18 = .ok (.iconst 1, 1) := by decide +kernel
theorem dX0_isFree_19 : decode cX0_isFree 19 = .ok (.goto 4, 3) := by decide +kernel
theorem dX0_isFree_22 : decode cX0_isFree 22 = .ok (.iconst 0, 1) := by decide +kernel
theorem dX0_isFree_23 : decode cX0_isFree 23 = .ok (.ireturn, 1) := by decide +kernel
set_option maxRecDepth 20000 in
theorem ggX0_isReady_X0_isFree : GoodIn wsX0_isReady wsX0_isFree := goodIn_r _ [5, 6, 7, 23, 24, 25, 26, 27, 28, 29, 30, 31, 32, 33, 34, 35, 36, 37, 38, 39, 40] (by decide +kernel) (by decide +kernel)
set_option maxRecDepth 20000 in
theorem gX0_isReady_X0_isFree : GoodIn wsX0_isReady (wsV RX0 114 RX0 yX0_isFree wsX0_isFree) := goodIn_app (goodIn_of _ (by decide +kernel)) ggX0_isReady_X0_isFree
set_option maxRecDepth 20000 in
theorem ggX0_isReady_X0_waitingLeft : GoodIn wsX0_isReady wsX0_waitingLeft := goodIn_r _ [11, 12, 6, 13, 14, 15, 16, 17, 18, 19, 20, 4, 21, 22, 23, 24, 25, 26, 27, 28, 29, 30, 31, 32, 33, 34, 35, 36, 37, 38, 39, 40] (by decide +kernel) (by decide +kernel)
set_option maxRecDepth 20000 in
theorem gX0_isReady_X0_waitingLeft : GoodIn wsX0_isReady (wsV RX0 157 RX0 yX0_waitingLeft wsX0_waitingLeft) := goodIn_app (goodIn_of _ (by decide +kernel)) ggX0_isReady_X0_waitingLeft
theorem dX0_isReady_0 : decode cX0_isReady 0 = .ok (.aload_n 0, 1) := by decide +kernel
theorem dX0_isReady_1 : decode cX0_isReady 1 = .ok (.iload_n 1, 1) := by decide +kernel
theorem dX0_isReady_2 : decode cX0_isReady 2 = .ok (.invokevirtual 114, 3) := by decide +kernel
theorem dX0_isReady_5 : decode cX0_isReady 5 = .ok (.ifCond .eq 15, 3) := by decide +kernel
theorem dX0_isReady_8 : decode cX0_isReady 8 = .ok (.aload_n 0, 1) := by decide +kernel
theorem dX0_isReady_9 : decode cX0_isReady 9 = .ok (.iload_n 1, 1) := by decide +kernel
theorem dX0_isReady_10 : decode cX0_isReady 10 = .ok (.invokevirtual 157, 3) := by decide +kernel
theorem dX0_isReady_13 : decode cX0_isReady 13 = .ok (.ifCond .lt 7, 3) := by decide +kernel
theorem dX0_isReady_16 : decode cX0_isReady 16 = .ok (.iconst 1, 1) := by decide +kernel
theorem dX0_isReady_17 : decode cX0_isReady 17 = .ok (.goto 4, 3) := by decide +kernel
theorem dX0_isReady_20 : decode cX0_isReady 20 = .ok (.iconst 0, 1) := by decide +kernel
theorem dX0_isReady_21 : decode cX0_isReady 21 = .ok (.ireturn, 1) := by decide +kernel
set_option maxRecDepth 20000 in
theorem ggX0_usesTool_X0_isStep : GoodIn wsX0_usesTool wsX0_isStep := goodIn_r _ [7, 8, 9, 10, 11, 12, 13, 14, 15, 16, 17, 18, 19, 20, 21, 22, 23, 24, 25, 26] (by decide +kernel) (by decide +kernel)
set_option maxRecDepth 20000 in
theorem gX0_usesTool_X0_isStep : GoodIn wsX0_usesTool (wsV RX0 106 RX0 yX0_isStep wsX0_isStep) := goodIn_app (goodIn_of _ (by decide +kernel)) ggX0_usesTool_X0_isStep
theorem dX0_usesTool_0 : decode cX0_usesTool 0 = .ok (.aload_n 0, 1) := by decide +kernel
theorem dX0_usesTool_1 : decode cX0_usesTool 1 = .ok (.getfield 29, 3) := by decide +kernel
theorem dX0_usesTool_4 : decode cX0_usesTool 4 = .ok (.iload_n 1, 1) := by decide +kernel
theorem dX0_usesTool_5 : decode cX0_usesTool 5 = .ok (.iaload, 1) := by decide +kernel
theorem dX0_usesTool_6 : decode cX0_usesTool 6 = .ok (.istore_n 3, 1) := by decide +kernel
theorem dX0_usesTool_7 : decode cX0_usesTool 7 = .ok (.aload_n 0, 1) := by decide +kernel
theorem dX0_usesTool_8 : decode cX0_usesTool 8 = .ok (.iload_n 3, 1) := by decide +kernel
theorem dX0_usesTool_9 : decode cX0_usesTool 9 = .ok (.invokevirtual 106, 3) := by decide +kernel
theorem dX0_usesTool_12 : decode cX0_usesTool 12 = .ok (.ifCond .eq 17, 3) := by decide +kernel
theorem dX0_usesTool_15 : decode cX0_usesTool 15 = .ok (.aload_n 0, 1) := by decide +kernel
theorem dX0_usesTool_16 : decode cX0_usesTool 16 = .ok (.getfield 9, 3) := by decide +kernel
theorem dX0_usesTool_19 : decode cX0_usesTool 19 = .ok (.iload_n 3, 1) := by decide +kernel
theorem dX0_usesTool_20 : decode cX0_usesTool 20 = .ok (.iaload, 1) := by decide +kernel
theorem dX0_usesTool_21 : decode cX0_usesTool 21 = .ok (.iload_n 2, 1) := by decide +kernel
theorem dX0_usesTool_22 : decode cX0_usesTool 22 = .ok (.if_icmp .ne 7, 3) := by decide +kernel
theorem dX0_usesTool_25 : decode cX0_usesTool 25 = .ok (.iconst 1, 1) := by decide +kernel
theorem dX0_usesTool_26 : decode cX0_usesTool 26 = .ok (.goto 4, 3) := by decide +kernel
theorem dX0_usesTool_29 : decode cX0_usesTool 29 = .ok (.iconst 0, 1) := by decide +kernel
theorem dX0_usesTool_30 : decode cX0_usesTool 30 = .ok (.ireturn, 1) := by decide +kernel
set_option maxRecDepth 20000 in
theorem ggX0_isBusy_X0_usesTool : GoodIn wsX0_isBusy wsX0_usesTool := goodIn_r _ [7, 8, 9, 10, 11, 12, 6, 13, 14, 15, 16, 17, 18, 19, 20, 21, 22, 23, 24, 25, 26, 27, 28, 29, 30, 31, 32] (by decide +kernel) (by decide +kernel)
set_option maxRecDepth 20000 in
theorem gX0_isBusy_X0_usesTool : GoodIn wsX0_isBusy (wsV RX0 162 RX0 yX0_usesTool wsX0_usesTool) := goodIn_app (goodIn_of _ (by decide +kernel)) ggX0_isBusy_X0_usesTool
theorem dX0_isBusy_0 : decode cX0_isBusy 0 = .ok (.iconst 0, 1) := by decide +kernel
theorem dX0_isBusy_1 : decode cX0_isBusy 1 = .ok (.istore_n 2, 1) := by decide +kernel
theorem dX0_isBusy_2 : decode cX0_isBusy 2 = .ok (.iload_n 2, 1) := by decide +kernel
theorem dX0_isBusy_3 : decode cX0_isBusy 3 = .ok (.aload_n 0, 1) := by decide +kernel
theorem dX0_isBusy_4 : decode cX0_isBusy 4 = .ok (.getfield 48, 3) := by decide +kernel
theorem dX0_isBusy_7 : decode cX0_isBusy 7 = .ok (.if_icmp .ge 30, 3) := by decide +kernel
theorem dX0_isBusy_10 : decode cX0_isBusy 10 = .ok (.aload_n 0, 1) := by decide +kernel
theorem dX0_isBusy_11 : decode cX0_isBusy 11 = .ok (.getfield 26, 3) := by decide +kernel
theorem dX0_isBusy_14 : decode cX0_isBusy 14 = .ok (.iload_n 2, 1) := by decide +kernel
theorem dX0_isBusy_15 : decode cX0_isBusy 15 = .ok (.iaload, 1) := by decide +kernel
theorem dX0_isBusy_16 : decode cX0_isBusy 16 = .ok (.iconst 1, 1) := by decide +kernel
theorem dX0_isBusy_17 : decode cX0_isBusy 17 = .ok (.if_icmp .ne 14, 3) := by decide +kernel
theorem dX0_isBusy_20 : decode cX0_isBusy 20 = .ok (.aload_n 0, 1) := by decide +kernel
theorem dX0_isBusy_21 : decode cX0_isBusy 21 = .ok (.iload_n 2, 1) := by decide +kernel
theorem dX0_isBusy_22 : decode cX0_isBusy 22 = .ok (.iload_n 1, 1) := by decide +kernel
theorem dX0_isBusy_23 : decode cX0_isBusy 23 = .ok (.invokevirtual 162, 3) := by decide +kernel
theorem dX0_isBusy_26 : decode cX0_isBusy 26 = .ok (.ifCond .eq 5, 3) := by decide +kernel
theorem dX0_isBusy_29 : decode cX0_isBusy 29 = .ok (.iconst 1, 1) := by decide +kernel
theorem dX0_isBusy_30 : decode cX0_isBusy 30 = .ok (.ireturn, 1) := by decide +kernel
theorem dX0_isBusy_31 : decode cX0_isBusy 31 = .ok (.iinc 2 1, 3) := by decide +kernel
theorem dX0_isBusy_34 : decode cX0_isBusy 34 = .ok (.goto (-32), 3) := by decide +kernel
theorem dX0_isBusy_37 : decode cX0_isBusy 37 = .ok (.iconst 0, 1) := by decide +kernel
theorem dX0_isBusy_38 : decode cX0_isBusy 38 = .ok (.ireturn, 1) := by decide +kernel
set_option maxRecDepth 20000 in
theorem ggX0_waitingLeft_X0_isStep : GoodIn wsX0_waitingLeft wsX0_isStep := goodIn_r _ [12, 13, 14, 15, 16, 17, 18, 19, 20, 21, 22, 23, 24, 25, 26, 27, 28, 29, 30, 31] (by decide +kernel) (by decide +kernel)
set_option maxRecDepth 20000 in
theorem gX0_waitingLeft_X0_isStep : GoodIn wsX0_waitingLeft (wsV RX0 106 RX0 yX0_isStep wsX0_isStep) := goodIn_app (goodIn_of _ (by decide +kernel)) ggX0_waitingLeft_X0_isStep
theorem dX0_waitingLeft_0 : decode cX0_waitingLeft 0 = .ok (.aload_n 0, 1) := by decide +kernel
theorem dX0_waitingLeft_1 : decode cX0_waitingLeft 1 = .ok (.getfield 29, 3) := by decide +kernel
theorem dX0_waitingLeft_4 : decode cX0_waitingLeft 4 = .ok (.iload_n 1, 1) := by decide +kernel
theorem dX0_waitingLeft_5 : decode cX0_waitingLeft 5 = .ok (.iaload, 1) := by decide +kernel
theorem dX0_waitingLeft_6 : decode cX0_waitingLeft 6 = .ok (.istore_n 2, 1) := by decide +kernel
theorem dX0_waitingLeft_7 : decode cX0_waitingLeft 7 = .ok (.aload_n 0, 1) := by decide +kernel
theorem dX0_waitingLeft_8 : decode cX0_waitingLeft 8 = .ok (.getfield 26, 3) := by decide +kernel
theorem dX0_waitingLeft_11 : decode cX0_waitingLeft 11 = .ok (.iload_n 1, 1) := by decide +kernel
theorem dX0_waitingLeft_12 : decode cX0_waitingLeft 12 = .ok (.iaload, 1) := by decide +kernel
theorem dX0_waitingLeft_13 : decode cX0_waitingLeft 13 = .ok (.ifCond .ne 11, 3) := by decide +kernel
theorem dX0_waitingLeft_16 : decode cX0_waitingLeft 16 = .ok (.aload_n 0, 1) := by decide +kernel
theorem dX0_waitingLeft_17 : decode cX0_waitingLeft 17 = .ok (.iload_n 2, 1) := by decide +kernel
theorem dX0_waitingLeft_18 : decode cX0_waitingLeft 18 = .ok (.invokevirtual 106, 3) := by decide +kernel
theorem dX0_waitingLeft_21 : decode cX0_waitingLeft 21 = .ok (.ifCond .ne 6, 3) := by decide +kernel
theorem dX0_waitingLeft_24 : decode cX0_waitingLeft 24 = .ok (.ldc 161, 2) := by decide +kernel
theorem dX0_waitingLeft_26 : decode cX0_waitingLeft 26 = .ok (.ireturn, 1) := by decide +kernel
theorem dX0_waitingLeft_27 : decode cX0_waitingLeft 27 = .ok (.aload_n 0, 1) := by decide +kernel
theorem dX0_waitingLeft_28 : decode cX0_waitingLeft 28 = .ok (.getfield 16, 3) := by decide +kernel
theorem dX0_waitingLeft_31 : decode cX0_waitingLeft 31 = .ok (.iload_n 2, 1) := by decide +kernel
theorem dX0_waitingLeft_32 : decode cX0_waitingLeft 32 = .ok (.iaload, 1) := by decide +kernel
theorem dX0_waitingLeft_33 : decode cX0_waitingLeft 33 = .ok (.ifCond .ne 6, 3) := by decide +kernel
theorem dX0_waitingLeft_36 : decode cX0_waitingLeft 36 = .ok (.ldc 185, 2) := by decide +kernel
theorem dX0_waitingLeft_38 : decode cX0_waitingLeft 38 = .ok (.ireturn, 1) := by decide +kernel
theorem dX0_waitingLeft_39 : decode cX0_waitingLeft 39 = .ok (.aload_n 0, 1) := by decide +kernel
theorem dX0_waitingLeft_40 : decode cX0_waitingLeft 40 = .ok (.getfield 16, 3) := by decide +kernel
theorem dX0_waitingLeft_43 : decode cX0_waitingLeft 43 = .ok (.iload_n 2, 1) := by decide +kernel
theorem dX0_waitingLeft_44 : decode cX0_waitingLeft 44 = .ok (.iaload, 1) := by decide +kernel
theorem dX0_waitingLeft_45 : decode cX0_waitingLeft 45 = .ok (.aload_n 0, 1) := by decide +kernel
theorem dX0_waitingLeft_46 : decode cX0_waitingLeft 46 = .ok (.getfield 65, 3) := by decide +kernel
theorem dX0_waitingLeft_49 : decode cX0_waitingLeft 49 = .ok (.aload_n 0, 1) := by decide +kernel
theorem dX0_waitingLeft_50 : decode cX0_waitingLeft 50 = .ok (.getfield 32, 3) := by decide +kernel
theorem dX0_waitingLeft_53 : decode cX0_waitingLeft 53 = .ok (.iload_n 1, 1) := by decide +kernel
theorem dX0_waitingLeft_54 : decode cX0_waitingLeft 54 = .ok (.iaload, 1) := by decide +kernel
theorem dX0_waitingLeft_55 : decode cX0_waitingLeft 55 = .ok (.isub, 1) := by decide +kernel
theorem dX0_waitingLeft_56 : decode cX0_waitingLeft 56 = .ok (.isub, 1) := by decide +kernel
theorem dX0_waitingLeft_57 : decode cX0_waitingLeft 57 = .ok (.ireturn, 1) := by decide +kernel
set_option maxRecDepth 20000 in
theorem ggX0_parentOrNone_X0_isLot : GoodIn wsX0_parentOrNone wsX0_isLot := goodIn_r _ [6, 7, 8, 9, 10, 11, 12, 13, 14, 15, 16, 17, 18, 19, 20, 21, 22, 23, 24, 25] (by decide +kernel) (by decide +kernel)
set_option maxRecDepth 20000 in
theorem gX0_parentOrNone_X0_isLot : GoodIn wsX0_parentOrNone (wsV RX0 147 RX0 yX0_isLot wsX0_isLot) := goodIn_app (goodIn_of _ (by decide +kernel)) ggX0_parentOrNone_X0_isLot
theorem dX0_parentOrNone_0 : decode cX0_parentOrNone 0 = .ok (.aload_n 0, 1) := by decide +kernel
theorem dX0_parentOrNone_1 : decode cX0_parentOrNone 1 = .ok (.iload_n 1, 1) := by decide +kernel
theorem dX0_parentOrNone_2 : decode cX0_parentOrNone 2 = .ok (.invokevirtual 147, 3) := by decide +kernel
theorem dX0_parentOrNone_5 : decode cX0_parentOrNone 5 = .ok (.ifCond .eq 12, 3) := by decide +kernel
theorem dX0_parentOrNone_8 : decode cX0_parentOrNone 8 = .ok (.aload_n 0, 1) := by decide +kernel
theorem dX0_parentOrNone_9 : decode cX0_parentOrNone 9 = .ok (.getfield 42, 3) := by decide +kernel
theorem dX0_parentOrNone_12 : decode cX0_parentOrNone 12 = .ok (.iload_n 1, 1) := by decide +kernel
theorem dX0_parentOrNone_13 : decode cX0_parentOrNone 13 = .ok (.iaload, 1) := by decide +kernel
theorem dX0_parentOrNone_14 : decode cX0_parentOrNone 14 = .ok (.goto 4, 3) := by decide +kernel
theorem dX0_parentOrNone_17 : decode cX0_parentOrNone 17 = .ok (.iconst (-1), 1) := by decide +kernel
theorem dX0_parentOrNone_18 : decode cX0_parentOrNone 18 = .ok (.ireturn, 1) := by decide +kernel
theorem dX0_makeLot_0 : decode cX0_makeLot 0 = .ok (.aload_n 0, 1) := by decide +kernel
theorem dX0_makeLot_1 : decode cX0_makeLot 1 = .ok (.getfield 48, 3) := by decide +kernel
theorem dX0_makeLot_4 : decode cX0_makeLot 4 = .ok (.istore 6, 2) := by decide +kernel
theorem dX0_makeLot_6 : decode cX0_makeLot 6 = .ok (.aload_n 0, 1) := by decide +kernel
theorem dX0_makeLot_7 : decode cX0_makeLot 7 = .ok (.getfield 26, 3) := by decide +kernel
theorem dX0_makeLot_10 : decode cX0_makeLot 10 = .ok (.iload 6, 2) := by decide +kernel
theorem dX0_makeLot_12 : decode cX0_makeLot 12 = .ok (.iconst 0, 1) := by decide +kernel
theorem dX0_makeLot_13 : decode cX0_makeLot 13 = .ok (.iastore, 1) := by decide +kernel
theorem dX0_makeLot_14 : decode cX0_makeLot 14 = .ok (.aload_n 0, 1) := by decide +kernel
theorem dX0_makeLot_15 : decode cX0_makeLot 15 = .ok (.getfield 29, 3) := by decide +kernel
theorem dX0_makeLot_18 : decode cX0_makeLot 18 = .ok (.iload 6, 2) := by decide +kernel
theorem dX0_makeLot_20 : decode cX0_makeLot 20 = .ok (.iload_n 1, 1) := by decide +kernel
theorem dX0_makeLot_21 : decode cX0_makeLot 21 = .ok (.iastore, 1) := by decide +kernel
theorem dX0_makeLot_22 : decode cX0_makeLot 22 = .ok (.aload_n 0, 1) := by decide +kernel
theorem dX0_makeLot_23 : decode cX0_makeLot 23 = .ok (.getfield 32, 3) := by decide +kernel
theorem dX0_makeLot_26 : decode cX0_makeLot 26 = .ok (.iload 6, 2) := by decide +kernel
theorem dX0_makeLot_28 : decode cX0_makeLot 28 = .ok (.iload_n 2, 1) := by decide +kernel
theorem dX0_makeLot_29 : decode cX0_makeLot 29 = .ok (.iastore, 1) := by decide +kernel
theorem dX0_makeLot_30 : decode cX0_makeLot 30 = .ok (.aload_n 0, 1) := by decide +kernel
theorem dX0_makeLot_31 : decode cX0_makeLot 31 = .ok (.getfield 35, 3) := by decide +kernel
theorem dX0_makeLot_34 : decode cX0_makeLot 34 = .ok (.iload 6, 2) := by decide +kernel
theorem dX0_makeLot_36 : decode cX0_makeLot 36 = .ok (.iload_n 3, 1) := by decide +kernel
theorem dX0_makeLot_37 : decode cX0_makeLot 37 = .ok (.bastore, 1) := by decide +kernel
theorem dX0_makeLot_38 : decode cX0_makeLot 38 = .ok (.aload_n 0, 1) := by decide +kernel
theorem dX0_makeLot_39 : decode cX0_makeLot 39 = .ok (.getfield 39, 3) := by decide +kernel
theorem dX0_makeLot_42 : decode cX0_makeLot 42 = .ok (.iload 6, 2) := by decide +kernel
theorem dX0_makeLot_44 : decode cX0_makeLot 44 = .ok (.iload 4, 2) := by decide +kernel
theorem dX0_makeLot_46 : decode cX0_makeLot 46 = .ok (.iastore, 1) := by decide +kernel
theorem dX0_makeLot_47 : decode cX0_makeLot 47 = .ok (.aload_n 0, 1) := by decide +kernel
theorem dX0_makeLot_48 : decode cX0_makeLot 48 = .ok (.getfield 42, 3) := by decide +kernel
theorem dX0_makeLot_51 : decode cX0_makeLot 51 = .ok (.iload 6, 2) := by decide +kernel
theorem dX0_makeLot_53 : decode cX0_makeLot 53 = .ok (.iload 5, 2) := by decide +kernel
theorem dX0_makeLot_55 : decode cX0_makeLot 55 = .ok (.iastore, 1) := by decide +kernel
theorem dX0_makeLot_56 : decode cX0_makeLot 56 = .ok (.aload_n 0, 1) := by decide +kernel
theorem dX0_makeLot_57 : decode cX0_makeLot 57 = .ok (.getfield 45, 3) := by decide +kernel
theorem dX0_makeLot_60 : decode cX0_makeLot 60 = .ok (.iload 6, 2) := by decide +kernel
theorem dX0_makeLot_62 : decode cX0_makeLot 62 = .ok (.iconst 0, 1) := by decide +kernel
theorem dX0_makeLot_63 : decode cX0_makeLot 63 = .ok (.iastore, 1) := by decide +kernel
theorem dX0_makeLot_64 : decode cX0_makeLot 64 = .ok (.aload_n 0, 1) := by decide +kernel
theorem dX0_makeLot_65 : decode cX0_makeLot 65 = .ok (.iload 6, 2) := by decide +kernel
theorem dX0_makeLot_67 : decode cX0_makeLot 67 = .ok (.iconst 1, 1) := by decide +kernel
theorem dX0_makeLot_68 : decode cX0_makeLot 68 = .ok (.iadd, 1) := by decide +kernel
theorem dX0_makeLot_69 : decode cX0_makeLot 69 = .ok (.putfield 48, 3) := by decide +kernel
theorem dX0_makeLot_72 : decode cX0_makeLot 72 = .ok (.iload 6, 2) := by decide +kernel
theorem dX0_makeLot_74 : decode cX0_makeLot 74 = .ok (.ireturn, 1) := by decide +kernel
set_option maxRecDepth 20000 in
theorem ggX0_makeWafer_X0_putInto : GoodIn wsX0_makeWafer wsX0_putInto := goodIn_r _ [7, 8, 9, 2, 10, 11, 12, 13, 14, 15, 16, 17, 18, 19, 20, 21, 22, 23, 24, 25, 26, 27, 28] (by decide +kernel) (by decide +kernel)
set_option maxRecDepth 20000 in
theorem gX0_makeWafer_X0_putInto : GoodIn wsX0_makeWafer (wsV RX0 186 RX0 yX0_putInto wsX0_putInto) := goodIn_app (goodIn_of _ (by decide +kernel)) ggX0_makeWafer_X0_putInto
theorem dX0_makeWafer_0 : decode cX0_makeWafer 0 = .ok (.aload_n 0, 1) := by decide +kernel
theorem dX0_makeWafer_1 : decode cX0_makeWafer 1 = .ok (.getfield 62, 3) := by decide +kernel
theorem dX0_makeWafer_4 : decode cX0_makeWafer 4 = .ok (.istore_n 2, 1) := by decide +kernel
theorem dX0_makeWafer_5 : decode cX0_makeWafer 5 = .ok (.aload_n 0, 1) := by decide +kernel
theorem dX0_makeWafer_6 : decode cX0_makeWafer 6 = .ok (.getfield 59, 3) := by decide +kernel
theorem dX0_makeWafer_9 : decode cX0_makeWafer 9 = .ok (.iload_n 2, 1) := by decide +kernel
theorem dX0_makeWafer_10 : decode cX0_makeWafer 10 = .ok (.iconst 0, 1) := by decide +kernel
theorem dX0_makeWafer_11 : decode cX0_makeWafer 11 = .ok (.iastore, 1) := by decide +kernel
theorem dX0_makeWafer_12 : decode cX0_makeWafer 12 = .ok (.aload_n 0, 1) := by decide +kernel
theorem dX0_makeWafer_13 : decode cX0_makeWafer 13 = .ok (.iload_n 2, 1) := by decide +kernel
theorem dX0_makeWafer_14 : decode cX0_makeWafer 14 = .ok (.iconst 1, 1) := by decide +kernel
theorem dX0_makeWafer_15 : decode cX0_makeWafer 15 = .ok (.iadd, 1) := by decide +kernel
theorem dX0_makeWafer_16 : decode cX0_makeWafer 16 = .ok (.putfield 62, 3) := by decide +kernel
theorem dX0_makeWafer_19 : decode cX0_makeWafer 19 = .ok (.aload_n 0, 1) := by decide +kernel
theorem dX0_makeWafer_20 : decode cX0_makeWafer 20 = .ok (.iload_n 2, 1) := by decide +kernel
theorem dX0_makeWafer_21 : decode cX0_makeWafer 21 = .ok (.iload_n 1, 1) := by decide +kernel
theorem dX0_makeWafer_22 : decode cX0_makeWafer 22 = .ok (.invokevirtual 186, 3) := by decide +kernel
theorem dX0_makeWafer_25 : decode cX0_makeWafer 25 = .ok (.return_, 1) := by decide +kernel
theorem dX0_putInto_0 : decode cX0_putInto 0 = .ok (.aload_n 0, 1) := by decide +kernel
theorem dX0_putInto_1 : decode cX0_putInto 1 = .ok (.getfield 51, 3) := by decide +kernel
theorem dX0_putInto_4 : decode cX0_putInto 4 = .ok (.iload_n 1, 1) := by decide +kernel
theorem dX0_putInto_5 : decode cX0_putInto 5 = .ok (.iload_n 2, 1) := by decide +kernel
theorem dX0_putInto_6 : decode cX0_putInto 6 = .ok (.iastore, 1) := by decide +kernel
theorem dX0_putInto_7 : decode cX0_putInto 7 = .ok (.aload_n 0, 1) := by decide +kernel
theorem dX0_putInto_8 : decode cX0_putInto 8 = .ok (.getfield 45, 3) := by decide +kernel
theorem dX0_putInto_11 : decode cX0_putInto 11 = .ok (.iload_n 2, 1) := by decide +kernel
theorem dX0_putInto_12 : decode cX0_putInto 12 = .ok (.dup2, 1) := by decide +kernel
theorem dX0_putInto_13 : decode cX0_putInto 13 = .ok (.iaload, 1) := by decide +kernel
theorem dX0_putInto_14 : decode cX0_putInto 14 = .ok (.iconst 1, 1) := by decide +kernel
theorem dX0_putInto_15 : decode cX0_putInto 15 = .ok (.iadd, 1) := by decide +kernel
theorem dX0_putInto_16 : decode cX0_putInto 16 = .ok (.iastore, 1) := by decide +kernel
theorem dX0_putInto_17 : decode cX0_putInto 17 = .ok (.aload_n 0, 1) := by decide +kernel
theorem dX0_putInto_18 : decode cX0_putInto 18 = .ok (.getfield 59, 3) := by decide +kernel
theorem dX0_putInto_21 : decode cX0_putInto 21 = .ok (.iload_n 1, 1) := by decide +kernel
theorem dX0_putInto_22 : decode cX0_putInto 22 = .ok (.iaload, 1) := by decide +kernel
theorem dX0_putInto_23 : decode cX0_putInto 23 = .ok (.istore_n 3, 1) := by decide +kernel
theorem dX0_putInto_24 : decode cX0_putInto 24 = .ok (.iload_n 3, 1) := by decide +kernel
theorem dX0_putInto_25 : decode cX0_putInto 25 = .ok (.bipush 47, 2) := by decide +kernel
theorem dX0_putInto_27 : decode cX0_putInto 27 = .ok (.if_icmp .ge 21, 3) := by decide +kernel
theorem dX0_putInto_30 : decode cX0_putInto 30 = .ok (.aload_n 0, 1) := by decide +kernel
theorem dX0_putInto_31 : decode cX0_putInto 31 = .ok (.getfield 56, 3) := by decide +kernel
theorem dX0_putInto_34 : decode cX0_putInto 34 = .ok (.iload_n 1, 1) := by decide +kernel
theorem dX0_putInto_35 : decode cX0_putInto 35 = .ok (.aaload, 1) := by decide +kernel
theorem dX0_putInto_36 : decode cX0_putInto 36 = .ok (.iload_n 3, 1) := by decide +kernel
theorem dX0_putInto_37 : decode cX0_putInto 37 = .ok (.iload_n 2, 1) := by decide +kernel
theorem dX0_putInto_38 : decode cX0_putInto 38 = .ok (.iastore, 1) := by decide +kernel
theorem dX0_putInto_39 : decode cX0_putInto 39 = .ok (.aload_n 0, 1) := by decide +kernel
theorem dX0_putInto_40 : decode cX0_putInto 40 = .ok (.getfield 59, 3) := by decide +kernel
theorem dX0_putInto_43 : decode cX0_putInto 43 = .ok (.iload_n 1, 1) := by decide +kernel
theorem dX0_putInto_44 : decode cX0_putInto 44 = .ok (.iload_n 3, 1) := by decide +kernel
theorem dX0_putInto_45 : decode cX0_putInto 45 = .ok (.iconst 1, 1) := by decide +kernel
theorem dX0_putInto_46 : decode cX0_putInto 46 = .ok (.iadd, 1) := by decide +kernel
theorem dX0_putInto_47 : decode cX0_putInto 47 = .ok (.iastore, 1) := by decide +kernel
theorem dX0_putInto_48 : decode cX0_putInto 48 = .ok (.return_, 1) := by decide +kernel
set_option maxRecDepth 20000 in
theorem ggX0_moveWafers_X0_putInto : GoodIn wsX0_moveWafers wsX0_putInto := goodIn_r _ [8, 2, 3, 9, 10, 11, 12, 13, 14, 15, 16, 17, 18, 19, 20, 21, 22, 23, 24, 25, 26, 27, 28] (by decide +kernel) (by decide +kernel)
set_option maxRecDepth 20000 in
theorem gX0_moveWafers_X0_putInto : GoodIn wsX0_moveWafers (wsV RX0 186 RX0 yX0_putInto wsX0_putInto) := goodIn_app (goodIn_of _ (by decide +kernel)) ggX0_moveWafers_X0_putInto
theorem dX0_moveWafers_0 : decode cX0_moveWafers 0 = .ok (.iconst 0, 1) := by decide +kernel
theorem dX0_moveWafers_1 : decode cX0_moveWafers 1 = .ok (.istore 4, 2) := by decide +kernel
theorem dX0_moveWafers_3 : decode cX0_moveWafers 3 = .ok (.iconst 0, 1) := by decide +kernel
theorem dX0_moveWafers_4 : decode cX0_moveWafers 4 = .ok (.istore 5, 2) := by decide +kernel
theorem dX0_moveWafers_6 : decode cX0_moveWafers 6 = .ok (.iload 5, 2) := by decide +kernel
theorem dX0_moveWafers_8 : decode cX0_moveWafers 8 = .ok (.aload_n 0, 1) := by decide +kernel
theorem dX0_moveWafers_9 : decode cX0_moveWafers 9 = .ok (.getfield 62, 3) := by decide +kernel
theorem dX0_moveWafers_12 : decode cX0_moveWafers 12 = .ok (.if_icmp .ge 46, 3) := by decide +kernel
theorem dX0_moveWafers_15 : decode cX0_moveWafers 15 = .ok (.iload 4, 2) := by decide +kernel
theorem dX0_moveWafers_17 : decode cX0_moveWafers 17 = .ok (.iload_n 3, 1) := by decide +kernel
theorem dX0_moveWafers_18 : decode cX0_moveWafers 18 = .ok (.if_icmp .ge 40, 3) := by decide +kernel
theorem dX0_moveWafers_21 : decode cX0_moveWafers 21 = .ok (.aload_n 0, 1) := by decide +kernel
theorem dX0_moveWafers_22 : decode cX0_moveWafers 22 = .ok (.getfield 51, 3) := by decide +kernel
theorem dX0_moveWafers_25 : decode cX0_moveWafers 25 = .ok (.iload 5, 2) := by decide +kernel
theorem dX0_moveWafers_27 : decode cX0_moveWafers 27 = .ok (.iaload, 1) := by decide +kernel
theorem dX0_moveWafers_28 : decode cX0_moveWafers 28 = .ok (.iload_n 1, 1) := by decide +kernel
theorem dX0_moveWafers_29 : decode cX0_moveWafers 29 = .ok (.if_icmp .ne 23, 3) := by decide +kernel
theorem dX0_moveWafers_32 : decode cX0_moveWafers 32 = .ok (.aload_n 0, 1) := by decide +kernel
theorem dX0_moveWafers_33 : decode cX0_moveWafers 33 = .ok (.getfield 45, 3) := by decide +kernel
theorem dX0_moveWafers_36 : decode cX0_moveWafers 36 = .ok (.iload_n 1, 1) := by decide +kernel
theorem dX0_moveWafers_37 : decode cX0_moveWafers 37 = .ok (.dup2, 1) := by decide +kernel
theorem dX0_moveWafers_38 : decode cX0_moveWafers 38 = .ok (.iaload, 1) := by decide +kernel
theorem dX0_moveWafers_39 : decode cX0_moveWafers 39 = .ok (.iconst 1, 1) := by decide +kernel
theorem dX0_moveWafers_40 : decode cX0_moveWafers 40 = .ok (.isub, 1) := by decide +kernel
theorem dX0_moveWafers_41 : decode cX0_moveWafers 41 = .ok (.iastore, 1) := by decide +kernel
theorem dX0_moveWafers_42 : decode cX0_moveWafers 42 = .ok (.aload_n 0, 1) := by decide +kernel
theorem dX0_moveWafers_43 : decode cX0_moveWafers 43 = .ok (.iload 5, 2) := by decide +kernel
theorem dX0_moveWafers_45 : decode cX0_moveWafers 45 = .ok (.iload_n 2, 1) := by decide +kernel
theorem dX0_moveWafers_46 : decode cX0_moveWafers 46 = .ok (.invokevirtual 186, 3) := by decide +kernel
theorem dX0_moveWafers_49 : decode cX0_moveWafers 49 = .ok (.iinc 4 1, 3) := by decide +kernel
theorem dX0_moveWafers_52 : decode cX0_moveWafers 52 = .ok (.iinc 5 1, 3) := by decide +kernel
theorem dX0_moveWafers_55 : decode cX0_moveWafers 55 = .ok (.goto (-49), 3) := by decide +kernel
theorem dX0_moveWafers_58 : decode cX0_moveWafers 58 = .ok (.return_, 1) := by decide +kernel
theorem dX0_leaveRoute_0 : decode cX0_leaveRoute 0 = .ok (.aload_n 0, 1) := by decide +kernel
theorem dX0_leaveRoute_1 : decode cX0_leaveRoute 1 = .ok (.getfield 26, 3) := by decide +kernel
theorem dX0_leaveRoute_4 : decode cX0_leaveRoute 4 = .ok (.iload_n 1, 1) := by decide +kernel
theorem dX0_leaveRoute_5 : decode cX0_leaveRoute 5 = .ok (.iload_n 2, 1) := by decide +kernel
theorem dX0_leaveRoute_6 : decode cX0_leaveRoute 6 = .ok (.iastore, 1) := by decide +kernel
theorem dX0_leaveRoute_7 : decode cX0_leaveRoute 7 = .ok (.aload_n 0, 1) := by decide +kernel
theorem dX0_leaveRoute_8 : decode cX0_leaveRoute 8 = .ok (.getfield 29, 3) := by decide +kernel
theorem dX0_leaveRoute_11 : decode cX0_leaveRoute 11 = .ok (.iload_n 1, 1) := by decide +kernel
theorem dX0_leaveRoute_12 : decode cX0_leaveRoute 12 = .ok (.iconst (-1), 1) := by decide +kernel
theorem dX0_leaveRoute_13 : decode cX0_leaveRoute 13 = .ok (.iastore, 1) := by decide +kernel
theorem dX0_leaveRoute_14 : decode cX0_leaveRoute 14 = .ok (.return_, 1) := by decide +kernel
set_option maxRecDepth 20000 in
theorem ggX0_endProcessing_X0_isStep : GoodIn wsX0_endProcessing wsX0_isStep := goodIn_r _ [7, 8, 13, 14, 15, 16, 17, 18, 19, 20, 21, 22, 23, 24, 25, 26, 27, 28, 29, 30] (by decide +kernel) (by decide +kernel)
set_option maxRecDepth 20000 in
theorem gX0_endProcessing_X0_isStep : GoodIn wsX0_endProcessing (wsV RX0 106 RX0 yX0_isStep wsX0_isStep) := goodIn_app (goodIn_of _ (by decide +kernel)) ggX0_endProcessing_X0_isStep
set_option maxRecDepth 20000 in
theorem ggX0_endProcessing_X0_leaveRoute : GoodIn wsX0_endProcessing wsX0_leaveRoute := goodIn_r _ [12, 2, 1, 13, 14, 15, 16, 17, 18, 19, 20, 21, 22, 23, 24, 25, 26, 27, 28, 29, 30] (by decide +kernel) (by decide +kernel)
set_option maxRecDepth 20000 in
theorem gX0_endProcessing_X0_leaveRoute : GoodIn wsX0_endProcessing (wsV RX0 138 RX0 yX0_leaveRoute wsX0_leaveRoute) := goodIn_app (goodIn_of _ (by decide +kernel)) ggX0_endProcessing_X0_leaveRoute
theorem dX0_endProcessing_0 : decode cX0_endProcessing 0 = .ok (.aload_n 0, 1) := by decide +kernel
theorem dX0_endProcessing_1 : decode cX0_endProcessing 1 = .ok (.getfield 29, 3) := by decide +kernel
theorem dX0_endProcessing_4 : decode cX0_endProcessing 4 = .ok (.iload_n 1, 1) := by decide +kernel
theorem dX0_endProcessing_5 : decode cX0_endProcessing 5 = .ok (.iaload, 1) := by decide +kernel
theorem dX0_endProcessing_6 : decode cX0_endProcessing 6 = .ok (.iconst 1, 1) := by decide +kernel
theorem dX0_endProcessing_7 : decode cX0_endProcessing 7 = .ok (.iadd, 1) := by decide +kernel
theorem dX0_endProcessing_8 : decode cX0_endProcessing 8 = .ok (.istore_n 2, 1) := by decide +kernel
theorem dX0_endProcessing_9 : decode cX0_endProcessing 9 = .ok (.aload_n 0, 1) := by decide +kernel
theorem dX0_endProcessing_10 : decode cX0_endProcessing 10 = .ok (.iload_n 2, 1) := by decide +kernel
theorem dX0_endProcessing_11 : decode cX0_endProcessing 11 = .ok (.invokevirtual 106, 3) := by decide +kernel
theorem dX0_endProcessing_14 : decode cX0_endProcessing 14 = .ok (.ifCond .eq 20, 3) := by decide +kernel
theorem dX0_endProcessing_17 : decode cX0_endProcessing 17 = .ok (.aload_n 0, 1) := by decide +kernel
theorem dX0_endProcessing_18 : decode cX0_endProcessing 18 = .ok (.getfield 26, 3) := by decide +kernel
theorem dX0_endProcessing_21 : decode cX0_endProcessing 21 = .ok (.iload_n 1, 1) := by decide +kernel
theorem dX0_endProcessing_22 : decode cX0_endProcessing 22 = .ok (.iconst 0, 1) := by decide +kernel
theorem dX0_endProcessing_23 : decode cX0_endProcessing 23 = .ok (.iastore, 1) := by decide +kernel
theorem dX0_endProcessing_24 : decode cX0_endProcessing 24 = .ok (.aload_n 0, 1) := by decide +kernel
theorem dX0_endProcessing_25 : decode cX0_endProcessing 25 = .ok (.getfield 29, 3) := by decide +kernel
theorem dX0_endProcessing_28 : decode cX0_endProcessing 28 = .ok (.iload_n 1, 1) := by decide +kernel
theorem dX0_endProcessing_29 : decode cX0_endProcessing 29 = .ok (.iload_n 2, 1) := by decide +kernel
theorem dX0_endProcessing_30 : decode cX0_endProcessing 30 = .ok (.iastore, 1) := by decide +kernel
theorem dX0_endProcessing_31 : decode cX0_endProcessing 31 = .ok (.goto 9, 3) := by decide +kernel
theorem dX0_endProcessing_34 : decode cX0_endProcessing 34 = .ok (.aload_n 0, 1) := by decide +kernel
theorem dX0_endProcessing_35 : decode cX0_endProcessing 35 = .ok (.iload_n 1, 1) := by decide +kernel
theorem dX0_endProcessing_36 : decode cX0_endProcessing 36 = .ok (.iconst 2, 1) := by decide +kernel
theorem dX0_endProcessing_37 : decode cX0_endProcessing 37 = .ok (.invokevirtual 138, 3) := by decide +kernel
theorem dX0_endProcessing_40 : decode cX0_endProcessing 40 = .ok (.return_, 1) := by decide +kernel
