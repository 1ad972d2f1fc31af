theorem dX1_init_0 : decode cX1_init 0 = .ok (.aload_n 0, 1) := by decide +kernel
theorem dX1_init_1 : decode cX1_init 1 = .ok (.invokespecial 1, 3) := by decide +kernel
theorem dX1_init_4 : decode cX1_init 4 = .ok (.aload_n 0, 1) := by decide +kernel
theorem dX1_init_5 : decode cX1_init 5 = .ok (.bipush 12, 2) := by decide +kernel
theorem dX1_init_7 : decode cX1_init 7 = .ok (.newarray .int, 2) := by decide +kernel
theorem dX1_init_9 : decode cX1_init 9 = .ok (.putfield 7, 3) := by decide +kernel
theorem dX1_init_12 : decode cX1_init 12 = .ok (.aload_n 0, 1) := by decide +kernel
theorem dX1_init_13 : decode cX1_init 13 = .ok (.bipush 12, 2) := by decide +kernel
theorem dX1_init_15 : decode cX1_init 15 = .ok (.newarray .int, 2) := by decide +kernel
theorem dX1_init_17 : decode cX1_init 17 = .ok (.putfield 13, 3) := by decide +kernel
theorem dX1_init_20 : decode cX1_init 20 = .ok (.aload_n 0, 1) := by decide +kernel
theorem dX1_init_21 : decode cX1_init 21 = .ok (.bipush 12, 2) := by decide +kernel
theorem dX1_init_23 : decode cX1_init 23 = .ok (.newarray .int, 2) := by decide +kernel
theorem dX1_init_25 : decode cX1_init 25 = .ok (.putfield 16, 3) := by decide +kernel
theorem dX1_init_28 : decode cX1_init 28 = .ok (.aload_n 0, 1) := by decide +kernel
theorem dX1_init_29 : decode cX1_init 29 = .ok (.bipush 12, 2) := by decide +kernel
theorem dX1_init_31 : decode cX1_init 31 = .ok (.newarray .int, 2) := by decide +kernel
theorem dX1_init_33 : decode cX1_init 33 = .ok (.putfield 19, 3) := by decide +kernel
theorem dX1_init_36 : decode cX1_init 36 = .ok (.aload_n 0, 1) := by decide +kernel
theorem dX1_init_37 : decode cX1_init 37 = .ok (.bipush 24, 2) := by decide +kernel
theorem dX1_init_39 : decode cX1_init 39 = .ok (.newarray .int, 2) := by decide +kernel
theorem dX1_init_41 : decode cX1_init 41 = .ok (.putfield 22, 3) := by decide +kernel
theorem dX1_init_44 : decode cX1_init 44 = .ok (.aload_n 0, 1) := by decide +kernel
theorem dX1_init_45 : decode cX1_init 45 = .ok (.bipush 24, 2) := by decide +kernel
theorem dX1_init_47 : decode cX1_init 47 = .ok (.newarray .int, 2) := by decide +kernel
theorem dX1_init_49 : decode cX1_init 49 = .ok (.putfield 25, 3) := by decide +kernel
theorem dX1_init_52 : decode cX1_init 52 = .ok (.aload_n 0, 1) := by decide +kernel
theorem dX1_init_53 : decode cX1_init 53 = .ok (.bipush 24, 2) := by decide +kernel
theorem dX1_init_55 : decode cX1_init 55 = .ok (.newarray .int, 2) := by decide +kernel
theorem dX1_init_57 : decode cX1_init 57 = .ok (.putfield 28, 3) := by decide +kernel
theorem dX1_init_60 : decode cX1_init 60 = .ok (.aload_n 0, 1) := by decide +kernel
theorem dX1_init_61 : decode cX1_init 61 = .ok (.bipush 24, 2) := by decide +kernel
theorem dX1_init_63 : decode cX1_init 63 = .ok (.newarray .int, 2) := by decide +kernel
theorem dX1_init_65 : decode cX1_init 65 = .ok (.putfield 31, 3) := by decide +kernel
theorem dX1_init_68 : decode cX1_init 68 = .ok (.aload_n 0, 1) := by decide +kernel
theorem dX1_init_69 : decode cX1_init 69 = .ok (.bipush 24, 2) := by decide +kernel
theorem dX1_init_71 : decode cX1_init 71 = .ok (.newarray .boolean, 2) := by decide +kernel
theorem dX1_init_73 : decode cX1_init 73 = .ok (.putfield 34, 3) := by decide +kernel
theorem dX1_init_76 : decode cX1_init 76 = .ok (.aload_n 0, 1) := by decide +kernel
theorem dX1_init_77 : decode cX1_init 77 = .ok (.bipush 24, 2) := by decide +kernel
theorem dX1_init_79 : decode cX1_init 79 = .ok (.newarray .int, 2) := by decide +kernel
theorem dX1_init_81 : decode cX1_init 81 = .ok (.putfield 38, 3) := by decide +kernel
theorem dX1_init_84 : decode cX1_init 84 = .ok (.aload_n 0, 1) := by decide +kernel
theorem dX1_init_85 : decode cX1_init 85 = .ok (.bipush 24, 2) := by decide +kernel
theorem dX1_init_87 : decode cX1_init 87 = .ok (.newarray .int, 2) := by decide +kernel
theorem dX1_init_89 : decode cX1_init 89 = .ok (.putfield 41, 3) := by decide +kernel
theorem dX1_init_92 : decode cX1_init 92 = .ok (.aload_n 0, 1) := by decide +kernel
theorem dX1_init_93 : decode cX1_init 93 = .ok (.bipush 60, 2) := by decide +kernel
theorem dX1_init_95 : decode cX1_init 95 = .ok (.newarray .int, 2) := by decide +kernel
theorem dX1_init_97 : decode cX1_init 97 = .ok (.putfield 44, 3) := by decide +kernel
theorem dX1_init_100 : decode cX1_init 100 = .ok (.aload_n 0, 1) := by decide +kernel
theorem dX1_init_101 : decode cX1_init 101 = .ok (.bipush 60, 2) := by decide +kernel
theorem dX1_init_103 : decode cX1_init 103 = .ok (.newarray .int, 2) := by decide +kernel
theorem dX1_init_105 : decode cX1_init 105 = .ok (.putfield 47, 3) := by decide +kernel
theorem dX1_init_108 : decode cX1_init 108 = .ok (.aload_n 0, 1) := by decide +kernel
theorem dX1_init_109 : decode cX1_init 109 = .ok (.sipush 2880, 3) := by decide +kernel
theorem dX1_init_112 : decode cX1_init 112 = .ok (.newarray .int, 2) := by decide +kernel
theorem dX1_init_114 : decode cX1_init 114 = .ok (.putfield 50, 3) := by decide +kernel
theorem dX1_init_117 : decode cX1_init 117 = .ok (.aload_n 0, 1) := by decide +kernel
theorem dX1_init_118 : decode cX1_init 118 = .ok (.bipush 24, 2) := by decide +kernel
theorem dX1_init_120 : decode cX1_init 120 = .ok (.newarray .boolean, 2) := by decide +kernel
theorem dX1_init_122 : decode cX1_init 122 = .ok (.putfield 53, 3) := by decide +kernel
theorem dX1_init_125 : decode cX1_init 125 = .ok (.aload_n 0, 1) := by decide +kernel
theorem dX1_init_126 : decode cX1_init 126 = .ok (.iconst 0, 1) := by decide +kernel
theorem dX1_init_127 : decode cX1_init 127 = .ok (.putfield 56, 3) := by decide +kernel
theorem dX1_init_130 : decode cX1_init 130 = .ok (.return_, 1) := by decide +kernel
theorem dX1_thrown_0 : decode cX1_thrown 0 = .ok (.aload_n 0, 1) := by decide +kernel
theorem dX1_thrown_1 : decode cX1_thrown 1 = .ok (.getfield 56, 3) := by decide +kernel
theorem dX1_thrown_4 : decode cX1_thrown 4 = .ok (.ireturn, 1) := by decide +kernel
theorem dX1_fails_0 : decode cX1_fails 0 = .ok (.aload_n 0, 1) := by decide +kernel
theorem dX1_fails_1 : decode cX1_fails 1 = .ok (.iload_n 1, 1) := by decide +kernel
theorem dX1_fails_2 : decode cX1_fails 2 = .ok (.putfield 56, 3) := by decide +kernel
theorem dX1_fails_5 : decode cX1_fails 5 = .ok (.iconst 0, 1) := by decide +kernel
theorem dX1_fails_6 : decode cX1_fails 6 = .ok (.ireturn, 1) := by decide +kernel
theorem dX1_in_0 : decode cX1_in 0 = .ok (.iload_n 0, 1) := by decide +kernel
theorem dX1_in_1 : decode cX1_in 1 = .ok (.iload_n 1, 1) := by decide +kernel
theorem dX1_in_2 : decode cX1_in 2 = .ok (.if_icmp .lt 12, 3) := by decide +kernel
theorem dX1_in_5 : decode cX1_in 5 = .ok (.iload_n 0, 1) := by decide +kernel
theorem dX1_in_6 : decode cX1_in 6 = .ok (.iload_n 2, 1) := by decide +kernel
theorem dX1_in_7 : decode cX1_in 7 = .ok (.if_icmp .gt 7, 3) := by decide +kernel
theorem dX1_in_10 : decode cX1_in 10 = .ok (.iconst 1, 1) := by decide +kernel
theorem dX1_in_11 : decode cX1_in 11 = .ok (.goto 4, 3) := by decide +kernel
theorem dX1_in_14 : decode cX1_in 14 = .ok (.iconst 0, 1) := by decide +kernel
theorem dX1_in_15 : decode cX1_in 15 = .ok (.ireturn, 1) := by decide +kernel
set_option maxRecDepth 20000 in
theorem ggX1_isTool_X1_in : GoodIn wsX1_isTool wsX1_in := goodIn_r _ [4] (by decide +kernel) (by decide +kernel)
set_option maxRecDepth 20000 in
theorem gX1_isTool_X1_in : GoodIn wsX1_isTool (va_wsS RX1 60 yX1_in wsX1_in) := goodIn_app (goodIn_of _ (by decide +kernel)) ggX1_isTool_X1_in
theorem dX1_isTool_0 : decode cX1_isTool 0 = .ok (.iload_n 0, 1) := by decide +kernel
theorem dX1_isTool_1 : decode cX1_isTool 1 = .ok (.iconst 0, 1) := by decide +kernel
theorem dX1_isTool_2 : decode cX1_isTool 2 = .ok (.iconst 5, 1) := by decide +kernel
theorem dX1_isTool_3 : decode cX1_isTool 3 = .ok (.invokestatic 60, 3) := by decide +kernel
theorem dX1_isTool_6 : decode cX1_isTool 6 = .ok (.ireturn, 1) := by decide +kernel
set_option maxRecDepth 20000 in
theorem ggX1_isLot_X1_in : GoodIn wsX1_isLot wsX1_in := goodIn_r _ [5] (by decide +kernel) (by decide +kernel)
set_option maxRecDepth 20000 in
theorem gX1_isLot_X1_in : GoodIn wsX1_isLot (va_wsS RX1 60 yX1_in wsX1_in) := goodIn_app (goodIn_of _ (by decide +kernel)) ggX1_isLot_X1_in
theorem dX1_isLot_0 : decode cX1_isLot 0 = .ok (.iload_n 1, 1) := by decide +kernel
theorem dX1_isLot_1 : decode cX1_isLot 1 = .ok (.iconst 0, 1) := by decide +kernel
theorem dX1_isLot_2 : decode cX1_isLot 2 = .ok (.aload_n 0, 1) := by decide +kernel
theorem dX1_isLot_3 : decode cX1_isLot 3 = .ok (.getfield 64, 3) := by decide +kernel
theorem dX1_isLot_6 : decode cX1_isLot 6 = .ok (.iconst 1, 1) := by decide +kernel
theorem dX1_isLot_7 : decode cX1_isLot 7 = .ok (.isub, 1) := by decide +kernel
theorem dX1_isLot_8 : decode cX1_isLot 8 = .ok (.invokestatic 60, 3) := by decide +kernel
theorem dX1_isLot_11 : decode cX1_isLot 11 = .ok (.ireturn, 1) := by decide +kernel
set_option maxRecDepth 20000 in
theorem ggX1_isWafer_X1_in : GoodIn wsX1_isWafer wsX1_in := goodIn_r _ [5] (by decide +kernel) (by decide +kernel)
set_option maxRecDepth 20000 in
theorem gX1_isWafer_X1_in : GoodIn wsX1_isWafer (va_wsS RX1 60 yX1_in wsX1_in) := goodIn_app (goodIn_of _ (by decide +kernel)) ggX1_isWafer_X1_in
theorem dX1_isWafer_0 : decode cX1_isWafer 0 = .ok (.iload_n 1, 1) := by decide +kernel
theorem dX1_isWafer_1 : decode cX1_isWafer 1 = .ok (.iconst 0, 1) := by decide +kernel
theorem dX1_isWafer_2 : decode cX1_isWafer 2 = .ok (.aload_n 0, 1) := by decide +kernel
theorem dX1_isWafer_3 : decode cX1_isWafer 3 = .ok (.getfield 67, 3) := by decide +kernel
theorem dX1_isWafer_6 : decode cX1_isWafer 6 = .ok (.iconst 1, 1) := by decide +kernel
theorem dX1_isWafer_7 : decode cX1_isWafer 7 = .ok (.isub, 1) := by decide +kernel
theorem dX1_isWafer_8 : decode cX1_isWafer 8 = .ok (.invokestatic 60, 3) := by decide +kernel
theorem dX1_isWafer_11 : decode cX1_isWafer 11 = .ok (.ireturn, 1) := by decide +kernel
set_option maxRecDepth 20000 in
theorem ggX1_addStep_X1_in : GoodIn wsX1_addStep wsX1_in := goodIn_r _ [11] (by decide +kernel) (by decide +kernel)
set_option maxRecDepth 20000 in
theorem gX1_addStep_X1_in : GoodIn wsX1_addStep (va_wsS RX1 60 yX1_in wsX1_in) := goodIn_app (goodIn_of _ (by decide +kernel)) ggX1_addStep_X1_in
set_option maxRecDepth 20000 in
theorem ggX1_addStep_X1_isTool : GoodIn wsX1_addStep wsX1_isTool := goodIn_r _ [14, 8, 9, 10, 11] (by decide +kernel) (by decide +kernel)
set_option maxRecDepth 20000 in
theorem gX1_addStep_X1_isTool : GoodIn wsX1_addStep (va_wsS RX1 73 yX1_isTool wsX1_isTool) := goodIn_app (goodIn_of _ (by decide +kernel)) ggX1_addStep_X1_isTool
theorem dX1_addStep_0 : decode cX1_addStep 0 = .ok (.iload_n 2, 1) := by decide +kernel
theorem dX1_addStep_1 : decode cX1_addStep 1 = .ok (.iconst 1, 1) := by decide +kernel
theorem dX1_addStep_2 : decode cX1_addStep 2 = .ok (.sipush 1000, 3) := by decide +kernel
theorem dX1_addStep_5 : decode cX1_addStep 5 = .ok (.invokestatic 60, 3) := by decide +kernel
theorem dX1_addStep_8 : decode cX1_addStep 8 = .ok (.ifCond .eq 31, 3) := by decide +kernel
theorem dX1_addStep_11 : decode cX1_addStep 11 = .ok (.iload_n 3, 1) := by decide +kernel
theorem dX1_addStep_12 : decode cX1_addStep 12 = .ok (.iconst 0, 1) := by decide +kernel
theorem dX1_addStep_13 : decode cX1_addStep 13 = .ok (.sipush 10000, 3) := by decide +kernel
theorem dX1_addStep_16 : decode cX1_addStep 16 = .ok (.invokestatic 60, 3) := by decide +kernel
theorem dX1_addStep_19 : decode cX1_addStep 19 = .ok (.ifCond .eq 20, 3) := by decide +kernel
theorem dX1_addStep_22 : decode cX1_addStep 22 = .ok (.iload 4, 2) := by decide +kernel
theorem dX1_addStep_24 : decode cX1_addStep 24 = .ok (.iconst 0, 1) := by decide +kernel
theorem dX1_addStep_25 : decode cX1_addStep 25 = .ok (.aload_n 0, 1) := by decide +kernel
theorem dX1_addStep_26 : decode cX1_addStep 26 = .ok (.getfield 70, 3) := by decide +kernel
theorem dX1_addStep_29 : decode cX1_addStep 29 = .ok (.invokestatic 60, 3) := by decide +kernel
theorem dX1_addStep_32 : decode cX1_addStep 32 = .ok (.ifCond .eq 7, 3) := by decide +kernel
theorem dX1_addStep_35 : decode cX1_addStep 35 = .ok (.iconst 1, 1) := by decide +kernel
theorem dX1_addStep_36 : decode cX1_addStep 36 = .ok (.goto 4, 3) := by decide +kernel
theorem dX1_addStep_39 : decode cX1_addStep 39 = .ok (.iconst 0, 1) := by decide +kernel
theorem dX1_addStep_40 : decode cX1_addStep 40 = .ok (.istore 5, 2) := by decide +kernel
theorem dX1_addStep_42 : decode cX1_addStep 42 = .ok (.aload_n 0, 1) := by decide +kernel
theorem dX1_addStep_43 : decode cX1_addStep 43 = .ok (.iload_n 1, 1) := by decide +kernel
theorem dX1_addStep_44 : decode cX1_addStep 44 = .ok (.invokestatic 73, 3) := by decide +kernel
theorem dX1_addStep_47 : decode cX1_addStep 47 = .ok (.ifCond .ne 7, 3) := by decide +kernel
theorem dX1_addStep_50 : decode cX1_addStep 50 = .ok (.iconst 1, 1) := by decide +kernel
theorem dX1_addStep_51 : decode cX1_addStep 51 = .ok (.goto 33, 3) := by decide +kernel
theorem dX1_addStep_54 : decode cX1_addStep 54 = .ok (.iload 5, 2) := by decide +kernel
theorem dX1_addStep_56 : decode cX1_addStep 56 = .ok (.ifCond .ne 7, 3) := by decide +kernel
theorem dX1_addStep_59 : decode cX1_addStep 59 = .ok (.iconst 2, 1) := by decide +kernel
theorem dX1_addStep_60 : decode cX1_addStep 60 = .ok (.goto 24, 3) := by decide +kernel
theorem dX1_addStep_63 : decode cX1_addStep 63 = .ok (.aload_n 0, 1) := by decide +kernel
theorem dX1_addStep_64 : decode cX1_addStep 64 = .ok (.getfield 70, 3) := by decide +kernel
theorem dX1_addStep_67 : decode cX1_addStep 67 = .ok (.bipush 12, 2) := by decide +kernel
theorem dX1_addStep_69 : decode cX1_addStep 69 = .ok (.if_icmp .eq 10, 3) := by decide +kernel
theorem dX1_addStep_72 : decode cX1_addStep 72 = .ok (.aload_n 0, 1) := by decide +kernel
theorem dX1_addStep_73 : decode cX1_addStep 73 = .ok (.getfield 64, 3) := by decide +kernel
theorem dX1_addStep_76 : decode cX1_addStep 76 = .ok (.ifCond .le 7, 3) := by decide +kernel
theorem dX1_addStep_79 : decode cX1_addStep 79 = .ok (.iconst 3, 1) := by decide +kernel
theorem dX1_addStep_80 : decode cX1_addStep 80 = .ok (.goto 4, 3) := by decide +kernel
theorem dX1_addStep_83 : decode cX1_addStep 83 = .ok (.iconst 0, 1) := by decide +kernel
theorem dX1_addStep_84 : decode cX1_addStep 84 = .ok (.putfield 56, 3) := by decide +kernel
theorem dX1_addStep_87 : decode cX1_addStep 87 = .ok (.aload_n 0, 1) := by decide +kernel
theorem dX1_addStep_88 : decode cX1_addStep 88 = .ok (.getfield 56, 3) := by decide +kernel
theorem dX1_addStep_91 : decode cX1_addStep 91 = .ok (.ifCond .le 5, 3) := by decide +kernel
theorem dX1_addStep_94 : decode cX1_addStep 94 = .ok (.iconst 0, 1) := by decide +kernel
theorem dX1_addStep_95 : decode cX1_addStep 95 = .ok (.ireturn, 1) := by decide +kernel
theorem dX1_addStep_96 : decode cX1_addStep 96 = .ok (.aload_n 0, 1) := by decide +kernel
theorem dX1_addStep_97 : decode cX1_addStep 97 = .ok (.getfield 7, 3) := by decide +kernel
theorem dX1_addStep_100 : decode cX1_addStep 100 = .ok (.aload_n 0, 1) := by decide +kernel
theorem dX1_addStep_101 : decode cX1_addStep 101 = .ok (.getfield 70, 3) := by decide +kernel
theorem dX1_addStep_104 : decode cX1_addStep 104 = .ok (.iload_n 1, 1) := by decide +kernel
theorem dX1_addStep_105 : decode cX1_addStep 105 = .ok (.iastore, 1) := by decide +kernel
theorem dX1_addStep_106 : decode cX1_addStep 106 = .ok (.aload_n 0, 1) := by decide +kernel
theorem dX1_addStep_107 : decode cX1_addStep 107 = .ok (.getfield 13, 3) := by decide +kernel
theorem dX1_addStep_110 : decode cX1_addStep 110 = .ok (.aload_n 0, 1) := by decide +kernel
theorem dX1_addStep_111 : decode cX1_addStep 111 = .ok (.getfield 70, 3) := by decide +kernel
theorem dX1_addStep_114 : decode cX1_addStep 114 = .ok (.iload_n 2, 1) := by decide +kernel
theorem dX1_addStep_115 : decode cX1_addStep 115 = .ok (.iastore, 1) := by decide +kernel
theorem dX1_addStep_116 : decode cX1_addStep 116 = .ok (.aload_n 0, 1) := by decide +kernel
theorem dX1_addStep_117 : decode cX1_addStep 117 = .ok (.getfield 16, 3) := by decide +kernel
theorem dX1_addStep_120 : decode cX1_addStep 120 = .ok (.aload_n 0, 1) := by decide +kernel
theorem dX1_addStep_121 : decode cX1_addStep 121 = .ok (.getfield 70, 3) := by decide +kernel
theorem dX1_addStep_124 : decode cX1_addStep 124 = .ok (.iload_n 3, 1) := by decide +kernel
theorem dX1_addStep_125 : decode cX1_addStep 125 = .ok (.iastore, 1) := by decide +kernel
theorem dX1_addStep_126 : decode cX1_addStep 126 = .ok (.aload_n 0, 1) := by decide +kernel
theorem dX1_addStep_127 : decode cX1_addStep 127 = .ok (.getfield 19, 3) := by decide +kernel
theorem dX1_addStep_130 : decode cX1_addStep 130 = .ok (.aload_n 0, 1) := by decide +kernel
theorem dX1_addStep_131 : decode cX1_addStep 131 = .ok (.getfield 70, 3) := by decide +kernel
theorem dX1_addStep_134 : decode cX1_addStep 134 = .ok (.iload 4, 2) := by decide +kernel
theorem dX1_addStep_136 : decode cX1_addStep 136 = .ok (.iastore, 1) := by decide +kernel
theorem dX1_addStep_137 : decode cX1_addStep 137 = .ok (.aload_n 0, 1) := by decide +kernel
theorem dX1_addStep_138 : decode cX1_addStep 138 = .ok (.dup, 1) := by decide +kernel
theorem dX1_addStep_139 : decode cX1_addStep 139 = .ok (.getfield 70, 3) := by decide +kernel
theorem dX1_addStep_142 : decode cX1_addStep 142 = .ok (.iconst 1, 1) := by decide +kernel
theorem dX1_addStep_143 : decode cX1_addStep 143 = .ok (.iadd, 1) := by decide +kernel
theorem dX1_addStep_144 : decode cX1_addStep 144 = .ok (.putfield 70, 3) := by decide +kernel
theorem dX1_addStep_147 : decode cX1_addStep 147 = .ok (.aload_n 0, 1) := by decide +kernel
theorem dX1_addStep_148 : decode cX1_addStep 148 = .ok (.getfield 70, 3) := by decide +kernel
theorem dX1_addStep_151 : decode cX1_addStep 151 = .ok (.iconst 1, 1) := by decide +kernel
theorem dX1_addStep_152 : decode cX1_addStep 152 = .ok (.isub, 1) := by decide +kernel
theorem dX1_addStep_153 : decode cX1_addStep 153 = .ok (.ireturn, 1) := by decide +kernel
theorem dX1_puts_0 : decode cX1_puts 0 = .ok (.aload_n 0, 1) := by decide +kernel
theorem dX1_puts_1 : decode cX1_puts 1 = .ok (.getfield 44, 3) := by decide +kernel
theorem dX1_puts_4 : decode cX1_puts 4 = .ok (.iload_n 1, 1) := by decide +kernel
theorem dX1_puts_5 : decode cX1_puts 5 = .ok (.iload_n 2, 1) := by decide +kernel
theorem dX1_puts_6 : decode cX1_puts 6 = .ok (.iastore, 1) := by decide +kernel
theorem dX1_puts_7 : decode cX1_puts 7 = .ok (.aload_n 0, 1) := by decide +kernel
theorem dX1_puts_8 : decode cX1_puts 8 = .ok (.getfield 50, 3) := by decide +kernel
theorem dX1_puts_11 : decode cX1_puts 11 = .ok (.bipush 48, 2) := by decide +kernel
theorem dX1_puts_13 : decode cX1_puts 13 = .ok (.iload_n 1, 1) := by decide +kernel
theorem dX1_puts_14 : decode cX1_puts 14 = .ok (.imul, 1) := by decide +kernel
theorem dX1_puts_15 : decode cX1_puts 15 = .ok (.aload_n 0, 1) := by decide +kernel
theorem dX1_puts_16 : decode cX1_puts 16 = .ok (.getfield 47, 3) := by decide +kernel
theorem dX1_puts_19 : decode cX1_puts 19 = .ok (.iload_n 1, 1) := by decide +kernel
theorem dX1_puts_20 : decode cX1_puts 20 = .ok (.iaload, 1) := by decide +kernel
theorem dX1_puts_21 : decode cX1_puts 21 = .ok (.iadd, 1) := by decide +kernel
theorem dX1_puts_22 : decode cX1_puts 22 = .ok (.iload_n 2, 1) := by decide +kernel
theorem dX1_puts_23 : decode cX1_puts 23 = .ok (.iastore, 1) := by decide +kernel
theorem dX1_puts_24 : decode cX1_puts 24 = .ok (.aload_n 0, 1) := by decide +kernel
theorem dX1_puts_25 : decode cX1_puts 25 = .ok (.getfield 47, 3) := by decide +kernel
theorem dX1_puts_28 : decode cX1_puts 28 = .ok (.iload_n 1, 1) := by decide +kernel
theorem dX1_puts_29 : decode cX1_puts 29 = .ok (.dup2, 1) := by decide +kernel
theorem dX1_puts_30 : decode cX1_puts 30 = .ok (.iaload, 1) := by decide +kernel
theorem dX1_puts_31 : decode cX1_puts 31 = .ok (.iconst 1, 1) := by decide +kernel
theorem dX1_puts_32 : decode cX1_puts 32 = .ok (.iadd, 1) := by decide +kernel
theorem dX1_puts_33 : decode cX1_puts 33 = .ok (.iastore, 1) := by decide +kernel
theorem dX1_puts_34 : decode cX1_puts 34 = .ok (.return_, 1) := by decide +kernel
theorem dX1_count_0 : decode cX1_count 0 = .ok (.iconst 0, 1) := by decide +kernel
theorem dX1_count_1 : decode cX1_count 1 = .ok (.istore_n 2, 1) := by decide +kernel
theorem dX1_count_2 : decode cX1_count 2 = .ok (.iconst 0, 1) := by decide +kernel
theorem dX1_count_3 : decode cX1_count 3 = .ok (.istore_n 3, 1) := by decide +kernel
theorem dX1_count_4 : decode cX1_count 4 = .ok (.iload_n 3, 1) := by decide +kernel
theorem dX1_count_5 : decode cX1_count 5 = .ok (.aload_n 0, 1) := by decide +kernel
theorem dX1_count_6 : decode cX1_count 6 = .ok (.getfield 67, 3) := by decide +kernel
theorem dX1_count_9 : decode cX1_count 9 = .ok (.if_icmp .ge 27, 3) := by decide +kernel
theorem dX1_count_12 : decode cX1_count 12 = .ok (.iload_n 2, 1) := by decide +kernel
theorem dX1_count_13 : decode cX1_count 13 = .ok (.aload_n 0, 1) := by decide +kernel
theorem dX1_count_14 : decode cX1_count 14 = .ok (.getfield 44, 3) := by decide +kernel
theorem dX1_count_17 : decode cX1_count 17 = .ok (.iload_n 3, 1) := by decide +kernel
theorem dX1_count_18 : decode cX1_count 18 = .ok (.iaload, 1) := by decide +kernel
theorem dX1_count_19 : decode cX1_count 19 = .ok (.iload_n 1, 1) := by decide +kernel
theorem dX1_count_20 : decode cX1_count 20 = .ok (.if_icmp .ne 7, 3) := by decide +kernel
theorem dX1_count_23 : decode cX1_count 23 = .ok (.iconst 1, 1) := by decide +kernel
theorem dX1_count_24 : decode cX1_count 24 = .ok (.goto 4, 3) := by decide +kernel
theorem dX1_count_27 : decode cX1_count 27 = .ok (.iconst 0, 1) := by decide +kernel
theorem dX1_count_28 : decode cX1_count 28 = .ok (.iadd, 1) := by decide +kernel
theorem dX1_count_29 : decode cX1_count 29 = .ok (.istore_n 2, 1) := by decide +kernel
theorem dX1_count_30 : decode cX1_count 30 = .ok (.iinc 3 1, 3) := by decide +kernel
theorem dX1_count_33 : decode cX1_count 33 = .ok (.goto (-29), 3) := by decide +kernel
theorem dX1_count_36 : decode cX1_count 36 = .ok (.iload_n 2, 1) := by decide +kernel
theorem dX1_count_37 : decode cX1_count 37 = .ok (.ireturn, 1) := by decide +kernel
set_option maxRecDepth 20000 in
theorem ggX1_enter_X1_in : GoodIn wsX1_enter wsX1_in := goodIn_r _ [11] (by decide +kernel) (by decide +kernel)
set_option maxRecDepth 20000 in
theorem gX1_enter_X1_in : GoodIn wsX1_enter (va_wsS RX1 60 yX1_in wsX1_in) := goodIn_app (goodIn_of _ (by decide +kernel)) ggX1_enter_X1_in
set_option maxRecDepth 20000 in
theorem ggX1_enter_X1_puts : GoodIn wsX1_enter wsX1_puts := goodIn_r _ [15, 16, 17, 18, 19, 20, 21, 22, 23, 24, 25, 26, 27, 28, 29, 30, 31, 32, 33, 34, 35, 36, 37, 38] (by decide +kernel) (by decide +kernel)
set_option maxRecDepth 20000 in
theorem gX1_enter_X1_puts : GoodIn wsX1_enter (wsV RX1 80 RX1 yX1_puts wsX1_puts) := goodIn_app (goodIn_of _ (by decide +kernel)) ggX1_enter_X1_puts
theorem dX1_enter_0 : decode cX1_enter 0 = .ok (.aload_n 0, 1) := by decide +kernel
theorem dX1_enter_1 : decode cX1_enter 1 = .ok (.iload_n 1, 1) := by decide +kernel
theorem dX1_enter_2 : decode cX1_enter 2 = .ok (.iconst 1, 1) := by decide +kernel
theorem dX1_enter_3 : decode cX1_enter 3 = .ok (.bipush 12, 2) := by decide +kernel
theorem dX1_enter_5 : decode cX1_enter 5 = .ok (.invokestatic 60, 3) := by decide +kernel
theorem dX1_enter_8 : decode cX1_enter 8 = .ok (.ifCond .ne 7, 3) := by decide +kernel
theorem dX1_enter_11 : decode cX1_enter 11 = .ok (.iconst 1, 1) := by decide +kernel
theorem dX1_enter_12 : decode cX1_enter 12 = .ok (.goto 35, 3) := by decide +kernel
theorem dX1_enter_15 : decode cX1_enter 15 = .ok (.aload_n 0, 1) := by decide +kernel
theorem dX1_enter_16 : decode cX1_enter 16 = .ok (.getfield 70, 3) := by decide +kernel
theorem dX1_enter_19 : decode cX1_enter 19 = .ok (.ifCond .eq 23, 3) := by decide +kernel
theorem dX1_enter_22 : decode cX1_enter 22 = .ok (.aload_n 0, 1) := by decide +kernel
theorem dX1_enter_23 : decode cX1_enter 23 = .ok (.getfield 64, 3) := by decide +kernel
theorem dX1_enter_26 : decode cX1_enter 26 = .ok (.bipush 24, 2) := by decide +kernel
theorem dX1_enter_28 : decode cX1_enter 28 = .ok (.if_icmp .eq 14, 3) := by decide +kernel
theorem dX1_enter_31 : decode cX1_enter 31 = .ok (.aload_n 0, 1) := by decide +kernel
theorem dX1_enter_32 : decode cX1_enter 32 = .ok (.getfield 67, 3) := by decide +kernel
theorem dX1_enter_35 : decode cX1_enter 35 = .ok (.iload_n 1, 1) := by decide +kernel
theorem dX1_enter_36 : decode cX1_enter 36 = .ok (.iadd, 1) := by decide +kernel
theorem dX1_enter_37 : decode cX1_enter 37 = .ok (.bipush 60, 2) := by decide +kernel
theorem dX1_enter_39 : decode cX1_enter 39 = .ok (.if_icmp .le 7, 3) := by decide +kernel
theorem dX1_enter_42 : decode cX1_enter 42 = .ok (.iconst 2, 1) := by decide +kernel
theorem dX1_enter_43 : decode cX1_enter 43 = .ok (.goto 4, 3) := by decide +kernel
theorem dX1_enter_46 : decode cX1_enter 46 = .ok (.iconst 0, 1) := by decide +kernel
theorem dX1_enter_47 : decode cX1_enter 47 = .ok (.putfield 56, 3) := by decide +kernel
theorem dX1_enter_50 : decode cX1_enter 50 = .ok (.aload_n 0, 1) := by decide +kernel
theorem dX1_enter_51 : decode cX1_enter 51 = .ok (.getfield 56, 3) := by decide +kernel
theorem dX1_enter_54 : decode cX1_enter 54 = .ok (.ifCond .le 5, 3) := by decide +kernel
theorem dX1_enter_57 : decode cX1_enter 57 = .ok (.iconst 0, 1) := by decide +kernel
theorem dX1_enter_58 : decode cX1_enter 58 = .ok (.ireturn, 1) := by decide +kernel
theorem dX1_enter_59 : decode cX1_enter 59 = .ok (.aload_n 0, 1) := by decide +kernel
theorem dX1_enter_60 : decode cX1_enter 60 = .ok (.getfield 41, 3) := by decide +kernel
theorem dX1_enter_63 : decode cX1_enter 63 = .ok (.aload_n 0, 1) := by decide +kernel
theorem dX1_enter_64 : decode cX1_enter 64 = .ok (.getfield 64, 3) := by decide +kernel
theorem dX1_enter_67 : decode cX1_enter 67 = .ok (.iconst (-1), 1) := by decide +kernel
theorem dX1_enter_68 : decode cX1_enter 68 = .ok (.iastore, 1) := by decide +kernel
theorem dX1_enter_69 : decode cX1_enter 69 = .ok (.aload_n 0, 1) := by decide +kernel
theorem dX1_enter_70 : decode cX1_enter 70 = .ok (.getfield 28, 3) := by decide +kernel
theorem dX1_enter_73 : decode cX1_enter 73 = .ok (.aload_n 0, 1) := by decide +kernel
theorem dX1_enter_74 : decode cX1_enter 74 = .ok (.getfield 64, 3) := by decide +kernel
theorem dX1_enter_77 : decode cX1_enter 77 = .ok (.aload_n 0, 1) := by decide +kernel
theorem dX1_enter_78 : decode cX1_enter 78 = .ok (.getfield 77, 3) := by decide +kernel
theorem dX1_enter_81 : decode cX1_enter 81 = .ok (.iastore, 1) := by decide +kernel
theorem dX1_enter_82 : decode cX1_enter 82 = .ok (.iconst 0, 1) := by decide +kernel
theorem dX1_enter_83 : decode cX1_enter 83 = .ok (.istore_n 2, 1) := by decide +kernel
theorem dX1_enter_84 : decode cX1_enter 84 = .ok (.iload_n 2, 1) := by decide +kernel
theorem dX1_enter_85 : decode cX1_enter 85 = .ok (.iload_n 1, 1) := by decide +kernel
theorem dX1_enter_86 : decode cX1_enter 86 = .ok (.if_icmp .ge 31, 3) := by decide +kernel
theorem dX1_enter_89 : decode cX1_enter 89 = .ok (.aload_n 0, 1) := by decide +kernel
theorem dX1_enter_90 : decode cX1_enter 90 = .ok (.aload_n 0, 1) := by decide +kernel
theorem dX1_enter_91 : decode cX1_enter 91 = .ok (.getfield 67, 3) := by decide +kernel
theorem dX1_enter_94 : decode cX1_enter 94 = .ok (.aload_n 0, 1) := by decide +kernel
theorem dX1_enter_95 : decode cX1_enter 95 = .ok (.getfield 64, 3) := by decide +kernel
theorem dX1_enter_98 : decode cX1_enter 98 = .ok (.invokevirtual 80, 3) := by decide +kernel
theorem dX1_enter_101 : decode cX1_enter 101 = .ok (.aload_n 0, 1) := by decide +kernel
theorem dX1_enter_102 : decode cX1_enter 102 = .ok (.dup, 1) := by decide +kernel
theorem dX1_enter_103 : decode cX1_enter 103 = .ok (.getfield 67, 3) := by decide +kernel
theorem dX1_enter_106 : decode cX1_enter 106 = .ok (.iconst 1, 1) := by decide +kernel
theorem dX1_enter_107 : decode cX1_enter 107 = .ok (.iadd, 1) := by decide +kernel
theorem dX1_enter_108 : decode cX1_enter 108 = .ok (.putfield 67, 3) := by decide +kernel
theorem dX1_enter_111 : decode cX1_enter 111 = .ok (.iinc 2 1, 3) := by decide +kernel
theorem dX1_enter_114 : decode cX1_enter 114 = .ok (.goto (-30), 3) := by decide +kernel
theorem dX1_enter_117 : decode cX1_enter 117 = .ok (.aload_n 0, 1) := by decide +kernel
theorem dX1_enter_118 : decode cX1_enter 118 = .ok (.dup, 1) := by decide +kernel
theorem dX1_enter_119 : decode cX1_enter 119 = .ok (.getfield 64, 3) := by decide +kernel
theorem dX1_enter_122 : decode cX1_enter 122 = .ok (.iconst 1, 1) := by decide +kernel
theorem dX1_enter_123 : decode cX1_enter 123 = .ok (.iadd, 1) := by decide +kernel
theorem dX1_enter_124 : decode cX1_enter 124 = .ok (.putfield 64, 3) := by decide +kernel
theorem dX1_enter_127 : decode cX1_enter 127 = .ok (.aload_n 0, 1) := by decide +kernel
theorem dX1_enter_128 : decode cX1_enter 128 = .ok (.getfield 64, 3) := by decide +kernel
theorem dX1_enter_131 : decode cX1_enter 131 = .ok (.iconst 1, 1) := by decide +kernel
theorem dX1_enter_132 : decode cX1_enter 132 = .ok (.isub, 1) := by decide +kernel
theorem dX1_enter_133 : decode cX1_enter 133 = .ok (.ireturn, 1) := by decide +kernel
theorem dX1_waited_0 : decode cX1_waited 0 = .ok (.aload_n 0, 1) := by decide +kernel
theorem dX1_waited_1 : decode cX1_waited 1 = .ok (.getfield 77, 3) := by decide +kernel
theorem dX1_waited_4 : decode cX1_waited 4 = .ok (.aload_n 0, 1) := by decide +kernel
theorem dX1_waited_5 : decode cX1_waited 5 = .ok (.getfield 28, 3) := by decide +kernel
theorem dX1_waited_8 : decode cX1_waited 8 = .ok (.iload_n 1, 1) := by decide +kernel
theorem dX1_waited_9 : decode cX1_waited 9 = .ok (.iaload, 1) := by decide +kernel
theorem dX1_waited_10 : decode cX1_waited 10 = .ok (.isub, 1) := by decide +kernel
theorem dX1_waited_11 : decode cX1_waited 11 = .ok (.ireturn, 1) := by decide +kernel
set_option maxRecDepth 20000 in
theorem ggX1_tooLate_X1_waited : GoodIn wsX1_tooLate wsX1_waited := goodIn_r _ [8, 9, 10, 11, 12, 13, 14, 15, 16, 17, 18, 19, 20, 21, 22, 23, 24, 25, 26, 27, 28, 29, 30] (by decide +kernel) (by decide +kernel)
set_option maxRecDepth 20000 in
theorem gX1_tooLate_X1_waited : GoodIn wsX1_tooLate (wsV RX1 84 RX1 yX1_waited wsX1_waited) := goodIn_app (goodIn_of _ (by decide +kernel)) ggX1_tooLate_X1_waited
theorem dX1_tooLate_0 : decode cX1_tooLate 0 = .ok (.aload_n 0, 1) := by decide +kernel
theorem dX1_tooLate_1 : decode cX1_tooLate 1 = .ok (.getfield 22, 3) := by decide +kernel
theorem dX1_tooLate_4 : decode cX1_tooLate 4 = .ok (.iload_n 1, 1) := by decide +kernel
theorem dX1_tooLate_5 : decode cX1_tooLate 5 = .ok (.iaload, 1) := by decide +kernel
theorem dX1_tooLate_6 : decode cX1_tooLate 6 = .ok (.ifCond .ne 40, 3) := by decide +kernel
theorem dX1_tooLate_9 : decode cX1_tooLate 9 = .ok (.aload_n 0, 1) := by decide +kernel
theorem dX1_tooLate_10 : decode cX1_tooLate 10 = .ok (.getfield 16, 3) := by decide +kernel
theorem dX1_tooLate_13 : decode cX1_tooLate 13 = .ok (.aload_n 0, 1) := by decide +kernel
theorem dX1_tooLate_14 : decode cX1_tooLate 14 = .ok (.getfield 25, 3) := by decide +kernel
theorem dX1_tooLate_17 : decode cX1_tooLate 17 = .ok (.iload_n 1, 1) := by decide +kernel
theorem dX1_tooLate_18 : decode cX1_tooLate 18 = .ok (.iaload, 1) := by decide +kernel
theorem dX1_tooLate_19 : decode cX1_tooLate 19 = .ok (.iaload, 1) := by decide +kernel
theorem dX1_tooLate_20 : decode cX1_tooLate 20 = .ok (.ifCond .le 26, 3) := by decide +kernel
theorem dX1_tooLate_23 : decode cX1_tooLate 23 = .ok (.aload_n 0, 1) := by decide +kernel
theorem dX1_tooLate_24 : decode cX1_tooLate 24 = .ok (.iload_n 1, 1) := by decide +kernel
theorem dX1_tooLate_25 : decode cX1_tooLate 25 = .ok (.invokevirtual 84, 3) := by decide +kernel
theorem dX1_tooLate_28 : decode cX1_tooLate 28 = .ok (.aload_n 0, 1) := by decide +kernel
theorem dX1_tooLate_29 : decode cX1_tooLate 29 = .ok (.getfield 16, 3) := by decide +kernel
theorem dX1_tooLate_32 : decode cX1_tooLate 32 = .ok (.aload_n 0, 1) := by decide +kernel
theorem dX1_tooLate_33 : decode cX1_tooLate 33 = .ok (.getfield 25, 3) := by decide +kernel
theorem dX1_tooLate_36 : decode cX1_tooLate 36 = .ok (.iload_n 1, 1) := by decide +kernel
theorem dX1_tooLate_37 : decode cX1_tooLate 37 = .ok (.iaload, 1) := by decide +kernel
theorem dX1_tooLate_38 : decode cX1_tooLate 38 = .ok (.iaload, 1) := by decide +kernel
theorem dX1_tooLate_39 : decode cX1_tooLate 39 = .ok (.if_icmp .le 7, 3) := by decide +kernel
theorem dX1_tooLate_42 : decode cX1_tooLate 42 = .ok (.iconst 1, 1) := by decide +kernel
theorem dX1_tooLate_43 : decode cX1_tooLate 43 = .ok (.goto 4, 3) := by decide +kernel
theorem dX1_tooLate_46 : decode cX1_tooLate 46 = .ok (.iconst 0, 1) := by decide +kernel
theorem dX1_tooLate_47 : decode cX1_tooLate 47 = .ok (.ireturn, 1) := by decide +kernel
theorem dX1_isBusy_0 : decode cX1_isBusy 0 = .ok (.iconst 0, 1) := by decide +kernel
theorem dX1_isBusy_1 : decode cX1_isBusy 1 = .ok (.istore_n 2, 1) := by decide +kernel
theorem dX1_isBusy_2 : decode cX1_isBusy 2 = .ok (.iconst 0, 1) := by decide +kernel
theorem dX1_isBusy_3 : decode cX1_isBusy 3 = .ok (.istore_n 3, 1) := by decide +kernel
theorem dX1_isBusy_4 : decode cX1_isBusy 4 = .ok (.iload_n 3, 1) := by decide +kernel
theorem dX1_isBusy_5 : decode cX1_isBusy 5 = .ok (.aload_n 0, 1) := by decide +kernel
theorem dX1_isBusy_6 : decode cX1_isBusy 6 = .ok (.getfield 64, 3) := by decide +kernel
theorem dX1_isBusy_9 : decode cX1_isBusy 9 = .ok (.if_icmp .ge 44, 3) := by decide +kernel
theorem dX1_isBusy_12 : decode cX1_isBusy 12 = .ok (.iload_n 2, 1) := by decide +kernel
theorem dX1_isBusy_13 : decode cX1_isBusy 13 = .ok (.ifCond .ne 28, 3) := by decide +kernel
theorem dX1_isBusy_16 : decode cX1_isBusy 16 = .ok (.aload_n 0, 1) := by decide +kernel
theorem dX1_isBusy_17 : decode cX1_isBusy 17 = .ok (.getfield 22, 3) := by decide +kernel
theorem dX1_isBusy_20 : decode cX1_isBusy 20 = .ok (.iload_n 3, 1) := by decide +kernel
theorem dX1_isBusy_21 : decode cX1_isBusy 21 = .ok (.iaload, 1) := by decide +kernel
theorem dX1_isBusy_22 : decode cX1_isBusy 22 = .ok (.iconst 1, 1) := by decide +kernel
theorem dX1_isBusy_23 : decode cX1_isBusy 23 = .ok (.if_icmp .ne 22, 3) := by decide +kernel
theorem dX1_isBusy_26 : decode cX1_isBusy 26 = .ok (.aload_n 0, 1) := by decide +kernel
theorem dX1_isBusy_27 : decode cX1_isBusy 27 = .ok (.getfield 7, 3) := by decide +kernel
theorem dX1_isBusy_30 : decode cX1_isBusy 30 = .ok (.aload_n 0, 1) := by decide +kernel
theorem dX1_isBusy_31 : decode cX1_isBusy 31 = .ok (.getfield 25, 3) := by decide +kernel
theorem dX1_isBusy_34 : decode cX1_isBusy 34 = .ok (.iload_n 3, 1) := by decide +kernel
theorem dX1_isBusy_35 : decode cX1_isBusy 35 = .ok (.iaload, 1) := by decide +kernel
theorem dX1_isBusy_36 : decode cX1_isBusy 36 = .ok (.iaload, 1) := by decide +kernel
theorem dX1_isBusy_37 : decode cX1_isBusy 37 = .ok (.iload_n 1, 1) := by decide +kernel
theorem dX1_isBusy_38 : decode cX1_isBusy 38 = .ok (.if_icmp .ne 7, 3) := by decide +kernel
theorem dX1_isBusy_41 : decode cX1_isBusy 41 = .ok (.iconst 1, 1) := by decide +kernel
theorem dX1_isBusy_42 : decode cX1_isBusy 42 = .ok (.goto 4, 3) := by decide +kernel
theorem dX1_isBusy_45 : decode cX1_isBusy 45 = .ok (.iconst 0, 1) := by decide +kernel
theorem dX1_isBusy_46 : decode cX1_isBusy 46 = .ok (.istore_n 2, 1) := by decide +kernel
theorem dX1_isBusy_47 : decode cX1_isBusy 47 = .ok (.iinc 3 1, 3) := by decide +kernel
theorem dX1_isBusy_50 : decode cX1_isBusy 50 = .ok (.goto (-46), 3) := by decide +kernel
theorem dX1_isBusy_53 : decode cX1_isBusy 53 = .ok (.iload_n 2, 1) := by decide +kernel
theorem dX1_isBusy_54 : decode cX1_isBusy 54 = .ok (.ireturn, 1) := by decide +kernel
set_option maxRecDepth 20000 in
theorem ggX1_start_X1_isLot : GoodIn wsX1_start wsX1_isLot := goodIn_r _ [13, 14, 15, 16, 12, 17, 32, 33, 34, 35, 36, 37, 38, 39, 40, 41, 42, 43, 44, 45, 46, 47, 48, 49, 50, 51] (by decide +kernel) (by decide +kernel)
set_option maxRecDepth 20000 in
theorem gX1_start_X1_isLot : GoodIn wsX1_start (wsV RX1 88 RX1 yX1_isLot wsX1_isLot) := goodIn_app (goodIn_of _ (by decide +kernel)) ggX1_start_X1_isLot
set_option maxRecDepth 20000 in
theorem ggX1_start_X1_tooLate : GoodIn wsX1_start wsX1_tooLate := goodIn_r _ [21, 2, 22, 5, 23, 24, 25, 12, 26, 7, 27, 32, 33, 34, 35, 36, 37, 38, 39, 40, 41, 42, 43, 44, 45, 46, 47, 48, 49, 50, 51] (by decide +kernel) (by decide +kernel)
set_option maxRecDepth 20000 in
theorem gX1_start_X1_tooLate : GoodIn wsX1_start (wsV RX1 91 RX1 yX1_tooLate wsX1_tooLate) := goodIn_app (goodIn_of _ (by decide +kernel)) ggX1_start_X1_tooLate
set_option maxRecDepth 20000 in
theorem ggX1_start_X1_isBusy : GoodIn wsX1_start wsX1_isBusy := goodIn_r _ [31, 14, 2, 4, 5, 32, 33, 34, 35, 36, 37, 38, 39, 40, 41, 42, 43, 44, 45, 46, 47, 48, 49, 50, 51] (by decide +kernel) (by decide +kernel)
set_option maxRecDepth 20000 in
theorem gX1_start_X1_isBusy : GoodIn wsX1_start (wsV RX1 94 RX1 yX1_isBusy wsX1_isBusy) := goodIn_app (goodIn_of _ (by decide +kernel)) ggX1_start_X1_isBusy
theorem dX1_start_0 : decode cX1_start 0 = .ok (.aload_n 0, 1) := by decide +kernel
theorem dX1_start_1 : decode cX1_start 1 = .ok (.aload_n 0, 1) := by decide +kernel
theorem dX1_start_2 : decode cX1_start 2 = .ok (.iload_n 1, 1) := by decide +kernel
theorem dX1_start_3 : decode cX1_start 3 = .ok (.invokevirtual 88, 3) := by decide +kernel
theorem dX1_start_6 : decode cX1_start 6 = .ok (.ifCond .eq 7, 3) := by decide +kernel
theorem dX1_start_9 : decode cX1_start 9 = .ok (.iconst 0, 1) := by decide +kernel
theorem dX1_start_10 : decode cX1_start 10 = .ok (.goto 4, 3) := by decide +kernel
theorem dX1_start_13 : decode cX1_start 13 = .ok (.iconst 1, 1) := by decide +kernel
theorem dX1_start_14 : decode cX1_start 14 = .ok (.putfield 56, 3) := by decide +kernel
theorem dX1_start_17 : decode cX1_start 17 = .ok (.aload_n 0, 1) := by decide +kernel
theorem dX1_start_18 : decode cX1_start 18 = .ok (.getfield 56, 3) := by decide +kernel
theorem dX1_start_21 : decode cX1_start 21 = .ok (.ifCond .le 5, 3) := by decide +kernel
theorem dX1_start_24 : decode cX1_start 24 = .ok (.iconst 0, 1) := by decide +kernel
theorem dX1_start_25 : decode cX1_start 25 = .ok (.ireturn, 1) := by decide +kernel
theorem dX1_start_26 : decode cX1_start 26 = .ok (.aload_n 0, 1) := by decide +kernel
theorem dX1_start_27 : decode cX1_start 27 = .ok (.aload_n 0, 1) := by decide +kernel
theorem dX1_start_28 : decode cX1_start 28 = .ok (.getfield 22, 3) := by decide +kernel
theorem dX1_start_31 : decode cX1_start 31 = .ok (.iload_n 1, 1) := by decide +kernel
theorem dX1_start_32 : decode cX1_start 32 = .ok (.iaload, 1) := by decide +kernel
theorem dX1_start_33 : decode cX1_start 33 = .ok (.ifCond .ne 38, 3) := by decide +kernel
theorem dX1_start_36 : decode cX1_start 36 = .ok (.aload_n 0, 1) := by decide +kernel
theorem dX1_start_37 : decode cX1_start 37 = .ok (.getfield 34, 3) := by decide +kernel
theorem dX1_start_40 : decode cX1_start 40 = .ok (.iload_n 1, 1) := by decide +kernel
theorem dX1_start_41 : decode cX1_start 41 = .ok (.baload, 1) := by decide +kernel
theorem dX1_start_42 : decode cX1_start 42 = .ok (.ifCond .ne 29, 3) := by decide +kernel
theorem dX1_start_45 : decode cX1_start 45 = .ok (.aload_n 0, 1) := by decide +kernel
theorem dX1_start_46 : decode cX1_start 46 = .ok (.iload_n 1, 1) := by decide +kernel
theorem dX1_start_47 : decode cX1_start 47 = .ok (.invokevirtual 91, 3) := by decide +kernel
theorem dX1_start_50 : decode cX1_start 50 = .ok (.ifCond .ne 21, 3) := by decide +kernel
theorem dX1_start_53 : decode cX1_start 53 = .ok (.aload_n 0, 1) := by decide +kernel
theorem dX1_start_54 : decode cX1_start 54 = .ok (.aload_n 0, 1) := by decide +kernel
theorem dX1_start_55 : decode cX1_start 55 = .ok (.getfield 7, 3) := by decide +kernel
theorem dX1_start_58 : decode cX1_start 58 = .ok (.aload_n 0, 1) := by decide +kernel
theorem dX1_start_59 : decode cX1_start 59 = .ok (.getfield 25, 3) := by decide +kernel
theorem dX1_start_62 : decode cX1_start 62 = .ok (.iload_n 1, 1) := by decide +kernel
theorem dX1_start_63 : decode cX1_start 63 = .ok (.iaload, 1) := by decide +kernel
theorem dX1_start_64 : decode cX1_start 64 = .ok (.iaload, 1) := by decide +kernel
theorem dX1_start_65 : decode cX1_start 65 = .ok (.invokevirtual 94, 3) := by decide +kernel
theorem dX1_start_68 : decode cX1_start 68 = .ok (.ifCond .eq 7, 3) := by decide +kernel
theorem dX1_start_71 : decode cX1_start 71 = .ok (.iconst 2, 1) := by decide +kernel
theorem dX1_start_72 : decode cX1_start 72 = .ok (.goto 4, 3) := by decide +kernel
theorem dX1_start_75 : decode cX1_start 75 = .ok (.iconst 0, 1) := by decide +kernel
theorem dX1_start_76 : decode cX1_start 76 = .ok (.putfield 56, 3) := by decide +kernel
theorem dX1_start_79 : decode cX1_start 79 = .ok (.aload_n 0, 1) := by decide +kernel
theorem dX1_start_80 : decode cX1_start 80 = .ok (.getfield 56, 3) := by decide +kernel
theorem dX1_start_83 : decode cX1_start 83 = .ok (.ifCond .le 5, 3) := by decide +kernel
theorem dX1_start_86 : decode cX1_start 86 = .ok (.iconst 0, 1) := by decide +kernel
theorem dX1_start_87 : decode cX1_start 87 = .ok (.ireturn, 1) := by decide +kernel
theorem dX1_start_88 : decode cX1_start 88 = .ok (.aload_n 0, 1) := by decide +kernel
theorem dX1_start_89 : decode cX1_start 89 = .ok (.getfield 22, 3) := by decide +kernel
theorem dX1_start_92 : decode cX1_start 92 = .ok (.iload_n 1, 1) := by decide +kernel
theorem dX1_start_93 : decode cX1_start 93 = .ok (.iconst 1, 1) := by decide +kernel
theorem dX1_start_94 : decode cX1_start 94 = .ok (.iastore, 1) := by decide +kernel
theorem dX1_start_95 : decode cX1_start 95 = .ok (.aload_n 0, 1) := by decide +kernel
theorem dX1_start_96 : decode cX1_start 96 = .ok (.getfield 31, 3) := by decide +kernel
theorem dX1_start_99 : decode cX1_start 99 = .ok (.iload_n 1, 1) := by decide +kernel
theorem dX1_start_100 : decode cX1_start 100 = .ok (.aload_n 0, 1) := by decide +kernel
theorem dX1_start_101 : decode cX1_start 101 = .ok (.getfield 77, 3) := by decide +kernel
theorem dX1_start_104 : decode cX1_start 104 = .ok (.aload_n 0, 1) := by decide +kernel
theorem dX1_start_105 : decode cX1_start 105 = .ok (.getfield 13, 3) := by decide +kernel
theorem dX1_start_108 : decode cX1_start 108 = .ok (.aload_n 0, 1) := by decide +kernel
theorem dX1_start_109 : decode cX1_start 109 = .ok (.getfield 25, 3) := by decide +kernel
theorem dX1_start_112 : decode cX1_start 112 = .ok (.iload_n 1, 1) := by decide +kernel
theorem dX1_start_113 : decode cX1_start 113 = .ok (.iaload, 1) := by decide +kernel
theorem dX1_start_114 : decode cX1_start 114 = .ok (.iaload, 1) := by decide +kernel
theorem dX1_start_115 : decode cX1_start 115 = .ok (.iadd, 1) := by decide +kernel
theorem dX1_start_116 : decode cX1_start 116 = .ok (.iastore, 1) := by decide +kernel
theorem dX1_start_117 : decode cX1_start 117 = .ok (.aload_n 0, 1) := by decide +kernel
theorem dX1_start_118 : decode cX1_start 118 = .ok (.getfield 31, 3) := by decide +kernel
theorem dX1_start_121 : decode cX1_start 121 = .ok (.iload_n 1, 1) := by decide +kernel
theorem dX1_start_122 : decode cX1_start 122 = .ok (.iaload, 1) := by decide +kernel
theorem dX1_start_123 : decode cX1_start 123 = .ok (.ireturn, 1) := by decide +kernel
set_option maxRecDepth 20000 in
theorem ggX1_rework_X1_isLot : GoodIn wsX1_rework wsX1_isLot := goodIn_r _ [13, 14, 15, 16, 12, 17, 18, 19, 20, 21, 22, 23, 24, 25, 26, 27, 28, 29, 30, 31, 32, 33, 34, 35, 36, 37] (by decide +kernel) (by decide +kernel)
set_option maxRecDepth 20000 in
theorem gX1_rework_X1_isLot : GoodIn wsX1_rework (wsV RX1 88 RX1 yX1_isLot wsX1_isLot) := goodIn_app (goodIn_of _ (by decide +kernel)) ggX1_rework_X1_isLot
theorem dX1_rework_0 : decode cX1_rework 0 = .ok (.aload_n 0, 1) := by decide +kernel
theorem dX1_rework_1 : decode cX1_rework 1 = .ok (.aload_n 0, 1) := by decide +kernel
theorem dX1_rework_2 : decode cX1_rework 2 = .ok (.iload_n 1, 1) := by decide +kernel
theorem dX1_rework_3 : decode cX1_rework 3 = .ok (.invokevirtual 88, 3) := by decide +kernel
theorem dX1_rework_6 : decode cX1_rework 6 = .ok (.ifCond .ne 7, 3) := by decide +kernel
theorem dX1_rework_9 : decode cX1_rework 9 = .ok (.iconst 1, 1) := by decide +kernel
theorem dX1_rework_10 : decode cX1_rework 10 = .ok (.goto 36, 3) := by decide +kernel
theorem dX1_rework_13 : decode cX1_rework 13 = .ok (.aload_n 0, 1) := by decide +kernel
theorem dX1_rework_14 : decode cX1_rework 14 = .ok (.getfield 22, 3) := by decide +kernel
theorem dX1_rework_17 : decode cX1_rework 17 = .ok (.iload_n 1, 1) := by decide +kernel
theorem dX1_rework_18 : decode cX1_rework 18 = .ok (.iaload, 1) := by decide +kernel
theorem dX1_rework_19 : decode cX1_rework 19 = .ok (.ifCond .ne 22, 3) := by decide +kernel
theorem dX1_rework_22 : decode cX1_rework 22 = .ok (.aload_n 0, 1) := by decide +kernel
theorem dX1_rework_23 : decode cX1_rework 23 = .ok (.getfield 34, 3) := by decide +kernel
theorem dX1_rework_26 : decode cX1_rework 26 = .ok (.iload_n 1, 1) := by decide +kernel
theorem dX1_rework_27 : decode cX1_rework 27 = .ok (.baload, 1) := by decide +kernel
theorem dX1_rework_28 : decode cX1_rework 28 = .ok (.ifCond .ne 13, 3) := by decide +kernel
theorem dX1_rework_31 : decode cX1_rework 31 = .ok (.aload_n 0, 1) := by decide +kernel
theorem dX1_rework_32 : decode cX1_rework 32 = .ok (.getfield 38, 3) := by decide +kernel
theorem dX1_rework_35 : decode cX1_rework 35 = .ok (.iload_n 1, 1) := by decide +kernel
theorem dX1_rework_36 : decode cX1_rework 36 = .ok (.iaload, 1) := by decide +kernel
theorem dX1_rework_37 : decode cX1_rework 37 = .ok (.iconst 2, 1) := by decide +kernel
theorem dX1_rework_38 : decode cX1_rework 38 = .ok (.if_icmp .ne 7, 3) := by decide +kernel
theorem dX1_rework_41 : decode cX1_rework 41 = .ok (.iconst 2, 1) := by decide +kernel
theorem dX1_rework_42 : decode cX1_rework 42 = .ok (.goto 4, 3) := by decide +kernel
theorem dX1_rework_45 : decode cX1_rework 45 = .ok (.iconst 0, 1) := by decide +kernel
theorem dX1_rework_46 : decode cX1_rework 46 = .ok (.putfield 56, 3) := by decide +kernel
theorem dX1_rework_49 : decode cX1_rework 49 = .ok (.aload_n 0, 1) := by decide +kernel
theorem dX1_rework_50 : decode cX1_rework 50 = .ok (.getfield 56, 3) := by decide +kernel
theorem dX1_rework_53 : decode cX1_rework 53 = .ok (.ifCond .le 5, 3) := by decide +kernel
theorem dX1_rework_56 : decode cX1_rework 56 = .ok (.iconst 0, 1) := by decide +kernel
theorem dX1_rework_57 : decode cX1_rework 57 = .ok (.ireturn, 1) := by decide +kernel
theorem dX1_rework_58 : decode cX1_rework 58 = .ok (.aload_n 0, 1) := by decide +kernel
theorem dX1_rework_59 : decode cX1_rework 59 = .ok (.getfield 25, 3) := by decide +kernel
theorem dX1_rework_62 : decode cX1_rework 62 = .ok (.iload_n 1, 1) := by decide +kernel
theorem dX1_rework_63 : decode cX1_rework 63 = .ok (.aload_n 0, 1) := by decide +kernel
theorem dX1_rework_64 : decode cX1_rework 64 = .ok (.getfield 19, 3) := by decide +kernel
theorem dX1_rework_67 : decode cX1_rework 67 = .ok (.aload_n 0, 1) := by decide +kernel
theorem dX1_rework_68 : decode cX1_rework 68 = .ok (.getfield 25, 3) := by decide +kernel
theorem dX1_rework_71 : decode cX1_rework 71 = .ok (.iload_n 1, 1) := by decide +kernel
theorem dX1_rework_72 : decode cX1_rework 72 = .ok (.iaload, 1) := by decide +kernel
theorem dX1_rework_73 : decode cX1_rework 73 = .ok (.iaload, 1) := by decide +kernel
theorem dX1_rework_74 : decode cX1_rework 74 = .ok (.iastore, 1) := by decide +kernel
theorem dX1_rework_75 : decode cX1_rework 75 = .ok (.aload_n 0, 1) := by decide +kernel
theorem dX1_rework_76 : decode cX1_rework 76 = .ok (.getfield 28, 3) := by decide +kernel
theorem dX1_rework_79 : decode cX1_rework 79 = .ok (.iload_n 1, 1) := by decide +kernel
theorem dX1_rework_80 : decode cX1_rework 80 = .ok (.aload_n 0, 1) := by decide +kernel
theorem dX1_rework_81 : decode cX1_rework 81 = .ok (.getfield 77, 3) := by decide +kernel
theorem dX1_rework_84 : decode cX1_rework 84 = .ok (.iastore, 1) := by decide +kernel
theorem dX1_rework_85 : decode cX1_rework 85 = .ok (.aload_n 0, 1) := by decide +kernel
theorem dX1_rework_86 : decode cX1_rework 86 = .ok (.getfield 38, 3) := by decide +kernel
theorem dX1_rework_89 : decode cX1_rework 89 = .ok (.iload_n 1, 1) := by decide +kernel
theorem dX1_rework_90 : decode cX1_rework 90 = .ok (.dup2, 1) := by decide +kernel
theorem dX1_rework_91 : decode cX1_rework 91 = .ok (.iaload, 1) := by decide +kernel
theorem dX1_rework_92 : decode cX1_rework 92 = .ok (.iconst 1, 1) := by decide +kernel
theorem dX1_rework_93 : decode cX1_rework 93 = .ok (.iadd, 1) := by decide +kernel
theorem dX1_rework_94 : decode cX1_rework 94 = .ok (.iastore, 1) := by decide +kernel
theorem dX1_rework_95 : decode cX1_rework 95 = .ok (.aload_n 0, 1) := by decide +kernel
theorem dX1_rework_96 : decode cX1_rework 96 = .ok (.getfield 25, 3) := by decide +kernel
theorem dX1_rework_99 : decode cX1_rework 99 = .ok (.iload_n 1, 1) := by decide +kernel
theorem dX1_rework_100 : decode cX1_rework 100 = .ok (.iaload, 1) := by decide +kernel
theorem dX1_rework_101 : decode cX1_rework 101 = .ok (.ireturn, 1) := by decide +kernel
set_option maxRecDepth 20000 in
theorem ggX1_split_X1_isLot : GoodIn wsX1_split wsX1_isLot := goodIn_r _ [15, 2, 16, 17, 14, 18, 29, 30, 31, 32, 33, 34, 35, 36, 37, 38, 39, 40, 41, 42, 43, 44, 45, 46, 47, 48] (by decide +kernel) (by decide +kernel)
set_option maxRecDepth 20000 in
theorem gX1_split_X1_isLot : GoodIn wsX1_split (wsV RX1 88 RX1 yX1_isLot wsX1_isLot) := goodIn_app (goodIn_of _ (by decide +kernel)) ggX1_split_X1_isLot
set_option maxRecDepth 20000 in
theorem ggX1_split_X1_count : GoodIn wsX1_split wsX1_count := goodIn_r _ [22, 9, 10, 29, 30, 31, 32, 33, 34, 35, 36, 37, 38, 39, 40, 41, 42, 43, 44, 45, 46, 47, 48] (by decide +kernel) (by decide +kernel)
set_option maxRecDepth 20000 in
theorem gX1_split_X1_count : GoodIn wsX1_split (wsV RX1 97 RX1 yX1_count wsX1_count) := goodIn_app (goodIn_of _ (by decide +kernel)) ggX1_split_X1_count
set_option maxRecDepth 20000 in
theorem ggX1_split_X1_in : GoodIn wsX1_split wsX1_in := goodIn_r _ [18] (by decide +kernel) (by decide +kernel)
set_option maxRecDepth 20000 in
theorem gX1_split_X1_in : GoodIn wsX1_split (va_wsS RX1 60 yX1_in wsX1_in) := goodIn_app (goodIn_of _ (by decide +kernel)) ggX1_split_X1_in
set_option maxRecDepth 20000 in
theorem ggX1_split_X1_puts : GoodIn wsX1_split wsX1_puts := goodIn_r _ [26, 10, 27, 28, 29, 30, 31, 32, 33, 34, 35, 36, 37, 38, 39, 40, 41, 42, 43, 44, 45, 46, 47, 48] (by decide +kernel) (by decide +kernel)
set_option maxRecDepth 20000 in
theorem gX1_split_X1_puts : GoodIn wsX1_split (wsV RX1 80 RX1 yX1_puts wsX1_puts) := goodIn_app (goodIn_of _ (by decide +kernel)) ggX1_split_X1_puts
theorem dX1_split_0 : decode cX1_split 0 = .ok (.aload_n 0, 1) := by decide +kernel
theorem dX1_split_1 : decode cX1_split 1 = .ok (.aload_n 0, 1) := by decide +kernel
theorem dX1_split_2 : decode cX1_split 2 = .ok (.iload_n 1, 1) := by decide +kernel
theorem dX1_split_3 : decode cX1_split 3 = .ok (.invokevirtual 88, 3) := by decide +kernel
theorem dX1_split_6 : decode cX1_split 6 = .ok (.ifCond .ne 7, 3) := by decide +kernel
theorem dX1_split_9 : decode cX1_split 9 = .ok (.iconst 1, 1) := by decide +kernel
theorem dX1_split_10 : decode cX1_split 10 = .ok (.goto 45, 3) := by decide +kernel
theorem dX1_split_13 : decode cX1_split 13 = .ok (.iload_n 2, 1) := by decide +kernel
theorem dX1_split_14 : decode cX1_split 14 = .ok (.iconst 1, 1) := by decide +kernel
theorem dX1_split_15 : decode cX1_split 15 = .ok (.aload_n 0, 1) := by decide +kernel
theorem dX1_split_16 : decode cX1_split 16 = .ok (.iload_n 1, 1) := by decide +kernel
theorem dX1_split_17 : decode cX1_split 17 = .ok (.invokevirtual 97, 3) := by decide +kernel
theorem dX1_split_20 : decode cX1_split 20 = .ok (.iconst 1, 1) := by decide +kernel
theorem dX1_split_21 : decode cX1_split 21 = .ok (.isub, 1) := by decide +kernel
theorem dX1_split_22 : decode cX1_split 22 = .ok (.invokestatic 60, 3) := by decide +kernel
theorem dX1_split_25 : decode cX1_split 25 = .ok (.ifCond .ne 7, 3) := by decide +kernel
theorem dX1_split_28 : decode cX1_split 28 = .ok (.iconst 2, 1) := by decide +kernel
theorem dX1_split_29 : decode cX1_split 29 = .ok (.goto 26, 3) := by decide +kernel
theorem dX1_split_32 : decode cX1_split 32 = .ok (.aload_n 0, 1) := by decide +kernel
theorem dX1_split_33 : decode cX1_split 33 = .ok (.getfield 22, 3) := by decide +kernel
theorem dX1_split_36 : decode cX1_split 36 = .ok (.iload_n 1, 1) := by decide +kernel
theorem dX1_split_37 : decode cX1_split 37 = .ok (.iaload, 1) := by decide +kernel
theorem dX1_split_38 : decode cX1_split 38 = .ok (.ifCond .ne 12, 3) := by decide +kernel
theorem dX1_split_41 : decode cX1_split 41 = .ok (.aload_n 0, 1) := by decide +kernel
theorem dX1_split_42 : decode cX1_split 42 = .ok (.getfield 64, 3) := by decide +kernel
theorem dX1_split_45 : decode cX1_split 45 = .ok (.bipush 24, 2) := by decide +kernel
theorem dX1_split_47 : decode cX1_split 47 = .ok (.if_icmp .ne 7, 3) := by decide +kernel
theorem dX1_split_50 : decode cX1_split 50 = .ok (.iconst 3, 1) := by decide +kernel
theorem dX1_split_51 : decode cX1_split 51 = .ok (.goto 4, 3) := by decide +kernel
theorem dX1_split_54 : decode cX1_split 54 = .ok (.iconst 0, 1) := by decide +kernel
theorem dX1_split_55 : decode cX1_split 55 = .ok (.putfield 56, 3) := by decide +kernel
theorem dX1_split_58 : decode cX1_split 58 = .ok (.aload_n 0, 1) := by decide +kernel
theorem dX1_split_59 : decode cX1_split 59 = .ok (.getfield 56, 3) := by decide +kernel
theorem dX1_split_62 : decode cX1_split 62 = .ok (.ifCond .le 5, 3) := by decide +kernel
theorem dX1_split_65 : decode cX1_split 65 = .ok (.iconst 0, 1) := by decide +kernel
theorem dX1_split_66 : decode cX1_split 66 = .ok (.ireturn, 1) := by decide +kernel
theorem dX1_split_67 : decode cX1_split 67 = .ok (.aload_n 0, 1) := by decide +kernel
theorem dX1_split_68 : decode cX1_split 68 = .ok (.getfield 64, 3) := by decide +kernel
theorem dX1_split_71 : decode cX1_split 71 = .ok (.istore_n 3, 1) := by decide +kernel
theorem dX1_split_72 : decode cX1_split 72 = .ok (.aload_n 0, 1) := by decide +kernel
theorem dX1_split_73 : decode cX1_split 73 = .ok (.getfield 22, 3) := by decide +kernel
theorem dX1_split_76 : decode cX1_split 76 = .ok (.iload_n 3, 1) := by decide +kernel
theorem dX1_split_77 : decode cX1_split 77 = .ok (.iconst 0, 1) := by decide +kernel
theorem dX1_split_78 : decode cX1_split 78 = .ok (.iastore, 1) := by decide +kernel
theorem dX1_split_79 : decode cX1_split 79 = .ok (.aload_n 0, 1) := by decide +kernel
theorem dX1_split_80 : decode cX1_split 80 = .ok (.getfield 25, 3) := by decide +kernel
theorem dX1_split_83 : decode cX1_split 83 = .ok (.iload_n 3, 1) := by decide +kernel
theorem dX1_split_84 : decode cX1_split 84 = .ok (.aload_n 0, 1) := by decide +kernel
theorem dX1_split_85 : decode cX1_split 85 = .ok (.getfield 25, 3) := by decide +kernel
theorem dX1_split_88 : decode cX1_split 88 = .ok (.iload_n 1, 1) := by decide +kernel
theorem dX1_split_89 : decode cX1_split 89 = .ok (.iaload, 1) := by decide +kernel
theorem dX1_split_90 : decode cX1_split 90 = .ok (.iastore, 1) := by decide +kernel
theorem dX1_split_91 : decode cX1_split 91 = .ok (.aload_n 0, 1) := by decide +kernel
theorem dX1_split_92 : decode cX1_split 92 = .ok (.getfield 28, 3) := by decide +kernel
theorem dX1_split_95 : decode cX1_split 95 = .ok (.iload_n 3, 1) := by decide +kernel
theorem dX1_split_96 : decode cX1_split 96 = .ok (.aload_n 0, 1) := by decide +kernel
theorem dX1_split_97 : decode cX1_split 97 = .ok (.getfield 28, 3) := by decide +kernel
theorem dX1_split_100 : decode cX1_split 100 = .ok (.iload_n 1, 1) := by decide +kernel
theorem dX1_split_101 : decode cX1_split 101 = .ok (.iaload, 1) := by decide +kernel
theorem dX1_split_102 : decode cX1_split 102 = .ok (.iastore, 1) := by decide +kernel
theorem dX1_split_103 : decode cX1_split 103 = .ok (.aload_n 0, 1) := by decide +kernel
theorem dX1_split_104 : decode cX1_split 104 = .ok (.getfield 34, 3) := by decide +kernel
theorem dX1_split_107 : decode cX1_split 107 = .ok (.iload_n 3, 1) := by decide +kernel
theorem dX1_split_108 : decode cX1_split 108 = .ok (.aload_n 0, 1) := by decide +kernel
theorem dX1_split_109 : decode cX1_split 109 = .ok (.getfield 34, 3) := by decide +kernel
theorem dX1_split_112 : decode cX1_split 112 = .ok (.iload_n 1, 1) := by decide +kernel
theorem dX1_split_113 : decode cX1_split 113 = .ok (.baload, 1) := by decide +kernel
theorem dX1_split_114 : decode cX1_split 114 = .ok (.bastore, 1) := by decide +kernel
theorem dX1_split_115 : decode cX1_split 115 = .ok (.aload_n 0, 1) := by decide +kernel
theorem dX1_split_116 : decode cX1_split 116 = .ok (.getfield 38, 3) := by decide +kernel
theorem dX1_split_119 : decode cX1_split 119 = .ok (.iload_n 3, 1) := by decide +kernel
theorem dX1_split_120 : decode cX1_split 120 = .ok (.aload_n 0, 1) := by decide +kernel
theorem dX1_split_121 : decode cX1_split 121 = .ok (.getfield 38, 3) := by decide +kernel
theorem dX1_split_124 : decode cX1_split 124 = .ok (.iload_n 1, 1) := by decide +kernel
theorem dX1_split_125 : decode cX1_split 125 = .ok (.iaload, 1) := by decide +kernel
theorem dX1_split_126 : decode cX1_split 126 = .ok (.iastore, 1) := by decide +kernel
theorem dX1_split_127 : decode cX1_split 127 = .ok (.aload_n 0, 1) := by decide +kernel
theorem dX1_split_128 : decode cX1_split 128 = .ok (.getfield 41, 3) := by decide +kernel
theorem dX1_split_131 : decode cX1_split 131 = .ok (.iload_n 3, 1) := by decide +kernel
theorem dX1_split_132 : decode cX1_split 132 = .ok (.iload_n 1, 1) := by decide +kernel
theorem dX1_split_133 : decode cX1_split 133 = .ok (.iastore, 1) := by decide +kernel
theorem dX1_split_134 : decode cX1_split 134 = .ok (.aload_n 0, 1) := by decide +kernel
theorem dX1_split_135 : decode cX1_split 135 = .ok (.dup, 1) := by decide +kernel
theorem dX1_split_136 : decode cX1_split 136 = .ok (.getfield 64, 3) := by decide +kernel
theorem dX1_split_139 : decode cX1_split 139 = .ok (.iconst 1, 1) := by decide +kernel
theorem dX1_split_140 : decode cX1_split 140 = .ok (.iadd, 1) := by decide +kernel
theorem dX1_split_141 : decode cX1_split 141 = .ok (.putfield 64, 3) := by decide +kernel
theorem dX1_split_144 : decode cX1_split 144 = .ok (.iload_n 2, 1) := by decide +kernel
theorem dX1_split_145 : decode cX1_split 145 = .ok (.istore 4, 2) := by decide +kernel
theorem dX1_split_147 : decode cX1_split 147 = .ok (.iconst 0, 1) := by decide +kernel
theorem dX1_split_148 : decode cX1_split 148 = .ok (.istore 5, 2) := by decide +kernel
theorem dX1_split_150 : decode cX1_split 150 = .ok (.iload 5, 2) := by decide +kernel
theorem dX1_split_152 : decode cX1_split 152 = .ok (.aload_n 0, 1) := by decide +kernel
theorem dX1_split_153 : decode cX1_split 153 = .ok (.getfield 67, 3) := by decide +kernel
theorem dX1_split_156 : decode cX1_split 156 = .ok (.if_icmp .ge 35, 3) := by decide +kernel
theorem dX1_split_159 : decode cX1_split 159 = .ok (.iload 4, 2) := by decide +kernel
theorem dX1_split_161 : decode cX1_split 161 = .ok (.ifCond .le 24, 3) := by decide +kernel
theorem dX1_split_164 : decode cX1_split 164 = .ok (.aload_n 0, 1) := by decide +kernel
theorem dX1_split_165 : decode cX1_split 165 = .ok (.getfield 44, 3) := by decide +kernel
theorem dX1_split_168 : decode cX1_split 168 = .ok (.iload 5, 2) := by decide +kernel
theorem dX1_split_170 : decode cX1_split 170 = .ok (.iaload, 1) := by decide +kernel
theorem dX1_split_171 : decode cX1_split 171 = .ok (.iload_n 1, 1) := by decide +kernel
theorem dX1_split_172 : decode cX1_split 172 = .ok (.if_icmp .ne 13, 3) := by decide +kernel
theorem dX1_split_175 : decode cX1_split 175 = .ok (.aload_n 0, 1) := by decide +kernel
theorem dX1_split_176 : decode cX1_split 176 = .ok (.iload 5, 2) := by decide +kernel
theorem dX1_split_178 : decode cX1_split 178 = .ok (.iload_n 3, 1) := by decide +kernel
theorem dX1_split_179 : decode cX1_split 179 = .ok (.invokevirtual 80, 3) := by decide +kernel
theorem dX1_split_182 : decode cX1_split 182 = .ok (.iinc 4 (-1), 3) := by decide +kernel
theorem dX1_split_185 : decode cX1_split 185 = .ok (.iinc 5 1, 3) := by decide +kernel
theorem dX1_split_188 : decode cX1_split 188 = .ok (.goto (-38), 3) := by decide +kernel
theorem dX1_split_191 : decode cX1_split 191 = .ok (.iload_n 3, 1) := by decide +kernel
theorem dX1_split_192 : decode cX1_split 192 = .ok (.ireturn, 1) := by decide +kernel
theorem dX1_canMerge_0 : decode cX1_canMerge 0 = .ok (.aload_n 0, 1) := by decide +kernel
theorem dX1_canMerge_1 : decode cX1_canMerge 1 = .ok (.getfield 22, 3) := by decide +kernel
theorem dX1_canMerge_4 : decode cX1_canMerge 4 = .ok (.iload_n 1, 1) := by decide +kernel
theorem dX1_canMerge_5 : decode cX1_canMerge 5 = .ok (.iaload, 1) := by decide +kernel
theorem dX1_canMerge_6 : decode cX1_canMerge 6 = .ok (.ifCond .ne 16, 3) := by decide +kernel
theorem dX1_canMerge_9 : decode cX1_canMerge 9 = .ok (.aload_n 0, 1) := by decide +kernel
theorem dX1_canMerge_10 : decode cX1_canMerge 10 = .ok (.getfield 34, 3) := by decide +kernel
theorem dX1_canMerge_13 : decode cX1_canMerge 13 = .ok (.iload_n 1, 1) := by decide +kernel
theorem dX1_canMerge_14 : decode cX1_canMerge 14 = .ok (.baload, 1) := by decide +kernel
theorem dX1_canMerge_15 : decode cX1_canMerge 15 = .ok (.ifCond .ne 7, 3) := by decide +kernel
theorem dX1_canMerge_18 : decode cX1_canMerge 18 = .ok (.iconst 1, 1) := by decide +kernel
theorem dX1_canMerge_19 : decode cX1_canMerge 19 = .ok (.goto 4, 3) := by decide +kernel
theorem dX1_canMerge_22 : decode cX1_canMerge 22 = .ok (.iconst 0, 1) := by decide +kernel
theorem dX1_canMerge_23 : decode cX1_canMerge 23 = .ok (.ireturn, 1) := by decide +kernel
set_option maxRecDepth 20000 in
theorem ggX1_merge_X1_isLot : GoodIn wsX1_merge wsX1_isLot := goodIn_r _ [12, 13, 14, 15, 11, 16, 32, 33, 34, 35, 36, 37, 38, 39, 40, 41, 42, 43, 44, 45, 46, 47, 48, 49, 50, 51] (by decide +kernel) (by decide +kernel)
set_option maxRecDepth 20000 in
theorem gX1_merge_X1_isLot : GoodIn wsX1_merge (wsV RX1 88 RX1 yX1_isLot wsX1_isLot) := goodIn_app (goodIn_of _ (by decide +kernel)) ggX1_merge_X1_isLot
set_option maxRecDepth 20000 in
theorem ggX1_merge_X1_canMerge : GoodIn wsX1_merge wsX1_canMerge := goodIn_r _ [20, 7, 21, 32, 33, 34, 35, 36, 37, 38, 39, 40, 41, 42, 43, 44, 45, 46, 47, 48, 49, 50, 51] (by decide +kernel) (by decide +kernel)
set_option maxRecDepth 20000 in
theorem gX1_merge_X1_canMerge : GoodIn wsX1_merge (wsV RX1 100 RX1 yX1_canMerge wsX1_canMerge) := goodIn_app (goodIn_of _ (by decide +kernel)) ggX1_merge_X1_canMerge
set_option maxRecDepth 20000 in
theorem ggX1_merge_X1_puts : GoodIn wsX1_merge wsX1_puts := goodIn_r _ [25, 4, 26, 27, 32, 33, 34, 35, 36, 37, 38, 39, 40, 41, 42, 43, 44, 45, 46, 47, 48, 49, 50, 51] (by decide +kernel) (by decide +kernel)
set_option maxRecDepth 20000 in
theorem gX1_merge_X1_puts : GoodIn wsX1_merge (wsV RX1 80 RX1 yX1_puts wsX1_puts) := goodIn_app (goodIn_of _ (by decide +kernel)) ggX1_merge_X1_puts
set_option maxRecDepth 20000 in
theorem ggX1_merge_X1_count : GoodIn wsX1_merge wsX1_count := goodIn_r _ [31, 3, 4, 32, 33, 34, 35, 36, 37, 38, 39, 40, 41, 42, 43, 44, 45, 46, 47, 48, 49, 50, 51] (by decide +kernel) (by decide +kernel)
set_option maxRecDepth 20000 in
theorem gX1_merge_X1_count : GoodIn wsX1_merge (wsV RX1 97 RX1 yX1_count wsX1_count) := goodIn_app (goodIn_of _ (by decide +kernel)) ggX1_merge_X1_count
theorem dX1_merge_0 : decode cX1_merge 0 = .ok (.aload_n 0, 1) := by decide +kernel
theorem dX1_merge_1 : decode cX1_merge 1 = .ok (.aload_n 0, 1) := by decide +kernel
theorem dX1_merge_2 : decode cX1_merge 2 = .ok (.iload_n 1, 1) := by decide +kernel
theorem dX1_merge_3 : decode cX1_merge 3 = .ok (.invokevirtual 88, 3) := by decide +kernel
theorem dX1_merge_6 : decode cX1_merge 6 = .ok (.ifCond .eq 11, 3) := by decide +kernel
theorem dX1_merge_9 : decode cX1_merge 9 = .ok (.aload_n 0, 1) := by decide +kernel
theorem dX1_merge_10 : decode cX1_merge 10 = .ok (.iload_n 2, 1) := by decide +kernel
theorem dX1_merge_11 : decode cX1_merge 11 = .ok (.invokevirtual 88, 3) := by decide +kernel
theorem dX1_merge_14 : decode cX1_merge 14 = .ok (.ifCond .ne 7, 3) := by decide +kernel
theorem dX1_merge_17 : decode cX1_merge 17 = .ok (.iconst 1, 1) := by decide +kernel
theorem dX1_merge_18 : decode cX1_merge 18 = .ok (.goto 48, 3) := by decide +kernel
theorem dX1_merge_21 : decode cX1_merge 21 = .ok (.iload_n 1, 1) := by decide +kernel
theorem dX1_merge_22 : decode cX1_merge 22 = .ok (.iload_n 2, 1) := by decide +kernel
theorem dX1_merge_23 : decode cX1_merge 23 = .ok (.if_icmp .ne 7, 3) := by decide +kernel
theorem dX1_merge_26 : decode cX1_merge 26 = .ok (.iconst 2, 1) := by decide +kernel
theorem dX1_merge_27 : decode cX1_merge 27 = .ok (.goto 39, 3) := by decide +kernel
theorem dX1_merge_30 : decode cX1_merge 30 = .ok (.aload_n 0, 1) := by decide +kernel
theorem dX1_merge_31 : decode cX1_merge 31 = .ok (.iload_n 1, 1) := by decide +kernel
theorem dX1_merge_32 : decode cX1_merge 32 = .ok (.invokevirtual 100, 3) := by decide +kernel
theorem dX1_merge_35 : decode cX1_merge 35 = .ok (.ifCond .eq 26, 3) := by decide +kernel
theorem dX1_merge_38 : decode cX1_merge 38 = .ok (.aload_n 0, 1) := by decide +kernel
theorem dX1_merge_39 : decode cX1_merge 39 = .ok (.iload_n 2, 1) := by decide +kernel
theorem dX1_merge_40 : decode cX1_merge 40 = .ok (.invokevirtual 100, 3) := by decide +kernel
theorem dX1_merge_43 : decode cX1_merge 43 = .ok (.ifCond .eq 18, 3) := by decide +kernel
theorem dX1_merge_46 : decode cX1_merge 46 = .ok (.aload_n 0, 1) := by decide +kernel
theorem dX1_merge_47 : decode cX1_merge 47 = .ok (.getfield 25, 3) := by decide +kernel
theorem dX1_merge_50 : decode cX1_merge 50 = .ok (.iload_n 1, 1) := by decide +kernel
theorem dX1_merge_51 : decode cX1_merge 51 = .ok (.iaload, 1) := by decide +kernel
theorem dX1_merge_52 : decode cX1_merge 52 = .ok (.aload_n 0, 1) := by decide +kernel
theorem dX1_merge_53 : decode cX1_merge 53 = .ok (.getfield 25, 3) := by decide +kernel
theorem dX1_merge_56 : decode cX1_merge 56 = .ok (.iload_n 2, 1) := by decide +kernel
theorem dX1_merge_57 : decode cX1_merge 57 = .ok (.iaload, 1) := by decide +kernel
theorem dX1_merge_58 : decode cX1_merge 58 = .ok (.if_icmp .eq 7, 3) := by decide +kernel
theorem dX1_merge_61 : decode cX1_merge 61 = .ok (.iconst 3, 1) := by decide +kernel
theorem dX1_merge_62 : decode cX1_merge 62 = .ok (.goto 4, 3) := by decide +kernel
theorem dX1_merge_65 : decode cX1_merge 65 = .ok (.iconst 0, 1) := by decide +kernel
theorem dX1_merge_66 : decode cX1_merge 66 = .ok (.putfield 56, 3) := by decide +kernel
theorem dX1_merge_69 : decode cX1_merge 69 = .ok (.aload_n 0, 1) := by decide +kernel
theorem dX1_merge_70 : decode cX1_merge 70 = .ok (.getfield 56, 3) := by decide +kernel
theorem dX1_merge_73 : decode cX1_merge 73 = .ok (.ifCond .le 5, 3) := by decide +kernel
theorem dX1_merge_76 : decode cX1_merge 76 = .ok (.iconst 0, 1) := by decide +kernel
theorem dX1_merge_77 : decode cX1_merge 77 = .ok (.ireturn, 1) := by decide +kernel
theorem dX1_merge_78 : decode cX1_merge 78 = .ok (.iconst 0, 1) := by decide +kernel
theorem dX1_merge_79 : decode cX1_merge 79 = .ok (.istore_n 3, 1) := by decide +kernel
theorem dX1_merge_80 : decode cX1_merge 80 = .ok (.iload_n 3, 1) := by decide +kernel
theorem dX1_merge_81 : decode cX1_merge 81 = .ok (.aload_n 0, 1) := by decide +kernel
theorem dX1_merge_82 : decode cX1_merge 82 = .ok (.getfield 67, 3) := by decide +kernel
theorem dX1_merge_85 : decode cX1_merge 85 = .ok (.if_icmp .ge 25, 3) := by decide +kernel
theorem dX1_merge_88 : decode cX1_merge 88 = .ok (.aload_n 0, 1) := by decide +kernel
theorem dX1_merge_89 : decode cX1_merge 89 = .ok (.getfield 44, 3) := by decide +kernel
theorem dX1_merge_92 : decode cX1_merge 92 = .ok (.iload_n 3, 1) := by decide +kernel
theorem dX1_merge_93 : decode cX1_merge 93 = .ok (.iaload, 1) := by decide +kernel
theorem dX1_merge_94 : decode cX1_merge 94 = .ok (.iload_n 1, 1) := by decide +kernel
theorem dX1_merge_95 : decode cX1_merge 95 = .ok (.if_icmp .ne 9, 3) := by decide +kernel
theorem dX1_merge_98 : decode cX1_merge 98 = .ok (.aload_n 0, 1) := by decide +kernel
theorem dX1_merge_99 : decode cX1_merge 99 = .ok (.iload_n 3, 1) := by decide +kernel
theorem dX1_merge_100 : decode cX1_merge 100 = .ok (.iload_n 2, 1) := by decide +kernel
theorem dX1_merge_101 : decode cX1_merge 101 = .ok (.invokevirtual 80, 3) := by decide +kernel
theorem dX1_merge_104 : decode cX1_merge 104 = .ok (.iinc 3 1, 3) := by decide +kernel
theorem dX1_merge_107 : decode cX1_merge 107 = .ok (.goto (-27), 3) := by decide +kernel
theorem dX1_merge_110 : decode cX1_merge 110 = .ok (.aload_n 0, 1) := by decide +kernel
theorem dX1_merge_111 : decode cX1_merge 111 = .ok (.getfield 28, 3) := by decide +kernel
theorem dX1_merge_114 : decode cX1_merge 114 = .ok (.iload_n 2, 1) := by decide +kernel
theorem dX1_merge_115 : decode cX1_merge 115 = .ok (.aload_n 0, 1) := by decide +kernel
theorem dX1_merge_116 : decode cX1_merge 116 = .ok (.getfield 28, 3) := by decide +kernel
theorem dX1_merge_119 : decode cX1_merge 119 = .ok (.iload_n 1, 1) := by decide +kernel
theorem dX1_merge_120 : decode cX1_merge 120 = .ok (.iaload, 1) := by decide +kernel
theorem dX1_merge_121 : decode cX1_merge 121 = .ok (.aload_n 0, 1) := by decide +kernel
theorem dX1_merge_122 : decode cX1_merge 122 = .ok (.getfield 28, 3) := by decide +kernel
theorem dX1_merge_125 : decode cX1_merge 125 = .ok (.iload_n 2, 1) := by decide +kernel
theorem dX1_merge_126 : decode cX1_merge 126 = .ok (.iaload, 1) := by decide +kernel
theorem dX1_merge_127 : decode cX1_merge 127 = .ok (.if_icmp .ge 12, 3) := by decide +kernel
theorem dX1_merge_130 : decode cX1_merge 130 = .ok (.aload_n 0, 1) := by decide +kernel
theorem dX1_merge_131 : decode cX1_merge 131 = .ok (.getfield 28, 3) := by decide +kernel
theorem dX1_merge_134 : decode cX1_merge 134 = .ok (.iload_n 1, 1) := by decide +kernel
theorem dX1_merge_135 : decode cX1_merge 135 = .ok (.iaload, 1) := by decide +kernel
theorem dX1_merge_136 : decode cX1_merge 136 = .ok (.goto 9, 3) := by decide +kernel
theorem dX1_merge_139 : decode cX1_merge 139 = .ok (.aload_n 0, 1) := by decide +kernel
theorem dX1_merge_140 : decode cX1_merge 140 = .ok (.getfield 28, 3) := by decide +kernel
theorem dX1_merge_143 : decode cX1_merge 143 = .ok (.iload_n 2, 1) := by decide +kernel
theorem dX1_merge_144 : decode cX1_merge 144 = .ok (.iaload, 1) := by decide +kernel
theorem dX1_merge_145 : decode cX1_merge 145 = .ok (.iastore, 1) := by decide +kernel
theorem dX1_merge_146 : decode cX1_merge 146 = .ok (.aload_n 0, 1) := by decide +kernel
theorem dX1_merge_147 : decode cX1_merge 147 = .ok (.getfield 38, 3) := by decide +kernel
theorem dX1_merge_150 : decode cX1_merge 150 = .ok (.iload_n 2, 1) := by decide +kernel
theorem dX1_merge_151 : decode cX1_merge 151 = .ok (.aload_n 0, 1) := by decide +kernel
theorem dX1_merge_152 : decode cX1_merge 152 = .ok (.getfield 38, 3) := by decide +kernel
theorem dX1_merge_155 : decode cX1_merge 155 = .ok (.iload_n 1, 1) := by decide +kernel
theorem dX1_merge_156 : decode cX1_merge 156 = .ok (.iaload, 1) := by decide +kernel
theorem dX1_merge_157 : decode cX1_merge 157 = .ok (.aload_n 0, 1) := by decide +kernel
theorem dX1_merge_158 : decode cX1_merge 158 = .ok (.getfield 38, 3) := by decide +kernel
theorem dX1_merge_161 : decode cX1_merge 161 = .ok (.iload_n 2, 1) := by decide +kernel
theorem dX1_merge_162 : decode cX1_merge 162 = .ok (.iaload, 1) := by decide +kernel
theorem dX1_merge_163 : decode cX1_merge 163 = .ok (.if_icmp .le 12, 3) := by decide +kernel
theorem dX1_merge_166 : decode cX1_merge 166 = .ok (.aload_n 0, 1) := by decide +kernel
theorem dX1_merge_167 : decode cX1_merge 167 = .ok (.getfield 38, 3) := by decide +kernel
theorem dX1_merge_170 : decode cX1_merge 170 = .ok (.iload_n 1, 1) := by decide +kernel
theorem dX1_merge_171 : decode cX1_merge 171 = .ok (.iaload, 1) := by decide +kernel
theorem dX1_merge_172 : decode cX1_merge 172 = .ok (.goto 9, 3) := by decide +kernel
theorem dX1_merge_175 : decode cX1_merge 175 = .ok (.aload_n 0, 1) := by decide +kernel
theorem dX1_merge_176 : decode cX1_merge 176 = .ok (.getfield 38, 3) := by decide +kernel
theorem dX1_merge_179 : decode cX1_merge 179 = .ok (.iload_n 2, 1) := by decide +kernel
theorem dX1_merge_180 : decode cX1_merge 180 = .ok (.iaload, 1) := by decide +kernel
theorem dX1_merge_181 : decode cX1_merge 181 = .ok (.iastore, 1) := by decide +kernel
theorem dX1_merge_182 : decode cX1_merge 182 = .ok (.aload_n 0, 1) := by decide +kernel
theorem dX1_merge_183 : decode cX1_merge 183 = .ok (.getfield 22, 3) := by decide +kernel
theorem dX1_merge_186 : decode cX1_merge 186 = .ok (.iload_n 1, 1) := by decide +kernel
theorem dX1_merge_187 : decode cX1_merge 187 = .ok (.iconst 3, 1) := by decide +kernel
theorem dX1_merge_188 : decode cX1_merge 188 = .ok (.iastore, 1) := by decide +kernel
theorem dX1_merge_189 : decode cX1_merge 189 = .ok (.aload_n 0, 1) := by decide +kernel
theorem dX1_merge_190 : decode cX1_merge 190 = .ok (.iload_n 2, 1) := by decide +kernel
theorem dX1_merge_191 : decode cX1_merge 191 = .ok (.invokevirtual 97, 3) := by decide +kernel
theorem dX1_merge_194 : decode cX1_merge 194 = .ok (.ireturn, 1) := by decide +kernel
set_option maxRecDepth 20000 in
theorem ggX1_hold_X1_isLot : GoodIn wsX1_hold wsX1_isLot := goodIn_r _ [8, 9, 10, 11, 7, 12, 13, 14, 15, 16, 17, 18, 19, 20, 21, 22, 23, 24, 25, 26, 27, 28, 29, 30, 31, 32] (by decide +kernel) (by decide +kernel)
set_option maxRecDepth 20000 in
theorem gX1_hold_X1_isLot : GoodIn wsX1_hold (wsV RX1 88 RX1 yX1_isLot wsX1_isLot) := goodIn_app (goodIn_of _ (by decide +kernel)) ggX1_hold_X1_isLot
theorem dX1_hold_0 : decode cX1_hold 0 = .ok (.aload_n 0, 1) := by decide +kernel
theorem dX1_hold_1 : decode cX1_hold 1 = .ok (.aload_n 0, 1) := by decide +kernel
theorem dX1_hold_2 : decode cX1_hold 2 = .ok (.iload_n 1, 1) := by decide +kernel
theorem dX1_hold_3 : decode cX1_hold 3 = .ok (.invokevirtual 88, 3) := by decide +kernel
theorem dX1_hold_6 : decode cX1_hold 6 = .ok (.ifCond .ne 7, 3) := by decide +kernel
theorem dX1_hold_9 : decode cX1_hold 9 = .ok (.iconst 1, 1) := by decide +kernel
theorem dX1_hold_10 : decode cX1_hold 10 = .ok (.goto 18, 3) := by decide +kernel
theorem dX1_hold_13 : decode cX1_hold 13 = .ok (.aload_n 0, 1) := by decide +kernel
theorem dX1_hold_14 : decode cX1_hold 14 = .ok (.getfield 22, 3) := by decide +kernel
theorem dX1_hold_17 : decode cX1_hold 17 = .ok (.iload_n 1, 1) := by decide +kernel
theorem dX1_hold_18 : decode cX1_hold 18 = .ok (.iaload, 1) := by decide +kernel
theorem dX1_hold_19 : decode cX1_hold 19 = .ok (.iconst 1, 1) := by decide +kernel
theorem dX1_hold_20 : decode cX1_hold 20 = .ok (.if_icmp .le 7, 3) := by decide +kernel
theorem dX1_hold_23 : decode cX1_hold 23 = .ok (.iconst 2, 1) := by decide +kernel
theorem dX1_hold_24 : decode cX1_hold 24 = .ok (.goto 4, 3) := by decide +kernel
theorem dX1_hold_27 : decode cX1_hold 27 = .ok (.iconst 0, 1) := by decide +kernel
theorem dX1_hold_28 : decode cX1_hold 28 = .ok (.putfield 56, 3) := by decide +kernel
theorem dX1_hold_31 : decode cX1_hold 31 = .ok (.aload_n 0, 1) := by decide +kernel
theorem dX1_hold_32 : decode cX1_hold 32 = .ok (.getfield 56, 3) := by decide +kernel
theorem dX1_hold_35 : decode cX1_hold 35 = .ok (.ifCond .le 5, 3) := by decide +kernel
theorem dX1_hold_38 : decode cX1_hold 38 = .ok (.iconst 0, 1) := by decide +kernel
theorem dX1_hold_39 : decode cX1_hold 39 = .ok (.ireturn, 1) := by decide +kernel
theorem dX1_hold_40 : decode cX1_hold 40 = .ok (.aload_n 0, 1) := by decide +kernel
theorem dX1_hold_41 : decode cX1_hold 41 = .ok (.getfield 34, 3) := by decide +kernel
theorem dX1_hold_44 : decode cX1_hold 44 = .ok (.iload_n 1, 1) := by decide +kernel
theorem dX1_hold_45 : decode cX1_hold 45 = .ok (.baload, 1) := by decide +kernel
theorem dX1_hold_46 : decode cX1_hold 46 = .ok (.istore_n 3, 1) := by decide +kernel
theorem dX1_hold_47 : decode cX1_hold 47 = .ok (.aload_n 0, 1) := by decide +kernel
theorem dX1_hold_48 : decode cX1_hold 48 = .ok (.getfield 34, 3) := by decide +kernel
theorem dX1_hold_51 : decode cX1_hold 51 = .ok (.iload_n 1, 1) := by decide +kernel
theorem dX1_hold_52 : decode cX1_hold 52 = .ok (.iload_n 2, 1) := by decide +kernel
theorem dX1_hold_53 : decode cX1_hold 53 = .ok (.bastore, 1) := by decide +kernel
theorem dX1_hold_54 : decode cX1_hold 54 = .ok (.iload_n 3, 1) := by decide +kernel
theorem dX1_hold_55 : decode cX1_hold 55 = .ok (.ireturn, 1) := by decide +kernel
set_option maxRecDepth 20000 in
theorem ggX1_scrap_X1_isWafer : GoodIn wsX1_scrap wsX1_isWafer := goodIn_r _ [8, 9, 10, 11, 7, 12, 17, 18, 19, 20, 21, 22, 23, 24, 25, 26, 27, 28, 29, 30, 31, 32, 33, 34, 35, 36] (by decide +kernel) (by decide +kernel)
set_option maxRecDepth 20000 in
theorem gX1_scrap_X1_isWafer : GoodIn wsX1_scrap (wsV RX1 103 RX1 yX1_isWafer wsX1_isWafer) := goodIn_app (goodIn_of _ (by decide +kernel)) ggX1_scrap_X1_isWafer
set_option maxRecDepth 20000 in
theorem ggX1_scrap_X1_count : GoodIn wsX1_scrap wsX1_count := goodIn_r _ [16, 9, 1, 17, 18, 19, 20, 21, 22, 23, 24, 25, 26, 27, 28, 29, 30, 31, 32, 33, 34, 35, 36] (by decide +kernel) (by decide +kernel)
set_option maxRecDepth 20000 in
theorem gX1_scrap_X1_count : GoodIn wsX1_scrap (wsV RX1 97 RX1 yX1_count wsX1_count) := goodIn_app (goodIn_of _ (by decide +kernel)) ggX1_scrap_X1_count
theorem dX1_scrap_0 : decode cX1_scrap 0 = .ok (.aload_n 0, 1) := by decide +kernel
theorem dX1_scrap_1 : decode cX1_scrap 1 = .ok (.aload_n 0, 1) := by decide +kernel
theorem dX1_scrap_2 : decode cX1_scrap 2 = .ok (.iload_n 1, 1) := by decide +kernel
theorem dX1_scrap_3 : decode cX1_scrap 3 = .ok (.invokevirtual 103, 3) := by decide +kernel
theorem dX1_scrap_6 : decode cX1_scrap 6 = .ok (.ifCond .ne 7, 3) := by decide +kernel
theorem dX1_scrap_9 : decode cX1_scrap 9 = .ok (.iconst 1, 1) := by decide +kernel
theorem dX1_scrap_10 : decode cX1_scrap 10 = .ok (.goto 32, 3) := by decide +kernel
theorem dX1_scrap_13 : decode cX1_scrap 13 = .ok (.aload_n 0, 1) := by decide +kernel
theorem dX1_scrap_14 : decode cX1_scrap 14 = .ok (.getfield 44, 3) := by decide +kernel
theorem dX1_scrap_17 : decode cX1_scrap 17 = .ok (.iload_n 1, 1) := by decide +kernel
theorem dX1_scrap_18 : decode cX1_scrap 18 = .ok (.iaload, 1) := by decide +kernel
theorem dX1_scrap_19 : decode cX1_scrap 19 = .ok (.iconst (-1), 1) := by decide +kernel
theorem dX1_scrap_20 : decode cX1_scrap 20 = .ok (.if_icmp .eq 17, 3) := by decide +kernel
theorem dX1_scrap_23 : decode cX1_scrap 23 = .ok (.aload_n 0, 1) := by decide +kernel
theorem dX1_scrap_24 : decode cX1_scrap 24 = .ok (.getfield 22, 3) := by decide +kernel
theorem dX1_scrap_27 : decode cX1_scrap 27 = .ok (.aload_n 0, 1) := by decide +kernel
theorem dX1_scrap_28 : decode cX1_scrap 28 = .ok (.getfield 44, 3) := by decide +kernel
theorem dX1_scrap_31 : decode cX1_scrap 31 = .ok (.iload_n 1, 1) := by decide +kernel
theorem dX1_scrap_32 : decode cX1_scrap 32 = .ok (.iaload, 1) := by decide +kernel
theorem dX1_scrap_33 : decode cX1_scrap 33 = .ok (.iaload, 1) := by decide +kernel
theorem dX1_scrap_34 : decode cX1_scrap 34 = .ok (.ifCond .eq 7, 3) := by decide +kernel
theorem dX1_scrap_37 : decode cX1_scrap 37 = .ok (.iconst 2, 1) := by decide +kernel
theorem dX1_scrap_38 : decode cX1_scrap 38 = .ok (.goto 4, 3) := by decide +kernel
theorem dX1_scrap_41 : decode cX1_scrap 41 = .ok (.iconst 0, 1) := by decide +kernel
theorem dX1_scrap_42 : decode cX1_scrap 42 = .ok (.putfield 56, 3) := by decide +kernel
theorem dX1_scrap_45 : decode cX1_scrap 45 = .ok (.aload_n 0, 1) := by decide +kernel
theorem dX1_scrap_46 : decode cX1_scrap 46 = .ok (.getfield 56, 3) := by decide +kernel
theorem dX1_scrap_49 : decode cX1_scrap 49 = .ok (.ifCond .le 5, 3) := by decide +kernel
theorem dX1_scrap_52 : decode cX1_scrap 52 = .ok (.iconst 0, 1) := by decide +kernel
theorem dX1_scrap_53 : decode cX1_scrap 53 = .ok (.ireturn, 1) := by decide +kernel
theorem dX1_scrap_54 : decode cX1_scrap 54 = .ok (.aload_n 0, 1) := by decide +kernel
theorem dX1_scrap_55 : decode cX1_scrap 55 = .ok (.getfield 44, 3) := by decide +kernel
theorem dX1_scrap_58 : decode cX1_scrap 58 = .ok (.iload_n 1, 1) := by decide +kernel
theorem dX1_scrap_59 : decode cX1_scrap 59 = .ok (.iaload, 1) := by decide +kernel
theorem dX1_scrap_60 : decode cX1_scrap 60 = .ok (.istore_n 2, 1) := by decide +kernel
theorem dX1_scrap_61 : decode cX1_scrap 61 = .ok (.aload_n 0, 1) := by decide +kernel
theorem dX1_scrap_62 : decode cX1_scrap 62 = .ok (.getfield 44, 3) := by decide +kernel
theorem dX1_scrap_65 : decode cX1_scrap 65 = .ok (.iload_n 1, 1) := by decide +kernel
theorem dX1_scrap_66 : decode cX1_scrap 66 = .ok (.iconst (-1), 1) := by decide +kernel
theorem dX1_scrap_67 : decode cX1_scrap 67 = .ok (.iastore, 1) := by decide +kernel
theorem dX1_scrap_68 : decode cX1_scrap 68 = .ok (.aload_n 0, 1) := by decide +kernel
theorem dX1_scrap_69 : decode cX1_scrap 69 = .ok (.getfield 22, 3) := by decide +kernel
theorem dX1_scrap_72 : decode cX1_scrap 72 = .ok (.iload_n 2, 1) := by decide +kernel
theorem dX1_scrap_73 : decode cX1_scrap 73 = .ok (.aload_n 0, 1) := by decide +kernel
theorem dX1_scrap_74 : decode cX1_scrap 74 = .ok (.iload_n 2, 1) := by decide +kernel
theorem dX1_scrap_75 : decode cX1_scrap 75 = .ok (.invokevirtual 97, 3) := by decide +kernel
theorem dX1_scrap_78 : decode cX1_scrap 78 = .ok (.ifCond .ne 7, 3) := by decide +kernel
theorem dX1_scrap_81 : decode cX1_scrap 81 = .ok (.iconst 3, 1) := by decide +kernel
theorem dX1_scrap_82 : decode cX1_scrap 82 = .ok (.goto 9, 3) := by decide +kernel
theorem dX1_scrap_85 : decode cX1_scrap 85 = .ok (.aload_n 0, 1) := by decide +kernel
theorem dX1_scrap_86 : decode cX1_scrap 86 = .ok (.getfield 22, 3) := by decide +kernel
theorem dX1_scrap_89 : decode cX1_scrap 89 = .ok (.iload_n 2, 1) := by decide +kernel
theorem dX1_scrap_90 : decode cX1_scrap 90 = .ok (.iaload, 1) := by decide +kernel
theorem dX1_scrap_91 : decode cX1_scrap 91 = .ok (.iastore, 1) := by decide +kernel
theorem dX1_scrap_92 : decode cX1_scrap 92 = .ok (.aload_n 0, 1) := by decide +kernel
theorem dX1_scrap_93 : decode cX1_scrap 93 = .ok (.iload_n 2, 1) := by decide +kernel
theorem dX1_scrap_94 : decode cX1_scrap 94 = .ok (.invokevirtual 97, 3) := by decide +kernel
theorem dX1_scrap_97 : decode cX1_scrap 97 = .ok (.ireturn, 1) := by decide +kernel
set_option maxRecDepth 20000 in
theorem ggX1_advance_X1_in : GoodIn wsX1_advance wsX1_in := goodIn_r _ [12] (by decide +kernel) (by decide +kernel)
set_option maxRecDepth 20000 in
theorem gX1_advance_X1_in : GoodIn wsX1_advance (va_wsS RX1 60 yX1_in wsX1_in) := goodIn_app (goodIn_of _ (by decide +kernel)) ggX1_advance_X1_in
theorem dX1_advance_0 : decode cX1_advance 0 = .ok (.aload_n 0, 1) := by decide +kernel
theorem dX1_advance_1 : decode cX1_advance 1 = .ok (.iload_n 1, 1) := by decide +kernel
theorem dX1_advance_2 : decode cX1_advance 2 = .ok (.iconst 1, 1) := by decide +kernel
theorem dX1_advance_3 : decode cX1_advance 3 = .ok (.sipush 10000, 3) := by decide +kernel
theorem dX1_advance_6 : decode cX1_advance 6 = .ok (.invokestatic 60, 3) := by decide +kernel
theorem dX1_advance_9 : decode cX1_advance 9 = .ok (.ifCond .eq 7, 3) := by decide +kernel
theorem dX1_advance_12 : decode cX1_advance 12 = .ok (.iconst 0, 1) := by decide +kernel
theorem dX1_advance_13 : decode cX1_advance 13 = .ok (.goto 4, 3) := by decide +kernel
theorem dX1_advance_16 : decode cX1_advance 16 = .ok (.iconst 1, 1) := by decide +kernel
theorem dX1_advance_17 : decode cX1_advance 17 = .ok (.putfield 56, 3) := by decide +kernel
theorem dX1_advance_20 : decode cX1_advance 20 = .ok (.aload_n 0, 1) := by decide +kernel
theorem dX1_advance_21 : decode cX1_advance 21 = .ok (.getfield 56, 3) := by decide +kernel
theorem dX1_advance_24 : decode cX1_advance 24 = .ok (.ifCond .le 5, 3) := by decide +kernel
theorem dX1_advance_27 : decode cX1_advance 27 = .ok (.iconst 0, 1) := by decide +kernel
theorem dX1_advance_28 : decode cX1_advance 28 = .ok (.ireturn, 1) := by decide +kernel
theorem dX1_advance_29 : decode cX1_advance 29 = .ok (.iconst 0, 1) := by decide +kernel
theorem dX1_advance_30 : decode cX1_advance 30 = .ok (.istore_n 2, 1) := by decide +kernel
theorem dX1_advance_31 : decode cX1_advance 31 = .ok (.aload_n 0, 1) := by decide +kernel
theorem dX1_advance_32 : decode cX1_advance 32 = .ok (.dup, 1) := by decide +kernel
theorem dX1_advance_33 : decode cX1_advance 33 = .ok (.getfield 77, 3) := by decide +kernel
theorem dX1_advance_36 : decode cX1_advance 36 = .ok (.iload_n 1, 1) := by decide +kernel
theorem dX1_advance_37 : decode cX1_advance 37 = .ok (.iadd, 1) := by decide +kernel
theorem dX1_advance_38 : decode cX1_advance 38 = .ok (.putfield 77, 3) := by decide +kernel
theorem dX1_advance_41 : decode cX1_advance 41 = .ok (.iconst 0, 1) := by decide +kernel
theorem dX1_advance_42 : decode cX1_advance 42 = .ok (.istore_n 3, 1) := by decide +kernel
theorem dX1_advance_43 : decode cX1_advance 43 = .ok (.iload_n 3, 1) := by decide +kernel
theorem dX1_advance_44 : decode cX1_advance 44 = .ok (.aload_n 0, 1) := by decide +kernel
theorem dX1_advance_45 : decode cX1_advance 45 = .ok (.getfield 64, 3) := by decide +kernel
theorem dX1_advance_48 : decode cX1_advance 48 = .ok (.if_icmp .ge 81, 3) := by decide +kernel
theorem dX1_advance_51 : decode cX1_advance 51 = .ok (.aload_n 0, 1) := by decide +kernel
theorem dX1_advance_52 : decode cX1_advance 52 = .ok (.getfield 22, 3) := by decide +kernel
theorem dX1_advance_55 : decode cX1_advance 55 = .ok (.iload_n 3, 1) := by decide +kernel
theorem dX1_advance_56 : decode cX1_advance 56 = .ok (.iaload, 1) := by decide +kernel
theorem dX1_advance_57 : decode cX1_advance 57 = .ok (.iconst 1, 1) := by decide +kernel
theorem dX1_advance_58 : decode cX1_advance 58 = .ok (.if_icmp .ne 65, 3) := by decide +kernel
theorem dX1_advance_61 : decode cX1_advance 61 = .ok (.aload_n 0, 1) := by decide +kernel
theorem dX1_advance_62 : decode cX1_advance 62 = .ok (.getfield 31, 3) := by decide +kernel
theorem dX1_advance_65 : decode cX1_advance 65 = .ok (.iload_n 3, 1) := by decide +kernel
theorem dX1_advance_66 : decode cX1_advance 66 = .ok (.iaload, 1) := by decide +kernel
theorem dX1_advance_67 : decode cX1_advance 67 = .ok (.aload_n 0, 1) := by decide +kernel
theorem dX1_advance_68 : decode cX1_advance 68 = .ok (.getfield 77, 3) := by decide +kernel
theorem dX1_advance_71 : decode cX1_advance 71 = .ok (.if_icmp .gt 52, 3) := by decide +kernel
theorem dX1_advance_74 : decode cX1_advance 74 = .ok (.aload_n 0, 1) := by decide +kernel
theorem dX1_advance_75 : decode cX1_advance 75 = .ok (.getfield 25, 3) := by decide +kernel
theorem dX1_advance_78 : decode cX1_advance 78 = .ok (.iload_n 3, 1) := by decide +kernel
theorem dX1_advance_79 : decode cX1_advance 79 = .ok (.dup2, 1) := by decide +kernel
theorem dX1_advance_80 : decode cX1_advance 80 = .ok (.iaload, 1) := by decide +kernel
theorem dX1_advance_81 : decode cX1_advance 81 = .ok (.iconst 1, 1) := by decide +kernel
theorem dX1_advance_82 : decode cX1_advance 82 = .ok (.iadd, 1) := by decide +kernel
theorem dX1_advance_83 : decode cX1_advance 83 = .ok (.iastore, 1) := by decide +kernel
theorem dX1_advance_84 : decode cX1_advance 84 = .ok (.aload_n 0, 1) := by decide +kernel
theorem dX1_advance_85 : decode cX1_advance 85 = .ok (.getfield 28, 3) := by decide +kernel
theorem dX1_advance_88 : decode cX1_advance 88 = .ok (.iload_n 3, 1) := by decide +kernel
theorem dX1_advance_89 : decode cX1_advance 89 = .ok (.aload_n 0, 1) := by decide +kernel
theorem dX1_advance_90 : decode cX1_advance 90 = .ok (.getfield 31, 3) := by decide +kernel
theorem dX1_advance_93 : decode cX1_advance 93 = .ok (.iload_n 3, 1) := by decide +kernel
theorem dX1_advance_94 : decode cX1_advance 94 = .ok (.iaload, 1) := by decide +kernel
theorem dX1_advance_95 : decode cX1_advance 95 = .ok (.iastore, 1) := by decide +kernel
theorem dX1_advance_96 : decode cX1_advance 96 = .ok (.aload_n 0, 1) := by decide +kernel
theorem dX1_advance_97 : decode cX1_advance 97 = .ok (.getfield 22, 3) := by decide +kernel
theorem dX1_advance_100 : decode cX1_advance 100 = .ok (.iload_n 3, 1) := by decide +kernel
theorem dX1_advance_101 : decode cX1_advance 101 = .ok (.aload_n 0, 1) := by decide +kernel
theorem dX1_advance_102 : decode cX1_advance 102 = .ok (.getfield 25, 3) := by decide +kernel
theorem dX1_advance_105 : decode cX1_advance 105 = .ok (.iload_n 3, 1) := by decide +kernel
theorem dX1_advance_106 : decode cX1_advance 106 = .ok (.iaload, 1) := by decide +kernel
theorem dX1_advance_107 : decode cX1_advance 107 = .ok (.aload_n 0, 1) := by decide +kernel
theorem dX1_advance_108 : decode cX1_advance 108 = .ok (.getfield 70, 3) := by decide +kernel
theorem dX1_advance_111 : decode cX1_advance 111 = .ok (.if_icmp .ne 7, 3) := by decide +kernel
theorem dX1_advance_114 : decode cX1_advance 114 = .ok (.iconst 2, 1) := by decide +kernel
theorem dX1_advance_115 : decode cX1_advance 115 = .ok (.goto 4, 3) := by decide +kernel
theorem dX1_advance_118 : decode cX1_advance 118 = .ok (.iconst 0, 1) := by decide +kernel
theorem dX1_advance_119 : decode cX1_advance 119 = .ok (.iastore, 1) := by decide +kernel
theorem dX1_advance_120 : decode cX1_advance 120 = .ok (.iinc 2 1, 3) := by decide +kernel
theorem dX1_advance_123 : decode cX1_advance 123 = .ok (.iinc 3 1, 3) := by decide +kernel
theorem dX1_advance_126 : decode cX1_advance 126 = .ok (.goto (-83), 3) := by decide +kernel
theorem dX1_advance_129 : decode cX1_advance 129 = .ok (.iload_n 2, 1) := by decide +kernel
theorem dX1_advance_130 : decode cX1_advance 130 = .ok (.ireturn, 1) := by decide +kernel
theorem dX1_time_0 : decode cX1_time 0 = .ok (.aload_n 0, 1) := by decide +kernel
theorem dX1_time_1 : decode cX1_time 1 = .ok (.iconst 0, 1) := by decide +kernel
theorem dX1_time_2 : decode cX1_time 2 = .ok (.putfield 56, 3) := by decide +kernel
theorem dX1_time_5 : decode cX1_time 5 = .ok (.aload_n 0, 1) := by decide +kernel
theorem dX1_time_6 : decode cX1_time 6 = .ok (.getfield 77, 3) := by decide +kernel
theorem dX1_time_9 : decode cX1_time 9 = .ok (.ireturn, 1) := by decide +kernel
theorem dX1_lots_0 : decode cX1_lots 0 = .ok (.aload_n 0, 1) := by decide +kernel
theorem dX1_lots_1 : decode cX1_lots 1 = .ok (.iconst 0, 1) := by decide +kernel
theorem dX1_lots_2 : decode cX1_lots 2 = .ok (.putfield 56, 3) := by decide +kernel
theorem dX1_lots_5 : decode cX1_lots 5 = .ok (.aload_n 0, 1) := by decide +kernel
theorem dX1_lots_6 : decode cX1_lots 6 = .ok (.getfield 64, 3) := by decide +kernel
theorem dX1_lots_9 : decode cX1_lots 9 = .ok (.ireturn, 1) := by decide +kernel
theorem dX1_wafers_0 : decode cX1_wafers 0 = .ok (.aload_n 0, 1) := by decide +kernel
theorem dX1_wafers_1 : decode cX1_wafers 1 = .ok (.iconst 0, 1) := by decide +kernel
theorem dX1_wafers_2 : decode cX1_wafers 2 = .ok (.putfield 56, 3) := by decide +kernel
theorem dX1_wafers_5 : decode cX1_wafers 5 = .ok (.aload_n 0, 1) := by decide +kernel
theorem dX1_wafers_6 : decode cX1_wafers 6 = .ok (.getfield 67, 3) := by decide +kernel
theorem dX1_wafers_9 : decode cX1_wafers 9 = .ok (.ireturn, 1) := by decide +kernel
set_option maxRecDepth 20000 in
theorem ggX1_told_X1_isLot : GoodIn wsX1_told wsX1_isLot := goodIn_r _ [6, 7, 8, 9, 5, 10, 15, 16, 17, 18, 19, 20, 21, 22, 23, 24, 25, 26, 27, 28, 29, 30, 31, 32, 33, 34] (by decide +kernel) (by decide +kernel)
set_option maxRecDepth 20000 in
theorem gX1_told_X1_isLot : GoodIn wsX1_told (wsV RX1 88 RX1 yX1_isLot wsX1_isLot) := goodIn_app (goodIn_of _ (by decide +kernel)) ggX1_told_X1_isLot
set_option maxRecDepth 20000 in
theorem ggX1_told_X1_fails : GoodIn wsX1_told wsX1_fails := goodIn_r _ [14, 1, 15, 16, 17, 18, 19, 20, 21, 22, 23, 24, 25, 26, 27, 28, 29, 30, 31, 32, 33, 34] (by decide +kernel) (by decide +kernel)
set_option maxRecDepth 20000 in
theorem gX1_told_X1_fails : GoodIn wsX1_told (wsV RX1 106 RX1 yX1_fails wsX1_fails) := goodIn_app (goodIn_of _ (by decide +kernel)) ggX1_told_X1_fails
theorem dX1_told_0 : decode cX1_told 0 = .ok (.aload_n 0, 1) := by decide +kernel
theorem dX1_told_1 : decode cX1_told 1 = .ok (.iconst 0, 1) := by decide +kernel
theorem dX1_told_2 : decode cX1_told 2 = .ok (.putfield 56, 3) := by decide +kernel
theorem dX1_told_5 : decode cX1_told 5 = .ok (.aload_n 0, 1) := by decide +kernel
theorem dX1_told_6 : decode cX1_told 6 = .ok (.iload_n 2, 1) := by decide +kernel
theorem dX1_told_7 : decode cX1_told 7 = .ok (.invokevirtual 88, 3) := by decide +kernel
theorem dX1_told_10 : decode cX1_told 10 = .ok (.ifCond .eq 9, 3) := by decide +kernel
theorem dX1_told_13 : decode cX1_told 13 = .ok (.aload_n 1, 1) := by decide +kernel
theorem dX1_told_14 : decode cX1_told 14 = .ok (.iload_n 2, 1) := by decide +kernel
theorem dX1_told_15 : decode cX1_told 15 = .ok (.iaload, 1) := by decide +kernel
theorem dX1_told_16 : decode cX1_told 16 = .ok (.goto 8, 3) := by decide +kernel
theorem dX1_told_19 : decode cX1_told 19 = .ok (.aload_n 0, 1) := by decide +kernel
theorem dX1_told_20 : decode cX1_told 20 = .ok (.iconst 1, 1) := by decide +kernel
theorem dX1_told_21 : decode cX1_told 21 = .ok (.invokevirtual 106, 3) := by decide +kernel
theorem dX1_told_24 : decode cX1_told 24 = .ok (.ireturn, 1) := by decide +kernel
set_option maxRecDepth 20000 in
theorem ggX1_state_X1_told : GoodIn wsX1_state wsX1_told := goodIn_r _ [6, 7, 8, 9, 10, 5, 11, 12, 13, 14, 15, 16, 17, 18, 19, 20, 21, 22, 23, 24, 25, 26, 27, 28, 29, 30, 31, 32, 33, 34, 35, 36, 37, 38, 39] (by decide +kernel) (by decide +kernel)
set_option maxRecDepth 20000 in
theorem gX1_state_X1_told : GoodIn wsX1_state (wsV RX1 109 RX1 yX1_told wsX1_told) := goodIn_app (goodIn_of _ (by decide +kernel)) ggX1_state_X1_told
theorem dX1_state_0 : decode cX1_state 0 = .ok (.aload_n 0, 1) := by decide +kernel
theorem dX1_state_1 : decode cX1_state 1 = .ok (.aload_n 0, 1) := by decide +kernel
theorem dX1_state_2 : decode cX1_state 2 = .ok (.getfield 22, 3) := by decide +kernel
theorem dX1_state_5 : decode cX1_state 5 = .ok (.iload_n 1, 1) := by decide +kernel
theorem dX1_state_6 : decode cX1_state 6 = .ok (.invokevirtual 109, 3) := by decide +kernel
theorem dX1_state_9 : decode cX1_state 9 = .ok (.ireturn, 1) := by decide +kernel
set_option maxRecDepth 20000 in
theorem ggX1_stepOf_X1_told : GoodIn wsX1_stepOf wsX1_told := goodIn_r _ [8, 2, 9, 10, 11, 7, 12, 13, 14, 15, 16, 17, 18, 19, 20, 21, 22, 23, 24, 25, 26, 27, 28, 29, 30, 31, 32, 33, 34, 35, 36, 37, 38, 39, 40] (by decide +kernel) (by decide +kernel)
set_option maxRecDepth 20000 in
theorem gX1_stepOf_X1_told : GoodIn wsX1_stepOf (wsV RX1 109 RX1 yX1_told wsX1_told) := goodIn_app (goodIn_of _ (by decide +kernel)) ggX1_stepOf_X1_told
theorem dX1_stepOf_0 : decode cX1_stepOf 0 = .ok (.aload_n 0, 1) := by decide +kernel
theorem dX1_stepOf_1 : decode cX1_stepOf 1 = .ok (.aload_n 0, 1) := by decide +kernel
theorem dX1_stepOf_2 : decode cX1_stepOf 2 = .ok (.getfield 25, 3) := by decide +kernel
theorem dX1_stepOf_5 : decode cX1_stepOf 5 = .ok (.iload_n 1, 1) := by decide +kernel
theorem dX1_stepOf_6 : decode cX1_stepOf 6 = .ok (.invokevirtual 109, 3) := by decide +kernel
theorem dX1_stepOf_9 : decode cX1_stepOf 9 = .ok (.istore_n 2, 1) := by decide +kernel
theorem dX1_stepOf_10 : decode cX1_stepOf 10 = .ok (.aload_n 0, 1) := by decide +kernel
theorem dX1_stepOf_11 : decode cX1_stepOf 11 = .ok (.getfield 56, 3) := by decide +kernel
theorem dX1_stepOf_14 : decode cX1_stepOf 14 = .ok (.ifCond .ne 17, 3) := by decide +kernel
theorem dX1_stepOf_17 : decode cX1_stepOf 17 = .ok (.aload_n 0, 1) := by decide +kernel
theorem dX1_stepOf_18 : decode cX1_stepOf 18 = .ok (.getfield 22, 3) := by decide +kernel
theorem dX1_stepOf_21 : decode cX1_stepOf 21 = .ok (.iload_n 1, 1) := by decide +kernel
theorem dX1_stepOf_22 : decode cX1_stepOf 22 = .ok (.iaload, 1) := by decide +kernel
theorem dX1_stepOf_23 : decode cX1_stepOf 23 = .ok (.iconst 1, 1) := by decide +kernel
theorem dX1_stepOf_24 : decode cX1_stepOf 24 = .ok (.if_icmp .le 7, 3) := by decide +kernel
theorem dX1_stepOf_27 : decode cX1_stepOf 27 = .ok (.iconst (-1), 1) := by decide +kernel
theorem dX1_stepOf_28 : decode cX1_stepOf 28 = .ok (.goto 4, 3) := by decide +kernel
theorem dX1_stepOf_31 : decode cX1_stepOf 31 = .ok (.iload_n 2, 1) := by decide +kernel
theorem dX1_stepOf_32 : decode cX1_stepOf 32 = .ok (.ireturn, 1) := by decide +kernel
set_option maxRecDepth 20000 in
theorem ggX1_size_X1_isLot : GoodIn wsX1_size wsX1_isLot := goodIn_r _ [6, 7, 8, 9, 5, 10, 21, 22, 23, 24, 25, 26, 27, 28, 29, 30, 31, 32, 33, 34, 35, 36, 37, 38, 39, 40] (by decide +kernel) (by decide +kernel)
set_option maxRecDepth 20000 in
theorem gX1_size_X1_isLot : GoodIn wsX1_size (wsV RX1 88 RX1 yX1_isLot wsX1_isLot) := goodIn_app (goodIn_of _ (by decide +kernel)) ggX1_size_X1_isLot
set_option maxRecDepth 20000 in
theorem ggX1_size_X1_count : GoodIn wsX1_size wsX1_count := goodIn_r _ [14, 15, 16, 21, 22, 23, 24, 25, 26, 27, 28, 29, 30, 31, 32, 33, 34, 35, 36, 37, 38, 39, 40] (by decide +kernel) (by decide +kernel)
set_option maxRecDepth 20000 in
theorem gX1_size_X1_count : GoodIn wsX1_size (wsV RX1 97 RX1 yX1_count wsX1_count) := goodIn_app (goodIn_of _ (by decide +kernel)) ggX1_size_X1_count
set_option maxRecDepth 20000 in
theorem ggX1_size_X1_fails : GoodIn wsX1_size wsX1_fails := goodIn_r _ [20, 1, 21, 22, 23, 24, 25, 26, 27, 28, 29, 30, 31, 32, 33, 34, 35, 36, 37, 38, 39, 40] (by decide +kernel) (by decide +kernel)
set_option maxRecDepth 20000 in
theorem gX1_size_X1_fails : GoodIn wsX1_size (wsV RX1 106 RX1 yX1_fails wsX1_fails) := goodIn_app (goodIn_of _ (by decide +kernel)) ggX1_size_X1_fails
theorem dX1_size_0 : decode cX1_size 0 = .ok (.aload_n 0, 1) := by decide +kernel
theorem dX1_size_1 : decode cX1_size 1 = .ok (.iconst 0, 1) := by decide +kernel
theorem dX1_size_2 : decode cX1_size 2 = .ok (.putfield 56, 3) := by decide +kernel
theorem dX1_size_5 : decode cX1_size 5 = .ok (.aload_n 0, 1) := by decide +kernel
theorem dX1_size_6 : decode cX1_size 6 = .ok (.iload_n 1, 1) := by decide +kernel
theorem dX1_size_7 : decode cX1_size 7 = .ok (.invokevirtual 88, 3) := by decide +kernel
theorem dX1_size_10 : decode cX1_size 10 = .ok (.ifCond .eq 11, 3) := by decide +kernel
theorem dX1_size_13 : decode cX1_size 13 = .ok (.aload_n 0, 1) := by decide +kernel
theorem dX1_size_14 : decode cX1_size 14 = .ok (.iload_n 1, 1) := by decide +kernel
theorem dX1_size_15 : decode cX1_size 15 = .ok (.invokevirtual 97, 3) := by decide +kernel
theorem dX1_size_18 : decode cX1_size 18 = .ok (.goto 8, 3) := by decide +kernel
theorem dX1_size_21 : decode cX1_size 21 = .ok (.aload_n 0, 1) := by decide +kernel
theorem dX1_size_22 : decode cX1_size 22 = .ok (.iconst 1, 1) := by decide +kernel
theorem dX1_size_23 : decode cX1_size 23 = .ok (.invokevirtual 106, 3) := by decide +kernel
theorem dX1_size_26 : decode cX1_size 26 = .ok (.ireturn, 1) := by decide +kernel
set_option maxRecDepth 20000 in
theorem ggX1_left_X1_waited : GoodIn wsX1_left wsX1_waited := goodIn_r _ [8, 9, 10, 11, 12, 13, 14, 15, 16, 17, 18, 19, 20, 21, 22, 23, 24, 25, 26, 27, 28, 29, 30] (by decide +kernel) (by decide +kernel)
set_option maxRecDepth 20000 in
theorem gX1_left_X1_waited : GoodIn wsX1_left (wsV RX1 84 RX1 yX1_waited wsX1_waited) := goodIn_app (goodIn_of _ (by decide +kernel)) ggX1_left_X1_waited
theorem dX1_left_0 : decode cX1_left 0 = .ok (.aload_n 0, 1) := by decide +kernel
theorem dX1_left_1 : decode cX1_left 1 = .ok (.getfield 16, 3) := by decide +kernel
theorem dX1_left_4 : decode cX1_left 4 = .ok (.aload_n 0, 1) := by decide +kernel
theorem dX1_left_5 : decode cX1_left 5 = .ok (.getfield 25, 3) := by decide +kernel
theorem dX1_left_8 : decode cX1_left 8 = .ok (.iload_n 1, 1) := by decide +kernel
theorem dX1_left_9 : decode cX1_left 9 = .ok (.iaload, 1) := by decide +kernel
theorem dX1_left_10 : decode cX1_left 10 = .ok (.iaload, 1) := by decide +kernel
theorem dX1_left_11 : decode cX1_left 11 = .ok (.istore_n 2, 1) := by decide +kernel
theorem dX1_left_12 : decode cX1_left 12 = .ok (.iload_n 2, 1) := by decide +kernel
theorem dX1_left_13 : decode cX1_left 13 = .ok (.ifCond .ne 8, 3) := by decide +kernel
theorem dX1_left_16 : decode cX1_left 16 = .ok (.ldc 113, 2) := by decide +kernel
theorem dX1_left_18 : decode cX1_left 18 = .ok (.goto 10, 3) := by decide +kernel
theorem dX1_left_21 : decode cX1_left 21 = .ok (.iload_n 2, 1) := by decide +kernel
theorem dX1_left_22 : decode cX1_left 22 = .ok (.aload_n 0, 1) := by decide +kernel
theorem dX1_left_23 : decode cX1_left 23 = .ok (.iload_n 1, 1) := by decide +kernel
theorem dX1_left_24 : decode cX1_left 24 = .ok (.invokevirtual 84, 3) := by decide +kernel
theorem dX1_left_27 : decode cX1_left 27 = .ok (.isub, 1) := by decide +kernel
theorem dX1_left_28 : decode cX1_left 28 = .ok (.ireturn, 1) := by decide +kernel
set_option maxRecDepth 20000 in
theorem ggX1_slack_X1_isLot : GoodIn wsX1_slack wsX1_isLot := goodIn_r _ [8, 9, 10, 11, 7, 12, 26, 27, 28, 29, 30, 31, 32, 33, 34, 35, 36, 37, 38, 39, 40, 41, 42, 43, 44, 45] (by decide +kernel) (by decide +kernel)
set_option maxRecDepth 20000 in
theorem gX1_slack_X1_isLot : GoodIn wsX1_slack (wsV RX1 88 RX1 yX1_isLot wsX1_isLot) := goodIn_app (goodIn_of _ (by decide +kernel)) ggX1_slack_X1_isLot
set_option maxRecDepth 20000 in
theorem ggX1_slack_X1_left : GoodIn wsX1_slack wsX1_left := goodIn_r _ [16, 17, 18, 19, 20, 21, 22, 7, 23, 24, 25, 26, 27, 28, 29, 30, 31, 32, 33, 34, 35, 36, 37, 38, 39, 40, 41, 42, 43, 44, 45] (by decide +kernel) (by decide +kernel)
set_option maxRecDepth 20000 in
theorem gX1_slack_X1_left : GoodIn wsX1_slack (wsV RX1 114 RX1 yX1_left wsX1_left) := goodIn_app (goodIn_of _ (by decide +kernel)) ggX1_slack_X1_left
theorem dX1_slack_0 : decode cX1_slack 0 = .ok (.aload_n 0, 1) := by decide +kernel
theorem dX1_slack_1 : decode cX1_slack 1 = .ok (.aload_n 0, 1) := by decide +kernel
theorem dX1_slack_2 : decode cX1_slack 2 = .ok (.iload_n 1, 1) := by decide +kernel
theorem dX1_slack_3 : decode cX1_slack 3 = .ok (.invokevirtual 88, 3) := by decide +kernel
theorem dX1_slack_6 : decode cX1_slack 6 = .ok (.ifCond .eq 7, 3) := by decide +kernel
theorem dX1_slack_9 : decode cX1_slack 9 = .ok (.iconst 0, 1) := by decide +kernel
theorem dX1_slack_10 : decode cX1_slack 10 = .ok (.goto 4, 3) := by decide +kernel
theorem dX1_slack_13 : decode cX1_slack 13 = .ok (.iconst 1, 1) := by decide +kernel
theorem dX1_slack_14 : decode cX1_slack 14 = .ok (.putfield 56, 3) := by decide +kernel
theorem dX1_slack_17 : decode cX1_slack 17 = .ok (.aload_n 0, 1) := by decide +kernel
theorem dX1_slack_18 : decode cX1_slack 18 = .ok (.getfield 56, 3) := by decide +kernel
theorem dX1_slack_21 : decode cX1_slack 21 = .ok (.ifCond .le 7, 3) := by decide +kernel
theorem dX1_slack_24 : decode cX1_slack 24 = .ok (.iconst 0, 1) := by decide +kernel
theorem dX1_slack_25 : decode cX1_slack 25 = .ok (.goto 22, 3) := by decide +kernel
theorem dX1_slack_28 : decode cX1_slack 28 = .ok (.aload_n 0, 1) := by decide +kernel
theorem dX1_slack_29 : decode cX1_slack 29 = .ok (.getfield 22, 3) := by decide +kernel
theorem dX1_slack_32 : decode cX1_slack 32 = .ok (.iload_n 1, 1) := by decide +kernel
theorem dX1_slack_33 : decode cX1_slack 33 = .ok (.iaload, 1) := by decide +kernel
theorem dX1_slack_34 : decode cX1_slack 34 = .ok (.ifCond .ne 11, 3) := by decide +kernel
theorem dX1_slack_37 : decode cX1_slack 37 = .ok (.aload_n 0, 1) := by decide +kernel
theorem dX1_slack_38 : decode cX1_slack 38 = .ok (.iload_n 1, 1) := by decide +kernel
theorem dX1_slack_39 : decode cX1_slack 39 = .ok (.invokevirtual 114, 3) := by decide +kernel
theorem dX1_slack_42 : decode cX1_slack 42 = .ok (.goto 5, 3) := by decide +kernel
theorem dX1_slack_45 : decode cX1_slack 45 = .ok (.ldc 117, 2) := by decide +kernel
theorem dX1_slack_47 : decode cX1_slack 47 = .ok (.ireturn, 1) := by decide +kernel
set_option maxRecDepth 20000 in
theorem ggX1_isLate_X1_isLot : GoodIn wsX1_isLate wsX1_isLot := goodIn_r _ [6, 7, 8, 9, 5, 10, 24, 25, 26, 27, 28, 29, 30, 31, 32, 33, 34, 35, 36, 37, 38, 39, 40, 41, 42, 43] (by decide +kernel) (by decide +kernel)
set_option maxRecDepth 20000 in
theorem gX1_isLate_X1_isLot : GoodIn wsX1_isLate (wsV RX1 88 RX1 yX1_isLot wsX1_isLot) := goodIn_app (goodIn_of _ (by decide +kernel)) ggX1_isLate_X1_isLot
set_option maxRecDepth 20000 in
theorem ggX1_isLate_X1_tooLate : GoodIn wsX1_isLate wsX1_tooLate := goodIn_r _ [14, 15, 16, 17, 18, 19, 20, 5, 21, 22, 23, 24, 25, 26, 27, 28, 29, 30, 31, 32, 33, 34, 35, 36, 37, 38, 39, 40, 41, 42, 43] (by decide +kernel) (by decide +kernel)
set_option maxRecDepth 20000 in
theorem gX1_isLate_X1_tooLate : GoodIn wsX1_isLate (wsV RX1 91 RX1 yX1_tooLate wsX1_tooLate) := goodIn_app (goodIn_of _ (by decide +kernel)) ggX1_isLate_X1_tooLate
theorem dX1_isLate_0 : decode cX1_isLate 0 = .ok (.aload_n 0, 1) := by decide +kernel
theorem dX1_isLate_1 : decode cX1_isLate 1 = .ok (.aload_n 0, 1) := by decide +kernel
theorem dX1_isLate_2 : decode cX1_isLate 2 = .ok (.iload_n 1, 1) := by decide +kernel
theorem dX1_isLate_3 : decode cX1_isLate 3 = .ok (.invokevirtual 88, 3) := by decide +kernel
theorem dX1_isLate_6 : decode cX1_isLate 6 = .ok (.ifCond .eq 7, 3) := by decide +kernel
theorem dX1_isLate_9 : decode cX1_isLate 9 = .ok (.iconst 0, 1) := by decide +kernel
theorem dX1_isLate_10 : decode cX1_isLate 10 = .ok (.goto 4, 3) := by decide +kernel
theorem dX1_isLate_13 : decode cX1_isLate 13 = .ok (.iconst 1, 1) := by decide +kernel
theorem dX1_isLate_14 : decode cX1_isLate 14 = .ok (.putfield 56, 3) := by decide +kernel
theorem dX1_isLate_17 : decode cX1_isLate 17 = .ok (.aload_n 0, 1) := by decide +kernel
theorem dX1_isLate_18 : decode cX1_isLate 18 = .ok (.getfield 56, 3) := by decide +kernel
theorem dX1_isLate_21 : decode cX1_isLate 21 = .ok (.ifCond .ne 15, 3) := by decide +kernel
theorem dX1_isLate_24 : decode cX1_isLate 24 = .ok (.aload_n 0, 1) := by decide +kernel
theorem dX1_isLate_25 : decode cX1_isLate 25 = .ok (.iload_n 1, 1) := by decide +kernel
theorem dX1_isLate_26 : decode cX1_isLate 26 = .ok (.invokevirtual 91, 3) := by decide +kernel
theorem dX1_isLate_29 : decode cX1_isLate 29 = .ok (.ifCond .eq 7, 3) := by decide +kernel
theorem dX1_isLate_32 : decode cX1_isLate 32 = .ok (.iconst 1, 1) := by decide +kernel
theorem dX1_isLate_33 : decode cX1_isLate 33 = .ok (.goto 4, 3) := by decide +kernel
theorem dX1_isLate_36 : decode cX1_isLate 36 = .ok (.iconst 0, 1) := by decide +kernel
theorem dX1_isLate_37 : decode cX1_isLate 37 = .ok (.ireturn, 1) := by decide +kernel
set_option maxRecDepth 20000 in
theorem ggX1_reworks_X1_told : GoodIn wsX1_reworks wsX1_told := goodIn_r _ [6, 7, 8, 9, 10, 5, 11, 12, 13, 14, 15, 16, 17, 18, 19, 20, 21, 22, 23, 24, 25, 26, 27, 28, 29, 30, 31, 32, 33, 34, 35, 36, 37, 38, 39] (by decide +kernel) (by decide +kernel)
set_option maxRecDepth 20000 in
theorem gX1_reworks_X1_told : GoodIn wsX1_reworks (wsV RX1 109 RX1 yX1_told wsX1_told) := goodIn_app (goodIn_of _ (by decide +kernel)) ggX1_reworks_X1_told
theorem dX1_reworks_0 : decode cX1_reworks 0 = .ok (.aload_n 0, 1) := by decide +kernel
theorem dX1_reworks_1 : decode cX1_reworks 1 = .ok (.aload_n 0, 1) := by decide +kernel
theorem dX1_reworks_2 : decode cX1_reworks 2 = .ok (.getfield 38, 3) := by decide +kernel
theorem dX1_reworks_5 : decode cX1_reworks 5 = .ok (.iload_n 1, 1) := by decide +kernel
theorem dX1_reworks_6 : decode cX1_reworks 6 = .ok (.invokevirtual 109, 3) := by decide +kernel
theorem dX1_reworks_9 : decode cX1_reworks 9 = .ok (.ireturn, 1) := by decide +kernel
set_option maxRecDepth 20000 in
theorem ggX1_nextFor_X1_isTool : GoodIn wsX1_nextFor wsX1_isTool := goodIn_r _ [10, 11, 12, 9, 13] (by decide +kernel) (by decide +kernel)
set_option maxRecDepth 20000 in
theorem gX1_nextFor_X1_isTool : GoodIn wsX1_nextFor (va_wsS RX1 73 yX1_isTool wsX1_isTool) := goodIn_app (goodIn_of _ (by decide +kernel)) ggX1_nextFor_X1_isTool
set_option maxRecDepth 20000 in
theorem ggX1_nextFor_X1_isBusy : GoodIn wsX1_nextFor wsX1_isBusy := goodIn_r _ [17, 2, 3, 5, 6, 34, 35, 36, 37, 38, 39, 40, 41, 42, 43, 44, 45, 46, 47, 48, 49, 50, 51, 52, 53] (by decide +kernel) (by decide +kernel)
set_option maxRecDepth 20000 in
theorem gX1_nextFor_X1_isBusy : GoodIn wsX1_nextFor (wsV RX1 94 RX1 yX1_isBusy wsX1_isBusy) := goodIn_app (goodIn_of _ (by decide +kernel)) ggX1_nextFor_X1_isBusy
set_option maxRecDepth 20000 in
theorem ggX1_nextFor_X1_tooLate : GoodIn wsX1_nextFor wsX1_tooLate := goodIn_r _ [21, 3, 22, 6, 23, 24, 25, 9, 26, 27, 28, 34, 35, 36, 37, 38, 39, 40, 41, 42, 43, 44, 45, 46, 47, 48, 49, 50, 51, 52, 53] (by decide +kernel) (by decide +kernel)
set_option maxRecDepth 20000 in
theorem gX1_nextFor_X1_tooLate : GoodIn wsX1_nextFor (wsV RX1 91 RX1 yX1_tooLate wsX1_tooLate) := goodIn_app (goodIn_of _ (by decide +kernel)) ggX1_nextFor_X1_tooLate
set_option maxRecDepth 20000 in
theorem ggX1_nextFor_X1_left : GoodIn wsX1_nextFor wsX1_left := goodIn_r _ [32, 22, 6, 33, 23, 24, 25, 9, 26, 27, 28, 34, 35, 36, 37, 38, 39, 40, 41, 42, 43, 44, 45, 46, 47, 48, 49, 50, 51, 52, 53] (by decide +kernel) (by decide +kernel)
set_option maxRecDepth 20000 in
theorem gX1_nextFor_X1_left : GoodIn wsX1_nextFor (wsV RX1 114 RX1 yX1_left wsX1_left) := goodIn_app (goodIn_of _ (by decide +kernel)) ggX1_nextFor_X1_left
theorem dX1_nextFor_0 : decode cX1_nextFor 0 = .ok (.aload_n 0, 1) := by decide +kernel
theorem dX1_nextFor_1 : decode cX1_nextFor 1 = .ok (.iload_n 1, 1) := by decide +kernel
theorem dX1_nextFor_2 : decode cX1_nextFor 2 = .ok (.invokestatic 73, 3) := by decide +kernel
theorem dX1_nextFor_5 : decode cX1_nextFor 5 = .ok (.ifCond .eq 7, 3) := by decide +kernel
theorem dX1_nextFor_8 : decode cX1_nextFor 8 = .ok (.iconst 0, 1) := by decide +kernel
theorem dX1_nextFor_9 : decode cX1_nextFor 9 = .ok (.goto 4, 3) := by decide +kernel
theorem dX1_nextFor_12 : decode cX1_nextFor 12 = .ok (.iconst 1, 1) := by decide +kernel
theorem dX1_nextFor_13 : decode cX1_nextFor 13 = .ok (.putfield 56, 3) := by decide +kernel
theorem dX1_nextFor_16 : decode cX1_nextFor 16 = .ok (.aload_n 0, 1) := by decide +kernel
theorem dX1_nextFor_17 : decode cX1_nextFor 17 = .ok (.getfield 56, 3) := by decide +kernel
theorem dX1_nextFor_20 : decode cX1_nextFor 20 = .ok (.ifCond .le 5, 3) := by decide +kernel
theorem dX1_nextFor_23 : decode cX1_nextFor 23 = .ok (.iconst 0, 1) := by decide +kernel
theorem dX1_nextFor_24 : decode cX1_nextFor 24 = .ok (.ireturn, 1) := by decide +kernel
theorem dX1_nextFor_25 : decode cX1_nextFor 25 = .ok (.iconst (-1), 1) := by decide +kernel
theorem dX1_nextFor_26 : decode cX1_nextFor 26 = .ok (.istore_n 2, 1) := by decide +kernel
theorem dX1_nextFor_27 : decode cX1_nextFor 27 = .ok (.iconst 0, 1) := by decide +kernel
theorem dX1_nextFor_28 : decode cX1_nextFor 28 = .ok (.istore_n 3, 1) := by decide +kernel
theorem dX1_nextFor_29 : decode cX1_nextFor 29 = .ok (.iload_n 3, 1) := by decide +kernel
theorem dX1_nextFor_30 : decode cX1_nextFor 30 = .ok (.aload_n 0, 1) := by decide +kernel
theorem dX1_nextFor_31 : decode cX1_nextFor 31 = .ok (.getfield 64, 3) := by decide +kernel
theorem dX1_nextFor_34 : decode cX1_nextFor 34 = .ok (.if_icmp .ge 94, 3) := by decide +kernel
theorem dX1_nextFor_37 : decode cX1_nextFor 37 = .ok (.aload_n 0, 1) := by decide +kernel
theorem dX1_nextFor_38 : decode cX1_nextFor 38 = .ok (.iload_n 1, 1) := by decide +kernel
theorem dX1_nextFor_39 : decode cX1_nextFor 39 = .ok (.invokevirtual 94, 3) := by decide +kernel
theorem dX1_nextFor_42 : decode cX1_nextFor 42 = .ok (.ifCond .ne 86, 3) := by decide +kernel
theorem dX1_nextFor_45 : decode cX1_nextFor 45 = .ok (.aload_n 0, 1) := by decide +kernel
theorem dX1_nextFor_46 : decode cX1_nextFor 46 = .ok (.getfield 22, 3) := by decide +kernel
theorem dX1_nextFor_49 : decode cX1_nextFor 49 = .ok (.iload_n 3, 1) := by decide +kernel
theorem dX1_nextFor_50 : decode cX1_nextFor 50 = .ok (.iaload, 1) := by decide +kernel
theorem dX1_nextFor_51 : decode cX1_nextFor 51 = .ok (.ifCond .ne 39, 3) := by decide +kernel
theorem dX1_nextFor_54 : decode cX1_nextFor 54 = .ok (.aload_n 0, 1) := by decide +kernel
theorem dX1_nextFor_55 : decode cX1_nextFor 55 = .ok (.getfield 34, 3) := by decide +kernel
theorem dX1_nextFor_58 : decode cX1_nextFor 58 = .ok (.iload_n 3, 1) := by decide +kernel
theorem dX1_nextFor_59 : decode cX1_nextFor 59 = .ok (.baload, 1) := by decide +kernel
theorem dX1_nextFor_60 : decode cX1_nextFor 60 = .ok (.ifCond .ne 30, 3) := by decide +kernel
theorem dX1_nextFor_63 : decode cX1_nextFor 63 = .ok (.aload_n 0, 1) := by decide +kernel
theorem dX1_nextFor_64 : decode cX1_nextFor 64 = .ok (.iload_n 3, 1) := by decide +kernel
theorem dX1_nextFor_65 : decode cX1_nextFor 65 = .ok (.invokevirtual 91, 3) := by decide +kernel
theorem dX1_nextFor_68 : decode cX1_nextFor 68 = .ok (.ifCond .ne 22, 3) := by decide +kernel
theorem dX1_nextFor_71 : decode cX1_nextFor 71 = .ok (.aload_n 0, 1) := by decide +kernel
theorem dX1_nextFor_72 : decode cX1_nextFor 72 = .ok (.getfield 7, 3) := by decide +kernel
theorem dX1_nextFor_75 : decode cX1_nextFor 75 = .ok (.aload_n 0, 1) := by decide +kernel
theorem dX1_nextFor_76 : decode cX1_nextFor 76 = .ok (.getfield 25, 3) := by decide +kernel
theorem dX1_nextFor_79 : decode cX1_nextFor 79 = .ok (.iload_n 3, 1) := by decide +kernel
theorem dX1_nextFor_80 : decode cX1_nextFor 80 = .ok (.iaload, 1) := by decide +kernel
theorem dX1_nextFor_81 : decode cX1_nextFor 81 = .ok (.iaload, 1) := by decide +kernel
theorem dX1_nextFor_82 : decode cX1_nextFor 82 = .ok (.iload_n 1, 1) := by decide +kernel
theorem dX1_nextFor_83 : decode cX1_nextFor 83 = .ok (.if_icmp .ne 7, 3) := by decide +kernel
theorem dX1_nextFor_86 : decode cX1_nextFor 86 = .ok (.iconst 1, 1) := by decide +kernel
theorem dX1_nextFor_87 : decode cX1_nextFor 87 = .ok (.goto 4, 3) := by decide +kernel
theorem dX1_nextFor_90 : decode cX1_nextFor 90 = .ok (.iconst 0, 1) := by decide +kernel
theorem dX1_nextFor_91 : decode cX1_nextFor 91 = .ok (.istore 4, 2) := by decide +kernel
theorem dX1_nextFor_93 : decode cX1_nextFor 93 = .ok (.iload 4, 2) := by decide +kernel
theorem dX1_nextFor_95 : decode cX1_nextFor 95 = .ok (.ifCond .eq 25, 3) := by decide +kernel
theorem dX1_nextFor_98 : decode cX1_nextFor 98 = .ok (.iload_n 2, 1) := by decide +kernel
theorem dX1_nextFor_99 : decode cX1_nextFor 99 = .ok (.iconst (-1), 1) := by decide +kernel
theorem dX1_nextFor_100 : decode cX1_nextFor 100 = .ok (.if_icmp .eq 16, 3) := by decide +kernel
theorem dX1_nextFor_103 : decode cX1_nextFor 103 = .ok (.aload_n 0, 1) := by decide +kernel
theorem dX1_nextFor_104 : decode cX1_nextFor 104 = .ok (.iload_n 3, 1) := by decide +kernel
theorem dX1_nextFor_105 : decode cX1_nextFor 105 = .ok (.invokevirtual 114, 3) := by decide +kernel
theorem dX1_nextFor_108 : decode cX1_nextFor 108 = .ok (.aload_n 0, 1) := by decide +kernel
theorem dX1_nextFor_109 : decode cX1_nextFor 109 = .ok (.iload_n 2, 1) := by decide +kernel
theorem dX1_nextFor_110 : decode cX1_nextFor 110 = .ok (.invokevirtual 114, 3) := by decide +kernel
theorem dX1_nextFor_113 : decode cX1_nextFor 113 = .ok (.if_icmp .ge 7, 3) := by decide +kernel
theorem dX1_nextFor_116 : decode cX1_nextFor 116 = .ok (.iload_n 3, 1) := by decide +kernel
theorem dX1_nextFor_117 : decode cX1_nextFor 117 = .ok (.goto 4, 3) := by decide +kernel
theorem dX1_nextFor_120 : decode cX1_nextFor 120 = .ok (.iload_n 2, 1) := by decide +kernel
theorem dX1_nextFor_121 : decode cX1_nextFor 121 = .ok (.istore_n 2, 1) := by decide +kernel
theorem dX1_nextFor_122 : decode cX1_nextFor 122 = .ok (.iinc 3 1, 3) := by decide +kernel
theorem dX1_nextFor_125 : decode cX1_nextFor 125 = .ok (.goto (-96), 3) := by decide +kernel
theorem dX1_nextFor_128 : decode cX1_nextFor 128 = .ok (.iload_n 2, 1) := by decide +kernel
theorem dX1_nextFor_129 : decode cX1_nextFor 129 = .ok (.ireturn, 1) := by decide +kernel
set_option maxRecDepth 20000 in
theorem ggX1_at_X1_in : GoodIn wsX1_at wsX1_in := goodIn_r _ [9] (by decide +kernel) (by decide +kernel)
set_option maxRecDepth 20000 in
theorem gX1_at_X1_in : GoodIn wsX1_at (va_wsS RX1 60 yX1_in wsX1_in) := goodIn_app (goodIn_of _ (by decide +kernel)) ggX1_at_X1_in
set_option maxRecDepth 20000 in
theorem ggX1_at_X1_count : GoodIn wsX1_at wsX1_count := goodIn_r _ [13, 14, 15, 16, 17, 18, 19, 20, 21, 22, 23, 24, 25, 26, 27, 28, 29, 30, 31, 32, 33, 34, 35] (by decide +kernel) (by decide +kernel)
set_option maxRecDepth 20000 in
theorem gX1_at_X1_count : GoodIn wsX1_at (wsV RX1 97 RX1 yX1_count wsX1_count) := goodIn_app (goodIn_of _ (by decide +kernel)) ggX1_at_X1_count
theorem dX1_at_0 : decode cX1_at 0 = .ok (.aload_n 0, 1) := by decide +kernel
theorem dX1_at_1 : decode cX1_at 1 = .ok (.iload_n 1, 1) := by decide +kernel
theorem dX1_at_2 : decode cX1_at 2 = .ok (.iconst 0, 1) := by decide +kernel
theorem dX1_at_3 : decode cX1_at 3 = .ok (.aload_n 0, 1) := by decide +kernel
theorem dX1_at_4 : decode cX1_at 4 = .ok (.getfield 70, 3) := by decide +kernel
theorem dX1_at_7 : decode cX1_at 7 = .ok (.iconst 1, 1) := by decide +kernel
theorem dX1_at_8 : decode cX1_at 8 = .ok (.isub, 1) := by decide +kernel
theorem dX1_at_9 : decode cX1_at 9 = .ok (.invokestatic 60, 3) := by decide +kernel
theorem dX1_at_12 : decode cX1_at 12 = .ok (.ifCond .eq 7, 3) := by decide +kernel
theorem dX1_at_15 : decode cX1_at 15 = .ok (.iconst 0, 1) := by decide +kernel
theorem dX1_at_16 : decode cX1_at 16 = .ok (.goto 4, 3) := by decide +kernel
theorem dX1_at_19 : decode cX1_at 19 = .ok (.iconst 1, 1) := by decide +kernel
theorem dX1_at_20 : decode cX1_at 20 = .ok (.putfield 56, 3) := by decide +kernel
theorem dX1_at_23 : decode cX1_at 23 = .ok (.iconst 0, 1) := by decide +kernel
theorem dX1_at_24 : decode cX1_at 24 = .ok (.istore_n 2, 1) := by decide +kernel
theorem dX1_at_25 : decode cX1_at 25 = .ok (.iconst 0, 1) := by decide +kernel
theorem dX1_at_26 : decode cX1_at 26 = .ok (.istore_n 3, 1) := by decide +kernel
theorem dX1_at_27 : decode cX1_at 27 = .ok (.iload_n 3, 1) := by decide +kernel
theorem dX1_at_28 : decode cX1_at 28 = .ok (.aload_n 0, 1) := by decide +kernel
theorem dX1_at_29 : decode cX1_at 29 = .ok (.getfield 64, 3) := by decide +kernel
theorem dX1_at_32 : decode cX1_at 32 = .ok (.if_icmp .ge 48, 3) := by decide +kernel
theorem dX1_at_35 : decode cX1_at 35 = .ok (.aload_n 0, 1) := by decide +kernel
theorem dX1_at_36 : decode cX1_at 36 = .ok (.getfield 56, 3) := by decide +kernel
theorem dX1_at_39 : decode cX1_at 39 = .ok (.ifCond .ne 41, 3) := by decide +kernel
theorem dX1_at_42 : decode cX1_at 42 = .ok (.iload_n 2, 1) := by decide +kernel
theorem dX1_at_43 : decode cX1_at 43 = .ok (.aload_n 0, 1) := by decide +kernel
theorem dX1_at_44 : decode cX1_at 44 = .ok (.getfield 22, 3) := by decide +kernel
theorem dX1_at_47 : decode cX1_at 47 = .ok (.iload_n 3, 1) := by decide +kernel
theorem dX1_at_48 : decode cX1_at 48 = .ok (.iaload, 1) := by decide +kernel
theorem dX1_at_49 : decode cX1_at 49 = .ok (.iconst 1, 1) := by decide +kernel
theorem dX1_at_50 : decode cX1_at 50 = .ok (.if_icmp .gt 21, 3) := by decide +kernel
theorem dX1_at_53 : decode cX1_at 53 = .ok (.aload_n 0, 1) := by decide +kernel
theorem dX1_at_54 : decode cX1_at 54 = .ok (.getfield 25, 3) := by decide +kernel
theorem dX1_at_57 : decode cX1_at 57 = .ok (.iload_n 3, 1) := by decide +kernel
theorem dX1_at_58 : decode cX1_at 58 = .ok (.iaload, 1) := by decide +kernel
theorem dX1_at_59 : decode cX1_at 59 = .ok (.iload_n 1, 1) := by decide +kernel
theorem dX1_at_60 : decode cX1_at 60 = .ok (.if_icmp .ne 11, 3) := by decide +kernel
theorem dX1_at_63 : decode cX1_at 63 = .ok (.aload_n 0, 1) := by decide +kernel
theorem dX1_at_64 : decode cX1_at 64 = .ok (.iload_n 3, 1) := by decide +kernel
theorem dX1_at_65 : decode cX1_at 65 = .ok (.invokevirtual 97, 3) := by decide +kernel
theorem dX1_at_68 : decode cX1_at 68 = .ok (.goto 4, 3) := by decide +kernel
theorem dX1_at_71 : decode cX1_at 71 = .ok (.iconst 0, 1) := by decide +kernel
theorem dX1_at_72 : decode cX1_at 72 = .ok (.iadd, 1) := by decide +kernel
theorem dX1_at_73 : decode cX1_at 73 = .ok (.istore_n 2, 1) := by decide +kernel
theorem dX1_at_74 : decode cX1_at 74 = .ok (.iinc 3 1, 3) := by decide +kernel
theorem dX1_at_77 : decode cX1_at 77 = .ok (.goto (-50), 3) := by decide +kernel
theorem dX1_at_80 : decode cX1_at 80 = .ok (.iload_n 2, 1) := by decide +kernel
theorem dX1_at_81 : decode cX1_at 81 = .ok (.ireturn, 1) := by decide +kernel
set_option maxRecDepth 20000 in
theorem ggX1_wafersAt_X1_at : GoodIn wsX1_wafersAt wsX1_at := goodIn_r _ [5, 6, 7, 8, 9, 10, 11, 12, 4, 13, 14, 15, 16, 17, 18, 19, 20, 21, 22, 23, 24, 25, 26, 27, 28, 29, 30, 31, 32, 33, 34, 35, 36, 37, 38, 39] (by decide +kernel) (by decide +kernel)
set_option maxRecDepth 20000 in
theorem gX1_wafersAt_X1_at : GoodIn wsX1_wafersAt (wsV RX1 118 RX1 yX1_at wsX1_at) := goodIn_app (goodIn_of _ (by decide +kernel)) ggX1_wafersAt_X1_at
theorem dX1_wafersAt_0 : decode cX1_wafersAt 0 = .ok (.aload_n 0, 1) := by decide +kernel
theorem dX1_wafersAt_1 : decode cX1_wafersAt 1 = .ok (.iload_n 1, 1) := by decide +kernel
theorem dX1_wafersAt_2 : decode cX1_wafersAt 2 = .ok (.invokevirtual 118, 3) := by decide +kernel
theorem dX1_wafersAt_5 : decode cX1_wafersAt 5 = .ok (.ireturn, 1) := by decide +kernel
set_option maxRecDepth 20000 in
theorem ggX1_wafersAtByWafers_X1_at : GoodIn wsX1_wafersAtByWafers wsX1_at := goodIn_r _ [5, 6, 7, 8, 9, 10, 11, 12, 4, 13, 14, 15, 16, 17, 18, 19, 20, 21, 22, 23, 24, 25, 26, 27, 28, 29, 30, 31, 32, 33, 34, 35, 36, 37, 38, 39] (by decide +kernel) (by decide +kernel)
set_option maxRecDepth 20000 in
theorem gX1_wafersAtByWafers_X1_at : GoodIn wsX1_wafersAtByWafers (wsV RX1 118 RX1 yX1_at wsX1_at) := goodIn_app (goodIn_of _ (by decide +kernel)) ggX1_wafersAtByWafers_X1_at
theorem dX1_wafersAtByWafers_0 : decode cX1_wafersAtByWafers 0 = .ok (.aload_n 0, 1) := by decide +kernel
theorem dX1_wafersAtByWafers_1 : decode cX1_wafersAtByWafers 1 = .ok (.iload_n 1, 1) := by decide +kernel
theorem dX1_wafersAtByWafers_2 : decode cX1_wafersAtByWafers 2 = .ok (.invokevirtual 118, 3) := by decide +kernel
theorem dX1_wafersAtByWafers_5 : decode cX1_wafersAtByWafers 5 = .ok (.ireturn, 1) := by decide +kernel
set_option maxRecDepth 20000 in
theorem ggX1_lotOf_X1_isWafer : GoodIn wsX1_lotOf wsX1_isWafer := goodIn_r _ [7, 8, 9, 10, 6, 11, 16, 17, 18, 19, 20, 21, 22, 23, 24, 25, 26, 27, 28, 29, 30, 31, 32, 33, 34, 35] (by decide +kernel) (by decide +kernel)
set_option maxRecDepth 20000 in
theorem gX1_lotOf_X1_isWafer : GoodIn wsX1_lotOf (wsV RX1 103 RX1 yX1_isWafer wsX1_isWafer) := goodIn_app (goodIn_of _ (by decide +kernel)) ggX1_lotOf_X1_isWafer
set_option maxRecDepth 20000 in
theorem ggX1_lotOf_X1_fails : GoodIn wsX1_lotOf wsX1_fails := goodIn_r _ [15, 1, 16, 17, 18, 19, 20, 21, 22, 23, 24, 25, 26, 27, 28, 29, 30, 31, 32, 33, 34, 35] (by decide +kernel) (by decide +kernel)
set_option maxRecDepth 20000 in
theorem gX1_lotOf_X1_fails : GoodIn wsX1_lotOf (wsV RX1 106 RX1 yX1_fails wsX1_fails) := goodIn_app (goodIn_of _ (by decide +kernel)) ggX1_lotOf_X1_fails
theorem dX1_lotOf_0 : decode cX1_lotOf 0 = .ok (.aload_n 0, 1) := by decide +kernel
theorem dX1_lotOf_1 : decode cX1_lotOf 1 = .ok (.iconst 0, 1) := by decide +kernel
theorem dX1_lotOf_2 : decode cX1_lotOf 2 = .ok (.putfield 56, 3) := by decide +kernel
theorem dX1_lotOf_5 : decode cX1_lotOf 5 = .ok (.aload_n 0, 1) := by decide +kernel
theorem dX1_lotOf_6 : decode cX1_lotOf 6 = .ok (.iload_n 1, 1) := by decide +kernel
theorem dX1_lotOf_7 : decode cX1_lotOf 7 = .ok (.invokevirtual 103, 3) := by decide +kernel
theorem dX1_lotOf_10 : decode cX1_lotOf 10 = .ok (.ifCond .eq 12, 3) := by decide +kernel
theorem dX1_lotOf_13 : decode cX1_lotOf 13 = .ok (.aload_n 0, 1) := by decide +kernel
theorem dX1_lotOf_14 : decode cX1_lotOf 14 = .ok (.getfield 44, 3) := by decide +kernel
theorem dX1_lotOf_17 : decode cX1_lotOf 17 = .ok (.iload_n 1, 1) := by decide +kernel
theorem dX1_lotOf_18 : decode cX1_lotOf 18 = .ok (.iaload, 1) := by decide +kernel
theorem dX1_lotOf_19 : decode cX1_lotOf 19 = .ok (.goto 8, 3) := by decide +kernel
theorem dX1_lotOf_22 : decode cX1_lotOf 22 = .ok (.aload_n 0, 1) := by decide +kernel
theorem dX1_lotOf_23 : decode cX1_lotOf 23 = .ok (.iconst 1, 1) := by decide +kernel
theorem dX1_lotOf_24 : decode cX1_lotOf 24 = .ok (.invokevirtual 106, 3) := by decide +kernel
theorem dX1_lotOf_27 : decode cX1_lotOf 27 = .ok (.ireturn, 1) := by decide +kernel
set_option maxRecDepth 20000 in
theorem ggX1_parentOf_X1_told : GoodIn wsX1_parentOf wsX1_told := goodIn_r _ [6, 7, 8, 9, 10, 5, 11, 12, 13, 14, 15, 16, 17, 18, 19, 20, 21, 22, 23, 24, 25, 26, 27, 28, 29, 30, 31, 32, 33, 34, 35, 36, 37, 38, 39] (by decide +kernel) (by decide +kernel)
set_option maxRecDepth 20000 in
theorem gX1_parentOf_X1_told : GoodIn wsX1_parentOf (wsV RX1 109 RX1 yX1_told wsX1_told) := goodIn_app (goodIn_of _ (by decide +kernel)) ggX1_parentOf_X1_told
theorem dX1_parentOf_0 : decode cX1_parentOf 0 = .ok (.aload_n 0, 1) := by decide +kernel
theorem dX1_parentOf_1 : decode cX1_parentOf 1 = .ok (.aload_n 0, 1) := by decide +kernel
theorem dX1_parentOf_2 : decode cX1_parentOf 2 = .ok (.getfield 41, 3) := by decide +kernel
theorem dX1_parentOf_5 : decode cX1_parentOf 5 = .ok (.iload_n 1, 1) := by decide +kernel
theorem dX1_parentOf_6 : decode cX1_parentOf 6 = .ok (.invokevirtual 109, 3) := by decide +kernel
theorem dX1_parentOf_9 : decode cX1_parentOf 9 = .ok (.ireturn, 1) := by decide +kernel
set_option maxRecDepth 20000 in
theorem ggX1_common_X1_isLot : GoodIn wsX1_common wsX1_isLot := goodIn_r _ [8, 9, 10, 11, 7, 12, 13, 14, 15, 16, 17, 18, 19, 20, 21, 22, 23, 24, 25, 26, 27, 28, 29, 30, 31, 32] (by decide +kernel) (by decide +kernel)
set_option maxRecDepth 20000 in
theorem gX1_common_X1_isLot : GoodIn wsX1_common (wsV RX1 88 RX1 yX1_isLot wsX1_isLot) := goodIn_app (goodIn_of _ (by decide +kernel)) ggX1_common_X1_isLot
theorem dX1_common_0 : decode cX1_common 0 = .ok (.aload_n 0, 1) := by decide +kernel
theorem dX1_common_1 : decode cX1_common 1 = .ok (.aload_n 0, 1) := by decide +kernel
theorem dX1_common_2 : decode cX1_common 2 = .ok (.iload_n 1, 1) := by decide +kernel
theorem dX1_common_3 : decode cX1_common 3 = .ok (.invokevirtual 88, 3) := by decide +kernel
theorem dX1_common_6 : decode cX1_common 6 = .ok (.ifCond .eq 15, 3) := by decide +kernel
theorem dX1_common_9 : decode cX1_common 9 = .ok (.aload_n 0, 1) := by decide +kernel
theorem dX1_common_10 : decode cX1_common 10 = .ok (.iload_n 2, 1) := by decide +kernel
theorem dX1_common_11 : decode cX1_common 11 = .ok (.invokevirtual 88, 3) := by decide +kernel
theorem dX1_common_14 : decode cX1_common 14 = .ok (.ifCond .eq 7, 3) := by decide +kernel
theorem dX1_common_17 : decode cX1_common 17 = .ok (.iconst 0, 1) := by decide +kernel
theorem dX1_common_18 : decode cX1_common 18 = .ok (.goto 4, 3) := by decide +kernel
theorem dX1_common_21 : decode cX1_common 21 = .ok (.iconst 1, 1) := by decide +kernel
theorem dX1_common_22 : decode cX1_common 22 = .ok (.putfield 56, 3) := by decide +kernel
theorem dX1_common_25 : decode cX1_common 25 = .ok (.aload_n 0, 1) := by decide +kernel
theorem dX1_common_26 : decode cX1_common 26 = .ok (.getfield 56, 3) := by decide +kernel
theorem dX1_common_29 : decode cX1_common 29 = .ok (.ifCond .le 5, 3) := by decide +kernel
theorem dX1_common_32 : decode cX1_common 32 = .ok (.iconst 0, 1) := by decide +kernel
theorem dX1_common_33 : decode cX1_common 33 = .ok (.ireturn, 1) := by decide +kernel
theorem dX1_common_34 : decode cX1_common 34 = .ok (.iconst 0, 1) := by decide +kernel
theorem dX1_common_35 : decode cX1_common 35 = .ok (.istore_n 3, 1) := by decide +kernel
theorem dX1_common_36 : decode cX1_common 36 = .ok (.iload_n 3, 1) := by decide +kernel
theorem dX1_common_37 : decode cX1_common 37 = .ok (.bipush 24, 2) := by decide +kernel
theorem dX1_common_39 : decode cX1_common 39 = .ok (.if_icmp .ge 16, 3) := by decide +kernel
theorem dX1_common_42 : decode cX1_common 42 = .ok (.aload_n 0, 1) := by decide +kernel
theorem dX1_common_43 : decode cX1_common 43 = .ok (.getfield 53, 3) := by decide +kernel
theorem dX1_common_46 : decode cX1_common 46 = .ok (.iload_n 3, 1) := by decide +kernel
theorem dX1_common_47 : decode cX1_common 47 = .ok (.iconst 0, 1) := by decide +kernel
theorem dX1_common_48 : decode cX1_common 48 = .ok (.bastore, 1) := by decide +kernel
theorem dX1_common_49 : decode cX1_common 49 = .ok (.iinc 3 1, 3) := by decide +kernel
theorem dX1_common_52 : decode cX1_common 52 = .ok (.goto (-16), 3) := by decide +kernel
theorem dX1_common_55 : decode cX1_common 55 = .ok (.iload_n 2, 1) := by decide +kernel
theorem dX1_common_56 : decode cX1_common 56 = .ok (.istore_n 3, 1) := by decide +kernel
theorem dX1_common_57 : decode cX1_common 57 = .ok (.iload_n 3, 1) := by decide +kernel
theorem dX1_common_58 : decode cX1_common 58 = .ok (.iconst (-1), 1) := by decide +kernel
theorem dX1_common_59 : decode cX1_common 59 = .ok (.if_icmp .eq 20, 3) := by decide +kernel
theorem dX1_common_62 : decode cX1_common 62 = .ok (.aload_n 0, 1) := by decide +kernel
theorem dX1_common_63 : decode cX1_common 63 = .ok (.getfield 53, 3) := by decide +kernel
theorem dX1_common_66 : decode cX1_common 66 = .ok (.iload_n 3, 1) := by decide +kernel
theorem dX1_common_67 : decode cX1_common 67 = .ok (.iconst 1, 1) := by decide +kernel
theorem dX1_common_68 : decode cX1_common 68 = .ok (.bastore, 1) := by decide +kernel
theorem dX1_common_69 : decode cX1_common 69 = .ok (.aload_n 0, 1) := by decide +kernel
theorem dX1_common_70 : decode cX1_common 70 = .ok (.getfield 41, 3) := by decide +kernel
theorem dX1_common_73 : decode cX1_common 73 = .ok (.iload_n 3, 1) := by decide +kernel
theorem dX1_common_74 : decode cX1_common 74 = .ok (.iaload, 1) := by decide +kernel
theorem dX1_common_75 : decode cX1_common 75 = .ok (.istore_n 3, 1) := by decide +kernel
theorem dX1_common_76 : decode cX1_common 76 = .ok (.goto (-19), 3) := by decide +kernel
theorem dX1_common_79 : decode cX1_common 79 = .ok (.iload_n 1, 1) := by decide +kernel
theorem dX1_common_80 : decode cX1_common 80 = .ok (.istore_n 3, 1) := by decide +kernel
theorem dX1_common_81 : decode cX1_common 81 = .ok (.iload_n 3, 1) := by decide +kernel
theorem dX1_common_82 : decode cX1_common 82 = .ok (.iconst (-1), 1) := by decide +kernel
theorem dX1_common_83 : decode cX1_common 83 = .ok (.if_icmp .eq 22, 3) := by decide +kernel
theorem dX1_common_86 : decode cX1_common 86 = .ok (.aload_n 0, 1) := by decide +kernel
theorem dX1_common_87 : decode cX1_common 87 = .ok (.getfield 53, 3) := by decide +kernel
theorem dX1_common_90 : decode cX1_common 90 = .ok (.iload_n 3, 1) := by decide +kernel
theorem dX1_common_91 : decode cX1_common 91 = .ok (.baload, 1) := by decide +kernel
theorem dX1_common_92 : decode cX1_common 92 = .ok (.ifCond .ne 13, 3) := by decide +kernel
theorem dX1_common_95 : decode cX1_common 95 = .ok (.aload_n 0, 1) := by decide +kernel
theorem dX1_common_96 : decode cX1_common 96 = .ok (.getfield 41, 3) := by decide +kernel
theorem dX1_common_99 : decode cX1_common 99 = .ok (.iload_n 3, 1) := by decide +kernel
theorem dX1_common_100 : decode cX1_common 100 = .ok (.iaload, 1) := by decide +kernel
theorem dX1_common_101 : decode cX1_common 101 = .ok (.istore_n 3, 1) := by decide +kernel
theorem dX1_common_102 : decode cX1_common 102 = .ok (.goto (-21), 3) := by decide +kernel
theorem dX1_common_105 : decode cX1_common 105 = .ok (.iload_n 3, 1) := by decide +kernel
theorem dX1_common_106 : decode cX1_common 106 = .ok (.ireturn, 1) := by decide +kernel
set_option maxRecDepth 20000 in
theorem ggX1_path_X1_isWafer : GoodIn wsX1_path wsX1_isWafer := goodIn_r _ [7, 8, 9, 10, 6, 11, 16, 17, 18, 19, 20, 21, 22, 23, 24, 25, 26, 27, 28, 29, 30, 31, 32, 33, 34, 35] (by decide +kernel) (by decide +kernel)
set_option maxRecDepth 20000 in
theorem gX1_path_X1_isWafer : GoodIn wsX1_path (wsV RX1 103 RX1 yX1_isWafer wsX1_isWafer) := goodIn_app (goodIn_of _ (by decide +kernel)) ggX1_path_X1_isWafer
set_option maxRecDepth 20000 in
theorem ggX1_path_X1_fails : GoodIn wsX1_path wsX1_fails := goodIn_r _ [15, 1, 16, 17, 18, 19, 20, 21, 22, 23, 24, 25, 26, 27, 28, 29, 30, 31, 32, 33, 34, 35] (by decide +kernel) (by decide +kernel)
set_option maxRecDepth 20000 in
theorem gX1_path_X1_fails : GoodIn wsX1_path (wsV RX1 106 RX1 yX1_fails wsX1_fails) := goodIn_app (goodIn_of _ (by decide +kernel)) ggX1_path_X1_fails
theorem dX1_path_0 : decode cX1_path 0 = .ok (.aload_n 0, 1) := by decide +kernel
theorem dX1_path_1 : decode cX1_path 1 = .ok (.iconst 0, 1) := by decide +kernel
theorem dX1_path_2 : decode cX1_path 2 = .ok (.putfield 56, 3) := by decide +kernel
theorem dX1_path_5 : decode cX1_path 5 = .ok (.aload_n 0, 1) := by decide +kernel
theorem dX1_path_6 : decode cX1_path 6 = .ok (.iload_n 1, 1) := by decide +kernel
theorem dX1_path_7 : decode cX1_path 7 = .ok (.invokevirtual 103, 3) := by decide +kernel
theorem dX1_path_10 : decode cX1_path 10 = .ok (.ifCond .eq 12, 3) := by decide +kernel
theorem dX1_path_13 : decode cX1_path 13 = .ok (.aload_n 0, 1) := by decide +kernel
theorem dX1_path_14 : decode cX1_path 14 = .ok (.getfield 47, 3) := by decide +kernel
theorem dX1_path_17 : decode cX1_path 17 = .ok (.iload_n 1, 1) := by decide +kernel
theorem dX1_path_18 : decode cX1_path 18 = .ok (.iaload, 1) := by decide +kernel
theorem dX1_path_19 : decode cX1_path 19 = .ok (.goto 8, 3) := by decide +kernel
theorem dX1_path_22 : decode cX1_path 22 = .ok (.aload_n 0, 1) := by decide +kernel
theorem dX1_path_23 : decode cX1_path 23 = .ok (.iconst 1, 1) := by decide +kernel
theorem dX1_path_24 : decode cX1_path 24 = .ok (.invokevirtual 106, 3) := by decide +kernel
theorem dX1_path_27 : decode cX1_path 27 = .ok (.ireturn, 1) := by decide +kernel
set_option maxRecDepth 20000 in
theorem ggX1_pathAt_X1_isWafer : GoodIn wsX1_pathAt wsX1_isWafer := goodIn_r _ [8, 9, 10, 11, 7, 12, 13, 14, 15, 16, 17, 18, 19, 20, 21, 22, 23, 24, 25, 26, 27, 28, 29, 30, 31, 32] (by decide +kernel) (by decide +kernel)
set_option maxRecDepth 20000 in
theorem gX1_pathAt_X1_isWafer : GoodIn wsX1_pathAt (wsV RX1 103 RX1 yX1_isWafer wsX1_isWafer) := goodIn_app (goodIn_of _ (by decide +kernel)) ggX1_pathAt_X1_isWafer
set_option maxRecDepth 20000 in
theorem ggX1_pathAt_X1_in : GoodIn wsX1_pathAt wsX1_in := goodIn_r _ [12] (by decide +kernel) (by decide +kernel)
set_option maxRecDepth 20000 in
theorem gX1_pathAt_X1_in : GoodIn wsX1_pathAt (va_wsS RX1 60 yX1_in wsX1_in) := goodIn_app (goodIn_of _ (by decide +kernel)) ggX1_pathAt_X1_in
theorem dX1_pathAt_0 : decode cX1_pathAt 0 = .ok (.aload_n 0, 1) := by decide +kernel
theorem dX1_pathAt_1 : decode cX1_pathAt 1 = .ok (.aload_n 0, 1) := by decide +kernel
theorem dX1_pathAt_2 : decode cX1_pathAt 2 = .ok (.iload_n 1, 1) := by decide +kernel
theorem dX1_pathAt_3 : decode cX1_pathAt 3 = .ok (.invokevirtual 103, 3) := by decide +kernel
theorem dX1_pathAt_6 : decode cX1_pathAt 6 = .ok (.ifCond .eq 23, 3) := by decide +kernel
theorem dX1_pathAt_9 : decode cX1_pathAt 9 = .ok (.iload_n 2, 1) := by decide +kernel
theorem dX1_pathAt_10 : decode cX1_pathAt 10 = .ok (.iconst 0, 1) := by decide +kernel
theorem dX1_pathAt_11 : decode cX1_pathAt 11 = .ok (.aload_n 0, 1) := by decide +kernel
theorem dX1_pathAt_12 : decode cX1_pathAt 12 = .ok (.getfield 47, 3) := by decide +kernel
theorem dX1_pathAt_15 : decode cX1_pathAt 15 = .ok (.iload_n 1, 1) := by decide +kernel
theorem dX1_pathAt_16 : decode cX1_pathAt 16 = .ok (.iaload, 1) := by decide +kernel
theorem dX1_pathAt_17 : decode cX1_pathAt 17 = .ok (.iconst 1, 1) := by decide +kernel
theorem dX1_pathAt_18 : decode cX1_pathAt 18 = .ok (.isub, 1) := by decide +kernel
theorem dX1_pathAt_19 : decode cX1_pathAt 19 = .ok (.invokestatic 60, 3) := by decide +kernel
theorem dX1_pathAt_22 : decode cX1_pathAt 22 = .ok (.ifCond .eq 7, 3) := by decide +kernel
theorem dX1_pathAt_25 : decode cX1_pathAt 25 = .ok (.iconst 0, 1) := by decide +kernel
theorem dX1_pathAt_26 : decode cX1_pathAt 26 = .ok (.goto 4, 3) := by decide +kernel
theorem dX1_pathAt_29 : decode cX1_pathAt 29 = .ok (.iconst 1, 1) := by decide +kernel
theorem dX1_pathAt_30 : decode cX1_pathAt 30 = .ok (.putfield 56, 3) := by decide +kernel
theorem dX1_pathAt_33 : decode cX1_pathAt 33 = .ok (.aload_n 0, 1) := by decide +kernel
theorem dX1_pathAt_34 : decode cX1_pathAt 34 = .ok (.getfield 56, 3) := by decide +kernel
theorem dX1_pathAt_37 : decode cX1_pathAt 37 = .ok (.ifCond .le 7, 3) := by decide +kernel
theorem dX1_pathAt_40 : decode cX1_pathAt 40 = .ok (.iconst 0, 1) := by decide +kernel
theorem dX1_pathAt_41 : decode cX1_pathAt 41 = .ok (.goto 14, 3) := by decide +kernel
theorem dX1_pathAt_44 : decode cX1_pathAt 44 = .ok (.aload_n 0, 1) := by decide +kernel
theorem dX1_pathAt_45 : decode cX1_pathAt 45 = .ok (.getfield 50, 3) := by decide +kernel
theorem dX1_pathAt_48 : decode cX1_pathAt 48 = .ok (.bipush 48, 2) := by decide +kernel
theorem dX1_pathAt_50 : decode cX1_pathAt 50 = .ok (.iload_n 1, 1) := by decide +kernel
theorem dX1_pathAt_51 : decode cX1_pathAt 51 = .ok (.imul, 1) := by decide +kernel
theorem dX1_pathAt_52 : decode cX1_pathAt 52 = .ok (.iload_n 2, 1) := by decide +kernel
theorem dX1_pathAt_53 : decode cX1_pathAt 53 = .ok (.iadd, 1) := by decide +kernel
theorem dX1_pathAt_54 : decode cX1_pathAt 54 = .ok (.iaload, 1) := by decide +kernel
theorem dX1_pathAt_55 : decode cX1_pathAt 55 = .ok (.ireturn, 1) := by decide +kernel
