theorem dX4_closesRing_7 : decode cX4_closesRing 7 = .ok (.bipush 6, 2) := by decide +kernel
theorem dX4_closesRing_9 : decode cX4_closesRing 9 = .ok (.if_icmp .ge 43, 3) := by decide +kernel
theorem dX4_closesRing_12 : decode cX4_closesRing 12 = .ok (.iconst 0, 1) := by decide +kernel
theorem dX4_closesRing_13 : decode cX4_closesRing 13 = .ok (.istore 5, 2) := by decide +kernel
theorem dX4_closesRing_15 : decode cX4_closesRing 15 = .ok (.iload 5, 2) := by decide +kernel
theorem dX4_closesRing_17 : decode cX4_closesRing 17 = .ok (.bipush 6, 2) := by decide +kernel
theorem dX4_closesRing_19 : decode cX4_closesRing 19 = .ok (.if_icmp .ge 27, 3) := by decide +kernel
theorem dX4_closesRing_22 : decode cX4_closesRing 22 = .ok (.iload_n 3, 1) := by decide +kernel
theorem dX4_closesRing_23 : decode cX4_closesRing 23 = .ok (.iload 5, 2) := by decide +kernel
theorem dX4_closesRing_25 : decode cX4_closesRing 25 = .ok (.invokestatic 169, 3) := by decide +kernel
theorem dX4_closesRing_28 : decode cX4_closesRing 28 = .ok (.ifCond .eq 12, 3) := by decide +kernel
theorem dX4_closesRing_31 : decode cX4_closesRing 31 = .ok (.iload_n 3, 1) := by decide +kernel
theorem dX4_closesRing_32 : decode cX4_closesRing 32 = .ok (.aload_n 0, 1) := by decide +kernel
theorem dX4_closesRing_33 : decode cX4_closesRing 33 = .ok (.iload 5, 2) := by decide +kernel
theorem dX4_closesRing_35 : decode cX4_closesRing 35 = .ok (.invokevirtual 114, 3) := by decide +kernel
theorem dX4_closesRing_38 : decode cX4_closesRing 38 = .ok (.ior, 1) := by decide +kernel
theorem dX4_closesRing_39 : decode cX4_closesRing 39 = .ok (.istore_n 3, 1) := by decide +kernel
theorem dX4_closesRing_40 : decode cX4_closesRing 40 = .ok (.iinc 5 1, 3) := by decide +kernel
theorem dX4_closesRing_43 : decode cX4_closesRing 43 = .ok (.goto (-28), 3) := by decide +kernel
theorem dX4_closesRing_46 : decode cX4_closesRing 46 = .ok (.iinc 4 1, 3) := by decide +kernel
theorem dX4_closesRing_49 : decode cX4_closesRing 49 = .ok (.goto (-44), 3) := by decide +kernel
theorem dX4_closesRing_52 : decode cX4_closesRing 52 = .ok (.iload_n 3, 1) := by decide +kernel
theorem dX4_closesRing_53 : decode cX4_closesRing 53 = .ok (.iload_n 1, 1) := by decide +kernel
theorem dX4_closesRing_54 : decode cX4_closesRing 54 = .ok (.invokestatic 169, 3) := by decide +kernel
theorem dX4_closesRing_57 : decode cX4_closesRing 57 = .ok (.ireturn, 1) := by decide +kernel
set_option maxRecDepth 20000 in
theorem ggX4_conflict_X4_has : GoodIn wsX4_conflict wsX4_has := goodIn_r _ [5] (by decide +kernel) (by decide +kernel)
set_option maxRecDepth 20000 in
theorem gX4_conflict_X4_has : GoodIn wsX4_conflict (va_wsS RX4 169 yX4_has wsX4_has) := goodIn_app (goodIn_of _ (by decide +kernel)) ggX4_conflict_X4_has
theorem dX4_conflict_0 : decode cX4_conflict 0 = .ok (.getstatic 172, 3) := by decide +kernel
theorem dX4_conflict_3 : decode cX4_conflict 3 = .ok (.iload_n 0, 1) := by decide +kernel
theorem dX4_conflict_4 : decode cX4_conflict 4 = .ok (.iaload, 1) := by decide +kernel
theorem dX4_conflict_5 : decode cX4_conflict 5 = .ok (.iload_n 1, 1) := by decide +kernel
theorem dX4_conflict_6 : decode cX4_conflict 6 = .ok (.invokestatic 169, 3) := by decide +kernel
theorem dX4_conflict_9 : decode cX4_conflict 9 = .ok (.ireturn, 1) := by decide +kernel
theorem dX4_has_0 : decode cX4_has 0 = .ok (.iload_n 0, 1) := by decide +kernel
theorem dX4_has_1 : decode cX4_has 1 = .ok (.iconst 1, 1) := by decide +kernel
theorem dX4_has_2 : decode cX4_has 2 = .ok (.iload_n 1, 1) := by decide +kernel
theorem dX4_has_3 : decode cX4_has 3 = .ok (.ishl, 1) := by decide +kernel
theorem dX4_has_4 : decode cX4_has 4 = .ok (.iand, 1) := by decide +kernel
theorem dX4_has_5 : decode cX4_has 5 = .ok (.ifCond .eq 7, 3) := by decide +kernel
theorem dX4_has_8 : decode cX4_has 8 = .ok (.iconst 1, 1) := by decide +kernel
theorem dX4_has_9 : decode cX4_has 9 = .ok (.goto 4, 3) := by decide +kernel
theorem dX4_has_12 : decode cX4_has 12 = .ok (.iconst 0, 1) := by decide +kernel
theorem dX4_has_13 : decode cX4_has 13 = .ok (.ireturn, 1) := by decide +kernel
theorem dX4_isSession_0 : decode cX4_isSession 0 = .ok (.iload_n 0, 1) := by decide +kernel
theorem dX4_isSession_1 : decode cX4_isSession 1 = .ok (.ifCond .lt 13, 3) := by decide +kernel
theorem dX4_isSession_4 : decode cX4_isSession 4 = .ok (.iload_n 0, 1) := by decide +kernel
theorem dX4_isSession_5 : decode cX4_isSession 5 = .ok (.bipush 6, 2) := by decide +kernel
theorem dX4_isSession_7 : decode cX4_isSession 7 = .ok (.if_icmp .ge 7, 3) := by decide +kernel
theorem dX4_isSession_10 : decode cX4_isSession 10 = .ok (.iconst 1, 1) := by decide +kernel
theorem dX4_isSession_11 : decode cX4_isSession 11 = .ok (.goto 4, 3) := by decide +kernel
theorem dX4_isSession_14 : decode cX4_isSession 14 = .ok (.iconst 0, 1) := by decide +kernel
theorem dX4_isSession_15 : decode cX4_isSession 15 = .ok (.ireturn, 1) := by decide +kernel
theorem dX4_isTable_0 : decode cX4_isTable 0 = .ok (.iload_n 0, 1) := by decide +kernel
theorem dX4_isTable_1 : decode cX4_isTable 1 = .ok (.ifCond .lt 13, 3) := by decide +kernel
theorem dX4_isTable_4 : decode cX4_isTable 4 = .ok (.iload_n 0, 1) := by decide +kernel
theorem dX4_isTable_5 : decode cX4_isTable 5 = .ok (.bipush 8, 2) := by decide +kernel
theorem dX4_isTable_7 : decode cX4_isTable 7 = .ok (.if_icmp .ge 7, 3) := by decide +kernel
theorem dX4_isTable_10 : decode cX4_isTable 10 = .ok (.iconst 1, 1) := by decide +kernel
theorem dX4_isTable_11 : decode cX4_isTable 11 = .ok (.goto 4, 3) := by decide +kernel
theorem dX4_isTable_14 : decode cX4_isTable 14 = .ok (.iconst 0, 1) := by decide +kernel
theorem dX4_isTable_15 : decode cX4_isTable 15 = .ok (.ireturn, 1) := by decide +kernel
theorem dX4_isMode_0 : decode cX4_isMode 0 = .ok (.iload_n 0, 1) := by decide +kernel
theorem dX4_isMode_1 : decode cX4_isMode 1 = .ok (.iconst 1, 1) := by decide +kernel
theorem dX4_isMode_2 : decode cX4_isMode 2 = .ok (.if_icmp .lt 13, 3) := by decide +kernel
theorem dX4_isMode_5 : decode cX4_isMode 5 = .ok (.iload_n 0, 1) := by decide +kernel
theorem dX4_isMode_6 : decode cX4_isMode 6 = .ok (.bipush 8, 2) := by decide +kernel
theorem dX4_isMode_8 : decode cX4_isMode 8 = .ok (.if_icmp .gt 7, 3) := by decide +kernel
theorem dX4_isMode_11 : decode cX4_isMode 11 = .ok (.iconst 1, 1) := by decide +kernel
theorem dX4_isMode_12 : decode cX4_isMode 12 = .ok (.goto 4, 3) := by decide +kernel
theorem dX4_isMode_15 : decode cX4_isMode 15 = .ok (.iconst 0, 1) := by decide +kernel
theorem dX4_isMode_16 : decode cX4_isMode 16 = .ok (.ireturn, 1) := by decide +kernel
theorem dX4_isLevel_0 : decode cX4_isLevel 0 = .ok (.iload_n 0, 1) := by decide +kernel
theorem dX4_isLevel_1 : decode cX4_isLevel 1 = .ok (.ifCond .lt 13, 3) := by decide +kernel
theorem dX4_isLevel_4 : decode cX4_isLevel 4 = .ok (.iload_n 0, 1) := by decide +kernel
theorem dX4_isLevel_5 : decode cX4_isLevel 5 = .ok (.bipush 8, 2) := by decide +kernel
theorem dX4_isLevel_7 : decode cX4_isLevel 7 = .ok (.if_icmp .ge 7, 3) := by decide +kernel
theorem dX4_isLevel_10 : decode cX4_isLevel 10 = .ok (.iconst 1, 1) := by decide +kernel
theorem dX4_isLevel_11 : decode cX4_isLevel 11 = .ok (.goto 4, 3) := by decide +kernel
theorem dX4_isLevel_14 : decode cX4_isLevel 14 = .ok (.iconst 0, 1) := by decide +kernel
theorem dX4_isLevel_15 : decode cX4_isLevel 15 = .ok (.ireturn, 1) := by decide +kernel
theorem dX4_isRow_0 : decode cX4_isRow 0 = .ok (.iload_n 0, 1) := by decide +kernel
theorem dX4_isRow_1 : decode cX4_isRow 1 = .ok (.ifCond .lt 14, 3) := by decide +kernel
theorem dX4_isRow_4 : decode cX4_isRow 4 = .ok (.iload_n 0, 1) := by decide +kernel
theorem dX4_isRow_5 : decode cX4_isRow 5 = .ok (.sipush 1200, 3) := by decide +kernel
theorem dX4_isRow_8 : decode cX4_isRow 8 = .ok (.if_icmp .ge 7, 3) := by decide +kernel
theorem dX4_isRow_11 : decode cX4_isRow 11 = .ok (.iconst 1, 1) := by decide +kernel
theorem dX4_isRow_12 : decode cX4_isRow 12 = .ok (.goto 4, 3) := by decide +kernel
theorem dX4_isRow_15 : decode cX4_isRow 15 = .ok (.iconst 0, 1) := by decide +kernel
theorem dX4_isRow_16 : decode cX4_isRow 16 = .ok (.ireturn, 1) := by decide +kernel
theorem dX5_init_0 : decode cX5_init 0 = .ok (.aload_n 0, 1) := by decide +kernel
theorem dX5_init_1 : decode cX5_init 1 = .ok (.invokespecial 1, 3) := by decide +kernel
theorem dX5_init_4 : decode cX5_init 4 = .ok (.aload_n 0, 1) := by decide +kernel
theorem dX5_init_5 : decode cX5_init 5 = .ok (.bipush 9, 2) := by decide +kernel
theorem dX5_init_7 : decode cX5_init 7 = .ok (.newarray .int, 2) := by decide +kernel
theorem dX5_init_9 : decode cX5_init 9 = .ok (.dup, 1) := by decide +kernel
theorem dX5_init_10 : decode cX5_init 10 = .ok (.iconst 0, 1) := by decide +kernel
theorem dX5_init_11 : decode cX5_init 11 = .ok (.iconst 0, 1) := by decide +kernel
theorem dX5_init_12 : decode cX5_init 12 = .ok (.iastore, 1) := by decide +kernel
theorem dX5_init_13 : decode cX5_init 13 = .ok (.dup, 1) := by decide +kernel
theorem dX5_init_14 : decode cX5_init 14 = .ok (.iconst 1, 1) := by decide +kernel
theorem dX5_init_15 : decode cX5_init 15 = .ok (.sipush 128, 3) := by decide +kernel
theorem dX5_init_18 : decode cX5_init 18 = .ok (.iastore, 1) := by decide +kernel
theorem dX5_init_19 : decode cX5_init 19 = .ok (.dup, 1) := by decide +kernel
theorem dX5_init_20 : decode cX5_init 20 = .ok (.iconst 2, 1) := by decide +kernel
theorem dX5_init_21 : decode cX5_init 21 = .ok (.sipush 192, 3) := by decide +kernel
theorem dX5_init_24 : decode cX5_init 24 = .ok (.iastore, 1) := by decide +kernel
theorem dX5_init_25 : decode cX5_init 25 = .ok (.dup, 1) := by decide +kernel
theorem dX5_init_26 : decode cX5_init 26 = .ok (.iconst 3, 1) := by decide +kernel
theorem dX5_init_27 : decode cX5_init 27 = .ok (.sipush 240, 3) := by decide +kernel
theorem dX5_init_30 : decode cX5_init 30 = .ok (.iastore, 1) := by decide +kernel
theorem dX5_init_31 : decode cX5_init 31 = .ok (.dup, 1) := by decide +kernel
theorem dX5_init_32 : decode cX5_init 32 = .ok (.iconst 4, 1) := by decide +kernel
theorem dX5_init_33 : decode cX5_init 33 = .ok (.sipush 248, 3) := by decide +kernel
theorem dX5_init_36 : decode cX5_init 36 = .ok (.iastore, 1) := by decide +kernel
theorem dX5_init_37 : decode cX5_init 37 = .ok (.dup, 1) := by decide +kernel
theorem dX5_init_38 : decode cX5_init 38 = .ok (.iconst 5, 1) := by decide +kernel
theorem dX5_init_39 : decode cX5_init 39 = .ok (.sipush 236, 3) := by decide +kernel
theorem dX5_init_42 : decode cX5_init 42 = .ok (.iastore, 1) := by decide +kernel
theorem dX5_init_43 : decode cX5_init 43 = .ok (.dup, 1) := by decide +kernel
theorem dX5_init_44 : decode cX5_init 44 = .ok (.bipush 6, 2) := by decide +kernel
theorem dX5_init_46 : decode cX5_init 46 = .ok (.sipush 252, 3) := by decide +kernel
theorem dX5_init_49 : decode cX5_init 49 = .ok (.iastore, 1) := by decide +kernel
theorem dX5_init_50 : decode cX5_init 50 = .ok (.dup, 1) := by decide +kernel
theorem dX5_init_51 : decode cX5_init 51 = .ok (.bipush 7, 2) := by decide +kernel
theorem dX5_init_53 : decode cX5_init 53 = .ok (.sipush 254, 3) := by decide +kernel
theorem dX5_init_56 : decode cX5_init 56 = .ok (.iastore, 1) := by decide +kernel
theorem dX5_init_57 : decode cX5_init 57 = .ok (.dup, 1) := by decide +kernel
theorem dX5_init_58 : decode cX5_init 58 = .ok (.bipush 8, 2) := by decide +kernel
theorem dX5_init_60 : decode cX5_init 60 = .ok (.sipush 255, 3) := by decide +kernel
theorem dX5_init_63 : decode cX5_init 63 = .ok (.iastore, 1) := by decide +kernel
theorem dX5_init_64 : decode cX5_init 64 = .ok (.putfield 7, 3) := by decide +kernel
theorem dX5_init_67 : decode cX5_init 67 = .ok (.aload_n 0, 1) := by decide +kernel
theorem dX5_init_68 : decode cX5_init 68 = .ok (.sipush 4001, 3) := by decide +kernel
theorem dX5_init_71 : decode cX5_init 71 = .ok (.newarray .int, 2) := by decide +kernel
theorem dX5_init_73 : decode cX5_init 73 = .ok (.putfield 13, 3) := by decide +kernel
theorem dX5_init_76 : decode cX5_init 76 = .ok (.aload_n 0, 1) := by decide +kernel
theorem dX5_init_77 : decode cX5_init 77 = .ok (.sipush 4001, 3) := by decide +kernel
theorem dX5_init_80 : decode cX5_init 80 = .ok (.newarray .boolean, 2) := by decide +kernel
theorem dX5_init_82 : decode cX5_init 82 = .ok (.putfield 16, 3) := by decide +kernel
theorem dX5_init_85 : decode cX5_init 85 = .ok (.aload_n 0, 1) := by decide +kernel
theorem dX5_init_86 : decode cX5_init 86 = .ok (.sipush 432, 3) := by decide +kernel
theorem dX5_init_89 : decode cX5_init 89 = .ok (.newarray .int, 2) := by decide +kernel
theorem dX5_init_91 : decode cX5_init 91 = .ok (.putfield 20, 3) := by decide +kernel
theorem dX5_init_94 : decode cX5_init 94 = .ok (.aload_n 0, 1) := by decide +kernel
theorem dX5_init_95 : decode cX5_init 95 = .ok (.bipush 6, 2) := by decide +kernel
theorem dX5_init_97 : decode cX5_init 97 = .ok (.newarray .int, 2) := by decide +kernel
theorem dX5_init_99 : decode cX5_init 99 = .ok (.putfield 23, 3) := by decide +kernel
theorem dX5_init_102 : decode cX5_init 102 = .ok (.aload_n 0, 1) := by decide +kernel
theorem dX5_init_103 : decode cX5_init 103 = .ok (.bipush 6, 2) := by decide +kernel
theorem dX5_init_105 : decode cX5_init 105 = .ok (.newarray .int, 2) := by decide +kernel
theorem dX5_init_107 : decode cX5_init 107 = .ok (.putfield 26, 3) := by decide +kernel
theorem dX5_init_110 : decode cX5_init 110 = .ok (.aload_n 0, 1) := by decide +kernel
theorem dX5_init_111 : decode cX5_init 111 = .ok (.bipush 6, 2) := by decide +kernel
theorem dX5_init_113 : decode cX5_init 113 = .ok (.newarray .int, 2) := by decide +kernel
theorem dX5_init_115 : decode cX5_init 115 = .ok (.putfield 29, 3) := by decide +kernel
theorem dX5_init_118 : decode cX5_init 118 = .ok (.aload_n 0, 1) := by decide +kernel
theorem dX5_init_119 : decode cX5_init 119 = .ok (.bipush 6, 2) := by decide +kernel
theorem dX5_init_121 : decode cX5_init 121 = .ok (.newarray .int, 2) := by decide +kernel
theorem dX5_init_123 : decode cX5_init 123 = .ok (.putfield 32, 3) := by decide +kernel
theorem dX5_init_126 : decode cX5_init 126 = .ok (.aload_n 0, 1) := by decide +kernel
theorem dX5_init_127 : decode cX5_init 127 = .ok (.bipush 6, 2) := by decide +kernel
theorem dX5_init_129 : decode cX5_init 129 = .ok (.newarray .boolean, 2) := by decide +kernel
theorem dX5_init_131 : decode cX5_init 131 = .ok (.putfield 35, 3) := by decide +kernel
theorem dX5_init_134 : decode cX5_init 134 = .ok (.aload_n 0, 1) := by decide +kernel
theorem dX5_init_135 : decode cX5_init 135 = .ok (.bipush 6, 2) := by decide +kernel
theorem dX5_init_137 : decode cX5_init 137 = .ok (.newarray .int, 2) := by decide +kernel
theorem dX5_init_139 : decode cX5_init 139 = .ok (.putfield 38, 3) := by decide +kernel
theorem dX5_init_142 : decode cX5_init 142 = .ok (.aload_n 0, 1) := by decide +kernel
theorem dX5_init_143 : decode cX5_init 143 = .ok (.bipush 6, 2) := by decide +kernel
theorem dX5_init_145 : decode cX5_init 145 = .ok (.newarray .int, 2) := by decide +kernel
theorem dX5_init_147 : decode cX5_init 147 = .ok (.putfield 41, 3) := by decide +kernel
theorem dX5_init_150 : decode cX5_init 150 = .ok (.aload_n 0, 1) := by decide +kernel
theorem dX5_init_151 : decode cX5_init 151 = .ok (.sipush 600, 3) := by decide +kernel
theorem dX5_init_154 : decode cX5_init 154 = .ok (.newarray .int, 2) := by decide +kernel
theorem dX5_init_156 : decode cX5_init 156 = .ok (.putfield 44, 3) := by decide +kernel
theorem dX5_init_159 : decode cX5_init 159 = .ok (.aload_n 0, 1) := by decide +kernel
theorem dX5_init_160 : decode cX5_init 160 = .ok (.sipush 600, 3) := by decide +kernel
theorem dX5_init_163 : decode cX5_init 163 = .ok (.newarray .int, 2) := by decide +kernel
theorem dX5_init_165 : decode cX5_init 165 = .ok (.putfield 47, 3) := by decide +kernel
theorem dX5_init_168 : decode cX5_init 168 = .ok (.aload_n 0, 1) := by decide +kernel
theorem dX5_init_169 : decode cX5_init 169 = .ok (.sipush 600, 3) := by decide +kernel
theorem dX5_init_172 : decode cX5_init 172 = .ok (.newarray .int, 2) := by decide +kernel
theorem dX5_init_174 : decode cX5_init 174 = .ok (.putfield 50, 3) := by decide +kernel
theorem dX5_init_177 : decode cX5_init 177 = .ok (.return_, 1) := by decide +kernel
theorem dX5_in_0 : decode cX5_in 0 = .ok (.iload_n 0, 1) := by decide +kernel
theorem dX5_in_1 : decode cX5_in 1 = .ok (.iload_n 1, 1) := by decide +kernel
theorem dX5_in_2 : decode cX5_in 2 = .ok (.if_icmp .lt 12, 3) := by decide +kernel
theorem dX5_in_5 : decode cX5_in 5 = .ok (.iload_n 0, 1) := by decide +kernel
theorem dX5_in_6 : decode cX5_in 6 = .ok (.iload_n 2, 1) := by decide +kernel
theorem dX5_in_7 : decode cX5_in 7 = .ok (.if_icmp .gt 7, 3) := by decide +kernel
theorem dX5_in_10 : decode cX5_in 10 = .ok (.iconst 1, 1) := by decide +kernel
theorem dX5_in_11 : decode cX5_in 11 = .ok (.goto 4, 3) := by decide +kernel
theorem dX5_in_14 : decode cX5_in 14 = .ok (.iconst 0, 1) := by decide +kernel
theorem dX5_in_15 : decode cX5_in 15 = .ok (.ireturn, 1) := by decide +kernel
set_option maxRecDepth 20000 in
theorem ggX5_isSession_X5_in : GoodIn wsX5_isSession wsX5_in := goodIn_r _ [4] (by decide +kernel) (by decide +kernel)
set_option maxRecDepth 20000 in
theorem gX5_isSession_X5_in : GoodIn wsX5_isSession (va_wsS RX5 53 yX5_in wsX5_in) := goodIn_app (goodIn_of _ (by decide +kernel)) ggX5_isSession_X5_in
theorem dX5_isSession_0 : decode cX5_isSession 0 = .ok (.iload_n 0, 1) := by decide +kernel
theorem dX5_isSession_1 : decode cX5_isSession 1 = .ok (.iconst 0, 1) := by decide +kernel
theorem dX5_isSession_2 : decode cX5_isSession 2 = .ok (.iconst 5, 1) := by decide +kernel
theorem dX5_isSession_3 : decode cX5_isSession 3 = .ok (.invokestatic 53, 3) := by decide +kernel
theorem dX5_isSession_6 : decode cX5_isSession 6 = .ok (.ireturn, 1) := by decide +kernel
set_option maxRecDepth 20000 in
theorem ggX5_isRunning_X5_in : GoodIn wsX5_isRunning wsX5_in := goodIn_r _ [6] (by decide +kernel) (by decide +kernel)
set_option maxRecDepth 20000 in
theorem gX5_isRunning_X5_in : GoodIn wsX5_isRunning (va_wsS RX5 53 yX5_in wsX5_in) := goodIn_app (goodIn_of _ (by decide +kernel)) ggX5_isRunning_X5_in
theorem dX5_isRunning_0 : decode cX5_isRunning 0 = .ok (.iload_n 1, 1) := by decide +kernel
theorem dX5_isRunning_1 : decode cX5_isRunning 1 = .ok (.iconst 1, 1) := by decide +kernel
theorem dX5_isRunning_2 : decode cX5_isRunning 2 = .ok (.aload_n 0, 1) := by decide +kernel
theorem dX5_isRunning_3 : decode cX5_isRunning 3 = .ok (.getfield 57, 3) := by decide +kernel
theorem dX5_isRunning_6 : decode cX5_isRunning 6 = .ok (.invokestatic 53, 3) := by decide +kernel
theorem dX5_isRunning_9 : decode cX5_isRunning 9 = .ok (.ifCond .eq 16, 3) := by decide +kernel
theorem dX5_isRunning_12 : decode cX5_isRunning 12 = .ok (.aload_n 0, 1) := by decide +kernel
theorem dX5_isRunning_13 : decode cX5_isRunning 13 = .ok (.getfield 16, 3) := by decide +kernel
theorem dX5_isRunning_16 : decode cX5_isRunning 16 = .ok (.iload_n 1, 1) := by decide +kernel
theorem dX5_isRunning_17 : decode cX5_isRunning 17 = .ok (.baload, 1) := by decide +kernel
theorem dX5_isRunning_18 : decode cX5_isRunning 18 = .ok (.ifCond .eq 7, 3) := by decide +kernel
theorem dX5_isRunning_21 : decode cX5_isRunning 21 = .ok (.iconst 1, 1) := by decide +kernel
theorem dX5_isRunning_22 : decode cX5_isRunning 22 = .ok (.goto 4, 3) := by decide +kernel
theorem dX5_isRunning_25 : decode cX5_isRunning 25 = .ok (.iconst 0, 1) := by decide +kernel
theorem dX5_isRunning_26 : decode cX5_isRunning 26 = .ok (.ireturn, 1) := by decide +kernel
theorem dX5_conflicts_0 : decode cX5_conflicts 0 = .ok (.aload_n 0, 1) := by decide +kernel
theorem dX5_conflicts_1 : decode cX5_conflicts 1 = .ok (.getfield 7, 3) := by decide +kernel
theorem dX5_conflicts_4 : decode cX5_conflicts 4 = .ok (.iload_n 1, 1) := by decide +kernel
theorem dX5_conflicts_5 : decode cX5_conflicts 5 = .ok (.iaload, 1) := by decide +kernel
theorem dX5_conflicts_6 : decode cX5_conflicts 6 = .ok (.iload_n 2, 1) := by decide +kernel
theorem dX5_conflicts_7 : decode cX5_conflicts 7 = .ok (.iconst 1, 1) := by decide +kernel
theorem dX5_conflicts_8 : decode cX5_conflicts 8 = .ok (.isub, 1) := by decide +kernel
theorem dX5_conflicts_9 : decode cX5_conflicts 9 = .ok (.ishr, 1) := by decide +kernel
theorem dX5_conflicts_10 : decode cX5_conflicts 10 = .ok (.iconst 1, 1) := by decide +kernel
theorem dX5_conflicts_11 : decode cX5_conflicts 11 = .ok (.iand, 1) := by decide +kernel
theorem dX5_conflicts_12 : decode cX5_conflicts 12 = .ok (.iconst 1, 1) := by decide +kernel
theorem dX5_conflicts_13 : decode cX5_conflicts 13 = .ok (.if_icmp .ne 7, 3) := by decide +kernel
theorem dX5_conflicts_16 : decode cX5_conflicts 16 = .ok (.iconst 1, 1) := by decide +kernel
theorem dX5_conflicts_17 : decode cX5_conflicts 17 = .ok (.goto 4, 3) := by decide +kernel
theorem dX5_conflicts_20 : decode cX5_conflicts 20 = .ok (.iconst 0, 1) := by decide +kernel
theorem dX5_conflicts_21 : decode cX5_conflicts 21 = .ok (.ireturn, 1) := by decide +kernel
set_option maxRecDepth 20000 in
theorem ggX5_number_X5_isSession : GoodIn wsX5_number wsX5_isSession := goodIn_r _ [7, 8, 9, 6, 10] (by decide +kernel) (by decide +kernel)
set_option maxRecDepth 20000 in
theorem gX5_number_X5_isSession : GoodIn wsX5_number (va_wsS RX5 61 yX5_isSession wsX5_isSession) := goodIn_app (goodIn_of _ (by decide +kernel)) ggX5_number_X5_isSession
theorem dX5_number_0 : decode cX5_number 0 = .ok (.iload_n 1, 1) := by decide +kernel
theorem dX5_number_1 : decode cX5_number 1 = .ok (.invokestatic 61, 3) := by decide +kernel
theorem dX5_number_4 : decode cX5_number 4 = .ok (.ifCond .eq 13, 3) := by decide +kernel
theorem dX5_number_7 : decode cX5_number 7 = .ok (.aload_n 0, 1) := by decide +kernel
theorem dX5_number_8 : decode cX5_number 8 = .ok (.getfield 57, 3) := by decide +kernel
theorem dX5_number_11 : decode cX5_number 11 = .ok (.sipush 4000, 3) := by decide +kernel
theorem dX5_number_14 : decode cX5_number 14 = .ok (.if_icmp .ne 5, 3) := by decide +kernel
theorem dX5_number_17 : decode cX5_number 17 = .ok (.iconst (-1), 1) := by decide +kernel
theorem dX5_number_18 : decode cX5_number 18 = .ok (.ireturn, 1) := by decide +kernel
theorem dX5_number_19 : decode cX5_number 19 = .ok (.aload_n 0, 1) := by decide +kernel
theorem dX5_number_20 : decode cX5_number 20 = .ok (.dup, 1) := by decide +kernel
theorem dX5_number_21 : decode cX5_number 21 = .ok (.getfield 57, 3) := by decide +kernel
theorem dX5_number_24 : decode cX5_number 24 = .ok (.iconst 1, 1) := by decide +kernel
theorem dX5_number_25 : decode cX5_number 25 = .ok (.iadd, 1) := by decide +kernel
theorem dX5_number_26 : decode cX5_number 26 = .ok (.putfield 57, 3) := by decide +kernel
theorem dX5_number_29 : decode cX5_number 29 = .ok (.aload_n 0, 1) := by decide +kernel
theorem dX5_number_30 : decode cX5_number 30 = .ok (.getfield 13, 3) := by decide +kernel
theorem dX5_number_33 : decode cX5_number 33 = .ok (.aload_n 0, 1) := by decide +kernel
theorem dX5_number_34 : decode cX5_number 34 = .ok (.getfield 57, 3) := by decide +kernel
theorem dX5_number_37 : decode cX5_number 37 = .ok (.iload_n 1, 1) := by decide +kernel
theorem dX5_number_38 : decode cX5_number 38 = .ok (.iastore, 1) := by decide +kernel
theorem dX5_number_39 : decode cX5_number 39 = .ok (.aload_n 0, 1) := by decide +kernel
theorem dX5_number_40 : decode cX5_number 40 = .ok (.getfield 16, 3) := by decide +kernel
theorem dX5_number_43 : decode cX5_number 43 = .ok (.aload_n 0, 1) := by decide +kernel
theorem dX5_number_44 : decode cX5_number 44 = .ok (.getfield 57, 3) := by decide +kernel
theorem dX5_number_47 : decode cX5_number 47 = .ok (.iconst 1, 1) := by decide +kernel
theorem dX5_number_48 : decode cX5_number 48 = .ok (.bastore, 1) := by decide +kernel
theorem dX5_number_49 : decode cX5_number 49 = .ok (.aload_n 0, 1) := by decide +kernel
theorem dX5_number_50 : decode cX5_number 50 = .ok (.getfield 57, 3) := by decide +kernel
theorem dX5_number_53 : decode cX5_number 53 = .ok (.ireturn, 1) := by decide +kernel
set_option maxRecDepth 20000 in
theorem ggX5_over_X5_isRunning : GoodIn wsX5_over wsX5_isRunning := goodIn_r _ [6, 7, 1, 8, 9, 5, 10, 11, 12, 13, 14, 15, 16, 17, 18, 19, 20, 21, 22, 23, 24, 25, 26, 27] (by decide +kernel) (by decide +kernel)
set_option maxRecDepth 20000 in
theorem gX5_over_X5_isRunning : GoodIn wsX5_over (wsV RX5 65 RX5 yX5_isRunning wsX5_isRunning) := goodIn_app (goodIn_of _ (by decide +kernel)) ggX5_over_X5_isRunning
theorem dX5_over_0 : decode cX5_over 0 = .ok (.aload_n 0, 1) := by decide +kernel
theorem dX5_over_1 : decode cX5_over 1 = .ok (.iload_n 1, 1) := by decide +kernel
theorem dX5_over_2 : decode cX5_over 2 = .ok (.invokevirtual 65, 3) := by decide +kernel
theorem dX5_over_5 : decode cX5_over 5 = .ok (.istore_n 2, 1) := by decide +kernel
theorem dX5_over_6 : decode cX5_over 6 = .ok (.iload_n 2, 1) := by decide +kernel
theorem dX5_over_7 : decode cX5_over 7 = .ok (.ifCond .eq 10, 3) := by decide +kernel
theorem dX5_over_10 : decode cX5_over 10 = .ok (.aload_n 0, 1) := by decide +kernel
theorem dX5_over_11 : decode cX5_over 11 = .ok (.getfield 16, 3) := by decide +kernel
theorem dX5_over_14 : decode cX5_over 14 = .ok (.iload_n 1, 1) := by decide +kernel
theorem dX5_over_15 : decode cX5_over 15 = .ok (.iconst 0, 1) := by decide +kernel
theorem dX5_over_16 : decode cX5_over 16 = .ok (.bastore, 1) := by decide +kernel
theorem dX5_over_17 : decode cX5_over 17 = .ok (.iload_n 2, 1) := by decide +kernel
theorem dX5_over_18 : decode cX5_over 18 = .ok (.ireturn, 1) := by decide +kernel
set_option maxRecDepth 20000 in
theorem ggX5_holdsAgainst_X5_conflicts : GoodIn wsX5_holdsAgainst wsX5_conflicts := goodIn_r _ [6, 7, 8, 9, 10, 11, 12, 13, 14, 15, 16, 17, 18, 19, 20, 21, 22, 23, 24] (by decide +kernel) (by decide +kernel)
set_option maxRecDepth 20000 in
theorem gX5_holdsAgainst_X5_conflicts : GoodIn wsX5_holdsAgainst (wsV RX5 68 RX5 yX5_conflicts wsX5_conflicts) := goodIn_app (goodIn_of _ (by decide +kernel)) ggX5_holdsAgainst_X5_conflicts
theorem dX5_holdsAgainst_0 : decode cX5_holdsAgainst 0 = .ok (.iconst 0, 1) := by decide +kernel
theorem dX5_holdsAgainst_1 : decode cX5_holdsAgainst 1 = .ok (.istore 4, 2) := by decide +kernel
theorem dX5_holdsAgainst_3 : decode cX5_holdsAgainst 3 = .ok (.iconst 1, 1) := by decide +kernel
theorem dX5_holdsAgainst_4 : decode cX5_holdsAgainst 4 = .ok (.istore 5, 2) := by decide +kernel
theorem dX5_holdsAgainst_6 : decode cX5_holdsAgainst 6 = .ok (.iload 5, 2) := by decide +kernel
theorem dX5_holdsAgainst_8 : decode cX5_holdsAgainst 8 = .ok (.bipush 9, 2) := by decide +kernel
theorem dX5_holdsAgainst_10 : decode cX5_holdsAgainst 10 = .ok (.if_icmp .ge 51, 3) := by decide +kernel
theorem dX5_holdsAgainst_13 : decode cX5_holdsAgainst 13 = .ok (.iload 4, 2) := by decide +kernel
theorem dX5_holdsAgainst_15 : decode cX5_holdsAgainst 15 = .ok (.ifCond .ne 33, 3) := by decide +kernel
theorem dX5_holdsAgainst_18 : decode cX5_holdsAgainst 18 = .ok (.aload_n 0, 1) := by decide +kernel
theorem dX5_holdsAgainst_19 : decode cX5_holdsAgainst 19 = .ok (.getfield 20, 3) := by decide +kernel
theorem dX5_holdsAgainst_22 : decode cX5_holdsAgainst 22 = .ok (.bipush 72, 2) := by decide +kernel
theorem dX5_holdsAgainst_24 : decode cX5_holdsAgainst 24 = .ok (.iload_n 1, 1) := by decide +kernel
theorem dX5_holdsAgainst_25 : decode cX5_holdsAgainst 25 = .ok (.imul, 1) := by decide +kernel
theorem dX5_holdsAgainst_26 : decode cX5_holdsAgainst 26 = .ok (.bipush 9, 2) := by decide +kernel
theorem dX5_holdsAgainst_28 : decode cX5_holdsAgainst 28 = .ok (.iload_n 2, 1) := by decide +kernel
theorem dX5_holdsAgainst_29 : decode cX5_holdsAgainst 29 = .ok (.imul, 1) := by decide +kernel
