theorem dX3_leastInConflict_62 : decode cX3_leastInConflict 62 = .ok (.aload_n 0, 1) := by decide +kernel
theorem dX3_leastInConflict_63 : decode cX3_leastInConflict 63 = .ok (.getfield 9, 3) := by decide +kernel
theorem dX3_leastInConflict_66 : decode cX3_leastInConflict 66 = .ok (.iload 4, 2) := by decide +kernel
theorem dX3_leastInConflict_68 : decode cX3_leastInConflict 68 = .ok (.iaload, 1) := by decide +kernel
theorem dX3_leastInConflict_69 : decode cX3_leastInConflict 69 = .ok (.ireturn, 1) := by decide +kernel
theorem dX3_leastInConflict_70 : decode cX3_leastInConflict 70 = .ok (.iinc 4 1, 3) := by decide +kernel
theorem dX3_leastInConflict_73 : decode cX3_leastInConflict 73 = .ok (.goto (-70), 3) := by decide +kernel
theorem dX3_leastInConflict_76 : decode cX3_leastInConflict 76 = .ok (.iconst (-1), 1) := by decide +kernel
theorem dX3_leastInConflict_77 : decode cX3_leastInConflict 77 = .ok (.ireturn, 1) := by decide +kernel
set_option maxRecDepth 20000 in
theorem ggX3_note_X3_copy : GoodIn wsX3_note wsX3_copy := goodIn_r _ [10, 2, 5, 3, 4, 11, 12, 13, 14, 15] (by decide +kernel) (by decide +kernel)
set_option maxRecDepth 20000 in
theorem gX3_note_X3_copy : GoodIn wsX3_note (wsV RX3 28 RX3 yX3_copy wsX3_copy) := goodIn_app (goodIn_of _ (by decide +kernel)) ggX3_note_X3_copy
theorem dX3_note_0 : decode cX3_note 0 = .ok (.iconst 0, 1) := by decide +kernel
theorem dX3_note_1 : decode cX3_note 1 = .ok (.istore 5, 2) := by decide +kernel
theorem dX3_note_3 : decode cX3_note 3 = .ok (.iload 5, 2) := by decide +kernel
theorem dX3_note_5 : decode cX3_note 5 = .ok (.aload_n 0, 1) := by decide +kernel
theorem dX3_note_6 : decode cX3_note 6 = .ok (.getfield 24, 3) := by decide +kernel
theorem dX3_note_9 : decode cX3_note 9 = .ok (.if_icmp .ge 53, 3) := by decide +kernel
theorem dX3_note_12 : decode cX3_note 12 = .ok (.aload_n 0, 1) := by decide +kernel
theorem dX3_note_13 : decode cX3_note 13 = .ok (.getfield 9, 3) := by decide +kernel
theorem dX3_note_16 : decode cX3_note 16 = .ok (.iload 5, 2) := by decide +kernel
theorem dX3_note_18 : decode cX3_note 18 = .ok (.iaload, 1) := by decide +kernel
theorem dX3_note_19 : decode cX3_note 19 = .ok (.iload_n 1, 1) := by decide +kernel
theorem dX3_note_20 : decode cX3_note 20 = .ok (.if_icmp .gt 42, 3) := by decide +kernel
theorem dX3_note_23 : decode cX3_note 23 = .ok (.aload_n 0, 1) := by decide +kernel
theorem dX3_note_24 : decode cX3_note 24 = .ok (.getfield 9, 3) := by decide +kernel
theorem dX3_note_27 : decode cX3_note 27 = .ok (.iload 5, 2) := by decide +kernel
theorem dX3_note_29 : decode cX3_note 29 = .ok (.iaload, 1) := by decide +kernel
theorem dX3_note_30 : decode cX3_note 30 = .ok (.iload_n 1, 1) := by decide +kernel
theorem dX3_note_31 : decode cX3_note 31 = .ok (.if_icmp .ne 25, 3) := by decide +kernel
theorem dX3_note_34 : decode cX3_note 34 = .ok (.aload_n 0, 1) := by decide +kernel
theorem dX3_note_35 : decode cX3_note 35 = .ok (.getfield 18, 3) := by decide +kernel
theorem dX3_note_38 : decode cX3_note 38 = .ok (.iload 5, 2) := by decide +kernel
theorem dX3_note_40 : decode cX3_note 40 = .ok (.iaload, 1) := by decide +kernel
theorem dX3_note_41 : decode cX3_note 41 = .ok (.iload_n 3, 1) := by decide +kernel
theorem dX3_note_42 : decode cX3_note 42 = .ok (.if_icmp .ne 14, 3) := by decide +kernel
theorem dX3_note_45 : decode cX3_note 45 = .ok (.aload_n 0, 1) := by decide +kernel
theorem dX3_note_46 : decode cX3_note 46 = .ok (.getfield 21, 3) := by decide +kernel
theorem dX3_note_49 : decode cX3_note 49 = .ok (.iload 5, 2) := by decide +kernel
theorem dX3_note_51 : decode cX3_note 51 = .ok (.iload 4, 2) := by decide +kernel
theorem dX3_note_53 : decode cX3_note 53 = .ok (.iastore, 1) := by decide +kernel
theorem dX3_note_54 : decode cX3_note 54 = .ok (.iconst 1, 1) := by decide +kernel
theorem dX3_note_55 : decode cX3_note 55 = .ok (.ireturn, 1) := by decide +kernel
theorem dX3_note_56 : decode cX3_note 56 = .ok (.iinc 5 1, 3) := by decide +kernel
theorem dX3_note_59 : decode cX3_note 59 = .ok (.goto (-56), 3) := by decide +kernel
theorem dX3_note_62 : decode cX3_note 62 = .ok (.aload_n 0, 1) := by decide +kernel
theorem dX3_note_63 : decode cX3_note 63 = .ok (.getfield 24, 3) := by decide +kernel
theorem dX3_note_66 : decode cX3_note 66 = .ok (.sipush 512, 3) := by decide +kernel
theorem dX3_note_69 : decode cX3_note 69 = .ok (.if_icmp .lt 5, 3) := by decide +kernel
theorem dX3_note_72 : decode cX3_note 72 = .ok (.iconst 0, 1) := by decide +kernel
theorem dX3_note_73 : decode cX3_note 73 = .ok (.ireturn, 1) := by decide +kernel
theorem dX3_note_74 : decode cX3_note 74 = .ok (.aload_n 0, 1) := by decide +kernel
theorem dX3_note_75 : decode cX3_note 75 = .ok (.getfield 24, 3) := by decide +kernel
theorem dX3_note_78 : decode cX3_note 78 = .ok (.istore 6, 2) := by decide +kernel
theorem dX3_note_80 : decode cX3_note 80 = .ok (.iload 6, 2) := by decide +kernel
theorem dX3_note_82 : decode cX3_note 82 = .ok (.iload 5, 2) := by decide +kernel
theorem dX3_note_84 : decode cX3_note 84 = .ok (.if_icmp .le 19, 3) := by decide +kernel
theorem dX3_note_87 : decode cX3_note 87 = .ok (.aload_n 0, 1) := by decide +kernel
theorem dX3_note_88 : decode cX3_note 88 = .ok (.iload 6, 2) := by decide +kernel
theorem dX3_note_90 : decode cX3_note 90 = .ok (.iconst 1, 1) := by decide +kernel
theorem dX3_note_91 : decode cX3_note 91 = .ok (.isub, 1) := by decide +kernel
theorem dX3_note_92 : decode cX3_note 92 = .ok (.iload 6, 2) := by decide +kernel
theorem dX3_note_94 : decode cX3_note 94 = .ok (.invokevirtual 28, 3) := by decide +kernel
theorem dX3_note_97 : decode cX3_note 97 = .ok (.iinc 6 (-1), 3) := by decide +kernel
theorem dX3_note_100 : decode cX3_note 100 = .ok (.goto (-20), 3) := by decide +kernel
theorem dX3_note_103 : decode cX3_note 103 = .ok (.aload_n 0, 1) := by decide +kernel
theorem dX3_note_104 : decode cX3_note 104 = .ok (.getfield 9, 3) := by decide +kernel
theorem dX3_note_107 : decode cX3_note 107 = .ok (.iload 5, 2) := by decide +kernel
theorem dX3_note_109 : decode cX3_note 109 = .ok (.iload_n 1, 1) := by decide +kernel
theorem dX3_note_110 : decode cX3_note 110 = .ok (.iastore, 1) := by decide +kernel
theorem dX3_note_111 : decode cX3_note 111 = .ok (.aload_n 0, 1) := by decide +kernel
theorem dX3_note_112 : decode cX3_note 112 = .ok (.getfield 15, 3) := by decide +kernel
theorem dX3_note_115 : decode cX3_note 115 = .ok (.iload 5, 2) := by decide +kernel
theorem dX3_note_117 : decode cX3_note 117 = .ok (.iload_n 2, 1) := by decide +kernel
theorem dX3_note_118 : decode cX3_note 118 = .ok (.iastore, 1) := by decide +kernel
theorem dX3_note_119 : decode cX3_note 119 = .ok (.aload_n 0, 1) := by decide +kernel
theorem dX3_note_120 : decode cX3_note 120 = .ok (.getfield 18, 3) := by decide +kernel
theorem dX3_note_123 : decode cX3_note 123 = .ok (.iload 5, 2) := by decide +kernel
theorem dX3_note_125 : decode cX3_note 125 = .ok (.iload_n 3, 1) := by decide +kernel
theorem dX3_note_126 : decode cX3_note 126 = .ok (.iastore, 1) := by decide +kernel
theorem dX3_note_127 : decode cX3_note 127 = .ok (.aload_n 0, 1) := by decide +kernel
theorem dX3_note_128 : decode cX3_note 128 = .ok (.getfield 21, 3) := by decide +kernel
theorem dX3_note_131 : decode cX3_note 131 = .ok (.iload 5, 2) := by decide +kernel
theorem dX3_note_133 : decode cX3_note 133 = .ok (.iload 4, 2) := by decide +kernel
theorem dX3_note_135 : decode cX3_note 135 = .ok (.iastore, 1) := by decide +kernel
theorem dX3_note_136 : decode cX3_note 136 = .ok (.aload_n 0, 1) := by decide +kernel
theorem dX3_note_137 : decode cX3_note 137 = .ok (.dup, 1) := by decide +kernel
theorem dX3_note_138 : decode cX3_note 138 = .ok (.getfield 24, 3) := by decide +kernel
theorem dX3_note_141 : decode cX3_note 141 = .ok (.iconst 1, 1) := by decide +kernel
theorem dX3_note_142 : decode cX3_note 142 = .ok (.iadd, 1) := by decide +kernel
theorem dX3_note_143 : decode cX3_note 143 = .ok (.putfield 24, 3) := by decide +kernel
theorem dX3_note_146 : decode cX3_note 146 = .ok (.iconst 1, 1) := by decide +kernel
theorem dX3_note_147 : decode cX3_note 147 = .ok (.ireturn, 1) := by decide +kernel
set_option maxRecDepth 20000 in
theorem ggX3_forgetNumber_X3_forgetWhere : GoodIn wsX3_forgetNumber wsX3_forgetWhere := goodIn_r _ [6, 7, 8, 9, 10, 5, 11, 1, 12, 13, 14, 15, 16, 17, 18, 19] (by decide +kernel) (by decide +kernel)
set_option maxRecDepth 20000 in
theorem gX3_forgetNumber_X3_forgetWhere : GoodIn wsX3_forgetNumber (wsV RX3 32 RX3 yX3_forgetWhere wsX3_forgetWhere) := goodIn_app (goodIn_of _ (by decide +kernel)) ggX3_forgetNumber_X3_forgetWhere
theorem dX3_forgetNumber_0 : decode cX3_forgetNumber 0 = .ok (.aload_n 0, 1) := by decide +kernel
theorem dX3_forgetNumber_1 : decode cX3_forgetNumber 1 = .ok (.aload_n 0, 1) := by decide +kernel
theorem dX3_forgetNumber_2 : decode cX3_forgetNumber 2 = .ok (.getfield 9, 3) := by decide +kernel
theorem dX3_forgetNumber_5 : decode cX3_forgetNumber 5 = .ok (.iload_n 1, 1) := by decide +kernel
theorem dX3_forgetNumber_6 : decode cX3_forgetNumber 6 = .ok (.invokevirtual 32, 3) := by decide +kernel
theorem dX3_forgetNumber_9 : decode cX3_forgetNumber 9 = .ok (.return_, 1) := by decide +kernel
set_option maxRecDepth 20000 in
theorem ggX3_forgetRow_X3_forgetWhere : GoodIn wsX3_forgetRow wsX3_forgetWhere := goodIn_r _ [6, 7, 8, 9, 10, 5, 11, 12, 13, 1, 14, 15, 16, 17, 18, 19] (by decide +kernel) (by decide +kernel)
set_option maxRecDepth 20000 in
theorem gX3_forgetRow_X3_forgetWhere : GoodIn wsX3_forgetRow (wsV RX3 32 RX3 yX3_forgetWhere wsX3_forgetWhere) := goodIn_app (goodIn_of _ (by decide +kernel)) ggX3_forgetRow_X3_forgetWhere
theorem dX3_forgetRow_0 : decode cX3_forgetRow 0 = .ok (.aload_n 0, 1) := by decide +kernel
theorem dX3_forgetRow_1 : decode cX3_forgetRow 1 = .ok (.aload_n 0, 1) := by decide +kernel
theorem dX3_forgetRow_2 : decode cX3_forgetRow 2 = .ok (.getfield 18, 3) := by decide +kernel
theorem dX3_forgetRow_5 : decode cX3_forgetRow 5 = .ok (.iload_n 1, 1) := by decide +kernel
theorem dX3_forgetRow_6 : decode cX3_forgetRow 6 = .ok (.invokevirtual 32, 3) := by decide +kernel
theorem dX3_forgetRow_9 : decode cX3_forgetRow 9 = .ok (.return_, 1) := by decide +kernel
theorem dX3_signedNumberAt_0 : decode cX3_signedNumberAt 0 = .ok (.iconst 0, 1) := by decide +kernel
theorem dX3_signedNumberAt_1 : decode cX3_signedNumberAt 1 = .ok (.istore_n 3, 1) := by decide +kernel
theorem dX3_signedNumberAt_2 : decode cX3_signedNumberAt 2 = .ok (.iconst 0, 1) := by decide +kernel
theorem dX3_signedNumberAt_3 : decode cX3_signedNumberAt 3 = .ok (.istore 4, 2) := by decide +kernel
theorem dX3_signedNumberAt_5 : decode cX3_signedNumberAt 5 = .ok (.iload 4, 2) := by decide +kernel
theorem dX3_signedNumberAt_7 : decode cX3_signedNumberAt 7 = .ok (.aload_n 0, 1) := by decide +kernel
theorem dX3_signedNumberAt_8 : decode cX3_signedNumberAt 8 = .ok (.getfield 24, 3) := by decide +kernel
theorem dX3_signedNumberAt_11 : decode cX3_signedNumberAt 11 = .ok (.if_icmp .ge 61, 3) := by decide +kernel
theorem dX3_signedNumberAt_14 : decode cX3_signedNumberAt 14 = .ok (.aload_n 0, 1) := by decide +kernel
theorem dX3_signedNumberAt_15 : decode cX3_signedNumberAt 15 = .ok (.getfield 18, 3) := by decide +kernel
theorem dX3_signedNumberAt_18 : decode cX3_signedNumberAt 18 = .ok (.iload 4, 2) := by decide +kernel
theorem dX3_signedNumberAt_20 : decode cX3_signedNumberAt 20 = .ok (.iaload, 1) := by decide +kernel
theorem dX3_signedNumberAt_21 : decode cX3_signedNumberAt 21 = .ok (.iload_n 1, 1) := by decide +kernel
theorem dX3_signedNumberAt_22 : decode cX3_signedNumberAt 22 = .ok (.if_icmp .eq 6, 3) := by decide +kernel
theorem dX3_signedNumberAt_25 : decode cX3_signedNumberAt 25 = .ok (.goto 41, 3) := by decide +kernel
theorem dX3_signedNumberAt_28 : decode cX3_signedNumberAt 28 = .ok (.iload_n 3, 1) := by decide +kernel
theorem dX3_signedNumberAt_29 : decode cX3_signedNumberAt 29 = .ok (.iload_n 2, 1) := by decide +kernel
theorem dX3_signedNumberAt_30 : decode cX3_signedNumberAt 30 = .ok (.if_icmp .ne 33, 3) := by decide +kernel
theorem dX3_signedNumberAt_33 : decode cX3_signedNumberAt 33 = .ok (.aload_n 0, 1) := by decide +kernel
theorem dX3_signedNumberAt_34 : decode cX3_signedNumberAt 34 = .ok (.getfield 21, 3) := by decide +kernel
theorem dX3_signedNumberAt_37 : decode cX3_signedNumberAt 37 = .ok (.iload 4, 2) := by decide +kernel
theorem dX3_signedNumberAt_39 : decode cX3_signedNumberAt 39 = .ok (.iaload, 1) := by decide +kernel
theorem dX3_signedNumberAt_40 : decode cX3_signedNumberAt 40 = .ok (.iconst 2, 1) := by decide +kernel
theorem dX3_signedNumberAt_41 : decode cX3_signedNumberAt 41 = .ok (.if_icmp .ne 13, 3) := by decide +kernel
theorem dX3_signedNumberAt_44 : decode cX3_signedNumberAt 44 = .ok (.aload_n 0, 1) := by decide +kernel
theorem dX3_signedNumberAt_45 : decode cX3_signedNumberAt 45 = .ok (.getfield 9, 3) := by decide +kernel
theorem dX3_signedNumberAt_48 : decode cX3_signedNumberAt 48 = .ok (.iload 4, 2) := by decide +kernel
theorem dX3_signedNumberAt_50 : decode cX3_signedNumberAt 50 = .ok (.iaload, 1) := by decide +kernel
theorem dX3_signedNumberAt_51 : decode cX3_signedNumberAt 51 = .ok (.goto 11, 3) := by decide +kernel
theorem dX3_signedNumberAt_54 : decode cX3_signedNumberAt 54 = .ok (.aload_n 0, 1) := by decide +kernel
theorem dX3_signedNumberAt_55 : decode cX3_signedNumberAt 55 = .ok (.getfield 9, 3) := by decide +kernel
theorem dX3_signedNumberAt_58 : decode cX3_signedNumberAt 58 = .ok (.iload 4, 2) := by decide +kernel
theorem dX3_signedNumberAt_60 : decode cX3_signedNumberAt 60 = .ok (.iaload, 1) := by decide +kernel
theorem dX3_signedNumberAt_61 : decode cX3_signedNumberAt 61 = .ok (.ineg, 1) := by decide +kernel
theorem dX3_signedNumberAt_62 : decode cX3_signedNumberAt 62 = .ok (.ireturn, 1) := by decide +kernel
theorem dX3_signedNumberAt_63 : decode cX3_signedNumberAt 63 = .ok (.iinc 3 1, 3) := by decide +kernel
theorem dX3_signedNumberAt_66 : decode cX3_signedNumberAt 66 = .ok (.iinc 4 1, 3) := by decide +kernel
theorem dX3_signedNumberAt_69 : decode cX3_signedNumberAt 69 = .ok (.goto (-64), 3) := by decide +kernel
theorem dX3_signedNumberAt_72 : decode cX3_signedNumberAt 72 = .ok (.iconst 0, 1) := by decide +kernel
theorem dX3_signedNumberAt_73 : decode cX3_signedNumberAt 73 = .ok (.ireturn, 1) := by decide +kernel
set_option maxRecDepth 20000 in
theorem ggX3_forgetWhere_X3_copy : GoodIn wsX3_forgetWhere wsX3_copy := goodIn_r _ [6, 7, 8, 9, 10, 11, 12, 13, 14, 15] (by decide +kernel) (by decide +kernel)
set_option maxRecDepth 20000 in
theorem gX3_forgetWhere_X3_copy : GoodIn wsX3_forgetWhere (wsV RX3 28 RX3 yX3_copy wsX3_copy) := goodIn_app (goodIn_of _ (by decide +kernel)) ggX3_forgetWhere_X3_copy
theorem dX3_forgetWhere_0 : decode cX3_forgetWhere 0 = .ok (.iconst 0, 1) := by decide +kernel
theorem dX3_forgetWhere_1 : decode cX3_forgetWhere 1 = .ok (.istore_n 3, 1) := by decide +kernel
theorem dX3_forgetWhere_2 : decode cX3_forgetWhere 2 = .ok (.iconst 0, 1) := by decide +kernel
theorem dX3_forgetWhere_3 : decode cX3_forgetWhere 3 = .ok (.istore 4, 2) := by decide +kernel
theorem dX3_forgetWhere_5 : decode cX3_forgetWhere 5 = .ok (.iload 4, 2) := by decide +kernel
theorem dX3_forgetWhere_7 : decode cX3_forgetWhere 7 = .ok (.aload_n 0, 1) := by decide +kernel
theorem dX3_forgetWhere_8 : decode cX3_forgetWhere 8 = .ok (.getfield 24, 3) := by decide +kernel
theorem dX3_forgetWhere_11 : decode cX3_forgetWhere 11 = .ok (.if_icmp .ge 27, 3) := by decide +kernel
theorem dX3_forgetWhere_14 : decode cX3_forgetWhere 14 = .ok (.aload_n 1, 1) := by decide +kernel
theorem dX3_forgetWhere_15 : decode cX3_forgetWhere 15 = .ok (.iload 4, 2) := by decide +kernel
theorem dX3_forgetWhere_17 : decode cX3_forgetWhere 17 = .ok (.iaload, 1) := by decide +kernel
theorem dX3_forgetWhere_18 : decode cX3_forgetWhere 18 = .ok (.iload_n 2, 1) := by decide +kernel
theorem dX3_forgetWhere_19 : decode cX3_forgetWhere 19 = .ok (.if_icmp .eq 13, 3) := by decide +kernel
theorem dX3_forgetWhere_22 : decode cX3_forgetWhere 22 = .ok (.aload_n 0, 1) := by decide +kernel
theorem dX3_forgetWhere_23 : decode cX3_forgetWhere 23 = .ok (.iload 4, 2) := by decide +kernel
theorem dX3_forgetWhere_25 : decode cX3_forgetWhere 25 = .ok (.iload_n 3, 1) := by decide +kernel
theorem dX3_forgetWhere_26 : decode cX3_forgetWhere 26 = .ok (.invokevirtual 28, 3) := by decide +kernel
theorem dX3_forgetWhere_29 : decode cX3_forgetWhere 29 = .ok (.iinc 3 1, 3) := by decide +kernel
theorem dX3_forgetWhere_32 : decode cX3_forgetWhere 32 = .ok (.iinc 4 1, 3) := by decide +kernel
theorem dX3_forgetWhere_35 : decode cX3_forgetWhere 35 = .ok (.goto (-30), 3) := by decide +kernel
theorem dX3_forgetWhere_38 : decode cX3_forgetWhere 38 = .ok (.aload_n 0, 1) := by decide +kernel
theorem dX3_forgetWhere_39 : decode cX3_forgetWhere 39 = .ok (.iload_n 3, 1) := by decide +kernel
theorem dX3_forgetWhere_40 : decode cX3_forgetWhere 40 = .ok (.putfield 24, 3) := by decide +kernel
theorem dX3_forgetWhere_43 : decode cX3_forgetWhere 43 = .ok (.return_, 1) := by decide +kernel
theorem dX3_copy_0 : decode cX3_copy 0 = .ok (.aload_n 0, 1) := by decide +kernel
theorem dX3_copy_1 : decode cX3_copy 1 = .ok (.getfield 9, 3) := by decide +kernel
theorem dX3_copy_4 : decode cX3_copy 4 = .ok (.iload_n 2, 1) := by decide +kernel
theorem dX3_copy_5 : decode cX3_copy 5 = .ok (.aload_n 0, 1) := by decide +kernel
theorem dX3_copy_6 : decode cX3_copy 6 = .ok (.getfield 9, 3) := by decide +kernel
theorem dX3_copy_9 : decode cX3_copy 9 = .ok (.iload_n 1, 1) := by decide +kernel
theorem dX3_copy_10 : decode cX3_copy 10 = .ok (.iaload, 1) := by decide +kernel
theorem dX3_copy_11 : decode cX3_copy 11 = .ok (.iastore, 1) := by decide +kernel
theorem dX3_copy_12 : decode cX3_copy 12 = .ok (.aload_n 0, 1) := by decide +kernel
theorem dX3_copy_13 : decode cX3_copy 13 = .ok (.getfield 15, 3) := by decide +kernel
theorem dX3_copy_16 : decode cX3_copy 16 = .ok (.iload_n 2, 1) := by decide +kernel
theorem dX3_copy_17 : decode cX3_copy 17 = .ok (.aload_n 0, 1) := by decide +kernel
theorem dX3_copy_18 : decode cX3_copy 18 = .ok (.getfield 15, 3) := by decide +kernel
theorem dX3_copy_21 : decode cX3_copy 21 = .ok (.iload_n 1, 1) := by decide +kernel
theorem dX3_copy_22 : decode cX3_copy 22 = .ok (.iaload, 1) := by decide +kernel
theorem dX3_copy_23 : decode cX3_copy 23 = .ok (.iastore, 1) := by decide +kernel
theorem dX3_copy_24 : decode cX3_copy 24 = .ok (.aload_n 0, 1) := by decide +kernel
theorem dX3_copy_25 : decode cX3_copy 25 = .ok (.getfield 18, 3) := by decide +kernel
theorem dX3_copy_28 : decode cX3_copy 28 = .ok (.iload_n 2, 1) := by decide +kernel
theorem dX3_copy_29 : decode cX3_copy 29 = .ok (.aload_n 0, 1) := by decide +kernel
theorem dX3_copy_30 : decode cX3_copy 30 = .ok (.getfield 18, 3) := by decide +kernel
theorem dX3_copy_33 : decode cX3_copy 33 = .ok (.iload_n 1, 1) := by decide +kernel
theorem dX3_copy_34 : decode cX3_copy 34 = .ok (.iaload, 1) := by decide +kernel
theorem dX3_copy_35 : decode cX3_copy 35 = .ok (.iastore, 1) := by decide +kernel
theorem dX3_copy_36 : decode cX3_copy 36 = .ok (.aload_n 0, 1) := by decide +kernel
theorem dX3_copy_37 : decode cX3_copy 37 = .ok (.getfield 21, 3) := by decide +kernel
theorem dX3_copy_40 : decode cX3_copy 40 = .ok (.iload_n 2, 1) := by decide +kernel
theorem dX3_copy_41 : decode cX3_copy 41 = .ok (.aload_n 0, 1) := by decide +kernel
theorem dX3_copy_42 : decode cX3_copy 42 = .ok (.getfield 21, 3) := by decide +kernel
theorem dX3_copy_45 : decode cX3_copy 45 = .ok (.iload_n 1, 1) := by decide +kernel
theorem dX3_copy_46 : decode cX3_copy 46 = .ok (.iaload, 1) := by decide +kernel
theorem dX3_copy_47 : decode cX3_copy 47 = .ok (.iastore, 1) := by decide +kernel
theorem dX3_copy_48 : decode cX3_copy 48 = .ok (.return_, 1) := by decide +kernel
set_option maxRecDepth 20000 in
theorem ggX4_init_X1_init : GoodIn wsX4_init wsX1_init := goodIn_r _ [21, 22, 2, 3, 23, 24, 25, 55, 56] (by decide +kernel) (by decide +kernel)
set_option maxRecDepth 20000 in
theorem gX4_init_X1_init_n9 : GoodIn wsX4_init (wsX1_init) := ggX4_init_X1_init
set_option maxRecDepth 20000 in
theorem ggX4_init_X0_init : GoodIn wsX4_init wsX0_init := goodIn_r _ [28, 29, 2, 3, 23, 30, 31, 32, 33, 34, 61] (by decide +kernel) (by decide +kernel)
set_option maxRecDepth 20000 in
theorem gX4_init_X0_init : GoodIn wsX4_init (wsX0_init) := ggX4_init_X0_init
set_option maxRecDepth 20000 in
theorem ggX4_init_X3_init : GoodIn wsX4_init wsX3_init := goodIn_r _ [36, 37, 2, 3, 38, 39, 40, 41, 42, 43, 62, 63, 64, 65, 66] (by decide +kernel) (by decide +kernel)
set_option maxRecDepth 20000 in
theorem gX4_init_X3_init_n25 : GoodIn wsX4_init (wsX3_init) := ggX4_init_X3_init
set_option maxRecDepth 20000 in
theorem ggX4_init_X2_init : GoodIn wsX4_init wsX2_init := goodIn_r _ [45, 46, 2, 3, 38, 47, 48, 49, 50, 51, 52, 53, 54, 67, 68, 69, 70, 71, 72, 73] (by decide +kernel) (by decide +kernel)
set_option maxRecDepth 20000 in
theorem gX4_init_X2_init_n32 : GoodIn wsX4_init (wsX2_init) := ggX4_init_X2_init
theorem dX4_init_0 : decode cX4_init 0 = .ok (.aload_n 0, 1) := by decide +kernel
theorem dX4_init_1 : decode cX4_init 1 = .ok (.invokespecial 1, 3) := by decide +kernel
theorem dX4_init_4 : decode cX4_init 4 = .ok (.aload_n 0, 1) := by decide +kernel
theorem dX4_init_5 : decode cX4_init 5 = .ok (.new 7, 3) := by decide +kernel
theorem dX4_init_8 : decode cX4_init 8 = .ok (.dup, 1) := by decide +kernel
theorem dX4_init_9 : decode cX4_init 9 = .ok (.invokespecial 9, 3) := by decide +kernel
theorem dX4_init_12 : decode cX4_init 12 = .ok (.putfield 10, 3) := by decide +kernel
theorem dX4_init_15 : decode cX4_init 15 = .ok (.aload_n 0, 1) := by decide +kernel
theorem dX4_init_16 : decode cX4_init 16 = .ok (.new 16, 3) := by decide +kernel
theorem dX4_init_19 : decode cX4_init 19 = .ok (.dup, 1) := by decide +kernel
theorem dX4_init_20 : decode cX4_init 20 = .ok (.invokespecial 18, 3) := by decide +kernel
theorem dX4_init_23 : decode cX4_init 23 = .ok (.putfield 19, 3) := by decide +kernel
theorem dX4_init_26 : decode cX4_init 26 = .ok (.aload_n 0, 1) := by decide +kernel
theorem dX4_init_27 : decode cX4_init 27 = .ok (.new 23, 3) := by decide +kernel
theorem dX4_init_30 : decode cX4_init 30 = .ok (.dup, 1) := by decide +kernel
theorem dX4_init_31 : decode cX4_init 31 = .ok (.invokespecial 25, 3) := by decide +kernel
theorem dX4_init_34 : decode cX4_init 34 = .ok (.putfield 26, 3) := by decide +kernel
theorem dX4_init_37 : decode cX4_init 37 = .ok (.aload_n 0, 1) := by decide +kernel
theorem dX4_init_38 : decode cX4_init 38 = .ok (.new 30, 3) := by decide +kernel
theorem dX4_init_41 : decode cX4_init 41 = .ok (.dup, 1) := by decide +kernel
theorem dX4_init_42 : decode cX4_init 42 = .ok (.invokespecial 32, 3) := by decide +kernel
theorem dX4_init_45 : decode cX4_init 45 = .ok (.putfield 33, 3) := by decide +kernel
theorem dX4_init_48 : decode cX4_init 48 = .ok (.return_, 1) := by decide +kernel
set_option maxRecDepth 20000 in
theorem ggX4_number_X4_isSession : GoodIn wsX4_number wsX4_isSession := goodIn_r _ [5] (by decide +kernel) (by decide +kernel)
set_option maxRecDepth 20000 in
theorem gX4_number_X4_isSession : GoodIn wsX4_number (va_wsS RX4 37 yX4_isSession wsX4_isSession) := goodIn_app (goodIn_of _ (by decide +kernel)) ggX4_number_X4_isSession
set_option maxRecDepth 20000 in
theorem ggX4_number_X1_give : GoodIn wsX4_number wsX1_give := goodIn_r _ [10, 11, 12, 17, 18] (by decide +kernel) (by decide +kernel)
set_option maxRecDepth 20000 in
theorem gX4_number_X1_give : GoodIn wsX4_number (wsV RX4 41 RX1 yX1_give wsX1_give) := goodIn_app (goodIn_of _ (by decide +kernel)) ggX4_number_X1_give
theorem dX4_number_0 : decode cX4_number 0 = .ok (.iload_n 1, 1) := by decide +kernel
theorem dX4_number_1 : decode cX4_number 1 = .ok (.invokestatic 37, 3) := by decide +kernel
theorem dX4_number_4 : decode cX4_number 4 = .ok (.ifCond .eq 14, 3) := by decide +kernel
theorem dX4_number_7 : decode cX4_number 7 = .ok (.aload_n 0, 1) := by decide +kernel
theorem dX4_number_8 : decode cX4_number 8 = .ok (.getfield 10, 3) := by decide +kernel
theorem dX4_number_11 : decode cX4_number 11 = .ok (.iload_n 1, 1) := by decide +kernel
theorem dX4_number_12 : decode cX4_number 12 = .ok (.invokevirtual 41, 3) := by decide +kernel
theorem dX4_number_15 : decode cX4_number 15 = .ok (.goto 4, 3) := by decide +kernel
theorem dX4_number_18 : decode cX4_number 18 = .ok (.iconst (-1), 1) := by decide +kernel
theorem dX4_number_19 : decode cX4_number 19 = .ok (.ireturn, 1) := by decide +kernel
set_option maxRecDepth 20000 in
theorem ggX4_over_X1_runnerOf : GoodIn wsX4_over wsX1_runnerOf := goodIn_r _ [7, 8, 9, 10, 11, 6, 12, 13, 40, 41] (by decide +kernel) (by decide +kernel)
set_option maxRecDepth 20000 in
theorem gX4_over_X1_runnerOf : GoodIn wsX4_over (wsV RX4 45 RX1 yX1_runnerOf wsX1_runnerOf) := goodIn_app (goodIn_of _ (by decide +kernel)) ggX4_over_X1_runnerOf
set_option maxRecDepth 20000 in
theorem ggX4_over_X1_stop : GoodIn wsX4_over wsX1_stop := goodIn_r _ [17, 8, 9, 10, 11, 6, 12, 13, 40, 41] (by decide +kernel) (by decide +kernel)
set_option maxRecDepth 20000 in
theorem gX4_over_X1_stop : GoodIn wsX4_over (wsV RX4 48 RX1 yX1_stop wsX1_stop) := goodIn_app (goodIn_of _ (by decide +kernel)) ggX4_over_X1_stop
set_option maxRecDepth 20000 in
theorem ggX4_over_X3_forgetNumber : GoodIn wsX4_over wsX3_forgetNumber := goodIn_r _ [22, 23, 24, 25, 26, 21, 27, 28, 29, 30, 31, 32, 33, 34, 35, 42, 43, 44, 45, 46] (by decide +kernel) (by decide +kernel)
set_option maxRecDepth 20000 in
theorem gX4_over_X3_forgetNumber : GoodIn wsX4_over (wsV RX4 52 RX3 yX3_forgetNumber wsX3_forgetNumber) := goodIn_app (goodIn_of _ (by decide +kernel)) ggX4_over_X3_forgetNumber
theorem dX4_over_0 : decode cX4_over 0 = .ok (.aload_n 0, 1) := by decide +kernel
theorem dX4_over_1 : decode cX4_over 1 = .ok (.getfield 10, 3) := by decide +kernel
theorem dX4_over_4 : decode cX4_over 4 = .ok (.iload_n 1, 1) := by decide +kernel
theorem dX4_over_5 : decode cX4_over 5 = .ok (.invokevirtual 45, 3) := by decide +kernel
theorem dX4_over_8 : decode cX4_over 8 = .ok (.iconst (-1), 1) := by decide +kernel
theorem dX4_over_9 : decode cX4_over 9 = .ok (.if_icmp .ne 5, 3) := by decide +kernel
theorem dX4_over_12 : decode cX4_over 12 = .ok (.iconst 0, 1) := by decide +kernel
theorem dX4_over_13 : decode cX4_over 13 = .ok (.ireturn, 1) := by decide +kernel
theorem dX4_over_14 : decode cX4_over 14 = .ok (.aload_n 0, 1) := by decide +kernel
theorem dX4_over_15 : decode cX4_over 15 = .ok (.getfield 10, 3) := by decide +kernel
theorem dX4_over_18 : decode cX4_over 18 = .ok (.iload_n 1, 1) := by decide +kernel
theorem dX4_over_19 : decode cX4_over 19 = .ok (.invokevirtual 48, 3) := by decide +kernel
theorem dX4_over_22 : decode cX4_over 22 = .ok (.aload_n 0, 1) := by decide +kernel
theorem dX4_over_23 : decode cX4_over 23 = .ok (.getfield 26, 3) := by decide +kernel
theorem dX4_over_26 : decode cX4_over 26 = .ok (.iload_n 1, 1) := by decide +kernel
theorem dX4_over_27 : decode cX4_over 27 = .ok (.invokevirtual 52, 3) := by decide +kernel
theorem dX4_over_30 : decode cX4_over 30 = .ok (.iconst 1, 1) := by decide +kernel
theorem dX4_over_31 : decode cX4_over 31 = .ok (.ireturn, 1) := by decide +kernel
set_option maxRecDepth 20000 in
theorem ggX4_ask_X4_isSession : GoodIn wsX4_ask wsX4_isSession := goodIn_r _ [6] (by decide +kernel) (by decide +kernel)
set_option maxRecDepth 20000 in
theorem gX4_ask_X4_isSession : GoodIn wsX4_ask (va_wsS RX4 37 yX4_isSession wsX4_isSession) := goodIn_app (goodIn_of _ (by decide +kernel)) ggX4_ask_X4_isSession
set_option maxRecDepth 20000 in
theorem ggX4_ask_X4_isLevel : GoodIn wsX4_ask wsX4_isLevel := goodIn_r _ [9] (by decide +kernel) (by decide +kernel)
set_option maxRecDepth 20000 in
theorem gX4_ask_X4_isLevel : GoodIn wsX4_ask (va_wsS RX4 55 yX4_isLevel wsX4_isLevel) := goodIn_app (goodIn_of _ (by decide +kernel)) ggX4_ask_X4_isLevel
set_option maxRecDepth 20000 in
theorem ggX4_ask_X4_isTable : GoodIn wsX4_ask wsX4_isTable := goodIn_r _ [12] (by decide +kernel) (by decide +kernel)
set_option maxRecDepth 20000 in
theorem gX4_ask_X4_isTable : GoodIn wsX4_ask (va_wsS RX4 58 yX4_isTable wsX4_isTable) := goodIn_app (goodIn_of _ (by decide +kernel)) ggX4_ask_X4_isTable
set_option maxRecDepth 20000 in
theorem ggX4_ask_X4_isMode : GoodIn wsX4_ask wsX4_isMode := goodIn_r _ [15] (by decide +kernel) (by decide +kernel)
set_option maxRecDepth 20000 in
theorem gX4_ask_X4_isMode : GoodIn wsX4_ask (va_wsS RX4 61 yX4_isMode wsX4_isMode) := goodIn_app (goodIn_of _ (by decide +kernel)) ggX4_ask_X4_isMode
set_option maxRecDepth 20000 in
theorem ggX4_ask_X2_contains : GoodIn wsX4_ask wsX2_contains := goodIn_r _ [20, 21, 22, 23, 19, 24, 25, 26, 124, 125, 126, 127, 128, 129, 130] (by decide +kernel) (by decide +kernel)
set_option maxRecDepth 20000 in
theorem gX4_ask_X2_contains : GoodIn wsX4_ask (wsV RX4 64 RX2 yX2_contains wsX2_contains) := goodIn_app (goodIn_of _ (by decide +kernel)) ggX4_ask_X2_contains
set_option maxRecDepth 20000 in
theorem ggX4_ask_X0_levelOf : GoodIn wsX4_ask wsX0_levelOf := goodIn_r _ [31, 32, 33, 34, 30, 35, 131] (by decide +kernel) (by decide +kernel)
set_option maxRecDepth 20000 in
theorem gX4_ask_X0_levelOf : GoodIn wsX4_ask (wsV RX4 67 RX0 yX0_levelOf wsX0_levelOf) := goodIn_app (goodIn_of _ (by decide +kernel)) ggX4_ask_X0_levelOf
set_option maxRecDepth 20000 in
theorem ggX4_ask_X2_size : GoodIn wsX4_ask wsX2_size := goodIn_r _ [39, 25, 124, 125, 126, 127, 128, 129, 130] (by decide +kernel) (by decide +kernel)
set_option maxRecDepth 20000 in
theorem gX4_ask_X2_size : GoodIn wsX4_ask (wsV RX4 71 RX2 yX2_size wsX2_size) := goodIn_app (goodIn_of _ (by decide +kernel)) ggX4_ask_X2_size
set_option maxRecDepth 20000 in
theorem ggX4_ask_X4_inTheWay : GoodIn wsX4_ask wsX4_inTheWay := goodIn_r _ [43, 2, 1, 44, 45, 46, 30, 47, 32, 48, 5, 49, 50, 51, 52, 53, 33, 34, 35, 54, 55, 56, 19, 57, 25, 26, 58, 59, 60, 61, 62, 63, 64, 65, 120, 121, 122, 123, 131, 124, 125, 126, 127, 128, 129, 130] (by decide +kernel) (by decide +kernel)
set_option maxRecDepth 20000 in
theorem gX4_ask_X4_inTheWay : GoodIn wsX4_ask (wsV RX4 75 RX4 yX4_inTheWay wsX4_inTheWay) := goodIn_app (goodIn_of _ (by decide +kernel)) ggX4_ask_X4_inTheWay
set_option maxRecDepth 20000 in
theorem ggX4_ask_X0_take : GoodIn wsX4_ask wsX0_take := goodIn_r _ [69, 32, 33, 34, 30, 35, 131] (by decide +kernel) (by decide +kernel)
set_option maxRecDepth 20000 in
theorem gX4_ask_X0_take : GoodIn wsX4_ask (wsV RX4 79 RX0 yX0_take wsX0_take) := goodIn_app (goodIn_of _ (by decide +kernel)) ggX4_ask_X0_take
set_option maxRecDepth 20000 in
theorem ggX4_ask_X4_closesRing : GoodIn wsX4_ask wsX4_closesRing := goodIn_r _ [73, 51, 52, 5, 53, 74, 75, 76, 77, 1, 78, 79, 22, 23, 19, 24, 25, 26, 80, 81, 82, 83, 63, 84, 85, 86, 87, 88, 89, 90, 91, 92, 93, 94, 95, 96, 97, 98, 99, 100, 101, 102, 65, 103, 104, 105, 106, 64, 107, 108, 109, 110, 58, 40, 41, 42, 43, 2, 44, 45, 46, 30, 47, 32, 48, 49, 50, 33, 34, 35, 54, 55, 56, 57, 59, 60, 61, 62, 120, 121, 122, 123, 124, 125, 126, 127, 128, 129, 130, 132, 133, 131] (by decide +kernel) (by decide +kernel)
set_option maxRecDepth 20000 in
theorem gX4_ask_X4_closesRing : GoodIn wsX4_ask (wsV RX4 83 RX4 yX4_closesRing wsX4_closesRing) := goodIn_app (goodIn_of _ (by decide +kernel)) ggX4_ask_X4_closesRing
set_option maxRecDepth 20000 in
theorem ggX4_ask_X2_addForTable : GoodIn wsX4_ask wsX2_addForTable := goodIn_r _ [114, 63, 64, 58, 115, 65, 116, 117, 118, 19, 119, 25, 26, 124, 125, 126, 127, 128, 129, 130] (by decide +kernel) (by decide +kernel)
set_option maxRecDepth 20000 in
theorem gX4_ask_X2_addForTable : GoodIn wsX4_ask (wsV RX4 87 RX2 yX2_addForTable wsX2_addForTable) := goodIn_app (goodIn_of _ (by decide +kernel)) ggX4_ask_X2_addForTable
theorem dX4_ask_0 : decode cX4_ask 0 = .ok (.iload_n 1, 1) := by decide +kernel
theorem dX4_ask_1 : decode cX4_ask 1 = .ok (.invokestatic 37, 3) := by decide +kernel
