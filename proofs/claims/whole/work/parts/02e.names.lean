theorem dX4_ask_4 : decode cX4_ask 4 = .ok (.ifCond .eq 25, 3) := by decide +kernel
theorem dX4_ask_7 : decode cX4_ask 7 = .ok (.iload_n 2, 1) := by decide +kernel
theorem dX4_ask_8 : decode cX4_ask 8 = .ok (.invokestatic 55, 3) := by decide +kernel
theorem dX4_ask_11 : decode cX4_ask 11 = .ok (.ifCond .eq 18, 3) := by decide +kernel
theorem dX4_ask_14 : decode cX4_ask 14 = .ok (.iload_n 3, 1) := by decide +kernel
theorem dX4_ask_15 : decode cX4_ask 15 = .ok (.invokestatic 58, 3) := by decide +kernel
theorem dX4_ask_18 : decode cX4_ask 18 = .ok (.ifCond .eq 11, 3) := by decide +kernel
theorem dX4_ask_21 : decode cX4_ask 21 = .ok (.iload 4, 2) := by decide +kernel
theorem dX4_ask_23 : decode cX4_ask 23 = .ok (.invokestatic 61, 3) := by decide +kernel
theorem dX4_ask_26 : decode cX4_ask 26 = .ok (.ifCond .ne 5, 3) := by decide +kernel
theorem dX4_ask_29 : decode cX4_ask 29 = .ok (.iconst (-1), 1) := by decide +kernel
theorem dX4_ask_30 : decode cX4_ask 30 = .ok (.ireturn, 1) := by decide +kernel
theorem dX4_ask_31 : decode cX4_ask 31 = .ok (.aload_n 0, 1) := by decide +kernel
theorem dX4_ask_32 : decode cX4_ask 32 = .ok (.getfield 33, 3) := by decide +kernel
theorem dX4_ask_35 : decode cX4_ask 35 = .ok (.iload_n 1, 1) := by decide +kernel
theorem dX4_ask_36 : decode cX4_ask 36 = .ok (.invokevirtual 64, 3) := by decide +kernel
theorem dX4_ask_39 : decode cX4_ask 39 = .ok (.ifCond .eq 5, 3) := by decide +kernel
theorem dX4_ask_42 : decode cX4_ask 42 = .ok (.iconst (-1), 1) := by decide +kernel
theorem dX4_ask_43 : decode cX4_ask 43 = .ok (.ireturn, 1) := by decide +kernel
theorem dX4_ask_44 : decode cX4_ask 44 = .ok (.aload_n 0, 1) := by decide +kernel
theorem dX4_ask_45 : decode cX4_ask 45 = .ok (.getfield 19, 3) := by decide +kernel
theorem dX4_ask_48 : decode cX4_ask 48 = .ok (.iload_n 1, 1) := by decide +kernel
theorem dX4_ask_49 : decode cX4_ask 49 = .ok (.iload_n 3, 1) := by decide +kernel
theorem dX4_ask_50 : decode cX4_ask 50 = .ok (.iload 4, 2) := by decide +kernel
theorem dX4_ask_52 : decode cX4_ask 52 = .ok (.invokevirtual 67, 3) := by decide +kernel
theorem dX4_ask_55 : decode cX4_ask 55 = .ok (.iconst (-1), 1) := by decide +kernel
theorem dX4_ask_56 : decode cX4_ask 56 = .ok (.if_icmp .eq 5, 3) := by decide +kernel
theorem dX4_ask_59 : decode cX4_ask 59 = .ok (.iconst 0, 1) := by decide +kernel
theorem dX4_ask_60 : decode cX4_ask 60 = .ok (.ireturn, 1) := by decide +kernel
theorem dX4_ask_61 : decode cX4_ask 61 = .ok (.aload_n 0, 1) := by decide +kernel
theorem dX4_ask_62 : decode cX4_ask 62 = .ok (.iload_n 1, 1) := by decide +kernel
theorem dX4_ask_63 : decode cX4_ask 63 = .ok (.iload_n 3, 1) := by decide +kernel
theorem dX4_ask_64 : decode cX4_ask 64 = .ok (.iload 4, 2) := by decide +kernel
theorem dX4_ask_66 : decode cX4_ask 66 = .ok (.aload_n 0, 1) := by decide +kernel
theorem dX4_ask_67 : decode cX4_ask 67 = .ok (.getfield 33, 3) := by decide +kernel
theorem dX4_ask_70 : decode cX4_ask 70 = .ok (.invokevirtual 71, 3) := by decide +kernel
theorem dX4_ask_73 : decode cX4_ask 73 = .ok (.invokevirtual 75, 3) := by decide +kernel
theorem dX4_ask_76 : decode cX4_ask 76 = .ok (.istore 5, 2) := by decide +kernel
theorem dX4_ask_78 : decode cX4_ask 78 = .ok (.iload 5, 2) := by decide +kernel
theorem dX4_ask_80 : decode cX4_ask 80 = .ok (.ifCond .ne 17, 3) := by decide +kernel
theorem dX4_ask_83 : decode cX4_ask 83 = .ok (.aload_n 0, 1) := by decide +kernel
theorem dX4_ask_84 : decode cX4_ask 84 = .ok (.getfield 19, 3) := by decide +kernel
theorem dX4_ask_87 : decode cX4_ask 87 = .ok (.iload_n 1, 1) := by decide +kernel
theorem dX4_ask_88 : decode cX4_ask 88 = .ok (.iload_n 2, 1) := by decide +kernel
theorem dX4_ask_89 : decode cX4_ask 89 = .ok (.iload_n 3, 1) := by decide +kernel
theorem dX4_ask_90 : decode cX4_ask 90 = .ok (.iload 4, 2) := by decide +kernel
theorem dX4_ask_92 : decode cX4_ask 92 = .ok (.invokevirtual 79, 3) := by decide +kernel
theorem dX4_ask_95 : decode cX4_ask 95 = .ok (.iconst 0, 1) := by decide +kernel
theorem dX4_ask_96 : decode cX4_ask 96 = .ok (.ireturn, 1) := by decide +kernel
theorem dX4_ask_97 : decode cX4_ask 97 = .ok (.aload_n 0, 1) := by decide +kernel
theorem dX4_ask_98 : decode cX4_ask 98 = .ok (.iload_n 1, 1) := by decide +kernel
theorem dX4_ask_99 : decode cX4_ask 99 = .ok (.iload 5, 2) := by decide +kernel
theorem dX4_ask_101 : decode cX4_ask 101 = .ok (.invokevirtual 83, 3) := by decide +kernel
theorem dX4_ask_104 : decode cX4_ask 104 = .ok (.ifCond .eq 5, 3) := by decide +kernel
theorem dX4_ask_107 : decode cX4_ask 107 = .ok (.iconst 2, 1) := by decide +kernel
theorem dX4_ask_108 : decode cX4_ask 108 = .ok (.ireturn, 1) := by decide +kernel
theorem dX4_ask_109 : decode cX4_ask 109 = .ok (.aload_n 0, 1) := by decide +kernel
theorem dX4_ask_110 : decode cX4_ask 110 = .ok (.getfield 33, 3) := by decide +kernel
theorem dX4_ask_113 : decode cX4_ask 113 = .ok (.iload_n 1, 1) := by decide +kernel
theorem dX4_ask_114 : decode cX4_ask 114 = .ok (.iload_n 2, 1) := by decide +kernel
theorem dX4_ask_115 : decode cX4_ask 115 = .ok (.iload_n 3, 1) := by decide +kernel
theorem dX4_ask_116 : decode cX4_ask 116 = .ok (.iload 4, 2) := by decide +kernel
theorem dX4_ask_118 : decode cX4_ask 118 = .ok (.invokevirtual 87, 3) := by decide +kernel
theorem dX4_ask_121 : decode cX4_ask 121 = .ok (.iconst 1, 1) := by decide +kernel
theorem dX4_ask_122 : decode cX4_ask 122 = .ok (.ireturn, 1) := by decide +kernel
set_option maxRecDepth 20000 in
theorem ggX4_lock_X1_runnerOf : GoodIn wsX4_lock wsX1_runnerOf := goodIn_r _ [8, 9, 10, 11, 12, 7, 13, 14, 56, 57] (by decide +kernel) (by decide +kernel)
set_option maxRecDepth 20000 in
theorem gX4_lock_X1_runnerOf : GoodIn wsX4_lock (wsV RX4 45 RX1 yX1_runnerOf wsX1_runnerOf) := goodIn_app (goodIn_of _ (by decide +kernel)) ggX4_lock_X1_runnerOf
set_option maxRecDepth 20000 in
theorem ggX4_lock_X4_isRow : GoodIn wsX4_lock wsX4_isRow := goodIn_r _ [18] (by decide +kernel) (by decide +kernel)
set_option maxRecDepth 20000 in
theorem gX4_lock_X4_isRow : GoodIn wsX4_lock (va_wsS RX4 90 yX4_isRow wsX4_isRow) := goodIn_app (goodIn_of _ (by decide +kernel)) ggX4_lock_X4_isRow
set_option maxRecDepth 20000 in
theorem ggX4_lock_X2_contains : GoodIn wsX4_lock wsX2_contains := goodIn_r _ [23, 24, 25, 26, 22, 27, 28, 29, 58, 59, 60, 61, 62, 63, 64] (by decide +kernel) (by decide +kernel)
set_option maxRecDepth 20000 in
theorem gX4_lock_X2_contains : GoodIn wsX4_lock (wsV RX4 64 RX2 yX2_contains wsX2_contains) := goodIn_app (goodIn_of _ (by decide +kernel)) ggX4_lock_X2_contains
set_option maxRecDepth 20000 in
theorem ggX4_lock_X3_suffices : GoodIn wsX4_lock wsX3_suffices := goodIn_r _ [34, 35, 36, 37, 38, 65, 66, 67, 68, 69] (by decide +kernel) (by decide +kernel)
set_option maxRecDepth 20000 in
theorem gX4_lock_X3_suffices : GoodIn wsX4_lock (wsV RX4 93 RX3 yX3_suffices wsX3_suffices) := goodIn_app (goodIn_of _ (by decide +kernel)) ggX4_lock_X3_suffices
set_option maxRecDepth 20000 in
theorem ggX4_lock_X3_leastInConflict : GoodIn wsX4_lock wsX3_leastInConflict := goodIn_r _ [42, 35, 38, 36, 37, 43, 65, 66, 67, 68, 69] (by decide +kernel) (by decide +kernel)
set_option maxRecDepth 20000 in
theorem gX4_lock_X3_leastInConflict : GoodIn wsX4_lock (wsV RX4 97 RX3 yX3_leastInConflict wsX3_leastInConflict) := goodIn_app (goodIn_of _ (by decide +kernel)) ggX4_lock_X3_leastInConflict
set_option maxRecDepth 20000 in
theorem ggX4_lock_X3_note : GoodIn wsX4_lock wsX3_note := goodIn_r _ [47, 35, 43, 36, 38, 37, 48, 49, 50, 33, 51, 65, 66, 67, 68, 69] (by decide +kernel) (by decide +kernel)
set_option maxRecDepth 20000 in
theorem gX4_lock_X3_note : GoodIn wsX4_lock (wsV RX4 100 RX3 yX3_note wsX3_note) := goodIn_app (goodIn_of _ (by decide +kernel)) ggX4_lock_X3_note
theorem dX4_lock_0 : decode cX4_lock 0 = .ok (.aload_n 0, 1) := by decide +kernel
theorem dX4_lock_1 : decode cX4_lock 1 = .ok (.getfield 10, 3) := by decide +kernel
theorem dX4_lock_4 : decode cX4_lock 4 = .ok (.iload_n 1, 1) := by decide +kernel
theorem dX4_lock_5 : decode cX4_lock 5 = .ok (.invokevirtual 45, 3) := by decide +kernel
theorem dX4_lock_8 : decode cX4_lock 8 = .ok (.istore 4, 2) := by decide +kernel
theorem dX4_lock_10 : decode cX4_lock 10 = .ok (.iload 4, 2) := by decide +kernel
theorem dX4_lock_12 : decode cX4_lock 12 = .ok (.iconst (-1), 1) := by decide +kernel
theorem dX4_lock_13 : decode cX4_lock 13 = .ok (.if_icmp .eq 20, 3) := by decide +kernel
theorem dX4_lock_16 : decode cX4_lock 16 = .ok (.iload_n 2, 1) := by decide +kernel
theorem dX4_lock_17 : decode cX4_lock 17 = .ok (.invokestatic 90, 3) := by decide +kernel
theorem dX4_lock_20 : decode cX4_lock 20 = .ok (.ifCond .eq 13, 3) := by decide +kernel
theorem dX4_lock_23 : decode cX4_lock 23 = .ok (.iload_n 3, 1) := by decide +kernel
theorem dX4_lock_24 : decode cX4_lock 24 = .ok (.iconst 1, 1) := by decide +kernel
theorem dX4_lock_25 : decode cX4_lock 25 = .ok (.if_icmp .lt 8, 3) := by decide +kernel
theorem dX4_lock_28 : decode cX4_lock 28 = .ok (.iload_n 3, 1) := by decide +kernel
theorem dX4_lock_29 : decode cX4_lock 29 = .ok (.iconst 2, 1) := by decide +kernel
theorem dX4_lock_30 : decode cX4_lock 30 = .ok (.if_icmp .le 5, 3) := by decide +kernel
theorem dX4_lock_33 : decode cX4_lock 33 = .ok (.iconst (-1), 1) := by decide +kernel
theorem dX4_lock_34 : decode cX4_lock 34 = .ok (.ireturn, 1) := by decide +kernel
theorem dX4_lock_35 : decode cX4_lock 35 = .ok (.aload_n 0, 1) := by decide +kernel
theorem dX4_lock_36 : decode cX4_lock 36 = .ok (.getfield 33, 3) := by decide +kernel
theorem dX4_lock_39 : decode cX4_lock 39 = .ok (.iload 4, 2) := by decide +kernel
theorem dX4_lock_41 : decode cX4_lock 41 = .ok (.invokevirtual 64, 3) := by decide +kernel
theorem dX4_lock_44 : decode cX4_lock 44 = .ok (.ifCond .eq 5, 3) := by decide +kernel
theorem dX4_lock_47 : decode cX4_lock 47 = .ok (.iconst (-1), 1) := by decide +kernel
theorem dX4_lock_48 : decode cX4_lock 48 = .ok (.ireturn, 1) := by decide +kernel
theorem dX4_lock_49 : decode cX4_lock 49 = .ok (.aload_n 0, 1) := by decide +kernel
theorem dX4_lock_50 : decode cX4_lock 50 = .ok (.getfield 26, 3) := by decide +kernel
theorem dX4_lock_53 : decode cX4_lock 53 = .ok (.iload 4, 2) := by decide +kernel
theorem dX4_lock_55 : decode cX4_lock 55 = .ok (.iload_n 2, 1) := by decide +kernel
theorem dX4_lock_56 : decode cX4_lock 56 = .ok (.iload_n 3, 1) := by decide +kernel
theorem dX4_lock_57 : decode cX4_lock 57 = .ok (.invokevirtual 93, 3) := by decide +kernel
theorem dX4_lock_60 : decode cX4_lock 60 = .ok (.ifCond .eq 5, 3) := by decide +kernel
theorem dX4_lock_63 : decode cX4_lock 63 = .ok (.iconst 0, 1) := by decide +kernel
theorem dX4_lock_64 : decode cX4_lock 64 = .ok (.ireturn, 1) := by decide +kernel
theorem dX4_lock_65 : decode cX4_lock 65 = .ok (.aload_n 0, 1) := by decide +kernel
theorem dX4_lock_66 : decode cX4_lock 66 = .ok (.getfield 26, 3) := by decide +kernel
theorem dX4_lock_69 : decode cX4_lock 69 = .ok (.iload 4, 2) := by decide +kernel
theorem dX4_lock_71 : decode cX4_lock 71 = .ok (.iload_n 2, 1) := by decide +kernel
theorem dX4_lock_72 : decode cX4_lock 72 = .ok (.iload_n 3, 1) := by decide +kernel
theorem dX4_lock_73 : decode cX4_lock 73 = .ok (.invokevirtual 97, 3) := by decide +kernel
theorem dX4_lock_76 : decode cX4_lock 76 = .ok (.istore 5, 2) := by decide +kernel
theorem dX4_lock_78 : decode cX4_lock 78 = .ok (.iload 5, 2) := by decide +kernel
theorem dX4_lock_80 : decode cX4_lock 80 = .ok (.iconst (-1), 1) := by decide +kernel
theorem dX4_lock_81 : decode cX4_lock 81 = .ok (.if_icmp .eq 6, 3) := by decide +kernel
theorem dX4_lock_84 : decode cX4_lock 84 = .ok (.iload 5, 2) := by decide +kernel
theorem dX4_lock_86 : decode cX4_lock 86 = .ok (.ireturn, 1) := by decide +kernel
theorem dX4_lock_87 : decode cX4_lock 87 = .ok (.aload_n 0, 1) := by decide +kernel
theorem dX4_lock_88 : decode cX4_lock 88 = .ok (.getfield 26, 3) := by decide +kernel
theorem dX4_lock_91 : decode cX4_lock 91 = .ok (.iload_n 1, 1) := by decide +kernel
theorem dX4_lock_92 : decode cX4_lock 92 = .ok (.iload 4, 2) := by decide +kernel
theorem dX4_lock_94 : decode cX4_lock 94 = .ok (.iload_n 2, 1) := by decide +kernel
theorem dX4_lock_95 : decode cX4_lock 95 = .ok (.iload_n 3, 1) := by decide +kernel
theorem dX4_lock_96 : decode cX4_lock 96 = .ok (.invokevirtual 100, 3) := by decide +kernel
theorem dX4_lock_99 : decode cX4_lock 99 = .ok (.ifCond .eq 7, 3) := by decide +kernel
theorem dX4_lock_102 : decode cX4_lock 102 = .ok (.iconst 0, 1) := by decide +kernel
theorem dX4_lock_103 : decode cX4_lock 103 = .ok (.goto 4, 3) := by decide +kernel
theorem dX4_lock_106 : decode cX4_lock 106 = .ok (.iconst (-1), 1) := by decide +kernel
theorem dX4_lock_107 : decode cX4_lock 107 = .ok (.ireturn, 1) := by decide +kernel
set_option maxRecDepth 20000 in
theorem ggX4_await_X4_isSession : GoodIn wsX4_await wsX4_isSession := goodIn_r _ [6] (by decide +kernel) (by decide +kernel)
set_option maxRecDepth 20000 in
theorem gX4_await_X4_isSession : GoodIn wsX4_await (va_wsS RX4 37 yX4_isSession wsX4_isSession) := goodIn_app (goodIn_of _ (by decide +kernel)) ggX4_await_X4_isSession
set_option maxRecDepth 20000 in
theorem ggX4_await_X1_wasGiven : GoodIn wsX4_await wsX1_wasGiven := goodIn_r _ [11, 12, 103, 104] (by decide +kernel) (by decide +kernel)
set_option maxRecDepth 20000 in
theorem gX4_await_X1_wasGiven : GoodIn wsX4_await (wsV RX4 104 RX1 yX1_wasGiven wsX1_wasGiven) := goodIn_app (goodIn_of _ (by decide +kernel)) ggX4_await_X1_wasGiven
set_option maxRecDepth 20000 in
theorem ggX4_await_X2_contains : GoodIn wsX4_await wsX2_contains := goodIn_r _ [17, 18, 19, 20, 16, 21, 22, 23, 105, 106, 107, 108, 109, 110, 111] (by decide +kernel) (by decide +kernel)
set_option maxRecDepth 20000 in
theorem gX4_await_X2_contains : GoodIn wsX4_await (wsV RX4 64 RX2 yX2_contains wsX2_contains) := goodIn_app (goodIn_of _ (by decide +kernel)) ggX4_await_X2_contains
set_option maxRecDepth 20000 in
theorem ggX4_await_X1_runnerOf : GoodIn wsX4_await wsX1_runnerOf := goodIn_r _ [27, 28, 29, 8, 9, 10, 11, 12, 103, 104] (by decide +kernel) (by decide +kernel)
set_option maxRecDepth 20000 in
theorem gX4_await_X1_runnerOf : GoodIn wsX4_await (wsV RX4 45 RX1 yX1_runnerOf wsX1_runnerOf) := goodIn_app (goodIn_of _ (by decide +kernel)) ggX4_await_X1_runnerOf
set_option maxRecDepth 20000 in
theorem ggX4_await_X4_closesRing : GoodIn wsX4_await wsX4_closesRing := goodIn_r _ [33, 34, 35, 5, 36, 37, 38, 39, 40, 2, 1, 41, 19, 20, 16, 21, 22, 23, 42, 43, 44, 45, 46, 47, 48, 49, 50, 24, 25, 26, 10, 27, 28, 29, 8, 9, 11, 12, 51, 52, 53, 54, 55, 56, 57, 58, 59, 60, 61, 62, 63, 64, 65, 66, 67, 68, 69, 70, 71, 72, 73, 74, 75, 76, 77, 78, 79, 80, 81, 82, 83, 84, 85, 86, 87, 88, 89, 90, 99, 100, 101, 102, 105, 106, 107, 108, 109, 110, 111, 103, 104, 112] (by decide +kernel) (by decide +kernel)
set_option maxRecDepth 20000 in
theorem gX4_await_X4_closesRing : GoodIn wsX4_await (wsV RX4 83 RX4 yX4_closesRing wsX4_closesRing) := goodIn_app (goodIn_of _ (by decide +kernel)) ggX4_await_X4_closesRing
set_option maxRecDepth 20000 in
theorem ggX4_await_X2_addForNumber : GoodIn wsX4_await wsX2_addForNumber := goodIn_r _ [94, 46, 95, 96, 97, 16, 98, 22, 23, 105, 106, 107, 108, 109, 110, 111] (by decide +kernel) (by decide +kernel)
set_option maxRecDepth 20000 in
theorem gX4_await_X2_addForNumber : GoodIn wsX4_await (wsV RX4 107 RX2 yX2_addForNumber wsX2_addForNumber) := goodIn_app (goodIn_of _ (by decide +kernel)) ggX4_await_X2_addForNumber
theorem dX4_await_0 : decode cX4_await 0 = .ok (.iload_n 1, 1) := by decide +kernel
theorem dX4_await_1 : decode cX4_await 1 = .ok (.invokestatic 37, 3) := by decide +kernel
theorem dX4_await_4 : decode cX4_await 4 = .ok (.ifCond .eq 25, 3) := by decide +kernel
theorem dX4_await_7 : decode cX4_await 7 = .ok (.aload_n 0, 1) := by decide +kernel
theorem dX4_await_8 : decode cX4_await 8 = .ok (.getfield 10, 3) := by decide +kernel
theorem dX4_await_11 : decode cX4_await 11 = .ok (.iload_n 2, 1) := by decide +kernel
theorem dX4_await_12 : decode cX4_await 12 = .ok (.invokevirtual 104, 3) := by decide +kernel
theorem dX4_await_15 : decode cX4_await 15 = .ok (.ifCond .eq 14, 3) := by decide +kernel
theorem dX4_await_18 : decode cX4_await 18 = .ok (.aload_n 0, 1) := by decide +kernel
theorem dX4_await_19 : decode cX4_await 19 = .ok (.getfield 33, 3) := by decide +kernel
theorem dX4_await_22 : decode cX4_await 22 = .ok (.iload_n 1, 1) := by decide +kernel
theorem dX4_await_23 : decode cX4_await 23 = .ok (.invokevirtual 64, 3) := by decide +kernel
theorem dX4_await_26 : decode cX4_await 26 = .ok (.ifCond .eq 5, 3) := by decide +kernel
theorem dX4_await_29 : decode cX4_await 29 = .ok (.iconst (-1), 1) := by decide +kernel
theorem dX4_await_30 : decode cX4_await 30 = .ok (.ireturn, 1) := by decide +kernel
theorem dX4_await_31 : decode cX4_await 31 = .ok (.aload_n 0, 1) := by decide +kernel
theorem dX4_await_32 : decode cX4_await 32 = .ok (.getfield 10, 3) := by decide +kernel
theorem dX4_await_35 : decode cX4_await 35 = .ok (.iload_n 2, 1) := by decide +kernel
theorem dX4_await_36 : decode cX4_await 36 = .ok (.invokevirtual 45, 3) := by decide +kernel
theorem dX4_await_39 : decode cX4_await 39 = .ok (.istore_n 3, 1) := by decide +kernel
theorem dX4_await_40 : decode cX4_await 40 = .ok (.iload_n 3, 1) := by decide +kernel
theorem dX4_await_41 : decode cX4_await 41 = .ok (.iconst (-1), 1) := by decide +kernel
theorem dX4_await_42 : decode cX4_await 42 = .ok (.if_icmp .ne 5, 3) := by decide +kernel
theorem dX4_await_45 : decode cX4_await 45 = .ok (.iconst 0, 1) := by decide +kernel
theorem dX4_await_46 : decode cX4_await 46 = .ok (.ireturn, 1) := by decide +kernel
theorem dX4_await_47 : decode cX4_await 47 = .ok (.aload_n 0, 1) := by decide +kernel
theorem dX4_await_48 : decode cX4_await 48 = .ok (.iload_n 1, 1) := by decide +kernel
theorem dX4_await_49 : decode cX4_await 49 = .ok (.iconst 1, 1) := by decide +kernel
theorem dX4_await_50 : decode cX4_await 50 = .ok (.iload_n 3, 1) := by decide +kernel
theorem dX4_await_51 : decode cX4_await 51 = .ok (.ishl, 1) := by decide +kernel
theorem dX4_await_52 : decode cX4_await 52 = .ok (.invokevirtual 83, 3) := by decide +kernel
theorem dX4_await_55 : decode cX4_await 55 = .ok (.ifCond .eq 5, 3) := by decide +kernel
theorem dX4_await_58 : decode cX4_await 58 = .ok (.iconst 2, 1) := by decide +kernel
theorem dX4_await_59 : decode cX4_await 59 = .ok (.ireturn, 1) := by decide +kernel
theorem dX4_await_60 : decode cX4_await 60 = .ok (.aload_n 0, 1) := by decide +kernel
theorem dX4_await_61 : decode cX4_await 61 = .ok (.getfield 33, 3) := by decide +kernel
theorem dX4_await_64 : decode cX4_await 64 = .ok (.iload_n 1, 1) := by decide +kernel
theorem dX4_await_65 : decode cX4_await 65 = .ok (.iload_n 2, 1) := by decide +kernel
theorem dX4_await_66 : decode cX4_await 66 = .ok (.invokevirtual 107, 3) := by decide +kernel
theorem dX4_await_69 : decode cX4_await 69 = .ok (.iconst 1, 1) := by decide +kernel
theorem dX4_await_70 : decode cX4_await 70 = .ok (.ireturn, 1) := by decide +kernel
set_option maxRecDepth 20000 in
theorem ggX4_next_X2_size : GoodIn wsX4_next wsX2_size := goodIn_r _ [6, 7, 107, 108, 109, 110, 111, 112, 113] (by decide +kernel) (by decide +kernel)
set_option maxRecDepth 20000 in
theorem gX4_next_X2_size : GoodIn wsX4_next (wsV RX4 71 RX2 yX2_size wsX2_size) := goodIn_app (goodIn_of _ (by decide +kernel)) ggX4_next_X2_size
set_option maxRecDepth 20000 in
theorem ggX4_next_X2_sessionAt : GoodIn wsX4_next wsX2_sessionAt := goodIn_r _ [11, 7, 12, 107, 108, 109, 110, 111, 112, 113] (by decide +kernel) (by decide +kernel)
set_option maxRecDepth 20000 in
theorem gX4_next_X2_sessionAt : GoodIn wsX4_next (wsV RX4 111 RX2 yX2_sessionAt wsX2_sessionAt) := goodIn_app (goodIn_of _ (by decide +kernel)) ggX4_next_X2_sessionAt
set_option maxRecDepth 20000 in
theorem ggX4_next_X4_waitsOn : GoodIn wsX4_next wsX4_waitsOn := goodIn_r _ [17, 1, 18, 19, 20, 21, 5, 22, 7, 12, 23, 24, 25, 26, 27, 28, 29, 30, 31, 32, 33, 34, 35, 36, 37, 38, 39, 40, 41, 42, 43, 44, 45, 46, 47, 48, 49, 50, 51, 52, 53, 54, 55, 56, 57, 58, 59, 60, 16, 61, 62, 63, 64, 65, 66, 67, 68, 69, 70, 71, 72, 73, 74, 75, 76, 77, 78, 79, 80, 81, 82, 83, 84, 85, 103, 104, 105, 106, 107, 108, 109, 110, 111, 112, 113, 114, 115, 116] (by decide +kernel) (by decide +kernel)
set_option maxRecDepth 20000 in
theorem gX4_next_X4_waitsOn : GoodIn wsX4_next (wsV RX4 114 RX4 yX4_waitsOn wsX4_waitsOn) := goodIn_app (goodIn_of _ (by decide +kernel)) ggX4_next_X4_waitsOn
set_option maxRecDepth 20000 in
theorem ggX4_next_X4_wake : GoodIn wsX4_next wsX4_wake := goodIn_r _ [89, 1, 62, 90, 91, 92, 5, 93, 7, 12, 23, 24, 25, 26, 27, 43, 44, 45, 46, 47, 94, 95, 96, 97, 98, 48, 49, 50, 51, 52, 53, 54, 55, 56, 57, 99, 100, 101, 66, 102, 68, 75, 76, 77, 103, 104, 105, 106, 107, 108, 109, 110, 111, 112, 113, 116] (by decide +kernel) (by decide +kernel)
set_option maxRecDepth 20000 in
theorem gX4_next_X4_wake : GoodIn wsX4_next (wsV RX4 117 RX4 yX4_wake wsX4_wake) := goodIn_app (goodIn_of _ (by decide +kernel)) ggX4_next_X4_wake
theorem dX4_next_0 : decode cX4_next 0 = .ok (.iconst 0, 1) := by decide +kernel
theorem dX4_next_1 : decode cX4_next 1 = .ok (.istore_n 1, 1) := by decide +kernel
theorem dX4_next_2 : decode cX4_next 2 = .ok (.iload_n 1, 1) := by decide +kernel
theorem dX4_next_3 : decode cX4_next 3 = .ok (.aload_n 0, 1) := by decide +kernel
theorem dX4_next_4 : decode cX4_next 4 = .ok (.getfield 33, 3) := by decide +kernel
theorem dX4_next_7 : decode cX4_next 7 = .ok (.invokevirtual 71, 3) := by decide +kernel
theorem dX4_next_10 : decode cX4_next 10 = .ok (.if_icmp .ge 32, 3) := by decide +kernel
theorem dX4_next_13 : decode cX4_next 13 = .ok (.aload_n 0, 1) := by decide +kernel
theorem dX4_next_14 : decode cX4_next 14 = .ok (.getfield 33, 3) := by decide +kernel
theorem dX4_next_17 : decode cX4_next 17 = .ok (.iload_n 1, 1) := by decide +kernel
theorem dX4_next_18 : decode cX4_next 18 = .ok (.invokevirtual 111, 3) := by decide +kernel
theorem dX4_next_21 : decode cX4_next 21 = .ok (.istore_n 2, 1) := by decide +kernel
theorem dX4_next_22 : decode cX4_next 22 = .ok (.aload_n 0, 1) := by decide +kernel
theorem dX4_next_23 : decode cX4_next 23 = .ok (.iload_n 2, 1) := by decide +kernel
theorem dX4_next_24 : decode cX4_next 24 = .ok (.invokevirtual 114, 3) := by decide +kernel
theorem dX4_next_27 : decode cX4_next 27 = .ok (.ifCond .ne 9, 3) := by decide +kernel
theorem dX4_next_30 : decode cX4_next 30 = .ok (.aload_n 0, 1) := by decide +kernel
theorem dX4_next_31 : decode cX4_next 31 = .ok (.iload_n 2, 1) := by decide +kernel
theorem dX4_next_32 : decode cX4_next 32 = .ok (.invokevirtual 117, 3) := by decide +kernel
theorem dX4_next_35 : decode cX4_next 35 = .ok (.ireturn, 1) := by decide +kernel
theorem dX4_next_36 : decode cX4_next 36 = .ok (.iinc 1 1, 3) := by decide +kernel
theorem dX4_next_39 : decode cX4_next 39 = .ok (.goto (-37), 3) := by decide +kernel
theorem dX4_next_42 : decode cX4_next 42 = .ok (.iconst (-1), 1) := by decide +kernel
theorem dX4_next_43 : decode cX4_next 43 = .ok (.ireturn, 1) := by decide +kernel
set_option maxRecDepth 20000 in
theorem ggX4_cancel_X2_contains : GoodIn wsX4_cancel wsX2_contains := goodIn_r _ [6, 7, 8, 9, 5, 10, 11, 12, 21, 22, 23, 24, 25, 26, 27] (by decide +kernel) (by decide +kernel)
set_option maxRecDepth 20000 in
theorem gX4_cancel_X2_contains : GoodIn wsX4_cancel (wsV RX4 64 RX2 yX2_contains wsX2_contains) := goodIn_app (goodIn_of _ (by decide +kernel)) ggX4_cancel_X2_contains
set_option maxRecDepth 20000 in
theorem ggX4_cancel_X2_remove : GoodIn wsX4_cancel wsX2_remove := goodIn_r _ [16, 11, 12, 21, 22, 23, 24, 25, 26, 27] (by decide +kernel) (by decide +kernel)
set_option maxRecDepth 20000 in
theorem gX4_cancel_X2_remove : GoodIn wsX4_cancel (wsV RX4 120 RX2 yX2_remove wsX2_remove) := goodIn_app (goodIn_of _ (by decide +kernel)) ggX4_cancel_X2_remove
theorem dX4_cancel_0 : decode cX4_cancel 0 = .ok (.aload_n 0, 1) := by decide +kernel
theorem dX4_cancel_1 : decode cX4_cancel 1 = .ok (.getfield 33, 3) := by decide +kernel
theorem dX4_cancel_4 : decode cX4_cancel 4 = .ok (.iload_n 1, 1) := by decide +kernel
theorem dX4_cancel_5 : decode cX4_cancel 5 = .ok (.invokevirtual 64, 3) := by decide +kernel
theorem dX4_cancel_8 : decode cX4_cancel 8 = .ok (.ifCond .ne 5, 3) := by decide +kernel
theorem dX4_cancel_11 : decode cX4_cancel 11 = .ok (.iconst 0, 1) := by decide +kernel
theorem dX4_cancel_12 : decode cX4_cancel 12 = .ok (.ireturn, 1) := by decide +kernel
theorem dX4_cancel_13 : decode cX4_cancel 13 = .ok (.aload_n 0, 1) := by decide +kernel
theorem dX4_cancel_14 : decode cX4_cancel 14 = .ok (.getfield 33, 3) := by decide +kernel
theorem dX4_cancel_17 : decode cX4_cancel 17 = .ok (.iload_n 1, 1) := by decide +kernel
theorem dX4_cancel_18 : decode cX4_cancel 18 = .ok (.invokevirtual 120, 3) := by decide +kernel
theorem dX4_cancel_21 : decode cX4_cancel 21 = .ok (.iconst 1, 1) := by decide +kernel
theorem dX4_cancel_22 : decode cX4_cancel 22 = .ok (.ireturn, 1) := by decide +kernel
set_option maxRecDepth 20000 in
theorem ggX4_end_X4_isSession : GoodIn wsX4_end wsX4_isSession := goodIn_r _ [5] (by decide +kernel) (by decide +kernel)
set_option maxRecDepth 20000 in
theorem gX4_end_X4_isSession : GoodIn wsX4_end (va_wsS RX4 37 yX4_isSession wsX4_isSession) := goodIn_app (goodIn_of _ (by decide +kernel)) ggX4_end_X4_isSession
set_option maxRecDepth 20000 in
theorem ggX4_end_X4_isLevel : GoodIn wsX4_end wsX4_isLevel := goodIn_r _ [8] (by decide +kernel) (by decide +kernel)
set_option maxRecDepth 20000 in
theorem gX4_end_X4_isLevel : GoodIn wsX4_end (va_wsS RX4 55 yX4_isLevel wsX4_isLevel) := goodIn_app (goodIn_of _ (by decide +kernel)) ggX4_end_X4_isLevel
set_option maxRecDepth 20000 in
theorem ggX4_end_X0_giveUp : GoodIn wsX4_end wsX0_giveUp := goodIn_r _ [13, 14, 15, 16, 12, 17, 18, 19, 20, 21, 26] (by decide +kernel) (by decide +kernel)
set_option maxRecDepth 20000 in
theorem gX4_end_X0_giveUp : GoodIn wsX4_end (wsV RX4 123 RX0 yX0_giveUp wsX0_giveUp) := goodIn_app (goodIn_of _ (by decide +kernel)) ggX4_end_X0_giveUp
theorem dX4_end_0 : decode cX4_end 0 = .ok (.iload_n 1, 1) := by decide +kernel
theorem dX4_end_1 : decode cX4_end 1 = .ok (.invokestatic 37, 3) := by decide +kernel
theorem dX4_end_4 : decode cX4_end 4 = .ok (.ifCond .eq 10, 3) := by decide +kernel
theorem dX4_end_7 : decode cX4_end 7 = .ok (.iload_n 2, 1) := by decide +kernel
theorem dX4_end_8 : decode cX4_end 8 = .ok (.invokestatic 55, 3) := by decide +kernel
theorem dX4_end_11 : decode cX4_end 11 = .ok (.ifCond .ne 5, 3) := by decide +kernel
theorem dX4_end_14 : decode cX4_end 14 = .ok (.iconst 0, 1) := by decide +kernel
theorem dX4_end_15 : decode cX4_end 15 = .ok (.ireturn, 1) := by decide +kernel
theorem dX4_end_16 : decode cX4_end 16 = .ok (.aload_n 0, 1) := by decide +kernel
theorem dX4_end_17 : decode cX4_end 17 = .ok (.getfield 19, 3) := by decide +kernel
theorem dX4_end_20 : decode cX4_end 20 = .ok (.iload_n 1, 1) := by decide +kernel
theorem dX4_end_21 : decode cX4_end 21 = .ok (.iload_n 2, 1) := by decide +kernel
theorem dX4_end_22 : decode cX4_end 22 = .ok (.invokevirtual 123, 3) := by decide +kernel
theorem dX4_end_25 : decode cX4_end 25 = .ok (.iconst 1, 1) := by decide +kernel
theorem dX4_end_26 : decode cX4_end 26 = .ok (.ireturn, 1) := by decide +kernel
set_option maxRecDepth 20000 in
theorem ggX4_release_X4_isSession : GoodIn wsX4_release wsX4_isSession := goodIn_r _ [6] (by decide +kernel) (by decide +kernel)
set_option maxRecDepth 20000 in
theorem gX4_release_X4_isSession : GoodIn wsX4_release (va_wsS RX4 37 yX4_isSession wsX4_isSession) := goodIn_app (goodIn_of _ (by decide +kernel)) ggX4_release_X4_isSession
set_option maxRecDepth 20000 in
theorem ggX4_release_X4_isLevel : GoodIn wsX4_release wsX4_isLevel := goodIn_r _ [9] (by decide +kernel) (by decide +kernel)
set_option maxRecDepth 20000 in
theorem gX4_release_X4_isLevel : GoodIn wsX4_release (va_wsS RX4 55 yX4_isLevel wsX4_isLevel) := goodIn_app (goodIn_of _ (by decide +kernel)) ggX4_release_X4_isLevel
set_option maxRecDepth 20000 in
theorem ggX4_release_X0_lower : GoodIn wsX4_release wsX0_lower := goodIn_r _ [14, 15, 16, 17, 13, 18, 19, 20, 21, 22, 33] (by decide +kernel) (by decide +kernel)
set_option maxRecDepth 20000 in
theorem gX4_release_X0_lower : GoodIn wsX4_release (wsV RX4 126 RX0 yX0_lower wsX0_lower) := goodIn_app (goodIn_of _ (by decide +kernel)) ggX4_release_X0_lower
set_option maxRecDepth 20000 in
theorem ggX4_release_X2_lower : GoodIn wsX4_release wsX2_lower := goodIn_r _ [27, 28, 34, 35, 36, 37, 38, 39, 40] (by decide +kernel) (by decide +kernel)
set_option maxRecDepth 20000 in
theorem gX4_release_X2_lower : GoodIn wsX4_release (wsV RX4 129 RX2 yX2_lower wsX2_lower) := goodIn_app (goodIn_of _ (by decide +kernel)) ggX4_release_X2_lower
theorem dX4_release_0 : decode cX4_release 0 = .ok (.iload_n 1, 1) := by decide +kernel
theorem dX4_release_1 : decode cX4_release 1 = .ok (.invokestatic 37, 3) := by decide +kernel
theorem dX4_release_4 : decode cX4_release 4 = .ok (.ifCond .eq 14, 3) := by decide +kernel
theorem dX4_release_7 : decode cX4_release 7 = .ok (.iload_n 2, 1) := by decide +kernel
theorem dX4_release_8 : decode cX4_release 8 = .ok (.invokestatic 55, 3) := by decide +kernel
theorem dX4_release_11 : decode cX4_release 11 = .ok (.ifCond .eq 7, 3) := by decide +kernel
theorem dX4_release_14 : decode cX4_release 14 = .ok (.iload_n 2, 1) := by decide +kernel
theorem dX4_release_15 : decode cX4_release 15 = .ok (.ifCond .ne 5, 3) := by decide +kernel
theorem dX4_release_18 : decode cX4_release 18 = .ok (.iconst 0, 1) := by decide +kernel
theorem dX4_release_19 : decode cX4_release 19 = .ok (.ireturn, 1) := by decide +kernel
theorem dX4_release_20 : decode cX4_release 20 = .ok (.aload_n 0, 1) := by decide +kernel
theorem dX4_release_21 : decode cX4_release 21 = .ok (.getfield 19, 3) := by decide +kernel
theorem dX4_release_24 : decode cX4_release 24 = .ok (.iload_n 1, 1) := by decide +kernel
theorem dX4_release_25 : decode cX4_release 25 = .ok (.iload_n 2, 1) := by decide +kernel
theorem dX4_release_26 : decode cX4_release 26 = .ok (.invokevirtual 126, 3) := by decide +kernel
theorem dX4_release_29 : decode cX4_release 29 = .ok (.aload_n 0, 1) := by decide +kernel
theorem dX4_release_30 : decode cX4_release 30 = .ok (.getfield 33, 3) := by decide +kernel
theorem dX4_release_33 : decode cX4_release 33 = .ok (.iload_n 1, 1) := by decide +kernel
theorem dX4_release_34 : decode cX4_release 34 = .ok (.iload_n 2, 1) := by decide +kernel
theorem dX4_release_35 : decode cX4_release 35 = .ok (.invokevirtual 129, 3) := by decide +kernel
theorem dX4_release_38 : decode cX4_release 38 = .ok (.iconst 1, 1) := by decide +kernel
theorem dX4_release_39 : decode cX4_release 39 = .ok (.ireturn, 1) := by decide +kernel
set_option maxRecDepth 20000 in
theorem ggX4_drop_X4_isTable : GoodIn wsX4_drop wsX4_isTable := goodIn_r _ [6] (by decide +kernel) (by decide +kernel)
set_option maxRecDepth 20000 in
theorem gX4_drop_X4_isTable : GoodIn wsX4_drop (va_wsS RX4 58 yX4_isTable wsX4_isTable) := goodIn_app (goodIn_of _ (by decide +kernel)) ggX4_drop_X4_isTable
set_option maxRecDepth 20000 in
theorem ggX4_drop_X0_forgetTable : GoodIn wsX4_drop wsX0_forgetTable := goodIn_r _ [11, 12, 13, 14, 10, 15, 34] (by decide +kernel) (by decide +kernel)
set_option maxRecDepth 20000 in
theorem gX4_drop_X0_forgetTable : GoodIn wsX4_drop (wsV RX4 130 RX0 yX0_forgetTable wsX0_forgetTable) := goodIn_app (goodIn_of _ (by decide +kernel)) ggX4_drop_X0_forgetTable
set_option maxRecDepth 20000 in
theorem ggX4_drop_X2_markDropped : GoodIn wsX4_drop wsX2_markDropped := goodIn_r _ [20, 21, 22, 23, 24, 25, 26, 19, 27, 28, 29, 35, 36, 37, 38, 39, 40, 41] (by decide +kernel) (by decide +kernel)
set_option maxRecDepth 20000 in
theorem gX4_drop_X2_markDropped : GoodIn wsX4_drop (wsV RX4 133 RX2 yX2_markDropped wsX2_markDropped) := goodIn_app (goodIn_of _ (by decide +kernel)) ggX4_drop_X2_markDropped
theorem dX4_drop_0 : decode cX4_drop 0 = .ok (.iload_n 1, 1) := by decide +kernel
theorem dX4_drop_1 : decode cX4_drop 1 = .ok (.invokestatic 58, 3) := by decide +kernel
theorem dX4_drop_4 : decode cX4_drop 4 = .ok (.ifCond .ne 5, 3) := by decide +kernel
theorem dX4_drop_7 : decode cX4_drop 7 = .ok (.iconst 0, 1) := by decide +kernel
theorem dX4_drop_8 : decode cX4_drop 8 = .ok (.ireturn, 1) := by decide +kernel
