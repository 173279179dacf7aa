theorem dX5_locker_35 : decode cX5_locker 35 = .ok (.if_icmp .ge 81, 3) := by decide +kernel
theorem dX5_locker_38 : decode cX5_locker 38 = .ok (.aload_n 0, 1) := by decide +kernel
theorem dX5_locker_39 : decode cX5_locker 39 = .ok (.getfield 44, 3) := by decide +kernel
theorem dX5_locker_42 : decode cX5_locker 42 = .ok (.iload 7, 2) := by decide +kernel
theorem dX5_locker_44 : decode cX5_locker 44 = .ok (.iaload, 1) := by decide +kernel
theorem dX5_locker_45 : decode cX5_locker 45 = .ok (.iload_n 1, 1) := by decide +kernel
theorem dX5_locker_46 : decode cX5_locker 46 = .ok (.if_icmp .ne 64, 3) := by decide +kernel
theorem dX5_locker_49 : decode cX5_locker 49 = .ok (.aload_n 0, 1) := by decide +kernel
theorem dX5_locker_50 : decode cX5_locker 50 = .ok (.getfield 16, 3) := by decide +kernel
theorem dX5_locker_53 : decode cX5_locker 53 = .ok (.aload_n 0, 1) := by decide +kernel
theorem dX5_locker_54 : decode cX5_locker 54 = .ok (.getfield 47, 3) := by decide +kernel
theorem dX5_locker_57 : decode cX5_locker 57 = .ok (.iload 7, 2) := by decide +kernel
theorem dX5_locker_59 : decode cX5_locker 59 = .ok (.iaload, 1) := by decide +kernel
theorem dX5_locker_60 : decode cX5_locker 60 = .ok (.baload, 1) := by decide +kernel
theorem dX5_locker_61 : decode cX5_locker 61 = .ok (.ifCond .eq 49, 3) := by decide +kernel
theorem dX5_locker_64 : decode cX5_locker 64 = .ok (.aload_n 0, 1) := by decide +kernel
theorem dX5_locker_65 : decode cX5_locker 65 = .ok (.getfield 47, 3) := by decide +kernel
theorem dX5_locker_68 : decode cX5_locker 68 = .ok (.iload 7, 2) := by decide +kernel
theorem dX5_locker_70 : decode cX5_locker 70 = .ok (.iaload, 1) := by decide +kernel
theorem dX5_locker_71 : decode cX5_locker 71 = .ok (.iload_n 3, 1) := by decide +kernel
theorem dX5_locker_72 : decode cX5_locker 72 = .ok (.if_icmp .le 38, 3) := by decide +kernel
theorem dX5_locker_75 : decode cX5_locker 75 = .ok (.iload 6, 2) := by decide +kernel
theorem dX5_locker_77 : decode cX5_locker 77 = .ok (.ifCond .eq 15, 3) := by decide +kernel
theorem dX5_locker_80 : decode cX5_locker 80 = .ok (.aload_n 0, 1) := by decide +kernel
theorem dX5_locker_81 : decode cX5_locker 81 = .ok (.getfield 47, 3) := by decide +kernel
theorem dX5_locker_84 : decode cX5_locker 84 = .ok (.iload 7, 2) := by decide +kernel
theorem dX5_locker_86 : decode cX5_locker 86 = .ok (.iaload, 1) := by decide +kernel
theorem dX5_locker_87 : decode cX5_locker 87 = .ok (.iload 6, 2) := by decide +kernel
theorem dX5_locker_89 : decode cX5_locker 89 = .ok (.if_icmp .ge 21, 3) := by decide +kernel
theorem dX5_locker_92 : decode cX5_locker 92 = .ok (.aload_n 0, 1) := by decide +kernel
theorem dX5_locker_93 : decode cX5_locker 93 = .ok (.getfield 47, 3) := by decide +kernel
theorem dX5_locker_96 : decode cX5_locker 96 = .ok (.iload 7, 2) := by decide +kernel
theorem dX5_locker_98 : decode cX5_locker 98 = .ok (.iaload, 1) := by decide +kernel
theorem dX5_locker_99 : decode cX5_locker 99 = .ok (.istore 6, 2) := by decide +kernel
theorem dX5_locker_101 : decode cX5_locker 101 = .ok (.aload_n 0, 1) := by decide +kernel
theorem dX5_locker_102 : decode cX5_locker 102 = .ok (.getfield 50, 3) := by decide +kernel
theorem dX5_locker_105 : decode cX5_locker 105 = .ok (.iload 7, 2) := by decide +kernel
theorem dX5_locker_107 : decode cX5_locker 107 = .ok (.iaload, 1) := by decide +kernel
theorem dX5_locker_108 : decode cX5_locker 108 = .ok (.istore 4, 2) := by decide +kernel
theorem dX5_locker_110 : decode cX5_locker 110 = .ok (.iinc 7 1, 3) := by decide +kernel
theorem dX5_locker_113 : decode cX5_locker 113 = .ok (.goto (-84), 3) := by decide +kernel
theorem dX5_locker_116 : decode cX5_locker 116 = .ok (.iload 6, 2) := by decide +kernel
theorem dX5_locker_118 : decode cX5_locker 118 = .ok (.istore_n 3, 1) := by decide +kernel
theorem dX5_locker_119 : decode cX5_locker 119 = .ok (.iinc 5 1, 3) := by decide +kernel
theorem dX5_locker_122 : decode cX5_locker 122 = .ok (.goto (-114), 3) := by decide +kernel
theorem dX5_locker_125 : decode cX5_locker 125 = .ok (.iload 4, 2) := by decide +kernel
theorem dX5_locker_127 : decode cX5_locker 127 = .ok (.iconst 1, 1) := by decide +kernel
theorem dX5_locker_128 : decode cX5_locker 128 = .ok (.if_icmp .ne 8, 3) := by decide +kernel
theorem dX5_locker_131 : decode cX5_locker 131 = .ok (.iload_n 3, 1) := by decide +kernel
theorem dX5_locker_132 : decode cX5_locker 132 = .ok (.ineg, 1) := by decide +kernel
theorem dX5_locker_133 : decode cX5_locker 133 = .ok (.goto 4, 3) := by decide +kernel
theorem dX5_locker_136 : decode cX5_locker 136 = .ok (.iload_n 3, 1) := by decide +kernel
theorem dX5_locker_137 : decode cX5_locker 137 = .ok (.ireturn, 1) := by decide +kernel
set_option maxRecDepth 20000 in
theorem ggX5_await_X5_isSession : GoodIn wsX5_await wsX5_isSession := goodIn_r _ [9, 10, 11, 8, 12] (by decide +kernel) (by decide +kernel)
set_option maxRecDepth 20000 in
theorem gX5_await_X5_isSession : GoodIn wsX5_await (va_wsS RX5 61 yX5_isSession wsX5_isSession) := goodIn_app (goodIn_of _ (by decide +kernel)) ggX5_await_X5_isSession
set_option maxRecDepth 20000 in
theorem ggX5_await_X5_in : GoodIn wsX5_await wsX5_in := goodIn_r _ [12] (by decide +kernel) (by decide +kernel)
set_option maxRecDepth 20000 in
theorem gX5_await_X5_in : GoodIn wsX5_await (va_wsS RX5 53 yX5_in wsX5_in) := goodIn_app (goodIn_of _ (by decide +kernel)) ggX5_await_X5_in
set_option maxRecDepth 20000 in
theorem ggX5_await_X5_leads : GoodIn wsX5_await wsX5_leads := goodIn_r _ [16, 17, 18, 19, 8, 20, 2, 3, 5, 4, 21, 22, 23, 24, 25, 26, 27, 28, 29, 30, 31, 32, 33, 34, 35, 36, 37, 38, 44, 45, 46, 47, 48, 49, 50, 51, 52, 53, 54, 55, 56, 57, 58, 59, 60] (by decide +kernel) (by decide +kernel)
set_option maxRecDepth 20000 in
theorem gX5_await_X5_leads : GoodIn wsX5_await (wsV RX5 86 RX5 yX5_leads wsX5_leads) := goodIn_app (goodIn_of _ (by decide +kernel)) ggX5_await_X5_leads
set_option maxRecDepth 20000 in
theorem ggX5_await_X5_begin : GoodIn wsX5_await wsX5_begin := goodIn_r _ [42, 2, 43, 24, 44, 45, 46, 47, 48, 49, 50, 51, 52, 53, 54, 55, 56, 57, 58, 59, 60] (by decide +kernel) (by decide +kernel)
set_option maxRecDepth 20000 in
theorem gX5_await_X5_begin : GoodIn wsX5_await (wsV RX5 89 RX5 yX5_begin wsX5_begin) := goodIn_app (goodIn_of _ (by decide +kernel)) ggX5_await_X5_begin
theorem dX5_await_0 : decode cX5_await 0 = .ok (.iload_n 1, 1) := by decide +kernel
theorem dX5_await_1 : decode cX5_await 1 = .ok (.invokestatic 61, 3) := by decide +kernel
theorem dX5_await_4 : decode cX5_await 4 = .ok (.ifCond .eq 24, 3) := by decide +kernel
theorem dX5_await_7 : decode cX5_await 7 = .ok (.iload_n 2, 1) := by decide +kernel
theorem dX5_await_8 : decode cX5_await 8 = .ok (.iconst 1, 1) := by decide +kernel
theorem dX5_await_9 : decode cX5_await 9 = .ok (.aload_n 0, 1) := by decide +kernel
theorem dX5_await_10 : decode cX5_await 10 = .ok (.getfield 57, 3) := by decide +kernel
theorem dX5_await_13 : decode cX5_await 13 = .ok (.invokestatic 53, 3) := by decide +kernel
theorem dX5_await_16 : decode cX5_await 16 = .ok (.ifCond .eq 12, 3) := by decide +kernel
theorem dX5_await_19 : decode cX5_await 19 = .ok (.aload_n 0, 1) := by decide +kernel
theorem dX5_await_20 : decode cX5_await 20 = .ok (.getfield 23, 3) := by decide +kernel
theorem dX5_await_23 : decode cX5_await 23 = .ok (.iload_n 1, 1) := by decide +kernel
theorem dX5_await_24 : decode cX5_await 24 = .ok (.iaload, 1) := by decide +kernel
theorem dX5_await_25 : decode cX5_await 25 = .ok (.ifCond .eq 5, 3) := by decide +kernel
theorem dX5_await_28 : decode cX5_await 28 = .ok (.iconst (-1), 1) := by decide +kernel
theorem dX5_await_29 : decode cX5_await 29 = .ok (.ireturn, 1) := by decide +kernel
theorem dX5_await_30 : decode cX5_await 30 = .ok (.aload_n 0, 1) := by decide +kernel
theorem dX5_await_31 : decode cX5_await 31 = .ok (.getfield 16, 3) := by decide +kernel
theorem dX5_await_34 : decode cX5_await 34 = .ok (.iload_n 2, 1) := by decide +kernel
theorem dX5_await_35 : decode cX5_await 35 = .ok (.baload, 1) := by decide +kernel
theorem dX5_await_36 : decode cX5_await 36 = .ok (.ifCond .ne 5, 3) := by decide +kernel
theorem dX5_await_39 : decode cX5_await 39 = .ok (.iconst 0, 1) := by decide +kernel
theorem dX5_await_40 : decode cX5_await 40 = .ok (.ireturn, 1) := by decide +kernel
theorem dX5_await_41 : decode cX5_await 41 = .ok (.aload_n 0, 1) := by decide +kernel
theorem dX5_await_42 : decode cX5_await 42 = .ok (.iconst 1, 1) := by decide +kernel
theorem dX5_await_43 : decode cX5_await 43 = .ok (.aload_n 0, 1) := by decide +kernel
theorem dX5_await_44 : decode cX5_await 44 = .ok (.getfield 13, 3) := by decide +kernel
theorem dX5_await_47 : decode cX5_await 47 = .ok (.iload_n 2, 1) := by decide +kernel
theorem dX5_await_48 : decode cX5_await 48 = .ok (.iaload, 1) := by decide +kernel
theorem dX5_await_49 : decode cX5_await 49 = .ok (.ishl, 1) := by decide +kernel
theorem dX5_await_50 : decode cX5_await 50 = .ok (.iload_n 1, 1) := by decide +kernel
theorem dX5_await_51 : decode cX5_await 51 = .ok (.invokevirtual 86, 3) := by decide +kernel
theorem dX5_await_54 : decode cX5_await 54 = .ok (.ifCond .eq 5, 3) := by decide +kernel
theorem dX5_await_57 : decode cX5_await 57 = .ok (.iconst 2, 1) := by decide +kernel
theorem dX5_await_58 : decode cX5_await 58 = .ok (.ireturn, 1) := by decide +kernel
theorem dX5_await_59 : decode cX5_await 59 = .ok (.aload_n 0, 1) := by decide +kernel
theorem dX5_await_60 : decode cX5_await 60 = .ok (.getfield 38, 3) := by decide +kernel
theorem dX5_await_63 : decode cX5_await 63 = .ok (.iload_n 1, 1) := by decide +kernel
theorem dX5_await_64 : decode cX5_await 64 = .ok (.iload_n 2, 1) := by decide +kernel
theorem dX5_await_65 : decode cX5_await 65 = .ok (.iastore, 1) := by decide +kernel
theorem dX5_await_66 : decode cX5_await 66 = .ok (.aload_n 0, 1) := by decide +kernel
theorem dX5_await_67 : decode cX5_await 67 = .ok (.iload_n 1, 1) := by decide +kernel
theorem dX5_await_68 : decode cX5_await 68 = .ok (.iconst 2, 1) := by decide +kernel
theorem dX5_await_69 : decode cX5_await 69 = .ok (.invokevirtual 89, 3) := by decide +kernel
theorem dX5_await_72 : decode cX5_await 72 = .ok (.iconst 1, 1) := by decide +kernel
theorem dX5_await_73 : decode cX5_await 73 = .ok (.ireturn, 1) := by decide +kernel
theorem dX5_waiting_0 : decode cX5_waiting 0 = .ok (.iconst 0, 1) := by decide +kernel
theorem dX5_waiting_1 : decode cX5_waiting 1 = .ok (.istore_n 2, 1) := by decide +kernel
theorem dX5_waiting_2 : decode cX5_waiting 2 = .ok (.iconst (-1), 1) := by decide +kernel
theorem dX5_waiting_3 : decode cX5_waiting 3 = .ok (.istore_n 3, 1) := by decide +kernel
theorem dX5_waiting_4 : decode cX5_waiting 4 = .ok (.iconst 0, 1) := by decide +kernel
theorem dX5_waiting_5 : decode cX5_waiting 5 = .ok (.istore 4, 2) := by decide +kernel
theorem dX5_waiting_7 : decode cX5_waiting 7 = .ok (.iload 4, 2) := by decide +kernel
theorem dX5_waiting_9 : decode cX5_waiting 9 = .ok (.iload_n 1, 1) := by decide +kernel
theorem dX5_waiting_10 : decode cX5_waiting 10 = .ok (.if_icmp .gt 99, 3) := by decide +kernel
theorem dX5_waiting_13 : decode cX5_waiting 13 = .ok (.iload 4, 2) := by decide +kernel
theorem dX5_waiting_15 : decode cX5_waiting 15 = .ok (.ifCond .eq 7, 3) := by decide +kernel
theorem dX5_waiting_18 : decode cX5_waiting 18 = .ok (.iload_n 3, 1) := by decide +kernel
theorem dX5_waiting_19 : decode cX5_waiting 19 = .ok (.ifCond .lt 90, 3) := by decide +kernel
theorem dX5_waiting_22 : decode cX5_waiting 22 = .ok (.iconst (-1), 1) := by decide +kernel
theorem dX5_waiting_23 : decode cX5_waiting 23 = .ok (.istore_n 3, 1) := by decide +kernel
theorem dX5_waiting_24 : decode cX5_waiting 24 = .ok (.iconst 0, 1) := by decide +kernel
theorem dX5_waiting_25 : decode cX5_waiting 25 = .ok (.istore 5, 2) := by decide +kernel
theorem dX5_waiting_27 : decode cX5_waiting 27 = .ok (.iload 5, 2) := by decide +kernel
theorem dX5_waiting_29 : decode cX5_waiting 29 = .ok (.bipush 6, 2) := by decide +kernel
theorem dX5_waiting_31 : decode cX5_waiting 31 = .ok (.if_icmp .ge 57, 3) := by decide +kernel
theorem dX5_waiting_34 : decode cX5_waiting 34 = .ok (.aload_n 0, 1) := by decide +kernel
theorem dX5_waiting_35 : decode cX5_waiting 35 = .ok (.getfield 23, 3) := by decide +kernel
theorem dX5_waiting_38 : decode cX5_waiting 38 = .ok (.iload 5, 2) := by decide +kernel
theorem dX5_waiting_40 : decode cX5_waiting 40 = .ok (.iaload, 1) := by decide +kernel
theorem dX5_waiting_41 : decode cX5_waiting 41 = .ok (.ifCond .eq 39, 3) := by decide +kernel
theorem dX5_waiting_44 : decode cX5_waiting 44 = .ok (.aload_n 0, 1) := by decide +kernel
theorem dX5_waiting_45 : decode cX5_waiting 45 = .ok (.getfield 41, 3) := by decide +kernel
theorem dX5_waiting_48 : decode cX5_waiting 48 = .ok (.iload 5, 2) := by decide +kernel
theorem dX5_waiting_50 : decode cX5_waiting 50 = .ok (.iaload, 1) := by decide +kernel
theorem dX5_waiting_51 : decode cX5_waiting 51 = .ok (.iload_n 2, 1) := by decide +kernel
theorem dX5_waiting_52 : decode cX5_waiting 52 = .ok (.if_icmp .le 28, 3) := by decide +kernel
theorem dX5_waiting_55 : decode cX5_waiting 55 = .ok (.iload_n 3, 1) := by decide +kernel
theorem dX5_waiting_56 : decode cX5_waiting 56 = .ok (.ifCond .lt 19, 3) := by decide +kernel
theorem dX5_waiting_59 : decode cX5_waiting 59 = .ok (.aload_n 0, 1) := by decide +kernel
theorem dX5_waiting_60 : decode cX5_waiting 60 = .ok (.getfield 41, 3) := by decide +kernel
theorem dX5_waiting_63 : decode cX5_waiting 63 = .ok (.iload 5, 2) := by decide +kernel
theorem dX5_waiting_65 : decode cX5_waiting 65 = .ok (.iaload, 1) := by decide +kernel
theorem dX5_waiting_66 : decode cX5_waiting 66 = .ok (.aload_n 0, 1) := by decide +kernel
theorem dX5_waiting_67 : decode cX5_waiting 67 = .ok (.getfield 41, 3) := by decide +kernel
theorem dX5_waiting_70 : decode cX5_waiting 70 = .ok (.iload_n 3, 1) := by decide +kernel
theorem dX5_waiting_71 : decode cX5_waiting 71 = .ok (.iaload, 1) := by decide +kernel
theorem dX5_waiting_72 : decode cX5_waiting 72 = .ok (.if_icmp .ge 8, 3) := by decide +kernel
theorem dX5_waiting_75 : decode cX5_waiting 75 = .ok (.iload 5, 2) := by decide +kernel
theorem dX5_waiting_77 : decode cX5_waiting 77 = .ok (.goto 4, 3) := by decide +kernel
theorem dX5_waiting_80 : decode cX5_waiting 80 = .ok (.iload_n 3, 1) := by decide +kernel
theorem dX5_waiting_81 : decode cX5_waiting 81 = .ok (.istore_n 3, 1) := by decide +kernel
theorem dX5_waiting_82 : decode cX5_waiting 82 = .ok (.iinc 5 1, 3) := by decide +kernel
theorem dX5_waiting_85 : decode cX5_waiting 85 = .ok (.goto (-58), 3) := by decide +kernel
theorem dX5_waiting_88 : decode cX5_waiting 88 = .ok (.iload_n 3, 1) := by decide +kernel
theorem dX5_waiting_89 : decode cX5_waiting 89 = .ok (.ifCond .ge 7, 3) := by decide +kernel
theorem dX5_waiting_92 : decode cX5_waiting 92 = .ok (.iload_n 2, 1) := by decide +kernel
theorem dX5_waiting_93 : decode cX5_waiting 93 = .ok (.goto 9, 3) := by decide +kernel
theorem dX5_waiting_96 : decode cX5_waiting 96 = .ok (.aload_n 0, 1) := by decide +kernel
theorem dX5_waiting_97 : decode cX5_waiting 97 = .ok (.getfield 41, 3) := by decide +kernel
theorem dX5_waiting_100 : decode cX5_waiting 100 = .ok (.iload_n 3, 1) := by decide +kernel
theorem dX5_waiting_101 : decode cX5_waiting 101 = .ok (.iaload, 1) := by decide +kernel
theorem dX5_waiting_102 : decode cX5_waiting 102 = .ok (.istore_n 2, 1) := by decide +kernel
theorem dX5_waiting_103 : decode cX5_waiting 103 = .ok (.iinc 4 1, 3) := by decide +kernel
theorem dX5_waiting_106 : decode cX5_waiting 106 = .ok (.goto (-99), 3) := by decide +kernel
theorem dX5_waiting_109 : decode cX5_waiting 109 = .ok (.iload_n 3, 1) := by decide +kernel
theorem dX5_waiting_110 : decode cX5_waiting 110 = .ok (.ireturn, 1) := by decide +kernel
set_option maxRecDepth 20000 in
theorem ggX5_next_X5_waiting : GoodIn wsX5_next wsX5_waiting := goodIn_r _ [11, 1, 12, 33, 34, 35, 36, 37, 38, 39, 40, 41, 42, 43, 44, 45, 46, 47, 48, 49] (by decide +kernel) (by decide +kernel)
set_option maxRecDepth 20000 in
theorem gX5_next_X5_waiting : GoodIn wsX5_next (wsV RX5 99 RX5 yX5_waiting wsX5_waiting) := goodIn_app (goodIn_of _ (by decide +kernel)) ggX5_next_X5_waiting
set_option maxRecDepth 20000 in
theorem ggX5_next_X5_waitsOn : GoodIn wsX5_next wsX5_waitsOn := goodIn_r _ [16, 1, 17, 18, 19, 2, 4, 5, 12, 20, 21, 22, 10, 23, 24, 25, 26, 27, 28, 29, 30, 31, 32, 3, 33, 34, 35, 36, 37, 38, 39, 40, 41, 42, 43, 44, 45, 46, 47, 48, 49] (by decide +kernel) (by decide +kernel)
set_option maxRecDepth 20000 in
theorem gX5_next_X5_waitsOn : GoodIn wsX5_next (wsV RX5 79 RX5 yX5_waitsOn wsX5_waitsOn) := goodIn_app (goodIn_of _ (by decide +kernel)) ggX5_next_X5_waitsOn
theorem dX5_next_0 : decode cX5_next 0 = .ok (.iconst 0, 1) := by decide +kernel
theorem dX5_next_1 : decode cX5_next 1 = .ok (.istore_n 1, 1) := by decide +kernel
theorem dX5_next_2 : decode cX5_next 2 = .ok (.iload_n 1, 1) := by decide +kernel
theorem dX5_next_3 : decode cX5_next 3 = .ok (.bipush 6, 2) := by decide +kernel
theorem dX5_next_5 : decode cX5_next 5 = .ok (.if_icmp .ge 120, 3) := by decide +kernel
theorem dX5_next_8 : decode cX5_next 8 = .ok (.aload_n 0, 1) := by decide +kernel
theorem dX5_next_9 : decode cX5_next 9 = .ok (.iload_n 1, 1) := by decide +kernel
theorem dX5_next_10 : decode cX5_next 10 = .ok (.invokevirtual 99, 3) := by decide +kernel
theorem dX5_next_13 : decode cX5_next 13 = .ok (.istore_n 2, 1) := by decide +kernel
theorem dX5_next_14 : decode cX5_next 14 = .ok (.iload_n 2, 1) := by decide +kernel
theorem dX5_next_15 : decode cX5_next 15 = .ok (.ifCond .lt 104, 3) := by decide +kernel
theorem dX5_next_18 : decode cX5_next 18 = .ok (.aload_n 0, 1) := by decide +kernel
theorem dX5_next_19 : decode cX5_next 19 = .ok (.iload_n 2, 1) := by decide +kernel
theorem dX5_next_20 : decode cX5_next 20 = .ok (.invokevirtual 79, 3) := by decide +kernel
theorem dX5_next_23 : decode cX5_next 23 = .ok (.ifCond .ne 96, 3) := by decide +kernel
theorem dX5_next_26 : decode cX5_next 26 = .ok (.aload_n 0, 1) := by decide +kernel
theorem dX5_next_27 : decode cX5_next 27 = .ok (.getfield 23, 3) := by decide +kernel
theorem dX5_next_30 : decode cX5_next 30 = .ok (.iload_n 2, 1) := by decide +kernel
theorem dX5_next_31 : decode cX5_next 31 = .ok (.iaload, 1) := by decide +kernel
theorem dX5_next_32 : decode cX5_next 32 = .ok (.iconst 1, 1) := by decide +kernel
theorem dX5_next_33 : decode cX5_next 33 = .ok (.if_icmp .ne 16, 3) := by decide +kernel
theorem dX5_next_36 : decode cX5_next 36 = .ok (.aload_n 0, 1) := by decide +kernel
theorem dX5_next_37 : decode cX5_next 37 = .ok (.getfield 35, 3) := by decide +kernel
theorem dX5_next_40 : decode cX5_next 40 = .ok (.iload_n 2, 1) := by decide +kernel
theorem dX5_next_41 : decode cX5_next 41 = .ok (.baload, 1) := by decide +kernel
theorem dX5_next_42 : decode cX5_next 42 = .ok (.ifCond .eq 7, 3) := by decide +kernel
theorem dX5_next_45 : decode cX5_next 45 = .ok (.iconst 1, 1) := by decide +kernel
theorem dX5_next_46 : decode cX5_next 46 = .ok (.goto 4, 3) := by decide +kernel
theorem dX5_next_49 : decode cX5_next 49 = .ok (.iconst 0, 1) := by decide +kernel
theorem dX5_next_50 : decode cX5_next 50 = .ok (.istore_n 3, 1) := by decide +kernel
theorem dX5_next_51 : decode cX5_next 51 = .ok (.aload_n 0, 1) := by decide +kernel
theorem dX5_next_52 : decode cX5_next 52 = .ok (.getfield 23, 3) := by decide +kernel
theorem dX5_next_55 : decode cX5_next 55 = .ok (.iload_n 2, 1) := by decide +kernel
theorem dX5_next_56 : decode cX5_next 56 = .ok (.iaload, 1) := by decide +kernel
theorem dX5_next_57 : decode cX5_next 57 = .ok (.iconst 1, 1) := by decide +kernel
theorem dX5_next_58 : decode cX5_next 58 = .ok (.if_icmp .ne 41, 3) := by decide +kernel
theorem dX5_next_61 : decode cX5_next 61 = .ok (.iload_n 3, 1) := by decide +kernel
theorem dX5_next_62 : decode cX5_next 62 = .ok (.ifCond .ne 37, 3) := by decide +kernel
theorem dX5_next_65 : decode cX5_next 65 = .ok (.aload_n 0, 1) := by decide +kernel
theorem dX5_next_66 : decode cX5_next 66 = .ok (.getfield 20, 3) := by decide +kernel
theorem dX5_next_69 : decode cX5_next 69 = .ok (.bipush 72, 2) := by decide +kernel
theorem dX5_next_71 : decode cX5_next 71 = .ok (.iload_n 2, 1) := by decide +kernel
theorem dX5_next_72 : decode cX5_next 72 = .ok (.imul, 1) := by decide +kernel
theorem dX5_next_73 : decode cX5_next 73 = .ok (.bipush 9, 2) := by decide +kernel
theorem dX5_next_75 : decode cX5_next 75 = .ok (.aload_n 0, 1) := by decide +kernel
theorem dX5_next_76 : decode cX5_next 76 = .ok (.getfield 26, 3) := by decide +kernel
theorem dX5_next_79 : decode cX5_next 79 = .ok (.iload_n 2, 1) := by decide +kernel
theorem dX5_next_80 : decode cX5_next 80 = .ok (.iaload, 1) := by decide +kernel
theorem dX5_next_81 : decode cX5_next 81 = .ok (.imul, 1) := by decide +kernel
theorem dX5_next_82 : decode cX5_next 82 = .ok (.iadd, 1) := by decide +kernel
theorem dX5_next_83 : decode cX5_next 83 = .ok (.aload_n 0, 1) := by decide +kernel
theorem dX5_next_84 : decode cX5_next 84 = .ok (.getfield 29, 3) := by decide +kernel
theorem dX5_next_87 : decode cX5_next 87 = .ok (.iload_n 2, 1) := by decide +kernel
theorem dX5_next_88 : decode cX5_next 88 = .ok (.iaload, 1) := by decide +kernel
theorem dX5_next_89 : decode cX5_next 89 = .ok (.iadd, 1) := by decide +kernel
theorem dX5_next_90 : decode cX5_next 90 = .ok (.aload_n 0, 1) := by decide +kernel
theorem dX5_next_91 : decode cX5_next 91 = .ok (.getfield 32, 3) := by decide +kernel
theorem dX5_next_94 : decode cX5_next 94 = .ok (.iload_n 2, 1) := by decide +kernel
theorem dX5_next_95 : decode cX5_next 95 = .ok (.iaload, 1) := by decide +kernel
theorem dX5_next_96 : decode cX5_next 96 = .ok (.iconst 1, 1) := by decide +kernel
theorem dX5_next_97 : decode cX5_next 97 = .ok (.iadd, 1) := by decide +kernel
theorem dX5_next_98 : decode cX5_next 98 = .ok (.iastore, 1) := by decide +kernel
theorem dX5_next_99 : decode cX5_next 99 = .ok (.aload_n 0, 1) := by decide +kernel
theorem dX5_next_100 : decode cX5_next 100 = .ok (.getfield 23, 3) := by decide +kernel
theorem dX5_next_103 : decode cX5_next 103 = .ok (.iload_n 2, 1) := by decide +kernel
theorem dX5_next_104 : decode cX5_next 104 = .ok (.iconst 0, 1) := by decide +kernel
theorem dX5_next_105 : decode cX5_next 105 = .ok (.iastore, 1) := by decide +kernel
theorem dX5_next_106 : decode cX5_next 106 = .ok (.iload_n 3, 1) := by decide +kernel
theorem dX5_next_107 : decode cX5_next 107 = .ok (.ifCond .eq 10, 3) := by decide +kernel
theorem dX5_next_110 : decode cX5_next 110 = .ok (.iload_n 2, 1) := by decide +kernel
theorem dX5_next_111 : decode cX5_next 111 = .ok (.bipush 8, 2) := by decide +kernel
theorem dX5_next_113 : decode cX5_next 113 = .ok (.iadd, 1) := by decide +kernel
theorem dX5_next_114 : decode cX5_next 114 = .ok (.goto 4, 3) := by decide +kernel
theorem dX5_next_117 : decode cX5_next 117 = .ok (.iload_n 2, 1) := by decide +kernel
theorem dX5_next_118 : decode cX5_next 118 = .ok (.ireturn, 1) := by decide +kernel
theorem dX5_next_119 : decode cX5_next 119 = .ok (.iinc 1 1, 3) := by decide +kernel
theorem dX5_next_122 : decode cX5_next 122 = .ok (.goto (-120), 3) := by decide +kernel
theorem dX5_next_125 : decode cX5_next 125 = .ok (.iconst (-1), 1) := by decide +kernel
theorem dX5_next_126 : decode cX5_next 126 = .ok (.ireturn, 1) := by decide +kernel
set_option maxRecDepth 20000 in
theorem ggX5_cancel_X5_isSession : GoodIn wsX5_cancel wsX5_isSession := goodIn_r _ [5, 6, 7, 4, 8] (by decide +kernel) (by decide +kernel)
set_option maxRecDepth 20000 in
theorem gX5_cancel_X5_isSession : GoodIn wsX5_cancel (va_wsS RX5 61 yX5_isSession wsX5_isSession) := goodIn_app (goodIn_of _ (by decide +kernel)) ggX5_cancel_X5_isSession
theorem dX5_cancel_0 : decode cX5_cancel 0 = .ok (.iload_n 1, 1) := by decide +kernel
theorem dX5_cancel_1 : decode cX5_cancel 1 = .ok (.invokestatic 61, 3) := by decide +kernel
theorem dX5_cancel_4 : decode cX5_cancel 4 = .ok (.ifCond .eq 16, 3) := by decide +kernel
theorem dX5_cancel_7 : decode cX5_cancel 7 = .ok (.aload_n 0, 1) := by decide +kernel
theorem dX5_cancel_8 : decode cX5_cancel 8 = .ok (.getfield 23, 3) := by decide +kernel
theorem dX5_cancel_11 : decode cX5_cancel 11 = .ok (.iload_n 1, 1) := by decide +kernel
theorem dX5_cancel_12 : decode cX5_cancel 12 = .ok (.iaload, 1) := by decide +kernel
theorem dX5_cancel_13 : decode cX5_cancel 13 = .ok (.ifCond .eq 7, 3) := by decide +kernel
theorem dX5_cancel_16 : decode cX5_cancel 16 = .ok (.iconst 1, 1) := by decide +kernel
theorem dX5_cancel_17 : decode cX5_cancel 17 = .ok (.goto 4, 3) := by decide +kernel
theorem dX5_cancel_20 : decode cX5_cancel 20 = .ok (.iconst 0, 1) := by decide +kernel
theorem dX5_cancel_21 : decode cX5_cancel 21 = .ok (.istore_n 2, 1) := by decide +kernel
theorem dX5_cancel_22 : decode cX5_cancel 22 = .ok (.iload_n 2, 1) := by decide +kernel
theorem dX5_cancel_23 : decode cX5_cancel 23 = .ok (.ifCond .eq 10, 3) := by decide +kernel
theorem dX5_cancel_26 : decode cX5_cancel 26 = .ok (.aload_n 0, 1) := by decide +kernel
theorem dX5_cancel_27 : decode cX5_cancel 27 = .ok (.getfield 23, 3) := by decide +kernel
theorem dX5_cancel_30 : decode cX5_cancel 30 = .ok (.iload_n 1, 1) := by decide +kernel
theorem dX5_cancel_31 : decode cX5_cancel 31 = .ok (.iconst 0, 1) := by decide +kernel
theorem dX5_cancel_32 : decode cX5_cancel 32 = .ok (.iastore, 1) := by decide +kernel
theorem dX5_cancel_33 : decode cX5_cancel 33 = .ok (.iload_n 2, 1) := by decide +kernel
theorem dX5_cancel_34 : decode cX5_cancel 34 = .ok (.ireturn, 1) := by decide +kernel
set_option maxRecDepth 20000 in
theorem ggX5_end_X5_isSession : GoodIn wsX5_end wsX5_isSession := goodIn_r _ [5, 6, 7, 4, 8] (by decide +kernel) (by decide +kernel)
set_option maxRecDepth 20000 in
theorem gX5_end_X5_isSession : GoodIn wsX5_end (va_wsS RX5 61 yX5_isSession wsX5_isSession) := goodIn_app (goodIn_of _ (by decide +kernel)) ggX5_end_X5_isSession
set_option maxRecDepth 20000 in
theorem ggX5_end_X5_in : GoodIn wsX5_end wsX5_in := goodIn_r _ [8] (by decide +kernel) (by decide +kernel)
set_option maxRecDepth 20000 in
theorem gX5_end_X5_in : GoodIn wsX5_end (va_wsS RX5 53 yX5_in wsX5_in) := goodIn_app (goodIn_of _ (by decide +kernel)) ggX5_end_X5_in
theorem dX5_end_0 : decode cX5_end 0 = .ok (.iload_n 1, 1) := by decide +kernel
theorem dX5_end_1 : decode cX5_end 1 = .ok (.invokestatic 61, 3) := by decide +kernel
theorem dX5_end_4 : decode cX5_end 4 = .ok (.ifCond .eq 13, 3) := by decide +kernel
theorem dX5_end_7 : decode cX5_end 7 = .ok (.iload_n 2, 1) := by decide +kernel
theorem dX5_end_8 : decode cX5_end 8 = .ok (.iconst 0, 1) := by decide +kernel
theorem dX5_end_9 : decode cX5_end 9 = .ok (.bipush 7, 2) := by decide +kernel
theorem dX5_end_11 : decode cX5_end 11 = .ok (.invokestatic 53, 3) := by decide +kernel
theorem dX5_end_14 : decode cX5_end 14 = .ok (.ifCond .ne 5, 3) := by decide +kernel
theorem dX5_end_17 : decode cX5_end 17 = .ok (.iconst 0, 1) := by decide +kernel
theorem dX5_end_18 : decode cX5_end 18 = .ok (.ireturn, 1) := by decide +kernel
theorem dX5_end_19 : decode cX5_end 19 = .ok (.bipush 72, 2) := by decide +kernel
theorem dX5_end_21 : decode cX5_end 21 = .ok (.iload_n 1, 1) := by decide +kernel
theorem dX5_end_22 : decode cX5_end 22 = .ok (.imul, 1) := by decide +kernel
theorem dX5_end_23 : decode cX5_end 23 = .ok (.istore_n 3, 1) := by decide +kernel
theorem dX5_end_24 : decode cX5_end 24 = .ok (.iload_n 3, 1) := by decide +kernel
theorem dX5_end_25 : decode cX5_end 25 = .ok (.bipush 72, 2) := by decide +kernel
theorem dX5_end_27 : decode cX5_end 27 = .ok (.iload_n 1, 1) := by decide +kernel
theorem dX5_end_28 : decode cX5_end 28 = .ok (.imul, 1) := by decide +kernel
theorem dX5_end_29 : decode cX5_end 29 = .ok (.bipush 72, 2) := by decide +kernel
theorem dX5_end_31 : decode cX5_end 31 = .ok (.iadd, 1) := by decide +kernel
theorem dX5_end_32 : decode cX5_end 32 = .ok (.if_icmp .ge 35, 3) := by decide +kernel
theorem dX5_end_35 : decode cX5_end 35 = .ok (.aload_n 0, 1) := by decide +kernel
