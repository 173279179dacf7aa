theorem dX5_holdsAgainst_30 : decode cX5_holdsAgainst 30 = .ok (.iadd, 1) := by decide +kernel
theorem dX5_holdsAgainst_31 : decode cX5_holdsAgainst 31 = .ok (.iload 5, 2) := by decide +kernel
theorem dX5_holdsAgainst_33 : decode cX5_holdsAgainst 33 = .ok (.iadd, 1) := by decide +kernel
theorem dX5_holdsAgainst_34 : decode cX5_holdsAgainst 34 = .ok (.iaload, 1) := by decide +kernel
theorem dX5_holdsAgainst_35 : decode cX5_holdsAgainst 35 = .ok (.ifCond .le 17, 3) := by decide +kernel
theorem dX5_holdsAgainst_38 : decode cX5_holdsAgainst 38 = .ok (.aload_n 0, 1) := by decide +kernel
theorem dX5_holdsAgainst_39 : decode cX5_holdsAgainst 39 = .ok (.iload_n 3, 1) := by decide +kernel
theorem dX5_holdsAgainst_40 : decode cX5_holdsAgainst 40 = .ok (.iload 5, 2) := by decide +kernel
theorem dX5_holdsAgainst_42 : decode cX5_holdsAgainst 42 = .ok (.invokevirtual 68, 3) := by decide +kernel
theorem dX5_holdsAgainst_45 : decode cX5_holdsAgainst 45 = .ok (.ifCond .eq 7, 3) := by decide +kernel
theorem dX5_holdsAgainst_48 : decode cX5_holdsAgainst 48 = .ok (.iconst 1, 1) := by decide +kernel
theorem dX5_holdsAgainst_49 : decode cX5_holdsAgainst 49 = .ok (.goto 4, 3) := by decide +kernel
theorem dX5_holdsAgainst_52 : decode cX5_holdsAgainst 52 = .ok (.iconst 0, 1) := by decide +kernel
theorem dX5_holdsAgainst_53 : decode cX5_holdsAgainst 53 = .ok (.istore 4, 2) := by decide +kernel
theorem dX5_holdsAgainst_55 : decode cX5_holdsAgainst 55 = .ok (.iinc 5 1, 3) := by decide +kernel
theorem dX5_holdsAgainst_58 : decode cX5_holdsAgainst 58 = .ok (.goto (-52), 3) := by decide +kernel
theorem dX5_holdsAgainst_61 : decode cX5_holdsAgainst 61 = .ok (.iload 4, 2) := by decide +kernel
theorem dX5_holdsAgainst_63 : decode cX5_holdsAgainst 63 = .ok (.ireturn, 1) := by decide +kernel
set_option maxRecDepth 20000 in
theorem ggX5_inTheWay_X5_conflicts : GoodIn wsX5_inTheWay wsX5_conflicts := goodIn_r _ [10, 11, 17, 18, 19, 20, 21, 22, 23, 24, 25, 26, 27, 28, 29, 30, 31, 32, 33] (by decide +kernel) (by decide +kernel)
set_option maxRecDepth 20000 in
theorem gX5_inTheWay_X5_conflicts : GoodIn wsX5_inTheWay (wsV RX5 68 RX5 yX5_conflicts wsX5_conflicts) := goodIn_app (goodIn_of _ (by decide +kernel)) ggX5_inTheWay_X5_conflicts
set_option maxRecDepth 20000 in
theorem ggX5_inTheWay_X5_holdsAgainst : GoodIn wsX5_inTheWay wsX5_holdsAgainst := goodIn_r _ [15, 16, 6, 7, 8, 9, 10, 11, 17, 18, 19, 20, 21, 22, 23, 24, 25, 26, 27, 28, 29, 30, 31, 32, 33] (by decide +kernel) (by decide +kernel)
set_option maxRecDepth 20000 in
theorem gX5_inTheWay_X5_holdsAgainst : GoodIn wsX5_inTheWay (wsV RX5 72 RX5 yX5_holdsAgainst wsX5_holdsAgainst) := goodIn_app (goodIn_of _ (by decide +kernel)) ggX5_inTheWay_X5_holdsAgainst
theorem dX5_inTheWay_0 : decode cX5_inTheWay 0 = .ok (.iconst 0, 1) := by decide +kernel
theorem dX5_inTheWay_1 : decode cX5_inTheWay 1 = .ok (.istore 5, 2) := by decide +kernel
theorem dX5_inTheWay_3 : decode cX5_inTheWay 3 = .ok (.iconst 0, 1) := by decide +kernel
theorem dX5_inTheWay_4 : decode cX5_inTheWay 4 = .ok (.istore 6, 2) := by decide +kernel
theorem dX5_inTheWay_6 : decode cX5_inTheWay 6 = .ok (.iload 6, 2) := by decide +kernel
theorem dX5_inTheWay_8 : decode cX5_inTheWay 8 = .ok (.bipush 6, 2) := by decide +kernel
theorem dX5_inTheWay_10 : decode cX5_inTheWay 10 = .ok (.if_icmp .ge 110, 3) := by decide +kernel
theorem dX5_inTheWay_13 : decode cX5_inTheWay 13 = .ok (.aload_n 0, 1) := by decide +kernel
theorem dX5_inTheWay_14 : decode cX5_inTheWay 14 = .ok (.getfield 23, 3) := by decide +kernel
theorem dX5_inTheWay_17 : decode cX5_inTheWay 17 = .ok (.iload 6, 2) := by decide +kernel
theorem dX5_inTheWay_19 : decode cX5_inTheWay 19 = .ok (.iaload, 1) := by decide +kernel
theorem dX5_inTheWay_20 : decode cX5_inTheWay 20 = .ok (.iconst 1, 1) := by decide +kernel
theorem dX5_inTheWay_21 : decode cX5_inTheWay 21 = .ok (.if_icmp .ne 55, 3) := by decide +kernel
theorem dX5_inTheWay_24 : decode cX5_inTheWay 24 = .ok (.aload_n 0, 1) := by decide +kernel
theorem dX5_inTheWay_25 : decode cX5_inTheWay 25 = .ok (.getfield 35, 3) := by decide +kernel
theorem dX5_inTheWay_28 : decode cX5_inTheWay 28 = .ok (.iload 6, 2) := by decide +kernel
theorem dX5_inTheWay_30 : decode cX5_inTheWay 30 = .ok (.baload, 1) := by decide +kernel
theorem dX5_inTheWay_31 : decode cX5_inTheWay 31 = .ok (.ifCond .ne 45, 3) := by decide +kernel
theorem dX5_inTheWay_34 : decode cX5_inTheWay 34 = .ok (.aload_n 0, 1) := by decide +kernel
theorem dX5_inTheWay_35 : decode cX5_inTheWay 35 = .ok (.getfield 26, 3) := by decide +kernel
theorem dX5_inTheWay_38 : decode cX5_inTheWay 38 = .ok (.iload 6, 2) := by decide +kernel
theorem dX5_inTheWay_40 : decode cX5_inTheWay 40 = .ok (.iaload, 1) := by decide +kernel
theorem dX5_inTheWay_41 : decode cX5_inTheWay 41 = .ok (.iload_n 2, 1) := by decide +kernel
theorem dX5_inTheWay_42 : decode cX5_inTheWay 42 = .ok (.if_icmp .ne 34, 3) := by decide +kernel
theorem dX5_inTheWay_45 : decode cX5_inTheWay 45 = .ok (.aload_n 0, 1) := by decide +kernel
theorem dX5_inTheWay_46 : decode cX5_inTheWay 46 = .ok (.iload_n 3, 1) := by decide +kernel
theorem dX5_inTheWay_47 : decode cX5_inTheWay 47 = .ok (.aload_n 0, 1) := by decide +kernel
theorem dX5_inTheWay_48 : decode cX5_inTheWay 48 = .ok (.getfield 29, 3) := by decide +kernel
theorem dX5_inTheWay_51 : decode cX5_inTheWay 51 = .ok (.iload 6, 2) := by decide +kernel
theorem dX5_inTheWay_53 : decode cX5_inTheWay 53 = .ok (.iaload, 1) := by decide +kernel
theorem dX5_inTheWay_54 : decode cX5_inTheWay 54 = .ok (.invokevirtual 68, 3) := by decide +kernel
theorem dX5_inTheWay_57 : decode cX5_inTheWay 57 = .ok (.ifCond .eq 19, 3) := by decide +kernel
theorem dX5_inTheWay_60 : decode cX5_inTheWay 60 = .ok (.aload_n 0, 1) := by decide +kernel
theorem dX5_inTheWay_61 : decode cX5_inTheWay 61 = .ok (.getfield 41, 3) := by decide +kernel
theorem dX5_inTheWay_64 : decode cX5_inTheWay 64 = .ok (.iload 6, 2) := by decide +kernel
theorem dX5_inTheWay_66 : decode cX5_inTheWay 66 = .ok (.iaload, 1) := by decide +kernel
theorem dX5_inTheWay_67 : decode cX5_inTheWay 67 = .ok (.iload 4, 2) := by decide +kernel
theorem dX5_inTheWay_69 : decode cX5_inTheWay 69 = .ok (.if_icmp .ge 7, 3) := by decide +kernel
theorem dX5_inTheWay_72 : decode cX5_inTheWay 72 = .ok (.iconst 1, 1) := by decide +kernel
theorem dX5_inTheWay_73 : decode cX5_inTheWay 73 = .ok (.goto 4, 3) := by decide +kernel
theorem dX5_inTheWay_76 : decode cX5_inTheWay 76 = .ok (.iconst 0, 1) := by decide +kernel
theorem dX5_inTheWay_77 : decode cX5_inTheWay 77 = .ok (.istore 7, 2) := by decide +kernel
theorem dX5_inTheWay_79 : decode cX5_inTheWay 79 = .ok (.iload 5, 2) := by decide +kernel
theorem dX5_inTheWay_81 : decode cX5_inTheWay 81 = .ok (.iload 6, 2) := by decide +kernel
theorem dX5_inTheWay_83 : decode cX5_inTheWay 83 = .ok (.iload_n 1, 1) := by decide +kernel
theorem dX5_inTheWay_84 : decode cX5_inTheWay 84 = .ok (.if_icmp .eq 26, 3) := by decide +kernel
theorem dX5_inTheWay_87 : decode cX5_inTheWay 87 = .ok (.iload 7, 2) := by decide +kernel
theorem dX5_inTheWay_89 : decode cX5_inTheWay 89 = .ok (.ifCond .ne 14, 3) := by decide +kernel
theorem dX5_inTheWay_92 : decode cX5_inTheWay 92 = .ok (.aload_n 0, 1) := by decide +kernel
theorem dX5_inTheWay_93 : decode cX5_inTheWay 93 = .ok (.iload 6, 2) := by decide +kernel
theorem dX5_inTheWay_95 : decode cX5_inTheWay 95 = .ok (.iload_n 2, 1) := by decide +kernel
theorem dX5_inTheWay_96 : decode cX5_inTheWay 96 = .ok (.iload_n 3, 1) := by decide +kernel
theorem dX5_inTheWay_97 : decode cX5_inTheWay 97 = .ok (.invokevirtual 72, 3) := by decide +kernel
theorem dX5_inTheWay_100 : decode cX5_inTheWay 100 = .ok (.ifCond .eq 10, 3) := by decide +kernel
theorem dX5_inTheWay_103 : decode cX5_inTheWay 103 = .ok (.iconst 1, 1) := by decide +kernel
theorem dX5_inTheWay_104 : decode cX5_inTheWay 104 = .ok (.iload 6, 2) := by decide +kernel
theorem dX5_inTheWay_106 : decode cX5_inTheWay 106 = .ok (.ishl, 1) := by decide +kernel
theorem dX5_inTheWay_107 : decode cX5_inTheWay 107 = .ok (.goto 4, 3) := by decide +kernel
theorem dX5_inTheWay_110 : decode cX5_inTheWay 110 = .ok (.iconst 0, 1) := by decide +kernel
theorem dX5_inTheWay_111 : decode cX5_inTheWay 111 = .ok (.ior, 1) := by decide +kernel
theorem dX5_inTheWay_112 : decode cX5_inTheWay 112 = .ok (.istore 5, 2) := by decide +kernel
theorem dX5_inTheWay_114 : decode cX5_inTheWay 114 = .ok (.iinc 6 1, 3) := by decide +kernel
theorem dX5_inTheWay_117 : decode cX5_inTheWay 117 = .ok (.goto (-111), 3) := by decide +kernel
theorem dX5_inTheWay_120 : decode cX5_inTheWay 120 = .ok (.iload 5, 2) := by decide +kernel
theorem dX5_inTheWay_122 : decode cX5_inTheWay 122 = .ok (.ireturn, 1) := by decide +kernel
set_option maxRecDepth 20000 in
theorem ggX5_waitsOn_X5_inTheWay : GoodIn wsX5_waitsOn wsX5_inTheWay := goodIn_r _ [13, 1, 5, 6, 7, 8, 14, 15, 16, 12, 17, 18, 19, 20, 21, 22, 23, 24, 25, 26, 27, 28, 29, 30, 31, 32, 33, 34, 35, 36, 37, 38, 39, 40] (by decide +kernel) (by decide +kernel)
set_option maxRecDepth 20000 in
theorem gX5_waitsOn_X5_inTheWay : GoodIn wsX5_waitsOn (wsV RX5 75 RX5 yX5_inTheWay wsX5_inTheWay) := goodIn_app (goodIn_of _ (by decide +kernel)) ggX5_waitsOn_X5_inTheWay
theorem dX5_waitsOn_0 : decode cX5_waitsOn 0 = .ok (.aload_n 0, 1) := by decide +kernel
theorem dX5_waitsOn_1 : decode cX5_waitsOn 1 = .ok (.getfield 23, 3) := by decide +kernel
theorem dX5_waitsOn_4 : decode cX5_waitsOn 4 = .ok (.iload_n 1, 1) := by decide +kernel
theorem dX5_waitsOn_5 : decode cX5_waitsOn 5 = .ok (.iaload, 1) := by decide +kernel
theorem dX5_waitsOn_6 : decode cX5_waitsOn 6 = .ok (.iconst 2, 1) := by decide +kernel
theorem dX5_waitsOn_7 : decode cX5_waitsOn 7 = .ok (.if_icmp .ne 35, 3) := by decide +kernel
theorem dX5_waitsOn_10 : decode cX5_waitsOn 10 = .ok (.aload_n 0, 1) := by decide +kernel
theorem dX5_waitsOn_11 : decode cX5_waitsOn 11 = .ok (.getfield 16, 3) := by decide +kernel
theorem dX5_waitsOn_14 : decode cX5_waitsOn 14 = .ok (.aload_n 0, 1) := by decide +kernel
theorem dX5_waitsOn_15 : decode cX5_waitsOn 15 = .ok (.getfield 38, 3) := by decide +kernel
theorem dX5_waitsOn_18 : decode cX5_waitsOn 18 = .ok (.iload_n 1, 1) := by decide +kernel
theorem dX5_waitsOn_19 : decode cX5_waitsOn 19 = .ok (.iaload, 1) := by decide +kernel
theorem dX5_waitsOn_20 : decode cX5_waitsOn 20 = .ok (.baload, 1) := by decide +kernel
theorem dX5_waitsOn_21 : decode cX5_waitsOn 21 = .ok (.ifCond .eq 19, 3) := by decide +kernel
theorem dX5_waitsOn_24 : decode cX5_waitsOn 24 = .ok (.iconst 1, 1) := by decide +kernel
theorem dX5_waitsOn_25 : decode cX5_waitsOn 25 = .ok (.aload_n 0, 1) := by decide +kernel
theorem dX5_waitsOn_26 : decode cX5_waitsOn 26 = .ok (.getfield 13, 3) := by decide +kernel
theorem dX5_waitsOn_29 : decode cX5_waitsOn 29 = .ok (.aload_n 0, 1) := by decide +kernel
theorem dX5_waitsOn_30 : decode cX5_waitsOn 30 = .ok (.getfield 38, 3) := by decide +kernel
theorem dX5_waitsOn_33 : decode cX5_waitsOn 33 = .ok (.iload_n 1, 1) := by decide +kernel
theorem dX5_waitsOn_34 : decode cX5_waitsOn 34 = .ok (.iaload, 1) := by decide +kernel
theorem dX5_waitsOn_35 : decode cX5_waitsOn 35 = .ok (.iaload, 1) := by decide +kernel
theorem dX5_waitsOn_36 : decode cX5_waitsOn 36 = .ok (.ishl, 1) := by decide +kernel
theorem dX5_waitsOn_37 : decode cX5_waitsOn 37 = .ok (.goto 4, 3) := by decide +kernel
theorem dX5_waitsOn_40 : decode cX5_waitsOn 40 = .ok (.iconst 0, 1) := by decide +kernel
theorem dX5_waitsOn_41 : decode cX5_waitsOn 41 = .ok (.ireturn, 1) := by decide +kernel
theorem dX5_waitsOn_42 : decode cX5_waitsOn 42 = .ok (.aload_n 0, 1) := by decide +kernel
theorem dX5_waitsOn_43 : decode cX5_waitsOn 43 = .ok (.getfield 23, 3) := by decide +kernel
theorem dX5_waitsOn_46 : decode cX5_waitsOn 46 = .ok (.iload_n 1, 1) := by decide +kernel
theorem dX5_waitsOn_47 : decode cX5_waitsOn 47 = .ok (.iaload, 1) := by decide +kernel
theorem dX5_waitsOn_48 : decode cX5_waitsOn 48 = .ok (.iconst 1, 1) := by decide +kernel
theorem dX5_waitsOn_49 : decode cX5_waitsOn 49 = .ok (.if_icmp .ne 38, 3) := by decide +kernel
theorem dX5_waitsOn_52 : decode cX5_waitsOn 52 = .ok (.aload_n 0, 1) := by decide +kernel
theorem dX5_waitsOn_53 : decode cX5_waitsOn 53 = .ok (.getfield 35, 3) := by decide +kernel
theorem dX5_waitsOn_56 : decode cX5_waitsOn 56 = .ok (.iload_n 1, 1) := by decide +kernel
theorem dX5_waitsOn_57 : decode cX5_waitsOn 57 = .ok (.baload, 1) := by decide +kernel
theorem dX5_waitsOn_58 : decode cX5_waitsOn 58 = .ok (.ifCond .ne 29, 3) := by decide +kernel
theorem dX5_waitsOn_61 : decode cX5_waitsOn 61 = .ok (.aload_n 0, 1) := by decide +kernel
theorem dX5_waitsOn_62 : decode cX5_waitsOn 62 = .ok (.iload_n 1, 1) := by decide +kernel
theorem dX5_waitsOn_63 : decode cX5_waitsOn 63 = .ok (.aload_n 0, 1) := by decide +kernel
theorem dX5_waitsOn_64 : decode cX5_waitsOn 64 = .ok (.getfield 26, 3) := by decide +kernel
theorem dX5_waitsOn_67 : decode cX5_waitsOn 67 = .ok (.iload_n 1, 1) := by decide +kernel
theorem dX5_waitsOn_68 : decode cX5_waitsOn 68 = .ok (.iaload, 1) := by decide +kernel
theorem dX5_waitsOn_69 : decode cX5_waitsOn 69 = .ok (.aload_n 0, 1) := by decide +kernel
theorem dX5_waitsOn_70 : decode cX5_waitsOn 70 = .ok (.getfield 29, 3) := by decide +kernel
theorem dX5_waitsOn_73 : decode cX5_waitsOn 73 = .ok (.iload_n 1, 1) := by decide +kernel
theorem dX5_waitsOn_74 : decode cX5_waitsOn 74 = .ok (.iaload, 1) := by decide +kernel
theorem dX5_waitsOn_75 : decode cX5_waitsOn 75 = .ok (.aload_n 0, 1) := by decide +kernel
theorem dX5_waitsOn_76 : decode cX5_waitsOn 76 = .ok (.getfield 41, 3) := by decide +kernel
theorem dX5_waitsOn_79 : decode cX5_waitsOn 79 = .ok (.iload_n 1, 1) := by decide +kernel
theorem dX5_waitsOn_80 : decode cX5_waitsOn 80 = .ok (.iaload, 1) := by decide +kernel
theorem dX5_waitsOn_81 : decode cX5_waitsOn 81 = .ok (.invokevirtual 75, 3) := by decide +kernel
theorem dX5_waitsOn_84 : decode cX5_waitsOn 84 = .ok (.goto 4, 3) := by decide +kernel
theorem dX5_waitsOn_87 : decode cX5_waitsOn 87 = .ok (.iconst 0, 1) := by decide +kernel
theorem dX5_waitsOn_88 : decode cX5_waitsOn 88 = .ok (.ireturn, 1) := by decide +kernel
set_option maxRecDepth 20000 in
theorem ggX5_leads_X5_waitsOn : GoodIn wsX5_leads wsX5_waitsOn := goodIn_r _ [5, 6, 7, 8, 9, 10, 11, 12, 13, 14, 15, 16, 4, 17, 18, 19, 20, 21, 22, 23, 24, 25, 26, 27, 28, 29, 30, 31, 32, 33, 34, 35, 36, 37, 38, 39, 40, 41, 42, 43, 44] (by decide +kernel) (by decide +kernel)
set_option maxRecDepth 20000 in
theorem gX5_leads_X5_waitsOn : GoodIn wsX5_leads (wsV RX5 79 RX5 yX5_waitsOn wsX5_waitsOn) := goodIn_app (goodIn_of _ (by decide +kernel)) ggX5_leads_X5_waitsOn
theorem dX5_leads_0 : decode cX5_leads 0 = .ok (.iload_n 1, 1) := by decide +kernel
theorem dX5_leads_1 : decode cX5_leads 1 = .ok (.istore_n 3, 1) := by decide +kernel
theorem dX5_leads_2 : decode cX5_leads 2 = .ok (.iconst 0, 1) := by decide +kernel
theorem dX5_leads_3 : decode cX5_leads 3 = .ok (.istore 4, 2) := by decide +kernel
theorem dX5_leads_5 : decode cX5_leads 5 = .ok (.iload 4, 2) := by decide +kernel
theorem dX5_leads_7 : decode cX5_leads 7 = .ok (.bipush 6, 2) := by decide +kernel
theorem dX5_leads_9 : decode cX5_leads 9 = .ok (.if_icmp .ge 56, 3) := by decide +kernel
theorem dX5_leads_12 : decode cX5_leads 12 = .ok (.iload_n 3, 1) := by decide +kernel
theorem dX5_leads_13 : decode cX5_leads 13 = .ok (.istore 5, 2) := by decide +kernel
theorem dX5_leads_15 : decode cX5_leads 15 = .ok (.iconst 0, 1) := by decide +kernel
theorem dX5_leads_16 : decode cX5_leads 16 = .ok (.istore 6, 2) := by decide +kernel
theorem dX5_leads_18 : decode cX5_leads 18 = .ok (.iload 6, 2) := by decide +kernel
theorem dX5_leads_20 : decode cX5_leads 20 = .ok (.bipush 6, 2) := by decide +kernel
theorem dX5_leads_22 : decode cX5_leads 22 = .ok (.if_icmp .ge 34, 3) := by decide +kernel
theorem dX5_leads_25 : decode cX5_leads 25 = .ok (.iload 5, 2) := by decide +kernel
theorem dX5_leads_27 : decode cX5_leads 27 = .ok (.iload_n 3, 1) := by decide +kernel
theorem dX5_leads_28 : decode cX5_leads 28 = .ok (.iload 6, 2) := by decide +kernel
theorem dX5_leads_30 : decode cX5_leads 30 = .ok (.ishr, 1) := by decide +kernel
theorem dX5_leads_31 : decode cX5_leads 31 = .ok (.iconst 1, 1) := by decide +kernel
theorem dX5_leads_32 : decode cX5_leads 32 = .ok (.iand, 1) := by decide +kernel
theorem dX5_leads_33 : decode cX5_leads 33 = .ok (.iconst 1, 1) := by decide +kernel
theorem dX5_leads_34 : decode cX5_leads 34 = .ok (.if_icmp .ne 12, 3) := by decide +kernel
theorem dX5_leads_37 : decode cX5_leads 37 = .ok (.aload_n 0, 1) := by decide +kernel
theorem dX5_leads_38 : decode cX5_leads 38 = .ok (.iload 6, 2) := by decide +kernel
theorem dX5_leads_40 : decode cX5_leads 40 = .ok (.invokevirtual 79, 3) := by decide +kernel
theorem dX5_leads_43 : decode cX5_leads 43 = .ok (.goto 4, 3) := by decide +kernel
theorem dX5_leads_46 : decode cX5_leads 46 = .ok (.iconst 0, 1) := by decide +kernel
theorem dX5_leads_47 : decode cX5_leads 47 = .ok (.ior, 1) := by decide +kernel
theorem dX5_leads_48 : decode cX5_leads 48 = .ok (.istore 5, 2) := by decide +kernel
theorem dX5_leads_50 : decode cX5_leads 50 = .ok (.iinc 6 1, 3) := by decide +kernel
theorem dX5_leads_53 : decode cX5_leads 53 = .ok (.goto (-35), 3) := by decide +kernel
theorem dX5_leads_56 : decode cX5_leads 56 = .ok (.iload 5, 2) := by decide +kernel
theorem dX5_leads_58 : decode cX5_leads 58 = .ok (.istore_n 3, 1) := by decide +kernel
theorem dX5_leads_59 : decode cX5_leads 59 = .ok (.iinc 4 1, 3) := by decide +kernel
theorem dX5_leads_62 : decode cX5_leads 62 = .ok (.goto (-57), 3) := by decide +kernel
theorem dX5_leads_65 : decode cX5_leads 65 = .ok (.iload_n 3, 1) := by decide +kernel
theorem dX5_leads_66 : decode cX5_leads 66 = .ok (.iload_n 2, 1) := by decide +kernel
theorem dX5_leads_67 : decode cX5_leads 67 = .ok (.ishr, 1) := by decide +kernel
theorem dX5_leads_68 : decode cX5_leads 68 = .ok (.iconst 1, 1) := by decide +kernel
theorem dX5_leads_69 : decode cX5_leads 69 = .ok (.iand, 1) := by decide +kernel
theorem dX5_leads_70 : decode cX5_leads 70 = .ok (.iconst 1, 1) := by decide +kernel
theorem dX5_leads_71 : decode cX5_leads 71 = .ok (.if_icmp .ne 7, 3) := by decide +kernel
theorem dX5_leads_74 : decode cX5_leads 74 = .ok (.iconst 1, 1) := by decide +kernel
theorem dX5_leads_75 : decode cX5_leads 75 = .ok (.goto 4, 3) := by decide +kernel
theorem dX5_leads_78 : decode cX5_leads 78 = .ok (.iconst 0, 1) := by decide +kernel
theorem dX5_leads_79 : decode cX5_leads 79 = .ok (.ireturn, 1) := by decide +kernel
theorem dX5_begin_0 : decode cX5_begin 0 = .ok (.aload_n 0, 1) := by decide +kernel
theorem dX5_begin_1 : decode cX5_begin 1 = .ok (.getfield 23, 3) := by decide +kernel
theorem dX5_begin_4 : decode cX5_begin 4 = .ok (.iload_n 1, 1) := by decide +kernel
theorem dX5_begin_5 : decode cX5_begin 5 = .ok (.iload_n 2, 1) := by decide +kernel
theorem dX5_begin_6 : decode cX5_begin 6 = .ok (.iastore, 1) := by decide +kernel
theorem dX5_begin_7 : decode cX5_begin 7 = .ok (.aload_n 0, 1) := by decide +kernel
theorem dX5_begin_8 : decode cX5_begin 8 = .ok (.dup, 1) := by decide +kernel
theorem dX5_begin_9 : decode cX5_begin 9 = .ok (.getfield 83, 3) := by decide +kernel
theorem dX5_begin_12 : decode cX5_begin 12 = .ok (.iconst 1, 1) := by decide +kernel
theorem dX5_begin_13 : decode cX5_begin 13 = .ok (.iadd, 1) := by decide +kernel
theorem dX5_begin_14 : decode cX5_begin 14 = .ok (.putfield 83, 3) := by decide +kernel
theorem dX5_begin_17 : decode cX5_begin 17 = .ok (.aload_n 0, 1) := by decide +kernel
theorem dX5_begin_18 : decode cX5_begin 18 = .ok (.getfield 41, 3) := by decide +kernel
theorem dX5_begin_21 : decode cX5_begin 21 = .ok (.iload_n 1, 1) := by decide +kernel
theorem dX5_begin_22 : decode cX5_begin 22 = .ok (.aload_n 0, 1) := by decide +kernel
theorem dX5_begin_23 : decode cX5_begin 23 = .ok (.getfield 83, 3) := by decide +kernel
theorem dX5_begin_26 : decode cX5_begin 26 = .ok (.iastore, 1) := by decide +kernel
theorem dX5_begin_27 : decode cX5_begin 27 = .ok (.return_, 1) := by decide +kernel
set_option maxRecDepth 20000 in
theorem ggX5_ask_X5_isSession : GoodIn wsX5_ask wsX5_isSession := goodIn_r _ [11, 12, 13, 10, 14] (by decide +kernel) (by decide +kernel)
set_option maxRecDepth 20000 in
theorem gX5_ask_X5_isSession : GoodIn wsX5_ask (va_wsS RX5 61 yX5_isSession wsX5_isSession) := goodIn_app (goodIn_of _ (by decide +kernel)) ggX5_ask_X5_isSession
set_option maxRecDepth 20000 in
theorem ggX5_ask_X5_in : GoodIn wsX5_ask wsX5_in := goodIn_r _ [14] (by decide +kernel) (by decide +kernel)
set_option maxRecDepth 20000 in
theorem gX5_ask_X5_in : GoodIn wsX5_ask (va_wsS RX5 53 yX5_in wsX5_in) := goodIn_app (goodIn_of _ (by decide +kernel)) ggX5_ask_X5_in
set_option maxRecDepth 20000 in
theorem ggX5_ask_X5_inTheWay : GoodIn wsX5_ask wsX5_inTheWay := goodIn_r _ [18, 1, 7, 4, 5, 19, 20, 21, 22, 10, 23, 24, 25, 26, 27, 28, 2, 44, 45, 46, 47, 48, 49, 50, 51, 52, 53, 54, 55, 56, 57, 58, 59, 60] (by decide +kernel) (by decide +kernel)
set_option maxRecDepth 20000 in
theorem gX5_ask_X5_inTheWay : GoodIn wsX5_ask (wsV RX5 75 RX5 yX5_inTheWay wsX5_inTheWay) := goodIn_app (goodIn_of _ (by decide +kernel)) ggX5_ask_X5_inTheWay
set_option maxRecDepth 20000 in
theorem ggX5_ask_X5_leads : GoodIn wsX5_ask wsX5_leads := goodIn_r _ [32, 33, 34, 35, 10, 36, 1, 37, 38, 39, 7, 4, 5, 19, 15, 16, 17, 18, 20, 21, 22, 23, 24, 25, 26, 27, 28, 2, 44, 45, 46, 47, 48, 49, 50, 51, 52, 53, 54, 55, 56, 57, 58, 59, 60] (by decide +kernel) (by decide +kernel)
set_option maxRecDepth 20000 in
theorem gX5_ask_X5_leads : GoodIn wsX5_ask (wsV RX5 86 RX5 yX5_leads wsX5_leads) := goodIn_app (goodIn_of _ (by decide +kernel)) ggX5_ask_X5_leads
set_option maxRecDepth 20000 in
theorem ggX5_ask_X5_begin : GoodIn wsX5_ask wsX5_begin := goodIn_r _ [43, 1, 3, 19, 44, 45, 46, 47, 48, 49, 50, 51, 52, 53, 54, 55, 56, 57, 58, 59, 60] (by decide +kernel) (by decide +kernel)
set_option maxRecDepth 20000 in
theorem gX5_ask_X5_begin : GoodIn wsX5_ask (wsV RX5 89 RX5 yX5_begin wsX5_begin) := goodIn_app (goodIn_of _ (by decide +kernel)) ggX5_ask_X5_begin
theorem dX5_ask_0 : decode cX5_ask 0 = .ok (.iload_n 1, 1) := by decide +kernel
theorem dX5_ask_1 : decode cX5_ask 1 = .ok (.invokestatic 61, 3) := by decide +kernel
theorem dX5_ask_4 : decode cX5_ask 4 = .ok (.ifCond .eq 43, 3) := by decide +kernel
theorem dX5_ask_7 : decode cX5_ask 7 = .ok (.iload_n 2, 1) := by decide +kernel
theorem dX5_ask_8 : decode cX5_ask 8 = .ok (.iconst 0, 1) := by decide +kernel
theorem dX5_ask_9 : decode cX5_ask 9 = .ok (.bipush 7, 2) := by decide +kernel
theorem dX5_ask_11 : decode cX5_ask 11 = .ok (.invokestatic 53, 3) := by decide +kernel
theorem dX5_ask_14 : decode cX5_ask 14 = .ok (.ifCond .eq 33, 3) := by decide +kernel
theorem dX5_ask_17 : decode cX5_ask 17 = .ok (.iload_n 3, 1) := by decide +kernel
theorem dX5_ask_18 : decode cX5_ask 18 = .ok (.iconst 0, 1) := by decide +kernel
theorem dX5_ask_19 : decode cX5_ask 19 = .ok (.bipush 7, 2) := by decide +kernel
theorem dX5_ask_21 : decode cX5_ask 21 = .ok (.invokestatic 53, 3) := by decide +kernel
theorem dX5_ask_24 : decode cX5_ask 24 = .ok (.ifCond .eq 23, 3) := by decide +kernel
theorem dX5_ask_27 : decode cX5_ask 27 = .ok (.iload 4, 2) := by decide +kernel
theorem dX5_ask_29 : decode cX5_ask 29 = .ok (.iconst 1, 1) := by decide +kernel
theorem dX5_ask_30 : decode cX5_ask 30 = .ok (.bipush 8, 2) := by decide +kernel
theorem dX5_ask_32 : decode cX5_ask 32 = .ok (.invokestatic 53, 3) := by decide +kernel
theorem dX5_ask_35 : decode cX5_ask 35 = .ok (.ifCond .eq 12, 3) := by decide +kernel
theorem dX5_ask_38 : decode cX5_ask 38 = .ok (.aload_n 0, 1) := by decide +kernel
theorem dX5_ask_39 : decode cX5_ask 39 = .ok (.getfield 23, 3) := by decide +kernel
theorem dX5_ask_42 : decode cX5_ask 42 = .ok (.iload_n 1, 1) := by decide +kernel
theorem dX5_ask_43 : decode cX5_ask 43 = .ok (.iaload, 1) := by decide +kernel
theorem dX5_ask_44 : decode cX5_ask 44 = .ok (.ifCond .eq 5, 3) := by decide +kernel
theorem dX5_ask_47 : decode cX5_ask 47 = .ok (.iconst (-1), 1) := by decide +kernel
theorem dX5_ask_48 : decode cX5_ask 48 = .ok (.ireturn, 1) := by decide +kernel
theorem dX5_ask_49 : decode cX5_ask 49 = .ok (.bipush 72, 2) := by decide +kernel
theorem dX5_ask_51 : decode cX5_ask 51 = .ok (.iload_n 1, 1) := by decide +kernel
theorem dX5_ask_52 : decode cX5_ask 52 = .ok (.imul, 1) := by decide +kernel
theorem dX5_ask_53 : decode cX5_ask 53 = .ok (.bipush 9, 2) := by decide +kernel
theorem dX5_ask_55 : decode cX5_ask 55 = .ok (.iload_n 3, 1) := by decide +kernel
theorem dX5_ask_56 : decode cX5_ask 56 = .ok (.imul, 1) := by decide +kernel
theorem dX5_ask_57 : decode cX5_ask 57 = .ok (.iadd, 1) := by decide +kernel
theorem dX5_ask_58 : decode cX5_ask 58 = .ok (.iload 4, 2) := by decide +kernel
theorem dX5_ask_60 : decode cX5_ask 60 = .ok (.iadd, 1) := by decide +kernel
theorem dX5_ask_61 : decode cX5_ask 61 = .ok (.istore 5, 2) := by decide +kernel
theorem dX5_ask_63 : decode cX5_ask 63 = .ok (.aload_n 0, 1) := by decide +kernel
theorem dX5_ask_64 : decode cX5_ask 64 = .ok (.getfield 20, 3) := by decide +kernel
theorem dX5_ask_67 : decode cX5_ask 67 = .ok (.iload 5, 2) := by decide +kernel
theorem dX5_ask_69 : decode cX5_ask 69 = .ok (.iaload, 1) := by decide +kernel
theorem dX5_ask_70 : decode cX5_ask 70 = .ok (.ifCond .le 5, 3) := by decide +kernel
theorem dX5_ask_73 : decode cX5_ask 73 = .ok (.iconst 0, 1) := by decide +kernel
theorem dX5_ask_74 : decode cX5_ask 74 = .ok (.ireturn, 1) := by decide +kernel
theorem dX5_ask_75 : decode cX5_ask 75 = .ok (.aload_n 0, 1) := by decide +kernel
theorem dX5_ask_76 : decode cX5_ask 76 = .ok (.iload_n 1, 1) := by decide +kernel
theorem dX5_ask_77 : decode cX5_ask 77 = .ok (.iload_n 3, 1) := by decide +kernel
theorem dX5_ask_78 : decode cX5_ask 78 = .ok (.iload 4, 2) := by decide +kernel
theorem dX5_ask_80 : decode cX5_ask 80 = .ok (.aload_n 0, 1) := by decide +kernel
theorem dX5_ask_81 : decode cX5_ask 81 = .ok (.getfield 83, 3) := by decide +kernel
theorem dX5_ask_84 : decode cX5_ask 84 = .ok (.iconst 1, 1) := by decide +kernel
theorem dX5_ask_85 : decode cX5_ask 85 = .ok (.iadd, 1) := by decide +kernel
theorem dX5_ask_86 : decode cX5_ask 86 = .ok (.invokevirtual 75, 3) := by decide +kernel
theorem dX5_ask_89 : decode cX5_ask 89 = .ok (.istore 6, 2) := by decide +kernel
theorem dX5_ask_91 : decode cX5_ask 91 = .ok (.iload 6, 2) := by decide +kernel
theorem dX5_ask_93 : decode cX5_ask 93 = .ok (.ifCond .ne 15, 3) := by decide +kernel
theorem dX5_ask_96 : decode cX5_ask 96 = .ok (.aload_n 0, 1) := by decide +kernel
theorem dX5_ask_97 : decode cX5_ask 97 = .ok (.getfield 20, 3) := by decide +kernel
theorem dX5_ask_100 : decode cX5_ask 100 = .ok (.iload 5, 2) := by decide +kernel
theorem dX5_ask_102 : decode cX5_ask 102 = .ok (.iload_n 2, 1) := by decide +kernel
theorem dX5_ask_103 : decode cX5_ask 103 = .ok (.iconst 1, 1) := by decide +kernel
theorem dX5_ask_104 : decode cX5_ask 104 = .ok (.iadd, 1) := by decide +kernel
theorem dX5_ask_105 : decode cX5_ask 105 = .ok (.iastore, 1) := by decide +kernel
theorem dX5_ask_106 : decode cX5_ask 106 = .ok (.iconst 0, 1) := by decide +kernel
theorem dX5_ask_107 : decode cX5_ask 107 = .ok (.ireturn, 1) := by decide +kernel
theorem dX5_ask_108 : decode cX5_ask 108 = .ok (.aload_n 0, 1) := by decide +kernel
theorem dX5_ask_109 : decode cX5_ask 109 = .ok (.iload 6, 2) := by decide +kernel
theorem dX5_ask_111 : decode cX5_ask 111 = .ok (.iload_n 1, 1) := by decide +kernel
theorem dX5_ask_112 : decode cX5_ask 112 = .ok (.invokevirtual 86, 3) := by decide +kernel
theorem dX5_ask_115 : decode cX5_ask 115 = .ok (.ifCond .eq 5, 3) := by decide +kernel
theorem dX5_ask_118 : decode cX5_ask 118 = .ok (.iconst 2, 1) := by decide +kernel
theorem dX5_ask_119 : decode cX5_ask 119 = .ok (.ireturn, 1) := by decide +kernel
theorem dX5_ask_120 : decode cX5_ask 120 = .ok (.aload_n 0, 1) := by decide +kernel
theorem dX5_ask_121 : decode cX5_ask 121 = .ok (.getfield 26, 3) := by decide +kernel
theorem dX5_ask_124 : decode cX5_ask 124 = .ok (.iload_n 1, 1) := by decide +kernel
theorem dX5_ask_125 : decode cX5_ask 125 = .ok (.iload_n 3, 1) := by decide +kernel
theorem dX5_ask_126 : decode cX5_ask 126 = .ok (.iastore, 1) := by decide +kernel
theorem dX5_ask_127 : decode cX5_ask 127 = .ok (.aload_n 0, 1) := by decide +kernel
theorem dX5_ask_128 : decode cX5_ask 128 = .ok (.getfield 29, 3) := by decide +kernel
theorem dX5_ask_131 : decode cX5_ask 131 = .ok (.iload_n 1, 1) := by decide +kernel
theorem dX5_ask_132 : decode cX5_ask 132 = .ok (.iload 4, 2) := by decide +kernel
theorem dX5_ask_134 : decode cX5_ask 134 = .ok (.iastore, 1) := by decide +kernel
