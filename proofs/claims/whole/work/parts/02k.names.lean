theorem dX5_end_36 : decode cX5_end 36 = .ok (.getfield 20, 3) := by decide +kernel
theorem dX5_end_39 : decode cX5_end 39 = .ok (.iload_n 3, 1) := by decide +kernel
theorem dX5_end_40 : decode cX5_end 40 = .ok (.aload_n 0, 1) := by decide +kernel
theorem dX5_end_41 : decode cX5_end 41 = .ok (.getfield 20, 3) := by decide +kernel
theorem dX5_end_44 : decode cX5_end 44 = .ok (.iload_n 3, 1) := by decide +kernel
theorem dX5_end_45 : decode cX5_end 45 = .ok (.iaload, 1) := by decide +kernel
theorem dX5_end_46 : decode cX5_end 46 = .ok (.iload_n 2, 1) := by decide +kernel
theorem dX5_end_47 : decode cX5_end 47 = .ok (.if_icmp .le 7, 3) := by decide +kernel
theorem dX5_end_50 : decode cX5_end 50 = .ok (.iconst 0, 1) := by decide +kernel
theorem dX5_end_51 : decode cX5_end 51 = .ok (.goto 9, 3) := by decide +kernel
theorem dX5_end_54 : decode cX5_end 54 = .ok (.aload_n 0, 1) := by decide +kernel
theorem dX5_end_55 : decode cX5_end 55 = .ok (.getfield 20, 3) := by decide +kernel
theorem dX5_end_58 : decode cX5_end 58 = .ok (.iload_n 3, 1) := by decide +kernel
theorem dX5_end_59 : decode cX5_end 59 = .ok (.iaload, 1) := by decide +kernel
theorem dX5_end_60 : decode cX5_end 60 = .ok (.iastore, 1) := by decide +kernel
theorem dX5_end_61 : decode cX5_end 61 = .ok (.iinc 3 1, 3) := by decide +kernel
theorem dX5_end_64 : decode cX5_end 64 = .ok (.goto (-40), 3) := by decide +kernel
theorem dX5_end_67 : decode cX5_end 67 = .ok (.iconst 1, 1) := by decide +kernel
theorem dX5_end_68 : decode cX5_end 68 = .ok (.ireturn, 1) := by decide +kernel
set_option maxRecDepth 20000 in
theorem ggX5_release_X5_isSession : GoodIn wsX5_release wsX5_isSession := goodIn_r _ [6, 7, 8, 5, 9] (by decide +kernel) (by decide +kernel)
set_option maxRecDepth 20000 in
theorem gX5_release_X5_isSession : GoodIn wsX5_release (va_wsS RX5 61 yX5_isSession wsX5_isSession) := goodIn_app (goodIn_of _ (by decide +kernel)) ggX5_release_X5_isSession
set_option maxRecDepth 20000 in
theorem ggX5_release_X5_in : GoodIn wsX5_release wsX5_in := goodIn_r _ [9] (by decide +kernel) (by decide +kernel)
set_option maxRecDepth 20000 in
theorem gX5_release_X5_in : GoodIn wsX5_release (va_wsS RX5 53 yX5_in wsX5_in) := goodIn_app (goodIn_of _ (by decide +kernel)) ggX5_release_X5_in
theorem dX5_release_0 : decode cX5_release 0 = .ok (.iload_n 1, 1) := by decide +kernel
theorem dX5_release_1 : decode cX5_release 1 = .ok (.invokestatic 61, 3) := by decide +kernel
theorem dX5_release_4 : decode cX5_release 4 = .ok (.ifCond .eq 13, 3) := by decide +kernel
theorem dX5_release_7 : decode cX5_release 7 = .ok (.iload_n 2, 1) := by decide +kernel
theorem dX5_release_8 : decode cX5_release 8 = .ok (.iconst 1, 1) := by decide +kernel
theorem dX5_release_9 : decode cX5_release 9 = .ok (.bipush 7, 2) := by decide +kernel
theorem dX5_release_11 : decode cX5_release 11 = .ok (.invokestatic 53, 3) := by decide +kernel
theorem dX5_release_14 : decode cX5_release 14 = .ok (.ifCond .ne 5, 3) := by decide +kernel
theorem dX5_release_17 : decode cX5_release 17 = .ok (.iconst 0, 1) := by decide +kernel
theorem dX5_release_18 : decode cX5_release 18 = .ok (.ireturn, 1) := by decide +kernel
theorem dX5_release_19 : decode cX5_release 19 = .ok (.bipush 72, 2) := by decide +kernel
theorem dX5_release_21 : decode cX5_release 21 = .ok (.iload_n 1, 1) := by decide +kernel
theorem dX5_release_22 : decode cX5_release 22 = .ok (.imul, 1) := by decide +kernel
theorem dX5_release_23 : decode cX5_release 23 = .ok (.istore_n 3, 1) := by decide +kernel
theorem dX5_release_24 : decode cX5_release 24 = .ok (.iload_n 3, 1) := by decide +kernel
theorem dX5_release_25 : decode cX5_release 25 = .ok (.bipush 72, 2) := by decide +kernel
theorem dX5_release_27 : decode cX5_release 27 = .ok (.iload_n 1, 1) := by decide +kernel
theorem dX5_release_28 : decode cX5_release 28 = .ok (.imul, 1) := by decide +kernel
theorem dX5_release_29 : decode cX5_release 29 = .ok (.bipush 72, 2) := by decide +kernel
theorem dX5_release_31 : decode cX5_release 31 = .ok (.iadd, 1) := by decide +kernel
theorem dX5_release_32 : decode cX5_release 32 = .ok (.if_icmp .ge 35, 3) := by decide +kernel
theorem dX5_release_35 : decode cX5_release 35 = .ok (.aload_n 0, 1) := by decide +kernel
theorem dX5_release_36 : decode cX5_release 36 = .ok (.getfield 20, 3) := by decide +kernel
theorem dX5_release_39 : decode cX5_release 39 = .ok (.iload_n 3, 1) := by decide +kernel
theorem dX5_release_40 : decode cX5_release 40 = .ok (.aload_n 0, 1) := by decide +kernel
theorem dX5_release_41 : decode cX5_release 41 = .ok (.getfield 20, 3) := by decide +kernel
theorem dX5_release_44 : decode cX5_release 44 = .ok (.iload_n 3, 1) := by decide +kernel
theorem dX5_release_45 : decode cX5_release 45 = .ok (.iaload, 1) := by decide +kernel
theorem dX5_release_46 : decode cX5_release 46 = .ok (.iload_n 2, 1) := by decide +kernel
theorem dX5_release_47 : decode cX5_release 47 = .ok (.if_icmp .le 7, 3) := by decide +kernel
theorem dX5_release_50 : decode cX5_release 50 = .ok (.iload_n 2, 1) := by decide +kernel
theorem dX5_release_51 : decode cX5_release 51 = .ok (.goto 9, 3) := by decide +kernel
theorem dX5_release_54 : decode cX5_release 54 = .ok (.aload_n 0, 1) := by decide +kernel
theorem dX5_release_55 : decode cX5_release 55 = .ok (.getfield 20, 3) := by decide +kernel
theorem dX5_release_58 : decode cX5_release 58 = .ok (.iload_n 3, 1) := by decide +kernel
theorem dX5_release_59 : decode cX5_release 59 = .ok (.iaload, 1) := by decide +kernel
theorem dX5_release_60 : decode cX5_release 60 = .ok (.iastore, 1) := by decide +kernel
theorem dX5_release_61 : decode cX5_release 61 = .ok (.iinc 3 1, 3) := by decide +kernel
theorem dX5_release_64 : decode cX5_release 64 = .ok (.goto (-40), 3) := by decide +kernel
theorem dX5_release_67 : decode cX5_release 67 = .ok (.aload_n 0, 1) := by decide +kernel
theorem dX5_release_68 : decode cX5_release 68 = .ok (.getfield 32, 3) := by decide +kernel
theorem dX5_release_71 : decode cX5_release 71 = .ok (.iload_n 1, 1) := by decide +kernel
theorem dX5_release_72 : decode cX5_release 72 = .ok (.aload_n 0, 1) := by decide +kernel
theorem dX5_release_73 : decode cX5_release 73 = .ok (.getfield 32, 3) := by decide +kernel
theorem dX5_release_76 : decode cX5_release 76 = .ok (.iload_n 1, 1) := by decide +kernel
theorem dX5_release_77 : decode cX5_release 77 = .ok (.iaload, 1) := by decide +kernel
theorem dX5_release_78 : decode cX5_release 78 = .ok (.iload_n 2, 1) := by decide +kernel
theorem dX5_release_79 : decode cX5_release 79 = .ok (.if_icmp .lt 9, 3) := by decide +kernel
theorem dX5_release_82 : decode cX5_release 82 = .ok (.iload_n 2, 1) := by decide +kernel
theorem dX5_release_83 : decode cX5_release 83 = .ok (.iconst 1, 1) := by decide +kernel
theorem dX5_release_84 : decode cX5_release 84 = .ok (.isub, 1) := by decide +kernel
theorem dX5_release_85 : decode cX5_release 85 = .ok (.goto 9, 3) := by decide +kernel
theorem dX5_release_88 : decode cX5_release 88 = .ok (.aload_n 0, 1) := by decide +kernel
theorem dX5_release_89 : decode cX5_release 89 = .ok (.getfield 32, 3) := by decide +kernel
theorem dX5_release_92 : decode cX5_release 92 = .ok (.iload_n 1, 1) := by decide +kernel
theorem dX5_release_93 : decode cX5_release 93 = .ok (.iaload, 1) := by decide +kernel
theorem dX5_release_94 : decode cX5_release 94 = .ok (.iastore, 1) := by decide +kernel
theorem dX5_release_95 : decode cX5_release 95 = .ok (.iconst 1, 1) := by decide +kernel
theorem dX5_release_96 : decode cX5_release 96 = .ok (.ireturn, 1) := by decide +kernel
set_option maxRecDepth 20000 in
theorem ggX5_drop_X5_in : GoodIn wsX5_drop wsX5_in := goodIn_r _ [8] (by decide +kernel) (by decide +kernel)
set_option maxRecDepth 20000 in
theorem gX5_drop_X5_in : GoodIn wsX5_drop (va_wsS RX5 53 yX5_in wsX5_in) := goodIn_app (goodIn_of _ (by decide +kernel)) ggX5_drop_X5_in
theorem dX5_drop_0 : decode cX5_drop 0 = .ok (.iload_n 1, 1) := by decide +kernel
theorem dX5_drop_1 : decode cX5_drop 1 = .ok (.iconst 0, 1) := by decide +kernel
theorem dX5_drop_2 : decode cX5_drop 2 = .ok (.bipush 7, 2) := by decide +kernel
theorem dX5_drop_4 : decode cX5_drop 4 = .ok (.invokestatic 53, 3) := by decide +kernel
theorem dX5_drop_7 : decode cX5_drop 7 = .ok (.ifCond .ne 5, 3) := by decide +kernel
theorem dX5_drop_10 : decode cX5_drop 10 = .ok (.iconst 0, 1) := by decide +kernel
theorem dX5_drop_11 : decode cX5_drop 11 = .ok (.ireturn, 1) := by decide +kernel
theorem dX5_drop_12 : decode cX5_drop 12 = .ok (.iconst 0, 1) := by decide +kernel
theorem dX5_drop_13 : decode cX5_drop 13 = .ok (.istore_n 2, 1) := by decide +kernel
theorem dX5_drop_14 : decode cX5_drop 14 = .ok (.iload_n 2, 1) := by decide +kernel
theorem dX5_drop_15 : decode cX5_drop 15 = .ok (.bipush 6, 2) := by decide +kernel
theorem dX5_drop_17 : decode cX5_drop 17 = .ok (.if_icmp .ge 80, 3) := by decide +kernel
theorem dX5_drop_20 : decode cX5_drop 20 = .ok (.iconst 1, 1) := by decide +kernel
theorem dX5_drop_21 : decode cX5_drop 21 = .ok (.istore_n 3, 1) := by decide +kernel
theorem dX5_drop_22 : decode cX5_drop 22 = .ok (.iload_n 3, 1) := by decide +kernel
theorem dX5_drop_23 : decode cX5_drop 23 = .ok (.bipush 9, 2) := by decide +kernel
theorem dX5_drop_25 : decode cX5_drop 25 = .ok (.if_icmp .ge 26, 3) := by decide +kernel
theorem dX5_drop_28 : decode cX5_drop 28 = .ok (.aload_n 0, 1) := by decide +kernel
theorem dX5_drop_29 : decode cX5_drop 29 = .ok (.getfield 20, 3) := by decide +kernel
theorem dX5_drop_32 : decode cX5_drop 32 = .ok (.bipush 72, 2) := by decide +kernel
theorem dX5_drop_34 : decode cX5_drop 34 = .ok (.iload_n 2, 1) := by decide +kernel
theorem dX5_drop_35 : decode cX5_drop 35 = .ok (.imul, 1) := by decide +kernel
theorem dX5_drop_36 : decode cX5_drop 36 = .ok (.bipush 9, 2) := by decide +kernel
theorem dX5_drop_38 : decode cX5_drop 38 = .ok (.iload_n 1, 1) := by decide +kernel
theorem dX5_drop_39 : decode cX5_drop 39 = .ok (.imul, 1) := by decide +kernel
theorem dX5_drop_40 : decode cX5_drop 40 = .ok (.iadd, 1) := by decide +kernel
theorem dX5_drop_41 : decode cX5_drop 41 = .ok (.iload_n 3, 1) := by decide +kernel
theorem dX5_drop_42 : decode cX5_drop 42 = .ok (.iadd, 1) := by decide +kernel
theorem dX5_drop_43 : decode cX5_drop 43 = .ok (.iconst 0, 1) := by decide +kernel
theorem dX5_drop_44 : decode cX5_drop 44 = .ok (.iastore, 1) := by decide +kernel
theorem dX5_drop_45 : decode cX5_drop 45 = .ok (.iinc 3 1, 3) := by decide +kernel
theorem dX5_drop_48 : decode cX5_drop 48 = .ok (.goto (-26), 3) := by decide +kernel
theorem dX5_drop_51 : decode cX5_drop 51 = .ok (.aload_n 0, 1) := by decide +kernel
theorem dX5_drop_52 : decode cX5_drop 52 = .ok (.getfield 35, 3) := by decide +kernel
theorem dX5_drop_55 : decode cX5_drop 55 = .ok (.iload_n 2, 1) := by decide +kernel
theorem dX5_drop_56 : decode cX5_drop 56 = .ok (.aload_n 0, 1) := by decide +kernel
theorem dX5_drop_57 : decode cX5_drop 57 = .ok (.getfield 35, 3) := by decide +kernel
theorem dX5_drop_60 : decode cX5_drop 60 = .ok (.iload_n 2, 1) := by decide +kernel
theorem dX5_drop_61 : decode cX5_drop 61 = .ok (.baload, 1) := by decide +kernel
theorem dX5_drop_62 : decode cX5_drop 62 = .ok (.ifCond .ne 23, 3) := by decide +kernel
theorem dX5_drop_65 : decode cX5_drop 65 = .ok (.aload_n 0, 1) := by decide +kernel
theorem dX5_drop_66 : decode cX5_drop 66 = .ok (.getfield 23, 3) := by decide +kernel
theorem dX5_drop_69 : decode cX5_drop 69 = .ok (.iload_n 2, 1) := by decide +kernel
theorem dX5_drop_70 : decode cX5_drop 70 = .ok (.iaload, 1) := by decide +kernel
theorem dX5_drop_71 : decode cX5_drop 71 = .ok (.iconst 1, 1) := by decide +kernel
theorem dX5_drop_72 : decode cX5_drop 72 = .ok (.if_icmp .ne 17, 3) := by decide +kernel
theorem dX5_drop_75 : decode cX5_drop 75 = .ok (.aload_n 0, 1) := by decide +kernel
theorem dX5_drop_76 : decode cX5_drop 76 = .ok (.getfield 26, 3) := by decide +kernel
theorem dX5_drop_79 : decode cX5_drop 79 = .ok (.iload_n 2, 1) := by decide +kernel
theorem dX5_drop_80 : decode cX5_drop 80 = .ok (.iaload, 1) := by decide +kernel
theorem dX5_drop_81 : decode cX5_drop 81 = .ok (.iload_n 1, 1) := by decide +kernel
theorem dX5_drop_82 : decode cX5_drop 82 = .ok (.if_icmp .ne 7, 3) := by decide +kernel
theorem dX5_drop_85 : decode cX5_drop 85 = .ok (.iconst 1, 1) := by decide +kernel
theorem dX5_drop_86 : decode cX5_drop 86 = .ok (.goto 4, 3) := by decide +kernel
theorem dX5_drop_89 : decode cX5_drop 89 = .ok (.iconst 0, 1) := by decide +kernel
theorem dX5_drop_90 : decode cX5_drop 90 = .ok (.bastore, 1) := by decide +kernel
theorem dX5_drop_91 : decode cX5_drop 91 = .ok (.iinc 2 1, 3) := by decide +kernel
theorem dX5_drop_94 : decode cX5_drop 94 = .ok (.goto (-80), 3) := by decide +kernel
theorem dX5_drop_97 : decode cX5_drop 97 = .ok (.iconst 1, 1) := by decide +kernel
theorem dX5_drop_98 : decode cX5_drop 98 = .ok (.ireturn, 1) := by decide +kernel
set_option maxRecDepth 20000 in
theorem ggX5_holds_X5_isSession : GoodIn wsX5_holds wsX5_isSession := goodIn_r _ [5, 6, 7, 4, 8] (by decide +kernel) (by decide +kernel)
set_option maxRecDepth 20000 in
theorem gX5_holds_X5_isSession : GoodIn wsX5_holds (va_wsS RX5 61 yX5_isSession wsX5_isSession) := goodIn_app (goodIn_of _ (by decide +kernel)) ggX5_holds_X5_isSession
set_option maxRecDepth 20000 in
theorem ggX5_holds_X5_in : GoodIn wsX5_holds wsX5_in := goodIn_r _ [8] (by decide +kernel) (by decide +kernel)
set_option maxRecDepth 20000 in
theorem gX5_holds_X5_in : GoodIn wsX5_holds (va_wsS RX5 53 yX5_in wsX5_in) := goodIn_app (goodIn_of _ (by decide +kernel)) ggX5_holds_X5_in
theorem dX5_holds_0 : decode cX5_holds 0 = .ok (.iload_n 1, 1) := by decide +kernel
theorem dX5_holds_1 : decode cX5_holds 1 = .ok (.invokestatic 61, 3) := by decide +kernel
theorem dX5_holds_4 : decode cX5_holds 4 = .ok (.ifCond .eq 44, 3) := by decide +kernel
theorem dX5_holds_7 : decode cX5_holds 7 = .ok (.iload_n 2, 1) := by decide +kernel
theorem dX5_holds_8 : decode cX5_holds 8 = .ok (.iconst 0, 1) := by decide +kernel
theorem dX5_holds_9 : decode cX5_holds 9 = .ok (.bipush 7, 2) := by decide +kernel
theorem dX5_holds_11 : decode cX5_holds 11 = .ok (.invokestatic 53, 3) := by decide +kernel
theorem dX5_holds_14 : decode cX5_holds 14 = .ok (.ifCond .eq 34, 3) := by decide +kernel
theorem dX5_holds_17 : decode cX5_holds 17 = .ok (.iload_n 3, 1) := by decide +kernel
theorem dX5_holds_18 : decode cX5_holds 18 = .ok (.iconst 1, 1) := by decide +kernel
theorem dX5_holds_19 : decode cX5_holds 19 = .ok (.bipush 8, 2) := by decide +kernel
theorem dX5_holds_21 : decode cX5_holds 21 = .ok (.invokestatic 53, 3) := by decide +kernel
theorem dX5_holds_24 : decode cX5_holds 24 = .ok (.ifCond .eq 24, 3) := by decide +kernel
theorem dX5_holds_27 : decode cX5_holds 27 = .ok (.aload_n 0, 1) := by decide +kernel
theorem dX5_holds_28 : decode cX5_holds 28 = .ok (.getfield 20, 3) := by decide +kernel
theorem dX5_holds_31 : decode cX5_holds 31 = .ok (.bipush 72, 2) := by decide +kernel
theorem dX5_holds_33 : decode cX5_holds 33 = .ok (.iload_n 1, 1) := by decide +kernel
theorem dX5_holds_34 : decode cX5_holds 34 = .ok (.imul, 1) := by decide +kernel
theorem dX5_holds_35 : decode cX5_holds 35 = .ok (.bipush 9, 2) := by decide +kernel
theorem dX5_holds_37 : decode cX5_holds 37 = .ok (.iload_n 2, 1) := by decide +kernel
theorem dX5_holds_38 : decode cX5_holds 38 = .ok (.imul, 1) := by decide +kernel
theorem dX5_holds_39 : decode cX5_holds 39 = .ok (.iadd, 1) := by decide +kernel
theorem dX5_holds_40 : decode cX5_holds 40 = .ok (.iload_n 3, 1) := by decide +kernel
theorem dX5_holds_41 : decode cX5_holds 41 = .ok (.iadd, 1) := by decide +kernel
theorem dX5_holds_42 : decode cX5_holds 42 = .ok (.iaload, 1) := by decide +kernel
theorem dX5_holds_43 : decode cX5_holds 43 = .ok (.iconst 1, 1) := by decide +kernel
theorem dX5_holds_44 : decode cX5_holds 44 = .ok (.isub, 1) := by decide +kernel
theorem dX5_holds_45 : decode cX5_holds 45 = .ok (.goto 4, 3) := by decide +kernel
theorem dX5_holds_48 : decode cX5_holds 48 = .ok (.iconst (-1), 1) := by decide +kernel
theorem dX5_holds_49 : decode cX5_holds 49 = .ok (.ireturn, 1) := by decide +kernel
set_option maxRecDepth 20000 in
theorem ggX5_on_X5_isSession : GoodIn wsX5_on wsX5_isSession := goodIn_r _ [4, 5, 6, 3, 7] (by decide +kernel) (by decide +kernel)
set_option maxRecDepth 20000 in
theorem gX5_on_X5_isSession : GoodIn wsX5_on (va_wsS RX5 61 yX5_isSession wsX5_isSession) := goodIn_app (goodIn_of _ (by decide +kernel)) ggX5_on_X5_isSession
set_option maxRecDepth 20000 in
theorem ggX5_on_X5_waitsOn : GoodIn wsX5_on wsX5_waitsOn := goodIn_r _ [11, 12, 13, 14, 15, 16, 17, 18, 19, 20, 21, 22, 3, 23, 24, 25, 26, 27, 28, 29, 30, 31, 32, 33, 34, 35, 36, 37, 38, 39, 40, 41, 42, 43, 44, 45, 46, 47, 48, 49, 50] (by decide +kernel) (by decide +kernel)
set_option maxRecDepth 20000 in
theorem gX5_on_X5_waitsOn : GoodIn wsX5_on (wsV RX5 79 RX5 yX5_waitsOn wsX5_waitsOn) := goodIn_app (goodIn_of _ (by decide +kernel)) ggX5_on_X5_waitsOn
theorem dX5_on_0 : decode cX5_on 0 = .ok (.iload_n 1, 1) := by decide +kernel
theorem dX5_on_1 : decode cX5_on 1 = .ok (.invokestatic 61, 3) := by decide +kernel
theorem dX5_on_4 : decode cX5_on 4 = .ok (.ifCond .eq 11, 3) := by decide +kernel
theorem dX5_on_7 : decode cX5_on 7 = .ok (.aload_n 0, 1) := by decide +kernel
theorem dX5_on_8 : decode cX5_on 8 = .ok (.iload_n 1, 1) := by decide +kernel
theorem dX5_on_9 : decode cX5_on 9 = .ok (.invokevirtual 79, 3) := by decide +kernel
theorem dX5_on_12 : decode cX5_on 12 = .ok (.goto 4, 3) := by decide +kernel
theorem dX5_on_15 : decode cX5_on 15 = .ok (.iconst 0, 1) := by decide +kernel
theorem dX5_on_16 : decode cX5_on 16 = .ok (.ireturn, 1) := by decide +kernel
set_option maxRecDepth 20000 in
theorem ggX5_wish_X5_isSession : GoodIn wsX5_wish wsX5_isSession := goodIn_r _ [9, 10, 11, 8, 12] (by decide +kernel) (by decide +kernel)
set_option maxRecDepth 20000 in
theorem gX5_wish_X5_isSession : GoodIn wsX5_wish (va_wsS RX5 61 yX5_isSession wsX5_isSession) := goodIn_app (goodIn_of _ (by decide +kernel)) ggX5_wish_X5_isSession
theorem dX5_wish_0 : decode cX5_wish 0 = .ok (.iload_n 1, 1) := by decide +kernel
theorem dX5_wish_1 : decode cX5_wish 1 = .ok (.invokestatic 61, 3) := by decide +kernel
theorem dX5_wish_4 : decode cX5_wish 4 = .ok (.ifCond .ne 5, 3) := by decide +kernel
theorem dX5_wish_7 : decode cX5_wish 7 = .ok (.iconst (-1), 1) := by decide +kernel
theorem dX5_wish_8 : decode cX5_wish 8 = .ok (.ireturn, 1) := by decide +kernel
theorem dX5_wish_9 : decode cX5_wish 9 = .ok (.aload_n 0, 1) := by decide +kernel
theorem dX5_wish_10 : decode cX5_wish 10 = .ok (.getfield 23, 3) := by decide +kernel
theorem dX5_wish_13 : decode cX5_wish 13 = .ok (.iload_n 1, 1) := by decide +kernel
theorem dX5_wish_14 : decode cX5_wish 14 = .ok (.iaload, 1) := by decide +kernel
theorem dX5_wish_15 : decode cX5_wish 15 = .ok (.iconst 2, 1) := by decide +kernel
theorem dX5_wish_16 : decode cX5_wish 16 = .ok (.if_icmp .ne 14, 3) := by decide +kernel
theorem dX5_wish_19 : decode cX5_wish 19 = .ok (.sipush 10000, 3) := by decide +kernel
theorem dX5_wish_22 : decode cX5_wish 22 = .ok (.aload_n 0, 1) := by decide +kernel
theorem dX5_wish_23 : decode cX5_wish 23 = .ok (.getfield 38, 3) := by decide +kernel
theorem dX5_wish_26 : decode cX5_wish 26 = .ok (.iload_n 1, 1) := by decide +kernel
theorem dX5_wish_27 : decode cX5_wish 27 = .ok (.iaload, 1) := by decide +kernel
theorem dX5_wish_28 : decode cX5_wish 28 = .ok (.iadd, 1) := by decide +kernel
theorem dX5_wish_29 : decode cX5_wish 29 = .ok (.ireturn, 1) := by decide +kernel
theorem dX5_wish_30 : decode cX5_wish 30 = .ok (.aload_n 0, 1) := by decide +kernel
theorem dX5_wish_31 : decode cX5_wish 31 = .ok (.getfield 23, 3) := by decide +kernel
theorem dX5_wish_34 : decode cX5_wish 34 = .ok (.iload_n 1, 1) := by decide +kernel
theorem dX5_wish_35 : decode cX5_wish 35 = .ok (.iaload, 1) := by decide +kernel
theorem dX5_wish_36 : decode cX5_wish 36 = .ok (.ifCond .ne 7, 3) := by decide +kernel
theorem dX5_wish_39 : decode cX5_wish 39 = .ok (.iconst 0, 1) := by decide +kernel
theorem dX5_wish_40 : decode cX5_wish 40 = .ok (.goto 36, 3) := by decide +kernel
theorem dX5_wish_43 : decode cX5_wish 43 = .ok (.bipush 10, 2) := by decide +kernel
theorem dX5_wish_45 : decode cX5_wish 45 = .ok (.aload_n 0, 1) := by decide +kernel
theorem dX5_wish_46 : decode cX5_wish 46 = .ok (.getfield 26, 3) := by decide +kernel
theorem dX5_wish_49 : decode cX5_wish 49 = .ok (.iload_n 1, 1) := by decide +kernel
theorem dX5_wish_50 : decode cX5_wish 50 = .ok (.iaload, 1) := by decide +kernel
theorem dX5_wish_51 : decode cX5_wish 51 = .ok (.imul, 1) := by decide +kernel
theorem dX5_wish_52 : decode cX5_wish 52 = .ok (.aload_n 0, 1) := by decide +kernel
theorem dX5_wish_53 : decode cX5_wish 53 = .ok (.getfield 29, 3) := by decide +kernel
theorem dX5_wish_56 : decode cX5_wish 56 = .ok (.iload_n 1, 1) := by decide +kernel
theorem dX5_wish_57 : decode cX5_wish 57 = .ok (.iaload, 1) := by decide +kernel
theorem dX5_wish_58 : decode cX5_wish 58 = .ok (.iadd, 1) := by decide +kernel
theorem dX5_wish_59 : decode cX5_wish 59 = .ok (.aload_n 0, 1) := by decide +kernel
theorem dX5_wish_60 : decode cX5_wish 60 = .ok (.getfield 35, 3) := by decide +kernel
theorem dX5_wish_63 : decode cX5_wish 63 = .ok (.iload_n 1, 1) := by decide +kernel
theorem dX5_wish_64 : decode cX5_wish 64 = .ok (.baload, 1) := by decide +kernel
theorem dX5_wish_65 : decode cX5_wish 65 = .ok (.ifCond .eq 9, 3) := by decide +kernel
theorem dX5_wish_68 : decode cX5_wish 68 = .ok (.sipush 1000, 3) := by decide +kernel
theorem dX5_wish_71 : decode cX5_wish 71 = .ok (.goto 4, 3) := by decide +kernel
theorem dX5_wish_74 : decode cX5_wish 74 = .ok (.iconst 0, 1) := by decide +kernel
theorem dX5_wish_75 : decode cX5_wish 75 = .ok (.iadd, 1) := by decide +kernel
theorem dX5_wish_76 : decode cX5_wish 76 = .ok (.ireturn, 1) := by decide +kernel
theorem dJ7_fill_031fb_0 : decode cJ7_fill_031fb 0 = .ok (.iconst 0, 1) := by decide +kernel
theorem dJ7_fill_031fb_1 : decode cJ7_fill_031fb 1 = .ok (.istore_n 2, 1) := by decide +kernel
theorem dJ7_fill_031fb_2 : decode cJ7_fill_031fb 2 = .ok (.aload_n 0, 1) := by decide +kernel
theorem dJ7_fill_031fb_3 : decode cJ7_fill_031fb 3 = .ok (.arraylength, 1) := by decide +kernel
theorem dJ7_fill_031fb_4 : decode cJ7_fill_031fb 4 = .ok (.istore_n 3, 1) := by decide +kernel
theorem dJ7_fill_031fb_5 : decode cJ7_fill_031fb 5 = .ok (.iload_n 2, 1) := by decide +kernel
theorem dJ7_fill_031fb_6 : decode cJ7_fill_031fb 6 = .ok (.iload_n 3, 1) := by decide +kernel
theorem dJ7_fill_031fb_7 : decode cJ7_fill_031fb 7 = .ok (.if_icmp .ge 13, 3) := by decide +kernel
theorem dJ7_fill_031fb_10 : decode cJ7_fill_031fb 10 = .ok (.aload_n 0, 1) := by decide +kernel
theorem dJ7_fill_031fb_11 : decode cJ7_fill_031fb 11 = .ok (.iload_n 2, 1) := by decide +kernel
theorem dJ7_fill_031fb_12 : decode cJ7_fill_031fb 12 = .ok (.iload_n 1, 1) := by decide +kernel
theorem dJ7_fill_031fb_13 : decode cJ7_fill_031fb 13 = .ok (.bastore, 1) := by decide +kernel
theorem dJ7_fill_031fb_14 : decode cJ7_fill_031fb 14 = .ok (.iinc 2 1, 3) := by decide +kernel
theorem dJ7_fill_031fb_17 : decode cJ7_fill_031fb 17 = .ok (.goto (-12), 3) := by decide +kernel
theorem dJ7_fill_031fb_20 : decode cJ7_fill_031fb 20 = .ok (.return_, 1) := by decide +kernel
