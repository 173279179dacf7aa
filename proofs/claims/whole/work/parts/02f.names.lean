theorem dX4_drop_9 : decode cX4_drop 9 = .ok (.aload_n 0, 1) := by decide +kernel
theorem dX4_drop_10 : decode cX4_drop 10 = .ok (.getfield 19, 3) := by decide +kernel
theorem dX4_drop_13 : decode cX4_drop 13 = .ok (.iload_n 1, 1) := by decide +kernel
theorem dX4_drop_14 : decode cX4_drop 14 = .ok (.invokevirtual 130, 3) := by decide +kernel
theorem dX4_drop_17 : decode cX4_drop 17 = .ok (.aload_n 0, 1) := by decide +kernel
theorem dX4_drop_18 : decode cX4_drop 18 = .ok (.getfield 33, 3) := by decide +kernel
theorem dX4_drop_21 : decode cX4_drop 21 = .ok (.iload_n 1, 1) := by decide +kernel
theorem dX4_drop_22 : decode cX4_drop 22 = .ok (.invokevirtual 133, 3) := by decide +kernel
theorem dX4_drop_25 : decode cX4_drop 25 = .ok (.iconst 1, 1) := by decide +kernel
theorem dX4_drop_26 : decode cX4_drop 26 = .ok (.ireturn, 1) := by decide +kernel
set_option maxRecDepth 20000 in
theorem ggX4_clear_X4_isRow : GoodIn wsX4_clear wsX4_isRow := goodIn_r _ [5] (by decide +kernel) (by decide +kernel)
set_option maxRecDepth 20000 in
theorem gX4_clear_X4_isRow : GoodIn wsX4_clear (va_wsS RX4 90 yX4_isRow wsX4_isRow) := goodIn_app (goodIn_of _ (by decide +kernel)) ggX4_clear_X4_isRow
set_option maxRecDepth 20000 in
theorem ggX4_clear_X3_forgetRow : GoodIn wsX4_clear wsX3_forgetRow := goodIn_r _ [10, 11, 12, 13, 14, 9, 15, 16, 17, 18, 19, 20, 21, 22, 23, 28, 29, 30, 31, 32] (by decide +kernel) (by decide +kernel)
set_option maxRecDepth 20000 in
theorem gX4_clear_X3_forgetRow : GoodIn wsX4_clear (wsV RX4 136 RX3 yX3_forgetRow wsX3_forgetRow) := goodIn_app (goodIn_of _ (by decide +kernel)) ggX4_clear_X3_forgetRow
theorem dX4_clear_0 : decode cX4_clear 0 = .ok (.iload_n 1, 1) := by decide +kernel
theorem dX4_clear_1 : decode cX4_clear 1 = .ok (.invokestatic 90, 3) := by decide +kernel
theorem dX4_clear_4 : decode cX4_clear 4 = .ok (.ifCond .ne 5, 3) := by decide +kernel
theorem dX4_clear_7 : decode cX4_clear 7 = .ok (.iconst 0, 1) := by decide +kernel
theorem dX4_clear_8 : decode cX4_clear 8 = .ok (.ireturn, 1) := by decide +kernel
theorem dX4_clear_9 : decode cX4_clear 9 = .ok (.aload_n 0, 1) := by decide +kernel
theorem dX4_clear_10 : decode cX4_clear 10 = .ok (.getfield 26, 3) := by decide +kernel
theorem dX4_clear_13 : decode cX4_clear 13 = .ok (.iload_n 1, 1) := by decide +kernel
theorem dX4_clear_14 : decode cX4_clear 14 = .ok (.invokevirtual 136, 3) := by decide +kernel
theorem dX4_clear_17 : decode cX4_clear 17 = .ok (.iconst 1, 1) := by decide +kernel
theorem dX4_clear_18 : decode cX4_clear 18 = .ok (.ireturn, 1) := by decide +kernel
set_option maxRecDepth 20000 in
theorem ggX4_holds_X4_isSession : GoodIn wsX4_holds wsX4_isSession := goodIn_r _ [5] (by decide +kernel) (by decide +kernel)
set_option maxRecDepth 20000 in
theorem gX4_holds_X4_isSession : GoodIn wsX4_holds (va_wsS RX4 37 yX4_isSession wsX4_isSession) := goodIn_app (goodIn_of _ (by decide +kernel)) ggX4_holds_X4_isSession
set_option maxRecDepth 20000 in
theorem ggX4_holds_X4_isTable : GoodIn wsX4_holds wsX4_isTable := goodIn_r _ [8] (by decide +kernel) (by decide +kernel)
set_option maxRecDepth 20000 in
theorem gX4_holds_X4_isTable : GoodIn wsX4_holds (va_wsS RX4 58 yX4_isTable wsX4_isTable) := goodIn_app (goodIn_of _ (by decide +kernel)) ggX4_holds_X4_isTable
set_option maxRecDepth 20000 in
theorem ggX4_holds_X4_isMode : GoodIn wsX4_holds wsX4_isMode := goodIn_r _ [11] (by decide +kernel) (by decide +kernel)
set_option maxRecDepth 20000 in
theorem gX4_holds_X4_isMode : GoodIn wsX4_holds (va_wsS RX4 61 yX4_isMode wsX4_isMode) := goodIn_app (goodIn_of _ (by decide +kernel)) ggX4_holds_X4_isMode
set_option maxRecDepth 20000 in
theorem ggX4_holds_X0_levelOf : GoodIn wsX4_holds wsX0_levelOf := goodIn_r _ [16, 17, 18, 19, 15, 20, 25] (by decide +kernel) (by decide +kernel)
set_option maxRecDepth 20000 in
theorem gX4_holds_X0_levelOf : GoodIn wsX4_holds (wsV RX4 67 RX0 yX0_levelOf wsX0_levelOf) := goodIn_app (goodIn_of _ (by decide +kernel)) ggX4_holds_X0_levelOf
theorem dX4_holds_0 : decode cX4_holds 0 = .ok (.iload_n 1, 1) := by decide +kernel
theorem dX4_holds_1 : decode cX4_holds 1 = .ok (.invokestatic 37, 3) := by decide +kernel
theorem dX4_holds_4 : decode cX4_holds 4 = .ok (.ifCond .eq 17, 3) := by decide +kernel
theorem dX4_holds_7 : decode cX4_holds 7 = .ok (.iload_n 2, 1) := by decide +kernel
theorem dX4_holds_8 : decode cX4_holds 8 = .ok (.invokestatic 58, 3) := by decide +kernel
theorem dX4_holds_11 : decode cX4_holds 11 = .ok (.ifCond .eq 10, 3) := by decide +kernel
theorem dX4_holds_14 : decode cX4_holds 14 = .ok (.iload_n 3, 1) := by decide +kernel
theorem dX4_holds_15 : decode cX4_holds 15 = .ok (.invokestatic 61, 3) := by decide +kernel
theorem dX4_holds_18 : decode cX4_holds 18 = .ok (.ifCond .ne 5, 3) := by decide +kernel
theorem dX4_holds_21 : decode cX4_holds 21 = .ok (.iconst (-1), 1) := by decide +kernel
theorem dX4_holds_22 : decode cX4_holds 22 = .ok (.ireturn, 1) := by decide +kernel
theorem dX4_holds_23 : decode cX4_holds 23 = .ok (.aload_n 0, 1) := by decide +kernel
theorem dX4_holds_24 : decode cX4_holds 24 = .ok (.getfield 19, 3) := by decide +kernel
theorem dX4_holds_27 : decode cX4_holds 27 = .ok (.iload_n 1, 1) := by decide +kernel
theorem dX4_holds_28 : decode cX4_holds 28 = .ok (.iload_n 2, 1) := by decide +kernel
theorem dX4_holds_29 : decode cX4_holds 29 = .ok (.iload_n 3, 1) := by decide +kernel
theorem dX4_holds_30 : decode cX4_holds 30 = .ok (.invokevirtual 67, 3) := by decide +kernel
theorem dX4_holds_33 : decode cX4_holds 33 = .ok (.ireturn, 1) := by decide +kernel
set_option maxRecDepth 20000 in
theorem ggX4_locker_X3_signedNumberAt : GoodIn wsX4_locker wsX3_signedNumberAt := goodIn_r _ [6, 7, 8, 9, 10, 15, 16, 17, 18, 19] (by decide +kernel) (by decide +kernel)
set_option maxRecDepth 20000 in
theorem gX4_locker_X3_signedNumberAt : GoodIn wsX4_locker (wsV RX4 139 RX3 yX3_signedNumberAt wsX3_signedNumberAt) := goodIn_app (goodIn_of _ (by decide +kernel)) ggX4_locker_X3_signedNumberAt
theorem dX4_locker_0 : decode cX4_locker 0 = .ok (.aload_n 0, 1) := by decide +kernel
theorem dX4_locker_1 : decode cX4_locker 1 = .ok (.getfield 26, 3) := by decide +kernel
theorem dX4_locker_4 : decode cX4_locker 4 = .ok (.iload_n 1, 1) := by decide +kernel
theorem dX4_locker_5 : decode cX4_locker 5 = .ok (.iload_n 2, 1) := by decide +kernel
theorem dX4_locker_6 : decode cX4_locker 6 = .ok (.invokevirtual 139, 3) := by decide +kernel
theorem dX4_locker_9 : decode cX4_locker 9 = .ok (.ireturn, 1) := by decide +kernel
set_option maxRecDepth 20000 in
theorem ggX4_on_X4_waitsOn : GoodIn wsX4_on wsX4_waitsOn := goodIn_r _ [5, 6, 7, 8, 9, 10, 11, 12, 13, 14, 15, 16, 17, 18, 19, 20, 21, 22, 23, 24, 25, 26, 27, 28, 29, 30, 31, 32, 33, 34, 35, 36, 37, 38, 39, 40, 41, 42, 43, 44, 45, 46, 47, 48, 49, 50, 51, 52, 4, 53, 54, 55, 56, 57, 58, 59, 60, 61, 62, 63, 64, 65, 66, 67, 68, 69, 70, 71, 72, 73, 74, 75, 76, 77, 78, 79, 80, 81, 82, 83, 84, 85, 86, 87, 88, 89, 90, 91] (by decide +kernel) (by decide +kernel)
set_option maxRecDepth 20000 in
theorem gX4_on_X4_waitsOn : GoodIn wsX4_on (wsV RX4 114 RX4 yX4_waitsOn wsX4_waitsOn) := goodIn_app (goodIn_of _ (by decide +kernel)) ggX4_on_X4_waitsOn
theorem dX4_on_0 : decode cX4_on 0 = .ok (.aload_n 0, 1) := by decide +kernel
theorem dX4_on_1 : decode cX4_on 1 = .ok (.iload_n 1, 1) := by decide +kernel
theorem dX4_on_2 : decode cX4_on 2 = .ok (.invokevirtual 114, 3) := by decide +kernel
theorem dX4_on_5 : decode cX4_on 5 = .ok (.ireturn, 1) := by decide +kernel
set_option maxRecDepth 20000 in
theorem ggX4_waiting_X2_sessionAt : GoodIn wsX4_waiting wsX2_sessionAt := goodIn_r _ [6, 7, 8, 13, 14, 15, 16, 17, 18, 19] (by decide +kernel) (by decide +kernel)
set_option maxRecDepth 20000 in
theorem gX4_waiting_X2_sessionAt : GoodIn wsX4_waiting (wsV RX4 111 RX2 yX2_sessionAt wsX2_sessionAt) := goodIn_app (goodIn_of _ (by decide +kernel)) ggX4_waiting_X2_sessionAt
theorem dX4_waiting_0 : decode cX4_waiting 0 = .ok (.aload_n 0, 1) := by decide +kernel
theorem dX4_waiting_1 : decode cX4_waiting 1 = .ok (.getfield 33, 3) := by decide +kernel
theorem dX4_waiting_4 : decode cX4_waiting 4 = .ok (.iload_n 1, 1) := by decide +kernel
theorem dX4_waiting_5 : decode cX4_waiting 5 = .ok (.invokevirtual 111, 3) := by decide +kernel
theorem dX4_waiting_8 : decode cX4_waiting 8 = .ok (.ireturn, 1) := by decide +kernel
set_option maxRecDepth 20000 in
theorem ggX4_wish_X4_isSession : GoodIn wsX4_wish wsX4_isSession := goodIn_r _ [5] (by decide +kernel) (by decide +kernel)
set_option maxRecDepth 20000 in
theorem gX4_wish_X4_isSession : GoodIn wsX4_wish (va_wsS RX4 37 yX4_isSession wsX4_isSession) := goodIn_app (goodIn_of _ (by decide +kernel)) ggX4_wish_X4_isSession
set_option maxRecDepth 20000 in
theorem ggX4_wish_X2_contains : GoodIn wsX4_wish wsX2_contains := goodIn_r _ [10, 11, 12, 13, 9, 14, 15, 16, 45, 46, 47, 48, 49, 50, 51] (by decide +kernel) (by decide +kernel)
set_option maxRecDepth 20000 in
theorem gX4_wish_X2_contains : GoodIn wsX4_wish (wsV RX4 64 RX2 yX2_contains wsX2_contains) := goodIn_app (goodIn_of _ (by decide +kernel)) ggX4_wish_X2_contains
set_option maxRecDepth 20000 in
theorem ggX4_wish_X2_isForNumber : GoodIn wsX4_wish wsX2_isForNumber := goodIn_r _ [20, 21, 45, 46, 47, 48, 49, 50, 51] (by decide +kernel) (by decide +kernel)
set_option maxRecDepth 20000 in
theorem gX4_wish_X2_isForNumber : GoodIn wsX4_wish (wsV RX4 143 RX2 yX2_isForNumber wsX2_isForNumber) := goodIn_app (goodIn_of _ (by decide +kernel)) ggX4_wish_X2_isForNumber
set_option maxRecDepth 20000 in
theorem ggX4_wish_X2_numberOf : GoodIn wsX4_wish wsX2_numberOf := goodIn_r _ [25, 21, 45, 46, 47, 48, 49, 50, 51] (by decide +kernel) (by decide +kernel)
set_option maxRecDepth 20000 in
theorem gX4_wish_X2_numberOf : GoodIn wsX4_wish (wsV RX4 146 RX2 yX2_numberOf wsX2_numberOf) := goodIn_app (goodIn_of _ (by decide +kernel)) ggX4_wish_X2_numberOf
set_option maxRecDepth 20000 in
theorem ggX4_wish_X2_tableOf : GoodIn wsX4_wish wsX2_tableOf := goodIn_r _ [29, 30, 45, 46, 47, 48, 49, 50, 51] (by decide +kernel) (by decide +kernel)
set_option maxRecDepth 20000 in
theorem gX4_wish_X2_tableOf : GoodIn wsX4_wish (wsV RX4 149 RX2 yX2_tableOf wsX2_tableOf) := goodIn_app (goodIn_of _ (by decide +kernel)) ggX4_wish_X2_tableOf
set_option maxRecDepth 20000 in
theorem ggX4_wish_X2_modeOf : GoodIn wsX4_wish wsX2_modeOf := goodIn_r _ [34, 35, 45, 46, 47, 48, 49, 50, 51] (by decide +kernel) (by decide +kernel)
set_option maxRecDepth 20000 in
theorem gX4_wish_X2_modeOf : GoodIn wsX4_wish (wsV RX4 152 RX2 yX2_modeOf wsX2_modeOf) := goodIn_app (goodIn_of _ (by decide +kernel)) ggX4_wish_X2_modeOf
set_option maxRecDepth 20000 in
theorem ggX4_wish_X2_isDropped : GoodIn wsX4_wish wsX2_isDropped := goodIn_r _ [39, 40, 45, 46, 47, 48, 49, 50, 51] (by decide +kernel) (by decide +kernel)
set_option maxRecDepth 20000 in
theorem gX4_wish_X2_isDropped : GoodIn wsX4_wish (wsV RX4 155 RX2 yX2_isDropped wsX2_isDropped) := goodIn_app (goodIn_of _ (by decide +kernel)) ggX4_wish_X2_isDropped
theorem dX4_wish_0 : decode cX4_wish 0 = .ok (.iload_n 1, 1) := by decide +kernel
theorem dX4_wish_1 : decode cX4_wish 1 = .ok (.invokestatic 37, 3) := by decide +kernel
theorem dX4_wish_4 : decode cX4_wish 4 = .ok (.ifCond .ne 5, 3) := by decide +kernel
theorem dX4_wish_7 : decode cX4_wish 7 = .ok (.iconst (-1), 1) := by decide +kernel
theorem dX4_wish_8 : decode cX4_wish 8 = .ok (.ireturn, 1) := by decide +kernel
theorem dX4_wish_9 : decode cX4_wish 9 = .ok (.aload_n 0, 1) := by decide +kernel
theorem dX4_wish_10 : decode cX4_wish 10 = .ok (.getfield 33, 3) := by decide +kernel
theorem dX4_wish_13 : decode cX4_wish 13 = .ok (.iload_n 1, 1) := by decide +kernel
theorem dX4_wish_14 : decode cX4_wish 14 = .ok (.invokevirtual 64, 3) := by decide +kernel
theorem dX4_wish_17 : decode cX4_wish 17 = .ok (.ifCond .ne 5, 3) := by decide +kernel
theorem dX4_wish_20 : decode cX4_wish 20 = .ok (.iconst 0, 1) := by decide +kernel
theorem dX4_wish_21 : decode cX4_wish 21 = .ok (.ireturn, 1) := by decide +kernel
theorem dX4_wish_22 : decode cX4_wish 22 = .ok (.aload_n 0, 1) := by decide +kernel
theorem dX4_wish_23 : decode cX4_wish 23 = .ok (.getfield 33, 3) := by decide +kernel
theorem dX4_wish_26 : decode cX4_wish 26 = .ok (.iload_n 1, 1) := by decide +kernel
theorem dX4_wish_27 : decode cX4_wish 27 = .ok (.invokevirtual 143, 3) := by decide +kernel
theorem dX4_wish_30 : decode cX4_wish 30 = .ok (.ifCond .eq 16, 3) := by decide +kernel
theorem dX4_wish_33 : decode cX4_wish 33 = .ok (.sipush 10000, 3) := by decide +kernel
theorem dX4_wish_36 : decode cX4_wish 36 = .ok (.aload_n 0, 1) := by decide +kernel
theorem dX4_wish_37 : decode cX4_wish 37 = .ok (.getfield 33, 3) := by decide +kernel
theorem dX4_wish_40 : decode cX4_wish 40 = .ok (.iload_n 1, 1) := by decide +kernel
theorem dX4_wish_41 : decode cX4_wish 41 = .ok (.invokevirtual 146, 3) := by decide +kernel
theorem dX4_wish_44 : decode cX4_wish 44 = .ok (.iadd, 1) := by decide +kernel
theorem dX4_wish_45 : decode cX4_wish 45 = .ok (.ireturn, 1) := by decide +kernel
theorem dX4_wish_46 : decode cX4_wish 46 = .ok (.bipush 10, 2) := by decide +kernel
theorem dX4_wish_48 : decode cX4_wish 48 = .ok (.aload_n 0, 1) := by decide +kernel
theorem dX4_wish_49 : decode cX4_wish 49 = .ok (.getfield 33, 3) := by decide +kernel
theorem dX4_wish_52 : decode cX4_wish 52 = .ok (.iload_n 1, 1) := by decide +kernel
theorem dX4_wish_53 : decode cX4_wish 53 = .ok (.invokevirtual 149, 3) := by decide +kernel
theorem dX4_wish_56 : decode cX4_wish 56 = .ok (.imul, 1) := by decide +kernel
theorem dX4_wish_57 : decode cX4_wish 57 = .ok (.aload_n 0, 1) := by decide +kernel
theorem dX4_wish_58 : decode cX4_wish 58 = .ok (.getfield 33, 3) := by decide +kernel
theorem dX4_wish_61 : decode cX4_wish 61 = .ok (.iload_n 1, 1) := by decide +kernel
theorem dX4_wish_62 : decode cX4_wish 62 = .ok (.invokevirtual 152, 3) := by decide +kernel
theorem dX4_wish_65 : decode cX4_wish 65 = .ok (.iadd, 1) := by decide +kernel
theorem dX4_wish_66 : decode cX4_wish 66 = .ok (.istore_n 2, 1) := by decide +kernel
theorem dX4_wish_67 : decode cX4_wish 67 = .ok (.aload_n 0, 1) := by decide +kernel
theorem dX4_wish_68 : decode cX4_wish 68 = .ok (.getfield 33, 3) := by decide +kernel
theorem dX4_wish_71 : decode cX4_wish 71 = .ok (.iload_n 1, 1) := by decide +kernel
theorem dX4_wish_72 : decode cX4_wish 72 = .ok (.invokevirtual 155, 3) := by decide +kernel
theorem dX4_wish_75 : decode cX4_wish 75 = .ok (.ifCond .eq 11, 3) := by decide +kernel
theorem dX4_wish_78 : decode cX4_wish 78 = .ok (.sipush 1000, 3) := by decide +kernel
theorem dX4_wish_81 : decode cX4_wish 81 = .ok (.iload_n 2, 1) := by decide +kernel
theorem dX4_wish_82 : decode cX4_wish 82 = .ok (.iadd, 1) := by decide +kernel
theorem dX4_wish_83 : decode cX4_wish 83 = .ok (.goto 4, 3) := by decide +kernel
theorem dX4_wish_86 : decode cX4_wish 86 = .ok (.iload_n 2, 1) := by decide +kernel
theorem dX4_wish_87 : decode cX4_wish 87 = .ok (.ireturn, 1) := by decide +kernel
set_option maxRecDepth 20000 in
theorem ggX4_wake_X2_remove : GoodIn wsX4_wake wsX2_remove := goodIn_r _ [7, 8, 9, 48, 49, 50, 51, 52, 53, 54] (by decide +kernel) (by decide +kernel)
set_option maxRecDepth 20000 in
theorem gX4_wake_X2_remove : GoodIn wsX4_wake (wsV RX4 120 RX2 yX2_remove wsX2_remove) := goodIn_app (goodIn_of _ (by decide +kernel)) ggX4_wake_X2_remove
set_option maxRecDepth 20000 in
theorem ggX4_wake_X2_isForNumber : GoodIn wsX4_wake wsX2_isForNumber := goodIn_r _ [13, 14, 48, 49, 50, 51, 52, 53, 54] (by decide +kernel) (by decide +kernel)
set_option maxRecDepth 20000 in
theorem gX4_wake_X2_isForNumber : GoodIn wsX4_wake (wsV RX4 143 RX2 yX2_isForNumber wsX2_isForNumber) := goodIn_app (goodIn_of _ (by decide +kernel)) ggX4_wake_X2_isForNumber
set_option maxRecDepth 20000 in
theorem ggX4_wake_X2_isDropped : GoodIn wsX4_wake wsX2_isDropped := goodIn_r _ [18, 19, 48, 49, 50, 51, 52, 53, 54] (by decide +kernel) (by decide +kernel)
set_option maxRecDepth 20000 in
theorem gX4_wake_X2_isDropped : GoodIn wsX4_wake (wsV RX4 155 RX2 yX2_isDropped wsX2_isDropped) := goodIn_app (goodIn_of _ (by decide +kernel)) ggX4_wake_X2_isDropped
set_option maxRecDepth 20000 in
theorem ggX4_wake_X2_levelOf : GoodIn wsX4_wake wsX2_levelOf := goodIn_r _ [23, 24, 48, 49, 50, 51, 52, 53, 54] (by decide +kernel) (by decide +kernel)
set_option maxRecDepth 20000 in
theorem gX4_wake_X2_levelOf : GoodIn wsX4_wake (wsV RX4 158 RX2 yX2_levelOf wsX2_levelOf) := goodIn_app (goodIn_of _ (by decide +kernel)) ggX4_wake_X2_levelOf
set_option maxRecDepth 20000 in
theorem ggX4_wake_X2_tableOf : GoodIn wsX4_wake wsX2_tableOf := goodIn_r _ [28, 29, 48, 49, 50, 51, 52, 53, 54] (by decide +kernel) (by decide +kernel)
set_option maxRecDepth 20000 in
theorem gX4_wake_X2_tableOf : GoodIn wsX4_wake (wsV RX4 149 RX2 yX2_tableOf wsX2_tableOf) := goodIn_app (goodIn_of _ (by decide +kernel)) ggX4_wake_X2_tableOf
set_option maxRecDepth 20000 in
theorem ggX4_wake_X2_modeOf : GoodIn wsX4_wake wsX2_modeOf := goodIn_r _ [33, 34, 48, 49, 50, 51, 52, 53, 54] (by decide +kernel) (by decide +kernel)
set_option maxRecDepth 20000 in
theorem gX4_wake_X2_modeOf : GoodIn wsX4_wake (wsV RX4 152 RX2 yX2_modeOf wsX2_modeOf) := goodIn_app (goodIn_of _ (by decide +kernel)) ggX4_wake_X2_modeOf
set_option maxRecDepth 20000 in
theorem ggX4_wake_X0_take : GoodIn wsX4_wake wsX0_take := goodIn_r _ [39, 40, 41, 42, 38, 43, 55] (by decide +kernel) (by decide +kernel)
set_option maxRecDepth 20000 in
theorem gX4_wake_X0_take : GoodIn wsX4_wake (wsV RX4 79 RX0 yX0_take wsX0_take) := goodIn_app (goodIn_of _ (by decide +kernel)) ggX4_wake_X0_take
theorem dX4_wake_0 : decode cX4_wake 0 = .ok (.aload_n 0, 1) := by decide +kernel
theorem dX4_wake_1 : decode cX4_wake 1 = .ok (.getfield 33, 3) := by decide +kernel
theorem dX4_wake_4 : decode cX4_wake 4 = .ok (.iload_n 1, 1) := by decide +kernel
theorem dX4_wake_5 : decode cX4_wake 5 = .ok (.invokevirtual 120, 3) := by decide +kernel
theorem dX4_wake_8 : decode cX4_wake 8 = .ok (.aload_n 0, 1) := by decide +kernel
theorem dX4_wake_9 : decode cX4_wake 9 = .ok (.getfield 33, 3) := by decide +kernel
theorem dX4_wake_12 : decode cX4_wake 12 = .ok (.iload_n 1, 1) := by decide +kernel
theorem dX4_wake_13 : decode cX4_wake 13 = .ok (.invokevirtual 143, 3) := by decide +kernel
theorem dX4_wake_16 : decode cX4_wake 16 = .ok (.ifCond .eq 5, 3) := by decide +kernel
theorem dX4_wake_19 : decode cX4_wake 19 = .ok (.iload_n 1, 1) := by decide +kernel
theorem dX4_wake_20 : decode cX4_wake 20 = .ok (.ireturn, 1) := by decide +kernel
theorem dX4_wake_21 : decode cX4_wake 21 = .ok (.aload_n 0, 1) := by decide +kernel
theorem dX4_wake_22 : decode cX4_wake 22 = .ok (.getfield 33, 3) := by decide +kernel
theorem dX4_wake_25 : decode cX4_wake 25 = .ok (.iload_n 1, 1) := by decide +kernel
theorem dX4_wake_26 : decode cX4_wake 26 = .ok (.invokevirtual 155, 3) := by decide +kernel
theorem dX4_wake_29 : decode cX4_wake 29 = .ok (.ifCond .eq 8, 3) := by decide +kernel
theorem dX4_wake_32 : decode cX4_wake 32 = .ok (.iload_n 1, 1) := by decide +kernel
theorem dX4_wake_33 : decode cX4_wake 33 = .ok (.bipush 8, 2) := by decide +kernel
theorem dX4_wake_35 : decode cX4_wake 35 = .ok (.iadd, 1) := by decide +kernel
theorem dX4_wake_36 : decode cX4_wake 36 = .ok (.ireturn, 1) := by decide +kernel
theorem dX4_wake_37 : decode cX4_wake 37 = .ok (.aload_n 0, 1) := by decide +kernel
theorem dX4_wake_38 : decode cX4_wake 38 = .ok (.getfield 19, 3) := by decide +kernel
theorem dX4_wake_41 : decode cX4_wake 41 = .ok (.iload_n 1, 1) := by decide +kernel
theorem dX4_wake_42 : decode cX4_wake 42 = .ok (.aload_n 0, 1) := by decide +kernel
theorem dX4_wake_43 : decode cX4_wake 43 = .ok (.getfield 33, 3) := by decide +kernel
theorem dX4_wake_46 : decode cX4_wake 46 = .ok (.iload_n 1, 1) := by decide +kernel
theorem dX4_wake_47 : decode cX4_wake 47 = .ok (.invokevirtual 158, 3) := by decide +kernel
theorem dX4_wake_50 : decode cX4_wake 50 = .ok (.aload_n 0, 1) := by decide +kernel
theorem dX4_wake_51 : decode cX4_wake 51 = .ok (.getfield 33, 3) := by decide +kernel
theorem dX4_wake_54 : decode cX4_wake 54 = .ok (.iload_n 1, 1) := by decide +kernel
theorem dX4_wake_55 : decode cX4_wake 55 = .ok (.invokevirtual 149, 3) := by decide +kernel
theorem dX4_wake_58 : decode cX4_wake 58 = .ok (.aload_n 0, 1) := by decide +kernel
theorem dX4_wake_59 : decode cX4_wake 59 = .ok (.getfield 33, 3) := by decide +kernel
theorem dX4_wake_62 : decode cX4_wake 62 = .ok (.iload_n 1, 1) := by decide +kernel
theorem dX4_wake_63 : decode cX4_wake 63 = .ok (.invokevirtual 152, 3) := by decide +kernel
theorem dX4_wake_66 : decode cX4_wake 66 = .ok (.invokevirtual 79, 3) := by decide +kernel
theorem dX4_wake_69 : decode cX4_wake 69 = .ok (.iload_n 1, 1) := by decide +kernel
theorem dX4_wake_70 : decode cX4_wake 70 = .ok (.ireturn, 1) := by decide +kernel
set_option maxRecDepth 20000 in
theorem ggX4_waitsOn_X2_placeOf : GoodIn wsX4_waitsOn wsX2_placeOf := goodIn_r _ [7, 8, 9, 78, 79, 80, 81, 82, 83, 84] (by decide +kernel) (by decide +kernel)
set_option maxRecDepth 20000 in
theorem gX4_waitsOn_X2_placeOf : GoodIn wsX4_waitsOn (wsV RX4 160 RX2 yX2_placeOf wsX2_placeOf) := goodIn_app (goodIn_of _ (by decide +kernel)) ggX4_waitsOn_X2_placeOf
set_option maxRecDepth 20000 in
theorem ggX4_waitsOn_X2_isForNumber : GoodIn wsX4_waitsOn wsX2_isForNumber := goodIn_r _ [13, 14, 78, 79, 80, 81, 82, 83, 84] (by decide +kernel) (by decide +kernel)
set_option maxRecDepth 20000 in
theorem gX4_waitsOn_X2_isForNumber : GoodIn wsX4_waitsOn (wsV RX4 143 RX2 yX2_isForNumber wsX2_isForNumber) := goodIn_app (goodIn_of _ (by decide +kernel)) ggX4_waitsOn_X2_isForNumber
set_option maxRecDepth 20000 in
theorem ggX4_waitsOn_X2_numberOf : GoodIn wsX4_waitsOn wsX2_numberOf := goodIn_r _ [18, 14, 78, 79, 80, 81, 82, 83, 84] (by decide +kernel) (by decide +kernel)
set_option maxRecDepth 20000 in
theorem gX4_waitsOn_X2_numberOf : GoodIn wsX4_waitsOn (wsV RX4 146 RX2 yX2_numberOf wsX2_numberOf) := goodIn_app (goodIn_of _ (by decide +kernel)) ggX4_waitsOn_X2_numberOf
set_option maxRecDepth 20000 in
theorem ggX4_waitsOn_X1_runnerOf : GoodIn wsX4_waitsOn wsX1_runnerOf := goodIn_r _ [23, 24, 25, 26, 27, 22, 28, 29, 85, 86] (by decide +kernel) (by decide +kernel)
set_option maxRecDepth 20000 in
theorem gX4_waitsOn_X1_runnerOf : GoodIn wsX4_waitsOn (wsV RX4 45 RX1 yX1_runnerOf wsX1_runnerOf) := goodIn_app (goodIn_of _ (by decide +kernel)) ggX4_waitsOn_X1_runnerOf
set_option maxRecDepth 20000 in
theorem ggX4_waitsOn_X2_isDropped : GoodIn wsX4_waitsOn wsX2_isDropped := goodIn_r _ [33, 34, 78, 79, 80, 81, 82, 83, 84] (by decide +kernel) (by decide +kernel)
set_option maxRecDepth 20000 in
theorem gX4_waitsOn_X2_isDropped : GoodIn wsX4_waitsOn (wsV RX4 155 RX2 yX2_isDropped wsX2_isDropped) := goodIn_app (goodIn_of _ (by decide +kernel)) ggX4_waitsOn_X2_isDropped
set_option maxRecDepth 20000 in
theorem ggX4_waitsOn_X2_tableOf : GoodIn wsX4_waitsOn wsX2_tableOf := goodIn_r _ [38, 39, 78, 79, 80, 81, 82, 83, 84] (by decide +kernel) (by decide +kernel)
set_option maxRecDepth 20000 in
theorem gX4_waitsOn_X2_tableOf : GoodIn wsX4_waitsOn (wsV RX4 149 RX2 yX2_tableOf wsX2_tableOf) := goodIn_app (goodIn_of _ (by decide +kernel)) ggX4_waitsOn_X2_tableOf
set_option maxRecDepth 20000 in
theorem ggX4_waitsOn_X2_modeOf : GoodIn wsX4_waitsOn wsX2_modeOf := goodIn_r _ [43, 44, 78, 79, 80, 81, 82, 83, 84] (by decide +kernel) (by decide +kernel)
set_option maxRecDepth 20000 in
theorem gX4_waitsOn_X2_modeOf : GoodIn wsX4_waitsOn (wsV RX4 152 RX2 yX2_modeOf wsX2_modeOf) := goodIn_app (goodIn_of _ (by decide +kernel)) ggX4_waitsOn_X2_modeOf
set_option maxRecDepth 20000 in
theorem ggX4_waitsOn_X4_inTheWay : GoodIn wsX4_waitsOn wsX4_inTheWay := goodIn_r _ [49, 50, 1, 51, 52, 53, 54, 55, 56, 57, 48, 58, 59, 60, 61, 62, 63, 64, 65, 66, 67, 68, 6, 69, 8, 9, 44, 70, 71, 72, 73, 14, 39, 34, 74, 75, 76, 77, 87, 78, 79, 80, 81, 82, 83, 84] (by decide +kernel) (by decide +kernel)
set_option maxRecDepth 20000 in
theorem gX4_waitsOn_X4_inTheWay : GoodIn wsX4_waitsOn (wsV RX4 75 RX4 yX4_inTheWay wsX4_inTheWay) := goodIn_app (goodIn_of _ (by decide +kernel)) ggX4_waitsOn_X4_inTheWay
theorem dX4_waitsOn_0 : decode cX4_waitsOn 0 = .ok (.aload_n 0, 1) := by decide +kernel
theorem dX4_waitsOn_1 : decode cX4_waitsOn 1 = .ok (.getfield 33, 3) := by decide +kernel
theorem dX4_waitsOn_4 : decode cX4_waitsOn 4 = .ok (.iload_n 1, 1) := by decide +kernel
theorem dX4_waitsOn_5 : decode cX4_waitsOn 5 = .ok (.invokevirtual 160, 3) := by decide +kernel
theorem dX4_waitsOn_8 : decode cX4_waitsOn 8 = .ok (.istore_n 2, 1) := by decide +kernel
theorem dX4_waitsOn_9 : decode cX4_waitsOn 9 = .ok (.iload_n 2, 1) := by decide +kernel
theorem dX4_waitsOn_10 : decode cX4_waitsOn 10 = .ok (.iconst (-1), 1) := by decide +kernel
theorem dX4_waitsOn_11 : decode cX4_waitsOn 11 = .ok (.if_icmp .ne 5, 3) := by decide +kernel
theorem dX4_waitsOn_14 : decode cX4_waitsOn 14 = .ok (.iconst 0, 1) := by decide +kernel
theorem dX4_waitsOn_15 : decode cX4_waitsOn 15 = .ok (.ireturn, 1) := by decide +kernel
theorem dX4_waitsOn_16 : decode cX4_waitsOn 16 = .ok (.aload_n 0, 1) := by decide +kernel
theorem dX4_waitsOn_17 : decode cX4_waitsOn 17 = .ok (.getfield 33, 3) := by decide +kernel
theorem dX4_waitsOn_20 : decode cX4_waitsOn 20 = .ok (.iload_n 1, 1) := by decide +kernel
theorem dX4_waitsOn_21 : decode cX4_waitsOn 21 = .ok (.invokevirtual 143, 3) := by decide +kernel
theorem dX4_waitsOn_24 : decode cX4_waitsOn 24 = .ok (.ifCond .eq 32, 3) := by decide +kernel
theorem dX4_waitsOn_27 : decode cX4_waitsOn 27 = .ok (.aload_n 0, 1) := by decide +kernel
theorem dX4_waitsOn_28 : decode cX4_waitsOn 28 = .ok (.getfield 10, 3) := by decide +kernel
theorem dX4_waitsOn_31 : decode cX4_waitsOn 31 = .ok (.aload_n 0, 1) := by decide +kernel
theorem dX4_waitsOn_32 : decode cX4_waitsOn 32 = .ok (.getfield 33, 3) := by decide +kernel
theorem dX4_waitsOn_35 : decode cX4_waitsOn 35 = .ok (.iload_n 1, 1) := by decide +kernel
theorem dX4_waitsOn_36 : decode cX4_waitsOn 36 = .ok (.invokevirtual 146, 3) := by decide +kernel
theorem dX4_waitsOn_39 : decode cX4_waitsOn 39 = .ok (.invokevirtual 45, 3) := by decide +kernel
theorem dX4_waitsOn_42 : decode cX4_waitsOn 42 = .ok (.istore_n 3, 1) := by decide +kernel
theorem dX4_waitsOn_43 : decode cX4_waitsOn 43 = .ok (.iload_n 3, 1) := by decide +kernel
theorem dX4_waitsOn_44 : decode cX4_waitsOn 44 = .ok (.iconst (-1), 1) := by decide +kernel
theorem dX4_waitsOn_45 : decode cX4_waitsOn 45 = .ok (.if_icmp .ne 7, 3) := by decide +kernel
theorem dX4_waitsOn_48 : decode cX4_waitsOn 48 = .ok (.iconst 0, 1) := by decide +kernel
theorem dX4_waitsOn_49 : decode cX4_waitsOn 49 = .ok (.goto 6, 3) := by decide +kernel
theorem dX4_waitsOn_52 : decode cX4_waitsOn 52 = .ok (.iconst 1, 1) := by decide +kernel
theorem dX4_waitsOn_53 : decode cX4_waitsOn 53 = .ok (.iload_n 3, 1) := by decide +kernel
theorem dX4_waitsOn_54 : decode cX4_waitsOn 54 = .ok (.ishl, 1) := by decide +kernel
theorem dX4_waitsOn_55 : decode cX4_waitsOn 55 = .ok (.ireturn, 1) := by decide +kernel
theorem dX4_waitsOn_56 : decode cX4_waitsOn 56 = .ok (.aload_n 0, 1) := by decide +kernel
theorem dX4_waitsOn_57 : decode cX4_waitsOn 57 = .ok (.getfield 33, 3) := by decide +kernel
theorem dX4_waitsOn_60 : decode cX4_waitsOn 60 = .ok (.iload_n 1, 1) := by decide +kernel
theorem dX4_waitsOn_61 : decode cX4_waitsOn 61 = .ok (.invokevirtual 155, 3) := by decide +kernel
theorem dX4_waitsOn_64 : decode cX4_waitsOn 64 = .ok (.ifCond .eq 5, 3) := by decide +kernel
theorem dX4_waitsOn_67 : decode cX4_waitsOn 67 = .ok (.iconst 0, 1) := by decide +kernel
theorem dX4_waitsOn_68 : decode cX4_waitsOn 68 = .ok (.ireturn, 1) := by decide +kernel
theorem dX4_waitsOn_69 : decode cX4_waitsOn 69 = .ok (.aload_n 0, 1) := by decide +kernel
theorem dX4_waitsOn_70 : decode cX4_waitsOn 70 = .ok (.iload_n 1, 1) := by decide +kernel
theorem dX4_waitsOn_71 : decode cX4_waitsOn 71 = .ok (.aload_n 0, 1) := by decide +kernel
theorem dX4_waitsOn_72 : decode cX4_waitsOn 72 = .ok (.getfield 33, 3) := by decide +kernel
theorem dX4_waitsOn_75 : decode cX4_waitsOn 75 = .ok (.iload_n 1, 1) := by decide +kernel
theorem dX4_waitsOn_76 : decode cX4_waitsOn 76 = .ok (.invokevirtual 149, 3) := by decide +kernel
theorem dX4_waitsOn_79 : decode cX4_waitsOn 79 = .ok (.aload_n 0, 1) := by decide +kernel
theorem dX4_waitsOn_80 : decode cX4_waitsOn 80 = .ok (.getfield 33, 3) := by decide +kernel
theorem dX4_waitsOn_83 : decode cX4_waitsOn 83 = .ok (.iload_n 1, 1) := by decide +kernel
theorem dX4_waitsOn_84 : decode cX4_waitsOn 84 = .ok (.invokevirtual 152, 3) := by decide +kernel
theorem dX4_waitsOn_87 : decode cX4_waitsOn 87 = .ok (.iload_n 2, 1) := by decide +kernel
theorem dX4_waitsOn_88 : decode cX4_waitsOn 88 = .ok (.invokevirtual 75, 3) := by decide +kernel
theorem dX4_waitsOn_91 : decode cX4_waitsOn 91 = .ok (.ireturn, 1) := by decide +kernel
set_option maxRecDepth 20000 in
theorem ggX4_inTheWay_X0_standAgainst : GoodIn wsX4_inTheWay wsX0_standAgainst := goodIn_r _ [7, 8, 9, 10, 11, 12, 13, 14, 15, 16, 17, 6, 18, 38] (by decide +kernel) (by decide +kernel)
set_option maxRecDepth 20000 in
theorem gX4_inTheWay_X0_standAgainst : GoodIn wsX4_inTheWay (wsV RX4 163 RX0 yX0_standAgainst wsX0_standAgainst) := goodIn_app (goodIn_of _ (by decide +kernel)) ggX4_inTheWay_X0_standAgainst
set_option maxRecDepth 20000 in
theorem ggX4_inTheWay_X2_earlierAgainst : GoodIn wsX4_inTheWay wsX2_earlierAgainst := goodIn_r _ [23, 24, 25, 26, 27, 28, 29, 22, 30, 31, 32, 33, 9, 10, 11, 12, 13, 14, 15, 39, 40, 41, 42, 43, 44, 45] (by decide +kernel) (by decide +kernel)
set_option maxRecDepth 20000 in
theorem gX4_inTheWay_X2_earlierAgainst : GoodIn wsX4_inTheWay (wsV RX4 166 RX2 yX2_earlierAgainst wsX2_earlierAgainst) := goodIn_app (goodIn_of _ (by decide +kernel)) ggX4_inTheWay_X2_earlierAgainst
theorem dX4_inTheWay_0 : decode cX4_inTheWay 0 = .ok (.iconst 0, 1) := by decide +kernel
theorem dX4_inTheWay_1 : decode cX4_inTheWay 1 = .ok (.istore 5, 2) := by decide +kernel
theorem dX4_inTheWay_3 : decode cX4_inTheWay 3 = .ok (.iconst 0, 1) := by decide +kernel
theorem dX4_inTheWay_4 : decode cX4_inTheWay 4 = .ok (.istore 6, 2) := by decide +kernel
theorem dX4_inTheWay_6 : decode cX4_inTheWay 6 = .ok (.iload 6, 2) := by decide +kernel
theorem dX4_inTheWay_8 : decode cX4_inTheWay 8 = .ok (.bipush 6, 2) := by decide +kernel
theorem dX4_inTheWay_10 : decode cX4_inTheWay 10 = .ok (.if_icmp .ge 38, 3) := by decide +kernel
theorem dX4_inTheWay_13 : decode cX4_inTheWay 13 = .ok (.iload 6, 2) := by decide +kernel
theorem dX4_inTheWay_15 : decode cX4_inTheWay 15 = .ok (.iload_n 1, 1) := by decide +kernel
theorem dX4_inTheWay_16 : decode cX4_inTheWay 16 = .ok (.if_icmp .eq 26, 3) := by decide +kernel
theorem dX4_inTheWay_19 : decode cX4_inTheWay 19 = .ok (.aload_n 0, 1) := by decide +kernel
theorem dX4_inTheWay_20 : decode cX4_inTheWay 20 = .ok (.getfield 19, 3) := by decide +kernel
theorem dX4_inTheWay_23 : decode cX4_inTheWay 23 = .ok (.iload 6, 2) := by decide +kernel
theorem dX4_inTheWay_25 : decode cX4_inTheWay 25 = .ok (.iload_n 2, 1) := by decide +kernel
theorem dX4_inTheWay_26 : decode cX4_inTheWay 26 = .ok (.iload_n 3, 1) := by decide +kernel
theorem dX4_inTheWay_27 : decode cX4_inTheWay 27 = .ok (.invokevirtual 163, 3) := by decide +kernel
theorem dX4_inTheWay_30 : decode cX4_inTheWay 30 = .ok (.ifCond .eq 12, 3) := by decide +kernel
theorem dX4_inTheWay_33 : decode cX4_inTheWay 33 = .ok (.iload 5, 2) := by decide +kernel
theorem dX4_inTheWay_35 : decode cX4_inTheWay 35 = .ok (.iconst 1, 1) := by decide +kernel
theorem dX4_inTheWay_36 : decode cX4_inTheWay 36 = .ok (.iload 6, 2) := by decide +kernel
theorem dX4_inTheWay_38 : decode cX4_inTheWay 38 = .ok (.ishl, 1) := by decide +kernel
theorem dX4_inTheWay_39 : decode cX4_inTheWay 39 = .ok (.ior, 1) := by decide +kernel
theorem dX4_inTheWay_40 : decode cX4_inTheWay 40 = .ok (.istore 5, 2) := by decide +kernel
theorem dX4_inTheWay_42 : decode cX4_inTheWay 42 = .ok (.iinc 6 1, 3) := by decide +kernel
theorem dX4_inTheWay_45 : decode cX4_inTheWay 45 = .ok (.goto (-39), 3) := by decide +kernel
theorem dX4_inTheWay_48 : decode cX4_inTheWay 48 = .ok (.iload 5, 2) := by decide +kernel
theorem dX4_inTheWay_50 : decode cX4_inTheWay 50 = .ok (.aload_n 0, 1) := by decide +kernel
theorem dX4_inTheWay_51 : decode cX4_inTheWay 51 = .ok (.getfield 33, 3) := by decide +kernel
theorem dX4_inTheWay_54 : decode cX4_inTheWay 54 = .ok (.iload_n 2, 1) := by decide +kernel
theorem dX4_inTheWay_55 : decode cX4_inTheWay 55 = .ok (.iload_n 3, 1) := by decide +kernel
theorem dX4_inTheWay_56 : decode cX4_inTheWay 56 = .ok (.iload 4, 2) := by decide +kernel
theorem dX4_inTheWay_58 : decode cX4_inTheWay 58 = .ok (.invokevirtual 166, 3) := by decide +kernel
theorem dX4_inTheWay_61 : decode cX4_inTheWay 61 = .ok (.ior, 1) := by decide +kernel
theorem dX4_inTheWay_62 : decode cX4_inTheWay 62 = .ok (.ireturn, 1) := by decide +kernel
set_option maxRecDepth 20000 in
theorem ggX4_closesRing_X4_has : GoodIn wsX4_closesRing wsX4_has := goodIn_r _ [4] (by decide +kernel) (by decide +kernel)
set_option maxRecDepth 20000 in
theorem gX4_closesRing_X4_has : GoodIn wsX4_closesRing (va_wsS RX4 169 yX4_has wsX4_has) := goodIn_app (goodIn_of _ (by decide +kernel)) ggX4_closesRing_X4_has
set_option maxRecDepth 20000 in
theorem ggX4_closesRing_X4_waitsOn : GoodIn wsX4_closesRing wsX4_waitsOn := goodIn_r _ [8, 9, 10, 11, 12, 13, 14, 15, 16, 17, 18, 19, 20, 21, 22, 23, 24, 25, 26, 27, 28, 29, 30, 31, 32, 33, 34, 35, 36, 37, 38, 39, 40, 41, 42, 43, 44, 45, 46, 47, 48, 49, 50, 51, 52, 53, 54, 55, 3, 56, 57, 58, 59, 60, 61, 62, 63, 64, 65, 66, 1, 2, 4, 67, 68, 69, 70, 71, 72, 73, 74, 75, 76, 77, 78, 79, 80, 81, 82, 83, 84, 85, 86, 87, 88, 89, 90, 91] (by decide +kernel) (by decide +kernel)
set_option maxRecDepth 20000 in
theorem gX4_closesRing_X4_waitsOn : GoodIn wsX4_closesRing (wsV RX4 114 RX4 yX4_waitsOn wsX4_waitsOn) := goodIn_app (goodIn_of _ (by decide +kernel)) ggX4_closesRing_X4_waitsOn
theorem dX4_closesRing_0 : decode cX4_closesRing 0 = .ok (.iload_n 2, 1) := by decide +kernel
theorem dX4_closesRing_1 : decode cX4_closesRing 1 = .ok (.istore_n 3, 1) := by decide +kernel
theorem dX4_closesRing_2 : decode cX4_closesRing 2 = .ok (.iconst 0, 1) := by decide +kernel
theorem dX4_closesRing_3 : decode cX4_closesRing 3 = .ok (.istore 4, 2) := by decide +kernel
theorem dX4_closesRing_5 : decode cX4_closesRing 5 = .ok (.iload 4, 2) := by decide +kernel
