theorem dX2_addForTable_12 : decode cX2_addForTable 12 = .ok (.iload_n 3, 1) := by decide +kernel
theorem dX2_addForTable_13 : decode cX2_addForTable 13 = .ok (.iastore, 1) := by decide +kernel
theorem dX2_addForTable_14 : decode cX2_addForTable 14 = .ok (.aload_n 0, 1) := by decide +kernel
theorem dX2_addForTable_15 : decode cX2_addForTable 15 = .ok (.getfield 25, 3) := by decide +kernel
theorem dX2_addForTable_18 : decode cX2_addForTable 18 = .ok (.iload_n 1, 1) := by decide +kernel
theorem dX2_addForTable_19 : decode cX2_addForTable 19 = .ok (.iload 4, 2) := by decide +kernel
theorem dX2_addForTable_21 : decode cX2_addForTable 21 = .ok (.iastore, 1) := by decide +kernel
theorem dX2_addForTable_22 : decode cX2_addForTable 22 = .ok (.aload_n 0, 1) := by decide +kernel
theorem dX2_addForTable_23 : decode cX2_addForTable 23 = .ok (.getfield 28, 3) := by decide +kernel
theorem dX2_addForTable_26 : decode cX2_addForTable 26 = .ok (.iload_n 1, 1) := by decide +kernel
theorem dX2_addForTable_27 : decode cX2_addForTable 27 = .ok (.iload_n 2, 1) := by decide +kernel
theorem dX2_addForTable_28 : decode cX2_addForTable 28 = .ok (.iastore, 1) := by decide +kernel
theorem dX2_addForTable_29 : decode cX2_addForTable 29 = .ok (.aload_n 0, 1) := by decide +kernel
theorem dX2_addForTable_30 : decode cX2_addForTable 30 = .ok (.getfield 31, 3) := by decide +kernel
theorem dX2_addForTable_33 : decode cX2_addForTable 33 = .ok (.iload_n 1, 1) := by decide +kernel
theorem dX2_addForTable_34 : decode cX2_addForTable 34 = .ok (.iconst 0, 1) := by decide +kernel
theorem dX2_addForTable_35 : decode cX2_addForTable 35 = .ok (.bastore, 1) := by decide +kernel
theorem dX2_addForTable_36 : decode cX2_addForTable 36 = .ok (.aload_n 0, 1) := by decide +kernel
theorem dX2_addForTable_37 : decode cX2_addForTable 37 = .ok (.iload_n 1, 1) := by decide +kernel
theorem dX2_addForTable_38 : decode cX2_addForTable 38 = .ok (.invokevirtual 39, 3) := by decide +kernel
theorem dX2_addForTable_41 : decode cX2_addForTable 41 = .ok (.return_, 1) := by decide +kernel
set_option maxRecDepth 20000 in
theorem ggX2_addForNumber_X2_append : GoodIn wsX2_addForNumber wsX2_append := goodIn_r _ [6, 7, 8, 9, 10, 11, 12, 13, 14, 15] (by decide +kernel) (by decide +kernel)
set_option maxRecDepth 20000 in
theorem gX2_addForNumber_X2_append : GoodIn wsX2_addForNumber (wsV RX2 39 RX2 yX2_append wsX2_append) := goodIn_app (goodIn_of _ (by decide +kernel)) ggX2_addForNumber_X2_append
theorem dX2_addForNumber_0 : decode cX2_addForNumber 0 = .ok (.aload_n 0, 1) := by decide +kernel
theorem dX2_addForNumber_1 : decode cX2_addForNumber 1 = .ok (.getfield 19, 3) := by decide +kernel
theorem dX2_addForNumber_4 : decode cX2_addForNumber 4 = .ok (.iload_n 1, 1) := by decide +kernel
theorem dX2_addForNumber_5 : decode cX2_addForNumber 5 = .ok (.iload_n 2, 1) := by decide +kernel
theorem dX2_addForNumber_6 : decode cX2_addForNumber 6 = .ok (.iastore, 1) := by decide +kernel
theorem dX2_addForNumber_7 : decode cX2_addForNumber 7 = .ok (.aload_n 0, 1) := by decide +kernel
theorem dX2_addForNumber_8 : decode cX2_addForNumber 8 = .ok (.iload_n 1, 1) := by decide +kernel
theorem dX2_addForNumber_9 : decode cX2_addForNumber 9 = .ok (.invokevirtual 39, 3) := by decide +kernel
theorem dX2_addForNumber_12 : decode cX2_addForNumber 12 = .ok (.return_, 1) := by decide +kernel
theorem dX2_remove_0 : decode cX2_remove 0 = .ok (.iconst 0, 1) := by decide +kernel
theorem dX2_remove_1 : decode cX2_remove 1 = .ok (.istore_n 2, 1) := by decide +kernel
theorem dX2_remove_2 : decode cX2_remove 2 = .ok (.iconst 0, 1) := by decide +kernel
theorem dX2_remove_3 : decode cX2_remove 3 = .ok (.istore_n 3, 1) := by decide +kernel
theorem dX2_remove_4 : decode cX2_remove 4 = .ok (.iload_n 3, 1) := by decide +kernel
theorem dX2_remove_5 : decode cX2_remove 5 = .ok (.aload_n 0, 1) := by decide +kernel
theorem dX2_remove_6 : decode cX2_remove 6 = .ok (.getfield 15, 3) := by decide +kernel
theorem dX2_remove_9 : decode cX2_remove 9 = .ok (.if_icmp .ge 34, 3) := by decide +kernel
theorem dX2_remove_12 : decode cX2_remove 12 = .ok (.aload_n 0, 1) := by decide +kernel
theorem dX2_remove_13 : decode cX2_remove 13 = .ok (.getfield 9, 3) := by decide +kernel
theorem dX2_remove_16 : decode cX2_remove 16 = .ok (.iload_n 3, 1) := by decide +kernel
theorem dX2_remove_17 : decode cX2_remove 17 = .ok (.iaload, 1) := by decide +kernel
theorem dX2_remove_18 : decode cX2_remove 18 = .ok (.iload_n 1, 1) := by decide +kernel
theorem dX2_remove_19 : decode cX2_remove 19 = .ok (.if_icmp .eq 18, 3) := by decide +kernel
theorem dX2_remove_22 : decode cX2_remove 22 = .ok (.aload_n 0, 1) := by decide +kernel
theorem dX2_remove_23 : decode cX2_remove 23 = .ok (.getfield 9, 3) := by decide +kernel
theorem dX2_remove_26 : decode cX2_remove 26 = .ok (.iload_n 2, 1) := by decide +kernel
theorem dX2_remove_27 : decode cX2_remove 27 = .ok (.aload_n 0, 1) := by decide +kernel
theorem dX2_remove_28 : decode cX2_remove 28 = .ok (.getfield 9, 3) := by decide +kernel
theorem dX2_remove_31 : decode cX2_remove 31 = .ok (.iload_n 3, 1) := by decide +kernel
theorem dX2_remove_32 : decode cX2_remove 32 = .ok (.iaload, 1) := by decide +kernel
theorem dX2_remove_33 : decode cX2_remove 33 = .ok (.iastore, 1) := by decide +kernel
theorem dX2_remove_34 : decode cX2_remove 34 = .ok (.iinc 2 1, 3) := by decide +kernel
theorem dX2_remove_37 : decode cX2_remove 37 = .ok (.iinc 3 1, 3) := by decide +kernel
theorem dX2_remove_40 : decode cX2_remove 40 = .ok (.goto (-36), 3) := by decide +kernel
theorem dX2_remove_43 : decode cX2_remove 43 = .ok (.aload_n 0, 1) := by decide +kernel
theorem dX2_remove_44 : decode cX2_remove 44 = .ok (.iload_n 2, 1) := by decide +kernel
theorem dX2_remove_45 : decode cX2_remove 45 = .ok (.putfield 15, 3) := by decide +kernel
theorem dX2_remove_48 : decode cX2_remove 48 = .ok (.return_, 1) := by decide +kernel
set_option maxRecDepth 20000 in
theorem ggX2_earlierAgainst_X2_wants : GoodIn wsX2_earlierAgainst wsX2_wants := goodIn_r _ [8, 9, 10, 11, 19, 20, 21, 22, 23, 24, 25] (by decide +kernel) (by decide +kernel)
set_option maxRecDepth 20000 in
theorem gX2_earlierAgainst_X2_wants : GoodIn wsX2_earlierAgainst (wsV RX2 43 RX2 yX2_wants wsX2_wants) := goodIn_app (goodIn_of _ (by decide +kernel)) ggX2_earlierAgainst_X2_wants
set_option maxRecDepth 20000 in
theorem ggX2_earlierAgainst_X4_conflict : GoodIn wsX2_earlierAgainst wsX4_conflict := goodIn_r _ [14, 15, 16, 17, 13, 18] (by decide +kernel) (by decide +kernel)
set_option maxRecDepth 20000 in
theorem gX2_earlierAgainst_X4_conflict_n47 : GoodIn wsX2_earlierAgainst (wsX4_conflict) := ggX2_earlierAgainst_X4_conflict
theorem dX2_earlierAgainst_0 : decode cX2_earlierAgainst 0 = .ok (.iconst 0, 1) := by decide +kernel
theorem dX2_earlierAgainst_1 : decode cX2_earlierAgainst 1 = .ok (.istore 4, 2) := by decide +kernel
theorem dX2_earlierAgainst_3 : decode cX2_earlierAgainst 3 = .ok (.iconst 0, 1) := by decide +kernel
theorem dX2_earlierAgainst_4 : decode cX2_earlierAgainst 4 = .ok (.istore 5, 2) := by decide +kernel
theorem dX2_earlierAgainst_6 : decode cX2_earlierAgainst 6 = .ok (.iload 5, 2) := by decide +kernel
theorem dX2_earlierAgainst_8 : decode cX2_earlierAgainst 8 = .ok (.aload_n 0, 1) := by decide +kernel
theorem dX2_earlierAgainst_9 : decode cX2_earlierAgainst 9 = .ok (.getfield 15, 3) := by decide +kernel
theorem dX2_earlierAgainst_12 : decode cX2_earlierAgainst 12 = .ok (.if_icmp .ge 57, 3) := by decide +kernel
theorem dX2_earlierAgainst_15 : decode cX2_earlierAgainst 15 = .ok (.iload 5, 2) := by decide +kernel
theorem dX2_earlierAgainst_17 : decode cX2_earlierAgainst 17 = .ok (.iload_n 3, 1) := by decide +kernel
theorem dX2_earlierAgainst_18 : decode cX2_earlierAgainst 18 = .ok (.if_icmp .ge 51, 3) := by decide +kernel
theorem dX2_earlierAgainst_21 : decode cX2_earlierAgainst 21 = .ok (.aload_n 0, 1) := by decide +kernel
theorem dX2_earlierAgainst_22 : decode cX2_earlierAgainst 22 = .ok (.getfield 9, 3) := by decide +kernel
theorem dX2_earlierAgainst_25 : decode cX2_earlierAgainst 25 = .ok (.iload 5, 2) := by decide +kernel
theorem dX2_earlierAgainst_27 : decode cX2_earlierAgainst 27 = .ok (.iaload, 1) := by decide +kernel
theorem dX2_earlierAgainst_28 : decode cX2_earlierAgainst 28 = .ok (.istore 6, 2) := by decide +kernel
theorem dX2_earlierAgainst_30 : decode cX2_earlierAgainst 30 = .ok (.aload_n 0, 1) := by decide +kernel
theorem dX2_earlierAgainst_31 : decode cX2_earlierAgainst 31 = .ok (.iload 6, 2) := by decide +kernel
theorem dX2_earlierAgainst_33 : decode cX2_earlierAgainst 33 = .ok (.iload_n 1, 1) := by decide +kernel
theorem dX2_earlierAgainst_34 : decode cX2_earlierAgainst 34 = .ok (.invokevirtual 43, 3) := by decide +kernel
theorem dX2_earlierAgainst_37 : decode cX2_earlierAgainst 37 = .ok (.ifCond .eq 26, 3) := by decide +kernel
theorem dX2_earlierAgainst_40 : decode cX2_earlierAgainst 40 = .ok (.iload_n 2, 1) := by decide +kernel
theorem dX2_earlierAgainst_41 : decode cX2_earlierAgainst 41 = .ok (.aload_n 0, 1) := by decide +kernel
theorem dX2_earlierAgainst_42 : decode cX2_earlierAgainst 42 = .ok (.getfield 25, 3) := by decide +kernel
theorem dX2_earlierAgainst_45 : decode cX2_earlierAgainst 45 = .ok (.iload 6, 2) := by decide +kernel
theorem dX2_earlierAgainst_47 : decode cX2_earlierAgainst 47 = .ok (.iaload, 1) := by decide +kernel
theorem dX2_earlierAgainst_48 : decode cX2_earlierAgainst 48 = .ok (.invokestatic 47, 3) := by decide +kernel
theorem dX2_earlierAgainst_51 : decode cX2_earlierAgainst 51 = .ok (.ifCond .eq 12, 3) := by decide +kernel
theorem dX2_earlierAgainst_54 : decode cX2_earlierAgainst 54 = .ok (.iload 4, 2) := by decide +kernel
theorem dX2_earlierAgainst_56 : decode cX2_earlierAgainst 56 = .ok (.iconst 1, 1) := by decide +kernel
theorem dX2_earlierAgainst_57 : decode cX2_earlierAgainst 57 = .ok (.iload 6, 2) := by decide +kernel
theorem dX2_earlierAgainst_59 : decode cX2_earlierAgainst 59 = .ok (.ishl, 1) := by decide +kernel
theorem dX2_earlierAgainst_60 : decode cX2_earlierAgainst 60 = .ok (.ior, 1) := by decide +kernel
theorem dX2_earlierAgainst_61 : decode cX2_earlierAgainst 61 = .ok (.istore 4, 2) := by decide +kernel
theorem dX2_earlierAgainst_63 : decode cX2_earlierAgainst 63 = .ok (.iinc 5 1, 3) := by decide +kernel
theorem dX2_earlierAgainst_66 : decode cX2_earlierAgainst 66 = .ok (.goto (-60), 3) := by decide +kernel
theorem dX2_earlierAgainst_69 : decode cX2_earlierAgainst 69 = .ok (.iload 4, 2) := by decide +kernel
theorem dX2_earlierAgainst_71 : decode cX2_earlierAgainst 71 = .ok (.ireturn, 1) := by decide +kernel
set_option maxRecDepth 20000 in
theorem ggX2_markDropped_X2_wants : GoodIn wsX2_markDropped wsX2_wants := goodIn_r _ [8, 9, 10, 3, 11, 12, 13, 14, 15, 16, 17] (by decide +kernel) (by decide +kernel)
set_option maxRecDepth 20000 in
theorem gX2_markDropped_X2_wants : GoodIn wsX2_markDropped (wsV RX2 43 RX2 yX2_wants wsX2_wants) := goodIn_app (goodIn_of _ (by decide +kernel)) ggX2_markDropped_X2_wants
theorem dX2_markDropped_0 : decode cX2_markDropped 0 = .ok (.iconst 0, 1) := by decide +kernel
theorem dX2_markDropped_1 : decode cX2_markDropped 1 = .ok (.istore_n 2, 1) := by decide +kernel
theorem dX2_markDropped_2 : decode cX2_markDropped 2 = .ok (.iload_n 2, 1) := by decide +kernel
theorem dX2_markDropped_3 : decode cX2_markDropped 3 = .ok (.aload_n 0, 1) := by decide +kernel
theorem dX2_markDropped_4 : decode cX2_markDropped 4 = .ok (.getfield 15, 3) := by decide +kernel
theorem dX2_markDropped_7 : decode cX2_markDropped 7 = .ok (.if_icmp .ge 35, 3) := by decide +kernel
theorem dX2_markDropped_10 : decode cX2_markDropped 10 = .ok (.aload_n 0, 1) := by decide +kernel
theorem dX2_markDropped_11 : decode cX2_markDropped 11 = .ok (.aload_n 0, 1) := by decide +kernel
theorem dX2_markDropped_12 : decode cX2_markDropped 12 = .ok (.getfield 9, 3) := by decide +kernel
theorem dX2_markDropped_15 : decode cX2_markDropped 15 = .ok (.iload_n 2, 1) := by decide +kernel
theorem dX2_markDropped_16 : decode cX2_markDropped 16 = .ok (.iaload, 1) := by decide +kernel
theorem dX2_markDropped_17 : decode cX2_markDropped 17 = .ok (.iload_n 1, 1) := by decide +kernel
theorem dX2_markDropped_18 : decode cX2_markDropped 18 = .ok (.invokevirtual 43, 3) := by decide +kernel
theorem dX2_markDropped_21 : decode cX2_markDropped 21 = .ok (.ifCond .eq 15, 3) := by decide +kernel
theorem dX2_markDropped_24 : decode cX2_markDropped 24 = .ok (.aload_n 0, 1) := by decide +kernel
theorem dX2_markDropped_25 : decode cX2_markDropped 25 = .ok (.getfield 31, 3) := by decide +kernel
theorem dX2_markDropped_28 : decode cX2_markDropped 28 = .ok (.aload_n 0, 1) := by decide +kernel
theorem dX2_markDropped_29 : decode cX2_markDropped 29 = .ok (.getfield 9, 3) := by decide +kernel
theorem dX2_markDropped_32 : decode cX2_markDropped 32 = .ok (.iload_n 2, 1) := by decide +kernel
theorem dX2_markDropped_33 : decode cX2_markDropped 33 = .ok (.iaload, 1) := by decide +kernel
theorem dX2_markDropped_34 : decode cX2_markDropped 34 = .ok (.iconst 1, 1) := by decide +kernel
theorem dX2_markDropped_35 : decode cX2_markDropped 35 = .ok (.bastore, 1) := by decide +kernel
theorem dX2_markDropped_36 : decode cX2_markDropped 36 = .ok (.iinc 2 1, 3) := by decide +kernel
theorem dX2_markDropped_39 : decode cX2_markDropped 39 = .ok (.goto (-37), 3) := by decide +kernel
theorem dX2_markDropped_42 : decode cX2_markDropped 42 = .ok (.return_, 1) := by decide +kernel
theorem dX2_lower_0 : decode cX2_lower 0 = .ok (.aload_n 0, 1) := by decide +kernel
theorem dX2_lower_1 : decode cX2_lower 1 = .ok (.getfield 28, 3) := by decide +kernel
theorem dX2_lower_4 : decode cX2_lower 4 = .ok (.iload_n 1, 1) := by decide +kernel
theorem dX2_lower_5 : decode cX2_lower 5 = .ok (.iaload, 1) := by decide +kernel
theorem dX2_lower_6 : decode cX2_lower 6 = .ok (.iload_n 2, 1) := by decide +kernel
theorem dX2_lower_7 : decode cX2_lower 7 = .ok (.if_icmp .lt 12, 3) := by decide +kernel
theorem dX2_lower_10 : decode cX2_lower 10 = .ok (.aload_n 0, 1) := by decide +kernel
theorem dX2_lower_11 : decode cX2_lower 11 = .ok (.getfield 28, 3) := by decide +kernel
theorem dX2_lower_14 : decode cX2_lower 14 = .ok (.iload_n 1, 1) := by decide +kernel
theorem dX2_lower_15 : decode cX2_lower 15 = .ok (.iload_n 2, 1) := by decide +kernel
theorem dX2_lower_16 : decode cX2_lower 16 = .ok (.iconst 1, 1) := by decide +kernel
theorem dX2_lower_17 : decode cX2_lower 17 = .ok (.isub, 1) := by decide +kernel
theorem dX2_lower_18 : decode cX2_lower 18 = .ok (.iastore, 1) := by decide +kernel
theorem dX2_lower_19 : decode cX2_lower 19 = .ok (.return_, 1) := by decide +kernel
theorem dX2_isForNumber_0 : decode cX2_isForNumber 0 = .ok (.aload_n 0, 1) := by decide +kernel
theorem dX2_isForNumber_1 : decode cX2_isForNumber 1 = .ok (.getfield 19, 3) := by decide +kernel
theorem dX2_isForNumber_4 : decode cX2_isForNumber 4 = .ok (.iload_n 1, 1) := by decide +kernel
theorem dX2_isForNumber_5 : decode cX2_isForNumber 5 = .ok (.iaload, 1) := by decide +kernel
theorem dX2_isForNumber_6 : decode cX2_isForNumber 6 = .ok (.ifCond .eq 7, 3) := by decide +kernel
theorem dX2_isForNumber_9 : decode cX2_isForNumber 9 = .ok (.iconst 1, 1) := by decide +kernel
theorem dX2_isForNumber_10 : decode cX2_isForNumber 10 = .ok (.goto 4, 3) := by decide +kernel
theorem dX2_isForNumber_13 : decode cX2_isForNumber 13 = .ok (.iconst 0, 1) := by decide +kernel
theorem dX2_isForNumber_14 : decode cX2_isForNumber 14 = .ok (.ireturn, 1) := by decide +kernel
theorem dX2_numberOf_0 : decode cX2_numberOf 0 = .ok (.aload_n 0, 1) := by decide +kernel
theorem dX2_numberOf_1 : decode cX2_numberOf 1 = .ok (.getfield 19, 3) := by decide +kernel
theorem dX2_numberOf_4 : decode cX2_numberOf 4 = .ok (.iload_n 1, 1) := by decide +kernel
theorem dX2_numberOf_5 : decode cX2_numberOf 5 = .ok (.iaload, 1) := by decide +kernel
theorem dX2_numberOf_6 : decode cX2_numberOf 6 = .ok (.ireturn, 1) := by decide +kernel
theorem dX2_tableOf_0 : decode cX2_tableOf 0 = .ok (.aload_n 0, 1) := by decide +kernel
theorem dX2_tableOf_1 : decode cX2_tableOf 1 = .ok (.getfield 22, 3) := by decide +kernel
theorem dX2_tableOf_4 : decode cX2_tableOf 4 = .ok (.iload_n 1, 1) := by decide +kernel
theorem dX2_tableOf_5 : decode cX2_tableOf 5 = .ok (.iaload, 1) := by decide +kernel
theorem dX2_tableOf_6 : decode cX2_tableOf 6 = .ok (.ireturn, 1) := by decide +kernel
theorem dX2_modeOf_0 : decode cX2_modeOf 0 = .ok (.aload_n 0, 1) := by decide +kernel
theorem dX2_modeOf_1 : decode cX2_modeOf 1 = .ok (.getfield 25, 3) := by decide +kernel
theorem dX2_modeOf_4 : decode cX2_modeOf 4 = .ok (.iload_n 1, 1) := by decide +kernel
theorem dX2_modeOf_5 : decode cX2_modeOf 5 = .ok (.iaload, 1) := by decide +kernel
theorem dX2_modeOf_6 : decode cX2_modeOf 6 = .ok (.ireturn, 1) := by decide +kernel
theorem dX2_levelOf_0 : decode cX2_levelOf 0 = .ok (.aload_n 0, 1) := by decide +kernel
theorem dX2_levelOf_1 : decode cX2_levelOf 1 = .ok (.getfield 28, 3) := by decide +kernel
theorem dX2_levelOf_4 : decode cX2_levelOf 4 = .ok (.iload_n 1, 1) := by decide +kernel
theorem dX2_levelOf_5 : decode cX2_levelOf 5 = .ok (.iaload, 1) := by decide +kernel
theorem dX2_levelOf_6 : decode cX2_levelOf 6 = .ok (.ireturn, 1) := by decide +kernel
theorem dX2_isDropped_0 : decode cX2_isDropped 0 = .ok (.aload_n 0, 1) := by decide +kernel
theorem dX2_isDropped_1 : decode cX2_isDropped 1 = .ok (.getfield 31, 3) := by decide +kernel
theorem dX2_isDropped_4 : decode cX2_isDropped 4 = .ok (.iload_n 1, 1) := by decide +kernel
theorem dX2_isDropped_5 : decode cX2_isDropped 5 = .ok (.baload, 1) := by decide +kernel
theorem dX2_isDropped_6 : decode cX2_isDropped 6 = .ok (.ireturn, 1) := by decide +kernel
theorem dX2_wants_0 : decode cX2_wants 0 = .ok (.aload_n 0, 1) := by decide +kernel
theorem dX2_wants_1 : decode cX2_wants 1 = .ok (.getfield 19, 3) := by decide +kernel
theorem dX2_wants_4 : decode cX2_wants 4 = .ok (.iload_n 1, 1) := by decide +kernel
theorem dX2_wants_5 : decode cX2_wants 5 = .ok (.iaload, 1) := by decide +kernel
theorem dX2_wants_6 : decode cX2_wants 6 = .ok (.ifCond .ne 26, 3) := by decide +kernel
theorem dX2_wants_9 : decode cX2_wants 9 = .ok (.aload_n 0, 1) := by decide +kernel
theorem dX2_wants_10 : decode cX2_wants 10 = .ok (.getfield 22, 3) := by decide +kernel
theorem dX2_wants_13 : decode cX2_wants 13 = .ok (.iload_n 1, 1) := by decide +kernel
theorem dX2_wants_14 : decode cX2_wants 14 = .ok (.iaload, 1) := by decide +kernel
theorem dX2_wants_15 : decode cX2_wants 15 = .ok (.iload_n 2, 1) := by decide +kernel
theorem dX2_wants_16 : decode cX2_wants 16 = .ok (.if_icmp .ne 16, 3) := by decide +kernel
theorem dX2_wants_19 : decode cX2_wants 19 = .ok (.aload_n 0, 1) := by decide +kernel
theorem dX2_wants_20 : decode cX2_wants 20 = .ok (.getfield 31, 3) := by decide +kernel
theorem dX2_wants_23 : decode cX2_wants 23 = .ok (.iload_n 1, 1) := by decide +kernel
theorem dX2_wants_24 : decode cX2_wants 24 = .ok (.baload, 1) := by decide +kernel
theorem dX2_wants_25 : decode cX2_wants 25 = .ok (.ifCond .ne 7, 3) := by decide +kernel
theorem dX2_wants_28 : decode cX2_wants 28 = .ok (.iconst 1, 1) := by decide +kernel
theorem dX2_wants_29 : decode cX2_wants 29 = .ok (.goto 4, 3) := by decide +kernel
theorem dX2_wants_32 : decode cX2_wants 32 = .ok (.iconst 0, 1) := by decide +kernel
theorem dX2_wants_33 : decode cX2_wants 33 = .ok (.ireturn, 1) := by decide +kernel
theorem dX2_append_0 : decode cX2_append 0 = .ok (.aload_n 0, 1) := by decide +kernel
theorem dX2_append_1 : decode cX2_append 1 = .ok (.getfield 15, 3) := by decide +kernel
theorem dX2_append_4 : decode cX2_append 4 = .ok (.bipush 6, 2) := by decide +kernel
theorem dX2_append_6 : decode cX2_append 6 = .ok (.if_icmp .ge 23, 3) := by decide +kernel
theorem dX2_append_9 : decode cX2_append 9 = .ok (.aload_n 0, 1) := by decide +kernel
theorem dX2_append_10 : decode cX2_append 10 = .ok (.getfield 9, 3) := by decide +kernel
theorem dX2_append_13 : decode cX2_append 13 = .ok (.aload_n 0, 1) := by decide +kernel
theorem dX2_append_14 : decode cX2_append 14 = .ok (.getfield 15, 3) := by decide +kernel
theorem dX2_append_17 : decode cX2_append 17 = .ok (.iload_n 1, 1) := by decide +kernel
theorem dX2_append_18 : decode cX2_append 18 = .ok (.iastore, 1) := by decide +kernel
theorem dX2_append_19 : decode cX2_append 19 = .ok (.aload_n 0, 1) := by decide +kernel
theorem dX2_append_20 : decode cX2_append 20 = .ok (.dup, 1) := by decide +kernel
theorem dX2_append_21 : decode cX2_append 21 = .ok (.getfield 15, 3) := by decide +kernel
theorem dX2_append_24 : decode cX2_append 24 = .ok (.iconst 1, 1) := by decide +kernel
theorem dX2_append_25 : decode cX2_append 25 = .ok (.iadd, 1) := by decide +kernel
theorem dX2_append_26 : decode cX2_append 26 = .ok (.putfield 15, 3) := by decide +kernel
theorem dX2_append_29 : decode cX2_append 29 = .ok (.return_, 1) := by decide +kernel
theorem dX3_init_0 : decode cX3_init 0 = .ok (.aload_n 0, 1) := by decide +kernel
theorem dX3_init_1 : decode cX3_init 1 = .ok (.invokespecial 3, 3) := by decide +kernel
theorem dX3_init_4 : decode cX3_init 4 = .ok (.aload_n 0, 1) := by decide +kernel
theorem dX3_init_5 : decode cX3_init 5 = .ok (.sipush 512, 3) := by decide +kernel
theorem dX3_init_8 : decode cX3_init 8 = .ok (.newarray .int, 2) := by decide +kernel
theorem dX3_init_10 : decode cX3_init 10 = .ok (.putfield 9, 3) := by decide +kernel
theorem dX3_init_13 : decode cX3_init 13 = .ok (.aload_n 0, 1) := by decide +kernel
theorem dX3_init_14 : decode cX3_init 14 = .ok (.sipush 512, 3) := by decide +kernel
theorem dX3_init_17 : decode cX3_init 17 = .ok (.newarray .int, 2) := by decide +kernel
theorem dX3_init_19 : decode cX3_init 19 = .ok (.putfield 15, 3) := by decide +kernel
theorem dX3_init_22 : decode cX3_init 22 = .ok (.aload_n 0, 1) := by decide +kernel
theorem dX3_init_23 : decode cX3_init 23 = .ok (.sipush 512, 3) := by decide +kernel
theorem dX3_init_26 : decode cX3_init 26 = .ok (.newarray .int, 2) := by decide +kernel
theorem dX3_init_28 : decode cX3_init 28 = .ok (.putfield 18, 3) := by decide +kernel
theorem dX3_init_31 : decode cX3_init 31 = .ok (.aload_n 0, 1) := by decide +kernel
theorem dX3_init_32 : decode cX3_init 32 = .ok (.sipush 512, 3) := by decide +kernel
theorem dX3_init_35 : decode cX3_init 35 = .ok (.newarray .int, 2) := by decide +kernel
theorem dX3_init_37 : decode cX3_init 37 = .ok (.putfield 21, 3) := by decide +kernel
theorem dX3_init_40 : decode cX3_init 40 = .ok (.aload_n 0, 1) := by decide +kernel
theorem dX3_init_41 : decode cX3_init 41 = .ok (.iconst 0, 1) := by decide +kernel
theorem dX3_init_42 : decode cX3_init 42 = .ok (.putfield 24, 3) := by decide +kernel
theorem dX3_init_45 : decode cX3_init 45 = .ok (.return_, 1) := by decide +kernel
theorem dX3_suffices_0 : decode cX3_suffices 0 = .ok (.iconst 0, 1) := by decide +kernel
theorem dX3_suffices_1 : decode cX3_suffices 1 = .ok (.istore 4, 2) := by decide +kernel
theorem dX3_suffices_3 : decode cX3_suffices 3 = .ok (.iload 4, 2) := by decide +kernel
theorem dX3_suffices_5 : decode cX3_suffices 5 = .ok (.aload_n 0, 1) := by decide +kernel
theorem dX3_suffices_6 : decode cX3_suffices 6 = .ok (.getfield 24, 3) := by decide +kernel
theorem dX3_suffices_9 : decode cX3_suffices 9 = .ok (.if_icmp .ge 44, 3) := by decide +kernel
theorem dX3_suffices_12 : decode cX3_suffices 12 = .ok (.aload_n 0, 1) := by decide +kernel
theorem dX3_suffices_13 : decode cX3_suffices 13 = .ok (.getfield 18, 3) := by decide +kernel
theorem dX3_suffices_16 : decode cX3_suffices 16 = .ok (.iload 4, 2) := by decide +kernel
theorem dX3_suffices_18 : decode cX3_suffices 18 = .ok (.iaload, 1) := by decide +kernel
theorem dX3_suffices_19 : decode cX3_suffices 19 = .ok (.iload_n 2, 1) := by decide +kernel
theorem dX3_suffices_20 : decode cX3_suffices 20 = .ok (.if_icmp .ne 27, 3) := by decide +kernel
theorem dX3_suffices_23 : decode cX3_suffices 23 = .ok (.aload_n 0, 1) := by decide +kernel
theorem dX3_suffices_24 : decode cX3_suffices 24 = .ok (.getfield 15, 3) := by decide +kernel
theorem dX3_suffices_27 : decode cX3_suffices 27 = .ok (.iload 4, 2) := by decide +kernel
theorem dX3_suffices_29 : decode cX3_suffices 29 = .ok (.iaload, 1) := by decide +kernel
theorem dX3_suffices_30 : decode cX3_suffices 30 = .ok (.iload_n 1, 1) := by decide +kernel
theorem dX3_suffices_31 : decode cX3_suffices 31 = .ok (.if_icmp .ne 16, 3) := by decide +kernel
theorem dX3_suffices_34 : decode cX3_suffices 34 = .ok (.aload_n 0, 1) := by decide +kernel
theorem dX3_suffices_35 : decode cX3_suffices 35 = .ok (.getfield 21, 3) := by decide +kernel
theorem dX3_suffices_38 : decode cX3_suffices 38 = .ok (.iload 4, 2) := by decide +kernel
theorem dX3_suffices_40 : decode cX3_suffices 40 = .ok (.iaload, 1) := by decide +kernel
theorem dX3_suffices_41 : decode cX3_suffices 41 = .ok (.iload_n 3, 1) := by decide +kernel
theorem dX3_suffices_42 : decode cX3_suffices 42 = .ok (.if_icmp .lt 5, 3) := by decide +kernel
theorem dX3_suffices_45 : decode cX3_suffices 45 = .ok (.iconst 1, 1) := by decide +kernel
theorem dX3_suffices_46 : decode cX3_suffices 46 = .ok (.ireturn, 1) := by decide +kernel
theorem dX3_suffices_47 : decode cX3_suffices 47 = .ok (.iinc 4 1, 3) := by decide +kernel
theorem dX3_suffices_50 : decode cX3_suffices 50 = .ok (.goto (-47), 3) := by decide +kernel
theorem dX3_suffices_53 : decode cX3_suffices 53 = .ok (.iconst 0, 1) := by decide +kernel
theorem dX3_suffices_54 : decode cX3_suffices 54 = .ok (.ireturn, 1) := by decide +kernel
theorem dX3_leastInConflict_0 : decode cX3_leastInConflict 0 = .ok (.iconst 0, 1) := by decide +kernel
theorem dX3_leastInConflict_1 : decode cX3_leastInConflict 1 = .ok (.istore 4, 2) := by decide +kernel
theorem dX3_leastInConflict_3 : decode cX3_leastInConflict 3 = .ok (.iload 4, 2) := by decide +kernel
theorem dX3_leastInConflict_5 : decode cX3_leastInConflict 5 = .ok (.aload_n 0, 1) := by decide +kernel
theorem dX3_leastInConflict_6 : decode cX3_leastInConflict 6 = .ok (.getfield 24, 3) := by decide +kernel
theorem dX3_leastInConflict_9 : decode cX3_leastInConflict 9 = .ok (.if_icmp .ge 67, 3) := by decide +kernel
theorem dX3_leastInConflict_12 : decode cX3_leastInConflict 12 = .ok (.iload_n 3, 1) := by decide +kernel
theorem dX3_leastInConflict_13 : decode cX3_leastInConflict 13 = .ok (.iconst 2, 1) := by decide +kernel
theorem dX3_leastInConflict_14 : decode cX3_leastInConflict 14 = .ok (.if_icmp .eq 14, 3) := by decide +kernel
theorem dX3_leastInConflict_17 : decode cX3_leastInConflict 17 = .ok (.aload_n 0, 1) := by decide +kernel
theorem dX3_leastInConflict_18 : decode cX3_leastInConflict 18 = .ok (.getfield 21, 3) := by decide +kernel
theorem dX3_leastInConflict_21 : decode cX3_leastInConflict 21 = .ok (.iload 4, 2) := by decide +kernel
theorem dX3_leastInConflict_23 : decode cX3_leastInConflict 23 = .ok (.iaload, 1) := by decide +kernel
theorem dX3_leastInConflict_24 : decode cX3_leastInConflict 24 = .ok (.iconst 2, 1) := by decide +kernel
theorem dX3_leastInConflict_25 : decode cX3_leastInConflict 25 = .ok (.if_icmp .ne 7, 3) := by decide +kernel
theorem dX3_leastInConflict_28 : decode cX3_leastInConflict 28 = .ok (.iconst 1, 1) := by decide +kernel
theorem dX3_leastInConflict_29 : decode cX3_leastInConflict 29 = .ok (.goto 4, 3) := by decide +kernel
theorem dX3_leastInConflict_32 : decode cX3_leastInConflict 32 = .ok (.iconst 0, 1) := by decide +kernel
theorem dX3_leastInConflict_33 : decode cX3_leastInConflict 33 = .ok (.istore 5, 2) := by decide +kernel
theorem dX3_leastInConflict_35 : decode cX3_leastInConflict 35 = .ok (.aload_n 0, 1) := by decide +kernel
theorem dX3_leastInConflict_36 : decode cX3_leastInConflict 36 = .ok (.getfield 18, 3) := by decide +kernel
theorem dX3_leastInConflict_39 : decode cX3_leastInConflict 39 = .ok (.iload 4, 2) := by decide +kernel
theorem dX3_leastInConflict_41 : decode cX3_leastInConflict 41 = .ok (.iaload, 1) := by decide +kernel
theorem dX3_leastInConflict_42 : decode cX3_leastInConflict 42 = .ok (.iload_n 2, 1) := by decide +kernel
theorem dX3_leastInConflict_43 : decode cX3_leastInConflict 43 = .ok (.if_icmp .ne 27, 3) := by decide +kernel
theorem dX3_leastInConflict_46 : decode cX3_leastInConflict 46 = .ok (.aload_n 0, 1) := by decide +kernel
theorem dX3_leastInConflict_47 : decode cX3_leastInConflict 47 = .ok (.getfield 15, 3) := by decide +kernel
theorem dX3_leastInConflict_50 : decode cX3_leastInConflict 50 = .ok (.iload 4, 2) := by decide +kernel
theorem dX3_leastInConflict_52 : decode cX3_leastInConflict 52 = .ok (.iaload, 1) := by decide +kernel
theorem dX3_leastInConflict_53 : decode cX3_leastInConflict 53 = .ok (.iload_n 1, 1) := by decide +kernel
theorem dX3_leastInConflict_54 : decode cX3_leastInConflict 54 = .ok (.if_icmp .eq 16, 3) := by decide +kernel
theorem dX3_leastInConflict_57 : decode cX3_leastInConflict 57 = .ok (.iload 5, 2) := by decide +kernel
theorem dX3_leastInConflict_59 : decode cX3_leastInConflict 59 = .ok (.ifCond .eq 11, 3) := by decide +kernel
