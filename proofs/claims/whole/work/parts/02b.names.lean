set_option maxRecDepth 20000 in
theorem ggX0_init_J7_fill_031fb : GoodIn wsX0_init wsJ7_fill_031fb := goodIn_r _ [9] (by decide +kernel) (by decide +kernel)
set_option maxRecDepth 20000 in
theorem gX0_init_J7_fill_031fb : GoodIn wsX0_init (va_wsS RX0 15 yJ7_fill_031fb wsJ7_fill_031fb) := goodIn_app (goodIn_of _ (by decide +kernel)) ggX0_init_J7_fill_031fb
theorem dX0_init_0 : decode cX0_init 0 = .ok (.aload_n 0, 1) := by decide +kernel
theorem dX0_init_1 : decode cX0_init 1 = .ok (.invokespecial 3, 3) := by decide +kernel
theorem dX0_init_4 : decode cX0_init 4 = .ok (.aload_n 0, 1) := by decide +kernel
theorem dX0_init_5 : decode cX0_init 5 = .ok (.sipush 384, 3) := by decide +kernel
theorem dX0_init_8 : decode cX0_init 8 = .ok (.newarray .byte, 2) := by decide +kernel
theorem dX0_init_10 : decode cX0_init 10 = .ok (.putfield 11, 3) := by decide +kernel
theorem dX0_init_13 : decode cX0_init 13 = .ok (.aload_n 0, 1) := by decide +kernel
theorem dX0_init_14 : decode cX0_init 14 = .ok (.getfield 11, 3) := by decide +kernel
theorem dX0_init_17 : decode cX0_init 17 = .ok (.iconst (-1), 1) := by decide +kernel
theorem dX0_init_18 : decode cX0_init 18 = .ok (.invokestatic 15, 3) := by decide +kernel
theorem dX0_init_21 : decode cX0_init 21 = .ok (.return_, 1) := by decide +kernel
set_option maxRecDepth 20000 in
theorem ggX0_levelOf_X0_cell : GoodIn wsX0_levelOf wsX0_cell := goodIn_r _ [5] (by decide +kernel) (by decide +kernel)
set_option maxRecDepth 20000 in
theorem gX0_levelOf_X0_cell : GoodIn wsX0_levelOf (va_wsS RX0 21 yX0_cell wsX0_cell) := goodIn_app (goodIn_of _ (by decide +kernel)) ggX0_levelOf_X0_cell
theorem dX0_levelOf_0 : decode cX0_levelOf 0 = .ok (.aload_n 0, 1) := by decide +kernel
theorem dX0_levelOf_1 : decode cX0_levelOf 1 = .ok (.getfield 11, 3) := by decide +kernel
theorem dX0_levelOf_4 : decode cX0_levelOf 4 = .ok (.iload_n 1, 1) := by decide +kernel
theorem dX0_levelOf_5 : decode cX0_levelOf 5 = .ok (.iload_n 2, 1) := by decide +kernel
theorem dX0_levelOf_6 : decode cX0_levelOf 6 = .ok (.iload_n 3, 1) := by decide +kernel
theorem dX0_levelOf_7 : decode cX0_levelOf 7 = .ok (.invokestatic 21, 3) := by decide +kernel
theorem dX0_levelOf_10 : decode cX0_levelOf 10 = .ok (.baload, 1) := by decide +kernel
theorem dX0_levelOf_11 : decode cX0_levelOf 11 = .ok (.ireturn, 1) := by decide +kernel
set_option maxRecDepth 20000 in
theorem ggX0_take_X0_cell : GoodIn wsX0_take wsX0_cell := goodIn_r _ [5] (by decide +kernel) (by decide +kernel)
set_option maxRecDepth 20000 in
theorem gX0_take_X0_cell : GoodIn wsX0_take (va_wsS RX0 21 yX0_cell wsX0_cell) := goodIn_app (goodIn_of _ (by decide +kernel)) ggX0_take_X0_cell
theorem dX0_take_0 : decode cX0_take 0 = .ok (.aload_n 0, 1) := by decide +kernel
theorem dX0_take_1 : decode cX0_take 1 = .ok (.getfield 11, 3) := by decide +kernel
theorem dX0_take_4 : decode cX0_take 4 = .ok (.iload_n 1, 1) := by decide +kernel
theorem dX0_take_5 : decode cX0_take 5 = .ok (.iload_n 3, 1) := by decide +kernel
theorem dX0_take_6 : decode cX0_take 6 = .ok (.iload 4, 2) := by decide +kernel
theorem dX0_take_8 : decode cX0_take 8 = .ok (.invokestatic 21, 3) := by decide +kernel
theorem dX0_take_11 : decode cX0_take 11 = .ok (.iload_n 2, 1) := by decide +kernel
theorem dX0_take_12 : decode cX0_take 12 = .ok (.i2b, 1) := by decide +kernel
theorem dX0_take_13 : decode cX0_take 13 = .ok (.bastore, 1) := by decide +kernel
theorem dX0_take_14 : decode cX0_take 14 = .ok (.return_, 1) := by decide +kernel
set_option maxRecDepth 20000 in
theorem ggX0_standAgainst_X4_conflict : GoodIn wsX0_standAgainst wsX4_conflict := goodIn_r _ [4, 5, 6, 7, 3, 8] (by decide +kernel) (by decide +kernel)
set_option maxRecDepth 20000 in
theorem gX0_standAgainst_X4_conflict_n25 : GoodIn wsX0_standAgainst (wsX4_conflict) := ggX0_standAgainst_X4_conflict
set_option maxRecDepth 20000 in
theorem ggX0_standAgainst_X0_cell : GoodIn wsX0_standAgainst wsX0_cell := goodIn_r _ [12] (by decide +kernel) (by decide +kernel)
set_option maxRecDepth 20000 in
theorem gX0_standAgainst_X0_cell : GoodIn wsX0_standAgainst (va_wsS RX0 21 yX0_cell wsX0_cell) := goodIn_app (goodIn_of _ (by decide +kernel)) ggX0_standAgainst_X0_cell
theorem dX0_standAgainst_0 : decode cX0_standAgainst 0 = .ok (.iconst 1, 1) := by decide +kernel
theorem dX0_standAgainst_1 : decode cX0_standAgainst 1 = .ok (.istore 4, 2) := by decide +kernel
theorem dX0_standAgainst_3 : decode cX0_standAgainst 3 = .ok (.iload 4, 2) := by decide +kernel
theorem dX0_standAgainst_5 : decode cX0_standAgainst 5 = .ok (.bipush 8, 2) := by decide +kernel
theorem dX0_standAgainst_7 : decode cX0_standAgainst 7 = .ok (.if_icmp .gt 36, 3) := by decide +kernel
theorem dX0_standAgainst_10 : decode cX0_standAgainst 10 = .ok (.iload_n 3, 1) := by decide +kernel
theorem dX0_standAgainst_11 : decode cX0_standAgainst 11 = .ok (.iload 4, 2) := by decide +kernel
theorem dX0_standAgainst_13 : decode cX0_standAgainst 13 = .ok (.invokestatic 25, 3) := by decide +kernel
theorem dX0_standAgainst_16 : decode cX0_standAgainst 16 = .ok (.ifCond .eq 21, 3) := by decide +kernel
theorem dX0_standAgainst_19 : decode cX0_standAgainst 19 = .ok (.aload_n 0, 1) := by decide +kernel
theorem dX0_standAgainst_20 : decode cX0_standAgainst 20 = .ok (.getfield 11, 3) := by decide +kernel
theorem dX0_standAgainst_23 : decode cX0_standAgainst 23 = .ok (.iload_n 1, 1) := by decide +kernel
theorem dX0_standAgainst_24 : decode cX0_standAgainst 24 = .ok (.iload_n 2, 1) := by decide +kernel
theorem dX0_standAgainst_25 : decode cX0_standAgainst 25 = .ok (.iload 4, 2) := by decide +kernel
theorem dX0_standAgainst_27 : decode cX0_standAgainst 27 = .ok (.invokestatic 21, 3) := by decide +kernel
theorem dX0_standAgainst_30 : decode cX0_standAgainst 30 = .ok (.baload, 1) := by decide +kernel
theorem dX0_standAgainst_31 : decode cX0_standAgainst 31 = .ok (.iconst (-1), 1) := by decide +kernel
theorem dX0_standAgainst_32 : decode cX0_standAgainst 32 = .ok (.if_icmp .eq 5, 3) := by decide +kernel
theorem dX0_standAgainst_35 : decode cX0_standAgainst 35 = .ok (.iconst 1, 1) := by decide +kernel
theorem dX0_standAgainst_36 : decode cX0_standAgainst 36 = .ok (.ireturn, 1) := by decide +kernel
theorem dX0_standAgainst_37 : decode cX0_standAgainst 37 = .ok (.iinc 4 1, 3) := by decide +kernel
theorem dX0_standAgainst_40 : decode cX0_standAgainst 40 = .ok (.goto (-37), 3) := by decide +kernel
theorem dX0_standAgainst_43 : decode cX0_standAgainst 43 = .ok (.iconst 0, 1) := by decide +kernel
theorem dX0_standAgainst_44 : decode cX0_standAgainst 44 = .ok (.ireturn, 1) := by decide +kernel
set_option maxRecDepth 20000 in
theorem ggX0_giveUp_X0_replaceFrom : GoodIn wsX0_giveUp wsX0_replaceFrom := goodIn_r _ [5, 6, 7, 8, 4, 9, 10] (by decide +kernel) (by decide +kernel)
set_option maxRecDepth 20000 in
theorem gX0_giveUp_X0_replaceFrom : GoodIn wsX0_giveUp (wsV RX0 29 RX0 yX0_replaceFrom wsX0_replaceFrom) := goodIn_app (goodIn_of _ (by decide +kernel)) ggX0_giveUp_X0_replaceFrom
theorem dX0_giveUp_0 : decode cX0_giveUp 0 = .ok (.aload_n 0, 1) := by decide +kernel
theorem dX0_giveUp_1 : decode cX0_giveUp 1 = .ok (.iload_n 1, 1) := by decide +kernel
theorem dX0_giveUp_2 : decode cX0_giveUp 2 = .ok (.iload_n 2, 1) := by decide +kernel
theorem dX0_giveUp_3 : decode cX0_giveUp 3 = .ok (.iconst (-1), 1) := by decide +kernel
theorem dX0_giveUp_4 : decode cX0_giveUp 4 = .ok (.invokevirtual 29, 3) := by decide +kernel
theorem dX0_giveUp_7 : decode cX0_giveUp 7 = .ok (.return_, 1) := by decide +kernel
set_option maxRecDepth 20000 in
theorem ggX0_lower_X0_replaceFrom : GoodIn wsX0_lower wsX0_replaceFrom := goodIn_r _ [5, 6, 7, 8, 4, 9, 10] (by decide +kernel) (by decide +kernel)
set_option maxRecDepth 20000 in
theorem gX0_lower_X0_replaceFrom : GoodIn wsX0_lower (wsV RX0 29 RX0 yX0_replaceFrom wsX0_replaceFrom) := goodIn_app (goodIn_of _ (by decide +kernel)) ggX0_lower_X0_replaceFrom
theorem dX0_lower_0 : decode cX0_lower 0 = .ok (.aload_n 0, 1) := by decide +kernel
theorem dX0_lower_1 : decode cX0_lower 1 = .ok (.iload_n 1, 1) := by decide +kernel
theorem dX0_lower_2 : decode cX0_lower 2 = .ok (.iload_n 2, 1) := by decide +kernel
theorem dX0_lower_3 : decode cX0_lower 3 = .ok (.iload_n 2, 1) := by decide +kernel
theorem dX0_lower_4 : decode cX0_lower 4 = .ok (.iconst 1, 1) := by decide +kernel
theorem dX0_lower_5 : decode cX0_lower 5 = .ok (.isub, 1) := by decide +kernel
theorem dX0_lower_6 : decode cX0_lower 6 = .ok (.invokevirtual 29, 3) := by decide +kernel
theorem dX0_lower_9 : decode cX0_lower 9 = .ok (.return_, 1) := by decide +kernel
set_option maxRecDepth 20000 in
theorem ggX0_forgetTable_X0_cell : GoodIn wsX0_forgetTable wsX0_cell := goodIn_r _ [5] (by decide +kernel) (by decide +kernel)
set_option maxRecDepth 20000 in
theorem gX0_forgetTable_X0_cell : GoodIn wsX0_forgetTable (va_wsS RX0 21 yX0_cell wsX0_cell) := goodIn_app (goodIn_of _ (by decide +kernel)) ggX0_forgetTable_X0_cell
theorem dX0_forgetTable_0 : decode cX0_forgetTable 0 = .ok (.iconst 0, 1) := by decide +kernel
theorem dX0_forgetTable_1 : decode cX0_forgetTable 1 = .ok (.istore_n 2, 1) := by decide +kernel
theorem dX0_forgetTable_2 : decode cX0_forgetTable 2 = .ok (.iload_n 2, 1) := by decide +kernel
theorem dX0_forgetTable_3 : decode cX0_forgetTable 3 = .ok (.bipush 6, 2) := by decide +kernel
theorem dX0_forgetTable_5 : decode cX0_forgetTable 5 = .ok (.if_icmp .ge 35, 3) := by decide +kernel
theorem dX0_forgetTable_8 : decode cX0_forgetTable 8 = .ok (.iconst 1, 1) := by decide +kernel
theorem dX0_forgetTable_9 : decode cX0_forgetTable 9 = .ok (.istore_n 3, 1) := by decide +kernel
theorem dX0_forgetTable_10 : decode cX0_forgetTable 10 = .ok (.iload_n 3, 1) := by decide +kernel
theorem dX0_forgetTable_11 : decode cX0_forgetTable 11 = .ok (.bipush 8, 2) := by decide +kernel
theorem dX0_forgetTable_13 : decode cX0_forgetTable 13 = .ok (.if_icmp .gt 21, 3) := by decide +kernel
theorem dX0_forgetTable_16 : decode cX0_forgetTable 16 = .ok (.aload_n 0, 1) := by decide +kernel
theorem dX0_forgetTable_17 : decode cX0_forgetTable 17 = .ok (.getfield 11, 3) := by decide +kernel
theorem dX0_forgetTable_20 : decode cX0_forgetTable 20 = .ok (.iload_n 2, 1) := by decide +kernel
theorem dX0_forgetTable_21 : decode cX0_forgetTable 21 = .ok (.iload_n 1, 1) := by decide +kernel
theorem dX0_forgetTable_22 : decode cX0_forgetTable 22 = .ok (.iload_n 3, 1) := by decide +kernel
theorem dX0_forgetTable_23 : decode cX0_forgetTable 23 = .ok (.invokestatic 21, 3) := by decide +kernel
theorem dX0_forgetTable_26 : decode cX0_forgetTable 26 = .ok (.iconst (-1), 1) := by decide +kernel
theorem dX0_forgetTable_27 : decode cX0_forgetTable 27 = .ok (.bastore, 1) := by decide +kernel
theorem dX0_forgetTable_28 : decode cX0_forgetTable 28 = .ok (.iinc 3 1, 3) := by decide +kernel
theorem dX0_forgetTable_31 : decode cX0_forgetTable 31 = .ok (.goto (-21), 3) := by decide +kernel
theorem dX0_forgetTable_34 : decode cX0_forgetTable 34 = .ok (.iinc 2 1, 3) := by decide +kernel
theorem dX0_forgetTable_37 : decode cX0_forgetTable 37 = .ok (.goto (-35), 3) := by decide +kernel
theorem dX0_forgetTable_40 : decode cX0_forgetTable 40 = .ok (.return_, 1) := by decide +kernel
set_option maxRecDepth 20000 in
theorem ggX0_replaceFrom_X0_cell : GoodIn wsX0_replaceFrom wsX0_cell := goodIn_r _ [5] (by decide +kernel) (by decide +kernel)
set_option maxRecDepth 20000 in
theorem gX0_replaceFrom_X0_cell : GoodIn wsX0_replaceFrom (va_wsS RX0 21 yX0_cell wsX0_cell) := goodIn_app (goodIn_of _ (by decide +kernel)) ggX0_replaceFrom_X0_cell
theorem dX0_replaceFrom_0 : decode cX0_replaceFrom 0 = .ok (.iload_n 1, 1) := by decide +kernel
theorem dX0_replaceFrom_1 : decode cX0_replaceFrom 1 = .ok (.iconst 0, 1) := by decide +kernel
theorem dX0_replaceFrom_2 : decode cX0_replaceFrom 2 = .ok (.iconst 1, 1) := by decide +kernel
theorem dX0_replaceFrom_3 : decode cX0_replaceFrom 3 = .ok (.invokestatic 21, 3) := by decide +kernel
theorem dX0_replaceFrom_6 : decode cX0_replaceFrom 6 = .ok (.istore 4, 2) := by decide +kernel
theorem dX0_replaceFrom_8 : decode cX0_replaceFrom 8 = .ok (.iload 4, 2) := by decide +kernel
theorem dX0_replaceFrom_10 : decode cX0_replaceFrom 10 = .ok (.istore 5, 2) := by decide +kernel
theorem dX0_replaceFrom_12 : decode cX0_replaceFrom 12 = .ok (.iload 5, 2) := by decide +kernel
theorem dX0_replaceFrom_14 : decode cX0_replaceFrom 14 = .ok (.iload 4, 2) := by decide +kernel
theorem dX0_replaceFrom_16 : decode cX0_replaceFrom 16 = .ok (.bipush 64, 2) := by decide +kernel
theorem dX0_replaceFrom_18 : decode cX0_replaceFrom 18 = .ok (.iadd, 1) := by decide +kernel
theorem dX0_replaceFrom_19 : decode cX0_replaceFrom 19 = .ok (.if_icmp .ge 29, 3) := by decide +kernel
theorem dX0_replaceFrom_22 : decode cX0_replaceFrom 22 = .ok (.aload_n 0, 1) := by decide +kernel
theorem dX0_replaceFrom_23 : decode cX0_replaceFrom 23 = .ok (.getfield 11, 3) := by decide +kernel
theorem dX0_replaceFrom_26 : decode cX0_replaceFrom 26 = .ok (.iload 5, 2) := by decide +kernel
theorem dX0_replaceFrom_28 : decode cX0_replaceFrom 28 = .ok (.baload, 1) := by decide +kernel
theorem dX0_replaceFrom_29 : decode cX0_replaceFrom 29 = .ok (.iload_n 2, 1) := by decide +kernel
theorem dX0_replaceFrom_30 : decode cX0_replaceFrom 30 = .ok (.if_icmp .lt 12, 3) := by decide +kernel
theorem dX0_replaceFrom_33 : decode cX0_replaceFrom 33 = .ok (.aload_n 0, 1) := by decide +kernel
theorem dX0_replaceFrom_34 : decode cX0_replaceFrom 34 = .ok (.getfield 11, 3) := by decide +kernel
theorem dX0_replaceFrom_37 : decode cX0_replaceFrom 37 = .ok (.iload 5, 2) := by decide +kernel
theorem dX0_replaceFrom_39 : decode cX0_replaceFrom 39 = .ok (.iload_n 3, 1) := by decide +kernel
theorem dX0_replaceFrom_40 : decode cX0_replaceFrom 40 = .ok (.i2b, 1) := by decide +kernel
theorem dX0_replaceFrom_41 : decode cX0_replaceFrom 41 = .ok (.bastore, 1) := by decide +kernel
theorem dX0_replaceFrom_42 : decode cX0_replaceFrom 42 = .ok (.iinc 5 1, 3) := by decide +kernel
theorem dX0_replaceFrom_45 : decode cX0_replaceFrom 45 = .ok (.goto (-33), 3) := by decide +kernel
theorem dX0_replaceFrom_48 : decode cX0_replaceFrom 48 = .ok (.return_, 1) := by decide +kernel
theorem dX0_cell_0 : decode cX0_cell 0 = .ok (.iload_n 0, 1) := by decide +kernel
theorem dX0_cell_1 : decode cX0_cell 1 = .ok (.bipush 64, 2) := by decide +kernel
theorem dX0_cell_3 : decode cX0_cell 3 = .ok (.imul, 1) := by decide +kernel
theorem dX0_cell_4 : decode cX0_cell 4 = .ok (.iload_n 1, 1) := by decide +kernel
theorem dX0_cell_5 : decode cX0_cell 5 = .ok (.bipush 8, 2) := by decide +kernel
theorem dX0_cell_7 : decode cX0_cell 7 = .ok (.imul, 1) := by decide +kernel
theorem dX0_cell_8 : decode cX0_cell 8 = .ok (.iadd, 1) := by decide +kernel
theorem dX0_cell_9 : decode cX0_cell 9 = .ok (.iload_n 2, 1) := by decide +kernel
theorem dX0_cell_10 : decode cX0_cell 10 = .ok (.iadd, 1) := by decide +kernel
theorem dX0_cell_11 : decode cX0_cell 11 = .ok (.iconst 1, 1) := by decide +kernel
theorem dX0_cell_12 : decode cX0_cell 12 = .ok (.isub, 1) := by decide +kernel
theorem dX0_cell_13 : decode cX0_cell 13 = .ok (.ireturn, 1) := by decide +kernel
theorem dX1_init_0 : decode cX1_init 0 = .ok (.aload_n 0, 1) := by decide +kernel
theorem dX1_init_1 : decode cX1_init 1 = .ok (.invokespecial 3, 3) := by decide +kernel
theorem dX1_init_4 : decode cX1_init 4 = .ok (.aload_n 0, 1) := by decide +kernel
theorem dX1_init_5 : decode cX1_init 5 = .ok (.sipush 4001, 3) := by decide +kernel
theorem dX1_init_8 : decode cX1_init 8 = .ok (.newarray .byte, 2) := by decide +kernel
theorem dX1_init_10 : decode cX1_init 10 = .ok (.putfield 9, 3) := by decide +kernel
theorem dX1_init_13 : decode cX1_init 13 = .ok (.aload_n 0, 1) := by decide +kernel
theorem dX1_init_14 : decode cX1_init 14 = .ok (.iconst 0, 1) := by decide +kernel
theorem dX1_init_15 : decode cX1_init 15 = .ok (.putfield 15, 3) := by decide +kernel
theorem dX1_init_18 : decode cX1_init 18 = .ok (.return_, 1) := by decide +kernel
theorem dX1_give_0 : decode cX1_give 0 = .ok (.aload_n 0, 1) := by decide +kernel
theorem dX1_give_1 : decode cX1_give 1 = .ok (.getfield 15, 3) := by decide +kernel
theorem dX1_give_4 : decode cX1_give 4 = .ok (.sipush 4000, 3) := by decide +kernel
theorem dX1_give_7 : decode cX1_give 7 = .ok (.if_icmp .lt 5, 3) := by decide +kernel
theorem dX1_give_10 : decode cX1_give 10 = .ok (.iconst (-1), 1) := by decide +kernel
theorem dX1_give_11 : decode cX1_give 11 = .ok (.ireturn, 1) := by decide +kernel
theorem dX1_give_12 : decode cX1_give 12 = .ok (.aload_n 0, 1) := by decide +kernel
theorem dX1_give_13 : decode cX1_give 13 = .ok (.dup, 1) := by decide +kernel
theorem dX1_give_14 : decode cX1_give 14 = .ok (.getfield 15, 3) := by decide +kernel
theorem dX1_give_17 : decode cX1_give 17 = .ok (.iconst 1, 1) := by decide +kernel
theorem dX1_give_18 : decode cX1_give 18 = .ok (.iadd, 1) := by decide +kernel
theorem dX1_give_19 : decode cX1_give 19 = .ok (.putfield 15, 3) := by decide +kernel
theorem dX1_give_22 : decode cX1_give 22 = .ok (.aload_n 0, 1) := by decide +kernel
theorem dX1_give_23 : decode cX1_give 23 = .ok (.getfield 9, 3) := by decide +kernel
theorem dX1_give_26 : decode cX1_give 26 = .ok (.aload_n 0, 1) := by decide +kernel
theorem dX1_give_27 : decode cX1_give 27 = .ok (.getfield 15, 3) := by decide +kernel
theorem dX1_give_30 : decode cX1_give 30 = .ok (.iload_n 1, 1) := by decide +kernel
theorem dX1_give_31 : decode cX1_give 31 = .ok (.i2b, 1) := by decide +kernel
theorem dX1_give_32 : decode cX1_give 32 = .ok (.bastore, 1) := by decide +kernel
theorem dX1_give_33 : decode cX1_give 33 = .ok (.aload_n 0, 1) := by decide +kernel
theorem dX1_give_34 : decode cX1_give 34 = .ok (.getfield 15, 3) := by decide +kernel
theorem dX1_give_37 : decode cX1_give 37 = .ok (.ireturn, 1) := by decide +kernel
theorem dX1_wasGiven_0 : decode cX1_wasGiven 0 = .ok (.iload_n 1, 1) := by decide +kernel
theorem dX1_wasGiven_1 : decode cX1_wasGiven 1 = .ok (.iconst 1, 1) := by decide +kernel
theorem dX1_wasGiven_2 : decode cX1_wasGiven 2 = .ok (.if_icmp .lt 15, 3) := by decide +kernel
theorem dX1_wasGiven_5 : decode cX1_wasGiven 5 = .ok (.iload_n 1, 1) := by decide +kernel
theorem dX1_wasGiven_6 : decode cX1_wasGiven 6 = .ok (.aload_n 0, 1) := by decide +kernel
theorem dX1_wasGiven_7 : decode cX1_wasGiven 7 = .ok (.getfield 15, 3) := by decide +kernel
theorem dX1_wasGiven_10 : decode cX1_wasGiven 10 = .ok (.if_icmp .gt 7, 3) := by decide +kernel
theorem dX1_wasGiven_13 : decode cX1_wasGiven 13 = .ok (.iconst 1, 1) := by decide +kernel
theorem dX1_wasGiven_14 : decode cX1_wasGiven 14 = .ok (.goto 4, 3) := by decide +kernel
theorem dX1_wasGiven_17 : decode cX1_wasGiven 17 = .ok (.iconst 0, 1) := by decide +kernel
theorem dX1_wasGiven_18 : decode cX1_wasGiven 18 = .ok (.ireturn, 1) := by decide +kernel
set_option maxRecDepth 20000 in
theorem ggX1_runnerOf_X1_wasGiven : GoodIn wsX1_runnerOf wsX1_wasGiven := goodIn_r _ [6, 7, 8, 9] (by decide +kernel) (by decide +kernel)
set_option maxRecDepth 20000 in
theorem gX1_runnerOf_X1_wasGiven : GoodIn wsX1_runnerOf (wsV RX1 19 RX1 yX1_wasGiven wsX1_wasGiven) := goodIn_app (goodIn_of _ (by decide +kernel)) ggX1_runnerOf_X1_wasGiven
theorem dX1_runnerOf_0 : decode cX1_runnerOf 0 = .ok (.aload_n 0, 1) := by decide +kernel
theorem dX1_runnerOf_1 : decode cX1_runnerOf 1 = .ok (.iload_n 1, 1) := by decide +kernel
theorem dX1_runnerOf_2 : decode cX1_runnerOf 2 = .ok (.invokevirtual 19, 3) := by decide +kernel
theorem dX1_runnerOf_5 : decode cX1_runnerOf 5 = .ok (.ifCond .eq 12, 3) := by decide +kernel
theorem dX1_runnerOf_8 : decode cX1_runnerOf 8 = .ok (.aload_n 0, 1) := by decide +kernel
theorem dX1_runnerOf_9 : decode cX1_runnerOf 9 = .ok (.getfield 9, 3) := by decide +kernel
theorem dX1_runnerOf_12 : decode cX1_runnerOf 12 = .ok (.iload_n 1, 1) := by decide +kernel
theorem dX1_runnerOf_13 : decode cX1_runnerOf 13 = .ok (.baload, 1) := by decide +kernel
theorem dX1_runnerOf_14 : decode cX1_runnerOf 14 = .ok (.goto 4, 3) := by decide +kernel
theorem dX1_runnerOf_17 : decode cX1_runnerOf 17 = .ok (.iconst (-1), 1) := by decide +kernel
theorem dX1_runnerOf_18 : decode cX1_runnerOf 18 = .ok (.ireturn, 1) := by decide +kernel
set_option maxRecDepth 20000 in
theorem ggX1_stop_X1_wasGiven : GoodIn wsX1_stop wsX1_wasGiven := goodIn_r _ [6, 7, 8, 9] (by decide +kernel) (by decide +kernel)
set_option maxRecDepth 20000 in
theorem gX1_stop_X1_wasGiven : GoodIn wsX1_stop (wsV RX1 19 RX1 yX1_wasGiven wsX1_wasGiven) := goodIn_app (goodIn_of _ (by decide +kernel)) ggX1_stop_X1_wasGiven
theorem dX1_stop_0 : decode cX1_stop 0 = .ok (.aload_n 0, 1) := by decide +kernel
theorem dX1_stop_1 : decode cX1_stop 1 = .ok (.iload_n 1, 1) := by decide +kernel
theorem dX1_stop_2 : decode cX1_stop 2 = .ok (.invokevirtual 19, 3) := by decide +kernel
theorem dX1_stop_5 : decode cX1_stop 5 = .ok (.ifCond .eq 10, 3) := by decide +kernel
theorem dX1_stop_8 : decode cX1_stop 8 = .ok (.aload_n 0, 1) := by decide +kernel
theorem dX1_stop_9 : decode cX1_stop 9 = .ok (.getfield 9, 3) := by decide +kernel
theorem dX1_stop_12 : decode cX1_stop 12 = .ok (.iload_n 1, 1) := by decide +kernel
theorem dX1_stop_13 : decode cX1_stop 13 = .ok (.iconst (-1), 1) := by decide +kernel
theorem dX1_stop_14 : decode cX1_stop 14 = .ok (.bastore, 1) := by decide +kernel
theorem dX1_stop_15 : decode cX1_stop 15 = .ok (.return_, 1) := by decide +kernel
theorem dX2_init_0 : decode cX2_init 0 = .ok (.aload_n 0, 1) := by decide +kernel
theorem dX2_init_1 : decode cX2_init 1 = .ok (.invokespecial 3, 3) := by decide +kernel
theorem dX2_init_4 : decode cX2_init 4 = .ok (.aload_n 0, 1) := by decide +kernel
theorem dX2_init_5 : decode cX2_init 5 = .ok (.bipush 6, 2) := by decide +kernel
theorem dX2_init_7 : decode cX2_init 7 = .ok (.newarray .int, 2) := by decide +kernel
theorem dX2_init_9 : decode cX2_init 9 = .ok (.putfield 9, 3) := by decide +kernel
theorem dX2_init_12 : decode cX2_init 12 = .ok (.aload_n 0, 1) := by decide +kernel
theorem dX2_init_13 : decode cX2_init 13 = .ok (.iconst 0, 1) := by decide +kernel
theorem dX2_init_14 : decode cX2_init 14 = .ok (.putfield 15, 3) := by decide +kernel
theorem dX2_init_17 : decode cX2_init 17 = .ok (.aload_n 0, 1) := by decide +kernel
theorem dX2_init_18 : decode cX2_init 18 = .ok (.bipush 6, 2) := by decide +kernel
theorem dX2_init_20 : decode cX2_init 20 = .ok (.newarray .int, 2) := by decide +kernel
theorem dX2_init_22 : decode cX2_init 22 = .ok (.putfield 19, 3) := by decide +kernel
theorem dX2_init_25 : decode cX2_init 25 = .ok (.aload_n 0, 1) := by decide +kernel
theorem dX2_init_26 : decode cX2_init 26 = .ok (.bipush 6, 2) := by decide +kernel
theorem dX2_init_28 : decode cX2_init 28 = .ok (.newarray .int, 2) := by decide +kernel
theorem dX2_init_30 : decode cX2_init 30 = .ok (.putfield 22, 3) := by decide +kernel
theorem dX2_init_33 : decode cX2_init 33 = .ok (.aload_n 0, 1) := by decide +kernel
theorem dX2_init_34 : decode cX2_init 34 = .ok (.bipush 6, 2) := by decide +kernel
theorem dX2_init_36 : decode cX2_init 36 = .ok (.newarray .int, 2) := by decide +kernel
theorem dX2_init_38 : decode cX2_init 38 = .ok (.putfield 25, 3) := by decide +kernel
theorem dX2_init_41 : decode cX2_init 41 = .ok (.aload_n 0, 1) := by decide +kernel
theorem dX2_init_42 : decode cX2_init 42 = .ok (.bipush 6, 2) := by decide +kernel
theorem dX2_init_44 : decode cX2_init 44 = .ok (.newarray .int, 2) := by decide +kernel
theorem dX2_init_46 : decode cX2_init 46 = .ok (.putfield 28, 3) := by decide +kernel
theorem dX2_init_49 : decode cX2_init 49 = .ok (.aload_n 0, 1) := by decide +kernel
theorem dX2_init_50 : decode cX2_init 50 = .ok (.bipush 6, 2) := by decide +kernel
theorem dX2_init_52 : decode cX2_init 52 = .ok (.newarray .boolean, 2) := by decide +kernel
theorem dX2_init_54 : decode cX2_init 54 = .ok (.putfield 31, 3) := by decide +kernel
theorem dX2_init_57 : decode cX2_init 57 = .ok (.return_, 1) := by decide +kernel
theorem dX2_size_0 : decode cX2_size 0 = .ok (.aload_n 0, 1) := by decide +kernel
theorem dX2_size_1 : decode cX2_size 1 = .ok (.getfield 15, 3) := by decide +kernel
theorem dX2_size_4 : decode cX2_size 4 = .ok (.ireturn, 1) := by decide +kernel
theorem dX2_sessionAt_0 : decode cX2_sessionAt 0 = .ok (.iload_n 1, 1) := by decide +kernel
theorem dX2_sessionAt_1 : decode cX2_sessionAt 1 = .ok (.ifCond .lt 20, 3) := by decide +kernel
theorem dX2_sessionAt_4 : decode cX2_sessionAt 4 = .ok (.iload_n 1, 1) := by decide +kernel
theorem dX2_sessionAt_5 : decode cX2_sessionAt 5 = .ok (.aload_n 0, 1) := by decide +kernel
theorem dX2_sessionAt_6 : decode cX2_sessionAt 6 = .ok (.getfield 15, 3) := by decide +kernel
theorem dX2_sessionAt_9 : decode cX2_sessionAt 9 = .ok (.if_icmp .ge 12, 3) := by decide +kernel
theorem dX2_sessionAt_12 : decode cX2_sessionAt 12 = .ok (.aload_n 0, 1) := by decide +kernel
theorem dX2_sessionAt_13 : decode cX2_sessionAt 13 = .ok (.getfield 9, 3) := by decide +kernel
theorem dX2_sessionAt_16 : decode cX2_sessionAt 16 = .ok (.iload_n 1, 1) := by decide +kernel
theorem dX2_sessionAt_17 : decode cX2_sessionAt 17 = .ok (.iaload, 1) := by decide +kernel
theorem dX2_sessionAt_18 : decode cX2_sessionAt 18 = .ok (.goto 4, 3) := by decide +kernel
theorem dX2_sessionAt_21 : decode cX2_sessionAt 21 = .ok (.iconst (-1), 1) := by decide +kernel
theorem dX2_sessionAt_22 : decode cX2_sessionAt 22 = .ok (.ireturn, 1) := by decide +kernel
theorem dX2_placeOf_0 : decode cX2_placeOf 0 = .ok (.iconst 0, 1) := by decide +kernel
theorem dX2_placeOf_1 : decode cX2_placeOf 1 = .ok (.istore_n 2, 1) := by decide +kernel
theorem dX2_placeOf_2 : decode cX2_placeOf 2 = .ok (.iload_n 2, 1) := by decide +kernel
theorem dX2_placeOf_3 : decode cX2_placeOf 3 = .ok (.aload_n 0, 1) := by decide +kernel
theorem dX2_placeOf_4 : decode cX2_placeOf 4 = .ok (.getfield 15, 3) := by decide +kernel
theorem dX2_placeOf_7 : decode cX2_placeOf 7 = .ok (.if_icmp .ge 21, 3) := by decide +kernel
theorem dX2_placeOf_10 : decode cX2_placeOf 10 = .ok (.aload_n 0, 1) := by decide +kernel
theorem dX2_placeOf_11 : decode cX2_placeOf 11 = .ok (.getfield 9, 3) := by decide +kernel
theorem dX2_placeOf_14 : decode cX2_placeOf 14 = .ok (.iload_n 2, 1) := by decide +kernel
theorem dX2_placeOf_15 : decode cX2_placeOf 15 = .ok (.iaload, 1) := by decide +kernel
theorem dX2_placeOf_16 : decode cX2_placeOf 16 = .ok (.iload_n 1, 1) := by decide +kernel
theorem dX2_placeOf_17 : decode cX2_placeOf 17 = .ok (.if_icmp .ne 5, 3) := by decide +kernel
theorem dX2_placeOf_20 : decode cX2_placeOf 20 = .ok (.iload_n 2, 1) := by decide +kernel
theorem dX2_placeOf_21 : decode cX2_placeOf 21 = .ok (.ireturn, 1) := by decide +kernel
theorem dX2_placeOf_22 : decode cX2_placeOf 22 = .ok (.iinc 2 1, 3) := by decide +kernel
theorem dX2_placeOf_25 : decode cX2_placeOf 25 = .ok (.goto (-23), 3) := by decide +kernel
theorem dX2_placeOf_28 : decode cX2_placeOf 28 = .ok (.iconst (-1), 1) := by decide +kernel
theorem dX2_placeOf_29 : decode cX2_placeOf 29 = .ok (.ireturn, 1) := by decide +kernel
set_option maxRecDepth 20000 in
theorem ggX2_contains_X2_placeOf : GoodIn wsX2_contains wsX2_placeOf := goodIn_r _ [5, 6, 7, 8, 9, 10, 11, 12, 13, 14] (by decide +kernel) (by decide +kernel)
set_option maxRecDepth 20000 in
theorem gX2_contains_X2_placeOf : GoodIn wsX2_contains (wsV RX2 35 RX2 yX2_placeOf wsX2_placeOf) := goodIn_app (goodIn_of _ (by decide +kernel)) ggX2_contains_X2_placeOf
theorem dX2_contains_0 : decode cX2_contains 0 = .ok (.aload_n 0, 1) := by decide +kernel
theorem dX2_contains_1 : decode cX2_contains 1 = .ok (.iload_n 1, 1) := by decide +kernel
theorem dX2_contains_2 : decode cX2_contains 2 = .ok (.invokevirtual 35, 3) := by decide +kernel
theorem dX2_contains_5 : decode cX2_contains 5 = .ok (.iconst (-1), 1) := by decide +kernel
theorem dX2_contains_6 : decode cX2_contains 6 = .ok (.if_icmp .eq 7, 3) := by decide +kernel
theorem dX2_contains_9 : decode cX2_contains 9 = .ok (.iconst 1, 1) := by decide +kernel
theorem dX2_contains_10 : decode cX2_contains 10 = .ok (.goto 4, 3) := by decide +kernel
theorem dX2_contains_13 : decode cX2_contains 13 = .ok (.iconst 0, 1) := by decide +kernel
theorem dX2_contains_14 : decode cX2_contains 14 = .ok (.ireturn, 1) := by decide +kernel
set_option maxRecDepth 20000 in
theorem ggX2_addForTable_X2_append : GoodIn wsX2_addForTable wsX2_append := goodIn_r _ [10, 11, 12, 13, 14, 15, 16, 17, 18, 19] (by decide +kernel) (by decide +kernel)
set_option maxRecDepth 20000 in
theorem gX2_addForTable_X2_append : GoodIn wsX2_addForTable (wsV RX2 39 RX2 yX2_append wsX2_append) := goodIn_app (goodIn_of _ (by decide +kernel)) ggX2_addForTable_X2_append
theorem dX2_addForTable_0 : decode cX2_addForTable 0 = .ok (.aload_n 0, 1) := by decide +kernel
theorem dX2_addForTable_1 : decode cX2_addForTable 1 = .ok (.getfield 19, 3) := by decide +kernel
theorem dX2_addForTable_4 : decode cX2_addForTable 4 = .ok (.iload_n 1, 1) := by decide +kernel
theorem dX2_addForTable_5 : decode cX2_addForTable 5 = .ok (.iconst 0, 1) := by decide +kernel
theorem dX2_addForTable_6 : decode cX2_addForTable 6 = .ok (.iastore, 1) := by decide +kernel
theorem dX2_addForTable_7 : decode cX2_addForTable 7 = .ok (.aload_n 0, 1) := by decide +kernel
theorem dX2_addForTable_8 : decode cX2_addForTable 8 = .ok (.getfield 22, 3) := by decide +kernel
theorem dX2_addForTable_11 : decode cX2_addForTable 11 = .ok (.iload_n 1, 1) := by decide +kernel
