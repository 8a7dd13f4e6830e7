theorem dX0_init_0 : decode cX0_init 0 = .ok (.aload_n 0, 1) := by decide +kernel
theorem dX0_init_1 : decode cX0_init 1 = .ok (.invokespecial 3, 3) := by decide +kernel
theorem dX0_init_4 : decode cX0_init 4 = .ok (.aload_n 0, 1) := by decide +kernel
theorem dX0_init_5 : decode cX0_init 5 = .ok (.iconst 0, 1) := by decide +kernel
theorem dX0_init_6 : decode cX0_init 6 = .ok (.putfield 9, 3) := by decide +kernel
theorem dX0_init_9 : decode cX0_init 9 = .ok (.aload_n 0, 1) := by decide +kernel
theorem dX0_init_10 : decode cX0_init 10 = .ok (.bipush 60, 2) := by decide +kernel
theorem dX0_init_12 : decode cX0_init 12 = .ok (.newarray .int, 2) := by decide +kernel
theorem dX0_init_14 : decode cX0_init 14 = .ok (.putfield 15, 3) := by decide +kernel
theorem dX0_init_17 : decode cX0_init 17 = .ok (.aload_n 0, 1) := by decide +kernel
theorem dX0_init_18 : decode cX0_init 18 = .ok (.bipush 60, 2) := by decide +kernel
theorem dX0_init_20 : decode cX0_init 20 = .ok (.newarray .int, 2) := by decide +kernel
theorem dX0_init_22 : decode cX0_init 22 = .ok (.putfield 19, 3) := by decide +kernel
theorem dX0_init_25 : decode cX0_init 25 = .ok (.aload_n 0, 1) := by decide +kernel
theorem dX0_init_26 : decode cX0_init 26 = .ok (.bipush 60, 2) := by decide +kernel
theorem dX0_init_28 : decode cX0_init 28 = .ok (.newarray .int, 2) := by decide +kernel
theorem dX0_init_30 : decode cX0_init 30 = .ok (.putfield 22, 3) := by decide +kernel
theorem dX0_init_33 : decode cX0_init 33 = .ok (.aload_n 0, 1) := by decide +kernel
theorem dX0_init_34 : decode cX0_init 34 = .ok (.bipush 60, 2) := by decide +kernel
theorem dX0_init_36 : decode cX0_init 36 = .ok (.newarray .boolean, 2) := by decide +kernel
theorem dX0_init_38 : decode cX0_init 38 = .ok (.putfield 25, 3) := by decide +kernel
theorem dX0_init_41 : decode cX0_init 41 = .ok (.aload_n 0, 1) := by decide +kernel
theorem dX0_init_42 : decode cX0_init 42 = .ok (.bipush 60, 2) := by decide +kernel
theorem dX0_init_44 : decode cX0_init 44 = .ok (.newarray .boolean, 2) := by decide +kernel
theorem dX0_init_46 : decode cX0_init 46 = .ok (.putfield 29, 3) := by decide +kernel
theorem dX0_init_49 : decode cX0_init 49 = .ok (.return_, 1) := by decide +kernel
theorem dX0_empty_0 : decode cX0_empty 0 = .ok (.aload_n 0, 1) := by decide +kernel
theorem dX0_empty_1 : decode cX0_empty 1 = .ok (.iconst 0, 1) := by decide +kernel
theorem dX0_empty_2 : decode cX0_empty 2 = .ok (.putfield 9, 3) := by decide +kernel
theorem dX0_empty_5 : decode cX0_empty 5 = .ok (.return_, 1) := by decide +kernel
theorem dX0_isFull_0 : decode cX0_isFull 0 = .ok (.aload_n 0, 1) := by decide +kernel
theorem dX0_isFull_1 : decode cX0_isFull 1 = .ok (.getfield 9, 3) := by decide +kernel
theorem dX0_isFull_4 : decode cX0_isFull 4 = .ok (.bipush 60, 2) := by decide +kernel
theorem dX0_isFull_6 : decode cX0_isFull 6 = .ok (.if_icmp .lt 7, 3) := by decide +kernel
theorem dX0_isFull_9 : decode cX0_isFull 9 = .ok (.iconst 1, 1) := by decide +kernel
theorem dX0_isFull_10 : decode cX0_isFull 10 = .ok (.goto 4, 3) := by decide +kernel
theorem dX0_isFull_13 : decode cX0_isFull 13 = .ok (.iconst 0, 1) := by decide +kernel
theorem dX0_isFull_14 : decode cX0_isFull 14 = .ok (.ireturn, 1) := by decide +kernel
theorem dX0_has_0 : decode cX0_has 0 = .ok (.iload_n 1, 1) := by decide +kernel
theorem dX0_has_1 : decode cX0_has 1 = .ok (.ifCond .lt 21, 3) := by decide +kernel
theorem dX0_has_4 : decode cX0_has 4 = .ok (.iload_n 1, 1) := by decide +kernel
theorem dX0_has_5 : decode cX0_has 5 = .ok (.aload_n 0, 1) := by decide +kernel
theorem dX0_has_6 : decode cX0_has 6 = .ok (.getfield 9, 3) := by decide +kernel
theorem dX0_has_9 : decode cX0_has 9 = .ok (.if_icmp .ge 13, 3) := by decide +kernel
theorem dX0_has_12 : decode cX0_has 12 = .ok (.iload_n 1, 1) := by decide +kernel
theorem dX0_has_13 : decode cX0_has 13 = .ok (.bipush 60, 2) := by decide +kernel
theorem dX0_has_15 : decode cX0_has 15 = .ok (.if_icmp .ge 7, 3) := by decide +kernel
theorem dX0_has_18 : decode cX0_has 18 = .ok (.iconst 1, 1) := by decide +kernel
theorem dX0_has_19 : decode cX0_has 19 = .ok (.goto 4, 3) := by decide +kernel
theorem dX0_has_22 : decode cX0_has 22 = .ok (.iconst 0, 1) := by decide +kernel
theorem dX0_has_23 : decode cX0_has 23 = .ok (.ireturn, 1) := by decide +kernel
theorem dX0_write_0 : decode cX0_write 0 = .ok (.aload_n 0, 1) := by decide +kernel
theorem dX0_write_1 : decode cX0_write 1 = .ok (.getfield 9, 3) := by decide +kernel
theorem dX0_write_4 : decode cX0_write 4 = .ok (.ifCond .lt 12, 3) := by decide +kernel
theorem dX0_write_7 : decode cX0_write 7 = .ok (.aload_n 0, 1) := by decide +kernel
theorem dX0_write_8 : decode cX0_write 8 = .ok (.getfield 9, 3) := by decide +kernel
theorem dX0_write_11 : decode cX0_write 11 = .ok (.bipush 60, 2) := by decide +kernel
theorem dX0_write_13 : decode cX0_write 13 = .ok (.if_icmp .lt 5, 3) := by decide +kernel
theorem dX0_write_16 : decode cX0_write 16 = .ok (.iconst (-1), 1) := by decide +kernel
theorem dX0_write_17 : decode cX0_write 17 = .ok (.ireturn, 1) := by decide +kernel
theorem dX0_write_18 : decode cX0_write 18 = .ok (.aload_n 0, 1) := by decide +kernel
theorem dX0_write_19 : decode cX0_write 19 = .ok (.getfield 9, 3) := by decide +kernel
theorem dX0_write_22 : decode cX0_write 22 = .ok (.istore 4, 2) := by decide +kernel
theorem dX0_write_24 : decode cX0_write 24 = .ok (.aload_n 0, 1) := by decide +kernel
theorem dX0_write_25 : decode cX0_write 25 = .ok (.getfield 15, 3) := by decide +kernel
theorem dX0_write_28 : decode cX0_write 28 = .ok (.iload 4, 2) := by decide +kernel
theorem dX0_write_30 : decode cX0_write 30 = .ok (.iload_n 1, 1) := by decide +kernel
theorem dX0_write_31 : decode cX0_write 31 = .ok (.iastore, 1) := by decide +kernel
theorem dX0_write_32 : decode cX0_write 32 = .ok (.aload_n 0, 1) := by decide +kernel
theorem dX0_write_33 : decode cX0_write 33 = .ok (.getfield 19, 3) := by decide +kernel
theorem dX0_write_36 : decode cX0_write 36 = .ok (.iload 4, 2) := by decide +kernel
theorem dX0_write_38 : decode cX0_write 38 = .ok (.iload_n 2, 1) := by decide +kernel
theorem dX0_write_39 : decode cX0_write 39 = .ok (.iastore, 1) := by decide +kernel
theorem dX0_write_40 : decode cX0_write 40 = .ok (.aload_n 0, 1) := by decide +kernel
theorem dX0_write_41 : decode cX0_write 41 = .ok (.getfield 22, 3) := by decide +kernel
theorem dX0_write_44 : decode cX0_write 44 = .ok (.iload 4, 2) := by decide +kernel
theorem dX0_write_46 : decode cX0_write 46 = .ok (.iload_n 3, 1) := by decide +kernel
theorem dX0_write_47 : decode cX0_write 47 = .ok (.iastore, 1) := by decide +kernel
theorem dX0_write_48 : decode cX0_write 48 = .ok (.aload_n 0, 1) := by decide +kernel
theorem dX0_write_49 : decode cX0_write 49 = .ok (.getfield 25, 3) := by decide +kernel
theorem dX0_write_52 : decode cX0_write 52 = .ok (.iload 4, 2) := by decide +kernel
theorem dX0_write_54 : decode cX0_write 54 = .ok (.iconst 0, 1) := by decide +kernel
theorem dX0_write_55 : decode cX0_write 55 = .ok (.bastore, 1) := by decide +kernel
theorem dX0_write_56 : decode cX0_write 56 = .ok (.aload_n 0, 1) := by decide +kernel
theorem dX0_write_57 : decode cX0_write 57 = .ok (.dup, 1) := by decide +kernel
theorem dX0_write_58 : decode cX0_write 58 = .ok (.getfield 9, 3) := by decide +kernel
theorem dX0_write_61 : decode cX0_write 61 = .ok (.iconst 1, 1) := by decide +kernel
theorem dX0_write_62 : decode cX0_write 62 = .ok (.iadd, 1) := by decide +kernel
theorem dX0_write_63 : decode cX0_write 63 = .ok (.putfield 9, 3) := by decide +kernel
theorem dX0_write_66 : decode cX0_write 66 = .ok (.iload 4, 2) := by decide +kernel
theorem dX0_write_68 : decode cX0_write 68 = .ok (.ireturn, 1) := by decide +kernel
set_option maxRecDepth 20000 in
theorem ggX0_cross_X0_has : GoodIn wsX0_cross wsX0_has := goodIn_r _ [6, 7, 8, 9, 10, 11, 12, 13] (by decide +kernel) (by decide +kernel)
set_option maxRecDepth 20000 in
theorem gX0_cross_X0_has : GoodIn wsX0_cross (wsV RX0 32 RX0 yX0_has wsX0_has) := goodIn_app (goodIn_of _ (by decide +kernel)) ggX0_cross_X0_has
theorem dX0_cross_0 : decode cX0_cross 0 = .ok (.aload_n 0, 1) := by decide +kernel
theorem dX0_cross_1 : decode cX0_cross 1 = .ok (.iload_n 1, 1) := by decide +kernel
theorem dX0_cross_2 : decode cX0_cross 2 = .ok (.invokevirtual 32, 3) := by decide +kernel
theorem dX0_cross_5 : decode cX0_cross 5 = .ok (.ifCond .eq 10, 3) := by decide +kernel
theorem dX0_cross_8 : decode cX0_cross 8 = .ok (.aload_n 0, 1) := by decide +kernel
theorem dX0_cross_9 : decode cX0_cross 9 = .ok (.getfield 25, 3) := by decide +kernel
theorem dX0_cross_12 : decode cX0_cross 12 = .ok (.iload_n 1, 1) := by decide +kernel
theorem dX0_cross_13 : decode cX0_cross 13 = .ok (.iconst 1, 1) := by decide +kernel
theorem dX0_cross_14 : decode cX0_cross 14 = .ok (.bastore, 1) := by decide +kernel
theorem dX0_cross_15 : decode cX0_cross 15 = .ok (.return_, 1) := by decide +kernel
set_option maxRecDepth 20000 in
theorem ggX0_stands_X0_has : GoodIn wsX0_stands wsX0_has := goodIn_r _ [6, 7, 8, 9, 10, 11, 12, 13] (by decide +kernel) (by decide +kernel)
set_option maxRecDepth 20000 in
theorem gX0_stands_X0_has : GoodIn wsX0_stands (wsV RX0 32 RX0 yX0_has wsX0_has) := goodIn_app (goodIn_of _ (by decide +kernel)) ggX0_stands_X0_has
theorem dX0_stands_0 : decode cX0_stands 0 = .ok (.aload_n 0, 1) := by decide +kernel
theorem dX0_stands_1 : decode cX0_stands 1 = .ok (.iload_n 1, 1) := by decide +kernel
theorem dX0_stands_2 : decode cX0_stands 2 = .ok (.invokevirtual 32, 3) := by decide +kernel
theorem dX0_stands_5 : decode cX0_stands 5 = .ok (.ifCond .eq 16, 3) := by decide +kernel
theorem dX0_stands_8 : decode cX0_stands 8 = .ok (.aload_n 0, 1) := by decide +kernel
theorem dX0_stands_9 : decode cX0_stands 9 = .ok (.getfield 25, 3) := by decide +kernel
theorem dX0_stands_12 : decode cX0_stands 12 = .ok (.iload_n 1, 1) := by decide +kernel
theorem dX0_stands_13 : decode cX0_stands 13 = .ok (.baload, 1) := by decide +kernel
theorem dX0_stands_14 : decode cX0_stands 14 = .ok (.ifCond .ne 7, 3) := by decide +kernel
theorem dX0_stands_17 : decode cX0_stands 17 = .ok (.iconst 1, 1) := by decide +kernel
theorem dX0_stands_18 : decode cX0_stands 18 = .ok (.goto 4, 3) := by decide +kernel
theorem dX0_stands_21 : decode cX0_stands 21 = .ok (.iconst 0, 1) := by decide +kernel
theorem dX0_stands_22 : decode cX0_stands 22 = .ok (.ireturn, 1) := by decide +kernel
set_option maxRecDepth 20000 in
theorem ggX0_standsIn_X0_stands : GoodIn wsX0_standsIn wsX0_stands := goodIn_r _ [6, 7, 8, 9, 10, 5, 11, 12, 13, 14, 15, 16, 17, 18] (by decide +kernel) (by decide +kernel)
set_option maxRecDepth 20000 in
theorem gX0_standsIn_X0_stands : GoodIn wsX0_standsIn (wsV RX0 36 RX0 yX0_stands wsX0_stands) := goodIn_app (goodIn_of _ (by decide +kernel)) ggX0_standsIn_X0_stands
theorem dX0_standsIn_0 : decode cX0_standsIn 0 = .ok (.aload_n 0, 1) := by decide +kernel
theorem dX0_standsIn_1 : decode cX0_standsIn 1 = .ok (.iload_n 1, 1) := by decide +kernel
theorem dX0_standsIn_2 : decode cX0_standsIn 2 = .ok (.invokevirtual 36, 3) := by decide +kernel
theorem dX0_standsIn_5 : decode cX0_standsIn 5 = .ok (.ifCond .eq 17, 3) := by decide +kernel
theorem dX0_standsIn_8 : decode cX0_standsIn 8 = .ok (.aload_n 0, 1) := by decide +kernel
theorem dX0_standsIn_9 : decode cX0_standsIn 9 = .ok (.getfield 15, 3) := by decide +kernel
theorem dX0_standsIn_12 : decode cX0_standsIn 12 = .ok (.iload_n 1, 1) := by decide +kernel
theorem dX0_standsIn_13 : decode cX0_standsIn 13 = .ok (.iaload, 1) := by decide +kernel
theorem dX0_standsIn_14 : decode cX0_standsIn 14 = .ok (.iload_n 2, 1) := by decide +kernel
theorem dX0_standsIn_15 : decode cX0_standsIn 15 = .ok (.if_icmp .ne 7, 3) := by decide +kernel
theorem dX0_standsIn_18 : decode cX0_standsIn 18 = .ok (.iconst 1, 1) := by decide +kernel
theorem dX0_standsIn_19 : decode cX0_standsIn 19 = .ok (.goto 4, 3) := by decide +kernel
theorem dX0_standsIn_22 : decode cX0_standsIn 22 = .ok (.iconst 0, 1) := by decide +kernel
theorem dX0_standsIn_23 : decode cX0_standsIn 23 = .ok (.ireturn, 1) := by decide +kernel
set_option maxRecDepth 20000 in
theorem ggX0_monthOf_X0_has : GoodIn wsX0_monthOf wsX0_has := goodIn_r _ [6, 7, 8, 9, 10, 11, 12, 13] (by decide +kernel) (by decide +kernel)
set_option maxRecDepth 20000 in
theorem gX0_monthOf_X0_has : GoodIn wsX0_monthOf (wsV RX0 32 RX0 yX0_has wsX0_has) := goodIn_app (goodIn_of _ (by decide +kernel)) ggX0_monthOf_X0_has
theorem dX0_monthOf_0 : decode cX0_monthOf 0 = .ok (.aload_n 0, 1) := by decide +kernel
theorem dX0_monthOf_1 : decode cX0_monthOf 1 = .ok (.iload_n 1, 1) := by decide +kernel
theorem dX0_monthOf_2 : decode cX0_monthOf 2 = .ok (.invokevirtual 32, 3) := by decide +kernel
theorem dX0_monthOf_5 : decode cX0_monthOf 5 = .ok (.ifCond .eq 12, 3) := by decide +kernel
theorem dX0_monthOf_8 : decode cX0_monthOf 8 = .ok (.aload_n 0, 1) := by decide +kernel
theorem dX0_monthOf_9 : decode cX0_monthOf 9 = .ok (.getfield 15, 3) := by decide +kernel
theorem dX0_monthOf_12 : decode cX0_monthOf 12 = .ok (.iload_n 1, 1) := by decide +kernel
theorem dX0_monthOf_13 : decode cX0_monthOf 13 = .ok (.iaload, 1) := by decide +kernel
theorem dX0_monthOf_14 : decode cX0_monthOf 14 = .ok (.goto 4, 3) := by decide +kernel
theorem dX0_monthOf_17 : decode cX0_monthOf 17 = .ok (.iconst (-1), 1) := by decide +kernel
theorem dX0_monthOf_18 : decode cX0_monthOf 18 = .ok (.ireturn, 1) := by decide +kernel
set_option maxRecDepth 20000 in
theorem ggX0_kindOf_X0_has : GoodIn wsX0_kindOf wsX0_has := goodIn_r _ [6, 7, 8, 9, 10, 11, 12, 13] (by decide +kernel) (by decide +kernel)
set_option maxRecDepth 20000 in
theorem gX0_kindOf_X0_has : GoodIn wsX0_kindOf (wsV RX0 32 RX0 yX0_has wsX0_has) := goodIn_app (goodIn_of _ (by decide +kernel)) ggX0_kindOf_X0_has
theorem dX0_kindOf_0 : decode cX0_kindOf 0 = .ok (.aload_n 0, 1) := by decide +kernel
theorem dX0_kindOf_1 : decode cX0_kindOf 1 = .ok (.iload_n 1, 1) := by decide +kernel
theorem dX0_kindOf_2 : decode cX0_kindOf 2 = .ok (.invokevirtual 32, 3) := by decide +kernel
theorem dX0_kindOf_5 : decode cX0_kindOf 5 = .ok (.ifCond .eq 12, 3) := by decide +kernel
theorem dX0_kindOf_8 : decode cX0_kindOf 8 = .ok (.aload_n 0, 1) := by decide +kernel
theorem dX0_kindOf_9 : decode cX0_kindOf 9 = .ok (.getfield 19, 3) := by decide +kernel
theorem dX0_kindOf_12 : decode cX0_kindOf 12 = .ok (.iload_n 1, 1) := by decide +kernel
theorem dX0_kindOf_13 : decode cX0_kindOf 13 = .ok (.iaload, 1) := by decide +kernel
theorem dX0_kindOf_14 : decode cX0_kindOf 14 = .ok (.goto 4, 3) := by decide +kernel
theorem dX0_kindOf_17 : decode cX0_kindOf 17 = .ok (.iconst (-1), 1) := by decide +kernel
theorem dX0_kindOf_18 : decode cX0_kindOf 18 = .ok (.ireturn, 1) := by decide +kernel
set_option maxRecDepth 20000 in
theorem ggX0_amountOf_X0_has : GoodIn wsX0_amountOf wsX0_has := goodIn_r _ [6, 7, 8, 9, 10, 11, 12, 13] (by decide +kernel) (by decide +kernel)
set_option maxRecDepth 20000 in
theorem gX0_amountOf_X0_has : GoodIn wsX0_amountOf (wsV RX0 32 RX0 yX0_has wsX0_has) := goodIn_app (goodIn_of _ (by decide +kernel)) ggX0_amountOf_X0_has
theorem dX0_amountOf_0 : decode cX0_amountOf 0 = .ok (.aload_n 0, 1) := by decide +kernel
theorem dX0_amountOf_1 : decode cX0_amountOf 1 = .ok (.iload_n 1, 1) := by decide +kernel
theorem dX0_amountOf_2 : decode cX0_amountOf 2 = .ok (.invokevirtual 32, 3) := by decide +kernel
theorem dX0_amountOf_5 : decode cX0_amountOf 5 = .ok (.ifCond .eq 12, 3) := by decide +kernel
theorem dX0_amountOf_8 : decode cX0_amountOf 8 = .ok (.aload_n 0, 1) := by decide +kernel
theorem dX0_amountOf_9 : decode cX0_amountOf 9 = .ok (.getfield 22, 3) := by decide +kernel
theorem dX0_amountOf_12 : decode cX0_amountOf 12 = .ok (.iload_n 1, 1) := by decide +kernel
theorem dX0_amountOf_13 : decode cX0_amountOf 13 = .ok (.iaload, 1) := by decide +kernel
theorem dX0_amountOf_14 : decode cX0_amountOf 14 = .ok (.goto 4, 3) := by decide +kernel
theorem dX0_amountOf_17 : decode cX0_amountOf 17 = .ok (.iconst 0, 1) := by decide +kernel
theorem dX0_amountOf_18 : decode cX0_amountOf 18 = .ok (.ireturn, 1) := by decide +kernel
set_option maxRecDepth 20000 in
theorem ggX0_noteDone_X0_has : GoodIn wsX0_noteDone wsX0_has := goodIn_r _ [6, 7, 8, 9, 10, 11, 12, 13] (by decide +kernel) (by decide +kernel)
set_option maxRecDepth 20000 in
theorem gX0_noteDone_X0_has : GoodIn wsX0_noteDone (wsV RX0 32 RX0 yX0_has wsX0_has) := goodIn_app (goodIn_of _ (by decide +kernel)) ggX0_noteDone_X0_has
theorem dX0_noteDone_0 : decode cX0_noteDone 0 = .ok (.aload_n 0, 1) := by decide +kernel
theorem dX0_noteDone_1 : decode cX0_noteDone 1 = .ok (.iload_n 1, 1) := by decide +kernel
theorem dX0_noteDone_2 : decode cX0_noteDone 2 = .ok (.invokevirtual 32, 3) := by decide +kernel
theorem dX0_noteDone_5 : decode cX0_noteDone 5 = .ok (.ifCond .eq 10, 3) := by decide +kernel
theorem dX0_noteDone_8 : decode cX0_noteDone 8 = .ok (.aload_n 0, 1) := by decide +kernel
theorem dX0_noteDone_9 : decode cX0_noteDone 9 = .ok (.getfield 29, 3) := by decide +kernel
theorem dX0_noteDone_12 : decode cX0_noteDone 12 = .ok (.iload_n 1, 1) := by decide +kernel
theorem dX0_noteDone_13 : decode cX0_noteDone 13 = .ok (.iload_n 2, 1) := by decide +kernel
theorem dX0_noteDone_14 : decode cX0_noteDone 14 = .ok (.bastore, 1) := by decide +kernel
theorem dX0_noteDone_15 : decode cX0_noteDone 15 = .ok (.return_, 1) := by decide +kernel
set_option maxRecDepth 20000 in
theorem ggX0_wasDone_X0_has : GoodIn wsX0_wasDone wsX0_has := goodIn_r _ [6, 7, 8, 9, 10, 11, 12, 13] (by decide +kernel) (by decide +kernel)
set_option maxRecDepth 20000 in
theorem gX0_wasDone_X0_has : GoodIn wsX0_wasDone (wsV RX0 32 RX0 yX0_has wsX0_has) := goodIn_app (goodIn_of _ (by decide +kernel)) ggX0_wasDone_X0_has
theorem dX0_wasDone_0 : decode cX0_wasDone 0 = .ok (.aload_n 0, 1) := by decide +kernel
theorem dX0_wasDone_1 : decode cX0_wasDone 1 = .ok (.iload_n 1, 1) := by decide +kernel
theorem dX0_wasDone_2 : decode cX0_wasDone 2 = .ok (.invokevirtual 32, 3) := by decide +kernel
theorem dX0_wasDone_5 : decode cX0_wasDone 5 = .ok (.ifCond .eq 16, 3) := by decide +kernel
theorem dX0_wasDone_8 : decode cX0_wasDone 8 = .ok (.aload_n 0, 1) := by decide +kernel
theorem dX0_wasDone_9 : decode cX0_wasDone 9 = .ok (.getfield 29, 3) := by decide +kernel
theorem dX0_wasDone_12 : decode cX0_wasDone 12 = .ok (.iload_n 1, 1) := by decide +kernel
theorem dX0_wasDone_13 : decode cX0_wasDone 13 = .ok (.baload, 1) := by decide +kernel
theorem dX0_wasDone_14 : decode cX0_wasDone 14 = .ok (.ifCond .eq 7, 3) := by decide +kernel
theorem dX0_wasDone_17 : decode cX0_wasDone 17 = .ok (.iconst 1, 1) := by decide +kernel
theorem dX0_wasDone_18 : decode cX0_wasDone 18 = .ok (.goto 4, 3) := by decide +kernel
theorem dX0_wasDone_21 : decode cX0_wasDone 21 = .ok (.iconst 0, 1) := by decide +kernel
theorem dX0_wasDone_22 : decode cX0_wasDone 22 = .ok (.ireturn, 1) := by decide +kernel
theorem dX1_init_0 : decode cX1_init 0 = .ok (.aload_n 0, 1) := by decide +kernel
theorem dX1_init_1 : decode cX1_init 1 = .ok (.invokespecial 3, 3) := by decide +kernel
theorem dX1_init_4 : decode cX1_init 4 = .ok (.aload_n 0, 1) := by decide +kernel
theorem dX1_init_5 : decode cX1_init 5 = .ok (.bipush 121, 2) := by decide +kernel
theorem dX1_init_7 : decode cX1_init 7 = .ok (.newarray .int, 2) := by decide +kernel
theorem dX1_init_9 : decode cX1_init 9 = .ok (.putfield 11, 3) := by decide +kernel
theorem dX1_init_12 : decode cX1_init 12 = .ok (.aload_n 0, 1) := by decide +kernel
theorem dX1_init_13 : decode cX1_init 13 = .ok (.bipush 121, 2) := by decide +kernel
theorem dX1_init_15 : decode cX1_init 15 = .ok (.newarray .int, 2) := by decide +kernel
theorem dX1_init_17 : decode cX1_init 17 = .ok (.putfield 15, 3) := by decide +kernel
theorem dX1_init_20 : decode cX1_init 20 = .ok (.aload_n 0, 1) := by decide +kernel
theorem dX1_init_21 : decode cX1_init 21 = .ok (.bipush 121, 2) := by decide +kernel
theorem dX1_init_23 : decode cX1_init 23 = .ok (.newarray .int, 2) := by decide +kernel
theorem dX1_init_25 : decode cX1_init 25 = .ok (.putfield 18, 3) := by decide +kernel
theorem dX1_init_28 : decode cX1_init 28 = .ok (.aload_n 0, 1) := by decide +kernel
theorem dX1_init_29 : decode cX1_init 29 = .ok (.bipush 121, 2) := by decide +kernel
theorem dX1_init_31 : decode cX1_init 31 = .ok (.newarray .int, 2) := by decide +kernel
theorem dX1_init_33 : decode cX1_init 33 = .ok (.putfield 21, 3) := by decide +kernel
theorem dX1_init_36 : decode cX1_init 36 = .ok (.aload_n 0, 1) := by decide +kernel
theorem dX1_init_37 : decode cX1_init 37 = .ok (.bipush 121, 2) := by decide +kernel
theorem dX1_init_39 : decode cX1_init 39 = .ok (.newarray .int, 2) := by decide +kernel
theorem dX1_init_41 : decode cX1_init 41 = .ok (.putfield 24, 3) := by decide +kernel
theorem dX1_init_44 : decode cX1_init 44 = .ok (.aload_n 0, 1) := by decide +kernel
theorem dX1_init_45 : decode cX1_init 45 = .ok (.bipush 121, 2) := by decide +kernel
theorem dX1_init_47 : decode cX1_init 47 = .ok (.newarray .int, 2) := by decide +kernel
theorem dX1_init_49 : decode cX1_init 49 = .ok (.putfield 27, 3) := by decide +kernel
theorem dX1_init_52 : decode cX1_init 52 = .ok (.aload_n 0, 1) := by decide +kernel
theorem dX1_init_53 : decode cX1_init 53 = .ok (.bipush 121, 2) := by decide +kernel
theorem dX1_init_55 : decode cX1_init 55 = .ok (.newarray .int, 2) := by decide +kernel
theorem dX1_init_57 : decode cX1_init 57 = .ok (.putfield 30, 3) := by decide +kernel
theorem dX1_init_60 : decode cX1_init 60 = .ok (.return_, 1) := by decide +kernel
theorem dX1_hasRow_0 : decode cX1_hasRow 0 = .ok (.iload_n 1, 1) := by decide +kernel
theorem dX1_hasRow_1 : decode cX1_hasRow 1 = .ok (.ifCond .lt 13, 3) := by decide +kernel
theorem dX1_hasRow_4 : decode cX1_hasRow 4 = .ok (.iload_n 1, 1) := by decide +kernel
theorem dX1_hasRow_5 : decode cX1_hasRow 5 = .ok (.bipush 121, 2) := by decide +kernel
theorem dX1_hasRow_7 : decode cX1_hasRow 7 = .ok (.if_icmp .ge 7, 3) := by decide +kernel
theorem dX1_hasRow_10 : decode cX1_hasRow 10 = .ok (.iconst 1, 1) := by decide +kernel
theorem dX1_hasRow_11 : decode cX1_hasRow 11 = .ok (.goto 4, 3) := by decide +kernel
theorem dX1_hasRow_14 : decode cX1_hasRow 14 = .ok (.iconst 0, 1) := by decide +kernel
theorem dX1_hasRow_15 : decode cX1_hasRow 15 = .ok (.ireturn, 1) := by decide +kernel
set_option maxRecDepth 20000 in
theorem ggX1_keep_X1_hasRow : GoodIn wsX1_keep wsX1_hasRow := goodIn_r _ [19] (by decide +kernel) (by decide +kernel)
set_option maxRecDepth 20000 in
theorem gX1_keep_X1_hasRow : GoodIn wsX1_keep (wsV RX1 33 RX1 yX1_hasRow wsX1_hasRow) := goodIn_app (goodIn_of _ (by decide +kernel)) ggX1_keep_X1_hasRow
theorem dX1_keep_0 : decode cX1_keep 0 = .ok (.aload_n 0, 1) := by decide +kernel
theorem dX1_keep_1 : decode cX1_keep 1 = .ok (.iload_n 1, 1) := by decide +kernel
theorem dX1_keep_2 : decode cX1_keep 2 = .ok (.invokevirtual 33, 3) := by decide +kernel
theorem dX1_keep_5 : decode cX1_keep 5 = .ok (.ifCond .eq 73, 3) := by decide +kernel
theorem dX1_keep_8 : decode cX1_keep 8 = .ok (.aload_n 0, 1) := by decide +kernel
theorem dX1_keep_9 : decode cX1_keep 9 = .ok (.getfield 11, 3) := by decide +kernel
theorem dX1_keep_12 : decode cX1_keep 12 = .ok (.iload_n 1, 1) := by decide +kernel
theorem dX1_keep_13 : decode cX1_keep 13 = .ok (.aload_n 2, 1) := by decide +kernel
theorem dX1_keep_14 : decode cX1_keep 14 = .ok (.getfield 37, 3) := by decide +kernel
theorem dX1_keep_17 : decode cX1_keep 17 = .ok (.iastore, 1) := by decide +kernel
theorem dX1_keep_18 : decode cX1_keep 18 = .ok (.aload_n 0, 1) := by decide +kernel
theorem dX1_keep_19 : decode cX1_keep 19 = .ok (.getfield 15, 3) := by decide +kernel
theorem dX1_keep_22 : decode cX1_keep 22 = .ok (.iload_n 1, 1) := by decide +kernel
theorem dX1_keep_23 : decode cX1_keep 23 = .ok (.aload_n 2, 1) := by decide +kernel
theorem dX1_keep_24 : decode cX1_keep 24 = .ok (.getfield 43, 3) := by decide +kernel
theorem dX1_keep_27 : decode cX1_keep 27 = .ok (.iastore, 1) := by decide +kernel
theorem dX1_keep_28 : decode cX1_keep 28 = .ok (.aload_n 0, 1) := by decide +kernel
theorem dX1_keep_29 : decode cX1_keep 29 = .ok (.getfield 18, 3) := by decide +kernel
theorem dX1_keep_32 : decode cX1_keep 32 = .ok (.iload_n 1, 1) := by decide +kernel
theorem dX1_keep_33 : decode cX1_keep 33 = .ok (.aload_n 2, 1) := by decide +kernel
theorem dX1_keep_34 : decode cX1_keep 34 = .ok (.getfield 46, 3) := by decide +kernel
theorem dX1_keep_37 : decode cX1_keep 37 = .ok (.iastore, 1) := by decide +kernel
theorem dX1_keep_38 : decode cX1_keep 38 = .ok (.aload_n 0, 1) := by decide +kernel
theorem dX1_keep_39 : decode cX1_keep 39 = .ok (.getfield 21, 3) := by decide +kernel
theorem dX1_keep_42 : decode cX1_keep 42 = .ok (.iload_n 1, 1) := by decide +kernel
theorem dX1_keep_43 : decode cX1_keep 43 = .ok (.aload_n 2, 1) := by decide +kernel
theorem dX1_keep_44 : decode cX1_keep 44 = .ok (.getfield 49, 3) := by decide +kernel
theorem dX1_keep_47 : decode cX1_keep 47 = .ok (.iastore, 1) := by decide +kernel
theorem dX1_keep_48 : decode cX1_keep 48 = .ok (.aload_n 0, 1) := by decide +kernel
theorem dX1_keep_49 : decode cX1_keep 49 = .ok (.getfield 24, 3) := by decide +kernel
theorem dX1_keep_52 : decode cX1_keep 52 = .ok (.iload_n 1, 1) := by decide +kernel
theorem dX1_keep_53 : decode cX1_keep 53 = .ok (.aload_n 2, 1) := by decide +kernel
theorem dX1_keep_54 : decode cX1_keep 54 = .ok (.getfield 52, 3) := by decide +kernel
theorem dX1_keep_57 : decode cX1_keep 57 = .ok (.iastore, 1) := by decide +kernel
theorem dX1_keep_58 : decode cX1_keep 58 = .ok (.aload_n 0, 1) := by decide +kernel
theorem dX1_keep_59 : decode cX1_keep 59 = .ok (.getfield 27, 3) := by decide +kernel
theorem dX1_keep_62 : decode cX1_keep 62 = .ok (.iload_n 1, 1) := by decide +kernel
theorem dX1_keep_63 : decode cX1_keep 63 = .ok (.aload_n 2, 1) := by decide +kernel
theorem dX1_keep_64 : decode cX1_keep 64 = .ok (.getfield 55, 3) := by decide +kernel
theorem dX1_keep_67 : decode cX1_keep 67 = .ok (.iastore, 1) := by decide +kernel
theorem dX1_keep_68 : decode cX1_keep 68 = .ok (.aload_n 0, 1) := by decide +kernel
theorem dX1_keep_69 : decode cX1_keep 69 = .ok (.getfield 30, 3) := by decide +kernel
theorem dX1_keep_72 : decode cX1_keep 72 = .ok (.iload_n 1, 1) := by decide +kernel
theorem dX1_keep_73 : decode cX1_keep 73 = .ok (.aload_n 2, 1) := by decide +kernel
theorem dX1_keep_74 : decode cX1_keep 74 = .ok (.getfield 58, 3) := by decide +kernel
theorem dX1_keep_77 : decode cX1_keep 77 = .ok (.iastore, 1) := by decide +kernel
theorem dX1_keep_78 : decode cX1_keep 78 = .ok (.return_, 1) := by decide +kernel
set_option maxRecDepth 20000 in
theorem ggX1_recall_X1_hasRow : GoodIn wsX1_recall wsX1_hasRow := goodIn_r _ [19] (by decide +kernel) (by decide +kernel)
set_option maxRecDepth 20000 in
theorem gX1_recall_X1_hasRow : GoodIn wsX1_recall (wsV RX1 33 RX1 yX1_hasRow wsX1_hasRow) := goodIn_app (goodIn_of _ (by decide +kernel)) ggX1_recall_X1_hasRow
theorem dX1_recall_0 : decode cX1_recall 0 = .ok (.aload_n 0, 1) := by decide +kernel
theorem dX1_recall_1 : decode cX1_recall 1 = .ok (.iload_n 1, 1) := by decide +kernel
theorem dX1_recall_2 : decode cX1_recall 2 = .ok (.invokevirtual 33, 3) := by decide +kernel
theorem dX1_recall_5 : decode cX1_recall 5 = .ok (.ifCond .eq 73, 3) := by decide +kernel
theorem dX1_recall_8 : decode cX1_recall 8 = .ok (.aload_n 2, 1) := by decide +kernel
theorem dX1_recall_9 : decode cX1_recall 9 = .ok (.aload_n 0, 1) := by decide +kernel
theorem dX1_recall_10 : decode cX1_recall 10 = .ok (.getfield 11, 3) := by decide +kernel
theorem dX1_recall_13 : decode cX1_recall 13 = .ok (.iload_n 1, 1) := by decide +kernel
theorem dX1_recall_14 : decode cX1_recall 14 = .ok (.iaload, 1) := by decide +kernel
theorem dX1_recall_15 : decode cX1_recall 15 = .ok (.putfield 37, 3) := by decide +kernel
theorem dX1_recall_18 : decode cX1_recall 18 = .ok (.aload_n 2, 1) := by decide +kernel
theorem dX1_recall_19 : decode cX1_recall 19 = .ok (.aload_n 0, 1) := by decide +kernel
theorem dX1_recall_20 : decode cX1_recall 20 = .ok (.getfield 15, 3) := by decide +kernel
theorem dX1_recall_23 : decode cX1_recall 23 = .ok (.iload_n 1, 1) := by decide +kernel
theorem dX1_recall_24 : decode cX1_recall 24 = .ok (.iaload, 1) := by decide +kernel
theorem dX1_recall_25 : decode cX1_recall 25 = .ok (.putfield 43, 3) := by decide +kernel
theorem dX1_recall_28 : decode cX1_recall 28 = .ok (.aload_n 2, 1) := by decide +kernel
theorem dX1_recall_29 : decode cX1_recall 29 = .ok (.aload_n 0, 1) := by decide +kernel
theorem dX1_recall_30 : decode cX1_recall 30 = .ok (.getfield 18, 3) := by decide +kernel
theorem dX1_recall_33 : decode cX1_recall 33 = .ok (.iload_n 1, 1) := by decide +kernel
theorem dX1_recall_34 : decode cX1_recall 34 = .ok (.iaload, 1) := by decide +kernel
theorem dX1_recall_35 : decode cX1_recall 35 = .ok (.putfield 46, 3) := by decide +kernel
theorem dX1_recall_38 : decode cX1_recall 38 = .ok (.aload_n 2, 1) := by decide +kernel
theorem dX1_recall_39 : decode cX1_recall 39 = .ok (.aload_n 0, 1) := by decide +kernel
theorem dX1_recall_40 : decode cX1_recall 40 = .ok (.getfield 21, 3) := by decide +kernel
theorem dX1_recall_43 : decode cX1_recall 43 = .ok (.iload_n 1, 1) := by decide +kernel
theorem dX1_recall_44 : decode cX1_recall 44 = .ok (.iaload, 1) := by decide +kernel
theorem dX1_recall_45 : decode cX1_recall 45 = .ok (.putfield 49, 3) := by decide +kernel
theorem dX1_recall_48 : decode cX1_recall 48 = .ok (.aload_n 2, 1) := by decide +kernel
theorem dX1_recall_49 : decode cX1_recall 49 = .ok (.aload_n 0, 1) := by decide +kernel
theorem dX1_recall_50 : decode cX1_recall 50 = .ok (.getfield 24, 3) := by decide +kernel
theorem dX1_recall_53 : decode cX1_recall 53 = .ok (.iload_n 1, 1) := by decide +kernel
theorem dX1_recall_54 : decode cX1_recall 54 = .ok (.iaload, 1) := by decide +kernel
theorem dX1_recall_55 : decode cX1_recall 55 = .ok (.putfield 52, 3) := by decide +kernel
theorem dX1_recall_58 : decode cX1_recall 58 = .ok (.aload_n 2, 1) := by decide +kernel
theorem dX1_recall_59 : decode cX1_recall 59 = .ok (.aload_n 0, 1) := by decide +kernel
theorem dX1_recall_60 : decode cX1_recall 60 = .ok (.getfield 27, 3) := by decide +kernel
theorem dX1_recall_63 : decode cX1_recall 63 = .ok (.iload_n 1, 1) := by decide +kernel
theorem dX1_recall_64 : decode cX1_recall 64 = .ok (.iaload, 1) := by decide +kernel
theorem dX1_recall_65 : decode cX1_recall 65 = .ok (.putfield 55, 3) := by decide +kernel
theorem dX1_recall_68 : decode cX1_recall 68 = .ok (.aload_n 2, 1) := by decide +kernel
theorem dX1_recall_69 : decode cX1_recall 69 = .ok (.aload_n 0, 1) := by decide +kernel
theorem dX1_recall_70 : decode cX1_recall 70 = .ok (.getfield 30, 3) := by decide +kernel
theorem dX1_recall_73 : decode cX1_recall 73 = .ok (.iload_n 1, 1) := by decide +kernel
theorem dX1_recall_74 : decode cX1_recall 74 = .ok (.iaload, 1) := by decide +kernel
theorem dX1_recall_75 : decode cX1_recall 75 = .ok (.putfield 58, 3) := by decide +kernel
theorem dX1_recall_78 : decode cX1_recall 78 = .ok (.return_, 1) := by decide +kernel
theorem dX2_init_0 : decode cX2_init 0 = .ok (.aload_n 0, 1) := by decide +kernel
theorem dX2_init_1 : decode cX2_init 1 = .ok (.invokespecial 1, 3) := by decide +kernel
theorem dX2_init_4 : decode cX2_init 4 = .ok (.aload_n 0, 1) := by decide +kernel
theorem dX2_init_5 : decode cX2_init 5 = .ok (.bipush 30, 2) := by decide +kernel
theorem dX2_init_7 : decode cX2_init 7 = .ok (.putfield 7, 3) := by decide +kernel
theorem dX2_init_10 : decode cX2_init 10 = .ok (.aload_n 0, 1) := by decide +kernel
theorem dX2_init_11 : decode cX2_init 11 = .ok (.ldc 13, 2) := by decide +kernel
theorem dX2_init_13 : decode cX2_init 13 = .ok (.putfield 14, 3) := by decide +kernel
theorem dX2_init_16 : decode cX2_init 16 = .ok (.aload_n 0, 1) := by decide +kernel
theorem dX2_init_17 : decode cX2_init 17 = .ok (.iconst 0, 1) := by decide +kernel
theorem dX2_init_18 : decode cX2_init 18 = .ok (.putfield 17, 3) := by decide +kernel
theorem dX2_init_21 : decode cX2_init 21 = .ok (.return_, 1) := by decide +kernel
theorem dX2_agree_0 : decode cX2_agree 0 = .ok (.aload_n 0, 1) := by decide +kernel
theorem dX2_agree_1 : decode cX2_agree 1 = .ok (.iload_n 1, 1) := by decide +kernel
theorem dX2_agree_2 : decode cX2_agree 2 = .ok (.putfield 7, 3) := by decide +kernel
theorem dX2_agree_5 : decode cX2_agree 5 = .ok (.aload_n 0, 1) := by decide +kernel
theorem dX2_agree_6 : decode cX2_agree 6 = .ok (.iload_n 2, 1) := by decide +kernel
theorem dX2_agree_7 : decode cX2_agree 7 = .ok (.putfield 14, 3) := by decide +kernel
theorem dX2_agree_10 : decode cX2_agree 10 = .ok (.aload_n 0, 1) := by decide +kernel
theorem dX2_agree_11 : decode cX2_agree 11 = .ok (.iload_n 3, 1) := by decide +kernel
theorem dX2_agree_12 : decode cX2_agree 12 = .ok (.putfield 17, 3) := by decide +kernel
theorem dX2_agree_15 : decode cX2_agree 15 = .ok (.return_, 1) := by decide +kernel
theorem dX2_ageIn_0 : decode cX2_ageIn 0 = .ok (.aload_n 0, 1) := by decide +kernel
theorem dX2_ageIn_1 : decode cX2_ageIn 1 = .ok (.getfield 7, 3) := by decide +kernel
theorem dX2_ageIn_4 : decode cX2_ageIn 4 = .ok (.iload_n 1, 1) := by decide +kernel
theorem dX2_ageIn_5 : decode cX2_ageIn 5 = .ok (.bipush 12, 2) := by decide +kernel
theorem dX2_ageIn_7 : decode cX2_ageIn 7 = .ok (.idiv, 1) := by decide +kernel
theorem dX2_ageIn_8 : decode cX2_ageIn 8 = .ok (.iadd, 1) := by decide +kernel
theorem dX2_ageIn_9 : decode cX2_ageIn 9 = .ok (.ireturn, 1) := by decide +kernel
theorem dX2_corridorFor_0 : decode cX2_corridorFor 0 = .ok (.iload_n 1, 1) := by decide +kernel
theorem dX2_corridorFor_1 : decode cX2_corridorFor 1 = .ok (.bipush 40, 2) := by decide +kernel
theorem dX2_corridorFor_3 : decode cX2_corridorFor 3 = .ok (.if_icmp .gt 7, 3) := by decide +kernel
theorem dX2_corridorFor_6 : decode cX2_corridorFor 6 = .ok (.sipush 250, 3) := by decide +kernel
theorem dX2_corridorFor_9 : decode cX2_corridorFor 9 = .ok (.ireturn, 1) := by decide +kernel
theorem dX2_corridorFor_10 : decode cX2_corridorFor 10 = .ok (.iload_n 1, 1) := by decide +kernel
theorem dX2_corridorFor_11 : decode cX2_corridorFor 11 = .ok (.bipush 69, 2) := by decide +kernel
theorem dX2_corridorFor_13 : decode cX2_corridorFor 13 = .ok (.if_icmp .lt 8, 3) := by decide +kernel
theorem dX2_corridorFor_16 : decode cX2_corridorFor 16 = .ok (.bipush 105, 2) := by decide +kernel
theorem dX2_corridorFor_18 : decode cX2_corridorFor 18 = .ok (.goto 13, 3) := by decide +kernel
theorem dX2_corridorFor_21 : decode cX2_corridorFor 21 = .ok (.sipush 250, 3) := by decide +kernel
theorem dX2_corridorFor_24 : decode cX2_corridorFor 24 = .ok (.iconst 5, 1) := by decide +kernel
theorem dX2_corridorFor_25 : decode cX2_corridorFor 25 = .ok (.iload_n 1, 1) := by decide +kernel
theorem dX2_corridorFor_26 : decode cX2_corridorFor 26 = .ok (.bipush 40, 2) := by decide +kernel
theorem dX2_corridorFor_28 : decode cX2_corridorFor 28 = .ok (.isub, 1) := by decide +kernel
theorem dX2_corridorFor_29 : decode cX2_corridorFor 29 = .ok (.imul, 1) := by decide +kernel
theorem dX2_corridorFor_30 : decode cX2_corridorFor 30 = .ok (.isub, 1) := by decide +kernel
theorem dX2_corridorFor_31 : decode cX2_corridorFor 31 = .ok (.ireturn, 1) := by decide +kernel
theorem dX2_rateFor_0 : decode cX2_rateFor 0 = .ok (.iload_n 1, 1) := by decide +kernel
theorem dX2_rateFor_1 : decode cX2_rateFor 1 = .ok (.bipush 30, 2) := by decide +kernel
theorem dX2_rateFor_3 : decode cX2_rateFor 3 = .ok (.if_icmp .gt 8, 3) := by decide +kernel
theorem dX2_rateFor_6 : decode cX2_rateFor 6 = .ok (.bipush 10, 2) := by decide +kernel
theorem dX2_rateFor_8 : decode cX2_rateFor 8 = .ok (.goto 12, 3) := by decide +kernel
theorem dX2_rateFor_11 : decode cX2_rateFor 11 = .ok (.bipush 10, 2) := by decide +kernel
theorem dX2_rateFor_13 : decode cX2_rateFor 13 = .ok (.iconst 2, 1) := by decide +kernel
theorem dX2_rateFor_14 : decode cX2_rateFor 14 = .ok (.iload_n 1, 1) := by decide +kernel
theorem dX2_rateFor_15 : decode cX2_rateFor 15 = .ok (.bipush 30, 2) := by decide +kernel
theorem dX2_rateFor_17 : decode cX2_rateFor 17 = .ok (.isub, 1) := by decide +kernel
theorem dX2_rateFor_18 : decode cX2_rateFor 18 = .ok (.imul, 1) := by decide +kernel
theorem dX2_rateFor_19 : decode cX2_rateFor 19 = .ok (.iadd, 1) := by decide +kernel
theorem dX2_rateFor_20 : decode cX2_rateFor 20 = .ok (.ireturn, 1) := by decide +kernel
set_option maxRecDepth 20000 in
theorem ggX2_deathSumFor_X2_ageIn : GoodIn wsX2_deathSumFor wsX2_ageIn := goodIn_r _ [12, 13, 18, 19, 20] (by decide +kernel) (by decide +kernel)
set_option maxRecDepth 20000 in
theorem gX2_deathSumFor_X2_ageIn : GoodIn wsX2_deathSumFor (wsV RX2 20 RX2 yX2_ageIn wsX2_ageIn) := goodIn_app (goodIn_of _ (by decide +kernel)) ggX2_deathSumFor_X2_ageIn
set_option maxRecDepth 20000 in
theorem ggX2_deathSumFor_X2_corridorFor : GoodIn wsX2_deathSumFor wsX2_corridorFor := goodIn_r _ [17] (by decide +kernel) (by decide +kernel)
set_option maxRecDepth 20000 in
theorem gX2_deathSumFor_X2_corridorFor : GoodIn wsX2_deathSumFor (wsV RX2 24 RX2 yX2_corridorFor wsX2_corridorFor) := goodIn_app (goodIn_of _ (by decide +kernel)) ggX2_deathSumFor_X2_corridorFor
theorem dX2_deathSumFor_0 : decode cX2_deathSumFor 0 = .ok (.aload_n 0, 1) := by decide +kernel
theorem dX2_deathSumFor_1 : decode cX2_deathSumFor 1 = .ok (.getfield 17, 3) := by decide +kernel
theorem dX2_deathSumFor_4 : decode cX2_deathSumFor 4 = .ok (.iconst 1, 1) := by decide +kernel
theorem dX2_deathSumFor_5 : decode cX2_deathSumFor 5 = .ok (.if_icmp .ne 14, 3) := by decide +kernel
theorem dX2_deathSumFor_8 : decode cX2_deathSumFor 8 = .ok (.aload_n 0, 1) := by decide +kernel
theorem dX2_deathSumFor_9 : decode cX2_deathSumFor 9 = .ok (.getfield 14, 3) := by decide +kernel
theorem dX2_deathSumFor_12 : decode cX2_deathSumFor 12 = .ok (.i2l, 1) := by decide +kernel
theorem dX2_deathSumFor_13 : decode cX2_deathSumFor 13 = .ok (.iload_n 1, 1) := by decide +kernel
theorem dX2_deathSumFor_14 : decode cX2_deathSumFor 14 = .ok (.i2l, 1) := by decide +kernel
theorem dX2_deathSumFor_15 : decode cX2_deathSumFor 15 = .ok (.ladd, 1) := by decide +kernel
theorem dX2_deathSumFor_16 : decode cX2_deathSumFor 16 = .ok (.goto 8, 3) := by decide +kernel
theorem dX2_deathSumFor_19 : decode cX2_deathSumFor 19 = .ok (.aload_n 0, 1) := by decide +kernel
theorem dX2_deathSumFor_20 : decode cX2_deathSumFor 20 = .ok (.getfield 14, 3) := by decide +kernel
theorem dX2_deathSumFor_23 : decode cX2_deathSumFor 23 = .ok (.i2l, 1) := by decide +kernel
theorem dX2_deathSumFor_24 : decode cX2_deathSumFor 24 = .ok (.lstore_n 3, 1) := by decide +kernel
theorem dX2_deathSumFor_25 : decode cX2_deathSumFor 25 = .ok (.iload_n 1, 1) := by decide +kernel
theorem dX2_deathSumFor_26 : decode cX2_deathSumFor 26 = .ok (.i2l, 1) := by decide +kernel
theorem dX2_deathSumFor_27 : decode cX2_deathSumFor 27 = .ok (.aload_n 0, 1) := by decide +kernel
theorem dX2_deathSumFor_28 : decode cX2_deathSumFor 28 = .ok (.aload_n 0, 1) := by decide +kernel
theorem dX2_deathSumFor_29 : decode cX2_deathSumFor 29 = .ok (.iload_n 2, 1) := by decide +kernel
theorem dX2_deathSumFor_30 : decode cX2_deathSumFor 30 = .ok (.invokevirtual 20, 3) := by decide +kernel
theorem dX2_deathSumFor_33 : decode cX2_deathSumFor 33 = .ok (.invokevirtual 24, 3) := by decide +kernel
theorem dX2_deathSumFor_36 : decode cX2_deathSumFor 36 = .ok (.i2l, 1) := by decide +kernel
theorem dX2_deathSumFor_37 : decode cX2_deathSumFor 37 = .ok (.lmul, 1) := by decide +kernel
theorem dX2_deathSumFor_38 : decode cX2_deathSumFor 38 = .ok (.ldc2_w 27, 3) := by decide +kernel
theorem dX2_deathSumFor_41 : decode cX2_deathSumFor 41 = .ok (.ldiv, 1) := by decide +kernel
theorem dX2_deathSumFor_42 : decode cX2_deathSumFor 42 = .ok (.lstore 5, 2) := by decide +kernel
theorem dX2_deathSumFor_44 : decode cX2_deathSumFor 44 = .ok (.lload_n 3, 1) := by decide +kernel
theorem dX2_deathSumFor_45 : decode cX2_deathSumFor 45 = .ok (.lload 5, 2) := by decide +kernel
theorem dX2_deathSumFor_47 : decode cX2_deathSumFor 47 = .ok (.invokestatic 29, 3) := by decide +kernel
theorem dX2_deathSumFor_50 : decode cX2_deathSumFor 50 = .ok (.l2i, 1) := by decide +kernel
theorem dX2_deathSumFor_51 : decode cX2_deathSumFor 51 = .ok (.ireturn, 1) := by decide +kernel
set_option maxRecDepth 20000 in
theorem ggX2_chargeFor_X2_deathSumFor : GoodIn wsX2_chargeFor wsX2_deathSumFor := goodIn_r _ [11, 12, 13, 14, 15, 16, 3, 17, 18, 19, 20, 10, 21, 22, 23, 24, 25, 26, 31, 32, 33] (by decide +kernel) (by decide +kernel)
set_option maxRecDepth 20000 in
theorem gX2_chargeFor_X2_deathSumFor : GoodIn wsX2_chargeFor (wsV RX2 35 RX2 yX2_deathSumFor wsX2_deathSumFor) := goodIn_app (goodIn_of _ (by decide +kernel)) ggX2_chargeFor_X2_deathSumFor
set_option maxRecDepth 20000 in
theorem ggX2_chargeFor_X2_ageIn : GoodIn wsX2_chargeFor wsX2_ageIn := goodIn_r _ [21, 22, 31, 32, 33] (by decide +kernel) (by decide +kernel)
set_option maxRecDepth 20000 in
theorem gX2_chargeFor_X2_ageIn : GoodIn wsX2_chargeFor (wsV RX2 20 RX2 yX2_ageIn wsX2_ageIn) := goodIn_app (goodIn_of _ (by decide +kernel)) ggX2_chargeFor_X2_ageIn
set_option maxRecDepth 20000 in
theorem ggX2_chargeFor_X2_rateFor : GoodIn wsX2_chargeFor wsX2_rateFor := goodIn_r _ [30] (by decide +kernel) (by decide +kernel)
set_option maxRecDepth 20000 in
theorem gX2_chargeFor_X2_rateFor : GoodIn wsX2_chargeFor (wsV RX2 43 RX2 yX2_rateFor wsX2_rateFor) := goodIn_app (goodIn_of _ (by decide +kernel)) ggX2_chargeFor_X2_rateFor
theorem dX2_chargeFor_0 : decode cX2_chargeFor 0 = .ok (.iconst 0, 1) := by decide +kernel
theorem dX2_chargeFor_1 : decode cX2_chargeFor 1 = .ok (.aload_n 0, 1) := by decide +kernel
theorem dX2_chargeFor_2 : decode cX2_chargeFor 2 = .ok (.iload_n 1, 1) := by decide +kernel
theorem dX2_chargeFor_3 : decode cX2_chargeFor 3 = .ok (.iload_n 2, 1) := by decide +kernel
theorem dX2_chargeFor_4 : decode cX2_chargeFor 4 = .ok (.invokevirtual 35, 3) := by decide +kernel
theorem dX2_chargeFor_7 : decode cX2_chargeFor 7 = .ok (.iload_n 1, 1) := by decide +kernel
theorem dX2_chargeFor_8 : decode cX2_chargeFor 8 = .ok (.isub, 1) := by decide +kernel
theorem dX2_chargeFor_9 : decode cX2_chargeFor 9 = .ok (.invokestatic 39, 3) := by decide +kernel
theorem dX2_chargeFor_12 : decode cX2_chargeFor 12 = .ok (.i2l, 1) := by decide +kernel
theorem dX2_chargeFor_13 : decode cX2_chargeFor 13 = .ok (.lstore_n 3, 1) := by decide +kernel
theorem dX2_chargeFor_14 : decode cX2_chargeFor 14 = .ok (.ldc2_w 41, 3) := by decide +kernel
theorem dX2_chargeFor_17 : decode cX2_chargeFor 17 = .ok (.lload_n 3, 1) := by decide +kernel
theorem dX2_chargeFor_18 : decode cX2_chargeFor 18 = .ok (.aload_n 0, 1) := by decide +kernel
theorem dX2_chargeFor_19 : decode cX2_chargeFor 19 = .ok (.aload_n 0, 1) := by decide +kernel
theorem dX2_chargeFor_20 : decode cX2_chargeFor 20 = .ok (.iload_n 2, 1) := by decide +kernel
theorem dX2_chargeFor_21 : decode cX2_chargeFor 21 = .ok (.invokevirtual 20, 3) := by decide +kernel
theorem dX2_chargeFor_24 : decode cX2_chargeFor 24 = .ok (.invokevirtual 43, 3) := by decide +kernel
theorem dX2_chargeFor_27 : decode cX2_chargeFor 27 = .ok (.i2l, 1) := by decide +kernel
theorem dX2_chargeFor_28 : decode cX2_chargeFor 28 = .ok (.lmul, 1) := by decide +kernel
theorem dX2_chargeFor_29 : decode cX2_chargeFor 29 = .ok (.ldc2_w 46, 3) := by decide +kernel
theorem dX2_chargeFor_32 : decode cX2_chargeFor 32 = .ok (.ldiv, 1) := by decide +kernel
theorem dX2_chargeFor_33 : decode cX2_chargeFor 33 = .ok (.ladd, 1) := by decide +kernel
theorem dX2_chargeFor_34 : decode cX2_chargeFor 34 = .ok (.l2i, 1) := by decide +kernel
theorem dX2_chargeFor_35 : decode cX2_chargeFor 35 = .ok (.ireturn, 1) := by decide +kernel
theorem dX3_init_0 : decode cX3_init 0 = .ok (.aload_n 0, 1) := by decide +kernel
theorem dX3_init_1 : decode cX3_init 1 = .ok (.invokespecial 3, 3) := by decide +kernel
theorem dX3_init_4 : decode cX3_init 4 = .ok (.aload_n 0, 1) := by decide +kernel
theorem dX3_init_5 : decode cX3_init 5 = .ok (.iconst 0, 1) := by decide +kernel
theorem dX3_init_6 : decode cX3_init 6 = .ok (.putfield 9, 3) := by decide +kernel
theorem dX3_init_9 : decode cX3_init 9 = .ok (.return_, 1) := by decide +kernel
theorem dX3_startFresh_0 : decode cX3_startFresh 0 = .ok (.aload_n 0, 1) := by decide +kernel
theorem dX3_startFresh_1 : decode cX3_startFresh 1 = .ok (.iconst 0, 1) := by decide +kernel
theorem dX3_startFresh_2 : decode cX3_startFresh 2 = .ok (.putfield 9, 3) := by decide +kernel
theorem dX3_startFresh_5 : decode cX3_startFresh 5 = .ok (.aload_n 0, 1) := by decide +kernel
theorem dX3_startFresh_6 : decode cX3_startFresh 6 = .ok (.iconst 0, 1) := by decide +kernel
theorem dX3_startFresh_7 : decode cX3_startFresh 7 = .ok (.putfield 15, 3) := by decide +kernel
theorem dX3_startFresh_10 : decode cX3_startFresh 10 = .ok (.aload_n 0, 1) := by decide +kernel
theorem dX3_startFresh_11 : decode cX3_startFresh 11 = .ok (.iconst 0, 1) := by decide +kernel
theorem dX3_startFresh_12 : decode cX3_startFresh 12 = .ok (.putfield 18, 3) := by decide +kernel
theorem dX3_startFresh_15 : decode cX3_startFresh 15 = .ok (.aload_n 0, 1) := by decide +kernel
theorem dX3_startFresh_16 : decode cX3_startFresh 16 = .ok (.iconst 0, 1) := by decide +kernel
theorem dX3_startFresh_17 : decode cX3_startFresh 17 = .ok (.putfield 21, 3) := by decide +kernel
theorem dX3_startFresh_20 : decode cX3_startFresh 20 = .ok (.aload_n 0, 1) := by decide +kernel
theorem dX3_startFresh_21 : decode cX3_startFresh 21 = .ok (.iconst 0, 1) := by decide +kernel
theorem dX3_startFresh_22 : decode cX3_startFresh 22 = .ok (.putfield 24, 3) := by decide +kernel
theorem dX3_startFresh_25 : decode cX3_startFresh 25 = .ok (.aload_n 0, 1) := by decide +kernel
theorem dX3_startFresh_26 : decode cX3_startFresh 26 = .ok (.iconst 0, 1) := by decide +kernel
theorem dX3_startFresh_27 : decode cX3_startFresh 27 = .ok (.putfield 27, 3) := by decide +kernel
theorem dX3_startFresh_30 : decode cX3_startFresh 30 = .ok (.aload_n 0, 1) := by decide +kernel
theorem dX3_startFresh_31 : decode cX3_startFresh 31 = .ok (.iconst 0, 1) := by decide +kernel
theorem dX3_startFresh_32 : decode cX3_startFresh 32 = .ok (.putfield 30, 3) := by decide +kernel
theorem dX3_startFresh_35 : decode cX3_startFresh 35 = .ok (.return_, 1) := by decide +kernel
theorem dX3_copy_0 : decode cX3_copy 0 = .ok (.aload_n 0, 1) := by decide +kernel
theorem dX3_copy_1 : decode cX3_copy 1 = .ok (.aload_n 1, 1) := by decide +kernel
theorem dX3_copy_2 : decode cX3_copy 2 = .ok (.getfield 9, 3) := by decide +kernel
theorem dX3_copy_5 : decode cX3_copy 5 = .ok (.putfield 9, 3) := by decide +kernel
theorem dX3_copy_8 : decode cX3_copy 8 = .ok (.aload_n 0, 1) := by decide +kernel
theorem dX3_copy_9 : decode cX3_copy 9 = .ok (.aload_n 1, 1) := by decide +kernel
theorem dX3_copy_10 : decode cX3_copy 10 = .ok (.getfield 15, 3) := by decide +kernel
theorem dX3_copy_13 : decode cX3_copy 13 = .ok (.putfield 15, 3) := by decide +kernel
theorem dX3_copy_16 : decode cX3_copy 16 = .ok (.aload_n 0, 1) := by decide +kernel
theorem dX3_copy_17 : decode cX3_copy 17 = .ok (.aload_n 1, 1) := by decide +kernel
theorem dX3_copy_18 : decode cX3_copy 18 = .ok (.getfield 18, 3) := by decide +kernel
theorem dX3_copy_21 : decode cX3_copy 21 = .ok (.putfield 18, 3) := by decide +kernel
theorem dX3_copy_24 : decode cX3_copy 24 = .ok (.aload_n 0, 1) := by decide +kernel
theorem dX3_copy_25 : decode cX3_copy 25 = .ok (.aload_n 1, 1) := by decide +kernel
theorem dX3_copy_26 : decode cX3_copy 26 = .ok (.getfield 21, 3) := by decide +kernel
theorem dX3_copy_29 : decode cX3_copy 29 = .ok (.putfield 21, 3) := by decide +kernel
theorem dX3_copy_32 : decode cX3_copy 32 = .ok (.aload_n 0, 1) := by decide +kernel
theorem dX3_copy_33 : decode cX3_copy 33 = .ok (.aload_n 1, 1) := by decide +kernel
theorem dX3_copy_34 : decode cX3_copy 34 = .ok (.getfield 24, 3) := by decide +kernel
theorem dX3_copy_37 : decode cX3_copy 37 = .ok (.putfield 24, 3) := by decide +kernel
theorem dX3_copy_40 : decode cX3_copy 40 = .ok (.aload_n 0, 1) := by decide +kernel
theorem dX3_copy_41 : decode cX3_copy 41 = .ok (.aload_n 1, 1) := by decide +kernel
theorem dX3_copy_42 : decode cX3_copy 42 = .ok (.getfield 27, 3) := by decide +kernel
theorem dX3_copy_45 : decode cX3_copy 45 = .ok (.putfield 27, 3) := by decide +kernel
theorem dX3_copy_48 : decode cX3_copy 48 = .ok (.aload_n 0, 1) := by decide +kernel
theorem dX3_copy_49 : decode cX3_copy 49 = .ok (.aload_n 1, 1) := by decide +kernel
theorem dX3_copy_50 : decode cX3_copy 50 = .ok (.getfield 30, 3) := by decide +kernel
theorem dX3_copy_53 : decode cX3_copy 53 = .ok (.putfield 30, 3) := by decide +kernel
theorem dX3_copy_56 : decode cX3_copy 56 = .ok (.return_, 1) := by decide +kernel
theorem dX3_isLive_0 : decode cX3_isLive 0 = .ok (.aload_n 0, 1) := by decide +kernel
theorem dX3_isLive_1 : decode cX3_isLive 1 = .ok (.getfield 9, 3) := by decide +kernel
theorem dX3_isLive_4 : decode cX3_isLive 4 = .ok (.ifCond .eq 11, 3) := by decide +kernel
theorem dX3_isLive_7 : decode cX3_isLive 7 = .ok (.aload_n 0, 1) := by decide +kernel
theorem dX3_isLive_8 : decode cX3_isLive 8 = .ok (.getfield 9, 3) := by decide +kernel
theorem dX3_isLive_11 : decode cX3_isLive 11 = .ok (.iconst 1, 1) := by decide +kernel
theorem dX3_isLive_12 : decode cX3_isLive 12 = .ok (.if_icmp .ne 7, 3) := by decide +kernel
theorem dX3_isLive_15 : decode cX3_isLive 15 = .ok (.iconst 1, 1) := by decide +kernel
theorem dX3_isLive_16 : decode cX3_isLive 16 = .ok (.goto 4, 3) := by decide +kernel
theorem dX3_isLive_19 : decode cX3_isLive 19 = .ok (.iconst 0, 1) := by decide +kernel
theorem dX3_isLive_20 : decode cX3_isLive 20 = .ok (.ireturn, 1) := by decide +kernel
theorem dX3_freePart_0 : decode cX3_freePart 0 = .ok (.iconst 0, 1) := by decide +kernel
theorem dX3_freePart_1 : decode cX3_freePart 1 = .ok (.aload_n 0, 1) := by decide +kernel
theorem dX3_freePart_2 : decode cX3_freePart 2 = .ok (.getfield 15, 3) := by decide +kernel
theorem dX3_freePart_5 : decode cX3_freePart 5 = .ok (.aload_n 0, 1) := by decide +kernel
theorem dX3_freePart_6 : decode cX3_freePart 6 = .ok (.getfield 18, 3) := by decide +kernel
theorem dX3_freePart_9 : decode cX3_freePart 9 = .ok (.isub, 1) := by decide +kernel
theorem dX3_freePart_10 : decode cX3_freePart 10 = .ok (.invokestatic 33, 3) := by decide +kernel
theorem dX3_freePart_13 : decode cX3_freePart 13 = .ok (.ireturn, 1) := by decide +kernel
set_option maxRecDepth 20000 in
theorem ggX3_takePremium_X3_isLive : GoodIn wsX3_takePremium wsX3_isLive := goodIn_r _ [11, 12, 18, 19, 20, 21, 22, 23, 24] (by decide +kernel) (by decide +kernel)
set_option maxRecDepth 20000 in
theorem gX3_takePremium_X3_isLive : GoodIn wsX3_takePremium (wsV RX3 39 RX3 yX3_isLive wsX3_isLive) := goodIn_app (goodIn_of _ (by decide +kernel)) ggX3_takePremium_X3_isLive
set_option maxRecDepth 20000 in
theorem ggX3_takePremium_X3_putInForce : GoodIn wsX3_takePremium wsX3_putInForce := goodIn_r _ [16, 12, 17, 18, 19, 20, 21, 22, 23, 24] (by decide +kernel) (by decide +kernel)
set_option maxRecDepth 20000 in
theorem gX3_takePremium_X3_putInForce : GoodIn wsX3_takePremium (wsV RX3 46 RX3 yX3_putInForce wsX3_putInForce) := goodIn_app (goodIn_of _ (by decide +kernel)) ggX3_takePremium_X3_putInForce
theorem dX3_takePremium_0 : decode cX3_takePremium 0 = .ok (.aload_n 0, 1) := by decide +kernel
theorem dX3_takePremium_1 : decode cX3_takePremium 1 = .ok (.invokevirtual 39, 3) := by decide +kernel
theorem dX3_takePremium_4 : decode cX3_takePremium 4 = .ok (.ifCond .ne 5, 3) := by decide +kernel
theorem dX3_takePremium_7 : decode cX3_takePremium 7 = .ok (.iconst 0, 1) := by decide +kernel
theorem dX3_takePremium_8 : decode cX3_takePremium 8 = .ok (.ireturn, 1) := by decide +kernel
theorem dX3_takePremium_9 : decode cX3_takePremium 9 = .ok (.iload_n 1, 1) := by decide +kernel
theorem dX3_takePremium_10 : decode cX3_takePremium 10 = .ok (.aload_n 0, 1) := by decide +kernel
theorem dX3_takePremium_11 : decode cX3_takePremium 11 = .ok (.getfield 21, 3) := by decide +kernel
theorem dX3_takePremium_14 : decode cX3_takePremium 14 = .ok (.invokestatic 43, 3) := by decide +kernel
theorem dX3_takePremium_17 : decode cX3_takePremium 17 = .ok (.istore_n 2, 1) := by decide +kernel
theorem dX3_takePremium_18 : decode cX3_takePremium 18 = .ok (.aload_n 0, 1) := by decide +kernel
theorem dX3_takePremium_19 : decode cX3_takePremium 19 = .ok (.dup, 1) := by decide +kernel
theorem dX3_takePremium_20 : decode cX3_takePremium 20 = .ok (.getfield 21, 3) := by decide +kernel
theorem dX3_takePremium_23 : decode cX3_takePremium 23 = .ok (.iload_n 2, 1) := by decide +kernel
theorem dX3_takePremium_24 : decode cX3_takePremium 24 = .ok (.isub, 1) := by decide +kernel
theorem dX3_takePremium_25 : decode cX3_takePremium 25 = .ok (.putfield 21, 3) := by decide +kernel
theorem dX3_takePremium_28 : decode cX3_takePremium 28 = .ok (.aload_n 0, 1) := by decide +kernel
theorem dX3_takePremium_29 : decode cX3_takePremium 29 = .ok (.dup, 1) := by decide +kernel
theorem dX3_takePremium_30 : decode cX3_takePremium 30 = .ok (.getfield 15, 3) := by decide +kernel
theorem dX3_takePremium_33 : decode cX3_takePremium 33 = .ok (.iload_n 1, 1) := by decide +kernel
theorem dX3_takePremium_34 : decode cX3_takePremium 34 = .ok (.iload_n 2, 1) := by decide +kernel
theorem dX3_takePremium_35 : decode cX3_takePremium 35 = .ok (.isub, 1) := by decide +kernel
theorem dX3_takePremium_36 : decode cX3_takePremium 36 = .ok (.iadd, 1) := by decide +kernel
theorem dX3_takePremium_37 : decode cX3_takePremium 37 = .ok (.putfield 15, 3) := by decide +kernel
theorem dX3_takePremium_40 : decode cX3_takePremium 40 = .ok (.aload_n 0, 1) := by decide +kernel
theorem dX3_takePremium_41 : decode cX3_takePremium 41 = .ok (.getfield 21, 3) := by decide +kernel
theorem dX3_takePremium_44 : decode cX3_takePremium 44 = .ok (.ifCond .ne 7, 3) := by decide +kernel
theorem dX3_takePremium_47 : decode cX3_takePremium 47 = .ok (.aload_n 0, 1) := by decide +kernel
theorem dX3_takePremium_48 : decode cX3_takePremium 48 = .ok (.invokevirtual 46, 3) := by decide +kernel
theorem dX3_takePremium_51 : decode cX3_takePremium 51 = .ok (.iconst 1, 1) := by decide +kernel
theorem dX3_takePremium_52 : decode cX3_takePremium 52 = .ok (.ireturn, 1) := by decide +kernel
set_option maxRecDepth 20000 in
theorem ggX3_lend_X3_freePart : GoodIn wsX3_lend wsX3_freePart := goodIn_r _ [7, 8, 2, 9, 10, 11, 12, 13, 14, 15, 16, 17, 18, 19] (by decide +kernel) (by decide +kernel)
set_option maxRecDepth 20000 in
theorem gX3_lend_X3_freePart : GoodIn wsX3_lend (wsV RX3 49 RX3 yX3_freePart wsX3_freePart) := goodIn_app (goodIn_of _ (by decide +kernel)) ggX3_lend_X3_freePart
theorem dX3_lend_0 : decode cX3_lend 0 = .ok (.aload_n 0, 1) := by decide +kernel
theorem dX3_lend_1 : decode cX3_lend 1 = .ok (.getfield 9, 3) := by decide +kernel
theorem dX3_lend_4 : decode cX3_lend 4 = .ok (.ifCond .ne 11, 3) := by decide +kernel
theorem dX3_lend_7 : decode cX3_lend 7 = .ok (.iload_n 1, 1) := by decide +kernel
theorem dX3_lend_8 : decode cX3_lend 8 = .ok (.aload_n 0, 1) := by decide +kernel
theorem dX3_lend_9 : decode cX3_lend 9 = .ok (.invokevirtual 49, 3) := by decide +kernel
theorem dX3_lend_12 : decode cX3_lend 12 = .ok (.if_icmp .le 5, 3) := by decide +kernel
theorem dX3_lend_15 : decode cX3_lend 15 = .ok (.iconst 0, 1) := by decide +kernel
theorem dX3_lend_16 : decode cX3_lend 16 = .ok (.ireturn, 1) := by decide +kernel
theorem dX3_lend_17 : decode cX3_lend 17 = .ok (.aload_n 0, 1) := by decide +kernel
theorem dX3_lend_18 : decode cX3_lend 18 = .ok (.dup, 1) := by decide +kernel
theorem dX3_lend_19 : decode cX3_lend 19 = .ok (.getfield 18, 3) := by decide +kernel
theorem dX3_lend_22 : decode cX3_lend 22 = .ok (.iload_n 1, 1) := by decide +kernel
theorem dX3_lend_23 : decode cX3_lend 23 = .ok (.iadd, 1) := by decide +kernel
theorem dX3_lend_24 : decode cX3_lend 24 = .ok (.putfield 18, 3) := by decide +kernel
theorem dX3_lend_27 : decode cX3_lend 27 = .ok (.iconst 1, 1) := by decide +kernel
theorem dX3_lend_28 : decode cX3_lend 28 = .ok (.ireturn, 1) := by decide +kernel
set_option maxRecDepth 20000 in
theorem ggX3_repay_X3_isLive : GoodIn wsX3_repay wsX3_isLive := goodIn_r _ [6, 7, 8, 9, 10, 11, 12, 13, 14] (by decide +kernel) (by decide +kernel)
set_option maxRecDepth 20000 in
theorem gX3_repay_X3_isLive : GoodIn wsX3_repay (wsV RX3 39 RX3 yX3_isLive wsX3_isLive) := goodIn_app (goodIn_of _ (by decide +kernel)) ggX3_repay_X3_isLive
theorem dX3_repay_0 : decode cX3_repay 0 = .ok (.aload_n 0, 1) := by decide +kernel
theorem dX3_repay_1 : decode cX3_repay 1 = .ok (.invokevirtual 39, 3) := by decide +kernel
theorem dX3_repay_4 : decode cX3_repay 4 = .ok (.ifCond .eq 11, 3) := by decide +kernel
theorem dX3_repay_7 : decode cX3_repay 7 = .ok (.iload_n 1, 1) := by decide +kernel
theorem dX3_repay_8 : decode cX3_repay 8 = .ok (.aload_n 0, 1) := by decide +kernel
theorem dX3_repay_9 : decode cX3_repay 9 = .ok (.getfield 18, 3) := by decide +kernel
theorem dX3_repay_12 : decode cX3_repay 12 = .ok (.if_icmp .le 5, 3) := by decide +kernel
theorem dX3_repay_15 : decode cX3_repay 15 = .ok (.iconst 0, 1) := by decide +kernel
theorem dX3_repay_16 : decode cX3_repay 16 = .ok (.ireturn, 1) := by decide +kernel
theorem dX3_repay_17 : decode cX3_repay 17 = .ok (.aload_n 0, 1) := by decide +kernel
theorem dX3_repay_18 : decode cX3_repay 18 = .ok (.dup, 1) := by decide +kernel
theorem dX3_repay_19 : decode cX3_repay 19 = .ok (.getfield 18, 3) := by decide +kernel
theorem dX3_repay_22 : decode cX3_repay 22 = .ok (.iload_n 1, 1) := by decide +kernel
theorem dX3_repay_23 : decode cX3_repay 23 = .ok (.isub, 1) := by decide +kernel
theorem dX3_repay_24 : decode cX3_repay 24 = .ok (.putfield 18, 3) := by decide +kernel
theorem dX3_repay_27 : decode cX3_repay 27 = .ok (.iconst 1, 1) := by decide +kernel
theorem dX3_repay_28 : decode cX3_repay 28 = .ok (.ireturn, 1) := by decide +kernel
set_option maxRecDepth 20000 in
theorem ggX3_withdraw_X3_freePart : GoodIn wsX3_withdraw wsX3_freePart := goodIn_r _ [7, 2, 8, 9, 10, 11, 12, 13, 14, 15, 16, 17, 18, 19] (by decide +kernel) (by decide +kernel)
set_option maxRecDepth 20000 in
theorem gX3_withdraw_X3_freePart : GoodIn wsX3_withdraw (wsV RX3 49 RX3 yX3_freePart wsX3_freePart) := goodIn_app (goodIn_of _ (by decide +kernel)) ggX3_withdraw_X3_freePart
theorem dX3_withdraw_0 : decode cX3_withdraw 0 = .ok (.aload_n 0, 1) := by decide +kernel
theorem dX3_withdraw_1 : decode cX3_withdraw 1 = .ok (.getfield 9, 3) := by decide +kernel
theorem dX3_withdraw_4 : decode cX3_withdraw 4 = .ok (.ifCond .ne 11, 3) := by decide +kernel
theorem dX3_withdraw_7 : decode cX3_withdraw 7 = .ok (.iload_n 1, 1) := by decide +kernel
theorem dX3_withdraw_8 : decode cX3_withdraw 8 = .ok (.aload_n 0, 1) := by decide +kernel
theorem dX3_withdraw_9 : decode cX3_withdraw 9 = .ok (.invokevirtual 49, 3) := by decide +kernel
theorem dX3_withdraw_12 : decode cX3_withdraw 12 = .ok (.if_icmp .le 5, 3) := by decide +kernel
theorem dX3_withdraw_15 : decode cX3_withdraw 15 = .ok (.iconst 0, 1) := by decide +kernel
theorem dX3_withdraw_16 : decode cX3_withdraw 16 = .ok (.ireturn, 1) := by decide +kernel
theorem dX3_withdraw_17 : decode cX3_withdraw 17 = .ok (.aload_n 0, 1) := by decide +kernel
theorem dX3_withdraw_18 : decode cX3_withdraw 18 = .ok (.dup, 1) := by decide +kernel
theorem dX3_withdraw_19 : decode cX3_withdraw 19 = .ok (.getfield 15, 3) := by decide +kernel
theorem dX3_withdraw_22 : decode cX3_withdraw 22 = .ok (.iload_n 1, 1) := by decide +kernel
theorem dX3_withdraw_23 : decode cX3_withdraw 23 = .ok (.isub, 1) := by decide +kernel
theorem dX3_withdraw_24 : decode cX3_withdraw 24 = .ok (.putfield 15, 3) := by decide +kernel
theorem dX3_withdraw_27 : decode cX3_withdraw 27 = .ok (.iconst 1, 1) := by decide +kernel
theorem dX3_withdraw_28 : decode cX3_withdraw 28 = .ok (.ireturn, 1) := by decide +kernel
set_option maxRecDepth 20000 in
theorem ggX3_revive_X3_putInForce : GoodIn wsX3_revive wsX3_putInForce := goodIn_r _ [9, 1, 10, 11, 12, 13, 14, 15, 16, 17] (by decide +kernel) (by decide +kernel)
set_option maxRecDepth 20000 in
theorem gX3_revive_X3_putInForce : GoodIn wsX3_revive (wsV RX3 46 RX3 yX3_putInForce wsX3_putInForce) := goodIn_app (goodIn_of _ (by decide +kernel)) ggX3_revive_X3_putInForce
theorem dX3_revive_0 : decode cX3_revive 0 = .ok (.aload_n 0, 1) := by decide +kernel
theorem dX3_revive_1 : decode cX3_revive 1 = .ok (.getfield 9, 3) := by decide +kernel
theorem dX3_revive_4 : decode cX3_revive 4 = .ok (.iconst 2, 1) := by decide +kernel
theorem dX3_revive_5 : decode cX3_revive 5 = .ok (.if_icmp .eq 5, 3) := by decide +kernel
theorem dX3_revive_8 : decode cX3_revive 8 = .ok (.iconst 0, 1) := by decide +kernel
theorem dX3_revive_9 : decode cX3_revive 9 = .ok (.ireturn, 1) := by decide +kernel
theorem dX3_revive_10 : decode cX3_revive 10 = .ok (.iload_n 2, 1) := by decide +kernel
theorem dX3_revive_11 : decode cX3_revive 11 = .ok (.aload_n 0, 1) := by decide +kernel
theorem dX3_revive_12 : decode cX3_revive 12 = .ok (.getfield 27, 3) := by decide +kernel
theorem dX3_revive_15 : decode cX3_revive 15 = .ok (.isub, 1) := by decide +kernel
theorem dX3_revive_16 : decode cX3_revive 16 = .ok (.istore_n 3, 1) := by decide +kernel
theorem dX3_revive_17 : decode cX3_revive 17 = .ok (.aload_n 0, 1) := by decide +kernel
theorem dX3_revive_18 : decode cX3_revive 18 = .ok (.getfield 21, 3) := by decide +kernel
theorem dX3_revive_21 : decode cX3_revive 21 = .ok (.sipush 500, 3) := by decide +kernel
theorem dX3_revive_24 : decode cX3_revive 24 = .ok (.iload_n 3, 1) := by decide +kernel
theorem dX3_revive_25 : decode cX3_revive 25 = .ok (.imul, 1) := by decide +kernel
theorem dX3_revive_26 : decode cX3_revive 26 = .ok (.iadd, 1) := by decide +kernel
theorem dX3_revive_27 : decode cX3_revive 27 = .ok (.istore 4, 2) := by decide +kernel
theorem dX3_revive_29 : decode cX3_revive 29 = .ok (.iload_n 3, 1) := by decide +kernel
theorem dX3_revive_30 : decode cX3_revive 30 = .ok (.bipush 24, 2) := by decide +kernel
theorem dX3_revive_32 : decode cX3_revive 32 = .ok (.if_icmp .ge 9, 3) := by decide +kernel
theorem dX3_revive_35 : decode cX3_revive 35 = .ok (.iload_n 1, 1) := by decide +kernel
theorem dX3_revive_36 : decode cX3_revive 36 = .ok (.iload 4, 2) := by decide +kernel
theorem dX3_revive_38 : decode cX3_revive 38 = .ok (.if_icmp .ge 5, 3) := by decide +kernel
theorem dX3_revive_41 : decode cX3_revive 41 = .ok (.iconst 0, 1) := by decide +kernel
theorem dX3_revive_42 : decode cX3_revive 42 = .ok (.ireturn, 1) := by decide +kernel
theorem dX3_revive_43 : decode cX3_revive 43 = .ok (.aload_n 0, 1) := by decide +kernel
theorem dX3_revive_44 : decode cX3_revive 44 = .ok (.dup, 1) := by decide +kernel
theorem dX3_revive_45 : decode cX3_revive 45 = .ok (.getfield 15, 3) := by decide +kernel
theorem dX3_revive_48 : decode cX3_revive 48 = .ok (.iload_n 1, 1) := by decide +kernel
theorem dX3_revive_49 : decode cX3_revive 49 = .ok (.iload 4, 2) := by decide +kernel
theorem dX3_revive_51 : decode cX3_revive 51 = .ok (.isub, 1) := by decide +kernel
theorem dX3_revive_52 : decode cX3_revive 52 = .ok (.iadd, 1) := by decide +kernel
theorem dX3_revive_53 : decode cX3_revive 53 = .ok (.putfield 15, 3) := by decide +kernel
theorem dX3_revive_56 : decode cX3_revive 56 = .ok (.aload_n 0, 1) := by decide +kernel
theorem dX3_revive_57 : decode cX3_revive 57 = .ok (.iconst 0, 1) := by decide +kernel
theorem dX3_revive_58 : decode cX3_revive 58 = .ok (.putfield 21, 3) := by decide +kernel
theorem dX3_revive_61 : decode cX3_revive 61 = .ok (.aload_n 0, 1) := by decide +kernel
theorem dX3_revive_62 : decode cX3_revive 62 = .ok (.invokevirtual 46, 3) := by decide +kernel
theorem dX3_revive_65 : decode cX3_revive 65 = .ok (.iconst 1, 1) := by decide +kernel
theorem dX3_revive_66 : decode cX3_revive 66 = .ok (.ireturn, 1) := by decide +kernel
set_option maxRecDepth 20000 in
theorem ggX3_die_X3_isLive : GoodIn wsX3_die wsX3_isLive := goodIn_r _ [13, 7, 14, 15, 16, 17, 18, 19, 20] (by decide +kernel) (by decide +kernel)
set_option maxRecDepth 20000 in
theorem gX3_die_X3_isLive : GoodIn wsX3_die (wsV RX3 39 RX3 yX3_isLive wsX3_isLive) := goodIn_app (goodIn_of _ (by decide +kernel)) ggX3_die_X3_isLive
theorem dX3_die_0 : decode cX3_die 0 = .ok (.aload_n 0, 1) := by decide +kernel
theorem dX3_die_1 : decode cX3_die 1 = .ok (.invokevirtual 39, 3) := by decide +kernel
theorem dX3_die_4 : decode cX3_die 4 = .ok (.ifCond .ne 5, 3) := by decide +kernel
theorem dX3_die_7 : decode cX3_die 7 = .ok (.iconst 0, 1) := by decide +kernel
theorem dX3_die_8 : decode cX3_die 8 = .ok (.ireturn, 1) := by decide +kernel
theorem dX3_die_9 : decode cX3_die 9 = .ok (.aload_n 0, 1) := by decide +kernel
theorem dX3_die_10 : decode cX3_die 10 = .ok (.iconst 0, 1) := by decide +kernel
theorem dX3_die_11 : decode cX3_die 11 = .ok (.iload_n 1, 1) := by decide +kernel
theorem dX3_die_12 : decode cX3_die 12 = .ok (.aload_n 0, 1) := by decide +kernel
theorem dX3_die_13 : decode cX3_die 13 = .ok (.getfield 18, 3) := by decide +kernel
theorem dX3_die_16 : decode cX3_die 16 = .ok (.isub, 1) := by decide +kernel
theorem dX3_die_17 : decode cX3_die 17 = .ok (.invokestatic 33, 3) := by decide +kernel
theorem dX3_die_20 : decode cX3_die 20 = .ok (.putfield 30, 3) := by decide +kernel
theorem dX3_die_23 : decode cX3_die 23 = .ok (.aload_n 0, 1) := by decide +kernel
theorem dX3_die_24 : decode cX3_die 24 = .ok (.iconst 3, 1) := by decide +kernel
theorem dX3_die_25 : decode cX3_die 25 = .ok (.putfield 9, 3) := by decide +kernel
theorem dX3_die_28 : decode cX3_die 28 = .ok (.aload_n 0, 1) := by decide +kernel
theorem dX3_die_29 : decode cX3_die 29 = .ok (.iconst 0, 1) := by decide +kernel
theorem dX3_die_30 : decode cX3_die 30 = .ok (.putfield 24, 3) := by decide +kernel
theorem dX3_die_33 : decode cX3_die 33 = .ok (.iconst 1, 1) := by decide +kernel
theorem dX3_die_34 : decode cX3_die 34 = .ok (.ireturn, 1) := by decide +kernel
theorem dX3_putInForce_0 : decode cX3_putInForce 0 = .ok (.aload_n 0, 1) := by decide +kernel
theorem dX3_putInForce_1 : decode cX3_putInForce 1 = .ok (.iconst 0, 1) := by decide +kernel
theorem dX3_putInForce_2 : decode cX3_putInForce 2 = .ok (.putfield 9, 3) := by decide +kernel
theorem dX3_putInForce_5 : decode cX3_putInForce 5 = .ok (.aload_n 0, 1) := by decide +kernel
theorem dX3_putInForce_6 : decode cX3_putInForce 6 = .ok (.iconst 0, 1) := by decide +kernel
theorem dX3_putInForce_7 : decode cX3_putInForce 7 = .ok (.putfield 24, 3) := by decide +kernel
theorem dX3_putInForce_10 : decode cX3_putInForce 10 = .ok (.return_, 1) := by decide +kernel
set_option maxRecDepth 20000 in
theorem ggX3_settle_X3_freePart : GoodIn wsX3_settle wsX3_freePart := goodIn_r _ [9, 2, 10, 11, 12, 13, 14, 24, 25, 26, 27, 28, 29, 30] (by decide +kernel) (by decide +kernel)
set_option maxRecDepth 20000 in
theorem gX3_settle_X3_freePart : GoodIn wsX3_settle (wsV RX3 49 RX3 yX3_freePart wsX3_freePart) := goodIn_app (goodIn_of _ (by decide +kernel)) ggX3_settle_X3_freePart
set_option maxRecDepth 20000 in
theorem ggX3_settle_X3_putInForce : GoodIn wsX3_settle wsX3_putInForce := goodIn_r _ [18, 3, 4, 24, 25, 26, 27, 28, 29, 30] (by decide +kernel) (by decide +kernel)
set_option maxRecDepth 20000 in
theorem gX3_settle_X3_putInForce : GoodIn wsX3_settle (wsV RX3 46 RX3 yX3_putInForce wsX3_putInForce) := goodIn_app (goodIn_of _ (by decide +kernel)) ggX3_settle_X3_putInForce
set_option maxRecDepth 20000 in
theorem ggX3_settle_X3_lapse : GoodIn wsX3_settle wsX3_lapse := goodIn_r _ [22, 3, 4, 2, 10, 23, 24, 25, 26, 27, 28, 29, 30] (by decide +kernel) (by decide +kernel)
set_option maxRecDepth 20000 in
theorem gX3_settle_X3_lapse : GoodIn wsX3_settle (wsV RX3 53 RX3 yX3_lapse wsX3_lapse) := goodIn_app (goodIn_of _ (by decide +kernel)) ggX3_settle_X3_lapse
theorem dX3_settle_0 : decode cX3_settle 0 = .ok (.aload_n 0, 1) := by decide +kernel
theorem dX3_settle_1 : decode cX3_settle 1 = .ok (.invokevirtual 49, 3) := by decide +kernel
theorem dX3_settle_4 : decode cX3_settle 4 = .ok (.iload_n 1, 1) := by decide +kernel
theorem dX3_settle_5 : decode cX3_settle 5 = .ok (.aload_n 0, 1) := by decide +kernel
theorem dX3_settle_6 : decode cX3_settle 6 = .ok (.getfield 21, 3) := by decide +kernel
theorem dX3_settle_9 : decode cX3_settle 9 = .ok (.iadd, 1) := by decide +kernel
theorem dX3_settle_10 : decode cX3_settle 10 = .ok (.if_icmp .lt 28, 3) := by decide +kernel
theorem dX3_settle_13 : decode cX3_settle 13 = .ok (.aload_n 0, 1) := by decide +kernel
theorem dX3_settle_14 : decode cX3_settle 14 = .ok (.dup, 1) := by decide +kernel
theorem dX3_settle_15 : decode cX3_settle 15 = .ok (.getfield 15, 3) := by decide +kernel
theorem dX3_settle_18 : decode cX3_settle 18 = .ok (.iload_n 1, 1) := by decide +kernel
theorem dX3_settle_19 : decode cX3_settle 19 = .ok (.aload_n 0, 1) := by decide +kernel
theorem dX3_settle_20 : decode cX3_settle 20 = .ok (.getfield 21, 3) := by decide +kernel
theorem dX3_settle_23 : decode cX3_settle 23 = .ok (.iadd, 1) := by decide +kernel
theorem dX3_settle_24 : decode cX3_settle 24 = .ok (.isub, 1) := by decide +kernel
theorem dX3_settle_25 : decode cX3_settle 25 = .ok (.putfield 15, 3) := by decide +kernel
theorem dX3_settle_28 : decode cX3_settle 28 = .ok (.aload_n 0, 1) := by decide +kernel
theorem dX3_settle_29 : decode cX3_settle 29 = .ok (.iconst 0, 1) := by decide +kernel
theorem dX3_settle_30 : decode cX3_settle 30 = .ok (.putfield 21, 3) := by decide +kernel
theorem dX3_settle_33 : decode cX3_settle 33 = .ok (.aload_n 0, 1) := by decide +kernel
theorem dX3_settle_34 : decode cX3_settle 34 = .ok (.invokevirtual 46, 3) := by decide +kernel
theorem dX3_settle_37 : decode cX3_settle 37 = .ok (.return_, 1) := by decide +kernel
theorem dX3_settle_38 : decode cX3_settle 38 = .ok (.aload_n 0, 1) := by decide +kernel
theorem dX3_settle_39 : decode cX3_settle 39 = .ok (.dup, 1) := by decide +kernel
theorem dX3_settle_40 : decode cX3_settle 40 = .ok (.getfield 21, 3) := by decide +kernel
theorem dX3_settle_43 : decode cX3_settle 43 = .ok (.iload_n 1, 1) := by decide +kernel
theorem dX3_settle_44 : decode cX3_settle 44 = .ok (.iadd, 1) := by decide +kernel
theorem dX3_settle_45 : decode cX3_settle 45 = .ok (.putfield 21, 3) := by decide +kernel
theorem dX3_settle_48 : decode cX3_settle 48 = .ok (.aload_n 0, 1) := by decide +kernel
theorem dX3_settle_49 : decode cX3_settle 49 = .ok (.iconst 1, 1) := by decide +kernel
theorem dX3_settle_50 : decode cX3_settle 50 = .ok (.putfield 9, 3) := by decide +kernel
theorem dX3_settle_53 : decode cX3_settle 53 = .ok (.aload_n 0, 1) := by decide +kernel
theorem dX3_settle_54 : decode cX3_settle 54 = .ok (.dup, 1) := by decide +kernel
theorem dX3_settle_55 : decode cX3_settle 55 = .ok (.getfield 24, 3) := by decide +kernel
theorem dX3_settle_58 : decode cX3_settle 58 = .ok (.iconst 1, 1) := by decide +kernel
theorem dX3_settle_59 : decode cX3_settle 59 = .ok (.iadd, 1) := by decide +kernel
theorem dX3_settle_60 : decode cX3_settle 60 = .ok (.putfield 24, 3) := by decide +kernel
theorem dX3_settle_63 : decode cX3_settle 63 = .ok (.aload_n 0, 1) := by decide +kernel
theorem dX3_settle_64 : decode cX3_settle 64 = .ok (.getfield 24, 3) := by decide +kernel
theorem dX3_settle_67 : decode cX3_settle 67 = .ok (.iconst 3, 1) := by decide +kernel
theorem dX3_settle_68 : decode cX3_settle 68 = .ok (.if_icmp .ne 8, 3) := by decide +kernel
theorem dX3_settle_71 : decode cX3_settle 71 = .ok (.aload_n 0, 1) := by decide +kernel
theorem dX3_settle_72 : decode cX3_settle 72 = .ok (.iload_n 2, 1) := by decide +kernel
theorem dX3_settle_73 : decode cX3_settle 73 = .ok (.invokevirtual 53, 3) := by decide +kernel
theorem dX3_settle_76 : decode cX3_settle 76 = .ok (.return_, 1) := by decide +kernel
theorem dX3_lapse_0 : decode cX3_lapse 0 = .ok (.aload_n 0, 1) := by decide +kernel
theorem dX3_lapse_1 : decode cX3_lapse 1 = .ok (.iconst 2, 1) := by decide +kernel
theorem dX3_lapse_2 : decode cX3_lapse 2 = .ok (.putfield 9, 3) := by decide +kernel
theorem dX3_lapse_5 : decode cX3_lapse 5 = .ok (.aload_n 0, 1) := by decide +kernel
theorem dX3_lapse_6 : decode cX3_lapse 6 = .ok (.iconst 0, 1) := by decide +kernel
theorem dX3_lapse_7 : decode cX3_lapse 7 = .ok (.putfield 24, 3) := by decide +kernel
theorem dX3_lapse_10 : decode cX3_lapse 10 = .ok (.aload_n 0, 1) := by decide +kernel
theorem dX3_lapse_11 : decode cX3_lapse 11 = .ok (.iconst 0, 1) := by decide +kernel
theorem dX3_lapse_12 : decode cX3_lapse 12 = .ok (.putfield 15, 3) := by decide +kernel
theorem dX3_lapse_15 : decode cX3_lapse 15 = .ok (.aload_n 0, 1) := by decide +kernel
theorem dX3_lapse_16 : decode cX3_lapse 16 = .ok (.iconst 0, 1) := by decide +kernel
theorem dX3_lapse_17 : decode cX3_lapse 17 = .ok (.putfield 18, 3) := by decide +kernel
theorem dX3_lapse_20 : decode cX3_lapse 20 = .ok (.aload_n 0, 1) := by decide +kernel
theorem dX3_lapse_21 : decode cX3_lapse 21 = .ok (.iload_n 1, 1) := by decide +kernel
theorem dX3_lapse_22 : decode cX3_lapse 22 = .ok (.iconst 1, 1) := by decide +kernel
theorem dX3_lapse_23 : decode cX3_lapse 23 = .ok (.iadd, 1) := by decide +kernel
theorem dX3_lapse_24 : decode cX3_lapse 24 = .ok (.putfield 27, 3) := by decide +kernel
theorem dX3_lapse_27 : decode cX3_lapse 27 = .ok (.return_, 1) := by decide +kernel
theorem dX3_addInterest_0 : decode cX3_addInterest 0 = .ok (.aload_n 0, 1) := by decide +kernel
theorem dX3_addInterest_1 : decode cX3_addInterest 1 = .ok (.getfield 15, 3) := by decide +kernel
theorem dX3_addInterest_4 : decode cX3_addInterest 4 = .ok (.aload_n 0, 1) := by decide +kernel
theorem dX3_addInterest_5 : decode cX3_addInterest 5 = .ok (.getfield 18, 3) := by decide +kernel
theorem dX3_addInterest_8 : decode cX3_addInterest 8 = .ok (.invokestatic 43, 3) := by decide +kernel
theorem dX3_addInterest_11 : decode cX3_addInterest 11 = .ok (.i2l, 1) := by decide +kernel
theorem dX3_addInterest_12 : decode cX3_addInterest 12 = .ok (.lstore_n 1, 1) := by decide +kernel
theorem dX3_addInterest_13 : decode cX3_addInterest 13 = .ok (.aload_n 0, 1) := by decide +kernel
theorem dX3_addInterest_14 : decode cX3_addInterest 14 = .ok (.getfield 15, 3) := by decide +kernel
theorem dX3_addInterest_17 : decode cX3_addInterest 17 = .ok (.i2l, 1) := by decide +kernel
theorem dX3_addInterest_18 : decode cX3_addInterest 18 = .ok (.lload_n 1, 1) := by decide +kernel
theorem dX3_addInterest_19 : decode cX3_addInterest 19 = .ok (.lsub, 1) := by decide +kernel
theorem dX3_addInterest_20 : decode cX3_addInterest 20 = .ok (.lstore_n 3, 1) := by decide +kernel
theorem dX3_addInterest_21 : decode cX3_addInterest 21 = .ok (.lload_n 3, 1) := by decide +kernel
theorem dX3_addInterest_22 : decode cX3_addInterest 22 = .ok (.ldc2_w 57, 3) := by decide +kernel
theorem dX3_addInterest_25 : decode cX3_addInterest 25 = .ok (.invokestatic 59, 3) := by decide +kernel
theorem dX3_addInterest_28 : decode cX3_addInterest 28 = .ok (.lstore 5, 2) := by decide +kernel
theorem dX3_addInterest_30 : decode cX3_addInterest 30 = .ok (.lload_n 3, 1) := by decide +kernel
theorem dX3_addInterest_31 : decode cX3_addInterest 31 = .ok (.lload 5, 2) := by decide +kernel
theorem dX3_addInterest_33 : decode cX3_addInterest 33 = .ok (.lsub, 1) := by decide +kernel
theorem dX3_addInterest_34 : decode cX3_addInterest 34 = .ok (.lstore 7, 2) := by decide +kernel
theorem dX3_addInterest_36 : decode cX3_addInterest 36 = .ok (.aload_n 0, 1) := by decide +kernel
theorem dX3_addInterest_37 : decode cX3_addInterest 37 = .ok (.dup, 1) := by decide +kernel
theorem dX3_addInterest_38 : decode cX3_addInterest 38 = .ok (.getfield 15, 3) := by decide +kernel
theorem dX3_addInterest_41 : decode cX3_addInterest 41 = .ok (.ldc2_w 62, 3) := by decide +kernel
theorem dX3_addInterest_44 : decode cX3_addInterest 44 = .ok (.lload_n 1, 1) := by decide +kernel
theorem dX3_addInterest_45 : decode cX3_addInterest 45 = .ok (.lmul, 1) := by decide +kernel
theorem dX3_addInterest_46 : decode cX3_addInterest 46 = .ok (.ldc2_w 64, 3) := by decide +kernel
theorem dX3_addInterest_49 : decode cX3_addInterest 49 = .ok (.lload 5, 2) := by decide +kernel
theorem dX3_addInterest_51 : decode cX3_addInterest 51 = .ok (.lmul, 1) := by decide +kernel
theorem dX3_addInterest_52 : decode cX3_addInterest 52 = .ok (.ladd, 1) := by decide +kernel
theorem dX3_addInterest_53 : decode cX3_addInterest 53 = .ok (.ldc2_w 66, 3) := by decide +kernel
theorem dX3_addInterest_56 : decode cX3_addInterest 56 = .ok (.lload 7, 2) := by decide +kernel
theorem dX3_addInterest_58 : decode cX3_addInterest 58 = .ok (.lmul, 1) := by decide +kernel
theorem dX3_addInterest_59 : decode cX3_addInterest 59 = .ok (.ladd, 1) := by decide +kernel
theorem dX3_addInterest_60 : decode cX3_addInterest 60 = .ok (.ldc2_w 68, 3) := by decide +kernel
theorem dX3_addInterest_63 : decode cX3_addInterest 63 = .ok (.ldiv, 1) := by decide +kernel
theorem dX3_addInterest_64 : decode cX3_addInterest 64 = .ok (.l2i, 1) := by decide +kernel
theorem dX3_addInterest_65 : decode cX3_addInterest 65 = .ok (.iadd, 1) := by decide +kernel
theorem dX3_addInterest_66 : decode cX3_addInterest 66 = .ok (.putfield 15, 3) := by decide +kernel
theorem dX3_addInterest_69 : decode cX3_addInterest 69 = .ok (.aload_n 0, 1) := by decide +kernel
theorem dX3_addInterest_70 : decode cX3_addInterest 70 = .ok (.dup, 1) := by decide +kernel
theorem dX3_addInterest_71 : decode cX3_addInterest 71 = .ok (.getfield 18, 3) := by decide +kernel
theorem dX3_addInterest_74 : decode cX3_addInterest 74 = .ok (.ldc2_w 70, 3) := by decide +kernel
theorem dX3_addInterest_77 : decode cX3_addInterest 77 = .ok (.aload_n 0, 1) := by decide +kernel
theorem dX3_addInterest_78 : decode cX3_addInterest 78 = .ok (.getfield 18, 3) := by decide +kernel
theorem dX3_addInterest_81 : decode cX3_addInterest 81 = .ok (.i2l, 1) := by decide +kernel
theorem dX3_addInterest_82 : decode cX3_addInterest 82 = .ok (.lmul, 1) := by decide +kernel
theorem dX3_addInterest_83 : decode cX3_addInterest 83 = .ok (.ldc2_w 68, 3) := by decide +kernel
theorem dX3_addInterest_86 : decode cX3_addInterest 86 = .ok (.ldiv, 1) := by decide +kernel
theorem dX3_addInterest_87 : decode cX3_addInterest 87 = .ok (.l2i, 1) := by decide +kernel
theorem dX3_addInterest_88 : decode cX3_addInterest 88 = .ok (.iadd, 1) := by decide +kernel
theorem dX3_addInterest_89 : decode cX3_addInterest 89 = .ok (.putfield 18, 3) := by decide +kernel
theorem dX3_addInterest_92 : decode cX3_addInterest 92 = .ok (.return_, 1) := by decide +kernel
set_option maxRecDepth 20000 in
theorem ggX4_init_X2_init : GoodIn wsX4_init wsX2_init := goodIn_r _ [24, 25, 2, 3, 26, 27, 28, 29, 58, 59, 60] (by decide +kernel) (by decide +kernel)
set_option maxRecDepth 20000 in
theorem gX4_init_X2_init : GoodIn wsX4_init (wsX2_init) := ggX4_init_X2_init
set_option maxRecDepth 20000 in
theorem ggX4_init_X0_init : GoodIn wsX4_init wsX0_init := goodIn_r _ [32, 33, 2, 3, 34, 35, 36, 37, 38, 39, 40, 41, 67, 68, 69, 70, 71, 72] (by decide +kernel) (by decide +kernel)
set_option maxRecDepth 20000 in
theorem gX4_init_X0_init : GoodIn wsX4_init (wsX0_init) := ggX4_init_X0_init
set_option maxRecDepth 20000 in
theorem ggX4_init_X1_init : GoodIn wsX4_init wsX1_init := goodIn_r _ [44, 45, 2, 3, 35, 46, 47, 48, 49, 50, 51, 52, 73, 74, 75, 76, 77, 78, 79] (by decide +kernel) (by decide +kernel)
set_option maxRecDepth 20000 in
theorem gX4_init_X1_init : GoodIn wsX4_init (wsX1_init) := ggX4_init_X1_init
set_option maxRecDepth 20000 in
theorem ggX4_init_X3_init : GoodIn wsX4_init wsX3_init := goodIn_r _ [55, 56, 2, 3, 57, 80, 81, 82, 83, 84, 85, 86] (by decide +kernel) (by decide +kernel)
set_option maxRecDepth 20000 in
theorem gX4_init_X3_init : GoodIn wsX4_init (wsX3_init) := ggX4_init_X3_init
set_option maxRecDepth 20000 in
theorem ggX4_begin_X2_agree : GoodIn wsX4_begin wsX2_agree := goodIn_r _ [13, 14, 15, 16, 41, 42, 43] (by decide +kernel) (by decide +kernel)
set_option maxRecDepth 20000 in
theorem gX4_begin_X2_agree : GoodIn wsX4_begin (wsV RX4 57 RX2 yX2_agree wsX2_agree) := goodIn_app (goodIn_of _ (by decide +kernel)) ggX4_begin_X2_agree
set_option maxRecDepth 20000 in
theorem ggX4_begin_X0_empty : GoodIn wsX4_begin wsX0_empty := goodIn_r _ [21, 22, 44, 45, 46, 47, 48, 49] (by decide +kernel) (by decide +kernel)
set_option maxRecDepth 20000 in
theorem gX4_begin_X0_empty : GoodIn wsX4_begin (wsV RX4 61 RX0 yX0_empty wsX0_empty) := goodIn_app (goodIn_of _ (by decide +kernel)) ggX4_begin_X0_empty
set_option maxRecDepth 20000 in
theorem ggX4_begin_X3_startFresh : GoodIn wsX4_begin wsX3_startFresh := goodIn_r _ [27, 28, 29, 30, 31, 32, 33, 34, 50, 51, 52, 53, 54, 55, 56] (by decide +kernel) (by decide +kernel)
set_option maxRecDepth 20000 in
theorem gX4_begin_X3_startFresh : GoodIn wsX4_begin (wsV RX4 64 RX3 yX3_startFresh wsX3_startFresh) := goodIn_app (goodIn_of _ (by decide +kernel)) ggX4_begin_X3_startFresh
set_option maxRecDepth 20000 in
theorem ggX4_tell_X0_isFull : GoodIn wsX4_tell wsX0_isFull := goodIn_r _ [13, 14, 215, 216, 217, 218, 219, 220] (by decide +kernel) (by decide +kernel)
set_option maxRecDepth 20000 in
theorem gX4_tell_X0_isFull : GoodIn wsX4_tell (wsV RX4 74 RX0 yX0_isFull wsX0_isFull) := goodIn_app (goodIn_of _ (by decide +kernel)) ggX4_tell_X0_isFull
set_option maxRecDepth 20000 in
theorem ggX4_tell_X0_write : GoodIn wsX4_tell wsX0_write := goodIn_r _ [18, 14, 19, 20, 21, 22, 215, 216, 217, 218, 219, 220] (by decide +kernel) (by decide +kernel)
set_option maxRecDepth 20000 in
theorem gX4_tell_X0_write : GoodIn wsX4_tell (wsV RX4 83 RX0 yX0_write wsX0_write) := goodIn_app (goodIn_of _ (by decide +kernel)) ggX4_tell_X0_write
set_option maxRecDepth 20000 in
theorem ggX4_tell_X4_perform : GoodIn wsX4_tell wsX4_perform := goodIn_r _ [27, 7, 28, 29, 30, 31, 32, 12, 33, 19, 34, 35, 36, 37, 14, 38, 39, 40, 41, 21, 42, 43, 44, 45, 20, 46, 47, 48, 49, 50, 51, 52, 53, 54, 55, 56, 57, 58, 59, 60, 61, 62, 63, 64, 65, 66, 67, 68, 69, 70, 71, 72, 73, 74, 75, 76, 77, 78, 79, 80, 81, 82, 83, 84, 85, 86, 87, 88, 89, 90, 91, 92, 93, 94, 95, 96, 97, 98, 99, 100, 101, 102, 103, 104, 105, 106, 107, 108, 109, 110, 111, 112, 113, 114, 115, 116, 209, 210, 211, 212, 213, 214, 221, 222, 223, 224, 225, 226, 227, 215, 216, 217, 218, 219, 220, 228, 229, 230] (by decide +kernel) (by decide +kernel)
set_option maxRecDepth 20000 in
theorem gX4_tell_X4_perform : GoodIn wsX4_tell (wsV RX4 87 RX4 yX4_perform wsX4_perform) := goodIn_app (goodIn_of _ (by decide +kernel)) ggX4_tell_X4_perform
set_option maxRecDepth 20000 in
theorem ggX4_tell_X0_noteDone : GoodIn wsX4_tell wsX0_noteDone := goodIn_r _ [120, 121, 34, 35, 36, 12, 37, 14, 215, 216, 217, 218, 219, 220] (by decide +kernel) (by decide +kernel)
set_option maxRecDepth 20000 in
theorem gX4_tell_X0_noteDone : GoodIn wsX4_tell (wsV RX4 91 RX0 yX0_noteDone wsX0_noteDone) := goodIn_app (goodIn_of _ (by decide +kernel)) ggX4_tell_X0_noteDone
set_option maxRecDepth 20000 in
theorem ggX4_tell_X4_workOutFrom : GoodIn wsX4_tell wsX4_workOutFrom := goodIn_r _ [125, 126, 8, 5, 127, 128, 129, 130, 131, 132, 133, 134, 135, 136, 137, 138, 139, 140, 141, 142, 143, 144, 145, 146, 147, 148, 149, 150, 151, 152, 26, 153, 7, 154, 155, 156, 157, 12, 158, 19, 159, 160, 161, 162, 22, 34, 35, 36, 37, 14, 23, 24, 25, 27, 28, 29, 30, 31, 32, 33, 38, 39, 40, 41, 21, 42, 43, 44, 45, 20, 46, 47, 48, 49, 50, 51, 52, 53, 54, 55, 56, 57, 58, 59, 60, 61, 62, 63, 64, 65, 66, 67, 68, 69, 70, 71, 72, 73, 74, 75, 76, 77, 78, 79, 80, 81, 82, 83, 84, 85, 86, 87, 88, 89, 90, 91, 92, 93, 94, 95, 96, 97, 98, 99, 100, 101, 102, 103, 104, 105, 106, 107, 108, 109, 110, 111, 112, 113, 114, 115, 116, 117, 118, 119, 120, 121, 163, 164, 165, 166, 167, 168, 169, 170, 171, 172, 173, 174, 175, 176, 177, 178, 179, 180, 181, 182, 183, 184, 185, 186, 187, 188, 189, 190, 191, 192, 193, 194, 195, 196, 197, 198, 199, 200, 201, 202, 203, 204, 209, 210, 211, 212, 213, 214, 231, 232, 233, 234, 235, 236, 237, 221, 222, 223, 224, 225, 226, 227, 215, 216, 217, 218, 219, 220, 228, 229, 230] (by decide +kernel) (by decide +kernel)
set_option maxRecDepth 20000 in
theorem gX4_tell_X4_workOutFrom : GoodIn wsX4_tell (wsV RX4 95 RX4 yX4_workOutFrom wsX4_workOutFrom) := goodIn_app (goodIn_of _ (by decide +kernel)) ggX4_tell_X4_workOutFrom
set_option maxRecDepth 20000 in
theorem ggX4_tell_X0_wasDone : GoodIn wsX4_tell wsX0_wasDone := goodIn_r _ [208, 121, 34, 35, 36, 12, 37, 14, 215, 216, 217, 218, 219, 220] (by decide +kernel) (by decide +kernel)
set_option maxRecDepth 20000 in
theorem gX4_tell_X0_wasDone : GoodIn wsX4_tell (wsV RX4 99 RX0 yX0_wasDone wsX0_wasDone) := goodIn_app (goodIn_of _ (by decide +kernel)) ggX4_tell_X0_wasDone
set_option maxRecDepth 20000 in
theorem ggX4_strike_X0_stands : GoodIn wsX4_strike wsX0_stands := goodIn_r _ [8, 9, 10, 11, 12, 7, 13, 14, 205, 206, 207, 208, 209, 210] (by decide +kernel) (by decide +kernel)
set_option maxRecDepth 20000 in
theorem gX4_strike_X0_stands : GoodIn wsX4_strike (wsV RX4 103 RX0 yX0_stands wsX0_stands) := goodIn_app (goodIn_of _ (by decide +kernel)) ggX4_strike_X0_stands
set_option maxRecDepth 20000 in
theorem ggX4_strike_X0_monthOf : GoodIn wsX4_strike wsX0_monthOf := goodIn_r _ [18, 19, 10, 11, 12, 7, 13, 14, 205, 206, 207, 208, 209, 210] (by decide +kernel) (by decide +kernel)
set_option maxRecDepth 20000 in
theorem gX4_strike_X0_monthOf : GoodIn wsX4_strike (wsV RX4 111 RX0 yX0_monthOf wsX0_monthOf) := goodIn_app (goodIn_of _ (by decide +kernel)) ggX4_strike_X0_monthOf
set_option maxRecDepth 20000 in
theorem ggX4_strike_X0_cross : GoodIn wsX4_strike wsX0_cross := goodIn_r _ [23, 9, 10, 11, 12, 7, 13, 14, 205, 206, 207, 208, 209, 210] (by decide +kernel) (by decide +kernel)
set_option maxRecDepth 20000 in
theorem gX4_strike_X0_cross : GoodIn wsX4_strike (wsV RX4 115 RX0 yX0_cross wsX0_cross) := goodIn_app (goodIn_of _ (by decide +kernel)) ggX4_strike_X0_cross
set_option maxRecDepth 20000 in
theorem ggX4_strike_X4_workOutFrom : GoodIn wsX4_strike wsX4_workOutFrom := goodIn_r _ [28, 29, 30, 31, 32, 33, 34, 35, 36, 37, 38, 39, 40, 41, 42, 43, 44, 45, 46, 47, 48, 49, 50, 51, 52, 53, 54, 55, 56, 57, 27, 58, 3, 59, 60, 61, 62, 7, 63, 19, 64, 5, 6, 8, 9, 10, 11, 12, 13, 14, 65, 66, 67, 68, 69, 70, 15, 16, 17, 18, 71, 72, 73, 74, 75, 76, 77, 78, 79, 80, 81, 82, 83, 84, 85, 86, 87, 88, 89, 90, 91, 92, 93, 94, 95, 96, 97, 98, 99, 100, 101, 102, 103, 104, 105, 106, 107, 108, 109, 110, 111, 112, 113, 114, 115, 116, 117, 118, 119, 120, 121, 122, 123, 124, 125, 126, 127, 128, 129, 130, 131, 132, 133, 134, 135, 136, 137, 138, 139, 140, 141, 142, 143, 144, 145, 146, 147, 148, 149, 150, 151, 152, 153, 154, 155, 156, 157, 158, 159, 160, 161, 162, 163, 164, 165, 166, 167, 168, 169, 170, 171, 172, 173, 174, 175, 176, 177, 178, 179, 180, 181, 182, 183, 184, 185, 186, 187, 188, 189, 190, 191, 192, 193, 194, 195, 196, 197, 198, 199, 200, 201, 202, 203, 204, 211, 212, 213, 214, 215, 216, 217, 218, 219, 220, 221, 222, 223, 224, 205, 206, 207, 208, 209, 210, 225, 226, 227] (by decide +kernel) (by decide +kernel)
set_option maxRecDepth 20000 in
theorem gX4_strike_X4_workOutFrom : GoodIn wsX4_strike (wsV RX4 95 RX4 yX4_workOutFrom wsX4_workOutFrom) := goodIn_app (goodIn_of _ (by decide +kernel)) ggX4_strike_X4_workOutFrom
set_option maxRecDepth 20000 in
theorem ggX4_isDone_X0_stands : GoodIn wsX4_isDone wsX0_stands := goodIn_r _ [8, 9, 10, 11, 12, 7, 13, 14, 26, 27, 28, 29, 30, 31] (by decide +kernel) (by decide +kernel)
set_option maxRecDepth 20000 in
theorem gX4_isDone_X0_stands : GoodIn wsX4_isDone (wsV RX4 103 RX0 yX0_stands wsX0_stands) := goodIn_app (goodIn_of _ (by decide +kernel)) ggX4_isDone_X0_stands
set_option maxRecDepth 20000 in
theorem ggX4_isDone_X0_wasDone : GoodIn wsX4_isDone wsX0_wasDone := goodIn_r _ [18, 19, 10, 11, 12, 7, 13, 14, 26, 27, 28, 29, 30, 31] (by decide +kernel) (by decide +kernel)
set_option maxRecDepth 20000 in
theorem gX4_isDone_X0_wasDone : GoodIn wsX4_isDone (wsV RX4 99 RX0 yX0_wasDone wsX0_wasDone) := goodIn_app (goodIn_of _ (by decide +kernel)) ggX4_isDone_X0_wasDone
set_option maxRecDepth 20000 in
theorem ggX4_close_X4_endMonth : GoodIn wsX4_close wsX4_endMonth := goodIn_r _ [12, 13, 14, 15, 16, 17, 18, 19, 20, 21, 22, 23, 24, 25, 26, 27, 28, 29, 30, 31, 32, 33, 34, 35, 36, 37, 38, 39, 40, 41, 42, 43, 44, 45, 46, 47, 48, 49, 50, 51, 52, 53, 54, 55, 56, 57, 58, 59, 60, 61, 62, 63, 64, 65, 66, 67, 68, 69, 70, 71, 72, 73, 74, 75, 76, 77, 78, 79, 80, 81, 82, 83, 84, 85, 86, 87, 88, 89, 90, 91, 92, 116, 117, 118, 119, 120, 121, 122, 123, 124, 125, 126, 127, 128, 129, 130, 131] (by decide +kernel) (by decide +kernel)
set_option maxRecDepth 20000 in
theorem gX4_close_X4_endMonth : GoodIn wsX4_close (wsV RX4 125 RX4 yX4_endMonth wsX4_endMonth) := goodIn_app (goodIn_of _ (by decide +kernel)) ggX4_close_X4_endMonth
set_option maxRecDepth 20000 in
theorem ggX4_close_X1_keep : GoodIn wsX4_close wsX1_keep := goodIn_r _ [97, 98, 99, 100, 101, 102, 103, 104, 105, 106, 107, 108, 109, 110, 111, 112, 113, 114, 96, 115, 132, 133, 134, 135, 136, 137, 138, 122, 123, 124, 125, 126, 127, 128] (by decide +kernel) (by decide +kernel)
set_option maxRecDepth 20000 in
theorem gX4_close_X1_keep : GoodIn wsX4_close (wsV RX4 129 RX1 yX1_keep wsX1_keep) := goodIn_app (goodIn_of _ (by decide +kernel)) ggX4_close_X1_keep
set_option maxRecDepth 20000 in
theorem ggX4_deathSum_X3_isLive : GoodIn wsX4_deathSum wsX3_isLive := goodIn_r _ [9, 10, 38, 39, 40, 41, 42, 43, 44] (by decide +kernel) (by decide +kernel)
set_option maxRecDepth 20000 in
theorem gX4_deathSum_X3_isLive : GoodIn wsX4_deathSum (wsV RX4 144 RX3 yX3_isLive wsX3_isLive) := goodIn_app (goodIn_of _ (by decide +kernel)) ggX4_deathSum_X3_isLive
set_option maxRecDepth 20000 in
theorem ggX4_deathSum_X2_deathSumFor : GoodIn wsX4_deathSum wsX2_deathSumFor := goodIn_r _ [15, 16, 17, 18, 19, 20, 21, 22, 23, 24, 25, 14, 26, 27, 28, 29, 30, 31, 45, 46, 47] (by decide +kernel) (by decide +kernel)
set_option maxRecDepth 20000 in
theorem gX4_deathSum_X2_deathSumFor : GoodIn wsX4_deathSum (wsV RX4 147 RX2 yX2_deathSumFor wsX2_deathSumFor) := goodIn_app (goodIn_of _ (by decide +kernel)) ggX4_deathSum_X2_deathSumFor
set_option maxRecDepth 20000 in
theorem ggX4_charge_X3_isLive : GoodIn wsX4_charge wsX3_isLive := goodIn_r _ [9, 10, 51, 52, 53, 54, 55, 56, 57] (by decide +kernel) (by decide +kernel)
set_option maxRecDepth 20000 in
theorem gX4_charge_X3_isLive : GoodIn wsX4_charge (wsV RX4 144 RX3 yX3_isLive wsX3_isLive) := goodIn_app (goodIn_of _ (by decide +kernel)) ggX4_charge_X3_isLive
set_option maxRecDepth 20000 in
theorem ggX4_charge_X2_chargeFor : GoodIn wsX4_charge wsX2_chargeFor := goodIn_r _ [15, 16, 17, 18, 19, 20, 21, 22, 23, 24, 14, 25, 26, 27, 28, 29, 30, 31, 32, 33, 34, 35, 36, 37, 38, 39, 40, 41, 42, 43, 44, 58, 59, 60] (by decide +kernel) (by decide +kernel)
set_option maxRecDepth 20000 in
theorem gX4_charge_X2_chargeFor : GoodIn wsX4_charge (wsV RX4 154 RX2 yX2_chargeFor wsX2_chargeFor) := goodIn_app (goodIn_of _ (by decide +kernel)) ggX4_charge_X2_chargeFor
set_option maxRecDepth 20000 in
theorem ggX4_corridor_X2_corridorFor : GoodIn wsX4_corridor wsX2_corridorFor := goodIn_r _ [8] (by decide +kernel) (by decide +kernel)
set_option maxRecDepth 20000 in
theorem gX4_corridor_X2_corridorFor : GoodIn wsX4_corridor (wsV RX4 162 RX2 yX2_corridorFor wsX2_corridorFor) := goodIn_app (goodIn_of _ (by decide +kernel)) ggX4_corridor_X2_corridorFor
set_option maxRecDepth 20000 in
theorem ggX4_accountAt_X1_recall : GoodIn wsX4_accountAt wsX1_recall := goodIn_r _ [11, 12, 13, 14, 15, 16, 17, 18, 19, 20, 21, 22, 23, 24, 25, 26, 27, 28, 10, 29, 43, 44, 45, 46, 47, 48, 49, 36, 37, 38, 39, 40, 41, 42] (by decide +kernel) (by decide +kernel)
set_option maxRecDepth 20000 in
theorem gX4_accountAt_X1_recall : GoodIn wsX4_accountAt (wsV RX4 165 RX1 yX1_recall wsX1_recall) := goodIn_app (goodIn_of _ (by decide +kernel)) ggX4_accountAt_X1_recall
set_option maxRecDepth 20000 in
theorem ggX4_accountFromStart_X3_startFresh : GoodIn wsX4_accountFromStart wsX3_startFresh := goodIn_r _ [10, 11, 12, 13, 14, 15, 16, 17, 167, 168, 169, 170, 171, 172, 173] (by decide +kernel) (by decide +kernel)
set_option maxRecDepth 20000 in
theorem gX4_accountFromStart_X3_startFresh : GoodIn wsX4_accountFromStart (wsV RX4 64 RX3 yX3_startFresh wsX3_startFresh) := goodIn_app (goodIn_of _ (by decide +kernel)) ggX4_accountFromStart_X3_startFresh
set_option maxRecDepth 20000 in
theorem ggX4_accountFromStart_X4_performAll : GoodIn wsX4_accountFromStart wsX4_performAll := goodIn_r _ [22, 23, 24, 25, 26, 27, 28, 29, 30, 31, 32, 33, 34, 35, 36, 37, 38, 39, 40, 41, 42, 43, 21, 44, 45, 5, 46, 47, 48, 49, 50, 51, 52, 53, 54, 55, 56, 57, 58, 59, 60, 61, 62, 9, 63, 14, 64, 65, 66, 67, 12, 68, 69, 70, 71, 11, 72, 73, 74, 75, 15, 76, 77, 78, 79, 13, 80, 81, 82, 83, 84, 85, 86, 87, 88, 89, 90, 91, 92, 93, 94, 95, 96, 97, 98, 16, 99, 100, 101, 102, 103, 104, 105, 106, 107, 108, 109, 110, 111, 112, 113, 114, 115, 116, 117, 118, 119, 120, 121, 122, 17, 161, 162, 163, 164, 165, 166, 174, 175, 176, 177, 178, 179, 167, 168, 169, 170, 171, 172, 173, 180, 181, 182] (by decide +kernel) (by decide +kernel)
set_option maxRecDepth 20000 in
theorem gX4_accountFromStart_X4_performAll : GoodIn wsX4_accountFromStart (wsV RX4 168 RX4 yX4_performAll wsX4_performAll) := goodIn_app (goodIn_of _ (by decide +kernel)) ggX4_accountFromStart_X4_performAll
set_option maxRecDepth 20000 in
theorem ggX4_accountFromStart_X4_endMonth : GoodIn wsX4_accountFromStart wsX4_endMonth := goodIn_r _ [126, 45, 5, 127, 69, 70, 9, 71, 11, 128, 129, 130, 102, 131, 132, 85, 66, 86, 133, 134, 135, 100, 101, 103, 104, 105, 106, 107, 108, 109, 110, 111, 112, 113, 114, 115, 116, 117, 118, 136, 137, 138, 139, 140, 141, 142, 143, 14, 12, 15, 80, 81, 82, 83, 13, 84, 72, 73, 74, 75, 144, 145, 146, 147, 16, 148, 149, 150, 151, 64, 65, 67, 152, 153, 154, 155, 156, 157, 158, 159, 160, 161, 162, 163, 164, 165, 166, 167, 168, 169, 170, 171, 172, 173, 180, 181, 182] (by decide +kernel) (by decide +kernel)
set_option maxRecDepth 20000 in
theorem gX4_accountFromStart_X4_endMonth : GoodIn wsX4_accountFromStart (wsV RX4 125 RX4 yX4_endMonth wsX4_endMonth) := goodIn_app (goodIn_of _ (by decide +kernel)) ggX4_accountFromStart_X4_endMonth
set_option maxRecDepth 20000 in
theorem ggX4_stateAt_X1_recall : GoodIn wsX4_stateAt wsX1_recall := goodIn_r _ [11, 12, 13, 14, 15, 16, 17, 18, 19, 20, 21, 22, 23, 24, 25, 26, 27, 28, 10, 29, 43, 44, 45, 46, 47, 48, 49, 36, 37, 38, 39, 40, 41, 42] (by decide +kernel) (by decide +kernel)
set_option maxRecDepth 20000 in
theorem gX4_stateAt_X1_recall : GoodIn wsX4_stateAt (wsV RX4 165 RX1 yX1_recall wsX1_recall) := goodIn_app (goodIn_of _ (by decide +kernel)) ggX4_stateAt_X1_recall
set_option maxRecDepth 20000 in
theorem ggX4_wouldLapse_X3_isLive : GoodIn wsX4_wouldLapse wsX3_isLive := goodIn_r _ [8, 9, 112, 113, 114, 115, 116, 117, 118] (by decide +kernel) (by decide +kernel)
set_option maxRecDepth 20000 in
theorem gX4_wouldLapse_X3_isLive : GoodIn wsX4_wouldLapse (wsV RX4 144 RX3 yX3_isLive wsX3_isLive) := goodIn_app (goodIn_of _ (by decide +kernel)) ggX4_wouldLapse_X3_isLive
set_option maxRecDepth 20000 in
theorem ggX4_wouldLapse_X4_firstLapsed : GoodIn wsX4_wouldLapse wsX4_firstLapsed := goodIn_r _ [14, 15, 3, 16, 17, 18, 19, 20, 7, 21, 9, 22, 23, 24, 25, 26, 27, 28, 29, 30, 31, 32, 33, 34, 35, 36, 5, 6, 8, 37, 38, 39, 40, 41, 42, 43, 13, 44, 45, 46, 4, 47, 48, 49, 50, 51, 52, 53, 54, 55, 56, 57, 58, 59, 60, 61, 62, 63, 64, 65, 66, 67, 68, 69, 70, 71, 72, 73, 74, 75, 76, 77, 78, 79, 80, 81, 82, 83, 84, 85, 86, 87, 88, 89, 90, 91, 92, 93, 94, 95, 96, 97, 98, 99, 100, 101, 102, 103, 104, 105, 106, 107, 108, 109, 110, 111, 112, 113, 114, 115, 116, 117, 118, 119, 120, 121] (by decide +kernel) (by decide +kernel)
set_option maxRecDepth 20000 in
theorem gX4_wouldLapse_X4_firstLapsed : GoodIn wsX4_wouldLapse (wsV RX4 173 RX4 yX4_firstLapsed wsX4_firstLapsed) := goodIn_app (goodIn_of _ (by decide +kernel)) ggX4_wouldLapse_X4_firstLapsed
set_option maxRecDepth 20000 in
theorem ggX4_needed_X3_isLive : GoodIn wsX4_needed wsX3_isLive := goodIn_r _ [9, 10, 117, 118, 119, 120, 121, 122, 123] (by decide +kernel) (by decide +kernel)
set_option maxRecDepth 20000 in
theorem gX4_needed_X3_isLive : GoodIn wsX4_needed (wsV RX4 144 RX3 yX3_isLive wsX3_isLive) := goodIn_app (goodIn_of _ (by decide +kernel)) ggX4_needed_X3_isLive
set_option maxRecDepth 20000 in
theorem ggX4_needed_X4_firstLapsed : GoodIn wsX4_needed wsX4_firstLapsed := goodIn_r _ [15, 16, 3, 17, 18, 19, 20, 21, 8, 22, 10, 23, 24, 25, 26, 27, 28, 29, 30, 31, 32, 33, 34, 35, 36, 37, 6, 7, 9, 38, 39, 40, 41, 42, 43, 44, 14, 45, 46, 47, 5, 48, 49, 50, 51, 52, 53, 54, 55, 56, 57, 58, 59, 60, 61, 62, 63, 64, 65, 66, 67, 68, 69, 70, 71, 72, 73, 74, 75, 76, 77, 78, 79, 80, 81, 82, 83, 84, 85, 86, 87, 88, 89, 90, 91, 92, 93, 94, 95, 96, 97, 98, 99, 100, 101, 102, 103, 104, 105, 106, 111, 112, 113, 114, 115, 116, 117, 118, 119, 120, 121, 122, 123, 124, 125, 126] (by decide +kernel) (by decide +kernel)
set_option maxRecDepth 20000 in
theorem gX4_needed_X4_firstLapsed : GoodIn wsX4_needed (wsV RX4 173 RX4 yX4_firstLapsed wsX4_firstLapsed) := goodIn_app (goodIn_of _ (by decide +kernel)) ggX4_needed_X4_firstLapsed
set_option maxRecDepth 20000 in
theorem ggX4_needed_X4_leastPremium : GoodIn wsX4_needed wsX4_leastPremium := goodIn_r _ [110, 4, 11, 12, 13, 14, 15, 16, 3, 17, 18, 19, 20, 21, 8, 22, 10, 23, 24, 25, 26, 27, 28, 29, 30, 31, 32, 33, 34, 35, 36, 37, 6, 7, 9, 38, 39, 40, 41, 42, 43, 44, 45, 46, 47, 5, 48, 49, 50, 51, 52, 53, 54, 55, 56, 57, 58, 59, 60, 61, 62, 63, 64, 65, 66, 67, 68, 69, 70, 71, 72, 73, 74, 75, 76, 77, 78, 79, 80, 81, 82, 83, 84, 85, 86, 87, 88, 89, 90, 91, 92, 93, 94, 95, 96, 97, 98, 99, 100, 101, 102, 103, 104, 105, 106, 111, 112, 113, 114, 115, 116, 117, 118, 119, 120, 121, 122, 123, 124, 125, 126] (by decide +kernel) (by decide +kernel)
set_option maxRecDepth 20000 in
theorem gX4_needed_X4_leastPremium : GoodIn wsX4_needed (wsV RX4 178 RX4 yX4_leastPremium wsX4_leastPremium) := goodIn_app (goodIn_of _ (by decide +kernel)) ggX4_needed_X4_leastPremium
set_option maxRecDepth 20000 in
theorem ggX4_leastPremium_X4_firstLapsed : GoodIn wsX4_leastPremium wsX4_firstLapsed := goodIn_r _ [6, 7, 8, 9, 10, 11, 12, 13, 14, 15, 16, 17, 18, 19, 20, 21, 22, 23, 24, 25, 26, 27, 28, 29, 30, 31, 32, 33, 34, 35, 36, 37, 38, 39, 40, 41, 5, 42, 43, 44, 45, 46, 47, 48, 49, 50, 51, 52, 53, 54, 55, 56, 57, 58, 59, 60, 61, 62, 63, 64, 65, 66, 67, 68, 69, 70, 71, 72, 73, 74, 75, 76, 77, 78, 79, 80, 81, 82, 83, 84, 85, 86, 87, 88, 89, 90, 91, 92, 93, 94, 95, 96, 97, 98, 99, 100, 101, 102, 103, 104, 105, 106, 107, 108, 109, 110, 111, 112, 113, 114, 115, 116, 117, 118, 119, 120] (by decide +kernel) (by decide +kernel)
set_option maxRecDepth 20000 in
theorem gX4_leastPremium_X4_firstLapsed : GoodIn wsX4_leastPremium (wsV RX4 173 RX4 yX4_firstLapsed wsX4_firstLapsed) := goodIn_app (goodIn_of _ (by decide +kernel)) ggX4_leastPremium_X4_firstLapsed
set_option maxRecDepth 20000 in
theorem ggX4_firstLapsed_X3_copy : GoodIn wsX4_firstLapsed wsX3_copy := goodIn_r _ [9, 10, 11, 12, 13, 14, 15, 16, 106, 107, 108, 109, 110, 111, 112] (by decide +kernel) (by decide +kernel)
set_option maxRecDepth 20000 in
theorem gX4_firstLapsed_X3_copy : GoodIn wsX4_firstLapsed (wsV RX4 181 RX3 yX3_copy wsX3_copy) := goodIn_app (goodIn_of _ (by decide +kernel)) ggX4_firstLapsed_X3_copy
set_option maxRecDepth 20000 in
theorem ggX4_firstLapsed_X3_takePremium : GoodIn wsX4_firstLapsed wsX3_takePremium := goodIn_r _ [20, 13, 21, 22, 23, 24, 11, 25, 26, 27, 8, 28, 10, 29, 30, 31, 32, 14, 106, 107, 108, 109, 110, 111, 112] (by decide +kernel) (by decide +kernel)
set_option maxRecDepth 20000 in
theorem gX4_firstLapsed_X3_takePremium : GoodIn wsX4_firstLapsed (wsV RX4 185 RX3 yX3_takePremium wsX3_takePremium) := goodIn_app (goodIn_of _ (by decide +kernel)) ggX4_firstLapsed_X3_takePremium
set_option maxRecDepth 20000 in
theorem ggX4_firstLapsed_X4_endMonth : GoodIn wsX4_firstLapsed wsX4_endMonth := goodIn_r _ [37, 38, 39, 40, 26, 27, 8, 28, 10, 41, 42, 43, 44, 45, 46, 47, 23, 48, 49, 50, 51, 52, 53, 54, 55, 56, 57, 58, 59, 60, 61, 62, 63, 64, 65, 66, 67, 68, 69, 70, 71, 72, 73, 74, 75, 76, 77, 13, 11, 14, 78, 79, 80, 81, 12, 82, 29, 30, 31, 32, 83, 84, 85, 86, 15, 87, 88, 89, 90, 21, 22, 24, 91, 92, 93, 94, 95, 96, 97, 98, 99, 100, 101, 102, 103, 104, 105, 106, 107, 108, 109, 110, 111, 112, 113, 114, 115] (by decide +kernel) (by decide +kernel)
set_option maxRecDepth 20000 in
theorem gX4_firstLapsed_X4_endMonth : GoodIn wsX4_firstLapsed (wsV RX4 125 RX4 yX4_endMonth wsX4_endMonth) := goodIn_app (goodIn_of _ (by decide +kernel)) ggX4_firstLapsed_X4_endMonth
set_option maxRecDepth 20000 in
theorem ggX4_workOutFrom_X1_recall : GoodIn wsX4_workOutFrom wsX1_recall := goodIn_r _ [8, 9, 10, 11, 12, 13, 14, 15, 16, 17, 18, 19, 20, 21, 22, 23, 24, 25, 7, 26, 194, 195, 196, 197, 198, 199, 200, 201, 202, 203, 204, 205, 206, 207] (by decide +kernel) (by decide +kernel)
set_option maxRecDepth 20000 in
theorem gX4_workOutFrom_X1_recall : GoodIn wsX4_workOutFrom (wsV RX4 165 RX1 yX1_recall wsX1_recall) := goodIn_app (goodIn_of _ (by decide +kernel)) ggX4_workOutFrom_X1_recall
set_option maxRecDepth 20000 in
theorem ggX4_workOutFrom_X4_performAndNote : GoodIn wsX4_workOutFrom wsX4_performAndNote := goodIn_r _ [31, 32, 33, 2, 34, 35, 36, 37, 38, 39, 40, 41, 42, 43, 44, 45, 46, 47, 48, 49, 50, 51, 52, 30, 53, 54, 55, 56, 57, 58, 59, 60, 61, 62, 63, 64, 65, 66, 67, 68, 69, 70, 71, 72, 73, 74, 75, 76, 77, 78, 79, 80, 81, 82, 83, 84, 85, 86, 87, 88, 89, 90, 91, 92, 93, 94, 95, 96, 97, 98, 99, 100, 101, 102, 103, 104, 105, 106, 107, 108, 109, 110, 111, 112, 113, 114, 115, 116, 117, 118, 119, 120, 121, 122, 123, 124, 125, 126, 127, 128, 129, 130, 131, 132, 133, 134, 135, 136, 137, 138, 139, 140, 141, 142, 143, 144, 145, 188, 189, 190, 191, 192, 193, 208, 209, 210, 211, 212, 213, 201, 202, 203, 204, 205, 206, 207, 214, 215, 216] (by decide +kernel) (by decide +kernel)
set_option maxRecDepth 20000 in
theorem gX4_workOutFrom_X4_performAndNote : GoodIn wsX4_workOutFrom (wsV RX4 188 RX4 yX4_performAndNote wsX4_performAndNote) := goodIn_app (goodIn_of _ (by decide +kernel)) ggX4_workOutFrom_X4_performAndNote
set_option maxRecDepth 20000 in
theorem ggX4_workOutFrom_X4_endMonth : GoodIn wsX4_workOutFrom wsX4_endMonth := goodIn_r _ [149, 54, 55, 150, 82, 83, 73, 84, 85, 151, 152, 153, 119, 154, 155, 101, 78, 102, 156, 157, 158, 117, 118, 120, 121, 122, 123, 124, 125, 126, 127, 128, 129, 130, 131, 132, 133, 134, 135, 159, 160, 161, 162, 163, 164, 165, 166, 75, 80, 90, 96, 97, 98, 99, 95, 100, 86, 87, 88, 89, 167, 168, 169, 170, 115, 171, 172, 173, 174, 76, 77, 79, 175, 176, 177, 178, 179, 180, 181, 182, 183, 188, 189, 190, 191, 192, 193, 201, 202, 203, 204, 205, 206, 207, 214, 215, 216] (by decide +kernel) (by decide +kernel)
set_option maxRecDepth 20000 in
theorem gX4_workOutFrom_X4_endMonth : GoodIn wsX4_workOutFrom (wsV RX4 125 RX4 yX4_endMonth wsX4_endMonth) := goodIn_app (goodIn_of _ (by decide +kernel)) ggX4_workOutFrom_X4_endMonth
set_option maxRecDepth 20000 in
theorem ggX4_workOutFrom_X1_keep : GoodIn wsX4_workOutFrom wsX1_keep := goodIn_r _ [187, 9, 10, 11, 12, 13, 14, 15, 16, 17, 18, 19, 20, 21, 22, 23, 24, 25, 7, 26, 194, 195, 196, 197, 198, 199, 200, 201, 202, 203, 204, 205, 206, 207] (by decide +kernel) (by decide +kernel)
set_option maxRecDepth 20000 in
theorem gX4_workOutFrom_X1_keep : GoodIn wsX4_workOutFrom (wsV RX4 129 RX1 yX1_keep wsX1_keep) := goodIn_app (goodIn_of _ (by decide +kernel)) ggX4_workOutFrom_X1_keep
set_option maxRecDepth 20000 in
theorem ggX4_performAndNote_X0_standsIn : GoodIn wsX4_performAndNote wsX0_standsIn := goodIn_r _ [8, 9, 10, 11, 12, 7, 13, 14, 15, 16, 17, 18, 19, 123, 124, 125, 126, 127, 128] (by decide +kernel) (by decide +kernel)
set_option maxRecDepth 20000 in
theorem gX4_performAndNote_X0_standsIn : GoodIn wsX4_performAndNote (wsV RX4 191 RX0 yX0_standsIn wsX0_standsIn) := goodIn_app (goodIn_of _ (by decide +kernel)) ggX4_performAndNote_X0_standsIn
set_option maxRecDepth 20000 in
theorem ggX4_performAndNote_X4_perform : GoodIn wsX4_performAndNote wsX4_perform := goodIn_r _ [24, 1, 25, 26, 27, 28, 29, 7, 30, 9, 15, 16, 17, 18, 19, 31, 32, 33, 34, 35, 36, 37, 38, 39, 40, 41, 42, 43, 44, 45, 46, 47, 48, 49, 50, 51, 52, 53, 54, 55, 56, 57, 58, 59, 60, 61, 62, 63, 64, 65, 66, 67, 68, 69, 70, 71, 72, 73, 74, 75, 76, 77, 78, 79, 80, 81, 82, 83, 84, 85, 86, 87, 88, 89, 90, 91, 92, 93, 94, 95, 96, 97, 98, 99, 100, 101, 102, 103, 104, 105, 106, 107, 108, 109, 110, 111, 117, 118, 119, 120, 121, 122, 129, 130, 131, 132, 133, 134, 135, 123, 124, 125, 126, 127, 128, 136, 137, 138] (by decide +kernel) (by decide +kernel)
set_option maxRecDepth 20000 in
theorem gX4_performAndNote_X4_perform : GoodIn wsX4_performAndNote (wsV RX4 87 RX4 yX4_perform wsX4_perform) := goodIn_app (goodIn_of _ (by decide +kernel)) ggX4_performAndNote_X4_perform
set_option maxRecDepth 20000 in
theorem ggX4_performAndNote_X0_noteDone : GoodIn wsX4_performAndNote wsX0_noteDone := goodIn_r _ [115, 116, 15, 16, 17, 7, 18, 19, 123, 124, 125, 126, 127, 128] (by decide +kernel) (by decide +kernel)
set_option maxRecDepth 20000 in
theorem gX4_performAndNote_X0_noteDone : GoodIn wsX4_performAndNote (wsV RX4 91 RX0 yX0_noteDone wsX0_noteDone) := goodIn_app (goodIn_of _ (by decide +kernel)) ggX4_performAndNote_X0_noteDone
set_option maxRecDepth 20000 in
theorem ggX4_performAll_X0_standsIn : GoodIn wsX4_performAll wsX0_standsIn := goodIn_r _ [7, 8, 9, 10, 11, 6, 12, 13, 14, 15, 16, 17, 18, 117, 118, 119, 120, 121, 122] (by decide +kernel) (by decide +kernel)
set_option maxRecDepth 20000 in
theorem gX4_performAll_X0_standsIn : GoodIn wsX4_performAll (wsV RX4 191 RX0 yX0_standsIn wsX0_standsIn) := goodIn_app (goodIn_of _ (by decide +kernel)) ggX4_performAll_X0_standsIn
set_option maxRecDepth 20000 in
theorem ggX4_performAll_X4_perform : GoodIn wsX4_performAll wsX4_perform := goodIn_r _ [23, 1, 24, 25, 26, 27, 28, 6, 29, 8, 14, 15, 16, 17, 18, 30, 31, 32, 33, 34, 35, 36, 37, 38, 39, 40, 41, 42, 43, 44, 45, 46, 47, 48, 49, 50, 51, 52, 53, 54, 55, 56, 57, 58, 59, 60, 61, 62, 63, 64, 65, 66, 67, 68, 69, 70, 71, 72, 73, 74, 75, 76, 77, 78, 79, 80, 81, 82, 83, 84, 85, 86, 87, 88, 89, 90, 91, 92, 93, 94, 95, 96, 97, 98, 99, 100, 101, 102, 103, 104, 105, 106, 107, 108, 109, 110, 111, 112, 113, 114, 115, 116, 123, 124, 125, 126, 127, 128, 129, 117, 118, 119, 120, 121, 122, 130, 131, 132] (by decide +kernel) (by decide +kernel)
set_option maxRecDepth 20000 in
theorem gX4_performAll_X4_perform : GoodIn wsX4_performAll (wsV RX4 87 RX4 yX4_perform wsX4_perform) := goodIn_app (goodIn_of _ (by decide +kernel)) ggX4_performAll_X4_perform
set_option maxRecDepth 20000 in
theorem ggX4_perform_X0_monthOf : GoodIn wsX4_perform wsX0_monthOf := goodIn_r _ [8, 9, 10, 11, 12, 7, 13, 14, 109, 110, 111, 112, 113, 114] (by decide +kernel) (by decide +kernel)
set_option maxRecDepth 20000 in
theorem gX4_perform_X0_monthOf : GoodIn wsX4_perform (wsV RX4 111 RX0 yX0_monthOf wsX0_monthOf) := goodIn_app (goodIn_of _ (by decide +kernel)) ggX4_perform_X0_monthOf
set_option maxRecDepth 20000 in
theorem ggX4_perform_X0_amountOf : GoodIn wsX4_perform wsX0_amountOf := goodIn_r _ [18, 19, 10, 11, 12, 7, 13, 14, 109, 110, 111, 112, 113, 114] (by decide +kernel) (by decide +kernel)
set_option maxRecDepth 20000 in
theorem gX4_perform_X0_amountOf : GoodIn wsX4_perform (wsV RX4 195 RX0 yX0_amountOf wsX0_amountOf) := goodIn_app (goodIn_of _ (by decide +kernel)) ggX4_perform_X0_amountOf
set_option maxRecDepth 20000 in
theorem ggX4_perform_X0_kindOf : GoodIn wsX4_perform wsX0_kindOf := goodIn_r _ [23, 24, 10, 11, 12, 7, 13, 14, 109, 110, 111, 112, 113, 114] (by decide +kernel) (by decide +kernel)
set_option maxRecDepth 20000 in
theorem gX4_perform_X0_kindOf : GoodIn wsX4_perform (wsV RX4 198 RX0 yX0_kindOf wsX0_kindOf) := goodIn_app (goodIn_of _ (by decide +kernel)) ggX4_perform_X0_kindOf
set_option maxRecDepth 20000 in
theorem ggX4_perform_X3_takePremium : GoodIn wsX4_perform wsX3_takePremium := goodIn_r _ [29, 30, 31, 32, 33, 34, 35, 36, 37, 38, 28, 39, 40, 41, 42, 43, 44, 45, 102, 103, 104, 105, 106, 107, 108] (by decide +kernel) (by decide +kernel)
set_option maxRecDepth 20000 in
theorem gX4_perform_X3_takePremium : GoodIn wsX4_perform (wsV RX4 185 RX3 yX3_takePremium wsX3_takePremium) := goodIn_app (goodIn_of _ (by decide +kernel)) ggX4_perform_X3_takePremium
set_option maxRecDepth 20000 in
theorem ggX4_perform_X3_lend : GoodIn wsX4_perform wsX3_lend := goodIn_r _ [49, 40, 50, 51, 52, 53, 28, 54, 35, 55, 56, 33, 57, 102, 103, 104, 105, 106, 107, 108] (by decide +kernel) (by decide +kernel)
set_option maxRecDepth 20000 in
theorem gX4_perform_X3_lend : GoodIn wsX4_perform (wsV RX4 201 RX3 yX3_lend wsX3_lend) := goodIn_app (goodIn_of _ (by decide +kernel)) ggX4_perform_X3_lend
set_option maxRecDepth 20000 in
theorem ggX4_perform_X3_repay : GoodIn wsX4_perform wsX3_repay := goodIn_r _ [61, 50, 36, 37, 38, 28, 39, 40, 102, 103, 104, 105, 106, 107, 108] (by decide +kernel) (by decide +kernel)
set_option maxRecDepth 20000 in
theorem gX4_perform_X3_repay : GoodIn wsX4_perform (wsV RX4 204 RX3 yX3_repay wsX3_repay) := goodIn_app (goodIn_of _ (by decide +kernel)) ggX4_perform_X3_repay
set_option maxRecDepth 20000 in
theorem ggX4_perform_X3_withdraw : GoodIn wsX4_perform wsX3_withdraw := goodIn_r _ [65, 40, 35, 51, 52, 53, 28, 54, 50, 55, 56, 33, 57, 102, 103, 104, 105, 106, 107, 108] (by decide +kernel) (by decide +kernel)
set_option maxRecDepth 20000 in
theorem gX4_perform_X3_withdraw : GoodIn wsX4_perform (wsV RX4 207 RX3 yX3_withdraw wsX3_withdraw) := goodIn_app (goodIn_of _ (by decide +kernel)) ggX4_perform_X3_withdraw
set_option maxRecDepth 20000 in
theorem ggX4_perform_X3_revive : GoodIn wsX4_perform wsX3_revive := goodIn_r _ [69, 40, 70, 30, 35, 41, 42, 43, 28, 44, 45, 102, 103, 104, 105, 106, 107, 108] (by decide +kernel) (by decide +kernel)
set_option maxRecDepth 20000 in
theorem gX4_perform_X3_revive : GoodIn wsX4_perform (wsV RX4 210 RX3 yX3_revive wsX3_revive) := goodIn_app (goodIn_of _ (by decide +kernel)) ggX4_perform_X3_revive
set_option maxRecDepth 20000 in
theorem ggX4_perform_X2_deathSumFor : GoodIn wsX4_perform wsX2_deathSumFor := goodIn_r _ [75, 76, 77, 78, 79, 80, 33, 81, 82, 83, 84, 74, 85, 86, 87, 88, 89, 90, 115, 116, 117] (by decide +kernel) (by decide +kernel)
set_option maxRecDepth 20000 in
theorem gX4_perform_X2_deathSumFor : GoodIn wsX4_perform (wsV RX4 147 RX2 yX2_deathSumFor wsX2_deathSumFor) := goodIn_app (goodIn_of _ (by decide +kernel)) ggX4_perform_X2_deathSumFor
set_option maxRecDepth 20000 in
theorem ggX4_perform_X3_die : GoodIn wsX4_perform wsX3_die := goodIn_r _ [94, 50, 55, 56, 33, 57, 95, 40, 45, 36, 37, 38, 28, 39, 102, 103, 104, 105, 106, 107, 108] (by decide +kernel) (by decide +kernel)
set_option maxRecDepth 20000 in
theorem gX4_perform_X3_die : GoodIn wsX4_perform (wsV RX4 213 RX3 yX3_die wsX3_die) := goodIn_app (goodIn_of _ (by decide +kernel)) ggX4_perform_X3_die
set_option maxRecDepth 20000 in
theorem ggX4_endMonth_X3_isLive : GoodIn wsX4_endMonth wsX3_isLive := goodIn_r _ [7, 8, 87, 88, 89, 90, 91, 92, 93] (by decide +kernel) (by decide +kernel)
set_option maxRecDepth 20000 in
theorem gX4_endMonth_X3_isLive : GoodIn wsX4_endMonth (wsV RX4 144 RX3 yX3_isLive wsX3_isLive) := goodIn_app (goodIn_of _ (by decide +kernel)) ggX4_endMonth_X3_isLive
set_option maxRecDepth 20000 in
theorem ggX4_endMonth_X2_chargeFor : GoodIn wsX4_endMonth wsX2_chargeFor := goodIn_r _ [13, 14, 15, 16, 17, 18, 19, 20, 21, 22, 12, 23, 24, 25, 26, 27, 28, 29, 30, 31, 32, 33, 34, 35, 36, 37, 38, 39, 40, 41, 42, 94, 95, 96] (by decide +kernel) (by decide +kernel)
set_option maxRecDepth 20000 in
theorem gX4_endMonth_X2_chargeFor : GoodIn wsX4_endMonth (wsV RX4 154 RX2 yX2_chargeFor wsX2_chargeFor) := goodIn_app (goodIn_of _ (by decide +kernel)) ggX4_endMonth_X2_chargeFor
set_option maxRecDepth 20000 in
theorem ggX4_endMonth_X3_settle : GoodIn wsX4_endMonth wsX3_settle := goodIn_r _ [46, 47, 48, 8, 49, 50, 51, 52, 6, 53, 54, 55, 15, 16, 17, 56, 57, 58, 59, 60, 61, 62, 63, 64, 87, 88, 89, 90, 91, 92, 93] (by decide +kernel) (by decide +kernel)
set_option maxRecDepth 20000 in
theorem gX4_endMonth_X3_settle : GoodIn wsX4_endMonth (wsV RX4 216 RX3 yX3_settle wsX3_settle) := goodIn_app (goodIn_of _ (by decide +kernel)) ggX4_endMonth_X3_settle
set_option maxRecDepth 20000 in
theorem ggX4_endMonth_X3_addInterest : GoodIn wsX4_endMonth wsX3_addInterest := goodIn_r _ [68, 48, 54, 69, 70, 16, 71, 72, 73, 74, 75, 76, 77, 78, 79, 80, 87, 88, 89, 90, 91, 92, 93] (by decide +kernel) (by decide +kernel)
set_option maxRecDepth 20000 in
theorem gX4_endMonth_X3_addInterest : GoodIn wsX4_endMonth (wsV RX4 220 RX3 yX3_addInterest wsX3_addInterest) := goodIn_app (goodIn_of _ (by decide +kernel)) ggX4_endMonth_X3_addInterest
theorem dJ9_max_7cf53_0 : decode cJ9_max_7cf53 0 = .ok (.iload_n 0, 1) := by decide +kernel
theorem dJ9_max_7cf53_1 : decode cJ9_max_7cf53 1 = .ok (.iload_n 1, 1) := by decide +kernel
theorem dJ9_max_7cf53_2 : decode cJ9_max_7cf53 2 = .ok (.if_icmp .lt 7, 3) := by decide +kernel
theorem dJ9_max_7cf53_5 : decode cJ9_max_7cf53 5 = .ok (.iload_n 0, 1) := by decide +kernel
theorem dJ9_max_7cf53_6 : decode cJ9_max_7cf53 6 = .ok (.goto 4, 3) := by decide +kernel
theorem dJ9_max_7cf53_9 : decode cJ9_max_7cf53 9 = .ok (.iload_n 1, 1) := by decide +kernel
theorem dJ9_max_7cf53_10 : decode cJ9_max_7cf53 10 = .ok (.ireturn, 1) := by decide +kernel
theorem dJ9_max_f86c9_0 : decode cJ9_max_f86c9 0 = .ok (.lload_n 0, 1) := by decide +kernel
theorem dJ9_max_f86c9_1 : decode cJ9_max_f86c9 1 = .ok (.lload_n 2, 1) := by decide +kernel
theorem dJ9_max_f86c9_2 : decode cJ9_max_f86c9 2 = .ok (.lcmp, 1) := by decide +kernel
theorem dJ9_max_f86c9_3 : decode cJ9_max_f86c9 3 = .ok (.ifCond .lt 7, 3) := by decide +kernel
theorem dJ9_max_f86c9_6 : decode cJ9_max_f86c9 6 = .ok (.lload_n 0, 1) := by decide +kernel
theorem dJ9_max_f86c9_7 : decode cJ9_max_f86c9 7 = .ok (.goto 4, 3) := by decide +kernel
theorem dJ9_max_f86c9_10 : decode cJ9_max_f86c9 10 = .ok (.lload_n 2, 1) := by decide +kernel
theorem dJ9_max_f86c9_11 : decode cJ9_max_f86c9 11 = .ok (.lreturn, 1) := by decide +kernel
theorem dJ9_min_7cf53_0 : decode cJ9_min_7cf53 0 = .ok (.iload_n 0, 1) := by decide +kernel
theorem dJ9_min_7cf53_1 : decode cJ9_min_7cf53 1 = .ok (.iload_n 1, 1) := by decide +kernel
theorem dJ9_min_7cf53_2 : decode cJ9_min_7cf53 2 = .ok (.if_icmp .gt 7, 3) := by decide +kernel
theorem dJ9_min_7cf53_5 : decode cJ9_min_7cf53 5 = .ok (.iload_n 0, 1) := by decide +kernel
theorem dJ9_min_7cf53_6 : decode cJ9_min_7cf53 6 = .ok (.goto 4, 3) := by decide +kernel
theorem dJ9_min_7cf53_9 : decode cJ9_min_7cf53 9 = .ok (.iload_n 1, 1) := by decide +kernel
theorem dJ9_min_7cf53_10 : decode cJ9_min_7cf53 10 = .ok (.ireturn, 1) := by decide +kernel
theorem dJ9_min_f86c9_0 : decode cJ9_min_f86c9 0 = .ok (.lload_n 0, 1) := by decide +kernel
theorem dJ9_min_f86c9_1 : decode cJ9_min_f86c9 1 = .ok (.lload_n 2, 1) := by decide +kernel
theorem dJ9_min_f86c9_2 : decode cJ9_min_f86c9 2 = .ok (.lcmp, 1) := by decide +kernel
theorem dJ9_min_f86c9_3 : decode cJ9_min_f86c9 3 = .ok (.ifCond .gt 7, 3) := by decide +kernel
theorem dJ9_min_f86c9_6 : decode cJ9_min_f86c9 6 = .ok (.lload_n 0, 1) := by decide +kernel
theorem dJ9_min_f86c9_7 : decode cJ9_min_f86c9 7 = .ok (.goto 4, 3) := by decide +kernel
theorem dJ9_min_f86c9_10 : decode cJ9_min_f86c9 10 = .ok (.lload_n 2, 1) := by decide +kernel
theorem dJ9_min_f86c9_11 : decode cJ9_min_f86c9 11 = .ok (.lreturn, 1) := by decide +kernel
