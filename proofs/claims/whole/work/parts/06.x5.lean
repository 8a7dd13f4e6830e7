theorem dX5_init_0 : decode cX5_init 0 = .ok (.aload_n 0, 1) := by decide +kernel
theorem dX5_init_1 : decode cX5_init 1 = .ok (.invokespecial 1, 3) := by decide +kernel
theorem dX5_init_4 : decode cX5_init 4 = .ok (.aload_n 0, 1) := by decide +kernel
theorem dX5_init_5 : decode cX5_init 5 = .ok (.bipush 60, 2) := by decide +kernel
theorem dX5_init_7 : decode cX5_init 7 = .ok (.newarray .int, 2) := by decide +kernel
theorem dX5_init_9 : decode cX5_init 9 = .ok (.putfield 7, 3) := by decide +kernel
theorem dX5_init_12 : decode cX5_init 12 = .ok (.aload_n 0, 1) := by decide +kernel
theorem dX5_init_13 : decode cX5_init 13 = .ok (.bipush 60, 2) := by decide +kernel
theorem dX5_init_15 : decode cX5_init 15 = .ok (.newarray .int, 2) := by decide +kernel
theorem dX5_init_17 : decode cX5_init 17 = .ok (.putfield 13, 3) := by decide +kernel
theorem dX5_init_20 : decode cX5_init 20 = .ok (.aload_n 0, 1) := by decide +kernel
theorem dX5_init_21 : decode cX5_init 21 = .ok (.bipush 60, 2) := by decide +kernel
theorem dX5_init_23 : decode cX5_init 23 = .ok (.newarray .int, 2) := by decide +kernel
theorem dX5_init_25 : decode cX5_init 25 = .ok (.putfield 16, 3) := by decide +kernel
theorem dX5_init_28 : decode cX5_init 28 = .ok (.aload_n 0, 1) := by decide +kernel
theorem dX5_init_29 : decode cX5_init 29 = .ok (.bipush 60, 2) := by decide +kernel
theorem dX5_init_31 : decode cX5_init 31 = .ok (.newarray .boolean, 2) := by decide +kernel
theorem dX5_init_33 : decode cX5_init 33 = .ok (.putfield 19, 3) := by decide +kernel
theorem dX5_init_36 : decode cX5_init 36 = .ok (.aload_n 0, 1) := by decide +kernel
theorem dX5_init_37 : decode cX5_init 37 = .ok (.bipush 60, 2) := by decide +kernel
theorem dX5_init_39 : decode cX5_init 39 = .ok (.newarray .boolean, 2) := by decide +kernel
theorem dX5_init_41 : decode cX5_init 41 = .ok (.putfield 23, 3) := by decide +kernel
theorem dX5_init_44 : decode cX5_init 44 = .ok (.aload_n 0, 1) := by decide +kernel
theorem dX5_init_45 : decode cX5_init 45 = .ok (.bipush 30, 2) := by decide +kernel
theorem dX5_init_47 : decode cX5_init 47 = .ok (.putfield 26, 3) := by decide +kernel
theorem dX5_init_50 : decode cX5_init 50 = .ok (.aload_n 0, 1) := by decide +kernel
theorem dX5_init_51 : decode cX5_init 51 = .ok (.ldc 30, 2) := by decide +kernel
theorem dX5_init_53 : decode cX5_init 53 = .ok (.putfield 31, 3) := by decide +kernel
theorem dX5_init_56 : decode cX5_init 56 = .ok (.return_, 1) := by decide +kernel
theorem dX5_thrown_0 : decode cX5_thrown 0 = .ok (.aload_n 0, 1) := by decide +kernel
theorem dX5_thrown_1 : decode cX5_thrown 1 = .ok (.getfield 34, 3) := by decide +kernel
theorem dX5_thrown_4 : decode cX5_thrown 4 = .ok (.ireturn, 1) := by decide +kernel
theorem dX5_in_0 : decode cX5_in 0 = .ok (.iload_n 0, 1) := by decide +kernel
theorem dX5_in_1 : decode cX5_in 1 = .ok (.iload_n 1, 1) := by decide +kernel
theorem dX5_in_2 : decode cX5_in 2 = .ok (.if_icmp .lt 12, 3) := by decide +kernel
theorem dX5_in_5 : decode cX5_in 5 = .ok (.iload_n 0, 1) := by decide +kernel
theorem dX5_in_6 : decode cX5_in 6 = .ok (.iload_n 2, 1) := by decide +kernel
theorem dX5_in_7 : decode cX5_in 7 = .ok (.if_icmp .gt 7, 3) := by decide +kernel
theorem dX5_in_10 : decode cX5_in 10 = .ok (.iconst 1, 1) := by decide +kernel
theorem dX5_in_11 : decode cX5_in 11 = .ok (.goto 4, 3) := by decide +kernel
theorem dX5_in_14 : decode cX5_in 14 = .ok (.iconst 0, 1) := by decide +kernel
theorem dX5_in_15 : decode cX5_in 15 = .ok (.ireturn, 1) := by decide +kernel
theorem dX5_corridorAt_0 : decode cX5_corridorAt 0 = .ok (.iload_n 0, 1) := by decide +kernel
theorem dX5_corridorAt_1 : decode cX5_corridorAt 1 = .ok (.bipush 40, 2) := by decide +kernel
theorem dX5_corridorAt_3 : decode cX5_corridorAt 3 = .ok (.if_icmp .gt 9, 3) := by decide +kernel
theorem dX5_corridorAt_6 : decode cX5_corridorAt 6 = .ok (.sipush 250, 3) := by decide +kernel
theorem dX5_corridorAt_9 : decode cX5_corridorAt 9 = .ok (.goto 13, 3) := by decide +kernel
theorem dX5_corridorAt_12 : decode cX5_corridorAt 12 = .ok (.sipush 250, 3) := by decide +kernel
theorem dX5_corridorAt_15 : decode cX5_corridorAt 15 = .ok (.iconst 5, 1) := by decide +kernel
theorem dX5_corridorAt_16 : decode cX5_corridorAt 16 = .ok (.iload_n 0, 1) := by decide +kernel
theorem dX5_corridorAt_17 : decode cX5_corridorAt 17 = .ok (.bipush 40, 2) := by decide +kernel
theorem dX5_corridorAt_19 : decode cX5_corridorAt 19 = .ok (.isub, 1) := by decide +kernel
theorem dX5_corridorAt_20 : decode cX5_corridorAt 20 = .ok (.imul, 1) := by decide +kernel
theorem dX5_corridorAt_21 : decode cX5_corridorAt 21 = .ok (.isub, 1) := by decide +kernel
theorem dX5_corridorAt_22 : decode cX5_corridorAt 22 = .ok (.istore_n 1, 1) := by decide +kernel
theorem dX5_corridorAt_23 : decode cX5_corridorAt 23 = .ok (.iload_n 1, 1) := by decide +kernel
theorem dX5_corridorAt_24 : decode cX5_corridorAt 24 = .ok (.bipush 105, 2) := by decide +kernel
theorem dX5_corridorAt_26 : decode cX5_corridorAt 26 = .ok (.if_icmp .ge 8, 3) := by decide +kernel
theorem dX5_corridorAt_29 : decode cX5_corridorAt 29 = .ok (.bipush 105, 2) := by decide +kernel
theorem dX5_corridorAt_31 : decode cX5_corridorAt 31 = .ok (.goto 4, 3) := by decide +kernel
theorem dX5_corridorAt_34 : decode cX5_corridorAt 34 = .ok (.iload_n 1, 1) := by decide +kernel
theorem dX5_corridorAt_35 : decode cX5_corridorAt 35 = .ok (.ireturn, 1) := by decide +kernel
theorem dX5_ageIn_0 : decode cX5_ageIn 0 = .ok (.aload_n 0, 1) := by decide +kernel
theorem dX5_ageIn_1 : decode cX5_ageIn 1 = .ok (.getfield 26, 3) := by decide +kernel
theorem dX5_ageIn_4 : decode cX5_ageIn 4 = .ok (.iload_n 1, 1) := by decide +kernel
theorem dX5_ageIn_5 : decode cX5_ageIn 5 = .ok (.bipush 12, 2) := by decide +kernel
theorem dX5_ageIn_7 : decode cX5_ageIn 7 = .ok (.idiv, 1) := by decide +kernel
theorem dX5_ageIn_8 : decode cX5_ageIn 8 = .ok (.iadd, 1) := by decide +kernel
theorem dX5_ageIn_9 : decode cX5_ageIn 9 = .ok (.ireturn, 1) := by decide +kernel
set_option maxRecDepth 20000 in
theorem ggX5_deathSumIn_X5_ageIn : GoodIn wsX5_deathSumIn wsX5_ageIn := goodIn_r _ [9, 10, 14, 15, 16, 17, 18, 19, 20, 21, 22, 23, 24, 25, 26, 27, 28, 29, 30, 31] (by decide +kernel) (by decide +kernel)
set_option maxRecDepth 20000 in
theorem gX5_deathSumIn_X5_ageIn : GoodIn wsX5_deathSumIn (wsV RX5 43 RX5 yX5_ageIn wsX5_ageIn) := goodIn_app (goodIn_of _ (by decide +kernel)) ggX5_deathSumIn_X5_ageIn
set_option maxRecDepth 20000 in
theorem ggX5_deathSumIn_X5_corridorAt : GoodIn wsX5_deathSumIn wsX5_corridorAt := goodIn_r _ [13] (by decide +kernel) (by decide +kernel)
set_option maxRecDepth 20000 in
theorem gX5_deathSumIn_X5_corridorAt : GoodIn wsX5_deathSumIn (va_wsS RX5 47 yX5_corridorAt wsX5_corridorAt) := goodIn_app (goodIn_of _ (by decide +kernel)) ggX5_deathSumIn_X5_corridorAt
theorem dX5_deathSumIn_0 : decode cX5_deathSumIn 0 = .ok (.aload_n 0, 1) := by decide +kernel
theorem dX5_deathSumIn_1 : decode cX5_deathSumIn 1 = .ok (.getfield 37, 3) := by decide +kernel
theorem dX5_deathSumIn_4 : decode cX5_deathSumIn 4 = .ok (.ifCond .ne 11, 3) := by decide +kernel
theorem dX5_deathSumIn_7 : decode cX5_deathSumIn 7 = .ok (.aload_n 0, 1) := by decide +kernel
theorem dX5_deathSumIn_8 : decode cX5_deathSumIn 8 = .ok (.getfield 31, 3) := by decide +kernel
theorem dX5_deathSumIn_11 : decode cX5_deathSumIn 11 = .ok (.i2l, 1) := by decide +kernel
theorem dX5_deathSumIn_12 : decode cX5_deathSumIn 12 = .ok (.goto 14, 3) := by decide +kernel
theorem dX5_deathSumIn_15 : decode cX5_deathSumIn 15 = .ok (.aload_n 0, 1) := by decide +kernel
theorem dX5_deathSumIn_16 : decode cX5_deathSumIn 16 = .ok (.getfield 31, 3) := by decide +kernel
theorem dX5_deathSumIn_19 : decode cX5_deathSumIn 19 = .ok (.i2l, 1) := by decide +kernel
theorem dX5_deathSumIn_20 : decode cX5_deathSumIn 20 = .ok (.aload_n 0, 1) := by decide +kernel
theorem dX5_deathSumIn_21 : decode cX5_deathSumIn 21 = .ok (.getfield 40, 3) := by decide +kernel
theorem dX5_deathSumIn_24 : decode cX5_deathSumIn 24 = .ok (.i2l, 1) := by decide +kernel
theorem dX5_deathSumIn_25 : decode cX5_deathSumIn 25 = .ok (.ladd, 1) := by decide +kernel
theorem dX5_deathSumIn_26 : decode cX5_deathSumIn 26 = .ok (.lstore_n 2, 1) := by decide +kernel
theorem dX5_deathSumIn_27 : decode cX5_deathSumIn 27 = .ok (.aload_n 0, 1) := by decide +kernel
theorem dX5_deathSumIn_28 : decode cX5_deathSumIn 28 = .ok (.getfield 40, 3) := by decide +kernel
theorem dX5_deathSumIn_31 : decode cX5_deathSumIn 31 = .ok (.i2l, 1) := by decide +kernel
theorem dX5_deathSumIn_32 : decode cX5_deathSumIn 32 = .ok (.aload_n 0, 1) := by decide +kernel
theorem dX5_deathSumIn_33 : decode cX5_deathSumIn 33 = .ok (.iload_n 1, 1) := by decide +kernel
theorem dX5_deathSumIn_34 : decode cX5_deathSumIn 34 = .ok (.invokevirtual 43, 3) := by decide +kernel
theorem dX5_deathSumIn_37 : decode cX5_deathSumIn 37 = .ok (.invokestatic 47, 3) := by decide +kernel
theorem dX5_deathSumIn_40 : decode cX5_deathSumIn 40 = .ok (.i2l, 1) := by decide +kernel
theorem dX5_deathSumIn_41 : decode cX5_deathSumIn 41 = .ok (.lmul, 1) := by decide +kernel
theorem dX5_deathSumIn_42 : decode cX5_deathSumIn 42 = .ok (.ldc2_w 50, 3) := by decide +kernel
theorem dX5_deathSumIn_45 : decode cX5_deathSumIn 45 = .ok (.ldiv, 1) := by decide +kernel
theorem dX5_deathSumIn_46 : decode cX5_deathSumIn 46 = .ok (.lstore 4, 2) := by decide +kernel
theorem dX5_deathSumIn_48 : decode cX5_deathSumIn 48 = .ok (.lload_n 2, 1) := by decide +kernel
theorem dX5_deathSumIn_49 : decode cX5_deathSumIn 49 = .ok (.lload 4, 2) := by decide +kernel
theorem dX5_deathSumIn_51 : decode cX5_deathSumIn 51 = .ok (.lcmp, 1) := by decide +kernel
theorem dX5_deathSumIn_52 : decode cX5_deathSumIn 52 = .ok (.ifCond .ge 8, 3) := by decide +kernel
theorem dX5_deathSumIn_55 : decode cX5_deathSumIn 55 = .ok (.lload 4, 2) := by decide +kernel
theorem dX5_deathSumIn_57 : decode cX5_deathSumIn 57 = .ok (.goto 4, 3) := by decide +kernel
theorem dX5_deathSumIn_60 : decode cX5_deathSumIn 60 = .ok (.lload_n 2, 1) := by decide +kernel
theorem dX5_deathSumIn_61 : decode cX5_deathSumIn 61 = .ok (.lreturn, 1) := by decide +kernel
theorem dX5_freePart_0 : decode cX5_freePart 0 = .ok (.aload_n 0, 1) := by decide +kernel
theorem dX5_freePart_1 : decode cX5_freePart 1 = .ok (.getfield 40, 3) := by decide +kernel
theorem dX5_freePart_4 : decode cX5_freePart 4 = .ok (.aload_n 0, 1) := by decide +kernel
theorem dX5_freePart_5 : decode cX5_freePart 5 = .ok (.getfield 52, 3) := by decide +kernel
theorem dX5_freePart_8 : decode cX5_freePart 8 = .ok (.if_icmp .le 15, 3) := by decide +kernel
theorem dX5_freePart_11 : decode cX5_freePart 11 = .ok (.aload_n 0, 1) := by decide +kernel
theorem dX5_freePart_12 : decode cX5_freePart 12 = .ok (.getfield 40, 3) := by decide +kernel
theorem dX5_freePart_15 : decode cX5_freePart 15 = .ok (.aload_n 0, 1) := by decide +kernel
theorem dX5_freePart_16 : decode cX5_freePart 16 = .ok (.getfield 52, 3) := by decide +kernel
theorem dX5_freePart_19 : decode cX5_freePart 19 = .ok (.isub, 1) := by decide +kernel
theorem dX5_freePart_20 : decode cX5_freePart 20 = .ok (.goto 4, 3) := by decide +kernel
theorem dX5_freePart_23 : decode cX5_freePart 23 = .ok (.iconst 0, 1) := by decide +kernel
theorem dX5_freePart_24 : decode cX5_freePart 24 = .ok (.ireturn, 1) := by decide +kernel
set_option maxRecDepth 20000 in
theorem ggX5_chargeIn_X5_deathSumIn : GoodIn wsX5_chargeIn wsX5_deathSumIn := goodIn_r _ [7, 8, 9, 1, 10, 11, 12, 13, 6, 14, 15, 16, 17, 18, 19, 20, 21, 22, 23, 24, 25, 26, 27, 28, 29, 30, 31, 32, 33, 34, 35, 36] (by decide +kernel) (by decide +kernel)
set_option maxRecDepth 20000 in
theorem gX5_chargeIn_X5_deathSumIn : GoodIn wsX5_chargeIn (wsV RX5 55 RX5 yX5_deathSumIn wsX5_deathSumIn) := goodIn_app (goodIn_of _ (by decide +kernel)) ggX5_chargeIn_X5_deathSumIn
set_option maxRecDepth 20000 in
theorem ggX5_chargeIn_X5_ageIn : GoodIn wsX5_chargeIn wsX5_ageIn := goodIn_r _ [14, 15, 19, 20, 21, 22, 23, 24, 25, 26, 27, 28, 29, 30, 31, 32, 33, 34, 35, 36] (by decide +kernel) (by decide +kernel)
set_option maxRecDepth 20000 in
theorem gX5_chargeIn_X5_ageIn : GoodIn wsX5_chargeIn (wsV RX5 43 RX5 yX5_ageIn wsX5_ageIn) := goodIn_app (goodIn_of _ (by decide +kernel)) ggX5_chargeIn_X5_ageIn
theorem dX5_chargeIn_0 : decode cX5_chargeIn 0 = .ok (.aload_n 0, 1) := by decide +kernel
theorem dX5_chargeIn_1 : decode cX5_chargeIn 1 = .ok (.iload_n 1, 1) := by decide +kernel
theorem dX5_chargeIn_2 : decode cX5_chargeIn 2 = .ok (.invokevirtual 55, 3) := by decide +kernel
theorem dX5_chargeIn_5 : decode cX5_chargeIn 5 = .ok (.aload_n 0, 1) := by decide +kernel
theorem dX5_chargeIn_6 : decode cX5_chargeIn 6 = .ok (.getfield 40, 3) := by decide +kernel
theorem dX5_chargeIn_9 : decode cX5_chargeIn 9 = .ok (.i2l, 1) := by decide +kernel
theorem dX5_chargeIn_10 : decode cX5_chargeIn 10 = .ok (.lsub, 1) := by decide +kernel
theorem dX5_chargeIn_11 : decode cX5_chargeIn 11 = .ok (.lstore_n 2, 1) := by decide +kernel
theorem dX5_chargeIn_12 : decode cX5_chargeIn 12 = .ok (.aload_n 0, 1) := by decide +kernel
theorem dX5_chargeIn_13 : decode cX5_chargeIn 13 = .ok (.iload_n 1, 1) := by decide +kernel
theorem dX5_chargeIn_14 : decode cX5_chargeIn 14 = .ok (.invokevirtual 43, 3) := by decide +kernel
theorem dX5_chargeIn_17 : decode cX5_chargeIn 17 = .ok (.istore 4, 2) := by decide +kernel
theorem dX5_chargeIn_19 : decode cX5_chargeIn 19 = .ok (.iload 4, 2) := by decide +kernel
theorem dX5_chargeIn_21 : decode cX5_chargeIn 21 = .ok (.bipush 30, 2) := by decide +kernel
theorem dX5_chargeIn_23 : decode cX5_chargeIn 23 = .ok (.if_icmp .gt 8, 3) := by decide +kernel
theorem dX5_chargeIn_26 : decode cX5_chargeIn 26 = .ok (.bipush 10, 2) := by decide +kernel
theorem dX5_chargeIn_28 : decode cX5_chargeIn 28 = .ok (.goto 13, 3) := by decide +kernel
theorem dX5_chargeIn_31 : decode cX5_chargeIn 31 = .ok (.bipush 10, 2) := by decide +kernel
theorem dX5_chargeIn_33 : decode cX5_chargeIn 33 = .ok (.iconst 2, 1) := by decide +kernel
theorem dX5_chargeIn_34 : decode cX5_chargeIn 34 = .ok (.iload 4, 2) := by decide +kernel
theorem dX5_chargeIn_36 : decode cX5_chargeIn 36 = .ok (.bipush 30, 2) := by decide +kernel
theorem dX5_chargeIn_38 : decode cX5_chargeIn 38 = .ok (.isub, 1) := by decide +kernel
theorem dX5_chargeIn_39 : decode cX5_chargeIn 39 = .ok (.imul, 1) := by decide +kernel
theorem dX5_chargeIn_40 : decode cX5_chargeIn 40 = .ok (.iadd, 1) := by decide +kernel
theorem dX5_chargeIn_41 : decode cX5_chargeIn 41 = .ok (.istore 5, 2) := by decide +kernel
theorem dX5_chargeIn_43 : decode cX5_chargeIn 43 = .ok (.sipush 500, 3) := by decide +kernel
theorem dX5_chargeIn_46 : decode cX5_chargeIn 46 = .ok (.lload_n 2, 1) := by decide +kernel
theorem dX5_chargeIn_47 : decode cX5_chargeIn 47 = .ok (.lconst 0, 1) := by decide +kernel
theorem dX5_chargeIn_48 : decode cX5_chargeIn 48 = .ok (.lcmp, 1) := by decide +kernel
theorem dX5_chargeIn_49 : decode cX5_chargeIn 49 = .ok (.ifCond .ge 7, 3) := by decide +kernel
theorem dX5_chargeIn_52 : decode cX5_chargeIn 52 = .ok (.lconst 0, 1) := by decide +kernel
theorem dX5_chargeIn_53 : decode cX5_chargeIn 53 = .ok (.goto 4, 3) := by decide +kernel
theorem dX5_chargeIn_56 : decode cX5_chargeIn 56 = .ok (.lload_n 2, 1) := by decide +kernel
theorem dX5_chargeIn_57 : decode cX5_chargeIn 57 = .ok (.iload 5, 2) := by decide +kernel
theorem dX5_chargeIn_59 : decode cX5_chargeIn 59 = .ok (.i2l, 1) := by decide +kernel
theorem dX5_chargeIn_60 : decode cX5_chargeIn 60 = .ok (.lmul, 1) := by decide +kernel
theorem dX5_chargeIn_61 : decode cX5_chargeIn 61 = .ok (.ldc2_w 59, 3) := by decide +kernel
theorem dX5_chargeIn_64 : decode cX5_chargeIn 64 = .ok (.ldiv, 1) := by decide +kernel
theorem dX5_chargeIn_65 : decode cX5_chargeIn 65 = .ok (.l2i, 1) := by decide +kernel
theorem dX5_chargeIn_66 : decode cX5_chargeIn 66 = .ok (.iadd, 1) := by decide +kernel
theorem dX5_chargeIn_67 : decode cX5_chargeIn 67 = .ok (.ireturn, 1) := by decide +kernel
theorem dX5_start_0 : decode cX5_start 0 = .ok (.aload_n 0, 1) := by decide +kernel
theorem dX5_start_1 : decode cX5_start 1 = .ok (.iconst 0, 1) := by decide +kernel
theorem dX5_start_2 : decode cX5_start 2 = .ok (.putfield 61, 3) := by decide +kernel
theorem dX5_start_5 : decode cX5_start 5 = .ok (.aload_n 0, 1) := by decide +kernel
theorem dX5_start_6 : decode cX5_start 6 = .ok (.iconst 0, 1) := by decide +kernel
theorem dX5_start_7 : decode cX5_start 7 = .ok (.putfield 40, 3) := by decide +kernel
theorem dX5_start_10 : decode cX5_start 10 = .ok (.aload_n 0, 1) := by decide +kernel
theorem dX5_start_11 : decode cX5_start 11 = .ok (.iconst 0, 1) := by decide +kernel
theorem dX5_start_12 : decode cX5_start 12 = .ok (.putfield 52, 3) := by decide +kernel
theorem dX5_start_15 : decode cX5_start 15 = .ok (.aload_n 0, 1) := by decide +kernel
theorem dX5_start_16 : decode cX5_start 16 = .ok (.iconst 0, 1) := by decide +kernel
theorem dX5_start_17 : decode cX5_start 17 = .ok (.putfield 64, 3) := by decide +kernel
theorem dX5_start_20 : decode cX5_start 20 = .ok (.aload_n 0, 1) := by decide +kernel
theorem dX5_start_21 : decode cX5_start 21 = .ok (.iconst 0, 1) := by decide +kernel
theorem dX5_start_22 : decode cX5_start 22 = .ok (.putfield 67, 3) := by decide +kernel
theorem dX5_start_25 : decode cX5_start 25 = .ok (.aload_n 0, 1) := by decide +kernel
theorem dX5_start_26 : decode cX5_start 26 = .ok (.iconst 0, 1) := by decide +kernel
theorem dX5_start_27 : decode cX5_start 27 = .ok (.putfield 70, 3) := by decide +kernel
theorem dX5_start_30 : decode cX5_start 30 = .ok (.aload_n 0, 1) := by decide +kernel
theorem dX5_start_31 : decode cX5_start 31 = .ok (.iconst (-1), 1) := by decide +kernel
theorem dX5_start_32 : decode cX5_start 32 = .ok (.putfield 73, 3) := by decide +kernel
theorem dX5_start_35 : decode cX5_start 35 = .ok (.return_, 1) := by decide +kernel
theorem dX5_premium_0 : decode cX5_premium 0 = .ok (.aload_n 0, 1) := by decide +kernel
theorem dX5_premium_1 : decode cX5_premium 1 = .ok (.getfield 61, 3) := by decide +kernel
theorem dX5_premium_4 : decode cX5_premium 4 = .ok (.iconst 1, 1) := by decide +kernel
theorem dX5_premium_5 : decode cX5_premium 5 = .ok (.if_icmp .le 5, 3) := by decide +kernel
theorem dX5_premium_8 : decode cX5_premium 8 = .ok (.iconst 0, 1) := by decide +kernel
theorem dX5_premium_9 : decode cX5_premium 9 = .ok (.ireturn, 1) := by decide +kernel
theorem dX5_premium_10 : decode cX5_premium 10 = .ok (.iload_n 1, 1) := by decide +kernel
theorem dX5_premium_11 : decode cX5_premium 11 = .ok (.aload_n 0, 1) := by decide +kernel
theorem dX5_premium_12 : decode cX5_premium 12 = .ok (.getfield 64, 3) := by decide +kernel
theorem dX5_premium_15 : decode cX5_premium 15 = .ok (.if_icmp .ge 7, 3) := by decide +kernel
theorem dX5_premium_18 : decode cX5_premium 18 = .ok (.iload_n 1, 1) := by decide +kernel
theorem dX5_premium_19 : decode cX5_premium 19 = .ok (.goto 7, 3) := by decide +kernel
theorem dX5_premium_22 : decode cX5_premium 22 = .ok (.aload_n 0, 1) := by decide +kernel
theorem dX5_premium_23 : decode cX5_premium 23 = .ok (.getfield 64, 3) := by decide +kernel
theorem dX5_premium_26 : decode cX5_premium 26 = .ok (.istore_n 2, 1) := by decide +kernel
theorem dX5_premium_27 : decode cX5_premium 27 = .ok (.aload_n 0, 1) := by decide +kernel
theorem dX5_premium_28 : decode cX5_premium 28 = .ok (.dup, 1) := by decide +kernel
theorem dX5_premium_29 : decode cX5_premium 29 = .ok (.getfield 64, 3) := by decide +kernel
theorem dX5_premium_32 : decode cX5_premium 32 = .ok (.iload_n 2, 1) := by decide +kernel
theorem dX5_premium_33 : decode cX5_premium 33 = .ok (.isub, 1) := by decide +kernel
theorem dX5_premium_34 : decode cX5_premium 34 = .ok (.putfield 64, 3) := by decide +kernel
theorem dX5_premium_37 : decode cX5_premium 37 = .ok (.aload_n 0, 1) := by decide +kernel
theorem dX5_premium_38 : decode cX5_premium 38 = .ok (.dup, 1) := by decide +kernel
theorem dX5_premium_39 : decode cX5_premium 39 = .ok (.getfield 40, 3) := by decide +kernel
theorem dX5_premium_42 : decode cX5_premium 42 = .ok (.iload_n 1, 1) := by decide +kernel
theorem dX5_premium_43 : decode cX5_premium 43 = .ok (.iload_n 2, 1) := by decide +kernel
theorem dX5_premium_44 : decode cX5_premium 44 = .ok (.isub, 1) := by decide +kernel
theorem dX5_premium_45 : decode cX5_premium 45 = .ok (.iadd, 1) := by decide +kernel
theorem dX5_premium_46 : decode cX5_premium 46 = .ok (.putfield 40, 3) := by decide +kernel
theorem dX5_premium_49 : decode cX5_premium 49 = .ok (.aload_n 0, 1) := by decide +kernel
theorem dX5_premium_50 : decode cX5_premium 50 = .ok (.getfield 64, 3) := by decide +kernel
theorem dX5_premium_53 : decode cX5_premium 53 = .ok (.ifCond .ne 13, 3) := by decide +kernel
theorem dX5_premium_56 : decode cX5_premium 56 = .ok (.aload_n 0, 1) := by decide +kernel
theorem dX5_premium_57 : decode cX5_premium 57 = .ok (.iconst 0, 1) := by decide +kernel
theorem dX5_premium_58 : decode cX5_premium 58 = .ok (.putfield 61, 3) := by decide +kernel
theorem dX5_premium_61 : decode cX5_premium 61 = .ok (.aload_n 0, 1) := by decide +kernel
theorem dX5_premium_62 : decode cX5_premium 62 = .ok (.iconst 0, 1) := by decide +kernel
theorem dX5_premium_63 : decode cX5_premium 63 = .ok (.putfield 67, 3) := by decide +kernel
theorem dX5_premium_66 : decode cX5_premium 66 = .ok (.iconst 1, 1) := by decide +kernel
theorem dX5_premium_67 : decode cX5_premium 67 = .ok (.ireturn, 1) := by decide +kernel
theorem dX5_revive_0 : decode cX5_revive 0 = .ok (.aload_n 0, 1) := by decide +kernel
theorem dX5_revive_1 : decode cX5_revive 1 = .ok (.getfield 64, 3) := by decide +kernel
theorem dX5_revive_4 : decode cX5_revive 4 = .ok (.sipush 500, 3) := by decide +kernel
theorem dX5_revive_7 : decode cX5_revive 7 = .ok (.aload_n 0, 1) := by decide +kernel
theorem dX5_revive_8 : decode cX5_revive 8 = .ok (.getfield 70, 3) := by decide +kernel
theorem dX5_revive_11 : decode cX5_revive 11 = .ok (.imul, 1) := by decide +kernel
theorem dX5_revive_12 : decode cX5_revive 12 = .ok (.iadd, 1) := by decide +kernel
theorem dX5_revive_13 : decode cX5_revive 13 = .ok (.istore_n 2, 1) := by decide +kernel
theorem dX5_revive_14 : decode cX5_revive 14 = .ok (.aload_n 0, 1) := by decide +kernel
theorem dX5_revive_15 : decode cX5_revive 15 = .ok (.getfield 61, 3) := by decide +kernel
theorem dX5_revive_18 : decode cX5_revive 18 = .ok (.iconst 2, 1) := by decide +kernel
theorem dX5_revive_19 : decode cX5_revive 19 = .ok (.if_icmp .ne 17, 3) := by decide +kernel
theorem dX5_revive_22 : decode cX5_revive 22 = .ok (.aload_n 0, 1) := by decide +kernel
theorem dX5_revive_23 : decode cX5_revive 23 = .ok (.getfield 70, 3) := by decide +kernel
theorem dX5_revive_26 : decode cX5_revive 26 = .ok (.bipush 24, 2) := by decide +kernel
theorem dX5_revive_28 : decode cX5_revive 28 = .ok (.if_icmp .ge 8, 3) := by decide +kernel
theorem dX5_revive_31 : decode cX5_revive 31 = .ok (.iload_n 1, 1) := by decide +kernel
theorem dX5_revive_32 : decode cX5_revive 32 = .ok (.iload_n 2, 1) := by decide +kernel
theorem dX5_revive_33 : decode cX5_revive 33 = .ok (.if_icmp .ge 5, 3) := by decide +kernel
theorem dX5_revive_36 : decode cX5_revive 36 = .ok (.iconst 0, 1) := by decide +kernel
theorem dX5_revive_37 : decode cX5_revive 37 = .ok (.ireturn, 1) := by decide +kernel
theorem dX5_revive_38 : decode cX5_revive 38 = .ok (.aload_n 0, 1) := by decide +kernel
theorem dX5_revive_39 : decode cX5_revive 39 = .ok (.iload_n 1, 1) := by decide +kernel
theorem dX5_revive_40 : decode cX5_revive 40 = .ok (.iload_n 2, 1) := by decide +kernel
theorem dX5_revive_41 : decode cX5_revive 41 = .ok (.isub, 1) := by decide +kernel
theorem dX5_revive_42 : decode cX5_revive 42 = .ok (.putfield 40, 3) := by decide +kernel
theorem dX5_revive_45 : decode cX5_revive 45 = .ok (.aload_n 0, 1) := by decide +kernel
theorem dX5_revive_46 : decode cX5_revive 46 = .ok (.iconst 0, 1) := by decide +kernel
theorem dX5_revive_47 : decode cX5_revive 47 = .ok (.putfield 64, 3) := by decide +kernel
theorem dX5_revive_50 : decode cX5_revive 50 = .ok (.aload_n 0, 1) := by decide +kernel
theorem dX5_revive_51 : decode cX5_revive 51 = .ok (.iconst 0, 1) := by decide +kernel
theorem dX5_revive_52 : decode cX5_revive 52 = .ok (.putfield 67, 3) := by decide +kernel
theorem dX5_revive_55 : decode cX5_revive 55 = .ok (.aload_n 0, 1) := by decide +kernel
theorem dX5_revive_56 : decode cX5_revive 56 = .ok (.iconst 0, 1) := by decide +kernel
theorem dX5_revive_57 : decode cX5_revive 57 = .ok (.putfield 61, 3) := by decide +kernel
theorem dX5_revive_60 : decode cX5_revive 60 = .ok (.iconst 1, 1) := by decide +kernel
theorem dX5_revive_61 : decode cX5_revive 61 = .ok (.ireturn, 1) := by decide +kernel
set_option maxRecDepth 20000 in
theorem ggX5_act_X5_premium : GoodIn wsX5_act wsX5_premium := goodIn_r _ [9, 1, 10, 3, 11, 36, 37, 38, 39, 40, 41, 42, 43, 44, 45, 46, 47, 48, 49, 50, 51, 52, 53] (by decide +kernel) (by decide +kernel)
set_option maxRecDepth 20000 in
theorem gX5_act_X5_premium : GoodIn wsX5_act (wsV RX5 76 RX5 yX5_premium wsX5_premium) := goodIn_app (goodIn_of _ (by decide +kernel)) ggX5_act_X5_premium
set_option maxRecDepth 20000 in
theorem ggX5_act_X5_freePart : GoodIn wsX5_act wsX5_freePart := goodIn_r _ [15, 3, 2, 36, 37, 38, 39, 40, 41, 42, 43, 44, 45, 46, 47, 48, 49, 50, 51, 52, 53] (by decide +kernel) (by decide +kernel)
set_option maxRecDepth 20000 in
theorem gX5_act_X5_freePart : GoodIn wsX5_act (wsV RX5 80 RX5 yX5_freePart wsX5_freePart) := goodIn_app (goodIn_of _ (by decide +kernel)) ggX5_act_X5_freePart
set_option maxRecDepth 20000 in
theorem ggX5_act_X5_revive : GoodIn wsX5_act wsX5_revive := goodIn_r _ [19, 10, 20, 1, 3, 11, 36, 37, 38, 39, 40, 41, 42, 43, 44, 45, 46, 47, 48, 49, 50, 51, 52, 53] (by decide +kernel) (by decide +kernel)
set_option maxRecDepth 20000 in
theorem gX5_act_X5_revive : GoodIn wsX5_act (wsV RX5 84 RX5 yX5_revive wsX5_revive) := goodIn_app (goodIn_of _ (by decide +kernel)) ggX5_act_X5_revive
set_option maxRecDepth 20000 in
theorem ggX5_act_X5_deathSumIn : GoodIn wsX5_act wsX5_deathSumIn := goodIn_r _ [24, 25, 26, 3, 27, 28, 29, 30, 8, 31, 32, 33, 34, 35, 36, 37, 38, 39, 40, 41, 42, 43, 44, 45, 46, 47, 48, 49, 50, 51, 52, 53] (by decide +kernel) (by decide +kernel)
set_option maxRecDepth 20000 in
theorem gX5_act_X5_deathSumIn : GoodIn wsX5_act (wsV RX5 55 RX5 yX5_deathSumIn wsX5_deathSumIn) := goodIn_app (goodIn_of _ (by decide +kernel)) ggX5_act_X5_deathSumIn
theorem dX5_act_0 : decode cX5_act 0 = .ok (.iconst 0, 1) := by decide +kernel
theorem dX5_act_1 : decode cX5_act 1 = .ok (.istore 4, 2) := by decide +kernel
theorem dX5_act_3 : decode cX5_act 3 = .ok (.iload_n 1, 1) := by decide +kernel
theorem dX5_act_4 : decode cX5_act 4 = .ok (.ifCond .ne 13, 3) := by decide +kernel
theorem dX5_act_7 : decode cX5_act 7 = .ok (.aload_n 0, 1) := by decide +kernel
theorem dX5_act_8 : decode cX5_act 8 = .ok (.iload_n 2, 1) := by decide +kernel
theorem dX5_act_9 : decode cX5_act 9 = .ok (.invokevirtual 76, 3) := by decide +kernel
theorem dX5_act_12 : decode cX5_act 12 = .ok (.istore 4, 2) := by decide +kernel
theorem dX5_act_14 : decode cX5_act 14 = .ok (.goto 213, 3) := by decide +kernel
theorem dX5_act_17 : decode cX5_act 17 = .ok (.iload_n 1, 1) := by decide +kernel
theorem dX5_act_18 : decode cX5_act 18 = .ok (.iconst 1, 1) := by decide +kernel
theorem dX5_act_19 : decode cX5_act 19 = .ok (.if_icmp .ne 47, 3) := by decide +kernel
theorem dX5_act_22 : decode cX5_act 22 = .ok (.aload_n 0, 1) := by decide +kernel
theorem dX5_act_23 : decode cX5_act 23 = .ok (.getfield 61, 3) := by decide +kernel
theorem dX5_act_26 : decode cX5_act 26 = .ok (.ifCond .ne 15, 3) := by decide +kernel
theorem dX5_act_29 : decode cX5_act 29 = .ok (.iload_n 2, 1) := by decide +kernel
theorem dX5_act_30 : decode cX5_act 30 = .ok (.aload_n 0, 1) := by decide +kernel
theorem dX5_act_31 : decode cX5_act 31 = .ok (.invokevirtual 80, 3) := by decide +kernel
theorem dX5_act_34 : decode cX5_act 34 = .ok (.if_icmp .gt 7, 3) := by decide +kernel
theorem dX5_act_37 : decode cX5_act 37 = .ok (.iconst 1, 1) := by decide +kernel
theorem dX5_act_38 : decode cX5_act 38 = .ok (.goto 4, 3) := by decide +kernel
theorem dX5_act_41 : decode cX5_act 41 = .ok (.iconst 0, 1) := by decide +kernel
theorem dX5_act_42 : decode cX5_act 42 = .ok (.istore 4, 2) := by decide +kernel
theorem dX5_act_44 : decode cX5_act 44 = .ok (.aload_n 0, 1) := by decide +kernel
theorem dX5_act_45 : decode cX5_act 45 = .ok (.dup, 1) := by decide +kernel
theorem dX5_act_46 : decode cX5_act 46 = .ok (.getfield 52, 3) := by decide +kernel
theorem dX5_act_49 : decode cX5_act 49 = .ok (.iload 4, 2) := by decide +kernel
theorem dX5_act_51 : decode cX5_act 51 = .ok (.ifCond .eq 7, 3) := by decide +kernel
theorem dX5_act_54 : decode cX5_act 54 = .ok (.iload_n 2, 1) := by decide +kernel
theorem dX5_act_55 : decode cX5_act 55 = .ok (.goto 4, 3) := by decide +kernel
theorem dX5_act_58 : decode cX5_act 58 = .ok (.iconst 0, 1) := by decide +kernel
theorem dX5_act_59 : decode cX5_act 59 = .ok (.iadd, 1) := by decide +kernel
theorem dX5_act_60 : decode cX5_act 60 = .ok (.putfield 52, 3) := by decide +kernel
theorem dX5_act_63 : decode cX5_act 63 = .ok (.goto 164, 3) := by decide +kernel
theorem dX5_act_66 : decode cX5_act 66 = .ok (.iload_n 1, 1) := by decide +kernel
theorem dX5_act_67 : decode cX5_act 67 = .ok (.iconst 2, 1) := by decide +kernel
theorem dX5_act_68 : decode cX5_act 68 = .ok (.if_icmp .ne 48, 3) := by decide +kernel
theorem dX5_act_71 : decode cX5_act 71 = .ok (.aload_n 0, 1) := by decide +kernel
theorem dX5_act_72 : decode cX5_act 72 = .ok (.getfield 61, 3) := by decide +kernel
theorem dX5_act_75 : decode cX5_act 75 = .ok (.iconst 1, 1) := by decide +kernel
theorem dX5_act_76 : decode cX5_act 76 = .ok (.if_icmp .gt 15, 3) := by decide +kernel
theorem dX5_act_79 : decode cX5_act 79 = .ok (.iload_n 2, 1) := by decide +kernel
theorem dX5_act_80 : decode cX5_act 80 = .ok (.aload_n 0, 1) := by decide +kernel
theorem dX5_act_81 : decode cX5_act 81 = .ok (.getfield 52, 3) := by decide +kernel
theorem dX5_act_84 : decode cX5_act 84 = .ok (.if_icmp .gt 7, 3) := by decide +kernel
theorem dX5_act_87 : decode cX5_act 87 = .ok (.iconst 1, 1) := by decide +kernel
theorem dX5_act_88 : decode cX5_act 88 = .ok (.goto 4, 3) := by decide +kernel
theorem dX5_act_91 : decode cX5_act 91 = .ok (.iconst 0, 1) := by decide +kernel
theorem dX5_act_92 : decode cX5_act 92 = .ok (.istore 4, 2) := by decide +kernel
theorem dX5_act_94 : decode cX5_act 94 = .ok (.aload_n 0, 1) := by decide +kernel
theorem dX5_act_95 : decode cX5_act 95 = .ok (.dup, 1) := by decide +kernel
theorem dX5_act_96 : decode cX5_act 96 = .ok (.getfield 52, 3) := by decide +kernel
theorem dX5_act_99 : decode cX5_act 99 = .ok (.iload 4, 2) := by decide +kernel
theorem dX5_act_101 : decode cX5_act 101 = .ok (.ifCond .eq 7, 3) := by decide +kernel
theorem dX5_act_104 : decode cX5_act 104 = .ok (.iload_n 2, 1) := by decide +kernel
theorem dX5_act_105 : decode cX5_act 105 = .ok (.goto 4, 3) := by decide +kernel
theorem dX5_act_108 : decode cX5_act 108 = .ok (.iconst 0, 1) := by decide +kernel
theorem dX5_act_109 : decode cX5_act 109 = .ok (.isub, 1) := by decide +kernel
theorem dX5_act_110 : decode cX5_act 110 = .ok (.putfield 52, 3) := by decide +kernel
theorem dX5_act_113 : decode cX5_act 113 = .ok (.goto 114, 3) := by decide +kernel
theorem dX5_act_116 : decode cX5_act 116 = .ok (.iload_n 1, 1) := by decide +kernel
theorem dX5_act_117 : decode cX5_act 117 = .ok (.iconst 3, 1) := by decide +kernel
theorem dX5_act_118 : decode cX5_act 118 = .ok (.if_icmp .ne 47, 3) := by decide +kernel
theorem dX5_act_121 : decode cX5_act 121 = .ok (.aload_n 0, 1) := by decide +kernel
theorem dX5_act_122 : decode cX5_act 122 = .ok (.getfield 61, 3) := by decide +kernel
theorem dX5_act_125 : decode cX5_act 125 = .ok (.ifCond .ne 15, 3) := by decide +kernel
theorem dX5_act_128 : decode cX5_act 128 = .ok (.iload_n 2, 1) := by decide +kernel
theorem dX5_act_129 : decode cX5_act 129 = .ok (.aload_n 0, 1) := by decide +kernel
theorem dX5_act_130 : decode cX5_act 130 = .ok (.invokevirtual 80, 3) := by decide +kernel
theorem dX5_act_133 : decode cX5_act 133 = .ok (.if_icmp .gt 7, 3) := by decide +kernel
theorem dX5_act_136 : decode cX5_act 136 = .ok (.iconst 1, 1) := by decide +kernel
theorem dX5_act_137 : decode cX5_act 137 = .ok (.goto 4, 3) := by decide +kernel
theorem dX5_act_140 : decode cX5_act 140 = .ok (.iconst 0, 1) := by decide +kernel
theorem dX5_act_141 : decode cX5_act 141 = .ok (.istore 4, 2) := by decide +kernel
theorem dX5_act_143 : decode cX5_act 143 = .ok (.aload_n 0, 1) := by decide +kernel
theorem dX5_act_144 : decode cX5_act 144 = .ok (.dup, 1) := by decide +kernel
theorem dX5_act_145 : decode cX5_act 145 = .ok (.getfield 40, 3) := by decide +kernel
theorem dX5_act_148 : decode cX5_act 148 = .ok (.iload 4, 2) := by decide +kernel
theorem dX5_act_150 : decode cX5_act 150 = .ok (.ifCond .eq 7, 3) := by decide +kernel
theorem dX5_act_153 : decode cX5_act 153 = .ok (.iload_n 2, 1) := by decide +kernel
theorem dX5_act_154 : decode cX5_act 154 = .ok (.goto 4, 3) := by decide +kernel
theorem dX5_act_157 : decode cX5_act 157 = .ok (.iconst 0, 1) := by decide +kernel
theorem dX5_act_158 : decode cX5_act 158 = .ok (.isub, 1) := by decide +kernel
theorem dX5_act_159 : decode cX5_act 159 = .ok (.putfield 40, 3) := by decide +kernel
theorem dX5_act_162 : decode cX5_act 162 = .ok (.goto 65, 3) := by decide +kernel
theorem dX5_act_165 : decode cX5_act 165 = .ok (.iload_n 1, 1) := by decide +kernel
theorem dX5_act_166 : decode cX5_act 166 = .ok (.iconst 4, 1) := by decide +kernel
theorem dX5_act_167 : decode cX5_act 167 = .ok (.if_icmp .ne 13, 3) := by decide +kernel
theorem dX5_act_170 : decode cX5_act 170 = .ok (.aload_n 0, 1) := by decide +kernel
theorem dX5_act_171 : decode cX5_act 171 = .ok (.iload_n 2, 1) := by decide +kernel
theorem dX5_act_172 : decode cX5_act 172 = .ok (.invokevirtual 84, 3) := by decide +kernel
theorem dX5_act_175 : decode cX5_act 175 = .ok (.istore 4, 2) := by decide +kernel
theorem dX5_act_177 : decode cX5_act 177 = .ok (.goto 50, 3) := by decide +kernel
theorem dX5_act_180 : decode cX5_act 180 = .ok (.aload_n 0, 1) := by decide +kernel
theorem dX5_act_181 : decode cX5_act 181 = .ok (.getfield 61, 3) := by decide +kernel
theorem dX5_act_184 : decode cX5_act 184 = .ok (.iconst 1, 1) := by decide +kernel
theorem dX5_act_185 : decode cX5_act 185 = .ok (.if_icmp .gt 42, 3) := by decide +kernel
theorem dX5_act_188 : decode cX5_act 188 = .ok (.iconst 1, 1) := by decide +kernel
theorem dX5_act_189 : decode cX5_act 189 = .ok (.istore 4, 2) := by decide +kernel
theorem dX5_act_191 : decode cX5_act 191 = .ok (.aload_n 0, 1) := by decide +kernel
theorem dX5_act_192 : decode cX5_act 192 = .ok (.iload_n 3, 1) := by decide +kernel
theorem dX5_act_193 : decode cX5_act 193 = .ok (.invokevirtual 55, 3) := by decide +kernel
theorem dX5_act_196 : decode cX5_act 196 = .ok (.aload_n 0, 1) := by decide +kernel
theorem dX5_act_197 : decode cX5_act 197 = .ok (.getfield 52, 3) := by decide +kernel
theorem dX5_act_200 : decode cX5_act 200 = .ok (.i2l, 1) := by decide +kernel
theorem dX5_act_201 : decode cX5_act 201 = .ok (.lsub, 1) := by decide +kernel
theorem dX5_act_202 : decode cX5_act 202 = .ok (.lstore 5, 2) := by decide +kernel
theorem dX5_act_204 : decode cX5_act 204 = .ok (.aload_n 0, 1) := by decide +kernel
theorem dX5_act_205 : decode cX5_act 205 = .ok (.lload 5, 2) := by decide +kernel
theorem dX5_act_207 : decode cX5_act 207 = .ok (.lconst 0, 1) := by decide +kernel
theorem dX5_act_208 : decode cX5_act 208 = .ok (.lcmp, 1) := by decide +kernel
theorem dX5_act_209 : decode cX5_act 209 = .ok (.ifCond .ge 7, 3) := by decide +kernel
theorem dX5_act_212 : decode cX5_act 212 = .ok (.iconst 0, 1) := by decide +kernel
theorem dX5_act_213 : decode cX5_act 213 = .ok (.goto 6, 3) := by decide +kernel
theorem dX5_act_216 : decode cX5_act 216 = .ok (.lload 5, 2) := by decide +kernel
theorem dX5_act_218 : decode cX5_act 218 = .ok (.l2i, 1) := by decide +kernel
theorem dX5_act_219 : decode cX5_act 219 = .ok (.putfield 73, 3) := by decide +kernel
theorem dX5_act_222 : decode cX5_act 222 = .ok (.aload_n 0, 1) := by decide +kernel
theorem dX5_act_223 : decode cX5_act 223 = .ok (.iconst 3, 1) := by decide +kernel
theorem dX5_act_224 : decode cX5_act 224 = .ok (.putfield 61, 3) := by decide +kernel
theorem dX5_act_227 : decode cX5_act 227 = .ok (.iload 4, 2) := by decide +kernel
theorem dX5_act_229 : decode cX5_act 229 = .ok (.ireturn, 1) := by decide +kernel
set_option maxRecDepth 20000 in
theorem ggX5_closeMonth_X5_chargeIn : GoodIn wsX5_closeMonth wsX5_chargeIn := goodIn_r _ [11, 4, 12, 13, 14, 15, 10, 16, 17, 18, 19, 20, 21, 22, 23, 24, 25, 26, 27, 42, 43, 44, 45, 46, 47, 48, 49, 50, 51, 52, 53, 54, 55, 56, 57, 58, 59] (by decide +kernel) (by decide +kernel)
set_option maxRecDepth 20000 in
theorem gX5_closeMonth_X5_chargeIn : GoodIn wsX5_closeMonth (wsV RX5 87 RX5 yX5_chargeIn wsX5_chargeIn) := goodIn_app (goodIn_of _ (by decide +kernel)) ggX5_closeMonth_X5_chargeIn
set_option maxRecDepth 20000 in
theorem ggX5_closeMonth_X5_freePart : GoodIn wsX5_closeMonth wsX5_freePart := goodIn_r _ [31, 4, 6, 42, 43, 44, 45, 46, 47, 48, 49, 50, 51, 52, 53, 54, 55, 56, 57, 58, 59] (by decide +kernel) (by decide +kernel)
set_option maxRecDepth 20000 in
theorem gX5_closeMonth_X5_freePart : GoodIn wsX5_closeMonth (wsV RX5 80 RX5 yX5_freePart wsX5_freePart) := goodIn_app (goodIn_of _ (by decide +kernel)) ggX5_closeMonth_X5_freePart
set_option maxRecDepth 20000 in
theorem ggX5_closeMonth_X5_earn : GoodIn wsX5_closeMonth wsX5_earn := goodIn_r _ [35, 4, 6, 36, 37, 38, 39, 40, 41, 42, 43, 44, 45, 46, 47, 48, 49, 50, 51, 52, 53, 54, 55, 56, 57, 58, 59] (by decide +kernel) (by decide +kernel)
set_option maxRecDepth 20000 in
theorem gX5_closeMonth_X5_earn : GoodIn wsX5_closeMonth (wsV RX5 90 RX5 yX5_earn wsX5_earn) := goodIn_app (goodIn_of _ (by decide +kernel)) ggX5_closeMonth_X5_earn
theorem dX5_closeMonth_0 : decode cX5_closeMonth 0 = .ok (.aload_n 0, 1) := by decide +kernel
theorem dX5_closeMonth_1 : decode cX5_closeMonth 1 = .ok (.getfield 61, 3) := by decide +kernel
theorem dX5_closeMonth_4 : decode cX5_closeMonth 4 = .ok (.iconst 2, 1) := by decide +kernel
theorem dX5_closeMonth_5 : decode cX5_closeMonth 5 = .ok (.if_icmp .ne 13, 3) := by decide +kernel
theorem dX5_closeMonth_8 : decode cX5_closeMonth 8 = .ok (.aload_n 0, 1) := by decide +kernel
theorem dX5_closeMonth_9 : decode cX5_closeMonth 9 = .ok (.dup, 1) := by decide +kernel
theorem dX5_closeMonth_10 : decode cX5_closeMonth 10 = .ok (.getfield 70, 3) := by decide +kernel
theorem dX5_closeMonth_13 : decode cX5_closeMonth 13 = .ok (.iconst 1, 1) := by decide +kernel
theorem dX5_closeMonth_14 : decode cX5_closeMonth 14 = .ok (.iadd, 1) := by decide +kernel
theorem dX5_closeMonth_15 : decode cX5_closeMonth 15 = .ok (.putfield 70, 3) := by decide +kernel
theorem dX5_closeMonth_18 : decode cX5_closeMonth 18 = .ok (.aload_n 0, 1) := by decide +kernel
theorem dX5_closeMonth_19 : decode cX5_closeMonth 19 = .ok (.getfield 61, 3) := by decide +kernel
theorem dX5_closeMonth_22 : decode cX5_closeMonth 22 = .ok (.iconst 1, 1) := by decide +kernel
theorem dX5_closeMonth_23 : decode cX5_closeMonth 23 = .ok (.if_icmp .le 4, 3) := by decide +kernel
theorem dX5_closeMonth_26 : decode cX5_closeMonth 26 = .ok (.return_, 1) := by decide +kernel
theorem dX5_closeMonth_27 : decode cX5_closeMonth 27 = .ok (.aload_n 0, 1) := by decide +kernel
theorem dX5_closeMonth_28 : decode cX5_closeMonth 28 = .ok (.iload_n 1, 1) := by decide +kernel
theorem dX5_closeMonth_29 : decode cX5_closeMonth 29 = .ok (.invokevirtual 87, 3) := by decide +kernel
theorem dX5_closeMonth_32 : decode cX5_closeMonth 32 = .ok (.istore_n 2, 1) := by decide +kernel
theorem dX5_closeMonth_33 : decode cX5_closeMonth 33 = .ok (.aload_n 0, 1) := by decide +kernel
theorem dX5_closeMonth_34 : decode cX5_closeMonth 34 = .ok (.invokevirtual 80, 3) := by decide +kernel
theorem dX5_closeMonth_37 : decode cX5_closeMonth 37 = .ok (.iload_n 2, 1) := by decide +kernel
theorem dX5_closeMonth_38 : decode cX5_closeMonth 38 = .ok (.aload_n 0, 1) := by decide +kernel
theorem dX5_closeMonth_39 : decode cX5_closeMonth 39 = .ok (.getfield 64, 3) := by decide +kernel
theorem dX5_closeMonth_42 : decode cX5_closeMonth 42 = .ok (.iadd, 1) := by decide +kernel
theorem dX5_closeMonth_43 : decode cX5_closeMonth 43 = .ok (.if_icmp .lt 36, 3) := by decide +kernel
theorem dX5_closeMonth_46 : decode cX5_closeMonth 46 = .ok (.aload_n 0, 1) := by decide +kernel
theorem dX5_closeMonth_47 : decode cX5_closeMonth 47 = .ok (.dup, 1) := by decide +kernel
theorem dX5_closeMonth_48 : decode cX5_closeMonth 48 = .ok (.getfield 40, 3) := by decide +kernel
theorem dX5_closeMonth_51 : decode cX5_closeMonth 51 = .ok (.iload_n 2, 1) := by decide +kernel
theorem dX5_closeMonth_52 : decode cX5_closeMonth 52 = .ok (.aload_n 0, 1) := by decide +kernel
theorem dX5_closeMonth_53 : decode cX5_closeMonth 53 = .ok (.getfield 64, 3) := by decide +kernel
theorem dX5_closeMonth_56 : decode cX5_closeMonth 56 = .ok (.iadd, 1) := by decide +kernel
theorem dX5_closeMonth_57 : decode cX5_closeMonth 57 = .ok (.isub, 1) := by decide +kernel
theorem dX5_closeMonth_58 : decode cX5_closeMonth 58 = .ok (.putfield 40, 3) := by decide +kernel
theorem dX5_closeMonth_61 : decode cX5_closeMonth 61 = .ok (.aload_n 0, 1) := by decide +kernel
theorem dX5_closeMonth_62 : decode cX5_closeMonth 62 = .ok (.iconst 0, 1) := by decide +kernel
theorem dX5_closeMonth_63 : decode cX5_closeMonth 63 = .ok (.putfield 64, 3) := by decide +kernel
theorem dX5_closeMonth_66 : decode cX5_closeMonth 66 = .ok (.aload_n 0, 1) := by decide +kernel
theorem dX5_closeMonth_67 : decode cX5_closeMonth 67 = .ok (.iconst 0, 1) := by decide +kernel
theorem dX5_closeMonth_68 : decode cX5_closeMonth 68 = .ok (.putfield 61, 3) := by decide +kernel
theorem dX5_closeMonth_71 : decode cX5_closeMonth 71 = .ok (.aload_n 0, 1) := by decide +kernel
theorem dX5_closeMonth_72 : decode cX5_closeMonth 72 = .ok (.iconst 0, 1) := by decide +kernel
theorem dX5_closeMonth_73 : decode cX5_closeMonth 73 = .ok (.putfield 67, 3) := by decide +kernel
theorem dX5_closeMonth_76 : decode cX5_closeMonth 76 = .ok (.goto 28, 3) := by decide +kernel
theorem dX5_closeMonth_79 : decode cX5_closeMonth 79 = .ok (.aload_n 0, 1) := by decide +kernel
theorem dX5_closeMonth_80 : decode cX5_closeMonth 80 = .ok (.dup, 1) := by decide +kernel
theorem dX5_closeMonth_81 : decode cX5_closeMonth 81 = .ok (.getfield 64, 3) := by decide +kernel
theorem dX5_closeMonth_84 : decode cX5_closeMonth 84 = .ok (.iload_n 2, 1) := by decide +kernel
theorem dX5_closeMonth_85 : decode cX5_closeMonth 85 = .ok (.iadd, 1) := by decide +kernel
theorem dX5_closeMonth_86 : decode cX5_closeMonth 86 = .ok (.putfield 64, 3) := by decide +kernel
theorem dX5_closeMonth_89 : decode cX5_closeMonth 89 = .ok (.aload_n 0, 1) := by decide +kernel
theorem dX5_closeMonth_90 : decode cX5_closeMonth 90 = .ok (.iconst 1, 1) := by decide +kernel
theorem dX5_closeMonth_91 : decode cX5_closeMonth 91 = .ok (.putfield 61, 3) := by decide +kernel
theorem dX5_closeMonth_94 : decode cX5_closeMonth 94 = .ok (.aload_n 0, 1) := by decide +kernel
theorem dX5_closeMonth_95 : decode cX5_closeMonth 95 = .ok (.dup, 1) := by decide +kernel
theorem dX5_closeMonth_96 : decode cX5_closeMonth 96 = .ok (.getfield 67, 3) := by decide +kernel
theorem dX5_closeMonth_99 : decode cX5_closeMonth 99 = .ok (.iconst 1, 1) := by decide +kernel
theorem dX5_closeMonth_100 : decode cX5_closeMonth 100 = .ok (.iadd, 1) := by decide +kernel
theorem dX5_closeMonth_101 : decode cX5_closeMonth 101 = .ok (.putfield 67, 3) := by decide +kernel
theorem dX5_closeMonth_104 : decode cX5_closeMonth 104 = .ok (.aload_n 0, 1) := by decide +kernel
theorem dX5_closeMonth_105 : decode cX5_closeMonth 105 = .ok (.getfield 67, 3) := by decide +kernel
theorem dX5_closeMonth_108 : decode cX5_closeMonth 108 = .ok (.iconst 3, 1) := by decide +kernel
theorem dX5_closeMonth_109 : decode cX5_closeMonth 109 = .ok (.if_icmp .ne 31, 3) := by decide +kernel
theorem dX5_closeMonth_112 : decode cX5_closeMonth 112 = .ok (.aload_n 0, 1) := by decide +kernel
theorem dX5_closeMonth_113 : decode cX5_closeMonth 113 = .ok (.iconst 2, 1) := by decide +kernel
theorem dX5_closeMonth_114 : decode cX5_closeMonth 114 = .ok (.putfield 61, 3) := by decide +kernel
theorem dX5_closeMonth_117 : decode cX5_closeMonth 117 = .ok (.aload_n 0, 1) := by decide +kernel
theorem dX5_closeMonth_118 : decode cX5_closeMonth 118 = .ok (.iconst 0, 1) := by decide +kernel
theorem dX5_closeMonth_119 : decode cX5_closeMonth 119 = .ok (.putfield 40, 3) := by decide +kernel
theorem dX5_closeMonth_122 : decode cX5_closeMonth 122 = .ok (.aload_n 0, 1) := by decide +kernel
theorem dX5_closeMonth_123 : decode cX5_closeMonth 123 = .ok (.iconst 0, 1) := by decide +kernel
theorem dX5_closeMonth_124 : decode cX5_closeMonth 124 = .ok (.putfield 52, 3) := by decide +kernel
theorem dX5_closeMonth_127 : decode cX5_closeMonth 127 = .ok (.aload_n 0, 1) := by decide +kernel
theorem dX5_closeMonth_128 : decode cX5_closeMonth 128 = .ok (.iconst 0, 1) := by decide +kernel
theorem dX5_closeMonth_129 : decode cX5_closeMonth 129 = .ok (.putfield 67, 3) := by decide +kernel
theorem dX5_closeMonth_132 : decode cX5_closeMonth 132 = .ok (.aload_n 0, 1) := by decide +kernel
theorem dX5_closeMonth_133 : decode cX5_closeMonth 133 = .ok (.iconst 0, 1) := by decide +kernel
theorem dX5_closeMonth_134 : decode cX5_closeMonth 134 = .ok (.putfield 70, 3) := by decide +kernel
theorem dX5_closeMonth_137 : decode cX5_closeMonth 137 = .ok (.goto 7, 3) := by decide +kernel
theorem dX5_closeMonth_140 : decode cX5_closeMonth 140 = .ok (.aload_n 0, 1) := by decide +kernel
theorem dX5_closeMonth_141 : decode cX5_closeMonth 141 = .ok (.invokevirtual 90, 3) := by decide +kernel
theorem dX5_closeMonth_144 : decode cX5_closeMonth 144 = .ok (.return_, 1) := by decide +kernel
theorem dX5_earn_0 : decode cX5_earn 0 = .ok (.aload_n 0, 1) := by decide +kernel
theorem dX5_earn_1 : decode cX5_earn 1 = .ok (.getfield 40, 3) := by decide +kernel
theorem dX5_earn_4 : decode cX5_earn 4 = .ok (.aload_n 0, 1) := by decide +kernel
theorem dX5_earn_5 : decode cX5_earn 5 = .ok (.getfield 52, 3) := by decide +kernel
theorem dX5_earn_8 : decode cX5_earn 8 = .ok (.if_icmp .ge 11, 3) := by decide +kernel
theorem dX5_earn_11 : decode cX5_earn 11 = .ok (.aload_n 0, 1) := by decide +kernel
theorem dX5_earn_12 : decode cX5_earn 12 = .ok (.getfield 40, 3) := by decide +kernel
theorem dX5_earn_15 : decode cX5_earn 15 = .ok (.i2l, 1) := by decide +kernel
theorem dX5_earn_16 : decode cX5_earn 16 = .ok (.goto 8, 3) := by decide +kernel
theorem dX5_earn_19 : decode cX5_earn 19 = .ok (.aload_n 0, 1) := by decide +kernel
theorem dX5_earn_20 : decode cX5_earn 20 = .ok (.getfield 52, 3) := by decide +kernel
theorem dX5_earn_23 : decode cX5_earn 23 = .ok (.i2l, 1) := by decide +kernel
theorem dX5_earn_24 : decode cX5_earn 24 = .ok (.lstore_n 1, 1) := by decide +kernel
theorem dX5_earn_25 : decode cX5_earn 25 = .ok (.aload_n 0, 1) := by decide +kernel
theorem dX5_earn_26 : decode cX5_earn 26 = .ok (.getfield 40, 3) := by decide +kernel
theorem dX5_earn_29 : decode cX5_earn 29 = .ok (.i2l, 1) := by decide +kernel
theorem dX5_earn_30 : decode cX5_earn 30 = .ok (.lload_n 1, 1) := by decide +kernel
theorem dX5_earn_31 : decode cX5_earn 31 = .ok (.lsub, 1) := by decide +kernel
theorem dX5_earn_32 : decode cX5_earn 32 = .ok (.lstore_n 3, 1) := by decide +kernel
theorem dX5_earn_33 : decode cX5_earn 33 = .ok (.lload_n 3, 1) := by decide +kernel
theorem dX5_earn_34 : decode cX5_earn 34 = .ok (.ldc2_w 93, 3) := by decide +kernel
theorem dX5_earn_37 : decode cX5_earn 37 = .ok (.lcmp, 1) := by decide +kernel
theorem dX5_earn_38 : decode cX5_earn 38 = .ok (.ifCond .ge 7, 3) := by decide +kernel
theorem dX5_earn_41 : decode cX5_earn 41 = .ok (.lload_n 3, 1) := by decide +kernel
theorem dX5_earn_42 : decode cX5_earn 42 = .ok (.goto 6, 3) := by decide +kernel
theorem dX5_earn_45 : decode cX5_earn 45 = .ok (.ldc2_w 93, 3) := by decide +kernel
theorem dX5_earn_48 : decode cX5_earn 48 = .ok (.lstore 5, 2) := by decide +kernel
theorem dX5_earn_50 : decode cX5_earn 50 = .ok (.aload_n 0, 1) := by decide +kernel
theorem dX5_earn_51 : decode cX5_earn 51 = .ok (.dup, 1) := by decide +kernel
theorem dX5_earn_52 : decode cX5_earn 52 = .ok (.getfield 40, 3) := by decide +kernel
theorem dX5_earn_55 : decode cX5_earn 55 = .ok (.ldc2_w 95, 3) := by decide +kernel
theorem dX5_earn_58 : decode cX5_earn 58 = .ok (.lload_n 1, 1) := by decide +kernel
theorem dX5_earn_59 : decode cX5_earn 59 = .ok (.lmul, 1) := by decide +kernel
theorem dX5_earn_60 : decode cX5_earn 60 = .ok (.ldc2_w 97, 3) := by decide +kernel
theorem dX5_earn_63 : decode cX5_earn 63 = .ok (.lload 5, 2) := by decide +kernel
theorem dX5_earn_65 : decode cX5_earn 65 = .ok (.lmul, 1) := by decide +kernel
theorem dX5_earn_66 : decode cX5_earn 66 = .ok (.ladd, 1) := by decide +kernel
theorem dX5_earn_67 : decode cX5_earn 67 = .ok (.ldc2_w 99, 3) := by decide +kernel
theorem dX5_earn_70 : decode cX5_earn 70 = .ok (.lload_n 3, 1) := by decide +kernel
theorem dX5_earn_71 : decode cX5_earn 71 = .ok (.lload 5, 2) := by decide +kernel
theorem dX5_earn_73 : decode cX5_earn 73 = .ok (.lsub, 1) := by decide +kernel
theorem dX5_earn_74 : decode cX5_earn 74 = .ok (.lmul, 1) := by decide +kernel
theorem dX5_earn_75 : decode cX5_earn 75 = .ok (.ladd, 1) := by decide +kernel
theorem dX5_earn_76 : decode cX5_earn 76 = .ok (.ldc2_w 101, 3) := by decide +kernel
theorem dX5_earn_79 : decode cX5_earn 79 = .ok (.ldiv, 1) := by decide +kernel
theorem dX5_earn_80 : decode cX5_earn 80 = .ok (.l2i, 1) := by decide +kernel
theorem dX5_earn_81 : decode cX5_earn 81 = .ok (.iadd, 1) := by decide +kernel
theorem dX5_earn_82 : decode cX5_earn 82 = .ok (.putfield 40, 3) := by decide +kernel
theorem dX5_earn_85 : decode cX5_earn 85 = .ok (.aload_n 0, 1) := by decide +kernel
theorem dX5_earn_86 : decode cX5_earn 86 = .ok (.dup, 1) := by decide +kernel
theorem dX5_earn_87 : decode cX5_earn 87 = .ok (.getfield 52, 3) := by decide +kernel
theorem dX5_earn_90 : decode cX5_earn 90 = .ok (.ldc2_w 103, 3) := by decide +kernel
theorem dX5_earn_93 : decode cX5_earn 93 = .ok (.aload_n 0, 1) := by decide +kernel
theorem dX5_earn_94 : decode cX5_earn 94 = .ok (.getfield 52, 3) := by decide +kernel
theorem dX5_earn_97 : decode cX5_earn 97 = .ok (.i2l, 1) := by decide +kernel
theorem dX5_earn_98 : decode cX5_earn 98 = .ok (.lmul, 1) := by decide +kernel
theorem dX5_earn_99 : decode cX5_earn 99 = .ok (.ldc2_w 101, 3) := by decide +kernel
theorem dX5_earn_102 : decode cX5_earn 102 = .ok (.ldiv, 1) := by decide +kernel
theorem dX5_earn_103 : decode cX5_earn 103 = .ok (.l2i, 1) := by decide +kernel
theorem dX5_earn_104 : decode cX5_earn 104 = .ok (.iadd, 1) := by decide +kernel
theorem dX5_earn_105 : decode cX5_earn 105 = .ok (.putfield 52, 3) := by decide +kernel
theorem dX5_earn_108 : decode cX5_earn 108 = .ok (.return_, 1) := by decide +kernel
set_option maxRecDepth 20000 in
theorem ggX5_doActs_X5_act : GoodIn wsX5_doActs wsX5_act := goodIn_r _ [11, 12, 13, 14, 15, 16, 17, 18, 10, 19, 20, 21, 22, 23, 24, 25, 26, 27, 28, 29, 30, 31, 32, 33, 34, 35, 36, 37, 38, 39, 40, 41, 42, 43, 44, 45, 46, 47, 48, 49, 50, 51, 52, 53, 54, 55, 56, 57, 58, 59, 60, 61, 62, 63] (by decide +kernel) (by decide +kernel)
set_option maxRecDepth 20000 in
theorem gX5_doActs_X5_act : GoodIn wsX5_doActs (wsV RX5 108 RX5 yX5_act wsX5_act) := goodIn_app (goodIn_of _ (by decide +kernel)) ggX5_doActs_X5_act
theorem dX5_doActs_0 : decode cX5_doActs 0 = .ok (.iconst 0, 1) := by decide +kernel
theorem dX5_doActs_1 : decode cX5_doActs 1 = .ok (.istore_n 2, 1) := by decide +kernel
theorem dX5_doActs_2 : decode cX5_doActs 2 = .ok (.iload_n 2, 1) := by decide +kernel
theorem dX5_doActs_3 : decode cX5_doActs 3 = .ok (.aload_n 0, 1) := by decide +kernel
theorem dX5_doActs_4 : decode cX5_doActs 4 = .ok (.getfield 105, 3) := by decide +kernel
theorem dX5_doActs_7 : decode cX5_doActs 7 = .ok (.if_icmp .ge 51, 3) := by decide +kernel
theorem dX5_doActs_10 : decode cX5_doActs 10 = .ok (.aload_n 0, 1) := by decide +kernel
theorem dX5_doActs_11 : decode cX5_doActs 11 = .ok (.getfield 7, 3) := by decide +kernel
theorem dX5_doActs_14 : decode cX5_doActs 14 = .ok (.iload_n 2, 1) := by decide +kernel
theorem dX5_doActs_15 : decode cX5_doActs 15 = .ok (.iaload, 1) := by decide +kernel
theorem dX5_doActs_16 : decode cX5_doActs 16 = .ok (.iload_n 1, 1) := by decide +kernel
theorem dX5_doActs_17 : decode cX5_doActs 17 = .ok (.if_icmp .ne 35, 3) := by decide +kernel
theorem dX5_doActs_20 : decode cX5_doActs 20 = .ok (.aload_n 0, 1) := by decide +kernel
theorem dX5_doActs_21 : decode cX5_doActs 21 = .ok (.getfield 19, 3) := by decide +kernel
theorem dX5_doActs_24 : decode cX5_doActs 24 = .ok (.iload_n 2, 1) := by decide +kernel
theorem dX5_doActs_25 : decode cX5_doActs 25 = .ok (.baload, 1) := by decide +kernel
theorem dX5_doActs_26 : decode cX5_doActs 26 = .ok (.ifCond .ne 26, 3) := by decide +kernel
theorem dX5_doActs_29 : decode cX5_doActs 29 = .ok (.aload_n 0, 1) := by decide +kernel
theorem dX5_doActs_30 : decode cX5_doActs 30 = .ok (.getfield 23, 3) := by decide +kernel
theorem dX5_doActs_33 : decode cX5_doActs 33 = .ok (.iload_n 2, 1) := by decide +kernel
theorem dX5_doActs_34 : decode cX5_doActs 34 = .ok (.aload_n 0, 1) := by decide +kernel
theorem dX5_doActs_35 : decode cX5_doActs 35 = .ok (.aload_n 0, 1) := by decide +kernel
theorem dX5_doActs_36 : decode cX5_doActs 36 = .ok (.getfield 13, 3) := by decide +kernel
theorem dX5_doActs_39 : decode cX5_doActs 39 = .ok (.iload_n 2, 1) := by decide +kernel
theorem dX5_doActs_40 : decode cX5_doActs 40 = .ok (.iaload, 1) := by decide +kernel
theorem dX5_doActs_41 : decode cX5_doActs 41 = .ok (.aload_n 0, 1) := by decide +kernel
theorem dX5_doActs_42 : decode cX5_doActs 42 = .ok (.getfield 16, 3) := by decide +kernel
theorem dX5_doActs_45 : decode cX5_doActs 45 = .ok (.iload_n 2, 1) := by decide +kernel
theorem dX5_doActs_46 : decode cX5_doActs 46 = .ok (.iaload, 1) := by decide +kernel
theorem dX5_doActs_47 : decode cX5_doActs 47 = .ok (.iload_n 1, 1) := by decide +kernel
theorem dX5_doActs_48 : decode cX5_doActs 48 = .ok (.invokevirtual 108, 3) := by decide +kernel
theorem dX5_doActs_51 : decode cX5_doActs 51 = .ok (.bastore, 1) := by decide +kernel
theorem dX5_doActs_52 : decode cX5_doActs 52 = .ok (.iinc 2 1, 3) := by decide +kernel
theorem dX5_doActs_55 : decode cX5_doActs 55 = .ok (.goto (-53), 3) := by decide +kernel
theorem dX5_doActs_58 : decode cX5_doActs 58 = .ok (.return_, 1) := by decide +kernel
set_option maxRecDepth 20000 in
theorem ggX5_goTo_X5_start : GoodIn wsX5_goTo wsX5_start := goodIn_r _ [5, 6, 7, 8, 9, 10, 11, 12, 73, 74, 75, 76, 77, 78, 79, 80, 81, 82, 83, 84, 85, 86, 87, 88, 89, 90] (by decide +kernel) (by decide +kernel)
set_option maxRecDepth 20000 in
theorem gX5_goTo_X5_start : GoodIn wsX5_goTo (wsV RX5 112 RX5 yX5_start wsX5_start) := goodIn_app (goodIn_of _ (by decide +kernel)) ggX5_goTo_X5_start
set_option maxRecDepth 20000 in
theorem ggX5_goTo_X5_doActs : GoodIn wsX5_goTo wsX5_doActs := goodIn_r _ [16, 17, 18, 19, 20, 21, 22, 23, 24, 25, 4, 26, 6, 8, 7, 12, 27, 28, 29, 30, 9, 10, 31, 32, 33, 34, 35, 36, 37, 38, 11, 39, 40, 41, 42, 43, 44, 45, 46, 47, 48, 49, 50, 51, 52, 53, 73, 74, 75, 76, 77, 78, 79, 80, 81, 82, 83, 84, 85, 86, 87, 88, 89, 90] (by decide +kernel) (by decide +kernel)
set_option maxRecDepth 20000 in
theorem gX5_goTo_X5_doActs : GoodIn wsX5_goTo (wsV RX5 115 RX5 yX5_doActs wsX5_doActs) := goodIn_app (goodIn_of _ (by decide +kernel)) ggX5_goTo_X5_doActs
set_option maxRecDepth 20000 in
theorem ggX5_goTo_X5_closeMonth : GoodIn wsX5_goTo wsX5_closeMonth := goodIn_r _ [57, 6, 11, 9, 7, 10, 8, 58, 59, 60, 4, 61, 62, 39, 40, 41, 42, 43, 44, 45, 46, 47, 48, 49, 50, 51, 52, 53, 31, 32, 33, 34, 63, 64, 65, 66, 67, 68, 69, 70, 71, 72, 73, 74, 75, 76, 77, 78, 79, 80, 81, 82, 83, 84, 85, 86, 87, 88, 89, 90] (by decide +kernel) (by decide +kernel)
set_option maxRecDepth 20000 in
theorem gX5_goTo_X5_closeMonth : GoodIn wsX5_goTo (wsV RX5 119 RX5 yX5_closeMonth wsX5_closeMonth) := goodIn_app (goodIn_of _ (by decide +kernel)) ggX5_goTo_X5_closeMonth
theorem dX5_goTo_0 : decode cX5_goTo 0 = .ok (.aload_n 0, 1) := by decide +kernel
theorem dX5_goTo_1 : decode cX5_goTo 1 = .ok (.invokevirtual 112, 3) := by decide +kernel
theorem dX5_goTo_4 : decode cX5_goTo 4 = .ok (.iconst 0, 1) := by decide +kernel
theorem dX5_goTo_5 : decode cX5_goTo 5 = .ok (.istore_n 2, 1) := by decide +kernel
theorem dX5_goTo_6 : decode cX5_goTo 6 = .ok (.iload_n 2, 1) := by decide +kernel
theorem dX5_goTo_7 : decode cX5_goTo 7 = .ok (.iload_n 1, 1) := by decide +kernel
theorem dX5_goTo_8 : decode cX5_goTo 8 = .ok (.if_icmp .ge 19, 3) := by decide +kernel
theorem dX5_goTo_11 : decode cX5_goTo 11 = .ok (.aload_n 0, 1) := by decide +kernel
theorem dX5_goTo_12 : decode cX5_goTo 12 = .ok (.iload_n 2, 1) := by decide +kernel
theorem dX5_goTo_13 : decode cX5_goTo 13 = .ok (.invokevirtual 115, 3) := by decide +kernel
theorem dX5_goTo_16 : decode cX5_goTo 16 = .ok (.aload_n 0, 1) := by decide +kernel
theorem dX5_goTo_17 : decode cX5_goTo 17 = .ok (.iload_n 2, 1) := by decide +kernel
theorem dX5_goTo_18 : decode cX5_goTo 18 = .ok (.invokevirtual 119, 3) := by decide +kernel
theorem dX5_goTo_21 : decode cX5_goTo 21 = .ok (.iinc 2 1, 3) := by decide +kernel
theorem dX5_goTo_24 : decode cX5_goTo 24 = .ok (.goto (-18), 3) := by decide +kernel
theorem dX5_goTo_27 : decode cX5_goTo 27 = .ok (.return_, 1) := by decide +kernel
set_option maxRecDepth 20000 in
theorem ggX5_goNow_X5_goTo : GoodIn wsX5_goNow wsX5_goTo := goodIn_r _ [6, 7, 8, 9, 5, 10, 11, 12, 13, 14, 15, 16, 17, 18, 19, 20, 21, 22, 23, 24, 25, 26, 27, 28, 29, 30, 31, 32, 33, 34, 35, 36, 37, 38, 39, 40, 41, 42, 43, 44, 45, 46, 47, 48, 49, 50, 51, 52, 53, 54, 55, 56, 57, 58, 59, 60, 61, 62, 63, 64, 65, 66, 67, 68, 69, 70, 71, 72, 73, 74, 75, 76, 77, 78, 79, 80, 81, 82, 83, 84, 85, 86, 87, 88, 89, 90, 91, 92, 93, 94, 95] (by decide +kernel) (by decide +kernel)
set_option maxRecDepth 20000 in
theorem gX5_goNow_X5_goTo : GoodIn wsX5_goNow (wsV RX5 125 RX5 yX5_goTo wsX5_goTo) := goodIn_app (goodIn_of _ (by decide +kernel)) ggX5_goNow_X5_goTo
set_option maxRecDepth 20000 in
theorem ggX5_goNow_X5_doActs : GoodIn wsX5_goNow wsX5_doActs := goodIn_r _ [21, 22, 23, 24, 25, 26, 27, 28, 29, 30, 5, 31, 11, 13, 12, 17, 32, 33, 34, 35, 14, 15, 36, 37, 38, 39, 40, 41, 42, 43, 16, 44, 45, 46, 47, 48, 49, 50, 51, 52, 53, 54, 55, 56, 57, 58, 78, 79, 80, 81, 82, 83, 84, 85, 86, 87, 88, 89, 90, 91, 92, 93, 94, 95] (by decide +kernel) (by decide +kernel)
set_option maxRecDepth 20000 in
theorem gX5_goNow_X5_doActs : GoodIn wsX5_goNow (wsV RX5 115 RX5 yX5_doActs wsX5_doActs) := goodIn_app (goodIn_of _ (by decide +kernel)) ggX5_goNow_X5_doActs
theorem dX5_goNow_0 : decode cX5_goNow 0 = .ok (.aload_n 0, 1) := by decide +kernel
theorem dX5_goNow_1 : decode cX5_goNow 1 = .ok (.aload_n 0, 1) := by decide +kernel
theorem dX5_goNow_2 : decode cX5_goNow 2 = .ok (.getfield 122, 3) := by decide +kernel
theorem dX5_goNow_5 : decode cX5_goNow 5 = .ok (.invokevirtual 125, 3) := by decide +kernel
theorem dX5_goNow_8 : decode cX5_goNow 8 = .ok (.aload_n 0, 1) := by decide +kernel
theorem dX5_goNow_9 : decode cX5_goNow 9 = .ok (.aload_n 0, 1) := by decide +kernel
theorem dX5_goNow_10 : decode cX5_goNow 10 = .ok (.getfield 122, 3) := by decide +kernel
theorem dX5_goNow_13 : decode cX5_goNow 13 = .ok (.invokevirtual 115, 3) := by decide +kernel
theorem dX5_goNow_16 : decode cX5_goNow 16 = .ok (.return_, 1) := by decide +kernel
set_option maxRecDepth 20000 in
theorem ggX5_begin_X5_in : GoodIn wsX5_begin wsX5_in := goodIn_r _ [12] (by decide +kernel) (by decide +kernel)
set_option maxRecDepth 20000 in
theorem gX5_begin_X5_in : GoodIn wsX5_begin (va_wsS RX5 128 yX5_in wsX5_in) := goodIn_app (goodIn_of _ (by decide +kernel)) ggX5_begin_X5_in
theorem dX5_begin_0 : decode cX5_begin 0 = .ok (.aload_n 0, 1) := by decide +kernel
theorem dX5_begin_1 : decode cX5_begin 1 = .ok (.iload_n 1, 1) := by decide +kernel
theorem dX5_begin_2 : decode cX5_begin 2 = .ok (.bipush 18, 2) := by decide +kernel
theorem dX5_begin_4 : decode cX5_begin 4 = .ok (.bipush 70, 2) := by decide +kernel
theorem dX5_begin_6 : decode cX5_begin 6 = .ok (.invokestatic 128, 3) := by decide +kernel
theorem dX5_begin_9 : decode cX5_begin 9 = .ok (.ifCond .eq 23, 3) := by decide +kernel
theorem dX5_begin_12 : decode cX5_begin 12 = .ok (.iload_n 2, 1) := by decide +kernel
theorem dX5_begin_13 : decode cX5_begin 13 = .ok (.ldc 131, 2) := by decide +kernel
theorem dX5_begin_15 : decode cX5_begin 15 = .ok (.ldc 132, 2) := by decide +kernel
theorem dX5_begin_17 : decode cX5_begin 17 = .ok (.invokestatic 128, 3) := by decide +kernel
theorem dX5_begin_20 : decode cX5_begin 20 = .ok (.ifCond .eq 12, 3) := by decide +kernel
theorem dX5_begin_23 : decode cX5_begin 23 = .ok (.iload_n 3, 1) := by decide +kernel
theorem dX5_begin_24 : decode cX5_begin 24 = .ok (.iconst 0, 1) := by decide +kernel
theorem dX5_begin_25 : decode cX5_begin 25 = .ok (.iconst 1, 1) := by decide +kernel
theorem dX5_begin_26 : decode cX5_begin 26 = .ok (.invokestatic 128, 3) := by decide +kernel
theorem dX5_begin_29 : decode cX5_begin 29 = .ok (.ifCond .ne 7, 3) := by decide +kernel
theorem dX5_begin_32 : decode cX5_begin 32 = .ok (.iconst 1, 1) := by decide +kernel
theorem dX5_begin_33 : decode cX5_begin 33 = .ok (.goto 4, 3) := by decide +kernel
theorem dX5_begin_36 : decode cX5_begin 36 = .ok (.iconst 0, 1) := by decide +kernel
theorem dX5_begin_37 : decode cX5_begin 37 = .ok (.putfield 34, 3) := by decide +kernel
theorem dX5_begin_40 : decode cX5_begin 40 = .ok (.aload_n 0, 1) := by decide +kernel
theorem dX5_begin_41 : decode cX5_begin 41 = .ok (.getfield 34, 3) := by decide +kernel
theorem dX5_begin_44 : decode cX5_begin 44 = .ok (.ifCond .le 5, 3) := by decide +kernel
theorem dX5_begin_47 : decode cX5_begin 47 = .ok (.iconst 0, 1) := by decide +kernel
theorem dX5_begin_48 : decode cX5_begin 48 = .ok (.ireturn, 1) := by decide +kernel
theorem dX5_begin_49 : decode cX5_begin 49 = .ok (.aload_n 0, 1) := by decide +kernel
theorem dX5_begin_50 : decode cX5_begin 50 = .ok (.getfield 122, 3) := by decide +kernel
theorem dX5_begin_53 : decode cX5_begin 53 = .ok (.istore 4, 2) := by decide +kernel
theorem dX5_begin_55 : decode cX5_begin 55 = .ok (.aload_n 0, 1) := by decide +kernel
theorem dX5_begin_56 : decode cX5_begin 56 = .ok (.iload_n 1, 1) := by decide +kernel
theorem dX5_begin_57 : decode cX5_begin 57 = .ok (.putfield 26, 3) := by decide +kernel
theorem dX5_begin_60 : decode cX5_begin 60 = .ok (.aload_n 0, 1) := by decide +kernel
theorem dX5_begin_61 : decode cX5_begin 61 = .ok (.iload_n 2, 1) := by decide +kernel
theorem dX5_begin_62 : decode cX5_begin 62 = .ok (.putfield 31, 3) := by decide +kernel
theorem dX5_begin_65 : decode cX5_begin 65 = .ok (.aload_n 0, 1) := by decide +kernel
theorem dX5_begin_66 : decode cX5_begin 66 = .ok (.iload_n 3, 1) := by decide +kernel
theorem dX5_begin_67 : decode cX5_begin 67 = .ok (.putfield 37, 3) := by decide +kernel
theorem dX5_begin_70 : decode cX5_begin 70 = .ok (.aload_n 0, 1) := by decide +kernel
theorem dX5_begin_71 : decode cX5_begin 71 = .ok (.iconst 0, 1) := by decide +kernel
theorem dX5_begin_72 : decode cX5_begin 72 = .ok (.putfield 122, 3) := by decide +kernel
theorem dX5_begin_75 : decode cX5_begin 75 = .ok (.aload_n 0, 1) := by decide +kernel
theorem dX5_begin_76 : decode cX5_begin 76 = .ok (.iconst 0, 1) := by decide +kernel
theorem dX5_begin_77 : decode cX5_begin 77 = .ok (.putfield 105, 3) := by decide +kernel
theorem dX5_begin_80 : decode cX5_begin 80 = .ok (.iload 4, 2) := by decide +kernel
theorem dX5_begin_82 : decode cX5_begin 82 = .ok (.ireturn, 1) := by decide +kernel
set_option maxRecDepth 20000 in
theorem ggX5_tell_X5_in : GoodIn wsX5_tell wsX5_in := goodIn_r _ [13] (by decide +kernel) (by decide +kernel)
set_option maxRecDepth 20000 in
theorem gX5_tell_X5_in : GoodIn wsX5_tell (va_wsS RX5 128 yX5_in wsX5_in) := goodIn_app (goodIn_of _ (by decide +kernel)) ggX5_tell_X5_in
set_option maxRecDepth 20000 in
theorem ggX5_tell_X5_goNow : GoodIn wsX5_tell wsX5_goNow := goodIn_r _ [17, 1, 18, 19, 20, 12, 21, 22, 23, 24, 25, 26, 27, 28, 29, 30, 31, 32, 33, 34, 35, 36, 3, 5, 8, 9, 6, 7, 37, 38, 39, 40, 41, 42, 43, 44, 45, 46, 47, 48, 49, 50, 51, 52, 53, 54, 55, 56, 57, 58, 59, 60, 61, 62, 63, 64, 65, 66, 67, 68, 69, 70, 71, 72, 73, 74, 75, 76, 77, 78, 79, 80, 81, 82, 83, 84, 85, 86, 87, 88, 89, 90, 91, 92, 93, 94, 95, 96, 97, 98, 99, 100, 101, 102, 103, 104] (by decide +kernel) (by decide +kernel)
set_option maxRecDepth 20000 in
theorem gX5_tell_X5_goNow : GoodIn wsX5_tell (wsV RX5 134 RX5 yX5_goNow wsX5_goNow) := goodIn_app (goodIn_of _ (by decide +kernel)) ggX5_tell_X5_goNow
theorem dX5_tell_0 : decode cX5_tell 0 = .ok (.aload_n 0, 1) := by decide +kernel
theorem dX5_tell_1 : decode cX5_tell 1 = .ok (.iload_n 1, 1) := by decide +kernel
theorem dX5_tell_2 : decode cX5_tell 2 = .ok (.iconst 0, 1) := by decide +kernel
theorem dX5_tell_3 : decode cX5_tell 3 = .ok (.aload_n 0, 1) := by decide +kernel
theorem dX5_tell_4 : decode cX5_tell 4 = .ok (.getfield 122, 3) := by decide +kernel
theorem dX5_tell_7 : decode cX5_tell 7 = .ok (.invokestatic 128, 3) := by decide +kernel
theorem dX5_tell_10 : decode cX5_tell 10 = .ok (.ifCond .eq 22, 3) := by decide +kernel
theorem dX5_tell_13 : decode cX5_tell 13 = .ok (.iload_n 2, 1) := by decide +kernel
theorem dX5_tell_14 : decode cX5_tell 14 = .ok (.iconst 0, 1) := by decide +kernel
theorem dX5_tell_15 : decode cX5_tell 15 = .ok (.iconst 5, 1) := by decide +kernel
theorem dX5_tell_16 : decode cX5_tell 16 = .ok (.invokestatic 128, 3) := by decide +kernel
theorem dX5_tell_19 : decode cX5_tell 19 = .ok (.ifCond .eq 13, 3) := by decide +kernel
theorem dX5_tell_22 : decode cX5_tell 22 = .ok (.iload_n 3, 1) := by decide +kernel
theorem dX5_tell_23 : decode cX5_tell 23 = .ok (.iconst 1, 1) := by decide +kernel
theorem dX5_tell_24 : decode cX5_tell 24 = .ok (.ldc 133, 2) := by decide +kernel
theorem dX5_tell_26 : decode cX5_tell 26 = .ok (.invokestatic 128, 3) := by decide +kernel
theorem dX5_tell_29 : decode cX5_tell 29 = .ok (.ifCond .ne 7, 3) := by decide +kernel
theorem dX5_tell_32 : decode cX5_tell 32 = .ok (.iconst 1, 1) := by decide +kernel
theorem dX5_tell_33 : decode cX5_tell 33 = .ok (.goto 17, 3) := by decide +kernel
theorem dX5_tell_36 : decode cX5_tell 36 = .ok (.aload_n 0, 1) := by decide +kernel
theorem dX5_tell_37 : decode cX5_tell 37 = .ok (.getfield 105, 3) := by decide +kernel
theorem dX5_tell_40 : decode cX5_tell 40 = .ok (.bipush 60, 2) := by decide +kernel
theorem dX5_tell_42 : decode cX5_tell 42 = .ok (.if_icmp .ne 7, 3) := by decide +kernel
theorem dX5_tell_45 : decode cX5_tell 45 = .ok (.iconst 2, 1) := by decide +kernel
theorem dX5_tell_46 : decode cX5_tell 46 = .ok (.goto 4, 3) := by decide +kernel
theorem dX5_tell_49 : decode cX5_tell 49 = .ok (.iconst 0, 1) := by decide +kernel
theorem dX5_tell_50 : decode cX5_tell 50 = .ok (.putfield 34, 3) := by decide +kernel
theorem dX5_tell_53 : decode cX5_tell 53 = .ok (.aload_n 0, 1) := by decide +kernel
theorem dX5_tell_54 : decode cX5_tell 54 = .ok (.getfield 34, 3) := by decide +kernel
theorem dX5_tell_57 : decode cX5_tell 57 = .ok (.ifCond .le 5, 3) := by decide +kernel
theorem dX5_tell_60 : decode cX5_tell 60 = .ok (.iconst 0, 1) := by decide +kernel
theorem dX5_tell_61 : decode cX5_tell 61 = .ok (.ireturn, 1) := by decide +kernel
theorem dX5_tell_62 : decode cX5_tell 62 = .ok (.aload_n 0, 1) := by decide +kernel
theorem dX5_tell_63 : decode cX5_tell 63 = .ok (.getfield 7, 3) := by decide +kernel
theorem dX5_tell_66 : decode cX5_tell 66 = .ok (.aload_n 0, 1) := by decide +kernel
theorem dX5_tell_67 : decode cX5_tell 67 = .ok (.getfield 105, 3) := by decide +kernel
theorem dX5_tell_70 : decode cX5_tell 70 = .ok (.iload_n 1, 1) := by decide +kernel
theorem dX5_tell_71 : decode cX5_tell 71 = .ok (.iastore, 1) := by decide +kernel
theorem dX5_tell_72 : decode cX5_tell 72 = .ok (.aload_n 0, 1) := by decide +kernel
theorem dX5_tell_73 : decode cX5_tell 73 = .ok (.getfield 13, 3) := by decide +kernel
theorem dX5_tell_76 : decode cX5_tell 76 = .ok (.aload_n 0, 1) := by decide +kernel
theorem dX5_tell_77 : decode cX5_tell 77 = .ok (.getfield 105, 3) := by decide +kernel
theorem dX5_tell_80 : decode cX5_tell 80 = .ok (.iload_n 2, 1) := by decide +kernel
theorem dX5_tell_81 : decode cX5_tell 81 = .ok (.iastore, 1) := by decide +kernel
theorem dX5_tell_82 : decode cX5_tell 82 = .ok (.aload_n 0, 1) := by decide +kernel
theorem dX5_tell_83 : decode cX5_tell 83 = .ok (.getfield 16, 3) := by decide +kernel
theorem dX5_tell_86 : decode cX5_tell 86 = .ok (.aload_n 0, 1) := by decide +kernel
theorem dX5_tell_87 : decode cX5_tell 87 = .ok (.getfield 105, 3) := by decide +kernel
theorem dX5_tell_90 : decode cX5_tell 90 = .ok (.iload_n 3, 1) := by decide +kernel
theorem dX5_tell_91 : decode cX5_tell 91 = .ok (.iastore, 1) := by decide +kernel
theorem dX5_tell_92 : decode cX5_tell 92 = .ok (.aload_n 0, 1) := by decide +kernel
theorem dX5_tell_93 : decode cX5_tell 93 = .ok (.getfield 19, 3) := by decide +kernel
theorem dX5_tell_96 : decode cX5_tell 96 = .ok (.aload_n 0, 1) := by decide +kernel
theorem dX5_tell_97 : decode cX5_tell 97 = .ok (.getfield 105, 3) := by decide +kernel
theorem dX5_tell_100 : decode cX5_tell 100 = .ok (.iconst 0, 1) := by decide +kernel
theorem dX5_tell_101 : decode cX5_tell 101 = .ok (.bastore, 1) := by decide +kernel
theorem dX5_tell_102 : decode cX5_tell 102 = .ok (.aload_n 0, 1) := by decide +kernel
theorem dX5_tell_103 : decode cX5_tell 103 = .ok (.dup, 1) := by decide +kernel
theorem dX5_tell_104 : decode cX5_tell 104 = .ok (.getfield 105, 3) := by decide +kernel
theorem dX5_tell_107 : decode cX5_tell 107 = .ok (.iconst 1, 1) := by decide +kernel
theorem dX5_tell_108 : decode cX5_tell 108 = .ok (.iadd, 1) := by decide +kernel
theorem dX5_tell_109 : decode cX5_tell 109 = .ok (.putfield 105, 3) := by decide +kernel
theorem dX5_tell_112 : decode cX5_tell 112 = .ok (.aload_n 0, 1) := by decide +kernel
theorem dX5_tell_113 : decode cX5_tell 113 = .ok (.invokevirtual 134, 3) := by decide +kernel
theorem dX5_tell_116 : decode cX5_tell 116 = .ok (.aload_n 0, 1) := by decide +kernel
theorem dX5_tell_117 : decode cX5_tell 117 = .ok (.getfield 23, 3) := by decide +kernel
theorem dX5_tell_120 : decode cX5_tell 120 = .ok (.aload_n 0, 1) := by decide +kernel
theorem dX5_tell_121 : decode cX5_tell 121 = .ok (.getfield 105, 3) := by decide +kernel
theorem dX5_tell_124 : decode cX5_tell 124 = .ok (.iconst 1, 1) := by decide +kernel
theorem dX5_tell_125 : decode cX5_tell 125 = .ok (.isub, 1) := by decide +kernel
theorem dX5_tell_126 : decode cX5_tell 126 = .ok (.baload, 1) := by decide +kernel
theorem dX5_tell_127 : decode cX5_tell 127 = .ok (.ireturn, 1) := by decide +kernel
set_option maxRecDepth 20000 in
theorem ggX5_isAct_X5_in : GoodIn wsX5_isAct wsX5_in := goodIn_r _ [7] (by decide +kernel) (by decide +kernel)
set_option maxRecDepth 20000 in
theorem gX5_isAct_X5_in : GoodIn wsX5_isAct (va_wsS RX5 128 yX5_in wsX5_in) := goodIn_app (goodIn_of _ (by decide +kernel)) ggX5_isAct_X5_in
theorem dX5_isAct_0 : decode cX5_isAct 0 = .ok (.aload_n 0, 1) := by decide +kernel
theorem dX5_isAct_1 : decode cX5_isAct 1 = .ok (.iload_n 1, 1) := by decide +kernel
theorem dX5_isAct_2 : decode cX5_isAct 2 = .ok (.iconst 0, 1) := by decide +kernel
theorem dX5_isAct_3 : decode cX5_isAct 3 = .ok (.aload_n 0, 1) := by decide +kernel
theorem dX5_isAct_4 : decode cX5_isAct 4 = .ok (.getfield 105, 3) := by decide +kernel
theorem dX5_isAct_7 : decode cX5_isAct 7 = .ok (.iconst 1, 1) := by decide +kernel
theorem dX5_isAct_8 : decode cX5_isAct 8 = .ok (.isub, 1) := by decide +kernel
theorem dX5_isAct_9 : decode cX5_isAct 9 = .ok (.invokestatic 128, 3) := by decide +kernel
theorem dX5_isAct_12 : decode cX5_isAct 12 = .ok (.ifCond .eq 16, 3) := by decide +kernel
theorem dX5_isAct_15 : decode cX5_isAct 15 = .ok (.aload_n 0, 1) := by decide +kernel
theorem dX5_isAct_16 : decode cX5_isAct 16 = .ok (.getfield 19, 3) := by decide +kernel
theorem dX5_isAct_19 : decode cX5_isAct 19 = .ok (.iload_n 1, 1) := by decide +kernel
theorem dX5_isAct_20 : decode cX5_isAct 20 = .ok (.baload, 1) := by decide +kernel
theorem dX5_isAct_21 : decode cX5_isAct 21 = .ok (.ifCond .ne 7, 3) := by decide +kernel
theorem dX5_isAct_24 : decode cX5_isAct 24 = .ok (.iconst 0, 1) := by decide +kernel
theorem dX5_isAct_25 : decode cX5_isAct 25 = .ok (.goto 4, 3) := by decide +kernel
theorem dX5_isAct_28 : decode cX5_isAct 28 = .ok (.iconst 1, 1) := by decide +kernel
theorem dX5_isAct_29 : decode cX5_isAct 29 = .ok (.putfield 34, 3) := by decide +kernel
theorem dX5_isAct_32 : decode cX5_isAct 32 = .ok (.aload_n 0, 1) := by decide +kernel
theorem dX5_isAct_33 : decode cX5_isAct 33 = .ok (.getfield 34, 3) := by decide +kernel
theorem dX5_isAct_36 : decode cX5_isAct 36 = .ok (.ifCond .ne 7, 3) := by decide +kernel
theorem dX5_isAct_39 : decode cX5_isAct 39 = .ok (.iconst 1, 1) := by decide +kernel
theorem dX5_isAct_40 : decode cX5_isAct 40 = .ok (.goto 4, 3) := by decide +kernel
theorem dX5_isAct_43 : decode cX5_isAct 43 = .ok (.iconst 0, 1) := by decide +kernel
theorem dX5_isAct_44 : decode cX5_isAct 44 = .ok (.ireturn, 1) := by decide +kernel
set_option maxRecDepth 20000 in
theorem ggX5_strike_X5_isAct : GoodIn wsX5_strike wsX5_isAct := goodIn_r _ [7, 8, 1, 9, 10, 11, 6, 12, 13, 14, 15, 16, 17, 18, 19, 20, 21, 22, 23, 24, 25, 26, 27, 28, 29, 30] (by decide +kernel) (by decide +kernel)
set_option maxRecDepth 20000 in
theorem gX5_strike_X5_isAct : GoodIn wsX5_strike (wsV RX5 137 RX5 yX5_isAct wsX5_isAct) := goodIn_app (goodIn_of _ (by decide +kernel)) ggX5_strike_X5_isAct
theorem dX5_strike_0 : decode cX5_strike 0 = .ok (.aload_n 0, 1) := by decide +kernel
theorem dX5_strike_1 : decode cX5_strike 1 = .ok (.iload_n 1, 1) := by decide +kernel
theorem dX5_strike_2 : decode cX5_strike 2 = .ok (.invokevirtual 137, 3) := by decide +kernel
theorem dX5_strike_5 : decode cX5_strike 5 = .ok (.ifCond .ne 5, 3) := by decide +kernel
theorem dX5_strike_8 : decode cX5_strike 8 = .ok (.iconst 0, 1) := by decide +kernel
theorem dX5_strike_9 : decode cX5_strike 9 = .ok (.ireturn, 1) := by decide +kernel
theorem dX5_strike_10 : decode cX5_strike 10 = .ok (.aload_n 0, 1) := by decide +kernel
theorem dX5_strike_11 : decode cX5_strike 11 = .ok (.getfield 19, 3) := by decide +kernel
theorem dX5_strike_14 : decode cX5_strike 14 = .ok (.iload_n 1, 1) := by decide +kernel
theorem dX5_strike_15 : decode cX5_strike 15 = .ok (.iconst 1, 1) := by decide +kernel
theorem dX5_strike_16 : decode cX5_strike 16 = .ok (.bastore, 1) := by decide +kernel
theorem dX5_strike_17 : decode cX5_strike 17 = .ok (.aload_n 0, 1) := by decide +kernel
theorem dX5_strike_18 : decode cX5_strike 18 = .ok (.getfield 7, 3) := by decide +kernel
theorem dX5_strike_21 : decode cX5_strike 21 = .ok (.iload_n 1, 1) := by decide +kernel
theorem dX5_strike_22 : decode cX5_strike 22 = .ok (.iaload, 1) := by decide +kernel
theorem dX5_strike_23 : decode cX5_strike 23 = .ok (.ireturn, 1) := by decide +kernel
set_option maxRecDepth 20000 in
theorem ggX5_isDone_X5_isAct : GoodIn wsX5_isDone wsX5_isAct := goodIn_r _ [6, 7, 8, 9, 10, 11, 5, 12, 90, 91, 92, 93, 94, 95, 96, 97, 98, 99, 100, 101, 102, 103, 104, 105, 106, 107] (by decide +kernel) (by decide +kernel)
set_option maxRecDepth 20000 in
theorem gX5_isDone_X5_isAct : GoodIn wsX5_isDone (wsV RX5 137 RX5 yX5_isAct wsX5_isAct) := goodIn_app (goodIn_of _ (by decide +kernel)) ggX5_isDone_X5_isAct
set_option maxRecDepth 20000 in
theorem ggX5_isDone_X5_goNow : GoodIn wsX5_isDone wsX5_goNow := goodIn_r _ [16, 17, 18, 19, 20, 5, 21, 22, 23, 24, 25, 26, 27, 28, 29, 30, 31, 32, 33, 34, 35, 36, 7, 37, 8, 1, 38, 39, 40, 41, 42, 43, 44, 45, 46, 47, 48, 49, 50, 51, 52, 53, 54, 55, 56, 57, 58, 59, 60, 61, 62, 63, 64, 65, 66, 67, 68, 69, 70, 71, 72, 73, 74, 75, 76, 77, 78, 79, 80, 81, 82, 83, 84, 85, 86, 87, 88, 89, 90, 91, 92, 93, 94, 95, 96, 97, 98, 99, 100, 101, 102, 103, 104, 105, 106, 107] (by decide +kernel) (by decide +kernel)
set_option maxRecDepth 20000 in
theorem gX5_isDone_X5_goNow : GoodIn wsX5_isDone (wsV RX5 134 RX5 yX5_goNow wsX5_goNow) := goodIn_app (goodIn_of _ (by decide +kernel)) ggX5_isDone_X5_goNow
theorem dX5_isDone_0 : decode cX5_isDone 0 = .ok (.aload_n 0, 1) := by decide +kernel
theorem dX5_isDone_1 : decode cX5_isDone 1 = .ok (.iload_n 1, 1) := by decide +kernel
theorem dX5_isDone_2 : decode cX5_isDone 2 = .ok (.invokevirtual 137, 3) := by decide +kernel
theorem dX5_isDone_5 : decode cX5_isDone 5 = .ok (.ifCond .ne 5, 3) := by decide +kernel
theorem dX5_isDone_8 : decode cX5_isDone 8 = .ok (.iconst 0, 1) := by decide +kernel
theorem dX5_isDone_9 : decode cX5_isDone 9 = .ok (.ireturn, 1) := by decide +kernel
theorem dX5_isDone_10 : decode cX5_isDone 10 = .ok (.aload_n 0, 1) := by decide +kernel
theorem dX5_isDone_11 : decode cX5_isDone 11 = .ok (.invokevirtual 134, 3) := by decide +kernel
theorem dX5_isDone_14 : decode cX5_isDone 14 = .ok (.aload_n 0, 1) := by decide +kernel
theorem dX5_isDone_15 : decode cX5_isDone 15 = .ok (.getfield 23, 3) := by decide +kernel
theorem dX5_isDone_18 : decode cX5_isDone 18 = .ok (.iload_n 1, 1) := by decide +kernel
theorem dX5_isDone_19 : decode cX5_isDone 19 = .ok (.baload, 1) := by decide +kernel
theorem dX5_isDone_20 : decode cX5_isDone 20 = .ok (.ireturn, 1) := by decide +kernel
theorem dX5_acts_0 : decode cX5_acts 0 = .ok (.aload_n 0, 1) := by decide +kernel
theorem dX5_acts_1 : decode cX5_acts 1 = .ok (.iconst 0, 1) := by decide +kernel
theorem dX5_acts_2 : decode cX5_acts 2 = .ok (.putfield 34, 3) := by decide +kernel
theorem dX5_acts_5 : decode cX5_acts 5 = .ok (.aload_n 0, 1) := by decide +kernel
theorem dX5_acts_6 : decode cX5_acts 6 = .ok (.getfield 105, 3) := by decide +kernel
theorem dX5_acts_9 : decode cX5_acts 9 = .ok (.ireturn, 1) := by decide +kernel
set_option maxRecDepth 20000 in
theorem ggX5_close_X5_in : GoodIn wsX5_close wsX5_in := goodIn_r _ [6] (by decide +kernel) (by decide +kernel)
set_option maxRecDepth 20000 in
theorem gX5_close_X5_in : GoodIn wsX5_close (va_wsS RX5 128 yX5_in wsX5_in) := goodIn_app (goodIn_of _ (by decide +kernel)) ggX5_close_X5_in
theorem dX5_close_0 : decode cX5_close 0 = .ok (.aload_n 0, 1) := by decide +kernel
theorem dX5_close_1 : decode cX5_close 1 = .ok (.iload_n 1, 1) := by decide +kernel
theorem dX5_close_2 : decode cX5_close 2 = .ok (.iconst 1, 1) := by decide +kernel
theorem dX5_close_3 : decode cX5_close 3 = .ok (.bipush 24, 2) := by decide +kernel
theorem dX5_close_5 : decode cX5_close 5 = .ok (.invokestatic 128, 3) := by decide +kernel
theorem dX5_close_8 : decode cX5_close 8 = .ok (.ifCond .ne 7, 3) := by decide +kernel
theorem dX5_close_11 : decode cX5_close 11 = .ok (.iconst 1, 1) := by decide +kernel
theorem dX5_close_12 : decode cX5_close 12 = .ok (.goto 19, 3) := by decide +kernel
theorem dX5_close_15 : decode cX5_close 15 = .ok (.aload_n 0, 1) := by decide +kernel
theorem dX5_close_16 : decode cX5_close 16 = .ok (.getfield 122, 3) := by decide +kernel
theorem dX5_close_19 : decode cX5_close 19 = .ok (.iload_n 1, 1) := by decide +kernel
theorem dX5_close_20 : decode cX5_close 20 = .ok (.iadd, 1) := by decide +kernel
theorem dX5_close_21 : decode cX5_close 21 = .ok (.bipush 120, 2) := by decide +kernel
theorem dX5_close_23 : decode cX5_close 23 = .ok (.if_icmp .le 7, 3) := by decide +kernel
theorem dX5_close_26 : decode cX5_close 26 = .ok (.iconst 2, 1) := by decide +kernel
theorem dX5_close_27 : decode cX5_close 27 = .ok (.goto 4, 3) := by decide +kernel
theorem dX5_close_30 : decode cX5_close 30 = .ok (.iconst 0, 1) := by decide +kernel
theorem dX5_close_31 : decode cX5_close 31 = .ok (.putfield 34, 3) := by decide +kernel
theorem dX5_close_34 : decode cX5_close 34 = .ok (.aload_n 0, 1) := by decide +kernel
theorem dX5_close_35 : decode cX5_close 35 = .ok (.getfield 34, 3) := by decide +kernel
theorem dX5_close_38 : decode cX5_close 38 = .ok (.ifCond .le 5, 3) := by decide +kernel
theorem dX5_close_41 : decode cX5_close 41 = .ok (.iconst 0, 1) := by decide +kernel
theorem dX5_close_42 : decode cX5_close 42 = .ok (.ireturn, 1) := by decide +kernel
theorem dX5_close_43 : decode cX5_close 43 = .ok (.aload_n 0, 1) := by decide +kernel
theorem dX5_close_44 : decode cX5_close 44 = .ok (.dup, 1) := by decide +kernel
theorem dX5_close_45 : decode cX5_close 45 = .ok (.getfield 122, 3) := by decide +kernel
theorem dX5_close_48 : decode cX5_close 48 = .ok (.iload_n 1, 1) := by decide +kernel
theorem dX5_close_49 : decode cX5_close 49 = .ok (.iadd, 1) := by decide +kernel
theorem dX5_close_50 : decode cX5_close 50 = .ok (.putfield 122, 3) := by decide +kernel
theorem dX5_close_53 : decode cX5_close 53 = .ok (.aload_n 0, 1) := by decide +kernel
theorem dX5_close_54 : decode cX5_close 54 = .ok (.getfield 122, 3) := by decide +kernel
theorem dX5_close_57 : decode cX5_close 57 = .ok (.ireturn, 1) := by decide +kernel
theorem dX5_month_0 : decode cX5_month 0 = .ok (.aload_n 0, 1) := by decide +kernel
theorem dX5_month_1 : decode cX5_month 1 = .ok (.iconst 0, 1) := by decide +kernel
theorem dX5_month_2 : decode cX5_month 2 = .ok (.putfield 34, 3) := by decide +kernel
theorem dX5_month_5 : decode cX5_month 5 = .ok (.aload_n 0, 1) := by decide +kernel
theorem dX5_month_6 : decode cX5_month 6 = .ok (.getfield 122, 3) := by decide +kernel
theorem dX5_month_9 : decode cX5_month 9 = .ok (.ireturn, 1) := by decide +kernel
set_option maxRecDepth 20000 in
theorem ggX5_look_X5_goNow : GoodIn wsX5_look wsX5_goNow := goodIn_r _ [6, 7, 8, 9, 10, 5, 11, 12, 13, 14, 15, 16, 17, 18, 19, 20, 21, 22, 23, 24, 25, 26, 27, 28, 29, 30, 31, 32, 33, 34, 35, 36, 37, 38, 39, 40, 41, 42, 43, 44, 45, 46, 47, 48, 49, 50, 51, 52, 53, 54, 55, 56, 57, 58, 59, 60, 61, 62, 63, 64, 65, 66, 67, 68, 69, 70, 71, 72, 73, 74, 75, 76, 77, 78, 79, 80, 81, 82, 83, 84, 85, 86, 87, 88, 89, 90, 91, 92, 93, 94, 95, 96, 97, 98, 99, 100] (by decide +kernel) (by decide +kernel)
set_option maxRecDepth 20000 in
theorem gX5_look_X5_goNow : GoodIn wsX5_look (wsV RX5 134 RX5 yX5_goNow wsX5_goNow) := goodIn_app (goodIn_of _ (by decide +kernel)) ggX5_look_X5_goNow
theorem dX5_look_0 : decode cX5_look 0 = .ok (.aload_n 0, 1) := by decide +kernel
theorem dX5_look_1 : decode cX5_look 1 = .ok (.iconst 0, 1) := by decide +kernel
theorem dX5_look_2 : decode cX5_look 2 = .ok (.putfield 34, 3) := by decide +kernel
theorem dX5_look_5 : decode cX5_look 5 = .ok (.aload_n 0, 1) := by decide +kernel
theorem dX5_look_6 : decode cX5_look 6 = .ok (.invokevirtual 134, 3) := by decide +kernel
theorem dX5_look_9 : decode cX5_look 9 = .ok (.return_, 1) := by decide +kernel
set_option maxRecDepth 20000 in
theorem ggX5_state_X5_look : GoodIn wsX5_state wsX5_look := goodIn_r _ [6, 7, 8, 9, 10, 5, 11, 12, 13, 14, 15, 16, 17, 18, 19, 20, 1, 21, 22, 23, 24, 25, 26, 27, 28, 29, 30, 31, 32, 33, 34, 35, 36, 37, 38, 39, 40, 41, 42, 43, 44, 45, 46, 47, 48, 49, 50, 51, 52, 53, 54, 55, 56, 57, 58, 59, 60, 61, 62, 63, 64, 65, 66, 67, 68, 69, 70, 71, 72, 73, 74, 75, 76, 77, 78, 79, 80, 81, 82, 83, 84, 85, 86, 87, 88, 89, 90, 91, 92, 93, 94, 95, 96, 97, 98, 99, 100, 101, 102, 103, 104] (by decide +kernel) (by decide +kernel)
set_option maxRecDepth 20000 in
theorem gX5_state_X5_look : GoodIn wsX5_state (wsV RX5 140 RX5 yX5_look wsX5_look) := goodIn_app (goodIn_of _ (by decide +kernel)) ggX5_state_X5_look
theorem dX5_state_0 : decode cX5_state 0 = .ok (.aload_n 0, 1) := by decide +kernel
theorem dX5_state_1 : decode cX5_state 1 = .ok (.invokevirtual 140, 3) := by decide +kernel
theorem dX5_state_4 : decode cX5_state 4 = .ok (.aload_n 0, 1) := by decide +kernel
theorem dX5_state_5 : decode cX5_state 5 = .ok (.getfield 61, 3) := by decide +kernel
theorem dX5_state_8 : decode cX5_state 8 = .ok (.ireturn, 1) := by decide +kernel
set_option maxRecDepth 20000 in
theorem ggX5_account_X5_look : GoodIn wsX5_account wsX5_look := goodIn_r _ [6, 7, 8, 9, 10, 5, 11, 12, 13, 14, 15, 16, 17, 18, 19, 20, 21, 1, 22, 23, 24, 25, 26, 27, 28, 29, 30, 31, 32, 33, 34, 35, 36, 37, 38, 39, 40, 41, 42, 43, 44, 45, 46, 47, 48, 49, 50, 51, 52, 53, 54, 55, 56, 57, 58, 59, 60, 61, 62, 63, 64, 65, 66, 67, 68, 69, 70, 71, 72, 73, 74, 75, 76, 77, 78, 79, 80, 81, 82, 83, 84, 85, 86, 87, 88, 89, 90, 91, 92, 93, 94, 95, 96, 97, 98, 99, 100, 101, 102, 103, 104] (by decide +kernel) (by decide +kernel)
set_option maxRecDepth 20000 in
theorem gX5_account_X5_look : GoodIn wsX5_account (wsV RX5 140 RX5 yX5_look wsX5_look) := goodIn_app (goodIn_of _ (by decide +kernel)) ggX5_account_X5_look
theorem dX5_account_0 : decode cX5_account 0 = .ok (.aload_n 0, 1) := by decide +kernel
theorem dX5_account_1 : decode cX5_account 1 = .ok (.invokevirtual 140, 3) := by decide +kernel
theorem dX5_account_4 : decode cX5_account 4 = .ok (.aload_n 0, 1) := by decide +kernel
theorem dX5_account_5 : decode cX5_account 5 = .ok (.getfield 40, 3) := by decide +kernel
theorem dX5_account_8 : decode cX5_account 8 = .ok (.ireturn, 1) := by decide +kernel
set_option maxRecDepth 20000 in
theorem ggX5_loan_X5_look : GoodIn wsX5_loan wsX5_look := goodIn_r _ [6, 7, 8, 9, 10, 5, 11, 12, 13, 14, 15, 16, 17, 18, 19, 20, 21, 22, 1, 23, 24, 25, 26, 27, 28, 29, 30, 31, 32, 33, 34, 35, 36, 37, 38, 39, 40, 41, 42, 43, 44, 45, 46, 47, 48, 49, 50, 51, 52, 53, 54, 55, 56, 57, 58, 59, 60, 61, 62, 63, 64, 65, 66, 67, 68, 69, 70, 71, 72, 73, 74, 75, 76, 77, 78, 79, 80, 81, 82, 83, 84, 85, 86, 87, 88, 89, 90, 91, 92, 93, 94, 95, 96, 97, 98, 99, 100, 101, 102, 103, 104] (by decide +kernel) (by decide +kernel)
set_option maxRecDepth 20000 in
theorem gX5_loan_X5_look : GoodIn wsX5_loan (wsV RX5 140 RX5 yX5_look wsX5_look) := goodIn_app (goodIn_of _ (by decide +kernel)) ggX5_loan_X5_look
theorem dX5_loan_0 : decode cX5_loan 0 = .ok (.aload_n 0, 1) := by decide +kernel
theorem dX5_loan_1 : decode cX5_loan 1 = .ok (.invokevirtual 140, 3) := by decide +kernel
theorem dX5_loan_4 : decode cX5_loan 4 = .ok (.aload_n 0, 1) := by decide +kernel
theorem dX5_loan_5 : decode cX5_loan 5 = .ok (.getfield 52, 3) := by decide +kernel
theorem dX5_loan_8 : decode cX5_loan 8 = .ok (.ireturn, 1) := by decide +kernel
set_option maxRecDepth 20000 in
theorem ggX5_arrears_X5_look : GoodIn wsX5_arrears wsX5_look := goodIn_r _ [6, 7, 8, 9, 10, 5, 11, 12, 13, 14, 15, 16, 17, 18, 19, 20, 21, 22, 23, 1, 24, 25, 26, 27, 28, 29, 30, 31, 32, 33, 34, 35, 36, 37, 38, 39, 40, 41, 42, 43, 44, 45, 46, 47, 48, 49, 50, 51, 52, 53, 54, 55, 56, 57, 58, 59, 60, 61, 62, 63, 64, 65, 66, 67, 68, 69, 70, 71, 72, 73, 74, 75, 76, 77, 78, 79, 80, 81, 82, 83, 84, 85, 86, 87, 88, 89, 90, 91, 92, 93, 94, 95, 96, 97, 98, 99, 100, 101, 102, 103, 104] (by decide +kernel) (by decide +kernel)
set_option maxRecDepth 20000 in
theorem gX5_arrears_X5_look : GoodIn wsX5_arrears (wsV RX5 140 RX5 yX5_look wsX5_look) := goodIn_app (goodIn_of _ (by decide +kernel)) ggX5_arrears_X5_look
theorem dX5_arrears_0 : decode cX5_arrears 0 = .ok (.aload_n 0, 1) := by decide +kernel
theorem dX5_arrears_1 : decode cX5_arrears 1 = .ok (.invokevirtual 140, 3) := by decide +kernel
theorem dX5_arrears_4 : decode cX5_arrears 4 = .ok (.aload_n 0, 1) := by decide +kernel
theorem dX5_arrears_5 : decode cX5_arrears 5 = .ok (.getfield 64, 3) := by decide +kernel
theorem dX5_arrears_8 : decode cX5_arrears 8 = .ok (.ireturn, 1) := by decide +kernel
set_option maxRecDepth 20000 in
theorem ggX5_deathSum_X5_look : GoodIn wsX5_deathSum wsX5_look := goodIn_r _ [7, 8, 9, 10, 11, 6, 12, 2, 13, 14, 15, 16, 17, 18, 19, 20, 1, 21, 22, 23, 24, 25, 26, 27, 28, 29, 30, 31, 32, 33, 34, 35, 36, 37, 38, 39, 40, 41, 42, 43, 44, 45, 46, 47, 48, 49, 50, 51, 52, 53, 54, 55, 56, 57, 58, 59, 60, 61, 62, 63, 64, 65, 66, 67, 68, 69, 70, 71, 72, 73, 74, 75, 76, 77, 78, 79, 80, 81, 82, 83, 84, 85, 86, 87, 88, 89, 90, 91, 92, 93, 94, 95, 96, 97, 98, 99, 100, 101, 102, 103, 104] (by decide +kernel) (by decide +kernel)
set_option maxRecDepth 20000 in
theorem gX5_deathSum_X5_look : GoodIn wsX5_deathSum (wsV RX5 140 RX5 yX5_look wsX5_look) := goodIn_app (goodIn_of _ (by decide +kernel)) ggX5_deathSum_X5_look
set_option maxRecDepth 20000 in
theorem ggX5_deathSum_X5_deathSumIn : GoodIn wsX5_deathSum wsX5_deathSumIn := goodIn_r _ [56, 57, 58, 21, 59, 60, 61, 62, 6, 63, 64, 65, 66, 67, 87, 88, 89, 90, 91, 92, 93, 94, 95, 96, 97, 98, 99, 100, 101, 102, 103, 104] (by decide +kernel) (by decide +kernel)
set_option maxRecDepth 20000 in
theorem gX5_deathSum_X5_deathSumIn : GoodIn wsX5_deathSum (wsV RX5 55 RX5 yX5_deathSumIn wsX5_deathSumIn) := goodIn_app (goodIn_of _ (by decide +kernel)) ggX5_deathSum_X5_deathSumIn
theorem dX5_deathSum_0 : decode cX5_deathSum 0 = .ok (.aload_n 0, 1) := by decide +kernel
theorem dX5_deathSum_1 : decode cX5_deathSum 1 = .ok (.invokevirtual 140, 3) := by decide +kernel
theorem dX5_deathSum_4 : decode cX5_deathSum 4 = .ok (.aload_n 0, 1) := by decide +kernel
theorem dX5_deathSum_5 : decode cX5_deathSum 5 = .ok (.getfield 61, 3) := by decide +kernel
theorem dX5_deathSum_8 : decode cX5_deathSum 8 = .ok (.iconst 1, 1) := by decide +kernel
theorem dX5_deathSum_9 : decode cX5_deathSum 9 = .ok (.if_icmp .le 7, 3) := by decide +kernel
theorem dX5_deathSum_12 : decode cX5_deathSum 12 = .ok (.iconst 0, 1) := by decide +kernel
theorem dX5_deathSum_13 : decode cX5_deathSum 13 = .ok (.goto 12, 3) := by decide +kernel
theorem dX5_deathSum_16 : decode cX5_deathSum 16 = .ok (.aload_n 0, 1) := by decide +kernel
theorem dX5_deathSum_17 : decode cX5_deathSum 17 = .ok (.aload_n 0, 1) := by decide +kernel
theorem dX5_deathSum_18 : decode cX5_deathSum 18 = .ok (.getfield 122, 3) := by decide +kernel
theorem dX5_deathSum_21 : decode cX5_deathSum 21 = .ok (.invokevirtual 55, 3) := by decide +kernel
theorem dX5_deathSum_24 : decode cX5_deathSum 24 = .ok (.l2i, 1) := by decide +kernel
theorem dX5_deathSum_25 : decode cX5_deathSum 25 = .ok (.ireturn, 1) := by decide +kernel
set_option maxRecDepth 20000 in
theorem ggX5_paid_X5_look : GoodIn wsX5_paid wsX5_look := goodIn_r _ [6, 7, 8, 9, 10, 5, 11, 12, 13, 14, 15, 16, 17, 18, 19, 20, 21, 22, 23, 24, 25, 26, 1, 27, 28, 29, 30, 31, 32, 33, 34, 35, 36, 37, 38, 39, 40, 41, 42, 43, 44, 45, 46, 47, 48, 49, 50, 51, 52, 53, 54, 55, 56, 57, 58, 59, 60, 61, 62, 63, 64, 65, 66, 67, 68, 69, 70, 71, 72, 73, 74, 75, 76, 77, 78, 79, 80, 81, 82, 83, 84, 85, 86, 87, 88, 89, 90, 91, 92, 93, 94, 95, 96, 97, 98, 99, 100, 101, 102, 103, 104] (by decide +kernel) (by decide +kernel)
set_option maxRecDepth 20000 in
theorem gX5_paid_X5_look : GoodIn wsX5_paid (wsV RX5 140 RX5 yX5_look wsX5_look) := goodIn_app (goodIn_of _ (by decide +kernel)) ggX5_paid_X5_look
theorem dX5_paid_0 : decode cX5_paid 0 = .ok (.aload_n 0, 1) := by decide +kernel
theorem dX5_paid_1 : decode cX5_paid 1 = .ok (.invokevirtual 140, 3) := by decide +kernel
theorem dX5_paid_4 : decode cX5_paid 4 = .ok (.aload_n 0, 1) := by decide +kernel
theorem dX5_paid_5 : decode cX5_paid 5 = .ok (.getfield 73, 3) := by decide +kernel
theorem dX5_paid_8 : decode cX5_paid 8 = .ok (.ireturn, 1) := by decide +kernel
set_option maxRecDepth 20000 in
theorem ggX5_charge_X5_look : GoodIn wsX5_charge wsX5_look := goodIn_r _ [7, 8, 9, 10, 11, 6, 12, 2, 13, 14, 15, 16, 17, 18, 19, 20, 1, 21, 22, 23, 24, 25, 26, 27, 28, 29, 30, 31, 32, 33, 34, 35, 36, 37, 38, 39, 40, 41, 42, 43, 44, 45, 46, 47, 48, 49, 50, 51, 52, 53, 54, 55, 56, 57, 58, 59, 60, 61, 62, 63, 64, 65, 66, 67, 68, 69, 70, 71, 72, 73, 74, 75, 76, 77, 78, 79, 80, 81, 82, 83, 84, 85, 86, 87, 88, 89, 90, 91, 92, 93, 94, 95, 96, 97, 98, 99, 100, 101, 102, 103, 104] (by decide +kernel) (by decide +kernel)
set_option maxRecDepth 20000 in
theorem gX5_charge_X5_look : GoodIn wsX5_charge (wsV RX5 140 RX5 yX5_look wsX5_look) := goodIn_app (goodIn_of _ (by decide +kernel)) ggX5_charge_X5_look
set_option maxRecDepth 20000 in
theorem ggX5_charge_X5_chargeIn : GoodIn wsX5_charge wsX5_chargeIn := goodIn_r _ [75, 21, 76, 53, 54, 55, 6, 56, 57, 58, 59, 60, 61, 62, 63, 64, 65, 66, 67, 87, 88, 89, 90, 91, 92, 93, 94, 95, 96, 97, 98, 99, 100, 101, 102, 103, 104] (by decide +kernel) (by decide +kernel)
set_option maxRecDepth 20000 in
theorem gX5_charge_X5_chargeIn : GoodIn wsX5_charge (wsV RX5 87 RX5 yX5_chargeIn wsX5_chargeIn) := goodIn_app (goodIn_of _ (by decide +kernel)) ggX5_charge_X5_chargeIn
theorem dX5_charge_0 : decode cX5_charge 0 = .ok (.aload_n 0, 1) := by decide +kernel
theorem dX5_charge_1 : decode cX5_charge 1 = .ok (.invokevirtual 140, 3) := by decide +kernel
theorem dX5_charge_4 : decode cX5_charge 4 = .ok (.aload_n 0, 1) := by decide +kernel
theorem dX5_charge_5 : decode cX5_charge 5 = .ok (.getfield 61, 3) := by decide +kernel
theorem dX5_charge_8 : decode cX5_charge 8 = .ok (.iconst 1, 1) := by decide +kernel
theorem dX5_charge_9 : decode cX5_charge 9 = .ok (.if_icmp .le 7, 3) := by decide +kernel
theorem dX5_charge_12 : decode cX5_charge 12 = .ok (.iconst 0, 1) := by decide +kernel
theorem dX5_charge_13 : decode cX5_charge 13 = .ok (.goto 11, 3) := by decide +kernel
theorem dX5_charge_16 : decode cX5_charge 16 = .ok (.aload_n 0, 1) := by decide +kernel
theorem dX5_charge_17 : decode cX5_charge 17 = .ok (.aload_n 0, 1) := by decide +kernel
theorem dX5_charge_18 : decode cX5_charge 18 = .ok (.getfield 122, 3) := by decide +kernel
theorem dX5_charge_21 : decode cX5_charge 21 = .ok (.invokevirtual 87, 3) := by decide +kernel
theorem dX5_charge_24 : decode cX5_charge 24 = .ok (.ireturn, 1) := by decide +kernel
set_option maxRecDepth 20000 in
theorem ggX5_grace_X5_look : GoodIn wsX5_grace wsX5_look := goodIn_r _ [7, 8, 9, 10, 11, 6, 12, 13, 14, 15, 16, 17, 18, 19, 20, 21, 1, 22, 23, 24, 2, 25, 26, 27, 28, 29, 30, 31, 32, 33, 34, 35, 36, 37, 38, 39, 40, 41, 42, 43, 44, 45, 46, 47, 48, 49, 50, 51, 52, 53, 54, 55, 56, 57, 58, 59, 60, 61, 62, 63, 64, 65, 66, 67, 68, 69, 70, 71, 72, 73, 74, 75, 76, 77, 78, 79, 80, 81, 82, 83, 84, 85, 86, 87, 88, 89, 90, 91, 92, 93, 94, 95, 96, 97, 98, 99, 100, 101, 102, 103, 104] (by decide +kernel) (by decide +kernel)
set_option maxRecDepth 20000 in
theorem gX5_grace_X5_look : GoodIn wsX5_grace (wsV RX5 140 RX5 yX5_look wsX5_look) := goodIn_app (goodIn_of _ (by decide +kernel)) ggX5_grace_X5_look
theorem dX5_grace_0 : decode cX5_grace 0 = .ok (.aload_n 0, 1) := by decide +kernel
theorem dX5_grace_1 : decode cX5_grace 1 = .ok (.invokevirtual 140, 3) := by decide +kernel
theorem dX5_grace_4 : decode cX5_grace 4 = .ok (.aload_n 0, 1) := by decide +kernel
theorem dX5_grace_5 : decode cX5_grace 5 = .ok (.getfield 61, 3) := by decide +kernel
theorem dX5_grace_8 : decode cX5_grace 8 = .ok (.iconst 1, 1) := by decide +kernel
theorem dX5_grace_9 : decode cX5_grace 9 = .ok (.if_icmp .ne 10, 3) := by decide +kernel
theorem dX5_grace_12 : decode cX5_grace 12 = .ok (.aload_n 0, 1) := by decide +kernel
theorem dX5_grace_13 : decode cX5_grace 13 = .ok (.getfield 67, 3) := by decide +kernel
theorem dX5_grace_16 : decode cX5_grace 16 = .ok (.goto 4, 3) := by decide +kernel
theorem dX5_grace_19 : decode cX5_grace 19 = .ok (.iconst 0, 1) := by decide +kernel
theorem dX5_grace_20 : decode cX5_grace 20 = .ok (.ireturn, 1) := by decide +kernel
set_option maxRecDepth 20000 in
theorem ggX5_corridor_X5_in : GoodIn wsX5_corridor wsX5_in := goodIn_r _ [5] (by decide +kernel) (by decide +kernel)
set_option maxRecDepth 20000 in
theorem gX5_corridor_X5_in : GoodIn wsX5_corridor (va_wsS RX5 128 yX5_in wsX5_in) := goodIn_app (goodIn_of _ (by decide +kernel)) ggX5_corridor_X5_in
set_option maxRecDepth 20000 in
theorem ggX5_corridor_X5_corridorAt : GoodIn wsX5_corridor wsX5_corridorAt := goodIn_r _ [8] (by decide +kernel) (by decide +kernel)
set_option maxRecDepth 20000 in
theorem gX5_corridor_X5_corridorAt : GoodIn wsX5_corridor (va_wsS RX5 47 yX5_corridorAt wsX5_corridorAt) := goodIn_app (goodIn_of _ (by decide +kernel)) ggX5_corridor_X5_corridorAt
theorem dX5_corridor_0 : decode cX5_corridor 0 = .ok (.aload_n 0, 1) := by decide +kernel
theorem dX5_corridor_1 : decode cX5_corridor 1 = .ok (.iload_n 1, 1) := by decide +kernel
theorem dX5_corridor_2 : decode cX5_corridor 2 = .ok (.bipush 18, 2) := by decide +kernel
theorem dX5_corridor_4 : decode cX5_corridor 4 = .ok (.bipush 120, 2) := by decide +kernel
theorem dX5_corridor_6 : decode cX5_corridor 6 = .ok (.invokestatic 128, 3) := by decide +kernel
theorem dX5_corridor_9 : decode cX5_corridor 9 = .ok (.ifCond .eq 7, 3) := by decide +kernel
theorem dX5_corridor_12 : decode cX5_corridor 12 = .ok (.iconst 0, 1) := by decide +kernel
theorem dX5_corridor_13 : decode cX5_corridor 13 = .ok (.goto 4, 3) := by decide +kernel
theorem dX5_corridor_16 : decode cX5_corridor 16 = .ok (.iconst 1, 1) := by decide +kernel
theorem dX5_corridor_17 : decode cX5_corridor 17 = .ok (.putfield 34, 3) := by decide +kernel
theorem dX5_corridor_20 : decode cX5_corridor 20 = .ok (.aload_n 0, 1) := by decide +kernel
theorem dX5_corridor_21 : decode cX5_corridor 21 = .ok (.getfield 34, 3) := by decide +kernel
theorem dX5_corridor_24 : decode cX5_corridor 24 = .ok (.ifCond .ne 10, 3) := by decide +kernel
theorem dX5_corridor_27 : decode cX5_corridor 27 = .ok (.iload_n 1, 1) := by decide +kernel
theorem dX5_corridor_28 : decode cX5_corridor 28 = .ok (.invokestatic 47, 3) := by decide +kernel
theorem dX5_corridor_31 : decode cX5_corridor 31 = .ok (.goto 4, 3) := by decide +kernel
theorem dX5_corridor_34 : decode cX5_corridor 34 = .ok (.iconst 0, 1) := by decide +kernel
theorem dX5_corridor_35 : decode cX5_corridor 35 = .ok (.ireturn, 1) := by decide +kernel
set_option maxRecDepth 20000 in
theorem ggX5_isMonth_X5_in : GoodIn wsX5_isMonth wsX5_in := goodIn_r _ [6] (by decide +kernel) (by decide +kernel)
set_option maxRecDepth 20000 in
theorem gX5_isMonth_X5_in : GoodIn wsX5_isMonth (va_wsS RX5 128 yX5_in wsX5_in) := goodIn_app (goodIn_of _ (by decide +kernel)) ggX5_isMonth_X5_in
set_option maxRecDepth 20000 in
theorem ggX5_isMonth_X5_goTo : GoodIn wsX5_isMonth wsX5_goTo := goodIn_r _ [10, 11, 12, 13, 5, 14, 15, 16, 17, 18, 19, 20, 21, 22, 23, 24, 25, 26, 27, 28, 29, 30, 31, 32, 33, 34, 35, 36, 37, 38, 39, 40, 41, 42, 43, 44, 45, 46, 47, 48, 49, 50, 51, 52, 53, 54, 55, 56, 57, 58, 59, 60, 61, 62, 63, 64, 65, 66, 67, 68, 69, 70, 71, 72, 73, 74, 75, 76, 77, 78, 79, 80, 81, 82, 83, 84, 85, 86, 87, 88, 89, 90, 91, 92, 93, 94, 95, 96, 97, 98, 99] (by decide +kernel) (by decide +kernel)
set_option maxRecDepth 20000 in
theorem gX5_isMonth_X5_goTo : GoodIn wsX5_isMonth (wsV RX5 125 RX5 yX5_goTo wsX5_goTo) := goodIn_app (goodIn_of _ (by decide +kernel)) ggX5_isMonth_X5_goTo
theorem dX5_isMonth_0 : decode cX5_isMonth 0 = .ok (.aload_n 0, 1) := by decide +kernel
theorem dX5_isMonth_1 : decode cX5_isMonth 1 = .ok (.iload_n 1, 1) := by decide +kernel
theorem dX5_isMonth_2 : decode cX5_isMonth 2 = .ok (.iconst 0, 1) := by decide +kernel
theorem dX5_isMonth_3 : decode cX5_isMonth 3 = .ok (.aload_n 0, 1) := by decide +kernel
theorem dX5_isMonth_4 : decode cX5_isMonth 4 = .ok (.getfield 122, 3) := by decide +kernel
theorem dX5_isMonth_7 : decode cX5_isMonth 7 = .ok (.invokestatic 128, 3) := by decide +kernel
theorem dX5_isMonth_10 : decode cX5_isMonth 10 = .ok (.ifCond .eq 7, 3) := by decide +kernel
theorem dX5_isMonth_13 : decode cX5_isMonth 13 = .ok (.iconst 0, 1) := by decide +kernel
theorem dX5_isMonth_14 : decode cX5_isMonth 14 = .ok (.goto 4, 3) := by decide +kernel
theorem dX5_isMonth_17 : decode cX5_isMonth 17 = .ok (.iconst 1, 1) := by decide +kernel
theorem dX5_isMonth_18 : decode cX5_isMonth 18 = .ok (.putfield 34, 3) := by decide +kernel
theorem dX5_isMonth_21 : decode cX5_isMonth 21 = .ok (.aload_n 0, 1) := by decide +kernel
theorem dX5_isMonth_22 : decode cX5_isMonth 22 = .ok (.getfield 34, 3) := by decide +kernel
theorem dX5_isMonth_25 : decode cX5_isMonth 25 = .ok (.ifCond .ne 8, 3) := by decide +kernel
theorem dX5_isMonth_28 : decode cX5_isMonth 28 = .ok (.aload_n 0, 1) := by decide +kernel
theorem dX5_isMonth_29 : decode cX5_isMonth 29 = .ok (.iload_n 1, 1) := by decide +kernel
theorem dX5_isMonth_30 : decode cX5_isMonth 30 = .ok (.invokevirtual 125, 3) := by decide +kernel
theorem dX5_isMonth_33 : decode cX5_isMonth 33 = .ok (.aload_n 0, 1) := by decide +kernel
theorem dX5_isMonth_34 : decode cX5_isMonth 34 = .ok (.getfield 34, 3) := by decide +kernel
theorem dX5_isMonth_37 : decode cX5_isMonth 37 = .ok (.ifCond .ne 7, 3) := by decide +kernel
theorem dX5_isMonth_40 : decode cX5_isMonth 40 = .ok (.iconst 1, 1) := by decide +kernel
theorem dX5_isMonth_41 : decode cX5_isMonth 41 = .ok (.goto 4, 3) := by decide +kernel
theorem dX5_isMonth_44 : decode cX5_isMonth 44 = .ok (.iconst 0, 1) := by decide +kernel
theorem dX5_isMonth_45 : decode cX5_isMonth 45 = .ok (.ireturn, 1) := by decide +kernel
set_option maxRecDepth 20000 in
theorem ggX5_accountAt_X5_isMonth : GoodIn wsX5_accountAt wsX5_isMonth := goodIn_r _ [6, 7, 8, 9, 10, 5, 11, 12, 13, 14, 15, 16, 17, 18, 19, 20, 1, 21, 22, 23, 24, 25, 26, 27, 28, 29, 30, 31, 32, 33, 34, 35, 36, 37, 38, 39, 40, 41, 42, 43, 44, 45, 46, 47, 48, 49, 50, 51, 52, 53, 54, 55, 56, 57, 58, 59, 60, 61, 62, 63, 64, 65, 66, 67, 68, 69, 70, 71, 72, 73, 74, 75, 76, 77, 78, 79, 80, 81, 82, 83, 84, 85, 86, 87, 88, 89, 90, 91, 92, 93, 94, 95, 96, 97, 98, 99, 100, 101, 102, 103] (by decide +kernel) (by decide +kernel)
set_option maxRecDepth 20000 in
theorem gX5_accountAt_X5_isMonth : GoodIn wsX5_accountAt (wsV RX5 143 RX5 yX5_isMonth wsX5_isMonth) := goodIn_app (goodIn_of _ (by decide +kernel)) ggX5_accountAt_X5_isMonth
theorem dX5_accountAt_0 : decode cX5_accountAt 0 = .ok (.aload_n 0, 1) := by decide +kernel
theorem dX5_accountAt_1 : decode cX5_accountAt 1 = .ok (.iload_n 1, 1) := by decide +kernel
theorem dX5_accountAt_2 : decode cX5_accountAt 2 = .ok (.invokevirtual 143, 3) := by decide +kernel
theorem dX5_accountAt_5 : decode cX5_accountAt 5 = .ok (.ifCond .eq 10, 3) := by decide +kernel
theorem dX5_accountAt_8 : decode cX5_accountAt 8 = .ok (.aload_n 0, 1) := by decide +kernel
theorem dX5_accountAt_9 : decode cX5_accountAt 9 = .ok (.getfield 40, 3) := by decide +kernel
theorem dX5_accountAt_12 : decode cX5_accountAt 12 = .ok (.goto 4, 3) := by decide +kernel
theorem dX5_accountAt_15 : decode cX5_accountAt 15 = .ok (.iconst 0, 1) := by decide +kernel
theorem dX5_accountAt_16 : decode cX5_accountAt 16 = .ok (.ireturn, 1) := by decide +kernel
set_option maxRecDepth 20000 in
theorem ggX5_accountFromStart_X5_isMonth : GoodIn wsX5_accountFromStart wsX5_isMonth := goodIn_r _ [6, 7, 8, 9, 10, 5, 11, 12, 13, 14, 15, 16, 17, 18, 19, 20, 1, 21, 22, 23, 24, 25, 26, 27, 28, 29, 30, 31, 32, 33, 34, 35, 36, 37, 38, 39, 40, 41, 42, 43, 44, 45, 46, 47, 48, 49, 50, 51, 52, 53, 54, 55, 56, 57, 58, 59, 60, 61, 62, 63, 64, 65, 66, 67, 68, 69, 70, 71, 72, 73, 74, 75, 76, 77, 78, 79, 80, 81, 82, 83, 84, 85, 86, 87, 88, 89, 90, 91, 92, 93, 94, 95, 96, 97, 98, 99, 100, 101, 102, 103] (by decide +kernel) (by decide +kernel)
set_option maxRecDepth 20000 in
theorem gX5_accountFromStart_X5_isMonth : GoodIn wsX5_accountFromStart (wsV RX5 143 RX5 yX5_isMonth wsX5_isMonth) := goodIn_app (goodIn_of _ (by decide +kernel)) ggX5_accountFromStart_X5_isMonth
theorem dX5_accountFromStart_0 : decode cX5_accountFromStart 0 = .ok (.aload_n 0, 1) := by decide +kernel
theorem dX5_accountFromStart_1 : decode cX5_accountFromStart 1 = .ok (.iload_n 1, 1) := by decide +kernel
theorem dX5_accountFromStart_2 : decode cX5_accountFromStart 2 = .ok (.invokevirtual 143, 3) := by decide +kernel
theorem dX5_accountFromStart_5 : decode cX5_accountFromStart 5 = .ok (.ifCond .eq 10, 3) := by decide +kernel
theorem dX5_accountFromStart_8 : decode cX5_accountFromStart 8 = .ok (.aload_n 0, 1) := by decide +kernel
theorem dX5_accountFromStart_9 : decode cX5_accountFromStart 9 = .ok (.getfield 40, 3) := by decide +kernel
theorem dX5_accountFromStart_12 : decode cX5_accountFromStart 12 = .ok (.goto 4, 3) := by decide +kernel
theorem dX5_accountFromStart_15 : decode cX5_accountFromStart 15 = .ok (.iconst 0, 1) := by decide +kernel
theorem dX5_accountFromStart_16 : decode cX5_accountFromStart 16 = .ok (.ireturn, 1) := by decide +kernel
set_option maxRecDepth 20000 in
theorem ggX5_stateAt_X5_isMonth : GoodIn wsX5_stateAt wsX5_isMonth := goodIn_r _ [6, 7, 8, 9, 10, 5, 11, 12, 13, 14, 15, 16, 17, 18, 19, 1, 20, 21, 22, 23, 24, 25, 26, 27, 28, 29, 30, 31, 32, 33, 34, 35, 36, 37, 38, 39, 40, 41, 42, 43, 44, 45, 46, 47, 48, 49, 50, 51, 52, 53, 54, 55, 56, 57, 58, 59, 60, 61, 62, 63, 64, 65, 66, 67, 68, 69, 70, 71, 72, 73, 74, 75, 76, 77, 78, 79, 80, 81, 82, 83, 84, 85, 86, 87, 88, 89, 90, 91, 92, 93, 94, 95, 96, 97, 98, 99, 100, 101, 102, 103] (by decide +kernel) (by decide +kernel)
set_option maxRecDepth 20000 in
theorem gX5_stateAt_X5_isMonth : GoodIn wsX5_stateAt (wsV RX5 143 RX5 yX5_isMonth wsX5_isMonth) := goodIn_app (goodIn_of _ (by decide +kernel)) ggX5_stateAt_X5_isMonth
theorem dX5_stateAt_0 : decode cX5_stateAt 0 = .ok (.aload_n 0, 1) := by decide +kernel
theorem dX5_stateAt_1 : decode cX5_stateAt 1 = .ok (.iload_n 1, 1) := by decide +kernel
theorem dX5_stateAt_2 : decode cX5_stateAt 2 = .ok (.invokevirtual 143, 3) := by decide +kernel
theorem dX5_stateAt_5 : decode cX5_stateAt 5 = .ok (.ifCond .eq 10, 3) := by decide +kernel
theorem dX5_stateAt_8 : decode cX5_stateAt 8 = .ok (.aload_n 0, 1) := by decide +kernel
theorem dX5_stateAt_9 : decode cX5_stateAt 9 = .ok (.getfield 61, 3) := by decide +kernel
theorem dX5_stateAt_12 : decode cX5_stateAt 12 = .ok (.goto 4, 3) := by decide +kernel
theorem dX5_stateAt_15 : decode cX5_stateAt 15 = .ok (.iconst 0, 1) := by decide +kernel
theorem dX5_stateAt_16 : decode cX5_stateAt 16 = .ok (.ireturn, 1) := by decide +kernel
set_option maxRecDepth 20000 in
theorem ggX5_lapse_X5_goNow : GoodIn wsX5_lapse wsX5_goNow := goodIn_r _ [7, 1, 8, 9, 10, 6, 11, 12, 13, 14, 15, 2, 16, 17, 18, 19, 20, 21, 22, 23, 24, 25, 26, 27, 28, 29, 30, 31, 32, 33, 34, 35, 36, 37, 38, 39, 40, 41, 42, 43, 44, 45, 46, 47, 48, 49, 50, 51, 52, 53, 54, 55, 56, 57, 58, 59, 60, 61, 62, 63, 64, 65, 66, 67, 68, 69, 70, 71, 72, 73, 74, 75, 76, 77, 78, 79, 80, 81, 82, 83, 84, 85, 86, 87, 88, 89, 90, 91, 92, 93, 94, 95, 96, 97, 98, 99] (by decide +kernel) (by decide +kernel)
set_option maxRecDepth 20000 in
theorem gX5_lapse_X5_goNow : GoodIn wsX5_lapse (wsV RX5 134 RX5 yX5_goNow wsX5_goNow) := goodIn_app (goodIn_of _ (by decide +kernel)) ggX5_lapse_X5_goNow
set_option maxRecDepth 20000 in
theorem ggX5_lapse_X5_premium : GoodIn wsX5_lapse wsX5_premium := goodIn_r _ [39, 2, 18, 16, 19, 82, 83, 84, 85, 86, 87, 88, 89, 90, 91, 92, 93, 94, 95, 96, 97, 98, 99] (by decide +kernel) (by decide +kernel)
set_option maxRecDepth 20000 in
theorem gX5_lapse_X5_premium : GoodIn wsX5_lapse (wsV RX5 76 RX5 yX5_premium wsX5_premium) := goodIn_app (goodIn_of _ (by decide +kernel)) ggX5_lapse_X5_premium
set_option maxRecDepth 20000 in
theorem ggX5_lapse_X5_closeMonth : GoodIn wsX5_lapse wsX5_closeMonth := goodIn_r _ [66, 2, 20, 18, 16, 19, 17, 67, 68, 69, 6, 70, 71, 48, 49, 50, 51, 52, 53, 54, 55, 56, 57, 58, 59, 60, 61, 62, 40, 41, 42, 43, 72, 73, 74, 75, 76, 77, 78, 79, 80, 81, 82, 83, 84, 85, 86, 87, 88, 89, 90, 91, 92, 93, 94, 95, 96, 97, 98, 99] (by decide +kernel) (by decide +kernel)
set_option maxRecDepth 20000 in
theorem gX5_lapse_X5_closeMonth : GoodIn wsX5_lapse (wsV RX5 119 RX5 yX5_closeMonth wsX5_closeMonth) := goodIn_app (goodIn_of _ (by decide +kernel)) ggX5_lapse_X5_closeMonth
theorem dX5_lapse_0 : decode cX5_lapse 0 = .ok (.aload_n 0, 1) := by decide +kernel
theorem dX5_lapse_1 : decode cX5_lapse 1 = .ok (.invokevirtual 134, 3) := by decide +kernel
theorem dX5_lapse_4 : decode cX5_lapse 4 = .ok (.iload_n 2, 1) := by decide +kernel
theorem dX5_lapse_5 : decode cX5_lapse 5 = .ok (.ifCond .le 9, 3) := by decide +kernel
theorem dX5_lapse_8 : decode cX5_lapse 8 = .ok (.aload_n 0, 1) := by decide +kernel
theorem dX5_lapse_9 : decode cX5_lapse 9 = .ok (.iload_n 2, 1) := by decide +kernel
theorem dX5_lapse_10 : decode cX5_lapse 10 = .ok (.invokevirtual 76, 3) := by decide +kernel
theorem dX5_lapse_13 : decode cX5_lapse 13 = .ok (.istore_n 3, 1) := by decide +kernel
theorem dX5_lapse_14 : decode cX5_lapse 14 = .ok (.iconst 1, 1) := by decide +kernel
theorem dX5_lapse_15 : decode cX5_lapse 15 = .ok (.istore_n 3, 1) := by decide +kernel
theorem dX5_lapse_16 : decode cX5_lapse 16 = .ok (.iload_n 3, 1) := by decide +kernel
theorem dX5_lapse_17 : decode cX5_lapse 17 = .ok (.iload_n 1, 1) := by decide +kernel
theorem dX5_lapse_18 : decode cX5_lapse 18 = .ok (.if_icmp .gt 36, 3) := by decide +kernel
theorem dX5_lapse_21 : decode cX5_lapse 21 = .ok (.aload_n 0, 1) := by decide +kernel
theorem dX5_lapse_22 : decode cX5_lapse 22 = .ok (.aload_n 0, 1) := by decide +kernel
theorem dX5_lapse_23 : decode cX5_lapse 23 = .ok (.getfield 122, 3) := by decide +kernel
theorem dX5_lapse_26 : decode cX5_lapse 26 = .ok (.iload_n 3, 1) := by decide +kernel
theorem dX5_lapse_27 : decode cX5_lapse 27 = .ok (.iadd, 1) := by decide +kernel
theorem dX5_lapse_28 : decode cX5_lapse 28 = .ok (.iconst 1, 1) := by decide +kernel
theorem dX5_lapse_29 : decode cX5_lapse 29 = .ok (.isub, 1) := by decide +kernel
theorem dX5_lapse_30 : decode cX5_lapse 30 = .ok (.invokevirtual 119, 3) := by decide +kernel
theorem dX5_lapse_33 : decode cX5_lapse 33 = .ok (.aload_n 0, 1) := by decide +kernel
theorem dX5_lapse_34 : decode cX5_lapse 34 = .ok (.getfield 61, 3) := by decide +kernel
theorem dX5_lapse_37 : decode cX5_lapse 37 = .ok (.iconst 2, 1) := by decide +kernel
theorem dX5_lapse_38 : decode cX5_lapse 38 = .ok (.if_icmp .ne 10, 3) := by decide +kernel
theorem dX5_lapse_41 : decode cX5_lapse 41 = .ok (.aload_n 0, 1) := by decide +kernel
theorem dX5_lapse_42 : decode cX5_lapse 42 = .ok (.getfield 122, 3) := by decide +kernel
theorem dX5_lapse_45 : decode cX5_lapse 45 = .ok (.iload_n 3, 1) := by decide +kernel
theorem dX5_lapse_46 : decode cX5_lapse 46 = .ok (.iadd, 1) := by decide +kernel
theorem dX5_lapse_47 : decode cX5_lapse 47 = .ok (.ireturn, 1) := by decide +kernel
theorem dX5_lapse_48 : decode cX5_lapse 48 = .ok (.iinc 3 1, 3) := by decide +kernel
theorem dX5_lapse_51 : decode cX5_lapse 51 = .ok (.goto (-35), 3) := by decide +kernel
theorem dX5_lapse_54 : decode cX5_lapse 54 = .ok (.iconst (-1), 1) := by decide +kernel
theorem dX5_lapse_55 : decode cX5_lapse 55 = .ok (.ireturn, 1) := by decide +kernel
set_option maxRecDepth 20000 in
theorem ggX5_wouldLapse_X5_in : GoodIn wsX5_wouldLapse wsX5_in := goodIn_r _ [6] (by decide +kernel) (by decide +kernel)
set_option maxRecDepth 20000 in
theorem gX5_wouldLapse_X5_in : GoodIn wsX5_wouldLapse (va_wsS RX5 128 yX5_in wsX5_in) := goodIn_app (goodIn_of _ (by decide +kernel)) ggX5_wouldLapse_X5_in
set_option maxRecDepth 20000 in
theorem ggX5_wouldLapse_X5_goNow : GoodIn wsX5_wouldLapse wsX5_goNow := goodIn_r _ [10, 11, 12, 13, 14, 5, 15, 16, 17, 18, 19, 2, 20, 21, 22, 23, 24, 25, 26, 27, 28, 29, 30, 31, 32, 33, 34, 35, 36, 37, 38, 39, 40, 41, 42, 43, 44, 45, 46, 47, 48, 49, 50, 51, 52, 53, 54, 55, 56, 57, 58, 59, 60, 61, 62, 63, 64, 65, 66, 67, 68, 69, 70, 71, 72, 73, 74, 75, 76, 77, 78, 79, 80, 81, 82, 83, 84, 85, 90, 91, 92, 93, 94, 95, 96, 97, 98, 99, 100, 101, 102, 103, 104, 105, 106, 107] (by decide +kernel) (by decide +kernel)
set_option maxRecDepth 20000 in
theorem gX5_wouldLapse_X5_goNow : GoodIn wsX5_wouldLapse (wsV RX5 134 RX5 yX5_goNow wsX5_goNow) := goodIn_app (goodIn_of _ (by decide +kernel)) ggX5_wouldLapse_X5_goNow
set_option maxRecDepth 20000 in
theorem ggX5_wouldLapse_X5_lapse : GoodIn wsX5_wouldLapse wsX5_lapse := goodIn_r _ [89, 11, 2, 7, 8, 9, 5, 10, 12, 13, 14, 15, 16, 17, 18, 19, 20, 21, 22, 23, 24, 25, 26, 27, 28, 29, 30, 31, 32, 33, 34, 35, 36, 37, 38, 39, 40, 41, 42, 43, 44, 45, 46, 47, 48, 49, 50, 51, 52, 53, 54, 55, 56, 57, 58, 59, 60, 61, 62, 63, 64, 65, 66, 67, 68, 69, 70, 71, 72, 73, 74, 75, 76, 77, 78, 79, 80, 81, 82, 83, 84, 85, 90, 91, 92, 93, 94, 95, 96, 97, 98, 99, 100, 101, 102, 103, 104, 105, 106, 107] (by decide +kernel) (by decide +kernel)
set_option maxRecDepth 20000 in
theorem gX5_wouldLapse_X5_lapse : GoodIn wsX5_wouldLapse (wsV RX5 146 RX5 yX5_lapse wsX5_lapse) := goodIn_app (goodIn_of _ (by decide +kernel)) ggX5_wouldLapse_X5_lapse
theorem dX5_wouldLapse_0 : decode cX5_wouldLapse 0 = .ok (.aload_n 0, 1) := by decide +kernel
theorem dX5_wouldLapse_1 : decode cX5_wouldLapse 1 = .ok (.iload_n 1, 1) := by decide +kernel
theorem dX5_wouldLapse_2 : decode cX5_wouldLapse 2 = .ok (.iconst 1, 1) := by decide +kernel
theorem dX5_wouldLapse_3 : decode cX5_wouldLapse 3 = .ok (.bipush 120, 2) := by decide +kernel
theorem dX5_wouldLapse_5 : decode cX5_wouldLapse 5 = .ok (.invokestatic 128, 3) := by decide +kernel
theorem dX5_wouldLapse_8 : decode cX5_wouldLapse 8 = .ok (.ifCond .eq 7, 3) := by decide +kernel
theorem dX5_wouldLapse_11 : decode cX5_wouldLapse 11 = .ok (.iconst 0, 1) := by decide +kernel
theorem dX5_wouldLapse_12 : decode cX5_wouldLapse 12 = .ok (.goto 4, 3) := by decide +kernel
theorem dX5_wouldLapse_15 : decode cX5_wouldLapse 15 = .ok (.iconst 1, 1) := by decide +kernel
theorem dX5_wouldLapse_16 : decode cX5_wouldLapse 16 = .ok (.putfield 34, 3) := by decide +kernel
theorem dX5_wouldLapse_19 : decode cX5_wouldLapse 19 = .ok (.aload_n 0, 1) := by decide +kernel
theorem dX5_wouldLapse_20 : decode cX5_wouldLapse 20 = .ok (.getfield 34, 3) := by decide +kernel
theorem dX5_wouldLapse_23 : decode cX5_wouldLapse 23 = .ok (.ifCond .le 5, 3) := by decide +kernel
theorem dX5_wouldLapse_26 : decode cX5_wouldLapse 26 = .ok (.iconst 0, 1) := by decide +kernel
theorem dX5_wouldLapse_27 : decode cX5_wouldLapse 27 = .ok (.ireturn, 1) := by decide +kernel
theorem dX5_wouldLapse_28 : decode cX5_wouldLapse 28 = .ok (.aload_n 0, 1) := by decide +kernel
theorem dX5_wouldLapse_29 : decode cX5_wouldLapse 29 = .ok (.invokevirtual 134, 3) := by decide +kernel
theorem dX5_wouldLapse_32 : decode cX5_wouldLapse 32 = .ok (.aload_n 0, 1) := by decide +kernel
theorem dX5_wouldLapse_33 : decode cX5_wouldLapse 33 = .ok (.getfield 61, 3) := by decide +kernel
theorem dX5_wouldLapse_36 : decode cX5_wouldLapse 36 = .ok (.iconst 1, 1) := by decide +kernel
theorem dX5_wouldLapse_37 : decode cX5_wouldLapse 37 = .ok (.if_icmp .le 7, 3) := by decide +kernel
theorem dX5_wouldLapse_40 : decode cX5_wouldLapse 40 = .ok (.iconst (-1), 1) := by decide +kernel
theorem dX5_wouldLapse_41 : decode cX5_wouldLapse 41 = .ok (.goto 9, 3) := by decide +kernel
theorem dX5_wouldLapse_44 : decode cX5_wouldLapse 44 = .ok (.aload_n 0, 1) := by decide +kernel
theorem dX5_wouldLapse_45 : decode cX5_wouldLapse 45 = .ok (.iload_n 1, 1) := by decide +kernel
theorem dX5_wouldLapse_46 : decode cX5_wouldLapse 46 = .ok (.iconst 0, 1) := by decide +kernel
theorem dX5_wouldLapse_47 : decode cX5_wouldLapse 47 = .ok (.invokevirtual 146, 3) := by decide +kernel
theorem dX5_wouldLapse_50 : decode cX5_wouldLapse 50 = .ok (.ireturn, 1) := by decide +kernel
set_option maxRecDepth 20000 in
theorem ggX5_needed_X5_in : GoodIn wsX5_needed wsX5_in := goodIn_r _ [7] (by decide +kernel) (by decide +kernel)
set_option maxRecDepth 20000 in
theorem gX5_needed_X5_in : GoodIn wsX5_needed (va_wsS RX5 128 yX5_in wsX5_in) := goodIn_app (goodIn_of _ (by decide +kernel)) ggX5_needed_X5_in
set_option maxRecDepth 20000 in
theorem ggX5_needed_X5_goNow : GoodIn wsX5_needed wsX5_goNow := goodIn_r _ [11, 12, 13, 14, 15, 6, 16, 17, 18, 19, 20, 2, 21, 22, 23, 24, 25, 26, 27, 28, 29, 30, 31, 32, 33, 34, 35, 36, 37, 38, 39, 40, 41, 42, 43, 44, 45, 46, 47, 48, 49, 50, 51, 52, 53, 54, 55, 56, 57, 58, 59, 60, 61, 62, 63, 64, 65, 66, 67, 68, 69, 70, 71, 72, 73, 74, 75, 76, 77, 78, 79, 80, 81, 82, 83, 84, 85, 86, 91, 92, 93, 94, 95, 96, 97, 98, 99, 100, 101, 102, 103, 104, 105, 106, 107, 108] (by decide +kernel) (by decide +kernel)
set_option maxRecDepth 20000 in
theorem gX5_needed_X5_goNow : GoodIn wsX5_needed (wsV RX5 134 RX5 yX5_goNow wsX5_goNow) := goodIn_app (goodIn_of _ (by decide +kernel)) ggX5_needed_X5_goNow
set_option maxRecDepth 20000 in
theorem ggX5_needed_X5_lapse : GoodIn wsX5_needed wsX5_lapse := goodIn_r _ [90, 12, 2, 8, 9, 10, 6, 11, 13, 14, 15, 16, 17, 18, 19, 20, 21, 22, 23, 24, 25, 26, 27, 28, 29, 30, 31, 32, 33, 34, 35, 36, 37, 38, 39, 40, 41, 42, 43, 44, 45, 46, 47, 48, 49, 50, 51, 52, 53, 54, 55, 56, 57, 58, 59, 60, 61, 62, 63, 64, 65, 66, 67, 68, 69, 70, 71, 72, 73, 74, 75, 76, 77, 78, 79, 80, 81, 82, 83, 84, 85, 86, 91, 92, 93, 94, 95, 96, 97, 98, 99, 100, 101, 102, 103, 104, 105, 106, 107, 108] (by decide +kernel) (by decide +kernel)
set_option maxRecDepth 20000 in
theorem gX5_needed_X5_lapse : GoodIn wsX5_needed (wsV RX5 146 RX5 yX5_lapse wsX5_lapse) := goodIn_app (goodIn_of _ (by decide +kernel)) ggX5_needed_X5_lapse
theorem dX5_needed_0 : decode cX5_needed 0 = .ok (.aload_n 0, 1) := by decide +kernel
theorem dX5_needed_1 : decode cX5_needed 1 = .ok (.iload_n 1, 1) := by decide +kernel
theorem dX5_needed_2 : decode cX5_needed 2 = .ok (.iconst 1, 1) := by decide +kernel
theorem dX5_needed_3 : decode cX5_needed 3 = .ok (.bipush 36, 2) := by decide +kernel
theorem dX5_needed_5 : decode cX5_needed 5 = .ok (.invokestatic 128, 3) := by decide +kernel
theorem dX5_needed_8 : decode cX5_needed 8 = .ok (.ifCond .eq 7, 3) := by decide +kernel
theorem dX5_needed_11 : decode cX5_needed 11 = .ok (.iconst 0, 1) := by decide +kernel
theorem dX5_needed_12 : decode cX5_needed 12 = .ok (.goto 4, 3) := by decide +kernel
theorem dX5_needed_15 : decode cX5_needed 15 = .ok (.iconst 1, 1) := by decide +kernel
theorem dX5_needed_16 : decode cX5_needed 16 = .ok (.putfield 34, 3) := by decide +kernel
theorem dX5_needed_19 : decode cX5_needed 19 = .ok (.aload_n 0, 1) := by decide +kernel
theorem dX5_needed_20 : decode cX5_needed 20 = .ok (.getfield 34, 3) := by decide +kernel
theorem dX5_needed_23 : decode cX5_needed 23 = .ok (.ifCond .le 5, 3) := by decide +kernel
theorem dX5_needed_26 : decode cX5_needed 26 = .ok (.iconst 0, 1) := by decide +kernel
theorem dX5_needed_27 : decode cX5_needed 27 = .ok (.ireturn, 1) := by decide +kernel
theorem dX5_needed_28 : decode cX5_needed 28 = .ok (.aload_n 0, 1) := by decide +kernel
theorem dX5_needed_29 : decode cX5_needed 29 = .ok (.invokevirtual 134, 3) := by decide +kernel
theorem dX5_needed_32 : decode cX5_needed 32 = .ok (.aload_n 0, 1) := by decide +kernel
theorem dX5_needed_33 : decode cX5_needed 33 = .ok (.getfield 61, 3) := by decide +kernel
theorem dX5_needed_36 : decode cX5_needed 36 = .ok (.iconst 1, 1) := by decide +kernel
theorem dX5_needed_37 : decode cX5_needed 37 = .ok (.if_icmp .gt 14, 3) := by decide +kernel
theorem dX5_needed_40 : decode cX5_needed 40 = .ok (.aload_n 0, 1) := by decide +kernel
theorem dX5_needed_41 : decode cX5_needed 41 = .ok (.iload_n 1, 1) := by decide +kernel
theorem dX5_needed_42 : decode cX5_needed 42 = .ok (.ldc 133, 2) := by decide +kernel
theorem dX5_needed_44 : decode cX5_needed 44 = .ok (.invokevirtual 146, 3) := by decide +kernel
theorem dX5_needed_47 : decode cX5_needed 47 = .ok (.iconst (-1), 1) := by decide +kernel
theorem dX5_needed_48 : decode cX5_needed 48 = .ok (.if_icmp .eq 5, 3) := by decide +kernel
theorem dX5_needed_51 : decode cX5_needed 51 = .ok (.iconst (-1), 1) := by decide +kernel
theorem dX5_needed_52 : decode cX5_needed 52 = .ok (.ireturn, 1) := by decide +kernel
theorem dX5_needed_53 : decode cX5_needed 53 = .ok (.iconst 0, 1) := by decide +kernel
theorem dX5_needed_54 : decode cX5_needed 54 = .ok (.istore_n 2, 1) := by decide +kernel
theorem dX5_needed_55 : decode cX5_needed 55 = .ok (.ldc 133, 2) := by decide +kernel
theorem dX5_needed_57 : decode cX5_needed 57 = .ok (.istore_n 3, 1) := by decide +kernel
theorem dX5_needed_58 : decode cX5_needed 58 = .ok (.iload_n 2, 1) := by decide +kernel
theorem dX5_needed_59 : decode cX5_needed 59 = .ok (.iload_n 3, 1) := by decide +kernel
theorem dX5_needed_60 : decode cX5_needed 60 = .ok (.if_icmp .ge 35, 3) := by decide +kernel
theorem dX5_needed_63 : decode cX5_needed 63 = .ok (.iload_n 2, 1) := by decide +kernel
theorem dX5_needed_64 : decode cX5_needed 64 = .ok (.iload_n 3, 1) := by decide +kernel
theorem dX5_needed_65 : decode cX5_needed 65 = .ok (.iadd, 1) := by decide +kernel
theorem dX5_needed_66 : decode cX5_needed 66 = .ok (.iconst 2, 1) := by decide +kernel
theorem dX5_needed_67 : decode cX5_needed 67 = .ok (.idiv, 1) := by decide +kernel
theorem dX5_needed_68 : decode cX5_needed 68 = .ok (.istore 4, 2) := by decide +kernel
theorem dX5_needed_70 : decode cX5_needed 70 = .ok (.aload_n 0, 1) := by decide +kernel
theorem dX5_needed_71 : decode cX5_needed 71 = .ok (.iload_n 1, 1) := by decide +kernel
theorem dX5_needed_72 : decode cX5_needed 72 = .ok (.iload 4, 2) := by decide +kernel
theorem dX5_needed_74 : decode cX5_needed 74 = .ok (.invokevirtual 146, 3) := by decide +kernel
theorem dX5_needed_77 : decode cX5_needed 77 = .ok (.iconst (-1), 1) := by decide +kernel
theorem dX5_needed_78 : decode cX5_needed 78 = .ok (.if_icmp .ne 9, 3) := by decide +kernel
theorem dX5_needed_81 : decode cX5_needed 81 = .ok (.iload 4, 2) := by decide +kernel
theorem dX5_needed_83 : decode cX5_needed 83 = .ok (.istore_n 3, 1) := by decide +kernel
theorem dX5_needed_84 : decode cX5_needed 84 = .ok (.goto 8, 3) := by decide +kernel
theorem dX5_needed_87 : decode cX5_needed 87 = .ok (.iload 4, 2) := by decide +kernel
theorem dX5_needed_89 : decode cX5_needed 89 = .ok (.iconst 1, 1) := by decide +kernel
theorem dX5_needed_90 : decode cX5_needed 90 = .ok (.iadd, 1) := by decide +kernel
theorem dX5_needed_91 : decode cX5_needed 91 = .ok (.istore_n 2, 1) := by decide +kernel
theorem dX5_needed_92 : decode cX5_needed 92 = .ok (.goto (-34), 3) := by decide +kernel
theorem dX5_needed_95 : decode cX5_needed 95 = .ok (.iload_n 3, 1) := by decide +kernel
theorem dX5_needed_96 : decode cX5_needed 96 = .ok (.ireturn, 1) := by decide +kernel
theorem dJ9_max_7cf53_0 : decode cJ9_max_7cf53 0 = .ok (.iload_n 0, 1) := by decide +kernel
theorem dJ9_max_7cf53_1 : decode cJ9_max_7cf53 1 = .ok (.iload_n 1, 1) := by decide +kernel
theorem dJ9_max_7cf53_2 : decode cJ9_max_7cf53 2 = .ok (.if_icmp .lt 7, 3) := by decide +kernel
theorem dJ9_max_7cf53_5 : decode cJ9_max_7cf53 5 = .ok (.iload_n 0, 1) := by decide +kernel
theorem dJ9_max_7cf53_6 : decode cJ9_max_7cf53 6 = .ok (.goto 4, 3) := by decide +kernel
theorem dJ9_max_7cf53_9 : decode cJ9_max_7cf53 9 = .ok (.iload_n 1, 1) := by decide +kernel
theorem dJ9_max_7cf53_10 : decode cJ9_max_7cf53 10 = .ok (.ireturn, 1) := by decide +kernel
theorem dJ9_max_f86c9_0 : decode cJ9_max_f86c9 0 = .ok (.lload_n 0, 1) := by decide +kernel
theorem dJ9_max_f86c9_1 : decode cJ9_max_f86c9 1 = .ok (.lload_n 2, 1) := by decide +kernel
theorem dJ9_max_f86c9_2 : decode cJ9_max_f86c9 2 = .ok (.lcmp, 1) := by decide +kernel
theorem dJ9_max_f86c9_3 : decode cJ9_max_f86c9 3 = .ok (.ifCond .lt 7, 3) := by decide +kernel
theorem dJ9_max_f86c9_6 : decode cJ9_max_f86c9 6 = .ok (.lload_n 0, 1) := by decide +kernel
theorem dJ9_max_f86c9_7 : decode cJ9_max_f86c9 7 = .ok (.goto 4, 3) := by decide +kernel
theorem dJ9_max_f86c9_10 : decode cJ9_max_f86c9 10 = .ok (.lload_n 2, 1) := by decide +kernel
theorem dJ9_max_f86c9_11 : decode cJ9_max_f86c9 11 = .ok (.lreturn, 1) := by decide +kernel
theorem dJ9_min_7cf53_0 : decode cJ9_min_7cf53 0 = .ok (.iload_n 0, 1) := by decide +kernel
theorem dJ9_min_7cf53_1 : decode cJ9_min_7cf53 1 = .ok (.iload_n 1, 1) := by decide +kernel
theorem dJ9_min_7cf53_2 : decode cJ9_min_7cf53 2 = .ok (.if_icmp .gt 7, 3) := by decide +kernel
theorem dJ9_min_7cf53_5 : decode cJ9_min_7cf53 5 = .ok (.iload_n 0, 1) := by decide +kernel
theorem dJ9_min_7cf53_6 : decode cJ9_min_7cf53 6 = .ok (.goto 4, 3) := by decide +kernel
theorem dJ9_min_7cf53_9 : decode cJ9_min_7cf53 9 = .ok (.iload_n 1, 1) := by decide +kernel
theorem dJ9_min_7cf53_10 : decode cJ9_min_7cf53 10 = .ok (.ireturn, 1) := by decide +kernel
theorem dJ9_min_f86c9_0 : decode cJ9_min_f86c9 0 = .ok (.lload_n 0, 1) := by decide +kernel
theorem dJ9_min_f86c9_1 : decode cJ9_min_f86c9 1 = .ok (.lload_n 2, 1) := by decide +kernel
theorem dJ9_min_f86c9_2 : decode cJ9_min_f86c9 2 = .ok (.lcmp, 1) := by decide +kernel
theorem dJ9_min_f86c9_3 : decode cJ9_min_f86c9 3 = .ok (.ifCond .gt 7, 3) := by decide +kernel
theorem dJ9_min_f86c9_6 : decode cJ9_min_f86c9 6 = .ok (.lload_n 0, 1) := by decide +kernel
theorem dJ9_min_f86c9_7 : decode cJ9_min_f86c9 7 = .ok (.goto 4, 3) := by decide +kernel
theorem dJ9_min_f86c9_10 : decode cJ9_min_f86c9 10 = .ok (.lload_n 2, 1) := by decide +kernel
theorem dJ9_min_f86c9_11 : decode cJ9_min_f86c9 11 = .ok (.lreturn, 1) := by decide +kernel
set_option maxRecDepth 20000 in
theorem ggL_begin_X4_begin : GoodIn wsL_begin wsX4_begin := goodIn_ca (goodIn_r _ [6, 7, 8, 9, 10, 11, 12, 13, 14, 15, 16, 17, 18, 19, 20, 21, 22, 23, 24, 25, 26, 27, 28, 29, 30, 31, 32, 33, 34, 35, 36, 37, 38, 39, 40, 41, 42, 43, 44, 45, 46, 47, 48, 49, 50, 51, 52, 53, 54, 55, 56, 57, 58, 59, 60, 61, 62] (by decide +kernel) (by decide +kernel)) (goodIn_sub (fun _ h => List.mem_cons_of_mem _ (List.mem_append_right _ h)) (by decide +kernel))
set_option maxRecDepth 20000 in
theorem gL_begin_X4_begin : GoodIn wsL_begin (wsV RL 7 RX4 yX4_begin wsX4_begin) := goodIn_app (goodIn_of _ (by decide +kernel)) ggL_begin_X4_begin
