theorem dX4_init_0 : decode cX4_init 0 = .ok (.aload_n 0, 1) := by decide +kernel
theorem dX4_init_1 : decode cX4_init 1 = .ok (.invokespecial 1, 3) := by decide +kernel
theorem dX4_init_4 : decode cX4_init 4 = .ok (.aload_n 0, 1) := by decide +kernel
theorem dX4_init_5 : decode cX4_init 5 = .ok (.new 7, 3) := by decide +kernel
theorem dX4_init_8 : decode cX4_init 8 = .ok (.dup, 1) := by decide +kernel
theorem dX4_init_9 : decode cX4_init 9 = .ok (.invokespecial 9, 3) := by decide +kernel
theorem dX4_init_12 : decode cX4_init 12 = .ok (.putfield 10, 3) := by decide +kernel
theorem dX4_init_15 : decode cX4_init 15 = .ok (.aload_n 0, 1) := by decide +kernel
theorem dX4_init_16 : decode cX4_init 16 = .ok (.new 16, 3) := by decide +kernel
theorem dX4_init_19 : decode cX4_init 19 = .ok (.dup, 1) := by decide +kernel
theorem dX4_init_20 : decode cX4_init 20 = .ok (.invokespecial 18, 3) := by decide +kernel
theorem dX4_init_23 : decode cX4_init 23 = .ok (.putfield 19, 3) := by decide +kernel
theorem dX4_init_26 : decode cX4_init 26 = .ok (.aload_n 0, 1) := by decide +kernel
theorem dX4_init_27 : decode cX4_init 27 = .ok (.new 23, 3) := by decide +kernel
theorem dX4_init_30 : decode cX4_init 30 = .ok (.dup, 1) := by decide +kernel
theorem dX4_init_31 : decode cX4_init 31 = .ok (.invokespecial 25, 3) := by decide +kernel
theorem dX4_init_34 : decode cX4_init 34 = .ok (.putfield 26, 3) := by decide +kernel
theorem dX4_init_37 : decode cX4_init 37 = .ok (.aload_n 0, 1) := by decide +kernel
theorem dX4_init_38 : decode cX4_init 38 = .ok (.new 30, 3) := by decide +kernel
theorem dX4_init_41 : decode cX4_init 41 = .ok (.dup, 1) := by decide +kernel
theorem dX4_init_42 : decode cX4_init 42 = .ok (.invokespecial 32, 3) := by decide +kernel
theorem dX4_init_45 : decode cX4_init 45 = .ok (.putfield 33, 3) := by decide +kernel
theorem dX4_init_48 : decode cX4_init 48 = .ok (.aload_n 0, 1) := by decide +kernel
theorem dX4_init_49 : decode cX4_init 49 = .ok (.new 30, 3) := by decide +kernel
theorem dX4_init_52 : decode cX4_init 52 = .ok (.dup, 1) := by decide +kernel
theorem dX4_init_53 : decode cX4_init 53 = .ok (.invokespecial 32, 3) := by decide +kernel
theorem dX4_init_56 : decode cX4_init 56 = .ok (.putfield 37, 3) := by decide +kernel
theorem dX4_init_59 : decode cX4_init 59 = .ok (.aload_n 0, 1) := by decide +kernel
theorem dX4_init_60 : decode cX4_init 60 = .ok (.iconst 0, 1) := by decide +kernel
theorem dX4_init_61 : decode cX4_init 61 = .ok (.putfield 40, 3) := by decide +kernel
theorem dX4_init_64 : decode cX4_init 64 = .ok (.return_, 1) := by decide +kernel
theorem dX4_begin_0 : decode cX4_begin 0 = .ok (.iload_n 1, 1) := by decide +kernel
theorem dX4_begin_1 : decode cX4_begin 1 = .ok (.bipush 18, 2) := by decide +kernel
theorem dX4_begin_3 : decode cX4_begin 3 = .ok (.if_icmp .lt 9, 3) := by decide +kernel
theorem dX4_begin_6 : decode cX4_begin 6 = .ok (.iload_n 1, 1) := by decide +kernel
theorem dX4_begin_7 : decode cX4_begin 7 = .ok (.bipush 70, 2) := by decide +kernel
theorem dX4_begin_9 : decode cX4_begin 9 = .ok (.if_icmp .le 13, 3) := by decide +kernel
theorem dX4_begin_12 : decode cX4_begin 12 = .ok (.new 44, 3) := by decide +kernel
theorem dX4_begin_15 : decode cX4_begin 15 = .ok (.dup, 1) := by decide +kernel
theorem dX4_begin_16 : decode cX4_begin 16 = .ok (.ldc 46, 2) := by decide +kernel
theorem dX4_begin_18 : decode cX4_begin 18 = .ok (.invokespecial 48, 3) := by decide +kernel
theorem dX4_begin_21 : decode cX4_begin 21 = .ok (.athrow, 1) := by decide +kernel
theorem dX4_begin_22 : decode cX4_begin 22 = .ok (.iload_n 2, 1) := by decide +kernel
theorem dX4_begin_23 : decode cX4_begin 23 = .ok (.ldc 51, 2) := by decide +kernel
theorem dX4_begin_25 : decode cX4_begin 25 = .ok (.if_icmp .lt 9, 3) := by decide +kernel
theorem dX4_begin_28 : decode cX4_begin 28 = .ok (.iload_n 2, 1) := by decide +kernel
theorem dX4_begin_29 : decode cX4_begin 29 = .ok (.ldc 52, 2) := by decide +kernel
theorem dX4_begin_31 : decode cX4_begin 31 = .ok (.if_icmp .le 13, 3) := by decide +kernel
theorem dX4_begin_34 : decode cX4_begin 34 = .ok (.new 44, 3) := by decide +kernel
theorem dX4_begin_37 : decode cX4_begin 37 = .ok (.dup, 1) := by decide +kernel
theorem dX4_begin_38 : decode cX4_begin 38 = .ok (.ldc 53, 2) := by decide +kernel
theorem dX4_begin_40 : decode cX4_begin 40 = .ok (.invokespecial 48, 3) := by decide +kernel
theorem dX4_begin_43 : decode cX4_begin 43 = .ok (.athrow, 1) := by decide +kernel
theorem dX4_begin_44 : decode cX4_begin 44 = .ok (.iload_n 3, 1) := by decide +kernel
theorem dX4_begin_45 : decode cX4_begin 45 = .ok (.ifCond .lt 8, 3) := by decide +kernel
theorem dX4_begin_48 : decode cX4_begin 48 = .ok (.iload_n 3, 1) := by decide +kernel
theorem dX4_begin_49 : decode cX4_begin 49 = .ok (.iconst 1, 1) := by decide +kernel
theorem dX4_begin_50 : decode cX4_begin 50 = .ok (.if_icmp .le 13, 3) := by decide +kernel
theorem dX4_begin_53 : decode cX4_begin 53 = .ok (.new 44, 3) := by decide +kernel
theorem dX4_begin_56 : decode cX4_begin 56 = .ok (.dup, 1) := by decide +kernel
theorem dX4_begin_57 : decode cX4_begin 57 = .ok (.ldc 55, 2) := by decide +kernel
theorem dX4_begin_59 : decode cX4_begin 59 = .ok (.invokespecial 48, 3) := by decide +kernel
theorem dX4_begin_62 : decode cX4_begin 62 = .ok (.athrow, 1) := by decide +kernel
theorem dX4_begin_63 : decode cX4_begin 63 = .ok (.aload_n 0, 1) := by decide +kernel
theorem dX4_begin_64 : decode cX4_begin 64 = .ok (.getfield 40, 3) := by decide +kernel
theorem dX4_begin_67 : decode cX4_begin 67 = .ok (.istore 4, 2) := by decide +kernel
theorem dX4_begin_69 : decode cX4_begin 69 = .ok (.aload_n 0, 1) := by decide +kernel
theorem dX4_begin_70 : decode cX4_begin 70 = .ok (.getfield 10, 3) := by decide +kernel
theorem dX4_begin_73 : decode cX4_begin 73 = .ok (.iload_n 1, 1) := by decide +kernel
theorem dX4_begin_74 : decode cX4_begin 74 = .ok (.iload_n 2, 1) := by decide +kernel
theorem dX4_begin_75 : decode cX4_begin 75 = .ok (.iload_n 3, 1) := by decide +kernel
theorem dX4_begin_76 : decode cX4_begin 76 = .ok (.invokevirtual 57, 3) := by decide +kernel
theorem dX4_begin_79 : decode cX4_begin 79 = .ok (.aload_n 0, 1) := by decide +kernel
theorem dX4_begin_80 : decode cX4_begin 80 = .ok (.getfield 19, 3) := by decide +kernel
theorem dX4_begin_83 : decode cX4_begin 83 = .ok (.invokevirtual 61, 3) := by decide +kernel
theorem dX4_begin_86 : decode cX4_begin 86 = .ok (.aload_n 0, 1) := by decide +kernel
theorem dX4_begin_87 : decode cX4_begin 87 = .ok (.getfield 33, 3) := by decide +kernel
theorem dX4_begin_90 : decode cX4_begin 90 = .ok (.invokevirtual 64, 3) := by decide +kernel
theorem dX4_begin_93 : decode cX4_begin 93 = .ok (.aload_n 0, 1) := by decide +kernel
theorem dX4_begin_94 : decode cX4_begin 94 = .ok (.iconst 0, 1) := by decide +kernel
theorem dX4_begin_95 : decode cX4_begin 95 = .ok (.putfield 40, 3) := by decide +kernel
theorem dX4_begin_98 : decode cX4_begin 98 = .ok (.iload 4, 2) := by decide +kernel
theorem dX4_begin_100 : decode cX4_begin 100 = .ok (.ireturn, 1) := by decide +kernel
theorem dX4_tell_0 : decode cX4_tell 0 = .ok (.iload_n 1, 1) := by decide +kernel
theorem dX4_tell_1 : decode cX4_tell 1 = .ok (.ifCond .lt 11, 3) := by decide +kernel
theorem dX4_tell_4 : decode cX4_tell 4 = .ok (.iload_n 1, 1) := by decide +kernel
theorem dX4_tell_5 : decode cX4_tell 5 = .ok (.aload_n 0, 1) := by decide +kernel
theorem dX4_tell_6 : decode cX4_tell 6 = .ok (.getfield 40, 3) := by decide +kernel
theorem dX4_tell_9 : decode cX4_tell 9 = .ok (.if_icmp .le 13, 3) := by decide +kernel
theorem dX4_tell_12 : decode cX4_tell 12 = .ok (.new 44, 3) := by decide +kernel
theorem dX4_tell_15 : decode cX4_tell 15 = .ok (.dup, 1) := by decide +kernel
theorem dX4_tell_16 : decode cX4_tell 16 = .ok (.ldc 67, 2) := by decide +kernel
theorem dX4_tell_18 : decode cX4_tell 18 = .ok (.invokespecial 48, 3) := by decide +kernel
theorem dX4_tell_21 : decode cX4_tell 21 = .ok (.athrow, 1) := by decide +kernel
theorem dX4_tell_22 : decode cX4_tell 22 = .ok (.iload_n 2, 1) := by decide +kernel
theorem dX4_tell_23 : decode cX4_tell 23 = .ok (.ifCond .lt 8, 3) := by decide +kernel
theorem dX4_tell_26 : decode cX4_tell 26 = .ok (.iload_n 2, 1) := by decide +kernel
theorem dX4_tell_27 : decode cX4_tell 27 = .ok (.iconst 5, 1) := by decide +kernel
theorem dX4_tell_28 : decode cX4_tell 28 = .ok (.if_icmp .le 13, 3) := by decide +kernel
theorem dX4_tell_31 : decode cX4_tell 31 = .ok (.new 44, 3) := by decide +kernel
theorem dX4_tell_34 : decode cX4_tell 34 = .ok (.dup, 1) := by decide +kernel
theorem dX4_tell_35 : decode cX4_tell 35 = .ok (.ldc 69, 2) := by decide +kernel
theorem dX4_tell_37 : decode cX4_tell 37 = .ok (.invokespecial 48, 3) := by decide +kernel
theorem dX4_tell_40 : decode cX4_tell 40 = .ok (.athrow, 1) := by decide +kernel
theorem dX4_tell_41 : decode cX4_tell 41 = .ok (.iload_n 3, 1) := by decide +kernel
theorem dX4_tell_42 : decode cX4_tell 42 = .ok (.iconst 1, 1) := by decide +kernel
theorem dX4_tell_43 : decode cX4_tell 43 = .ok (.if_icmp .lt 9, 3) := by decide +kernel
theorem dX4_tell_46 : decode cX4_tell 46 = .ok (.iload_n 3, 1) := by decide +kernel
theorem dX4_tell_47 : decode cX4_tell 47 = .ok (.ldc 71, 2) := by decide +kernel
theorem dX4_tell_49 : decode cX4_tell 49 = .ok (.if_icmp .le 13, 3) := by decide +kernel
theorem dX4_tell_52 : decode cX4_tell 52 = .ok (.new 44, 3) := by decide +kernel
theorem dX4_tell_55 : decode cX4_tell 55 = .ok (.dup, 1) := by decide +kernel
theorem dX4_tell_56 : decode cX4_tell 56 = .ok (.ldc 72, 2) := by decide +kernel
theorem dX4_tell_58 : decode cX4_tell 58 = .ok (.invokespecial 48, 3) := by decide +kernel
theorem dX4_tell_61 : decode cX4_tell 61 = .ok (.athrow, 1) := by decide +kernel
theorem dX4_tell_62 : decode cX4_tell 62 = .ok (.aload_n 0, 1) := by decide +kernel
theorem dX4_tell_63 : decode cX4_tell 63 = .ok (.getfield 19, 3) := by decide +kernel
theorem dX4_tell_66 : decode cX4_tell 66 = .ok (.invokevirtual 74, 3) := by decide +kernel
theorem dX4_tell_69 : decode cX4_tell 69 = .ok (.ifCond .eq 13, 3) := by decide +kernel
theorem dX4_tell_72 : decode cX4_tell 72 = .ok (.new 78, 3) := by decide +kernel
theorem dX4_tell_75 : decode cX4_tell 75 = .ok (.dup, 1) := by decide +kernel
theorem dX4_tell_76 : decode cX4_tell 76 = .ok (.ldc 80, 2) := by decide +kernel
theorem dX4_tell_78 : decode cX4_tell 78 = .ok (.invokespecial 82, 3) := by decide +kernel
theorem dX4_tell_81 : decode cX4_tell 81 = .ok (.athrow, 1) := by decide +kernel
theorem dX4_tell_82 : decode cX4_tell 82 = .ok (.aload_n 0, 1) := by decide +kernel
theorem dX4_tell_83 : decode cX4_tell 83 = .ok (.getfield 19, 3) := by decide +kernel
theorem dX4_tell_86 : decode cX4_tell 86 = .ok (.iload_n 1, 1) := by decide +kernel
theorem dX4_tell_87 : decode cX4_tell 87 = .ok (.iload_n 2, 1) := by decide +kernel
theorem dX4_tell_88 : decode cX4_tell 88 = .ok (.iload_n 3, 1) := by decide +kernel
theorem dX4_tell_89 : decode cX4_tell 89 = .ok (.invokevirtual 83, 3) := by decide +kernel
theorem dX4_tell_92 : decode cX4_tell 92 = .ok (.istore 4, 2) := by decide +kernel
theorem dX4_tell_94 : decode cX4_tell 94 = .ok (.iload_n 1, 1) := by decide +kernel
theorem dX4_tell_95 : decode cX4_tell 95 = .ok (.aload_n 0, 1) := by decide +kernel
theorem dX4_tell_96 : decode cX4_tell 96 = .ok (.getfield 40, 3) := by decide +kernel
theorem dX4_tell_99 : decode cX4_tell 99 = .ok (.if_icmp .ne 25, 3) := by decide +kernel
theorem dX4_tell_102 : decode cX4_tell 102 = .ok (.aload_n 0, 1) := by decide +kernel
theorem dX4_tell_103 : decode cX4_tell 103 = .ok (.getfield 19, 3) := by decide +kernel
theorem dX4_tell_106 : decode cX4_tell 106 = .ok (.iload 4, 2) := by decide +kernel
theorem dX4_tell_108 : decode cX4_tell 108 = .ok (.aload_n 0, 1) := by decide +kernel
theorem dX4_tell_109 : decode cX4_tell 109 = .ok (.iload 4, 2) := by decide +kernel
theorem dX4_tell_111 : decode cX4_tell 111 = .ok (.aload_n 0, 1) := by decide +kernel
theorem dX4_tell_112 : decode cX4_tell 112 = .ok (.getfield 33, 3) := by decide +kernel
theorem dX4_tell_115 : decode cX4_tell 115 = .ok (.invokevirtual 87, 3) := by decide +kernel
theorem dX4_tell_118 : decode cX4_tell 118 = .ok (.invokevirtual 91, 3) := by decide +kernel
theorem dX4_tell_121 : decode cX4_tell 121 = .ok (.goto 8, 3) := by decide +kernel
theorem dX4_tell_124 : decode cX4_tell 124 = .ok (.aload_n 0, 1) := by decide +kernel
theorem dX4_tell_125 : decode cX4_tell 125 = .ok (.iload_n 1, 1) := by decide +kernel
theorem dX4_tell_126 : decode cX4_tell 126 = .ok (.invokevirtual 95, 3) := by decide +kernel
theorem dX4_tell_129 : decode cX4_tell 129 = .ok (.aload_n 0, 1) := by decide +kernel
theorem dX4_tell_130 : decode cX4_tell 130 = .ok (.getfield 19, 3) := by decide +kernel
theorem dX4_tell_133 : decode cX4_tell 133 = .ok (.iload 4, 2) := by decide +kernel
theorem dX4_tell_135 : decode cX4_tell 135 = .ok (.invokevirtual 99, 3) := by decide +kernel
theorem dX4_tell_138 : decode cX4_tell 138 = .ok (.ireturn, 1) := by decide +kernel
theorem dX4_strike_0 : decode cX4_strike 0 = .ok (.aload_n 0, 1) := by decide +kernel
theorem dX4_strike_1 : decode cX4_strike 1 = .ok (.getfield 19, 3) := by decide +kernel
theorem dX4_strike_4 : decode cX4_strike 4 = .ok (.iload_n 1, 1) := by decide +kernel
theorem dX4_strike_5 : decode cX4_strike 5 = .ok (.invokevirtual 103, 3) := by decide +kernel
theorem dX4_strike_8 : decode cX4_strike 8 = .ok (.ifCond .ne 13, 3) := by decide +kernel
theorem dX4_strike_11 : decode cX4_strike 11 = .ok (.new 106, 3) := by decide +kernel
theorem dX4_strike_14 : decode cX4_strike 14 = .ok (.dup, 1) := by decide +kernel
theorem dX4_strike_15 : decode cX4_strike 15 = .ok (.ldc 108, 2) := by decide +kernel
theorem dX4_strike_17 : decode cX4_strike 17 = .ok (.invokespecial 110, 3) := by decide +kernel
theorem dX4_strike_20 : decode cX4_strike 20 = .ok (.athrow, 1) := by decide +kernel
theorem dX4_strike_21 : decode cX4_strike 21 = .ok (.aload_n 0, 1) := by decide +kernel
theorem dX4_strike_22 : decode cX4_strike 22 = .ok (.getfield 19, 3) := by decide +kernel
theorem dX4_strike_25 : decode cX4_strike 25 = .ok (.iload_n 1, 1) := by decide +kernel
theorem dX4_strike_26 : decode cX4_strike 26 = .ok (.invokevirtual 111, 3) := by decide +kernel
theorem dX4_strike_29 : decode cX4_strike 29 = .ok (.istore_n 2, 1) := by decide +kernel
theorem dX4_strike_30 : decode cX4_strike 30 = .ok (.aload_n 0, 1) := by decide +kernel
theorem dX4_strike_31 : decode cX4_strike 31 = .ok (.getfield 19, 3) := by decide +kernel
theorem dX4_strike_34 : decode cX4_strike 34 = .ok (.iload_n 1, 1) := by decide +kernel
theorem dX4_strike_35 : decode cX4_strike 35 = .ok (.invokevirtual 115, 3) := by decide +kernel
theorem dX4_strike_38 : decode cX4_strike 38 = .ok (.aload_n 0, 1) := by decide +kernel
theorem dX4_strike_39 : decode cX4_strike 39 = .ok (.iload_n 2, 1) := by decide +kernel
theorem dX4_strike_40 : decode cX4_strike 40 = .ok (.invokevirtual 95, 3) := by decide +kernel
theorem dX4_strike_43 : decode cX4_strike 43 = .ok (.iload_n 2, 1) := by decide +kernel
theorem dX4_strike_44 : decode cX4_strike 44 = .ok (.ireturn, 1) := by decide +kernel
theorem dX4_isDone_0 : decode cX4_isDone 0 = .ok (.aload_n 0, 1) := by decide +kernel
theorem dX4_isDone_1 : decode cX4_isDone 1 = .ok (.getfield 19, 3) := by decide +kernel
theorem dX4_isDone_4 : decode cX4_isDone 4 = .ok (.iload_n 1, 1) := by decide +kernel
theorem dX4_isDone_5 : decode cX4_isDone 5 = .ok (.invokevirtual 103, 3) := by decide +kernel
theorem dX4_isDone_8 : decode cX4_isDone 8 = .ok (.ifCond .ne 13, 3) := by decide +kernel
theorem dX4_isDone_11 : decode cX4_isDone 11 = .ok (.new 106, 3) := by decide +kernel
theorem dX4_isDone_14 : decode cX4_isDone 14 = .ok (.dup, 1) := by decide +kernel
theorem dX4_isDone_15 : decode cX4_isDone 15 = .ok (.ldc 108, 2) := by decide +kernel
theorem dX4_isDone_17 : decode cX4_isDone 17 = .ok (.invokespecial 110, 3) := by decide +kernel
theorem dX4_isDone_20 : decode cX4_isDone 20 = .ok (.athrow, 1) := by decide +kernel
theorem dX4_isDone_21 : decode cX4_isDone 21 = .ok (.aload_n 0, 1) := by decide +kernel
theorem dX4_isDone_22 : decode cX4_isDone 22 = .ok (.getfield 19, 3) := by decide +kernel
theorem dX4_isDone_25 : decode cX4_isDone 25 = .ok (.iload_n 1, 1) := by decide +kernel
theorem dX4_isDone_26 : decode cX4_isDone 26 = .ok (.invokevirtual 99, 3) := by decide +kernel
theorem dX4_isDone_29 : decode cX4_isDone 29 = .ok (.ireturn, 1) := by decide +kernel
theorem dX4_acts_0 : decode cX4_acts 0 = .ok (.aload_n 0, 1) := by decide +kernel
theorem dX4_acts_1 : decode cX4_acts 1 = .ok (.getfield 19, 3) := by decide +kernel
theorem dX4_acts_4 : decode cX4_acts 4 = .ok (.getfield 118, 3) := by decide +kernel
theorem dX4_acts_7 : decode cX4_acts 7 = .ok (.ireturn, 1) := by decide +kernel
theorem dX4_close_0 : decode cX4_close 0 = .ok (.iload_n 1, 1) := by decide +kernel
theorem dX4_close_1 : decode cX4_close 1 = .ok (.iconst 1, 1) := by decide +kernel
theorem dX4_close_2 : decode cX4_close 2 = .ok (.if_icmp .lt 9, 3) := by decide +kernel
theorem dX4_close_5 : decode cX4_close 5 = .ok (.iload_n 1, 1) := by decide +kernel
theorem dX4_close_6 : decode cX4_close 6 = .ok (.bipush 24, 2) := by decide +kernel
theorem dX4_close_8 : decode cX4_close 8 = .ok (.if_icmp .le 13, 3) := by decide +kernel
theorem dX4_close_11 : decode cX4_close 11 = .ok (.new 44, 3) := by decide +kernel
theorem dX4_close_14 : decode cX4_close 14 = .ok (.dup, 1) := by decide +kernel
theorem dX4_close_15 : decode cX4_close 15 = .ok (.ldc 121, 2) := by decide +kernel
theorem dX4_close_17 : decode cX4_close 17 = .ok (.invokespecial 48, 3) := by decide +kernel
theorem dX4_close_20 : decode cX4_close 20 = .ok (.athrow, 1) := by decide +kernel
theorem dX4_close_21 : decode cX4_close 21 = .ok (.aload_n 0, 1) := by decide +kernel
theorem dX4_close_22 : decode cX4_close 22 = .ok (.getfield 40, 3) := by decide +kernel
theorem dX4_close_25 : decode cX4_close 25 = .ok (.iload_n 1, 1) := by decide +kernel
theorem dX4_close_26 : decode cX4_close 26 = .ok (.iadd, 1) := by decide +kernel
theorem dX4_close_27 : decode cX4_close 27 = .ok (.bipush 120, 2) := by decide +kernel
theorem dX4_close_29 : decode cX4_close 29 = .ok (.if_icmp .le 13, 3) := by decide +kernel
theorem dX4_close_32 : decode cX4_close 32 = .ok (.new 78, 3) := by decide +kernel
theorem dX4_close_35 : decode cX4_close 35 = .ok (.dup, 1) := by decide +kernel
theorem dX4_close_36 : decode cX4_close 36 = .ok (.ldc 123, 2) := by decide +kernel
theorem dX4_close_38 : decode cX4_close 38 = .ok (.invokespecial 82, 3) := by decide +kernel
theorem dX4_close_41 : decode cX4_close 41 = .ok (.athrow, 1) := by decide +kernel
theorem dX4_close_42 : decode cX4_close 42 = .ok (.iconst 0, 1) := by decide +kernel
theorem dX4_close_43 : decode cX4_close 43 = .ok (.istore_n 2, 1) := by decide +kernel
theorem dX4_close_44 : decode cX4_close 44 = .ok (.iload_n 2, 1) := by decide +kernel
theorem dX4_close_45 : decode cX4_close 45 = .ok (.iload_n 1, 1) := by decide +kernel
theorem dX4_close_46 : decode cX4_close 46 = .ok (.if_icmp .ge 46, 3) := by decide +kernel
theorem dX4_close_49 : decode cX4_close 49 = .ok (.aload_n 0, 1) := by decide +kernel
theorem dX4_close_50 : decode cX4_close 50 = .ok (.aload_n 0, 1) := by decide +kernel
theorem dX4_close_51 : decode cX4_close 51 = .ok (.getfield 40, 3) := by decide +kernel
theorem dX4_close_54 : decode cX4_close 54 = .ok (.aload_n 0, 1) := by decide +kernel
theorem dX4_close_55 : decode cX4_close 55 = .ok (.getfield 33, 3) := by decide +kernel
theorem dX4_close_58 : decode cX4_close 58 = .ok (.invokevirtual 125, 3) := by decide +kernel
theorem dX4_close_61 : decode cX4_close 61 = .ok (.aload_n 0, 1) := by decide +kernel
theorem dX4_close_62 : decode cX4_close 62 = .ok (.dup, 1) := by decide +kernel
theorem dX4_close_63 : decode cX4_close 63 = .ok (.getfield 40, 3) := by decide +kernel
theorem dX4_close_66 : decode cX4_close 66 = .ok (.iconst 1, 1) := by decide +kernel
theorem dX4_close_67 : decode cX4_close 67 = .ok (.iadd, 1) := by decide +kernel
theorem dX4_close_68 : decode cX4_close 68 = .ok (.putfield 40, 3) := by decide +kernel
theorem dX4_close_71 : decode cX4_close 71 = .ok (.aload_n 0, 1) := by decide +kernel
theorem dX4_close_72 : decode cX4_close 72 = .ok (.getfield 26, 3) := by decide +kernel
theorem dX4_close_75 : decode cX4_close 75 = .ok (.aload_n 0, 1) := by decide +kernel
theorem dX4_close_76 : decode cX4_close 76 = .ok (.getfield 40, 3) := by decide +kernel
theorem dX4_close_79 : decode cX4_close 79 = .ok (.aload_n 0, 1) := by decide +kernel
theorem dX4_close_80 : decode cX4_close 80 = .ok (.getfield 33, 3) := by decide +kernel
theorem dX4_close_83 : decode cX4_close 83 = .ok (.invokevirtual 129, 3) := by decide +kernel
theorem dX4_close_86 : decode cX4_close 86 = .ok (.iinc 2 1, 3) := by decide +kernel
theorem dX4_close_89 : decode cX4_close 89 = .ok (.goto (-45), 3) := by decide +kernel
theorem dX4_close_92 : decode cX4_close 92 = .ok (.aload_n 0, 1) := by decide +kernel
theorem dX4_close_93 : decode cX4_close 93 = .ok (.getfield 40, 3) := by decide +kernel
theorem dX4_close_96 : decode cX4_close 96 = .ok (.ireturn, 1) := by decide +kernel
theorem dX4_month_0 : decode cX4_month 0 = .ok (.aload_n 0, 1) := by decide +kernel
theorem dX4_month_1 : decode cX4_month 1 = .ok (.getfield 40, 3) := by decide +kernel
theorem dX4_month_4 : decode cX4_month 4 = .ok (.ireturn, 1) := by decide +kernel
theorem dX4_state_0 : decode cX4_state 0 = .ok (.aload_n 0, 1) := by decide +kernel
theorem dX4_state_1 : decode cX4_state 1 = .ok (.getfield 33, 3) := by decide +kernel
theorem dX4_state_4 : decode cX4_state 4 = .ok (.getfield 132, 3) := by decide +kernel
theorem dX4_state_7 : decode cX4_state 7 = .ok (.ireturn, 1) := by decide +kernel
theorem dX4_account_0 : decode cX4_account 0 = .ok (.aload_n 0, 1) := by decide +kernel
theorem dX4_account_1 : decode cX4_account 1 = .ok (.getfield 33, 3) := by decide +kernel
theorem dX4_account_4 : decode cX4_account 4 = .ok (.getfield 135, 3) := by decide +kernel
theorem dX4_account_7 : decode cX4_account 7 = .ok (.ireturn, 1) := by decide +kernel
theorem dX4_loan_0 : decode cX4_loan 0 = .ok (.aload_n 0, 1) := by decide +kernel
theorem dX4_loan_1 : decode cX4_loan 1 = .ok (.getfield 33, 3) := by decide +kernel
theorem dX4_loan_4 : decode cX4_loan 4 = .ok (.getfield 138, 3) := by decide +kernel
theorem dX4_loan_7 : decode cX4_loan 7 = .ok (.ireturn, 1) := by decide +kernel
theorem dX4_arrears_0 : decode cX4_arrears 0 = .ok (.aload_n 0, 1) := by decide +kernel
theorem dX4_arrears_1 : decode cX4_arrears 1 = .ok (.getfield 33, 3) := by decide +kernel
theorem dX4_arrears_4 : decode cX4_arrears 4 = .ok (.getfield 141, 3) := by decide +kernel
theorem dX4_arrears_7 : decode cX4_arrears 7 = .ok (.ireturn, 1) := by decide +kernel
theorem dX4_deathSum_0 : decode cX4_deathSum 0 = .ok (.aload_n 0, 1) := by decide +kernel
theorem dX4_deathSum_1 : decode cX4_deathSum 1 = .ok (.getfield 33, 3) := by decide +kernel
theorem dX4_deathSum_4 : decode cX4_deathSum 4 = .ok (.invokevirtual 144, 3) := by decide +kernel
theorem dX4_deathSum_7 : decode cX4_deathSum 7 = .ok (.ifCond .eq 24, 3) := by decide +kernel
theorem dX4_deathSum_10 : decode cX4_deathSum 10 = .ok (.aload_n 0, 1) := by decide +kernel
theorem dX4_deathSum_11 : decode cX4_deathSum 11 = .ok (.getfield 10, 3) := by decide +kernel
theorem dX4_deathSum_14 : decode cX4_deathSum 14 = .ok (.aload_n 0, 1) := by decide +kernel
theorem dX4_deathSum_15 : decode cX4_deathSum 15 = .ok (.getfield 33, 3) := by decide +kernel
theorem dX4_deathSum_18 : decode cX4_deathSum 18 = .ok (.getfield 135, 3) := by decide +kernel
theorem dX4_deathSum_21 : decode cX4_deathSum 21 = .ok (.aload_n 0, 1) := by decide +kernel
theorem dX4_deathSum_22 : decode cX4_deathSum 22 = .ok (.getfield 40, 3) := by decide +kernel
theorem dX4_deathSum_25 : decode cX4_deathSum 25 = .ok (.invokevirtual 147, 3) := by decide +kernel
theorem dX4_deathSum_28 : decode cX4_deathSum 28 = .ok (.goto 4, 3) := by decide +kernel
theorem dX4_deathSum_31 : decode cX4_deathSum 31 = .ok (.iconst 0, 1) := by decide +kernel
theorem dX4_deathSum_32 : decode cX4_deathSum 32 = .ok (.ireturn, 1) := by decide +kernel
theorem dX4_paid_0 : decode cX4_paid 0 = .ok (.aload_n 0, 1) := by decide +kernel
theorem dX4_paid_1 : decode cX4_paid 1 = .ok (.getfield 33, 3) := by decide +kernel
theorem dX4_paid_4 : decode cX4_paid 4 = .ok (.getfield 132, 3) := by decide +kernel
theorem dX4_paid_7 : decode cX4_paid 7 = .ok (.iconst 3, 1) := by decide +kernel
theorem dX4_paid_8 : decode cX4_paid 8 = .ok (.if_icmp .ne 13, 3) := by decide +kernel
theorem dX4_paid_11 : decode cX4_paid 11 = .ok (.aload_n 0, 1) := by decide +kernel
theorem dX4_paid_12 : decode cX4_paid 12 = .ok (.getfield 33, 3) := by decide +kernel
theorem dX4_paid_15 : decode cX4_paid 15 = .ok (.getfield 151, 3) := by decide +kernel
theorem dX4_paid_18 : decode cX4_paid 18 = .ok (.goto 4, 3) := by decide +kernel
theorem dX4_paid_21 : decode cX4_paid 21 = .ok (.iconst (-1), 1) := by decide +kernel
theorem dX4_paid_22 : decode cX4_paid 22 = .ok (.ireturn, 1) := by decide +kernel
theorem dX4_charge_0 : decode cX4_charge 0 = .ok (.aload_n 0, 1) := by decide +kernel
theorem dX4_charge_1 : decode cX4_charge 1 = .ok (.getfield 33, 3) := by decide +kernel
theorem dX4_charge_4 : decode cX4_charge 4 = .ok (.invokevirtual 144, 3) := by decide +kernel
theorem dX4_charge_7 : decode cX4_charge 7 = .ok (.ifCond .eq 24, 3) := by decide +kernel
theorem dX4_charge_10 : decode cX4_charge 10 = .ok (.aload_n 0, 1) := by decide +kernel
theorem dX4_charge_11 : decode cX4_charge 11 = .ok (.getfield 10, 3) := by decide +kernel
theorem dX4_charge_14 : decode cX4_charge 14 = .ok (.aload_n 0, 1) := by decide +kernel
theorem dX4_charge_15 : decode cX4_charge 15 = .ok (.getfield 33, 3) := by decide +kernel
theorem dX4_charge_18 : decode cX4_charge 18 = .ok (.getfield 135, 3) := by decide +kernel
theorem dX4_charge_21 : decode cX4_charge 21 = .ok (.aload_n 0, 1) := by decide +kernel
theorem dX4_charge_22 : decode cX4_charge 22 = .ok (.getfield 40, 3) := by decide +kernel
theorem dX4_charge_25 : decode cX4_charge 25 = .ok (.invokevirtual 154, 3) := by decide +kernel
theorem dX4_charge_28 : decode cX4_charge 28 = .ok (.goto 4, 3) := by decide +kernel
theorem dX4_charge_31 : decode cX4_charge 31 = .ok (.iconst 0, 1) := by decide +kernel
theorem dX4_charge_32 : decode cX4_charge 32 = .ok (.ireturn, 1) := by decide +kernel
theorem dX4_grace_0 : decode cX4_grace 0 = .ok (.aload_n 0, 1) := by decide +kernel
theorem dX4_grace_1 : decode cX4_grace 1 = .ok (.getfield 33, 3) := by decide +kernel
theorem dX4_grace_4 : decode cX4_grace 4 = .ok (.getfield 157, 3) := by decide +kernel
theorem dX4_grace_7 : decode cX4_grace 7 = .ok (.ireturn, 1) := by decide +kernel
theorem dX4_corridor_0 : decode cX4_corridor 0 = .ok (.iload_n 1, 1) := by decide +kernel
theorem dX4_corridor_1 : decode cX4_corridor 1 = .ok (.bipush 18, 2) := by decide +kernel
theorem dX4_corridor_3 : decode cX4_corridor 3 = .ok (.if_icmp .lt 9, 3) := by decide +kernel
theorem dX4_corridor_6 : decode cX4_corridor 6 = .ok (.iload_n 1, 1) := by decide +kernel
theorem dX4_corridor_7 : decode cX4_corridor 7 = .ok (.bipush 120, 2) := by decide +kernel
theorem dX4_corridor_9 : decode cX4_corridor 9 = .ok (.if_icmp .le 13, 3) := by decide +kernel
theorem dX4_corridor_12 : decode cX4_corridor 12 = .ok (.new 44, 3) := by decide +kernel
theorem dX4_corridor_15 : decode cX4_corridor 15 = .ok (.dup, 1) := by decide +kernel
theorem dX4_corridor_16 : decode cX4_corridor 16 = .ok (.ldc 160, 2) := by decide +kernel
theorem dX4_corridor_18 : decode cX4_corridor 18 = .ok (.invokespecial 48, 3) := by decide +kernel
theorem dX4_corridor_21 : decode cX4_corridor 21 = .ok (.athrow, 1) := by decide +kernel
theorem dX4_corridor_22 : decode cX4_corridor 22 = .ok (.aload_n 0, 1) := by decide +kernel
theorem dX4_corridor_23 : decode cX4_corridor 23 = .ok (.getfield 10, 3) := by decide +kernel
theorem dX4_corridor_26 : decode cX4_corridor 26 = .ok (.iload_n 1, 1) := by decide +kernel
theorem dX4_corridor_27 : decode cX4_corridor 27 = .ok (.invokevirtual 162, 3) := by decide +kernel
theorem dX4_corridor_30 : decode cX4_corridor 30 = .ok (.ireturn, 1) := by decide +kernel
theorem dX4_accountAt_0 : decode cX4_accountAt 0 = .ok (.iload_n 1, 1) := by decide +kernel
theorem dX4_accountAt_1 : decode cX4_accountAt 1 = .ok (.ifCond .lt 11, 3) := by decide +kernel
theorem dX4_accountAt_4 : decode cX4_accountAt 4 = .ok (.iload_n 1, 1) := by decide +kernel
theorem dX4_accountAt_5 : decode cX4_accountAt 5 = .ok (.aload_n 0, 1) := by decide +kernel
theorem dX4_accountAt_6 : decode cX4_accountAt 6 = .ok (.getfield 40, 3) := by decide +kernel
theorem dX4_accountAt_9 : decode cX4_accountAt 9 = .ok (.if_icmp .le 13, 3) := by decide +kernel
theorem dX4_accountAt_12 : decode cX4_accountAt 12 = .ok (.new 44, 3) := by decide +kernel
theorem dX4_accountAt_15 : decode cX4_accountAt 15 = .ok (.dup, 1) := by decide +kernel
theorem dX4_accountAt_16 : decode cX4_accountAt 16 = .ok (.ldc 67, 2) := by decide +kernel
theorem dX4_accountAt_18 : decode cX4_accountAt 18 = .ok (.invokespecial 48, 3) := by decide +kernel
theorem dX4_accountAt_21 : decode cX4_accountAt 21 = .ok (.athrow, 1) := by decide +kernel
theorem dX4_accountAt_22 : decode cX4_accountAt 22 = .ok (.aload_n 0, 1) := by decide +kernel
theorem dX4_accountAt_23 : decode cX4_accountAt 23 = .ok (.getfield 26, 3) := by decide +kernel
theorem dX4_accountAt_26 : decode cX4_accountAt 26 = .ok (.iload_n 1, 1) := by decide +kernel
theorem dX4_accountAt_27 : decode cX4_accountAt 27 = .ok (.aload_n 0, 1) := by decide +kernel
theorem dX4_accountAt_28 : decode cX4_accountAt 28 = .ok (.getfield 37, 3) := by decide +kernel
theorem dX4_accountAt_31 : decode cX4_accountAt 31 = .ok (.invokevirtual 165, 3) := by decide +kernel
theorem dX4_accountAt_34 : decode cX4_accountAt 34 = .ok (.aload_n 0, 1) := by decide +kernel
theorem dX4_accountAt_35 : decode cX4_accountAt 35 = .ok (.getfield 37, 3) := by decide +kernel
theorem dX4_accountAt_38 : decode cX4_accountAt 38 = .ok (.getfield 135, 3) := by decide +kernel
theorem dX4_accountAt_41 : decode cX4_accountAt 41 = .ok (.ireturn, 1) := by decide +kernel
theorem dX4_accountFromStart_0 : decode cX4_accountFromStart 0 = .ok (.iload_n 1, 1) := by decide +kernel
theorem dX4_accountFromStart_1 : decode cX4_accountFromStart 1 = .ok (.ifCond .lt 11, 3) := by decide +kernel
theorem dX4_accountFromStart_4 : decode cX4_accountFromStart 4 = .ok (.iload_n 1, 1) := by decide +kernel
theorem dX4_accountFromStart_5 : decode cX4_accountFromStart 5 = .ok (.aload_n 0, 1) := by decide +kernel
theorem dX4_accountFromStart_6 : decode cX4_accountFromStart 6 = .ok (.getfield 40, 3) := by decide +kernel
theorem dX4_accountFromStart_9 : decode cX4_accountFromStart 9 = .ok (.if_icmp .le 13, 3) := by decide +kernel
theorem dX4_accountFromStart_12 : decode cX4_accountFromStart 12 = .ok (.new 44, 3) := by decide +kernel
theorem dX4_accountFromStart_15 : decode cX4_accountFromStart 15 = .ok (.dup, 1) := by decide +kernel
theorem dX4_accountFromStart_16 : decode cX4_accountFromStart 16 = .ok (.ldc 67, 2) := by decide +kernel
theorem dX4_accountFromStart_18 : decode cX4_accountFromStart 18 = .ok (.invokespecial 48, 3) := by decide +kernel
theorem dX4_accountFromStart_21 : decode cX4_accountFromStart 21 = .ok (.athrow, 1) := by decide +kernel
theorem dX4_accountFromStart_22 : decode cX4_accountFromStart 22 = .ok (.aload_n 0, 1) := by decide +kernel
theorem dX4_accountFromStart_23 : decode cX4_accountFromStart 23 = .ok (.getfield 37, 3) := by decide +kernel
theorem dX4_accountFromStart_26 : decode cX4_accountFromStart 26 = .ok (.invokevirtual 64, 3) := by decide +kernel
theorem dX4_accountFromStart_29 : decode cX4_accountFromStart 29 = .ok (.iconst 0, 1) := by decide +kernel
theorem dX4_accountFromStart_30 : decode cX4_accountFromStart 30 = .ok (.istore_n 2, 1) := by decide +kernel
theorem dX4_accountFromStart_31 : decode cX4_accountFromStart 31 = .ok (.iload_n 2, 1) := by decide +kernel
theorem dX4_accountFromStart_32 : decode cX4_accountFromStart 32 = .ok (.iload_n 1, 1) := by decide +kernel
theorem dX4_accountFromStart_33 : decode cX4_accountFromStart 33 = .ok (.if_icmp .ge 27, 3) := by decide +kernel
theorem dX4_accountFromStart_36 : decode cX4_accountFromStart 36 = .ok (.aload_n 0, 1) := by decide +kernel
theorem dX4_accountFromStart_37 : decode cX4_accountFromStart 37 = .ok (.iload_n 2, 1) := by decide +kernel
theorem dX4_accountFromStart_38 : decode cX4_accountFromStart 38 = .ok (.aload_n 0, 1) := by decide +kernel
theorem dX4_accountFromStart_39 : decode cX4_accountFromStart 39 = .ok (.getfield 37, 3) := by decide +kernel
theorem dX4_accountFromStart_42 : decode cX4_accountFromStart 42 = .ok (.invokevirtual 168, 3) := by decide +kernel
theorem dX4_accountFromStart_45 : decode cX4_accountFromStart 45 = .ok (.aload_n 0, 1) := by decide +kernel
theorem dX4_accountFromStart_46 : decode cX4_accountFromStart 46 = .ok (.iload_n 2, 1) := by decide +kernel
theorem dX4_accountFromStart_47 : decode cX4_accountFromStart 47 = .ok (.aload_n 0, 1) := by decide +kernel
theorem dX4_accountFromStart_48 : decode cX4_accountFromStart 48 = .ok (.getfield 37, 3) := by decide +kernel
theorem dX4_accountFromStart_51 : decode cX4_accountFromStart 51 = .ok (.invokevirtual 125, 3) := by decide +kernel
theorem dX4_accountFromStart_54 : decode cX4_accountFromStart 54 = .ok (.iinc 2 1, 3) := by decide +kernel
theorem dX4_accountFromStart_57 : decode cX4_accountFromStart 57 = .ok (.goto (-26), 3) := by decide +kernel
theorem dX4_accountFromStart_60 : decode cX4_accountFromStart 60 = .ok (.aload_n 0, 1) := by decide +kernel
theorem dX4_accountFromStart_61 : decode cX4_accountFromStart 61 = .ok (.getfield 37, 3) := by decide +kernel
theorem dX4_accountFromStart_64 : decode cX4_accountFromStart 64 = .ok (.getfield 135, 3) := by decide +kernel
theorem dX4_accountFromStart_67 : decode cX4_accountFromStart 67 = .ok (.ireturn, 1) := by decide +kernel
theorem dX4_stateAt_0 : decode cX4_stateAt 0 = .ok (.iload_n 1, 1) := by decide +kernel
theorem dX4_stateAt_1 : decode cX4_stateAt 1 = .ok (.ifCond .lt 11, 3) := by decide +kernel
theorem dX4_stateAt_4 : decode cX4_stateAt 4 = .ok (.iload_n 1, 1) := by decide +kernel
theorem dX4_stateAt_5 : decode cX4_stateAt 5 = .ok (.aload_n 0, 1) := by decide +kernel
theorem dX4_stateAt_6 : decode cX4_stateAt 6 = .ok (.getfield 40, 3) := by decide +kernel
theorem dX4_stateAt_9 : decode cX4_stateAt 9 = .ok (.if_icmp .le 13, 3) := by decide +kernel
theorem dX4_stateAt_12 : decode cX4_stateAt 12 = .ok (.new 44, 3) := by decide +kernel
theorem dX4_stateAt_15 : decode cX4_stateAt 15 = .ok (.dup, 1) := by decide +kernel
theorem dX4_stateAt_16 : decode cX4_stateAt 16 = .ok (.ldc 67, 2) := by decide +kernel
theorem dX4_stateAt_18 : decode cX4_stateAt 18 = .ok (.invokespecial 48, 3) := by decide +kernel
theorem dX4_stateAt_21 : decode cX4_stateAt 21 = .ok (.athrow, 1) := by decide +kernel
theorem dX4_stateAt_22 : decode cX4_stateAt 22 = .ok (.aload_n 0, 1) := by decide +kernel
theorem dX4_stateAt_23 : decode cX4_stateAt 23 = .ok (.getfield 26, 3) := by decide +kernel
theorem dX4_stateAt_26 : decode cX4_stateAt 26 = .ok (.iload_n 1, 1) := by decide +kernel
theorem dX4_stateAt_27 : decode cX4_stateAt 27 = .ok (.aload_n 0, 1) := by decide +kernel
theorem dX4_stateAt_28 : decode cX4_stateAt 28 = .ok (.getfield 37, 3) := by decide +kernel
theorem dX4_stateAt_31 : decode cX4_stateAt 31 = .ok (.invokevirtual 165, 3) := by decide +kernel
theorem dX4_stateAt_34 : decode cX4_stateAt 34 = .ok (.aload_n 0, 1) := by decide +kernel
theorem dX4_stateAt_35 : decode cX4_stateAt 35 = .ok (.getfield 37, 3) := by decide +kernel
theorem dX4_stateAt_38 : decode cX4_stateAt 38 = .ok (.getfield 132, 3) := by decide +kernel
theorem dX4_stateAt_41 : decode cX4_stateAt 41 = .ok (.ireturn, 1) := by decide +kernel
theorem dX4_wouldLapse_0 : decode cX4_wouldLapse 0 = .ok (.iload_n 1, 1) := by decide +kernel
theorem dX4_wouldLapse_1 : decode cX4_wouldLapse 1 = .ok (.iconst 1, 1) := by decide +kernel
theorem dX4_wouldLapse_2 : decode cX4_wouldLapse 2 = .ok (.if_icmp .lt 9, 3) := by decide +kernel
theorem dX4_wouldLapse_5 : decode cX4_wouldLapse 5 = .ok (.iload_n 1, 1) := by decide +kernel
theorem dX4_wouldLapse_6 : decode cX4_wouldLapse 6 = .ok (.bipush 120, 2) := by decide +kernel
theorem dX4_wouldLapse_8 : decode cX4_wouldLapse 8 = .ok (.if_icmp .le 13, 3) := by decide +kernel
theorem dX4_wouldLapse_11 : decode cX4_wouldLapse 11 = .ok (.new 44, 3) := by decide +kernel
theorem dX4_wouldLapse_14 : decode cX4_wouldLapse 14 = .ok (.dup, 1) := by decide +kernel
theorem dX4_wouldLapse_15 : decode cX4_wouldLapse 15 = .ok (.ldc 171, 2) := by decide +kernel
theorem dX4_wouldLapse_17 : decode cX4_wouldLapse 17 = .ok (.invokespecial 48, 3) := by decide +kernel
theorem dX4_wouldLapse_20 : decode cX4_wouldLapse 20 = .ok (.athrow, 1) := by decide +kernel
theorem dX4_wouldLapse_21 : decode cX4_wouldLapse 21 = .ok (.aload_n 0, 1) := by decide +kernel
theorem dX4_wouldLapse_22 : decode cX4_wouldLapse 22 = .ok (.getfield 33, 3) := by decide +kernel
theorem dX4_wouldLapse_25 : decode cX4_wouldLapse 25 = .ok (.invokevirtual 144, 3) := by decide +kernel
theorem dX4_wouldLapse_28 : decode cX4_wouldLapse 28 = .ok (.ifCond .ne 5, 3) := by decide +kernel
theorem dX4_wouldLapse_31 : decode cX4_wouldLapse 31 = .ok (.iconst (-1), 1) := by decide +kernel
theorem dX4_wouldLapse_32 : decode cX4_wouldLapse 32 = .ok (.ireturn, 1) := by decide +kernel
theorem dX4_wouldLapse_33 : decode cX4_wouldLapse 33 = .ok (.aload_n 0, 1) := by decide +kernel
theorem dX4_wouldLapse_34 : decode cX4_wouldLapse 34 = .ok (.iconst 0, 1) := by decide +kernel
theorem dX4_wouldLapse_35 : decode cX4_wouldLapse 35 = .ok (.iload_n 1, 1) := by decide +kernel
theorem dX4_wouldLapse_36 : decode cX4_wouldLapse 36 = .ok (.invokevirtual 173, 3) := by decide +kernel
theorem dX4_wouldLapse_39 : decode cX4_wouldLapse 39 = .ok (.ireturn, 1) := by decide +kernel
theorem dX4_needed_0 : decode cX4_needed 0 = .ok (.iload_n 1, 1) := by decide +kernel
theorem dX4_needed_1 : decode cX4_needed 1 = .ok (.iconst 1, 1) := by decide +kernel
theorem dX4_needed_2 : decode cX4_needed 2 = .ok (.if_icmp .lt 9, 3) := by decide +kernel
theorem dX4_needed_5 : decode cX4_needed 5 = .ok (.iload_n 1, 1) := by decide +kernel
theorem dX4_needed_6 : decode cX4_needed 6 = .ok (.bipush 36, 2) := by decide +kernel
theorem dX4_needed_8 : decode cX4_needed 8 = .ok (.if_icmp .le 13, 3) := by decide +kernel
theorem dX4_needed_11 : decode cX4_needed 11 = .ok (.new 44, 3) := by decide +kernel
theorem dX4_needed_14 : decode cX4_needed 14 = .ok (.dup, 1) := by decide +kernel
theorem dX4_needed_15 : decode cX4_needed 15 = .ok (.ldc 176, 2) := by decide +kernel
theorem dX4_needed_17 : decode cX4_needed 17 = .ok (.invokespecial 48, 3) := by decide +kernel
theorem dX4_needed_20 : decode cX4_needed 20 = .ok (.athrow, 1) := by decide +kernel
theorem dX4_needed_21 : decode cX4_needed 21 = .ok (.aload_n 0, 1) := by decide +kernel
theorem dX4_needed_22 : decode cX4_needed 22 = .ok (.getfield 33, 3) := by decide +kernel
theorem dX4_needed_25 : decode cX4_needed 25 = .ok (.invokevirtual 144, 3) := by decide +kernel
theorem dX4_needed_28 : decode cX4_needed 28 = .ok (.ifCond .ne 5, 3) := by decide +kernel
theorem dX4_needed_31 : decode cX4_needed 31 = .ok (.iconst (-1), 1) := by decide +kernel
theorem dX4_needed_32 : decode cX4_needed 32 = .ok (.ireturn, 1) := by decide +kernel
theorem dX4_needed_33 : decode cX4_needed 33 = .ok (.aload_n 0, 1) := by decide +kernel
theorem dX4_needed_34 : decode cX4_needed 34 = .ok (.iconst 0, 1) := by decide +kernel
theorem dX4_needed_35 : decode cX4_needed 35 = .ok (.iload_n 1, 1) := by decide +kernel
theorem dX4_needed_36 : decode cX4_needed 36 = .ok (.invokevirtual 173, 3) := by decide +kernel
theorem dX4_needed_39 : decode cX4_needed 39 = .ok (.iconst (-1), 1) := by decide +kernel
theorem dX4_needed_40 : decode cX4_needed 40 = .ok (.if_icmp .ne 5, 3) := by decide +kernel
theorem dX4_needed_43 : decode cX4_needed 43 = .ok (.iconst 0, 1) := by decide +kernel
theorem dX4_needed_44 : decode cX4_needed 44 = .ok (.ireturn, 1) := by decide +kernel
theorem dX4_needed_45 : decode cX4_needed 45 = .ok (.aload_n 0, 1) := by decide +kernel
theorem dX4_needed_46 : decode cX4_needed 46 = .ok (.ldc 71, 2) := by decide +kernel
theorem dX4_needed_48 : decode cX4_needed 48 = .ok (.iload_n 1, 1) := by decide +kernel
theorem dX4_needed_49 : decode cX4_needed 49 = .ok (.invokevirtual 173, 3) := by decide +kernel
theorem dX4_needed_52 : decode cX4_needed 52 = .ok (.iconst (-1), 1) := by decide +kernel
theorem dX4_needed_53 : decode cX4_needed 53 = .ok (.if_icmp .eq 5, 3) := by decide +kernel
theorem dX4_needed_56 : decode cX4_needed 56 = .ok (.iconst (-1), 1) := by decide +kernel
theorem dX4_needed_57 : decode cX4_needed 57 = .ok (.ireturn, 1) := by decide +kernel
theorem dX4_needed_58 : decode cX4_needed 58 = .ok (.aload_n 0, 1) := by decide +kernel
theorem dX4_needed_59 : decode cX4_needed 59 = .ok (.iload_n 1, 1) := by decide +kernel
theorem dX4_needed_60 : decode cX4_needed 60 = .ok (.invokevirtual 178, 3) := by decide +kernel
theorem dX4_needed_63 : decode cX4_needed 63 = .ok (.ireturn, 1) := by decide +kernel
theorem dX4_leastPremium_0 : decode cX4_leastPremium 0 = .ok (.iconst 0, 1) := by decide +kernel
theorem dX4_leastPremium_1 : decode cX4_leastPremium 1 = .ok (.istore_n 2, 1) := by decide +kernel
theorem dX4_leastPremium_2 : decode cX4_leastPremium 2 = .ok (.ldc 71, 2) := by decide +kernel
theorem dX4_leastPremium_4 : decode cX4_leastPremium 4 = .ok (.istore_n 3, 1) := by decide +kernel
theorem dX4_leastPremium_5 : decode cX4_leastPremium 5 = .ok (.iconst 0, 1) := by decide +kernel
theorem dX4_leastPremium_6 : decode cX4_leastPremium 6 = .ok (.istore 4, 2) := by decide +kernel
theorem dX4_leastPremium_8 : decode cX4_leastPremium 8 = .ok (.iload 4, 2) := by decide +kernel
theorem dX4_leastPremium_10 : decode cX4_leastPremium 10 = .ok (.bipush 21, 2) := by decide +kernel
theorem dX4_leastPremium_12 : decode cX4_leastPremium 12 = .ok (.if_icmp .ge 45, 3) := by decide +kernel
theorem dX4_leastPremium_15 : decode cX4_leastPremium 15 = .ok (.iload_n 3, 1) := by decide +kernel
theorem dX4_leastPremium_16 : decode cX4_leastPremium 16 = .ok (.iload_n 2, 1) := by decide +kernel
theorem dX4_leastPremium_17 : decode cX4_leastPremium 17 = .ok (.isub, 1) := by decide +kernel
theorem dX4_leastPremium_18 : decode cX4_leastPremium 18 = .ok (.iconst 1, 1) := by decide +kernel
theorem dX4_leastPremium_19 : decode cX4_leastPremium 19 = .ok (.if_icmp .le 38, 3) := by decide +kernel
theorem dX4_leastPremium_22 : decode cX4_leastPremium 22 = .ok (.iload_n 2, 1) := by decide +kernel
theorem dX4_leastPremium_23 : decode cX4_leastPremium 23 = .ok (.iload_n 3, 1) := by decide +kernel
theorem dX4_leastPremium_24 : decode cX4_leastPremium 24 = .ok (.iload_n 2, 1) := by decide +kernel
theorem dX4_leastPremium_25 : decode cX4_leastPremium 25 = .ok (.isub, 1) := by decide +kernel
theorem dX4_leastPremium_26 : decode cX4_leastPremium 26 = .ok (.iconst 2, 1) := by decide +kernel
theorem dX4_leastPremium_27 : decode cX4_leastPremium 27 = .ok (.idiv, 1) := by decide +kernel
theorem dX4_leastPremium_28 : decode cX4_leastPremium 28 = .ok (.iadd, 1) := by decide +kernel
theorem dX4_leastPremium_29 : decode cX4_leastPremium 29 = .ok (.istore 5, 2) := by decide +kernel
theorem dX4_leastPremium_31 : decode cX4_leastPremium 31 = .ok (.aload_n 0, 1) := by decide +kernel
theorem dX4_leastPremium_32 : decode cX4_leastPremium 32 = .ok (.iload 5, 2) := by decide +kernel
theorem dX4_leastPremium_34 : decode cX4_leastPremium 34 = .ok (.iload_n 1, 1) := by decide +kernel
theorem dX4_leastPremium_35 : decode cX4_leastPremium 35 = .ok (.invokevirtual 173, 3) := by decide +kernel
theorem dX4_leastPremium_38 : decode cX4_leastPremium 38 = .ok (.iconst (-1), 1) := by decide +kernel
theorem dX4_leastPremium_39 : decode cX4_leastPremium 39 = .ok (.if_icmp .ne 9, 3) := by decide +kernel
theorem dX4_leastPremium_42 : decode cX4_leastPremium 42 = .ok (.iload 5, 2) := by decide +kernel
theorem dX4_leastPremium_44 : decode cX4_leastPremium 44 = .ok (.istore_n 3, 1) := by decide +kernel
theorem dX4_leastPremium_45 : decode cX4_leastPremium 45 = .ok (.goto 6, 3) := by decide +kernel
theorem dX4_leastPremium_48 : decode cX4_leastPremium 48 = .ok (.iload 5, 2) := by decide +kernel
theorem dX4_leastPremium_50 : decode cX4_leastPremium 50 = .ok (.istore_n 2, 1) := by decide +kernel
theorem dX4_leastPremium_51 : decode cX4_leastPremium 51 = .ok (.iinc 4 1, 3) := by decide +kernel
theorem dX4_leastPremium_54 : decode cX4_leastPremium 54 = .ok (.goto (-46), 3) := by decide +kernel
theorem dX4_leastPremium_57 : decode cX4_leastPremium 57 = .ok (.iload_n 3, 1) := by decide +kernel
theorem dX4_leastPremium_58 : decode cX4_leastPremium 58 = .ok (.ireturn, 1) := by decide +kernel
theorem dX4_firstLapsed_0 : decode cX4_firstLapsed 0 = .ok (.aload_n 0, 1) := by decide +kernel
theorem dX4_firstLapsed_1 : decode cX4_firstLapsed 1 = .ok (.getfield 37, 3) := by decide +kernel
theorem dX4_firstLapsed_4 : decode cX4_firstLapsed 4 = .ok (.aload_n 0, 1) := by decide +kernel
theorem dX4_firstLapsed_5 : decode cX4_firstLapsed 5 = .ok (.getfield 33, 3) := by decide +kernel
theorem dX4_firstLapsed_8 : decode cX4_firstLapsed 8 = .ok (.invokevirtual 181, 3) := by decide +kernel
theorem dX4_firstLapsed_11 : decode cX4_firstLapsed 11 = .ok (.iload_n 1, 1) := by decide +kernel
theorem dX4_firstLapsed_12 : decode cX4_firstLapsed 12 = .ok (.ifCond .le 12, 3) := by decide +kernel
theorem dX4_firstLapsed_15 : decode cX4_firstLapsed 15 = .ok (.aload_n 0, 1) := by decide +kernel
theorem dX4_firstLapsed_16 : decode cX4_firstLapsed 16 = .ok (.getfield 37, 3) := by decide +kernel
theorem dX4_firstLapsed_19 : decode cX4_firstLapsed 19 = .ok (.iload_n 1, 1) := by decide +kernel
theorem dX4_firstLapsed_20 : decode cX4_firstLapsed 20 = .ok (.invokevirtual 185, 3) := by decide +kernel
theorem dX4_firstLapsed_23 : decode cX4_firstLapsed 23 = .ok (.pop, 1) := by decide +kernel
theorem dX4_firstLapsed_24 : decode cX4_firstLapsed 24 = .ok (.aload_n 0, 1) := by decide +kernel
theorem dX4_firstLapsed_25 : decode cX4_firstLapsed 25 = .ok (.getfield 40, 3) := by decide +kernel
theorem dX4_firstLapsed_28 : decode cX4_firstLapsed 28 = .ok (.istore_n 3, 1) := by decide +kernel
theorem dX4_firstLapsed_29 : decode cX4_firstLapsed 29 = .ok (.iload_n 3, 1) := by decide +kernel
theorem dX4_firstLapsed_30 : decode cX4_firstLapsed 30 = .ok (.aload_n 0, 1) := by decide +kernel
theorem dX4_firstLapsed_31 : decode cX4_firstLapsed 31 = .ok (.getfield 40, 3) := by decide +kernel
theorem dX4_firstLapsed_34 : decode cX4_firstLapsed 34 = .ok (.iload_n 2, 1) := by decide +kernel
theorem dX4_firstLapsed_35 : decode cX4_firstLapsed 35 = .ok (.iadd, 1) := by decide +kernel
theorem dX4_firstLapsed_36 : decode cX4_firstLapsed 36 = .ok (.if_icmp .ge 33, 3) := by decide +kernel
theorem dX4_firstLapsed_39 : decode cX4_firstLapsed 39 = .ok (.aload_n 0, 1) := by decide +kernel
theorem dX4_firstLapsed_40 : decode cX4_firstLapsed 40 = .ok (.iload_n 3, 1) := by decide +kernel
theorem dX4_firstLapsed_41 : decode cX4_firstLapsed 41 = .ok (.aload_n 0, 1) := by decide +kernel
theorem dX4_firstLapsed_42 : decode cX4_firstLapsed 42 = .ok (.getfield 37, 3) := by decide +kernel
theorem dX4_firstLapsed_45 : decode cX4_firstLapsed 45 = .ok (.invokevirtual 125, 3) := by decide +kernel
theorem dX4_firstLapsed_48 : decode cX4_firstLapsed 48 = .ok (.aload_n 0, 1) := by decide +kernel
theorem dX4_firstLapsed_49 : decode cX4_firstLapsed 49 = .ok (.getfield 37, 3) := by decide +kernel
theorem dX4_firstLapsed_52 : decode cX4_firstLapsed 52 = .ok (.getfield 132, 3) := by decide +kernel
theorem dX4_firstLapsed_55 : decode cX4_firstLapsed 55 = .ok (.iconst 2, 1) := by decide +kernel
theorem dX4_firstLapsed_56 : decode cX4_firstLapsed 56 = .ok (.if_icmp .ne 7, 3) := by decide +kernel
theorem dX4_firstLapsed_59 : decode cX4_firstLapsed 59 = .ok (.iload_n 3, 1) := by decide +kernel
theorem dX4_firstLapsed_60 : decode cX4_firstLapsed 60 = .ok (.iconst 1, 1) := by decide +kernel
theorem dX4_firstLapsed_61 : decode cX4_firstLapsed 61 = .ok (.iadd, 1) := by decide +kernel
theorem dX4_firstLapsed_62 : decode cX4_firstLapsed 62 = .ok (.ireturn, 1) := by decide +kernel
theorem dX4_firstLapsed_63 : decode cX4_firstLapsed 63 = .ok (.iinc 3 1, 3) := by decide +kernel
theorem dX4_firstLapsed_66 : decode cX4_firstLapsed 66 = .ok (.goto (-37), 3) := by decide +kernel
theorem dX4_firstLapsed_69 : decode cX4_firstLapsed 69 = .ok (.iconst (-1), 1) := by decide +kernel
theorem dX4_firstLapsed_70 : decode cX4_firstLapsed 70 = .ok (.ireturn, 1) := by decide +kernel
theorem dX4_workOutFrom_0 : decode cX4_workOutFrom 0 = .ok (.aload_n 0, 1) := by decide +kernel
theorem dX4_workOutFrom_1 : decode cX4_workOutFrom 1 = .ok (.getfield 26, 3) := by decide +kernel
theorem dX4_workOutFrom_4 : decode cX4_workOutFrom 4 = .ok (.iload_n 1, 1) := by decide +kernel
theorem dX4_workOutFrom_5 : decode cX4_workOutFrom 5 = .ok (.aload_n 0, 1) := by decide +kernel
theorem dX4_workOutFrom_6 : decode cX4_workOutFrom 6 = .ok (.getfield 33, 3) := by decide +kernel
theorem dX4_workOutFrom_9 : decode cX4_workOutFrom 9 = .ok (.invokevirtual 165, 3) := by decide +kernel
theorem dX4_workOutFrom_12 : decode cX4_workOutFrom 12 = .ok (.iload_n 1, 1) := by decide +kernel
theorem dX4_workOutFrom_13 : decode cX4_workOutFrom 13 = .ok (.istore_n 2, 1) := by decide +kernel
theorem dX4_workOutFrom_14 : decode cX4_workOutFrom 14 = .ok (.iload_n 2, 1) := by decide +kernel
theorem dX4_workOutFrom_15 : decode cX4_workOutFrom 15 = .ok (.aload_n 0, 1) := by decide +kernel
theorem dX4_workOutFrom_16 : decode cX4_workOutFrom 16 = .ok (.getfield 40, 3) := by decide +kernel
theorem dX4_workOutFrom_19 : decode cX4_workOutFrom 19 = .ok (.if_icmp .ge 37, 3) := by decide +kernel
theorem dX4_workOutFrom_22 : decode cX4_workOutFrom 22 = .ok (.aload_n 0, 1) := by decide +kernel
theorem dX4_workOutFrom_23 : decode cX4_workOutFrom 23 = .ok (.iload_n 2, 1) := by decide +kernel
theorem dX4_workOutFrom_24 : decode cX4_workOutFrom 24 = .ok (.invokevirtual 188, 3) := by decide +kernel
theorem dX4_workOutFrom_27 : decode cX4_workOutFrom 27 = .ok (.aload_n 0, 1) := by decide +kernel
theorem dX4_workOutFrom_28 : decode cX4_workOutFrom 28 = .ok (.iload_n 2, 1) := by decide +kernel
theorem dX4_workOutFrom_29 : decode cX4_workOutFrom 29 = .ok (.aload_n 0, 1) := by decide +kernel
theorem dX4_workOutFrom_30 : decode cX4_workOutFrom 30 = .ok (.getfield 33, 3) := by decide +kernel
theorem dX4_workOutFrom_33 : decode cX4_workOutFrom 33 = .ok (.invokevirtual 125, 3) := by decide +kernel
theorem dX4_workOutFrom_36 : decode cX4_workOutFrom 36 = .ok (.aload_n 0, 1) := by decide +kernel
theorem dX4_workOutFrom_37 : decode cX4_workOutFrom 37 = .ok (.getfield 26, 3) := by decide +kernel
theorem dX4_workOutFrom_40 : decode cX4_workOutFrom 40 = .ok (.iload_n 2, 1) := by decide +kernel
theorem dX4_workOutFrom_41 : decode cX4_workOutFrom 41 = .ok (.iconst 1, 1) := by decide +kernel
theorem dX4_workOutFrom_42 : decode cX4_workOutFrom 42 = .ok (.iadd, 1) := by decide +kernel
theorem dX4_workOutFrom_43 : decode cX4_workOutFrom 43 = .ok (.aload_n 0, 1) := by decide +kernel
theorem dX4_workOutFrom_44 : decode cX4_workOutFrom 44 = .ok (.getfield 33, 3) := by decide +kernel
theorem dX4_workOutFrom_47 : decode cX4_workOutFrom 47 = .ok (.invokevirtual 129, 3) := by decide +kernel
theorem dX4_workOutFrom_50 : decode cX4_workOutFrom 50 = .ok (.iinc 2 1, 3) := by decide +kernel
theorem dX4_workOutFrom_53 : decode cX4_workOutFrom 53 = .ok (.goto (-39), 3) := by decide +kernel
theorem dX4_workOutFrom_56 : decode cX4_workOutFrom 56 = .ok (.aload_n 0, 1) := by decide +kernel
theorem dX4_workOutFrom_57 : decode cX4_workOutFrom 57 = .ok (.aload_n 0, 1) := by decide +kernel
theorem dX4_workOutFrom_58 : decode cX4_workOutFrom 58 = .ok (.getfield 40, 3) := by decide +kernel
theorem dX4_workOutFrom_61 : decode cX4_workOutFrom 61 = .ok (.invokevirtual 188, 3) := by decide +kernel
theorem dX4_workOutFrom_64 : decode cX4_workOutFrom 64 = .ok (.return_, 1) := by decide +kernel
theorem dX4_performAndNote_0 : decode cX4_performAndNote 0 = .ok (.iconst 0, 1) := by decide +kernel
theorem dX4_performAndNote_1 : decode cX4_performAndNote 1 = .ok (.istore_n 2, 1) := by decide +kernel
theorem dX4_performAndNote_2 : decode cX4_performAndNote 2 = .ok (.iload_n 2, 1) := by decide +kernel
theorem dX4_performAndNote_3 : decode cX4_performAndNote 3 = .ok (.aload_n 0, 1) := by decide +kernel
theorem dX4_performAndNote_4 : decode cX4_performAndNote 4 = .ok (.getfield 19, 3) := by decide +kernel
theorem dX4_performAndNote_7 : decode cX4_performAndNote 7 = .ok (.getfield 118, 3) := by decide +kernel
theorem dX4_performAndNote_10 : decode cX4_performAndNote 10 = .ok (.if_icmp .ge 38, 3) := by decide +kernel
theorem dX4_performAndNote_13 : decode cX4_performAndNote 13 = .ok (.aload_n 0, 1) := by decide +kernel
theorem dX4_performAndNote_14 : decode cX4_performAndNote 14 = .ok (.getfield 19, 3) := by decide +kernel
theorem dX4_performAndNote_17 : decode cX4_performAndNote 17 = .ok (.iload_n 2, 1) := by decide +kernel
theorem dX4_performAndNote_18 : decode cX4_performAndNote 18 = .ok (.iload_n 1, 1) := by decide +kernel
theorem dX4_performAndNote_19 : decode cX4_performAndNote 19 = .ok (.invokevirtual 191, 3) := by decide +kernel
theorem dX4_performAndNote_22 : decode cX4_performAndNote 22 = .ok (.ifCond .eq 20, 3) := by decide +kernel
theorem dX4_performAndNote_25 : decode cX4_performAndNote 25 = .ok (.aload_n 0, 1) := by decide +kernel
theorem dX4_performAndNote_26 : decode cX4_performAndNote 26 = .ok (.getfield 19, 3) := by decide +kernel
theorem dX4_performAndNote_29 : decode cX4_performAndNote 29 = .ok (.iload_n 2, 1) := by decide +kernel
theorem dX4_performAndNote_30 : decode cX4_performAndNote 30 = .ok (.aload_n 0, 1) := by decide +kernel
theorem dX4_performAndNote_31 : decode cX4_performAndNote 31 = .ok (.iload_n 2, 1) := by decide +kernel
theorem dX4_performAndNote_32 : decode cX4_performAndNote 32 = .ok (.aload_n 0, 1) := by decide +kernel
theorem dX4_performAndNote_33 : decode cX4_performAndNote 33 = .ok (.getfield 33, 3) := by decide +kernel
theorem dX4_performAndNote_36 : decode cX4_performAndNote 36 = .ok (.invokevirtual 87, 3) := by decide +kernel
theorem dX4_performAndNote_39 : decode cX4_performAndNote 39 = .ok (.invokevirtual 91, 3) := by decide +kernel
theorem dX4_performAndNote_42 : decode cX4_performAndNote 42 = .ok (.iinc 2 1, 3) := by decide +kernel
theorem dX4_performAndNote_45 : decode cX4_performAndNote 45 = .ok (.goto (-43), 3) := by decide +kernel
theorem dX4_performAndNote_48 : decode cX4_performAndNote 48 = .ok (.return_, 1) := by decide +kernel
theorem dX4_performAll_0 : decode cX4_performAll 0 = .ok (.iconst 0, 1) := by decide +kernel
theorem dX4_performAll_1 : decode cX4_performAll 1 = .ok (.istore_n 3, 1) := by decide +kernel
theorem dX4_performAll_2 : decode cX4_performAll 2 = .ok (.iload_n 3, 1) := by decide +kernel
theorem dX4_performAll_3 : decode cX4_performAll 3 = .ok (.aload_n 0, 1) := by decide +kernel
theorem dX4_performAll_4 : decode cX4_performAll 4 = .ok (.getfield 19, 3) := by decide +kernel
theorem dX4_performAll_7 : decode cX4_performAll 7 = .ok (.getfield 118, 3) := by decide +kernel
theorem dX4_performAll_10 : decode cX4_performAll 10 = .ok (.if_icmp .ge 28, 3) := by decide +kernel
theorem dX4_performAll_13 : decode cX4_performAll 13 = .ok (.aload_n 0, 1) := by decide +kernel
theorem dX4_performAll_14 : decode cX4_performAll 14 = .ok (.getfield 19, 3) := by decide +kernel
theorem dX4_performAll_17 : decode cX4_performAll 17 = .ok (.iload_n 3, 1) := by decide +kernel
theorem dX4_performAll_18 : decode cX4_performAll 18 = .ok (.iload_n 1, 1) := by decide +kernel
theorem dX4_performAll_19 : decode cX4_performAll 19 = .ok (.invokevirtual 191, 3) := by decide +kernel
theorem dX4_performAll_22 : decode cX4_performAll 22 = .ok (.ifCond .eq 10, 3) := by decide +kernel
theorem dX4_performAll_25 : decode cX4_performAll 25 = .ok (.aload_n 0, 1) := by decide +kernel
theorem dX4_performAll_26 : decode cX4_performAll 26 = .ok (.iload_n 3, 1) := by decide +kernel
theorem dX4_performAll_27 : decode cX4_performAll 27 = .ok (.aload_n 2, 1) := by decide +kernel
theorem dX4_performAll_28 : decode cX4_performAll 28 = .ok (.invokevirtual 87, 3) := by decide +kernel
theorem dX4_performAll_31 : decode cX4_performAll 31 = .ok (.pop, 1) := by decide +kernel
theorem dX4_performAll_32 : decode cX4_performAll 32 = .ok (.iinc 3 1, 3) := by decide +kernel
theorem dX4_performAll_35 : decode cX4_performAll 35 = .ok (.goto (-33), 3) := by decide +kernel
theorem dX4_performAll_38 : decode cX4_performAll 38 = .ok (.return_, 1) := by decide +kernel
theorem dX4_perform_0 : decode cX4_perform 0 = .ok (.aload_n 0, 1) := by decide +kernel
theorem dX4_perform_1 : decode cX4_perform 1 = .ok (.getfield 19, 3) := by decide +kernel
theorem dX4_perform_4 : decode cX4_perform 4 = .ok (.iload_n 1, 1) := by decide +kernel
theorem dX4_perform_5 : decode cX4_perform 5 = .ok (.invokevirtual 111, 3) := by decide +kernel
theorem dX4_perform_8 : decode cX4_perform 8 = .ok (.istore_n 3, 1) := by decide +kernel
theorem dX4_perform_9 : decode cX4_perform 9 = .ok (.aload_n 0, 1) := by decide +kernel
theorem dX4_perform_10 : decode cX4_perform 10 = .ok (.getfield 19, 3) := by decide +kernel
theorem dX4_perform_13 : decode cX4_perform 13 = .ok (.iload_n 1, 1) := by decide +kernel
theorem dX4_perform_14 : decode cX4_perform 14 = .ok (.invokevirtual 195, 3) := by decide +kernel
theorem dX4_perform_17 : decode cX4_perform 17 = .ok (.istore 4, 2) := by decide +kernel
theorem dX4_perform_19 : decode cX4_perform 19 = .ok (.aload_n 0, 1) := by decide +kernel
theorem dX4_perform_20 : decode cX4_perform 20 = .ok (.getfield 19, 3) := by decide +kernel
theorem dX4_perform_23 : decode cX4_perform 23 = .ok (.iload_n 1, 1) := by decide +kernel
theorem dX4_perform_24 : decode cX4_perform 24 = .ok (.invokevirtual 198, 3) := by decide +kernel
theorem dX4_perform_27 : decode cX4_perform 27 = .ok (.tableswitch 90 0 5 #[37, 44, 51, 58, 65, 73], 37) := by decide +kernel
theorem dX4_perform_64 : decode cX4_perform 64 = .ok (.aload_n 2, 1) := by decide +kernel
theorem dX4_perform_65 : decode cX4_perform 65 = .ok (.iload 4, 2) := by decide +kernel
theorem dX4_perform_67 : decode cX4_perform 67 = .ok (.invokevirtual 185, 3) := by decide +kernel
theorem dX4_perform_70 : decode cX4_perform 70 = .ok (.ireturn, 1) := by decide +kernel
theorem dX4_perform_71 : decode cX4_perform 71 = .ok (.aload_n 2, 1) := by decide +kernel
theorem dX4_perform_72 : decode cX4_perform 72 = .ok (.iload 4, 2) := by decide +kernel
theorem dX4_perform_74 : decode cX4_perform 74 = .ok (.invokevirtual 201, 3) := by decide +kernel
theorem dX4_perform_77 : decode cX4_perform 77 = .ok (.ireturn, 1) := by decide +kernel
theorem dX4_perform_78 : decode cX4_perform 78 = .ok (.aload_n 2, 1) := by decide +kernel
theorem dX4_perform_79 : decode cX4_perform 79 = .ok (.iload 4, 2) := by decide +kernel
theorem dX4_perform_81 : decode cX4_perform 81 = .ok (.invokevirtual 204, 3) := by decide +kernel
theorem dX4_perform_84 : decode cX4_perform 84 = .ok (.ireturn, 1) := by decide +kernel
theorem dX4_perform_85 : decode cX4_perform 85 = .ok (.aload_n 2, 1) := by decide +kernel
theorem dX4_perform_86 : decode cX4_perform 86 = .ok (.iload 4, 2) := by decide +kernel
theorem dX4_perform_88 : decode cX4_perform 88 = .ok (.invokevirtual 207, 3) := by decide +kernel
theorem dX4_perform_91 : decode cX4_perform 91 = .ok (.ireturn, 1) := by decide +kernel
theorem dX4_perform_92 : decode cX4_perform 92 = .ok (.aload_n 2, 1) := by decide +kernel
theorem dX4_perform_93 : decode cX4_perform 93 = .ok (.iload 4, 2) := by decide +kernel
theorem dX4_perform_95 : decode cX4_perform 95 = .ok (.iload_n 3, 1) := by decide +kernel
theorem dX4_perform_96 : decode cX4_perform 96 = .ok (.invokevirtual 210, 3) := by decide +kernel
theorem dX4_perform_99 : decode cX4_perform 99 = .ok (.ireturn, 1) := by decide +kernel
theorem dX4_perform_100 : decode cX4_perform 100 = .ok (.aload_n 2, 1) := by decide +kernel
theorem dX4_perform_101 : decode cX4_perform 101 = .ok (.aload_n 0, 1) := by decide +kernel
theorem dX4_perform_102 : decode cX4_perform 102 = .ok (.getfield 10, 3) := by decide +kernel
theorem dX4_perform_105 : decode cX4_perform 105 = .ok (.aload_n 2, 1) := by decide +kernel
theorem dX4_perform_106 : decode cX4_perform 106 = .ok (.getfield 135, 3) := by decide +kernel
theorem dX4_perform_109 : decode cX4_perform 109 = .ok (.iload_n 3, 1) := by decide +kernel
theorem dX4_perform_110 : decode cX4_perform 110 = .ok (.invokevirtual 147, 3) := by decide +kernel
theorem dX4_perform_113 : decode cX4_perform 113 = .ok (.invokevirtual 213, 3) := by decide +kernel
theorem dX4_perform_116 : decode cX4_perform 116 = .ok (.ireturn, 1) := by decide +kernel
theorem dX4_perform_117 : decode cX4_perform 117 = .ok (.iconst 0, 1) := by decide +kernel
theorem dX4_perform_118 : decode cX4_perform 118 = .ok (.ireturn, 1) := by decide +kernel
theorem dX4_endMonth_0 : decode cX4_endMonth 0 = .ok (.aload_n 2, 1) := by decide +kernel
theorem dX4_endMonth_1 : decode cX4_endMonth 1 = .ok (.invokevirtual 144, 3) := by decide +kernel
theorem dX4_endMonth_4 : decode cX4_endMonth 4 = .ok (.ifCond .eq 24, 3) := by decide +kernel
theorem dX4_endMonth_7 : decode cX4_endMonth 7 = .ok (.aload_n 2, 1) := by decide +kernel
theorem dX4_endMonth_8 : decode cX4_endMonth 8 = .ok (.aload_n 0, 1) := by decide +kernel
theorem dX4_endMonth_9 : decode cX4_endMonth 9 = .ok (.getfield 10, 3) := by decide +kernel
theorem dX4_endMonth_12 : decode cX4_endMonth 12 = .ok (.aload_n 2, 1) := by decide +kernel
theorem dX4_endMonth_13 : decode cX4_endMonth 13 = .ok (.getfield 135, 3) := by decide +kernel
theorem dX4_endMonth_16 : decode cX4_endMonth 16 = .ok (.iload_n 1, 1) := by decide +kernel
theorem dX4_endMonth_17 : decode cX4_endMonth 17 = .ok (.invokevirtual 154, 3) := by decide +kernel
theorem dX4_endMonth_20 : decode cX4_endMonth 20 = .ok (.iload_n 1, 1) := by decide +kernel
theorem dX4_endMonth_21 : decode cX4_endMonth 21 = .ok (.invokevirtual 216, 3) := by decide +kernel
theorem dX4_endMonth_24 : decode cX4_endMonth 24 = .ok (.aload_n 2, 1) := by decide +kernel
theorem dX4_endMonth_25 : decode cX4_endMonth 25 = .ok (.invokevirtual 220, 3) := by decide +kernel
theorem dX4_endMonth_28 : decode cX4_endMonth 28 = .ok (.return_, 1) := by decide +kernel
