theorem dL_begin_0 : decode cL_begin 0 = .ok (.aload 4, 2) := by decide +kernel
theorem dL_begin_2 : decode cL_begin 2 = .ok (.iconst 0, 1) := by decide +kernel
theorem dL_begin_3 : decode cL_begin 3 = .ok (.aload_n 0, 1) := by decide +kernel
theorem dL_begin_4 : decode cL_begin 4 = .ok (.iload_n 1, 1) := by decide +kernel
theorem dL_begin_5 : decode cL_begin 5 = .ok (.iload_n 2, 1) := by decide +kernel
theorem dL_begin_6 : decode cL_begin 6 = .ok (.iload_n 3, 1) := by decide +kernel
theorem dL_begin_7 : decode cL_begin 7 = .ok (.invokevirtual 7, 3) := by decide +kernel
theorem dL_begin_10 : decode cL_begin 10 = .ok (.i2l, 1) := by decide +kernel
theorem dL_begin_11 : decode cL_begin 11 = .ok (.lastore, 1) := by decide +kernel
theorem dL_begin_12 : decode cL_begin 12 = .ok (.goto 7, 3) := by decide +kernel
theorem dL_begin_15 : decode cL_begin 15 = .ok (.astore 5, 2) := by decide +kernel
theorem dL_begin_17 : decode cL_begin 17 = .ok (.iconst 1, 1) := by decide +kernel
theorem dL_begin_18 : decode cL_begin 18 = .ok (.ireturn, 1) := by decide +kernel
theorem dL_begin_19 : decode cL_begin 19 = .ok (.iconst 0, 1) := by decide +kernel
theorem dL_begin_20 : decode cL_begin 20 = .ok (.ireturn, 1) := by decide +kernel
set_option maxRecDepth 20000 in
theorem ggL_tell_X4_tell : GoodIn wsL_tell wsX4_tell := goodIn_ca (goodIn_ca (goodIn_r _ [7, 8, 9, 10, 11, 12, 13, 14, 15, 16, 17, 18, 19, 20, 21, 22, 23, 24, 25, 26, 27, 28, 29, 30, 31, 32, 6, 33, 34, 35, 36, 37, 38, 39, 40, 41, 42, 43, 44, 45, 46, 47, 48, 49, 50, 51, 52, 53, 54, 55, 56, 57, 58, 59, 60, 61, 62, 63, 64, 65, 66, 67, 68, 69, 70, 71, 72, 73, 74, 75, 76, 77, 78, 79, 80, 81, 82, 83, 84, 85, 86, 87, 88, 89, 90, 91, 92, 93, 94, 95, 96, 97, 98, 99, 100, 101, 102, 103, 104, 105, 106, 107, 108, 109, 110, 111, 112, 113, 114, 115, 116, 117, 118, 119, 120, 121, 122, 123, 124, 125, 126, 127, 128, 129, 130, 131, 132, 133, 134, 135, 136, 137, 138, 139, 140, 141, 142, 143, 144, 145, 146, 147, 148, 149, 150, 151, 152, 153, 154, 155, 156, 157, 158, 159, 160, 161, 162, 163, 164, 165, 166, 167, 168, 169, 170, 171, 172, 173, 174, 175, 176, 177, 178, 179, 180, 181, 182, 183, 184, 185, 186, 187, 188, 189, 190, 191, 192, 193, 194, 195, 196, 197, 198, 199, 200, 201, 202, 203, 204, 205, 206, 207, 208, 209, 210, 211, 212, 213, 214, 215, 216, 217, 218, 219, 220, 221, 222, 223, 224, 225, 226, 227, 228, 229, 230, 231, 232, 233, 234, 235, 236, 237, 238, 239, 240, 241, 242, 243] (by decide +kernel) (by decide +kernel)) (goodIn_sub (fun _ h => List.mem_cons_of_mem _ (List.mem_append_left _ (List.mem_append_right _ h))) (by decide +kernel))) (goodIn_sub (fun _ h => List.mem_cons_of_mem _ (List.mem_append_right _ h)) (by decide +kernel))
set_option maxRecDepth 20000 in
theorem gL_tell_X4_tell : GoodIn wsL_tell (wsV RL 15 RX4 yX4_tell wsX4_tell) := goodIn_app (goodIn_of _ (by decide +kernel)) ggL_tell_X4_tell
theorem dL_tell_0 : decode cL_tell 0 = .ok (.aload 4, 2) := by decide +kernel
theorem dL_tell_2 : decode cL_tell 2 = .ok (.iconst 0, 1) := by decide +kernel
theorem dL_tell_3 : decode cL_tell 3 = .ok (.aload_n 0, 1) := by decide +kernel
theorem dL_tell_4 : decode cL_tell 4 = .ok (.iload_n 1, 1) := by decide +kernel
theorem dL_tell_5 : decode cL_tell 5 = .ok (.iload_n 2, 1) := by decide +kernel
theorem dL_tell_6 : decode cL_tell 6 = .ok (.iload_n 3, 1) := by decide +kernel
theorem dL_tell_7 : decode cL_tell 7 = .ok (.invokevirtual 15, 3) := by decide +kernel
theorem dL_tell_10 : decode cL_tell 10 = .ok (.ifCond .eq 7, 3) := by decide +kernel
theorem dL_tell_13 : decode cL_tell 13 = .ok (.lconst 1, 1) := by decide +kernel
theorem dL_tell_14 : decode cL_tell 14 = .ok (.goto 4, 3) := by decide +kernel
theorem dL_tell_17 : decode cL_tell 17 = .ok (.lconst 0, 1) := by decide +kernel
theorem dL_tell_18 : decode cL_tell 18 = .ok (.lastore, 1) := by decide +kernel
theorem dL_tell_19 : decode cL_tell 19 = .ok (.goto 11, 3) := by decide +kernel
theorem dL_tell_22 : decode cL_tell 22 = .ok (.astore 5, 2) := by decide +kernel
theorem dL_tell_24 : decode cL_tell 24 = .ok (.iconst 1, 1) := by decide +kernel
theorem dL_tell_25 : decode cL_tell 25 = .ok (.ireturn, 1) := by decide +kernel
theorem dL_tell_26 : decode cL_tell 26 = .ok (.astore 5, 2) := by decide +kernel
theorem dL_tell_28 : decode cL_tell 28 = .ok (.iconst 2, 1) := by decide +kernel
theorem dL_tell_29 : decode cL_tell 29 = .ok (.ireturn, 1) := by decide +kernel
theorem dL_tell_30 : decode cL_tell 30 = .ok (.iconst 0, 1) := by decide +kernel
theorem dL_tell_31 : decode cL_tell 31 = .ok (.ireturn, 1) := by decide +kernel
set_option maxRecDepth 20000 in
theorem ggL_strike_X4_strike : GoodIn wsL_strike wsX4_strike := goodIn_ca (goodIn_r _ [6, 7, 8, 9, 10, 11, 12, 13, 14, 15, 16, 17, 18, 19, 20, 21, 22, 23, 24, 25, 26, 27, 28, 29, 30, 31, 32, 5, 33, 34, 35, 36, 37, 38, 39, 40, 41, 42, 43, 44, 45, 46, 47, 48, 49, 50, 51, 52, 53, 54, 55, 56, 57, 58, 59, 60, 61, 62, 63, 64, 65, 66, 67, 68, 69, 70, 71, 72, 73, 74, 75, 76, 77, 78, 79, 80, 81, 82, 83, 84, 85, 86, 87, 88, 89, 90, 91, 92, 93, 94, 95, 96, 97, 98, 99, 100, 101, 102, 103, 104, 105, 106, 107, 108, 109, 110, 111, 112, 113, 114, 115, 116, 117, 118, 119, 120, 121, 122, 123, 124, 125, 126, 127, 128, 129, 130, 131, 132, 133, 134, 135, 136, 137, 138, 139, 140, 141, 142, 143, 144, 145, 146, 147, 148, 149, 150, 151, 152, 153, 154, 155, 156, 157, 158, 159, 160, 161, 162, 163, 164, 165, 166, 167, 168, 169, 170, 171, 172, 173, 174, 175, 176, 177, 178, 179, 180, 181, 182, 183, 184, 185, 186, 187, 188, 189, 190, 191, 192, 193, 194, 195, 196, 197, 198, 199, 200, 201, 202, 203, 204, 205, 206, 207, 208, 209, 210, 211, 212, 213, 214, 215, 216, 217, 218, 219, 220, 221, 222, 223, 224, 225, 226, 227, 228, 229, 230, 231, 232] (by decide +kernel) (by decide +kernel)) (goodIn_sub (fun _ h => List.mem_cons_of_mem _ (List.mem_append_right _ h)) (by decide +kernel))
set_option maxRecDepth 20000 in
theorem gL_strike_X4_strike : GoodIn wsL_strike (wsV RL 21 RX4 yX4_strike wsX4_strike) := goodIn_app (goodIn_of _ (by decide +kernel)) ggL_strike_X4_strike
theorem dL_strike_0 : decode cL_strike 0 = .ok (.aload_n 2, 1) := by decide +kernel
theorem dL_strike_1 : decode cL_strike 1 = .ok (.iconst 0, 1) := by decide +kernel
theorem dL_strike_2 : decode cL_strike 2 = .ok (.aload_n 0, 1) := by decide +kernel
theorem dL_strike_3 : decode cL_strike 3 = .ok (.iload_n 1, 1) := by decide +kernel
theorem dL_strike_4 : decode cL_strike 4 = .ok (.invokevirtual 21, 3) := by decide +kernel
theorem dL_strike_7 : decode cL_strike 7 = .ok (.i2l, 1) := by decide +kernel
theorem dL_strike_8 : decode cL_strike 8 = .ok (.lastore, 1) := by decide +kernel
theorem dL_strike_9 : decode cL_strike 9 = .ok (.goto 6, 3) := by decide +kernel
theorem dL_strike_12 : decode cL_strike 12 = .ok (.astore_n 3, 1) := by decide +kernel
theorem dL_strike_13 : decode cL_strike 13 = .ok (.iconst 1, 1) := by decide +kernel
theorem dL_strike_14 : decode cL_strike 14 = .ok (.ireturn, 1) := by decide +kernel
theorem dL_strike_15 : decode cL_strike 15 = .ok (.iconst 0, 1) := by decide +kernel
theorem dL_strike_16 : decode cL_strike 16 = .ok (.ireturn, 1) := by decide +kernel
set_option maxRecDepth 20000 in
theorem ggL_isDone_X4_isDone : GoodIn wsL_isDone wsX4_isDone := goodIn_ca (goodIn_r _ [6, 7, 8, 9, 10, 11, 12, 13, 14, 15, 16, 17, 18, 19, 20, 21, 22, 23, 24, 25, 26, 27, 28, 29, 30, 31, 32, 33, 34, 35, 36, 37] (by decide +kernel) (by decide +kernel)) (goodIn_sub (fun _ h => List.mem_cons_of_mem _ (List.mem_append_right _ h)) (by decide +kernel))
set_option maxRecDepth 20000 in
theorem gL_isDone_X4_isDone : GoodIn wsL_isDone (wsV RL 27 RX4 yX4_isDone wsX4_isDone) := goodIn_app (goodIn_of _ (by decide +kernel)) ggL_isDone_X4_isDone
theorem dL_isDone_0 : decode cL_isDone 0 = .ok (.aload_n 2, 1) := by decide +kernel
theorem dL_isDone_1 : decode cL_isDone 1 = .ok (.iconst 0, 1) := by decide +kernel
theorem dL_isDone_2 : decode cL_isDone 2 = .ok (.aload_n 0, 1) := by decide +kernel
theorem dL_isDone_3 : decode cL_isDone 3 = .ok (.iload_n 1, 1) := by decide +kernel
theorem dL_isDone_4 : decode cL_isDone 4 = .ok (.invokevirtual 27, 3) := by decide +kernel
theorem dL_isDone_7 : decode cL_isDone 7 = .ok (.ifCond .eq 7, 3) := by decide +kernel
theorem dL_isDone_10 : decode cL_isDone 10 = .ok (.lconst 1, 1) := by decide +kernel
theorem dL_isDone_11 : decode cL_isDone 11 = .ok (.goto 4, 3) := by decide +kernel
theorem dL_isDone_14 : decode cL_isDone 14 = .ok (.lconst 0, 1) := by decide +kernel
theorem dL_isDone_15 : decode cL_isDone 15 = .ok (.lastore, 1) := by decide +kernel
theorem dL_isDone_16 : decode cL_isDone 16 = .ok (.goto 6, 3) := by decide +kernel
theorem dL_isDone_19 : decode cL_isDone 19 = .ok (.astore_n 3, 1) := by decide +kernel
theorem dL_isDone_20 : decode cL_isDone 20 = .ok (.iconst 1, 1) := by decide +kernel
theorem dL_isDone_21 : decode cL_isDone 21 = .ok (.ireturn, 1) := by decide +kernel
theorem dL_isDone_22 : decode cL_isDone 22 = .ok (.iconst 0, 1) := by decide +kernel
theorem dL_isDone_23 : decode cL_isDone 23 = .ok (.ireturn, 1) := by decide +kernel
set_option maxRecDepth 20000 in
theorem ggL_close_X4_close : GoodIn wsL_close wsX4_close := goodIn_ca (goodIn_ca (goodIn_r _ [7, 8, 9, 10, 11, 12, 13, 14, 15, 16, 17, 6, 18, 19, 20, 21, 22, 23, 24, 25, 26, 27, 28, 29, 30, 31, 32, 33, 34, 35, 36, 37, 38, 39, 40, 41, 42, 43, 44, 45, 46, 47, 48, 49, 50, 51, 52, 53, 54, 55, 56, 57, 58, 59, 60, 61, 62, 63, 64, 65, 66, 67, 68, 69, 70, 71, 72, 73, 74, 75, 76, 77, 78, 79, 80, 81, 82, 83, 84, 85, 86, 87, 88, 89, 90, 91, 92, 93, 94, 95, 96, 97, 98, 99, 100, 101, 102, 103, 104, 105, 106, 107, 108, 109, 110, 111, 112, 113, 114, 115, 116, 117, 118, 119, 120, 121, 122, 123, 124, 125, 126, 127, 128, 129, 130, 131, 132, 133, 134, 135, 136, 137, 138, 139, 140, 141, 142, 143, 144] (by decide +kernel) (by decide +kernel)) (goodIn_sub (fun _ h => List.mem_cons_of_mem _ (List.mem_append_left _ (List.mem_append_right _ h))) (by decide +kernel))) (goodIn_sub (fun _ h => List.mem_cons_of_mem _ (List.mem_append_right _ h)) (by decide +kernel))
set_option maxRecDepth 20000 in
theorem gL_close_X4_close : GoodIn wsL_close (wsV RL 31 RX4 yX4_close wsX4_close) := goodIn_app (goodIn_of _ (by decide +kernel)) ggL_close_X4_close
theorem dL_close_0 : decode cL_close 0 = .ok (.aload_n 2, 1) := by decide +kernel
theorem dL_close_1 : decode cL_close 1 = .ok (.iconst 0, 1) := by decide +kernel
theorem dL_close_2 : decode cL_close 2 = .ok (.aload_n 0, 1) := by decide +kernel
theorem dL_close_3 : decode cL_close 3 = .ok (.iload_n 1, 1) := by decide +kernel
theorem dL_close_4 : decode cL_close 4 = .ok (.invokevirtual 31, 3) := by decide +kernel
theorem dL_close_7 : decode cL_close 7 = .ok (.i2l, 1) := by decide +kernel
theorem dL_close_8 : decode cL_close 8 = .ok (.lastore, 1) := by decide +kernel
theorem dL_close_9 : decode cL_close 9 = .ok (.goto 9, 3) := by decide +kernel
theorem dL_close_12 : decode cL_close 12 = .ok (.astore_n 3, 1) := by decide +kernel
theorem dL_close_13 : decode cL_close 13 = .ok (.iconst 1, 1) := by decide +kernel
theorem dL_close_14 : decode cL_close 14 = .ok (.ireturn, 1) := by decide +kernel
theorem dL_close_15 : decode cL_close 15 = .ok (.astore_n 3, 1) := by decide +kernel
theorem dL_close_16 : decode cL_close 16 = .ok (.iconst 2, 1) := by decide +kernel
theorem dL_close_17 : decode cL_close 17 = .ok (.ireturn, 1) := by decide +kernel
theorem dL_close_18 : decode cL_close 18 = .ok (.iconst 0, 1) := by decide +kernel
theorem dL_close_19 : decode cL_close 19 = .ok (.ireturn, 1) := by decide +kernel
set_option maxRecDepth 20000 in
theorem ggL_corridor_X4_corridor : GoodIn wsL_corridor wsX4_corridor := goodIn_ca (goodIn_r _ [6, 7, 8, 9, 10, 11, 12, 13, 14, 15, 16, 17, 18, 19, 20] (by decide +kernel) (by decide +kernel)) (goodIn_sub (fun _ h => List.mem_cons_of_mem _ (List.mem_append_right _ h)) (by decide +kernel))
set_option maxRecDepth 20000 in
theorem gL_corridor_X4_corridor : GoodIn wsL_corridor (wsV RL 34 RX4 yX4_corridor wsX4_corridor) := goodIn_app (goodIn_of _ (by decide +kernel)) ggL_corridor_X4_corridor
theorem dL_corridor_0 : decode cL_corridor 0 = .ok (.aload_n 2, 1) := by decide +kernel
theorem dL_corridor_1 : decode cL_corridor 1 = .ok (.iconst 0, 1) := by decide +kernel
theorem dL_corridor_2 : decode cL_corridor 2 = .ok (.aload_n 0, 1) := by decide +kernel
theorem dL_corridor_3 : decode cL_corridor 3 = .ok (.iload_n 1, 1) := by decide +kernel
theorem dL_corridor_4 : decode cL_corridor 4 = .ok (.invokevirtual 34, 3) := by decide +kernel
theorem dL_corridor_7 : decode cL_corridor 7 = .ok (.i2l, 1) := by decide +kernel
theorem dL_corridor_8 : decode cL_corridor 8 = .ok (.lastore, 1) := by decide +kernel
theorem dL_corridor_9 : decode cL_corridor 9 = .ok (.goto 6, 3) := by decide +kernel
theorem dL_corridor_12 : decode cL_corridor 12 = .ok (.astore_n 3, 1) := by decide +kernel
theorem dL_corridor_13 : decode cL_corridor 13 = .ok (.iconst 1, 1) := by decide +kernel
theorem dL_corridor_14 : decode cL_corridor 14 = .ok (.ireturn, 1) := by decide +kernel
theorem dL_corridor_15 : decode cL_corridor 15 = .ok (.iconst 0, 1) := by decide +kernel
theorem dL_corridor_16 : decode cL_corridor 16 = .ok (.ireturn, 1) := by decide +kernel
set_option maxRecDepth 20000 in
theorem ggL_accountAt_X4_accountAt : GoodIn wsL_accountAt wsX4_accountAt := goodIn_ca (goodIn_r _ [6, 7, 8, 9, 10, 11, 12, 13, 14, 15, 16, 17, 18, 19, 20, 21, 22, 23, 24, 25, 26, 27, 28, 29, 30, 31, 32, 33, 34, 35, 36, 37, 38, 39, 40, 41, 42, 43, 44, 45, 46, 47, 48, 49, 50, 51, 52, 53, 54, 55] (by decide +kernel) (by decide +kernel)) (goodIn_sub (fun _ h => List.mem_cons_of_mem _ (List.mem_append_right _ h)) (by decide +kernel))
set_option maxRecDepth 20000 in
theorem gL_accountAt_X4_accountAt : GoodIn wsL_accountAt (wsV RL 37 RX4 yX4_accountAt wsX4_accountAt) := goodIn_app (goodIn_of _ (by decide +kernel)) ggL_accountAt_X4_accountAt
theorem dL_accountAt_0 : decode cL_accountAt 0 = .ok (.aload_n 2, 1) := by decide +kernel
theorem dL_accountAt_1 : decode cL_accountAt 1 = .ok (.iconst 0, 1) := by decide +kernel
theorem dL_accountAt_2 : decode cL_accountAt 2 = .ok (.aload_n 0, 1) := by decide +kernel
theorem dL_accountAt_3 : decode cL_accountAt 3 = .ok (.iload_n 1, 1) := by decide +kernel
theorem dL_accountAt_4 : decode cL_accountAt 4 = .ok (.invokevirtual 37, 3) := by decide +kernel
theorem dL_accountAt_7 : decode cL_accountAt 7 = .ok (.i2l, 1) := by decide +kernel
theorem dL_accountAt_8 : decode cL_accountAt 8 = .ok (.lastore, 1) := by decide +kernel
theorem dL_accountAt_9 : decode cL_accountAt 9 = .ok (.goto 6, 3) := by decide +kernel
theorem dL_accountAt_12 : decode cL_accountAt 12 = .ok (.astore_n 3, 1) := by decide +kernel
theorem dL_accountAt_13 : decode cL_accountAt 13 = .ok (.iconst 1, 1) := by decide +kernel
theorem dL_accountAt_14 : decode cL_accountAt 14 = .ok (.ireturn, 1) := by decide +kernel
theorem dL_accountAt_15 : decode cL_accountAt 15 = .ok (.iconst 0, 1) := by decide +kernel
theorem dL_accountAt_16 : decode cL_accountAt 16 = .ok (.ireturn, 1) := by decide +kernel
set_option maxRecDepth 20000 in
theorem ggL_accountFromStart_X4_accountFromStart : GoodIn wsL_accountFromStart wsX4_accountFromStart := goodIn_ca (goodIn_r _ [6, 7, 8, 9, 10, 11, 12, 13, 14, 15, 16, 17, 18, 19, 20, 21, 22, 23, 24, 25, 26, 5, 27, 28, 29, 30, 31, 32, 33, 34, 35, 36, 37, 38, 39, 40, 41, 42, 43, 44, 45, 46, 47, 48, 49, 50, 51, 52, 53, 54, 55, 56, 57, 58, 59, 60, 61, 62, 63, 64, 65, 66, 67, 68, 69, 70, 71, 72, 73, 74, 75, 76, 77, 78, 79, 80, 81, 82, 83, 84, 85, 86, 87, 88, 89, 90, 91, 92, 93, 94, 95, 96, 97, 98, 99, 100, 101, 102, 103, 104, 105, 106, 107, 108, 109, 110, 111, 112, 113, 114, 115, 116, 117, 118, 119, 120, 121, 122, 123, 124, 125, 126, 127, 128, 129, 130, 131, 132, 133, 134, 135, 136, 137, 138, 139, 140, 141, 142, 143, 144, 145, 146, 147, 148, 149, 150, 151, 152, 153, 154, 155, 156, 157, 158, 159, 160, 161, 162, 163, 164, 165, 166, 167, 168, 169, 170, 171, 172, 173, 174, 175, 176, 177, 178, 179, 180, 181, 182, 183, 184, 185, 186, 187] (by decide +kernel) (by decide +kernel)) (goodIn_sub (fun _ h => List.mem_cons_of_mem _ (List.mem_append_right _ h)) (by decide +kernel))
set_option maxRecDepth 20000 in
theorem gL_accountFromStart_X4_accountFromStart : GoodIn wsL_accountFromStart (wsV RL 40 RX4 yX4_accountFromStart wsX4_accountFromStart) := goodIn_app (goodIn_of _ (by decide +kernel)) ggL_accountFromStart_X4_accountFromStart
theorem dL_accountFromStart_0 : decode cL_accountFromStart 0 = .ok (.aload_n 2, 1) := by decide +kernel
theorem dL_accountFromStart_1 : decode cL_accountFromStart 1 = .ok (.iconst 0, 1) := by decide +kernel
theorem dL_accountFromStart_2 : decode cL_accountFromStart 2 = .ok (.aload_n 0, 1) := by decide +kernel
theorem dL_accountFromStart_3 : decode cL_accountFromStart 3 = .ok (.iload_n 1, 1) := by decide +kernel
theorem dL_accountFromStart_4 : decode cL_accountFromStart 4 = .ok (.invokevirtual 40, 3) := by decide +kernel
theorem dL_accountFromStart_7 : decode cL_accountFromStart 7 = .ok (.i2l, 1) := by decide +kernel
theorem dL_accountFromStart_8 : decode cL_accountFromStart 8 = .ok (.lastore, 1) := by decide +kernel
theorem dL_accountFromStart_9 : decode cL_accountFromStart 9 = .ok (.goto 6, 3) := by decide +kernel
theorem dL_accountFromStart_12 : decode cL_accountFromStart 12 = .ok (.astore_n 3, 1) := by decide +kernel
theorem dL_accountFromStart_13 : decode cL_accountFromStart 13 = .ok (.iconst 1, 1) := by decide +kernel
theorem dL_accountFromStart_14 : decode cL_accountFromStart 14 = .ok (.ireturn, 1) := by decide +kernel
theorem dL_accountFromStart_15 : decode cL_accountFromStart 15 = .ok (.iconst 0, 1) := by decide +kernel
theorem dL_accountFromStart_16 : decode cL_accountFromStart 16 = .ok (.ireturn, 1) := by decide +kernel
set_option maxRecDepth 20000 in
theorem ggL_stateAt_X4_stateAt : GoodIn wsL_stateAt wsX4_stateAt := goodIn_ca (goodIn_r _ [6, 7, 8, 9, 10, 11, 12, 13, 14, 15, 16, 17, 18, 19, 20, 21, 22, 23, 24, 25, 26, 27, 28, 29, 30, 31, 32, 33, 34, 35, 36, 37, 38, 39, 40, 41, 42, 43, 44, 45, 46, 47, 48, 49, 50, 51, 52, 53, 54, 55] (by decide +kernel) (by decide +kernel)) (goodIn_sub (fun _ h => List.mem_cons_of_mem _ (List.mem_append_right _ h)) (by decide +kernel))
set_option maxRecDepth 20000 in
theorem gL_stateAt_X4_stateAt : GoodIn wsL_stateAt (wsV RL 43 RX4 yX4_stateAt wsX4_stateAt) := goodIn_app (goodIn_of _ (by decide +kernel)) ggL_stateAt_X4_stateAt
theorem dL_stateAt_0 : decode cL_stateAt 0 = .ok (.aload_n 2, 1) := by decide +kernel
theorem dL_stateAt_1 : decode cL_stateAt 1 = .ok (.iconst 0, 1) := by decide +kernel
theorem dL_stateAt_2 : decode cL_stateAt 2 = .ok (.aload_n 0, 1) := by decide +kernel
theorem dL_stateAt_3 : decode cL_stateAt 3 = .ok (.iload_n 1, 1) := by decide +kernel
theorem dL_stateAt_4 : decode cL_stateAt 4 = .ok (.invokevirtual 43, 3) := by decide +kernel
theorem dL_stateAt_7 : decode cL_stateAt 7 = .ok (.i2l, 1) := by decide +kernel
theorem dL_stateAt_8 : decode cL_stateAt 8 = .ok (.lastore, 1) := by decide +kernel
theorem dL_stateAt_9 : decode cL_stateAt 9 = .ok (.goto 6, 3) := by decide +kernel
theorem dL_stateAt_12 : decode cL_stateAt 12 = .ok (.astore_n 3, 1) := by decide +kernel
theorem dL_stateAt_13 : decode cL_stateAt 13 = .ok (.iconst 1, 1) := by decide +kernel
theorem dL_stateAt_14 : decode cL_stateAt 14 = .ok (.ireturn, 1) := by decide +kernel
theorem dL_stateAt_15 : decode cL_stateAt 15 = .ok (.iconst 0, 1) := by decide +kernel
theorem dL_stateAt_16 : decode cL_stateAt 16 = .ok (.ireturn, 1) := by decide +kernel
set_option maxRecDepth 20000 in
theorem ggL_wouldLapse_X4_wouldLapse : GoodIn wsL_wouldLapse wsX4_wouldLapse := goodIn_ca (goodIn_r _ [6, 7, 8, 9, 10, 11, 12, 13, 14, 15, 16, 17, 18, 5, 19, 20, 21, 22, 23, 24, 25, 26, 27, 28, 29, 30, 31, 32, 33, 34, 35, 36, 37, 38, 39, 40, 41, 42, 43, 44, 45, 46, 47, 48, 49, 50, 51, 52, 53, 54, 55, 56, 57, 58, 59, 60, 61, 62, 63, 64, 65, 66, 67, 68, 69, 70, 71, 72, 73, 74, 75, 76, 77, 78, 79, 80, 81, 82, 83, 84, 85, 86, 87, 88, 89, 90, 91, 92, 93, 94, 95, 96, 97, 98, 99, 100, 101, 102, 103, 104, 105, 106, 107, 108, 109, 110, 111, 112, 113, 114, 115, 116, 117, 118, 119, 120, 121, 122, 123, 124, 125, 126] (by decide +kernel) (by decide +kernel)) (goodIn_sub (fun _ h => List.mem_cons_of_mem _ (List.mem_append_right _ h)) (by decide +kernel))
set_option maxRecDepth 20000 in
theorem gL_wouldLapse_X4_wouldLapse : GoodIn wsL_wouldLapse (wsV RL 46 RX4 yX4_wouldLapse wsX4_wouldLapse) := goodIn_app (goodIn_of _ (by decide +kernel)) ggL_wouldLapse_X4_wouldLapse
theorem dL_wouldLapse_0 : decode cL_wouldLapse 0 = .ok (.aload_n 2, 1) := by decide +kernel
theorem dL_wouldLapse_1 : decode cL_wouldLapse 1 = .ok (.iconst 0, 1) := by decide +kernel
theorem dL_wouldLapse_2 : decode cL_wouldLapse 2 = .ok (.aload_n 0, 1) := by decide +kernel
theorem dL_wouldLapse_3 : decode cL_wouldLapse 3 = .ok (.iload_n 1, 1) := by decide +kernel
theorem dL_wouldLapse_4 : decode cL_wouldLapse 4 = .ok (.invokevirtual 46, 3) := by decide +kernel
theorem dL_wouldLapse_7 : decode cL_wouldLapse 7 = .ok (.i2l, 1) := by decide +kernel
theorem dL_wouldLapse_8 : decode cL_wouldLapse 8 = .ok (.lastore, 1) := by decide +kernel
theorem dL_wouldLapse_9 : decode cL_wouldLapse 9 = .ok (.goto 6, 3) := by decide +kernel
theorem dL_wouldLapse_12 : decode cL_wouldLapse 12 = .ok (.astore_n 3, 1) := by decide +kernel
theorem dL_wouldLapse_13 : decode cL_wouldLapse 13 = .ok (.iconst 1, 1) := by decide +kernel
theorem dL_wouldLapse_14 : decode cL_wouldLapse 14 = .ok (.ireturn, 1) := by decide +kernel
theorem dL_wouldLapse_15 : decode cL_wouldLapse 15 = .ok (.iconst 0, 1) := by decide +kernel
theorem dL_wouldLapse_16 : decode cL_wouldLapse 16 = .ok (.ireturn, 1) := by decide +kernel
set_option maxRecDepth 20000 in
theorem ggL_needed_X4_needed : GoodIn wsL_needed wsX4_needed := goodIn_ca (goodIn_r _ [6, 7, 8, 9, 10, 11, 12, 13, 14, 15, 16, 17, 18, 19, 5, 20, 21, 22, 23, 24, 25, 26, 27, 28, 29, 30, 31, 32, 33, 34, 35, 36, 37, 38, 39, 40, 41, 42, 43, 44, 45, 46, 47, 48, 49, 50, 51, 52, 53, 54, 55, 56, 57, 58, 59, 60, 61, 62, 63, 64, 65, 66, 67, 68, 69, 70, 71, 72, 73, 74, 75, 76, 77, 78, 79, 80, 81, 82, 83, 84, 85, 86, 87, 88, 89, 90, 91, 92, 93, 94, 95, 96, 97, 98, 99, 100, 101, 102, 103, 104, 105, 106, 107, 108, 109, 110, 111, 112, 113, 114, 115, 116, 117, 118, 119, 120, 121, 122, 123, 124, 125, 126, 127, 128, 129, 130, 131] (by decide +kernel) (by decide +kernel)) (goodIn_sub (fun _ h => List.mem_cons_of_mem _ (List.mem_append_right _ h)) (by decide +kernel))
set_option maxRecDepth 20000 in
theorem gL_needed_X4_needed : GoodIn wsL_needed (wsV RL 49 RX4 yX4_needed wsX4_needed) := goodIn_app (goodIn_of _ (by decide +kernel)) ggL_needed_X4_needed
theorem dL_needed_0 : decode cL_needed 0 = .ok (.aload_n 2, 1) := by decide +kernel
theorem dL_needed_1 : decode cL_needed 1 = .ok (.iconst 0, 1) := by decide +kernel
theorem dL_needed_2 : decode cL_needed 2 = .ok (.aload_n 0, 1) := by decide +kernel
theorem dL_needed_3 : decode cL_needed 3 = .ok (.iload_n 1, 1) := by decide +kernel
theorem dL_needed_4 : decode cL_needed 4 = .ok (.invokevirtual 49, 3) := by decide +kernel
theorem dL_needed_7 : decode cL_needed 7 = .ok (.i2l, 1) := by decide +kernel
theorem dL_needed_8 : decode cL_needed 8 = .ok (.lastore, 1) := by decide +kernel
theorem dL_needed_9 : decode cL_needed 9 = .ok (.goto 6, 3) := by decide +kernel
theorem dL_needed_12 : decode cL_needed 12 = .ok (.astore_n 3, 1) := by decide +kernel
theorem dL_needed_13 : decode cL_needed 13 = .ok (.iconst 1, 1) := by decide +kernel
theorem dL_needed_14 : decode cL_needed 14 = .ok (.ireturn, 1) := by decide +kernel
theorem dL_needed_15 : decode cL_needed 15 = .ok (.iconst 0, 1) := by decide +kernel
theorem dL_needed_16 : decode cL_needed 16 = .ok (.ireturn, 1) := by decide +kernel
set_option maxRecDepth 20000 in
theorem ggL_law_X4_init : GoodIn wsL_law wsX4_init := goodIn_r _ [9, 10, 11, 12, 13, 14, 15, 16, 17, 18, 19, 20, 21, 22, 23, 24, 25, 26, 27, 28, 29, 30, 31, 32, 33, 34, 35, 36, 37, 38, 39, 40, 41, 42, 43, 44, 45, 46, 47, 48, 49, 50, 51, 52, 53, 54, 55, 56, 57, 58, 59, 60, 61, 62, 63, 64, 65, 66, 632, 633, 634, 608, 609, 610, 611, 612, 613, 635, 636, 637, 638, 639, 640, 641, 642, 643, 644, 645, 646, 647, 648, 649, 650, 651, 652, 653, 654] (by decide +kernel) (by decide +kernel)
set_option maxRecDepth 20000 in
theorem gL_law_X4_init : GoodIn wsL_law (wsX4_init) := ggL_law_X4_init
set_option maxRecDepth 20000 in
theorem ggL_law_X5_init : GoodIn wsL_law wsX5_init := goodIn_r _ [69, 70, 11, 12, 44, 71, 72, 73, 48, 74, 75, 76, 77, 78, 614, 615, 616, 617, 618, 619, 620, 621, 622, 623, 624, 625, 626, 627, 628, 629, 630, 631] (by decide +kernel) (by decide +kernel)
set_option maxRecDepth 20000 in
theorem gL_law_X5_init : GoodIn wsL_law (wsX5_init) := ggL_law_X5_init
set_option maxRecDepth 20000 in
theorem ggL_law_L_begin : GoodIn wsL_law wsL_begin := goodIn_ca (goodIn_r _ [82, 83, 84, 85, 86, 2, 87, 88, 89, 90, 91, 30, 16, 20, 28, 92, 93, 94, 15, 95, 35, 37, 38, 96, 97, 98, 19, 99, 43, 100, 101, 102, 27, 103, 66, 104, 105, 106, 107, 108, 109, 608, 609, 610, 611, 612, 613, 632, 633, 634, 635, 636, 637, 638, 639, 640, 648, 649, 650, 651, 652, 653, 654] (by decide +kernel) (by decide +kernel)) (goodIn_sub (fun _ h => List.mem_append_left _ (List.mem_append_left _ (List.mem_append_right _ h))) (by decide +kernel))
set_option maxRecDepth 20000 in
theorem gL_law_L_begin : GoodIn wsL_law (va_wsS RL 56 yL_begin wsL_begin) := goodIn_app (goodIn_of _ (by decide +kernel)) ggL_law_L_begin
set_option maxRecDepth 20000 in
theorem ggL_law_X5_begin : GoodIn wsL_law wsX5_begin := goodIn_r _ [113, 114, 115, 116, 117, 76, 78, 118, 119, 120, 121, 5, 122, 614, 615, 616, 617, 618, 619, 620, 621, 622, 623, 624, 625, 626, 627, 628, 629, 630, 631] (by decide +kernel) (by decide +kernel)
set_option maxRecDepth 20000 in
theorem gL_law_X5_begin : GoodIn wsL_law (wsV RL 61 RX5 yX5_begin wsX5_begin) := goodIn_app (goodIn_of _ (by decide +kernel)) ggL_law_X5_begin
set_option maxRecDepth 20000 in
theorem ggL_law_X5_thrown : GoodIn wsL_law wsX5_thrown := goodIn_r _ [126, 116, 614, 615, 616, 617, 618, 619, 620, 621, 622, 623, 624, 625, 626, 627, 628, 629, 630, 631] (by decide +kernel) (by decide +kernel)
set_option maxRecDepth 20000 in
theorem gL_law_X5_thrown : GoodIn wsL_law (wsV RL 62 RX5 yX5_thrown wsX5_thrown) := goodIn_app (goodIn_of _ (by decide +kernel)) ggL_law_X5_thrown
set_option maxRecDepth 20000 in
theorem ggL_law_L_tell : GoodIn wsL_law wsL_tell := goodIn_ca (goodIn_ca (goodIn_r _ [129, 83, 130, 131, 132, 133, 2, 134, 88, 89, 135, 136, 30, 137, 20, 28, 138, 139, 140, 19, 141, 43, 142, 143, 144, 145, 45, 46, 47, 49, 146, 147, 148, 149, 16, 150, 151, 152, 153, 154, 155, 156, 157, 158, 159, 160, 161, 162, 163, 164, 165, 166, 167, 168, 169, 27, 170, 106, 171, 172, 173, 174, 104, 175, 176, 177, 178, 66, 179, 180, 181, 182, 107, 183, 184, 185, 186, 105, 187, 188, 189, 190, 191, 192, 193, 194, 195, 196, 197, 198, 199, 200, 201, 202, 203, 204, 205, 108, 206, 207, 208, 15, 209, 38, 37, 210, 211, 212, 213, 214, 215, 216, 217, 35, 218, 219, 220, 221, 222, 223, 224, 225, 109, 226, 227, 228, 229, 50, 230, 231, 232, 233, 24, 234, 235, 236, 23, 237, 55, 238, 56, 239, 57, 240, 58, 241, 59, 242, 60, 243, 61, 244, 245, 246, 247, 248, 249, 250, 251, 252, 253, 254, 255, 256, 257, 258, 259, 260, 261, 262, 263, 264, 265, 266, 267, 268, 269, 270, 271, 272, 273, 274, 275, 276, 277, 278, 279, 280, 281, 282, 283, 284, 285, 286, 287, 288, 289, 290, 291, 292, 293, 294, 295, 296, 297, 298, 299, 300, 301, 302, 303, 304, 305, 306, 307, 608, 609, 610, 611, 612, 613, 635, 636, 637, 638, 639, 640, 648, 649, 650, 651, 652, 653, 654, 632, 633, 634, 641, 642, 643, 644, 645, 646, 647] (by decide +kernel) (by decide +kernel)) (goodIn_sub (fun _ h => List.mem_append_left _ (List.mem_append_left _ (List.mem_append_right _ h))) (by decide +kernel))) (goodIn_sub (fun _ h => List.mem_append_left _ (List.mem_append_right _ h)) (by decide +kernel))
set_option maxRecDepth 20000 in
theorem gL_law_L_tell : GoodIn wsL_law (va_wsS RL 66 yL_tell wsL_tell) := goodIn_app (goodIn_of _ (by decide +kernel)) ggL_law_L_tell
set_option maxRecDepth 20000 in
theorem ggL_law_X5_tell : GoodIn wsL_law wsX5_tell := goodIn_r _ [311, 117, 312, 119, 116, 71, 72, 73, 74, 75, 120, 121, 5, 122, 313, 314, 315, 316, 317, 318, 319, 320, 321, 322, 323, 324, 325, 326, 327, 328, 329, 330, 331, 332, 333, 334, 335, 336, 337, 338, 339, 340, 341, 342, 343, 344, 345, 346, 347, 348, 349, 350, 351, 352, 353, 354, 355, 118, 78, 356, 357, 358, 359, 360, 76, 361, 362, 363, 364, 365, 366, 367, 368, 369, 370, 371, 372, 373, 374, 375, 376, 377, 378, 379, 380, 381, 382, 614, 615, 616, 617, 618, 619, 620, 621, 622, 623, 624, 625, 626, 627, 628, 629, 630, 631] (by decide +kernel) (by decide +kernel)
set_option maxRecDepth 20000 in
theorem gL_law_X5_tell : GoodIn wsL_law (wsV RL 68 RX5 yX5_tell wsX5_tell) := goodIn_app (goodIn_of _ (by decide +kernel)) ggL_law_X5_tell
set_option maxRecDepth 20000 in
theorem ggL_law_L_strike : GoodIn wsL_law wsL_strike := goodIn_ca (goodIn_r _ [385, 386, 387, 388, 389, 2, 390, 391, 392, 20, 393, 259, 260, 19, 261, 49, 155, 156, 157, 158, 43, 151, 152, 153, 154, 45, 394, 395, 396, 397, 230, 231, 232, 233, 24, 28, 30, 234, 235, 236, 23, 237, 55, 238, 56, 239, 57, 240, 58, 241, 59, 242, 60, 243, 61, 244, 245, 246, 247, 248, 249, 250, 251, 252, 253, 254, 255, 256, 257, 258, 146, 147, 148, 149, 16, 150, 159, 160, 161, 162, 47, 163, 164, 165, 166, 46, 167, 168, 169, 27, 170, 106, 171, 172, 173, 174, 104, 175, 176, 177, 178, 66, 179, 180, 181, 182, 107, 183, 184, 185, 186, 105, 187, 188, 189, 190, 191, 192, 193, 194, 195, 196, 197, 198, 199, 200, 201, 202, 203, 204, 205, 108, 206, 207, 208, 15, 209, 38, 37, 210, 211, 212, 213, 214, 215, 216, 217, 35, 218, 219, 220, 221, 222, 223, 224, 225, 109, 226, 227, 228, 229, 50, 262, 263, 264, 265, 266, 267, 268, 269, 270, 271, 272, 273, 274, 275, 276, 277, 278, 279, 280, 281, 282, 283, 284, 285, 286, 287, 288, 289, 290, 291, 292, 293, 294, 295, 296, 297, 298, 299, 300, 301, 302, 303, 608, 609, 610, 611, 612, 613, 635, 636, 637, 638, 639, 640, 641, 642, 643, 644, 645, 646, 647, 648, 649, 650, 651, 652, 653, 654, 632, 633, 634] (by decide +kernel) (by decide +kernel)) (goodIn_sub (fun _ h => List.mem_append_right _ h) (by decide +kernel))
set_option maxRecDepth 20000 in
theorem gL_law_L_strike : GoodIn wsL_law (va_wsS RL 69 yL_strike wsL_strike) := goodIn_app (goodIn_of _ (by decide +kernel)) ggL_law_L_strike
set_option maxRecDepth 20000 in
theorem ggL_law_X5_strike : GoodIn wsL_law wsX5_strike := goodIn_r _ [401, 74, 71, 402, 403, 404, 5, 405, 119, 116, 120, 121, 122, 614, 615, 616, 617, 618, 619, 620, 621, 622, 623, 624, 625, 626, 627, 628, 629, 630, 631] (by decide +kernel) (by decide +kernel)
set_option maxRecDepth 20000 in
theorem gL_law_X5_strike : GoodIn wsL_law (wsV RL 72 RX5 yX5_strike wsX5_strike) := goodIn_app (goodIn_of _ (by decide +kernel)) ggL_law_X5_strike
set_option maxRecDepth 20000 in
theorem ggL_law_L_isDone : GoodIn wsL_law wsL_isDone := goodIn_ca (goodIn_r _ [408, 386, 409, 410, 411, 2, 412, 391, 392, 20, 393, 259, 260, 19, 261, 49, 155, 156, 157, 158, 43, 304, 305, 306, 307, 50, 608, 609, 610, 611, 612, 613, 635, 636, 637, 638, 639, 640] (by decide +kernel) (by decide +kernel)) (goodIn_sub (fun _ h => List.mem_append_right _ h) (by decide +kernel))
set_option maxRecDepth 20000 in
theorem gL_law_L_isDone : GoodIn wsL_law (va_wsS RL 73 yL_isDone wsL_isDone) := goodIn_app (goodIn_of _ (by decide +kernel)) ggL_law_L_isDone
set_option maxRecDepth 20000 in
theorem ggL_law_X5_isDone : GoodIn wsL_law wsX5_isDone := goodIn_r _ [416, 75, 402, 403, 404, 5, 405, 119, 74, 116, 120, 121, 122, 313, 314, 315, 316, 117, 317, 318, 319, 320, 321, 322, 323, 324, 325, 326, 327, 328, 329, 330, 331, 332, 333, 334, 335, 71, 72, 73, 336, 337, 338, 339, 340, 341, 342, 343, 344, 345, 346, 347, 348, 349, 350, 351, 352, 353, 354, 355, 118, 78, 356, 357, 358, 359, 360, 76, 361, 362, 363, 364, 365, 366, 367, 368, 369, 370, 371, 372, 373, 374, 375, 376, 377, 378, 379, 380, 381, 382, 614, 615, 616, 617, 618, 619, 620, 621, 622, 623, 624, 625, 626, 627, 628, 629, 630, 631] (by decide +kernel) (by decide +kernel)
set_option maxRecDepth 20000 in
theorem gL_law_X5_isDone : GoodIn wsL_law (wsV RL 75 RX5 yX5_isDone wsX5_isDone) := goodIn_app (goodIn_of _ (by decide +kernel)) ggL_law_X5_isDone
set_option maxRecDepth 20000 in
theorem ggL_law_X4_acts : GoodIn wsL_law wsX4_acts := goodIn_r _ [420, 20, 253, 608, 609, 610, 611, 612, 613, 635, 636, 637, 638, 639, 640] (by decide +kernel) (by decide +kernel)
set_option maxRecDepth 20000 in
theorem gL_law_X4_acts : GoodIn wsL_law (wsV RL 76 RX4 yX4_acts wsX4_acts) := goodIn_app (goodIn_of _ (by decide +kernel)) ggL_law_X4_acts
set_option maxRecDepth 20000 in
theorem ggL_law_X5_acts : GoodIn wsL_law wsX5_acts := goodIn_r _ [424, 116, 119, 614, 615, 616, 617, 618, 619, 620, 621, 622, 623, 624, 625, 626, 627, 628, 629, 630, 631] (by decide +kernel) (by decide +kernel)
set_option maxRecDepth 20000 in
theorem gL_law_X5_acts : GoodIn wsL_law (wsV RL 79 RX5 yX5_acts wsX5_acts) := goodIn_app (goodIn_of _ (by decide +kernel)) ggL_law_X5_acts
set_option maxRecDepth 20000 in
theorem ggL_law_L_close : GoodIn wsL_law wsL_close := goodIn_ca (goodIn_ca (goodIn_r _ [427, 83, 130, 428, 429, 430, 2, 431, 88, 89, 135, 136, 30, 28, 24, 262, 263, 264, 265, 16, 150, 266, 176, 177, 27, 178, 66, 267, 268, 269, 15, 270, 271, 192, 173, 193, 272, 273, 274, 207, 208, 209, 38, 37, 210, 211, 212, 213, 214, 215, 216, 217, 35, 218, 219, 220, 221, 275, 276, 277, 278, 279, 280, 281, 282, 106, 104, 107, 187, 188, 189, 190, 105, 191, 179, 180, 181, 182, 283, 284, 285, 286, 108, 287, 288, 289, 290, 171, 172, 174, 291, 292, 293, 294, 295, 296, 297, 298, 299, 300, 301, 302, 23, 303, 55, 238, 56, 239, 57, 240, 58, 241, 59, 242, 60, 243, 61, 244, 245, 246, 247, 248, 608, 609, 610, 611, 612, 613, 648, 649, 650, 651, 652, 653, 654, 632, 633, 634, 641, 642, 643, 644, 645, 646, 647] (by decide +kernel) (by decide +kernel)) (goodIn_sub (fun _ h => List.mem_append_left _ (List.mem_append_left _ (List.mem_append_right _ h))) (by decide +kernel))) (goodIn_sub (fun _ h => List.mem_append_left _ (List.mem_append_right _ h)) (by decide +kernel))
set_option maxRecDepth 20000 in
theorem gL_law_L_close : GoodIn wsL_law (va_wsS RL 80 yL_close wsL_close) := goodIn_app (goodIn_of _ (by decide +kernel)) ggL_law_L_close
set_option maxRecDepth 20000 in
theorem ggL_law_X5_close : GoodIn wsL_law wsX5_close := goodIn_r _ [435, 117, 116, 120, 121, 5, 122, 614, 615, 616, 617, 618, 619, 620, 621, 622, 623, 624, 625, 626, 627, 628, 629, 630, 631] (by decide +kernel) (by decide +kernel)
set_option maxRecDepth 20000 in
theorem gL_law_X5_close : GoodIn wsL_law (wsV RL 82 RX5 yX5_close wsX5_close) := goodIn_app (goodIn_of _ (by decide +kernel)) ggL_law_X5_close
set_option maxRecDepth 20000 in
theorem ggL_law_X4_month : GoodIn wsL_law wsX4_month := goodIn_r _ [439, 30, 608, 609, 610, 611, 612, 613] (by decide +kernel) (by decide +kernel)
set_option maxRecDepth 20000 in
theorem gL_law_X4_month : GoodIn wsL_law (wsV RL 83 RX4 yX4_month wsX4_month) := goodIn_app (goodIn_of _ (by decide +kernel)) ggL_law_X4_month
set_option maxRecDepth 20000 in
theorem ggL_law_X5_month : GoodIn wsL_law wsX5_month := goodIn_r _ [443, 116, 117, 614, 615, 616, 617, 618, 619, 620, 621, 622, 623, 624, 625, 626, 627, 628, 629, 630, 631] (by decide +kernel) (by decide +kernel)
set_option maxRecDepth 20000 in
theorem gL_law_X5_month : GoodIn wsL_law (wsV RL 86 RX5 yX5_month wsX5_month) := goodIn_app (goodIn_of _ (by decide +kernel)) ggL_law_X5_month
set_option maxRecDepth 20000 in
theorem ggL_law_X4_state : GoodIn wsL_law wsX4_state := goodIn_r _ [447, 28, 448, 608, 609, 610, 611, 612, 613, 648, 649, 650, 651, 652, 653, 654] (by decide +kernel) (by decide +kernel)
set_option maxRecDepth 20000 in
theorem gL_law_X4_state : GoodIn wsL_law (wsV RL 87 RX4 yX4_state wsX4_state) := goodIn_app (goodIn_of _ (by decide +kernel)) ggL_law_X4_state
set_option maxRecDepth 20000 in
theorem ggL_law_X5_state : GoodIn wsL_law wsX5_state := goodIn_r _ [452, 325, 453, 454, 455, 5, 456, 116, 313, 314, 315, 316, 117, 317, 318, 319, 320, 321, 322, 323, 324, 326, 327, 328, 329, 330, 331, 332, 333, 334, 335, 119, 71, 74, 75, 72, 73, 336, 337, 338, 339, 340, 341, 342, 343, 344, 345, 346, 347, 348, 349, 350, 351, 352, 353, 354, 355, 118, 78, 356, 357, 358, 359, 360, 76, 361, 362, 363, 364, 365, 366, 367, 368, 369, 370, 371, 372, 373, 374, 375, 376, 377, 378, 379, 380, 381, 382, 614, 615, 616, 617, 618, 619, 620, 621, 622, 623, 624, 625, 626, 627, 628, 629, 630, 631] (by decide +kernel) (by decide +kernel)
set_option maxRecDepth 20000 in
theorem gL_law_X5_state : GoodIn wsL_law (wsV RL 90 RX5 yX5_state wsX5_state) := goodIn_app (goodIn_of _ (by decide +kernel)) ggL_law_X5_state
set_option maxRecDepth 20000 in
theorem ggL_law_X4_account : GoodIn wsL_law wsX4_account := goodIn_r _ [460, 28, 150, 608, 609, 610, 611, 612, 613, 648, 649, 650, 651, 652, 653, 654] (by decide +kernel) (by decide +kernel)
set_option maxRecDepth 20000 in
theorem gL_law_X4_account : GoodIn wsL_law (wsV RL 91 RX4 yX4_account wsX4_account) := goodIn_app (goodIn_of _ (by decide +kernel)) ggL_law_X4_account
set_option maxRecDepth 20000 in
theorem ggL_law_X5_account : GoodIn wsL_law wsX5_account := goodIn_r _ [464, 326, 453, 454, 455, 5, 456, 116, 313, 314, 315, 316, 117, 317, 318, 319, 320, 321, 322, 323, 324, 325, 327, 328, 329, 330, 331, 332, 333, 334, 335, 119, 71, 74, 75, 72, 73, 336, 337, 338, 339, 340, 341, 342, 343, 344, 345, 346, 347, 348, 349, 350, 351, 352, 353, 354, 355, 118, 78, 356, 357, 358, 359, 360, 76, 361, 362, 363, 364, 365, 366, 367, 368, 369, 370, 371, 372, 373, 374, 375, 376, 377, 378, 379, 380, 381, 382, 614, 615, 616, 617, 618, 619, 620, 621, 622, 623, 624, 625, 626, 627, 628, 629, 630, 631] (by decide +kernel) (by decide +kernel)
set_option maxRecDepth 20000 in
theorem gL_law_X5_account : GoodIn wsL_law (wsV RL 94 RX5 yX5_account wsX5_account) := goodIn_app (goodIn_of _ (by decide +kernel)) ggL_law_X5_account
set_option maxRecDepth 20000 in
theorem ggL_law_X4_loan : GoodIn wsL_law wsX4_loan := goodIn_r _ [468, 28, 469, 608, 609, 610, 611, 612, 613, 648, 649, 650, 651, 652, 653, 654] (by decide +kernel) (by decide +kernel)
set_option maxRecDepth 20000 in
theorem gL_law_X4_loan : GoodIn wsL_law (wsV RL 95 RX4 yX4_loan wsX4_loan) := goodIn_app (goodIn_of _ (by decide +kernel)) ggL_law_X4_loan
set_option maxRecDepth 20000 in
theorem ggL_law_X5_loan : GoodIn wsL_law wsX5_loan := goodIn_r _ [473, 327, 453, 454, 455, 5, 456, 116, 313, 314, 315, 316, 117, 317, 318, 319, 320, 321, 322, 323, 324, 325, 326, 328, 329, 330, 331, 332, 333, 334, 335, 119, 71, 74, 75, 72, 73, 336, 337, 338, 339, 340, 341, 342, 343, 344, 345, 346, 347, 348, 349, 350, 351, 352, 353, 354, 355, 118, 78, 356, 357, 358, 359, 360, 76, 361, 362, 363, 364, 365, 366, 367, 368, 369, 370, 371, 372, 373, 374, 375, 376, 377, 378, 379, 380, 381, 382, 614, 615, 616, 617, 618, 619, 620, 621, 622, 623, 624, 625, 626, 627, 628, 629, 630, 631] (by decide +kernel) (by decide +kernel)
set_option maxRecDepth 20000 in
theorem gL_law_X5_loan : GoodIn wsL_law (wsV RL 98 RX5 yX5_loan wsX5_loan) := goodIn_app (goodIn_of _ (by decide +kernel)) ggL_law_X5_loan
set_option maxRecDepth 20000 in
theorem ggL_law_X4_arrears : GoodIn wsL_law wsX4_arrears := goodIn_r _ [477, 28, 478, 608, 609, 610, 611, 612, 613, 648, 649, 650, 651, 652, 653, 654] (by decide +kernel) (by decide +kernel)
set_option maxRecDepth 20000 in
theorem gL_law_X4_arrears : GoodIn wsL_law (wsV RL 99 RX4 yX4_arrears wsX4_arrears) := goodIn_app (goodIn_of _ (by decide +kernel)) ggL_law_X4_arrears
set_option maxRecDepth 20000 in
theorem ggL_law_X5_arrears : GoodIn wsL_law wsX5_arrears := goodIn_r _ [482, 328, 453, 454, 455, 5, 456, 116, 313, 314, 315, 316, 117, 317, 318, 319, 320, 321, 322, 323, 324, 325, 326, 327, 329, 330, 331, 332, 333, 334, 335, 119, 71, 74, 75, 72, 73, 336, 337, 338, 339, 340, 341, 342, 343, 344, 345, 346, 347, 348, 349, 350, 351, 352, 353, 354, 355, 118, 78, 356, 357, 358, 359, 360, 76, 361, 362, 363, 364, 365, 366, 367, 368, 369, 370, 371, 372, 373, 374, 375, 376, 377, 378, 379, 380, 381, 382, 614, 615, 616, 617, 618, 619, 620, 621, 622, 623, 624, 625, 626, 627, 628, 629, 630, 631] (by decide +kernel) (by decide +kernel)
set_option maxRecDepth 20000 in
theorem gL_law_X5_arrears : GoodIn wsL_law (wsV RL 102 RX5 yX5_arrears wsX5_arrears) := goodIn_app (goodIn_of _ (by decide +kernel)) ggL_law_X5_arrears
set_option maxRecDepth 20000 in
theorem ggL_law_X4_deathSum : GoodIn wsL_law wsX4_deathSum := goodIn_r _ [486, 28, 16, 150, 30, 266, 176, 177, 27, 178, 66, 206, 207, 208, 15, 209, 38, 37, 210, 211, 212, 173, 213, 214, 215, 216, 217, 35, 218, 219, 220, 221, 608, 609, 610, 611, 612, 613, 648, 649, 650, 651, 652, 653, 654, 632, 633, 634] (by decide +kernel) (by decide +kernel)
set_option maxRecDepth 20000 in
theorem gL_law_X4_deathSum : GoodIn wsL_law (wsV RL 103 RX4 yX4_deathSum wsX4_deathSum) := goodIn_app (goodIn_of _ (by decide +kernel)) ggL_law_X4_deathSum
set_option maxRecDepth 20000 in
theorem ggL_law_X5_deathSum : GoodIn wsL_law wsX5_deathSum := goodIn_r _ [490, 325, 117, 453, 454, 455, 5, 456, 116, 313, 314, 315, 316, 317, 318, 319, 320, 321, 322, 323, 324, 326, 327, 328, 329, 330, 331, 332, 333, 334, 335, 119, 71, 74, 75, 72, 73, 336, 337, 338, 339, 340, 341, 342, 343, 344, 345, 346, 347, 348, 349, 350, 351, 352, 353, 354, 355, 118, 78, 356, 357, 358, 359, 360, 76, 361, 362, 363, 364, 365, 366, 367, 368, 369, 370, 371, 372, 373, 374, 375, 376, 377, 378, 379, 380, 381, 382, 614, 615, 616, 617, 618, 619, 620, 621, 622, 623, 624, 625, 626, 627, 628, 629, 630, 631] (by decide +kernel) (by decide +kernel)
set_option maxRecDepth 20000 in
theorem gL_law_X5_deathSum : GoodIn wsL_law (wsV RL 106 RX5 yX5_deathSum wsX5_deathSum) := goodIn_app (goodIn_of _ (by decide +kernel)) ggL_law_X5_deathSum
set_option maxRecDepth 20000 in
theorem ggL_law_X4_paid : GoodIn wsL_law wsX4_paid := goodIn_r _ [494, 28, 448, 495, 608, 609, 610, 611, 612, 613, 648, 649, 650, 651, 652, 653, 654] (by decide +kernel) (by decide +kernel)
set_option maxRecDepth 20000 in
theorem gL_law_X4_paid : GoodIn wsL_law (wsV RL 107 RX4 yX4_paid wsX4_paid) := goodIn_app (goodIn_of _ (by decide +kernel)) ggL_law_X4_paid
set_option maxRecDepth 20000 in
theorem ggL_law_X5_paid : GoodIn wsL_law wsX5_paid := goodIn_r _ [499, 331, 453, 454, 455, 5, 456, 116, 313, 314, 315, 316, 117, 317, 318, 319, 320, 321, 322, 323, 324, 325, 326, 327, 328, 329, 330, 332, 333, 334, 335, 119, 71, 74, 75, 72, 73, 336, 337, 338, 339, 340, 341, 342, 343, 344, 345, 346, 347, 348, 349, 350, 351, 352, 353, 354, 355, 118, 78, 356, 357, 358, 359, 360, 76, 361, 362, 363, 364, 365, 366, 367, 368, 369, 370, 371, 372, 373, 374, 375, 376, 377, 378, 379, 380, 381, 382, 614, 615, 616, 617, 618, 619, 620, 621, 622, 623, 624, 625, 626, 627, 628, 629, 630, 631] (by decide +kernel) (by decide +kernel)
set_option maxRecDepth 20000 in
theorem gL_law_X5_paid : GoodIn wsL_law (wsV RL 110 RX5 yX5_paid wsX5_paid) := goodIn_app (goodIn_of _ (by decide +kernel)) ggL_law_X5_paid
set_option maxRecDepth 20000 in
theorem ggL_law_X4_charge : GoodIn wsL_law wsX4_charge := goodIn_r _ [503, 28, 16, 150, 30, 266, 176, 177, 27, 178, 66, 267, 268, 269, 15, 270, 271, 192, 173, 193, 272, 273, 274, 207, 208, 209, 38, 37, 210, 211, 212, 213, 214, 215, 216, 217, 35, 218, 219, 220, 221, 275, 276, 277, 278, 608, 609, 610, 611, 612, 613, 648, 649, 650, 651, 652, 653, 654, 632, 633, 634] (by decide +kernel) (by decide +kernel)
set_option maxRecDepth 20000 in
theorem gL_law_X4_charge : GoodIn wsL_law (wsV RL 111 RX4 yX4_charge wsX4_charge) := goodIn_app (goodIn_of _ (by decide +kernel)) ggL_law_X4_charge
set_option maxRecDepth 20000 in
theorem ggL_law_X5_charge : GoodIn wsL_law wsX5_charge := goodIn_r _ [507, 325, 117, 453, 454, 455, 5, 456, 116, 313, 314, 315, 316, 317, 318, 319, 320, 321, 322, 323, 324, 326, 327, 328, 329, 330, 331, 332, 333, 334, 335, 119, 71, 74, 75, 72, 73, 336, 337, 338, 339, 340, 341, 342, 343, 344, 345, 346, 347, 348, 349, 350, 351, 352, 353, 354, 355, 118, 78, 356, 357, 358, 359, 360, 76, 361, 362, 363, 364, 365, 366, 367, 368, 369, 370, 371, 372, 373, 374, 375, 376, 377, 378, 379, 380, 381, 382, 614, 615, 616, 617, 618, 619, 620, 621, 622, 623, 624, 625, 626, 627, 628, 629, 630, 631] (by decide +kernel) (by decide +kernel)
set_option maxRecDepth 20000 in
theorem gL_law_X5_charge : GoodIn wsL_law (wsV RL 114 RX5 yX5_charge wsX5_charge) := goodIn_app (goodIn_of _ (by decide +kernel)) ggL_law_X5_charge
set_option maxRecDepth 20000 in
theorem ggL_law_X4_grace : GoodIn wsL_law wsX4_grace := goodIn_r _ [511, 28, 512, 608, 609, 610, 611, 612, 613, 648, 649, 650, 651, 652, 653, 654] (by decide +kernel) (by decide +kernel)
set_option maxRecDepth 20000 in
theorem gL_law_X4_grace : GoodIn wsL_law (wsV RL 115 RX4 yX4_grace wsX4_grace) := goodIn_app (goodIn_of _ (by decide +kernel)) ggL_law_X4_grace
set_option maxRecDepth 20000 in
theorem ggL_law_X5_grace : GoodIn wsL_law wsX5_grace := goodIn_r _ [516, 325, 329, 453, 454, 455, 5, 456, 116, 313, 314, 315, 316, 117, 317, 318, 319, 320, 321, 322, 323, 324, 326, 327, 328, 330, 331, 332, 333, 334, 335, 119, 71, 74, 75, 72, 73, 336, 337, 338, 339, 340, 341, 342, 343, 344, 345, 346, 347, 348, 349, 350, 351, 352, 353, 354, 355, 118, 78, 356, 357, 358, 359, 360, 76, 361, 362, 363, 364, 365, 366, 367, 368, 369, 370, 371, 372, 373, 374, 375, 376, 377, 378, 379, 380, 381, 382, 614, 615, 616, 617, 618, 619, 620, 621, 622, 623, 624, 625, 626, 627, 628, 629, 630, 631] (by decide +kernel) (by decide +kernel)
set_option maxRecDepth 20000 in
theorem gL_law_X5_grace : GoodIn wsL_law (wsV RL 118 RX5 yX5_grace wsX5_grace) := goodIn_app (goodIn_of _ (by decide +kernel)) ggL_law_X5_grace
set_option maxRecDepth 20000 in
theorem ggL_law_L_corridor : GoodIn wsL_law wsL_corridor := goodIn_ca (goodIn_r _ [519, 83, 520, 521, 522, 2, 523, 88, 89, 16, 524, 219, 220, 15, 221, 608, 609, 610, 611, 612, 613] (by decide +kernel) (by decide +kernel)) (goodIn_sub (fun _ h => List.mem_append_left _ (List.mem_append_left _ (List.mem_append_right _ h))) (by decide +kernel))
set_option maxRecDepth 20000 in
theorem gL_law_L_corridor : GoodIn wsL_law (va_wsS RL 119 yL_corridor wsL_corridor) := goodIn_app (goodIn_of _ (by decide +kernel)) ggL_law_L_corridor
set_option maxRecDepth 20000 in
theorem ggL_law_X5_corridor : GoodIn wsL_law wsX5_corridor := goodIn_r _ [528, 116, 120, 121, 5, 122, 361, 362, 363, 614, 615, 616, 617, 618, 619, 620, 621, 622, 623, 624, 625, 626, 627, 628, 629, 630, 631] (by decide +kernel) (by decide +kernel)
set_option maxRecDepth 20000 in
theorem gL_law_X5_corridor : GoodIn wsL_law (wsV RL 121 RX5 yX5_corridor wsX5_corridor) := goodIn_app (goodIn_of _ (by decide +kernel)) ggL_law_X5_corridor
set_option maxRecDepth 20000 in
theorem ggL_law_L_accountAt : GoodIn wsL_law wsL_accountAt := goodIn_ca (goodIn_r _ [531, 83, 532, 533, 534, 2, 535, 88, 89, 30, 24, 29, 150, 234, 235, 236, 23, 237, 55, 238, 56, 239, 57, 240, 58, 241, 59, 242, 60, 243, 61, 244, 245, 246, 247, 248, 608, 609, 610, 611, 612, 613, 648, 649, 650, 651, 652, 653, 654, 641, 642, 643, 644, 645, 646, 647] (by decide +kernel) (by decide +kernel)) (goodIn_sub (fun _ h => List.mem_append_left _ (List.mem_append_left _ (List.mem_append_right _ h))) (by decide +kernel))
set_option maxRecDepth 20000 in
theorem gL_law_L_accountAt : GoodIn wsL_law (va_wsS RL 122 yL_accountAt wsL_accountAt) := goodIn_app (goodIn_of _ (by decide +kernel)) ggL_law_L_accountAt
set_option maxRecDepth 20000 in
theorem ggL_law_X5_accountAt : GoodIn wsL_law wsX5_accountAt := goodIn_r _ [539, 326, 540, 541, 542, 5, 543, 117, 116, 120, 121, 122, 317, 318, 319, 320, 321, 322, 323, 324, 325, 327, 328, 329, 330, 331, 332, 333, 334, 335, 119, 71, 74, 75, 72, 73, 336, 337, 338, 339, 340, 341, 342, 343, 344, 345, 346, 347, 348, 349, 350, 351, 352, 353, 354, 355, 118, 78, 356, 357, 358, 359, 360, 76, 361, 362, 363, 364, 365, 366, 367, 368, 369, 370, 371, 372, 373, 374, 375, 376, 377, 378, 379, 380, 381, 382, 614, 615, 616, 617, 618, 619, 620, 621, 622, 623, 624, 625, 626, 627, 628, 629, 630, 631] (by decide +kernel) (by decide +kernel)
set_option maxRecDepth 20000 in
theorem gL_law_X5_accountAt : GoodIn wsL_law (wsV RL 124 RX5 yX5_accountAt wsX5_accountAt) := goodIn_app (goodIn_of _ (by decide +kernel)) ggL_law_X5_accountAt
set_option maxRecDepth 20000 in
theorem ggL_law_L_accountFromStart : GoodIn wsL_law wsL_accountFromStart := goodIn_ca (goodIn_r _ [546, 83, 547, 548, 549, 2, 550, 88, 89, 30, 29, 150, 100, 101, 102, 27, 103, 66, 104, 105, 106, 107, 108, 109, 551, 552, 553, 554, 20, 253, 254, 255, 256, 19, 257, 45, 258, 259, 260, 261, 49, 155, 156, 157, 158, 43, 146, 147, 148, 149, 16, 151, 152, 153, 154, 159, 160, 161, 162, 47, 163, 164, 165, 166, 46, 167, 168, 169, 170, 171, 172, 173, 174, 175, 176, 177, 178, 179, 180, 181, 182, 183, 184, 185, 186, 187, 188, 189, 190, 191, 192, 193, 194, 195, 196, 197, 198, 199, 200, 201, 202, 203, 204, 205, 206, 207, 208, 15, 209, 38, 37, 210, 211, 212, 213, 214, 215, 216, 217, 35, 218, 219, 220, 221, 222, 223, 224, 225, 262, 263, 264, 265, 266, 267, 268, 269, 270, 271, 272, 273, 274, 275, 276, 277, 278, 279, 280, 281, 282, 283, 284, 285, 286, 287, 288, 289, 290, 291, 292, 293, 294, 295, 296, 297, 298, 299, 608, 609, 610, 611, 612, 613, 648, 649, 650, 651, 652, 653, 654, 635, 636, 637, 638, 639, 640, 632, 633, 634] (by decide +kernel) (by decide +kernel)) (goodIn_sub (fun _ h => List.mem_append_left _ (List.mem_append_left _ (List.mem_append_right _ h))) (by decide +kernel))
set_option maxRecDepth 20000 in
theorem gL_law_L_accountFromStart : GoodIn wsL_law (va_wsS RL 125 yL_accountFromStart wsL_accountFromStart) := goodIn_app (goodIn_of _ (by decide +kernel)) ggL_law_L_accountFromStart
set_option maxRecDepth 20000 in
theorem ggL_law_X5_accountFromStart : GoodIn wsL_law wsX5_accountFromStart := goodIn_r _ [558, 326, 540, 541, 542, 5, 543, 117, 116, 120, 121, 122, 317, 318, 319, 320, 321, 322, 323, 324, 325, 327, 328, 329, 330, 331, 332, 333, 334, 335, 119, 71, 74, 75, 72, 73, 336, 337, 338, 339, 340, 341, 342, 343, 344, 345, 346, 347, 348, 349, 350, 351, 352, 353, 354, 355, 118, 78, 356, 357, 358, 359, 360, 76, 361, 362, 363, 364, 365, 366, 367, 368, 369, 370, 371, 372, 373, 374, 375, 376, 377, 378, 379, 380, 381, 382, 614, 615, 616, 617, 618, 619, 620, 621, 622, 623, 624, 625, 626, 627, 628, 629, 630, 631] (by decide +kernel) (by decide +kernel)
set_option maxRecDepth 20000 in
theorem gL_law_X5_accountFromStart : GoodIn wsL_law (wsV RL 127 RX5 yX5_accountFromStart wsX5_accountFromStart) := goodIn_app (goodIn_of _ (by decide +kernel)) ggL_law_X5_accountFromStart
set_option maxRecDepth 20000 in
theorem ggL_law_L_stateAt : GoodIn wsL_law wsL_stateAt := goodIn_ca (goodIn_r _ [561, 83, 562, 563, 564, 2, 565, 88, 89, 30, 24, 29, 448, 234, 235, 236, 23, 237, 55, 238, 56, 239, 57, 240, 58, 241, 59, 242, 60, 243, 61, 244, 245, 246, 247, 248, 608, 609, 610, 611, 612, 613, 648, 649, 650, 651, 652, 653, 654, 641, 642, 643, 644, 645, 646, 647] (by decide +kernel) (by decide +kernel)) (goodIn_sub (fun _ h => List.mem_append_left _ (List.mem_append_left _ (List.mem_append_right _ h))) (by decide +kernel))
set_option maxRecDepth 20000 in
theorem gL_law_L_stateAt : GoodIn wsL_law (va_wsS RL 128 yL_stateAt wsL_stateAt) := goodIn_app (goodIn_of _ (by decide +kernel)) ggL_law_L_stateAt
set_option maxRecDepth 20000 in
theorem ggL_law_X5_stateAt : GoodIn wsL_law wsX5_stateAt := goodIn_r _ [569, 325, 540, 541, 542, 5, 543, 117, 116, 120, 121, 122, 317, 318, 319, 320, 321, 322, 323, 324, 326, 327, 328, 329, 330, 331, 332, 333, 334, 335, 119, 71, 74, 75, 72, 73, 336, 337, 338, 339, 340, 341, 342, 343, 344, 345, 346, 347, 348, 349, 350, 351, 352, 353, 354, 355, 118, 78, 356, 357, 358, 359, 360, 76, 361, 362, 363, 364, 365, 366, 367, 368, 369, 370, 371, 372, 373, 374, 375, 376, 377, 378, 379, 380, 381, 382, 614, 615, 616, 617, 618, 619, 620, 621, 622, 623, 624, 625, 626, 627, 628, 629, 630, 631] (by decide +kernel) (by decide +kernel)
set_option maxRecDepth 20000 in
theorem gL_law_X5_stateAt : GoodIn wsL_law (wsV RL 130 RX5 yX5_stateAt wsX5_stateAt) := goodIn_app (goodIn_of _ (by decide +kernel)) ggL_law_X5_stateAt
set_option maxRecDepth 20000 in
theorem ggL_law_L_wouldLapse : GoodIn wsL_law wsL_wouldLapse := goodIn_ca (goodIn_r _ [572, 83, 573, 574, 575, 2, 576, 88, 89, 28, 266, 176, 177, 27, 178, 66, 577, 578, 579, 580, 29, 30, 448, 581, 582, 583, 584, 104, 105, 106, 107, 108, 109, 167, 168, 169, 170, 171, 172, 173, 174, 175, 179, 180, 181, 182, 262, 263, 264, 265, 16, 150, 267, 268, 269, 15, 270, 271, 192, 193, 272, 273, 274, 207, 208, 209, 38, 37, 210, 211, 212, 213, 214, 215, 216, 217, 35, 218, 219, 220, 221, 275, 276, 277, 278, 279, 280, 281, 282, 187, 188, 189, 190, 191, 283, 284, 285, 286, 287, 288, 289, 290, 291, 292, 293, 294, 295, 296, 297, 298, 299, 608, 609, 610, 611, 612, 613, 648, 649, 650, 651, 652, 653, 654, 632, 633, 634] (by decide +kernel) (by decide +kernel)) (goodIn_sub (fun _ h => List.mem_append_left _ (List.mem_append_left _ (List.mem_append_right _ h))) (by decide +kernel))
set_option maxRecDepth 20000 in
theorem gL_law_L_wouldLapse : GoodIn wsL_law (va_wsS RL 131 yL_wouldLapse wsL_wouldLapse) := goodIn_app (goodIn_of _ (by decide +kernel)) ggL_law_L_wouldLapse
set_option maxRecDepth 20000 in
theorem ggL_law_X5_wouldLapse : GoodIn wsL_law wsX5_wouldLapse := goodIn_r _ [588, 116, 325, 120, 121, 5, 122, 313, 314, 315, 316, 117, 317, 318, 319, 320, 321, 322, 323, 324, 326, 327, 328, 329, 330, 331, 332, 333, 334, 335, 119, 71, 74, 75, 72, 73, 336, 337, 338, 339, 340, 341, 342, 343, 344, 345, 346, 347, 348, 349, 350, 351, 352, 353, 354, 355, 118, 78, 356, 357, 358, 359, 360, 76, 361, 362, 363, 364, 365, 366, 367, 368, 369, 370, 371, 372, 373, 374, 375, 376, 377, 378, 379, 380, 381, 382, 589, 590, 591, 592, 614, 615, 616, 617, 618, 619, 620, 621, 622, 623, 624, 625, 626, 627, 628, 629, 630, 631] (by decide +kernel) (by decide +kernel)
set_option maxRecDepth 20000 in
theorem gL_law_X5_wouldLapse : GoodIn wsL_law (wsV RL 133 RX5 yX5_wouldLapse wsX5_wouldLapse) := goodIn_app (goodIn_of _ (by decide +kernel)) ggL_law_X5_wouldLapse
set_option maxRecDepth 20000 in
theorem ggL_law_L_needed : GoodIn wsL_law wsL_needed := goodIn_ca (goodIn_r _ [595, 83, 596, 597, 598, 2, 599, 88, 89, 28, 137, 266, 176, 177, 27, 178, 66, 577, 578, 579, 580, 29, 30, 448, 581, 582, 583, 584, 104, 105, 106, 107, 108, 109, 167, 168, 169, 170, 171, 172, 173, 174, 175, 179, 180, 181, 182, 262, 263, 264, 265, 16, 150, 267, 268, 269, 15, 270, 271, 192, 193, 272, 273, 274, 207, 208, 209, 38, 37, 210, 211, 212, 213, 214, 215, 216, 217, 35, 218, 219, 220, 221, 275, 276, 277, 278, 279, 280, 281, 282, 187, 188, 189, 190, 191, 283, 284, 285, 286, 287, 288, 289, 290, 291, 292, 293, 294, 295, 296, 297, 298, 299, 600, 601, 602, 603, 608, 609, 610, 611, 612, 613, 648, 649, 650, 651, 652, 653, 654, 632, 633, 634] (by decide +kernel) (by decide +kernel)) (goodIn_sub (fun _ h => List.mem_append_left _ (List.mem_append_left _ (List.mem_append_right _ h))) (by decide +kernel))
set_option maxRecDepth 20000 in
theorem gL_law_L_needed : GoodIn wsL_law (va_wsS RL 134 yL_needed wsL_needed) := goodIn_app (goodIn_of _ (by decide +kernel)) ggL_law_L_needed
set_option maxRecDepth 20000 in
theorem ggL_law_X5_needed : GoodIn wsL_law wsX5_needed := goodIn_r _ [607, 116, 325, 312, 120, 121, 5, 122, 313, 314, 315, 316, 117, 317, 318, 319, 320, 321, 322, 323, 324, 326, 327, 328, 329, 330, 331, 332, 333, 334, 335, 119, 71, 74, 75, 72, 73, 336, 337, 338, 339, 340, 341, 342, 343, 344, 345, 346, 347, 348, 349, 350, 351, 352, 353, 354, 355, 118, 78, 356, 357, 358, 359, 360, 76, 361, 362, 363, 364, 365, 366, 367, 368, 369, 370, 371, 372, 373, 374, 375, 376, 377, 378, 379, 380, 381, 382, 589, 590, 591, 592, 614, 615, 616, 617, 618, 619, 620, 621, 622, 623, 624, 625, 626, 627, 628, 629, 630, 631] (by decide +kernel) (by decide +kernel)
set_option maxRecDepth 20000 in
theorem gL_law_X5_needed : GoodIn wsL_law (wsV RL 136 RX5 yX5_needed wsX5_needed) := goodIn_app (goodIn_of _ (by decide +kernel)) ggL_law_X5_needed
