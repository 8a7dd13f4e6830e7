set_option maxRecDepth 20000 in
theorem ggL_death_L_corridor : GoodIn wsL_death wsL_corridor := goodIn_r _ [5] (by decide +kernel) (by decide +kernel)
set_option maxRecDepth 20000 in
theorem gL_death_L_corridor : GoodIn wsL_death (va_wsS RL 7 yL_corridor wsL_corridor) := goodIn_app (goodIn_of _ (by decide +kernel)) ggL_death_L_corridor
set_option maxRecDepth 20000 in
theorem ggL_charge_L_death : GoodIn wsL_charge wsL_death := goodIn_r _ [5, 6, 7, 8, 4, 9] (by decide +kernel) (by decide +kernel)
set_option maxRecDepth 20000 in
theorem gL_charge_L_death : GoodIn wsL_charge (va_wsS RL 15 yL_death wsL_death) := goodIn_app (goodIn_of _ (by decide +kernel)) ggL_charge_L_death
set_option maxRecDepth 20000 in
theorem ggL_acts_L_death : GoodIn wsL_acts wsL_death := goodIn_r _ [4, 5, 6, 7, 3, 8] (by decide +kernel) (by decide +kernel)
set_option maxRecDepth 20000 in
theorem gL_acts_L_death : GoodIn wsL_acts (va_wsS RL 15 yL_death wsL_death) := goodIn_app (goodIn_of _ (by decide +kernel)) ggL_acts_L_death
set_option maxRecDepth 20000 in
theorem ggL_closes_L_charge : GoodIn wsL_closes wsL_charge := goodIn_r _ [11, 12, 13, 14, 10, 15, 16, 17, 18, 19] (by decide +kernel) (by decide +kernel)
set_option maxRecDepth 20000 in
theorem gL_closes_L_charge : GoodIn wsL_closes (va_wsS RL 21 yL_charge wsL_charge) := goodIn_app (goodIn_of _ (by decide +kernel)) ggL_closes_L_charge
set_option maxRecDepth 20000 in
theorem ggL_works_L_takes : GoodIn wsL_works wsL_takes := goodIn_r _ [4] (by decide +kernel) (by decide +kernel)
set_option maxRecDepth 20000 in
theorem gL_works_L_takes : GoodIn wsL_works (va_wsS RL 39 yL_takes wsL_takes) := goodIn_app (goodIn_of _ (by decide +kernel)) ggL_works_L_takes
set_option maxRecDepth 20000 in
theorem ggL_works_L_keeps : GoodIn wsL_works wsL_keeps := goodIn_r _ [7] (by decide +kernel) (by decide +kernel)
set_option maxRecDepth 20000 in
theorem gL_works_L_keeps : GoodIn wsL_works (va_wsS RL 43 yL_keeps wsL_keeps) := goodIn_app (goodIn_of _ (by decide +kernel)) ggL_works_L_keeps
set_option maxRecDepth 20000 in
theorem ggL_works_L_acts : GoodIn wsL_works wsL_acts := goodIn_r _ [10, 11, 12, 3, 13, 14, 15, 16, 17] (by decide +kernel) (by decide +kernel)
set_option maxRecDepth 20000 in
theorem gL_works_L_acts : GoodIn wsL_works (va_wsS RL 46 yL_acts wsL_acts) := goodIn_app (goodIn_of _ (by decide +kernel)) ggL_works_L_acts
set_option maxRecDepth 20000 in
theorem ggL_works_L_closes : GoodIn wsL_works wsL_closes := goodIn_r _ [20, 21, 22, 23, 24, 25, 26, 27, 28, 29, 3, 30, 31, 11, 12, 13, 14, 15, 16, 17] (by decide +kernel) (by decide +kernel)
set_option maxRecDepth 20000 in
theorem gL_works_L_closes : GoodIn wsL_works (va_wsS RL 50 yL_closes wsL_closes) := goodIn_app (goodIn_of _ (by decide +kernel)) ggL_works_L_closes
set_option maxRecDepth 20000 in
theorem ggL_lapses_L_acts : GoodIn wsL_lapses wsL_acts := goodIn_r _ [5, 6, 7, 4, 8, 9, 10, 11, 12] (by decide +kernel) (by decide +kernel)
set_option maxRecDepth 20000 in
theorem gL_lapses_L_acts : GoodIn wsL_lapses (va_wsS RL 46 yL_acts wsL_acts) := goodIn_app (goodIn_of _ (by decide +kernel)) ggL_lapses_L_acts
set_option maxRecDepth 20000 in
theorem ggL_lapses_L_closes : GoodIn wsL_lapses wsL_closes := goodIn_r _ [15, 16, 17, 18, 19, 20, 21, 22, 23, 24, 4, 25, 26, 6, 7, 8, 9, 10, 11, 12] (by decide +kernel) (by decide +kernel)
set_option maxRecDepth 20000 in
theorem gL_lapses_L_closes : GoodIn wsL_lapses (va_wsS RL 50 yL_closes wsL_closes) := goodIn_app (goodIn_of _ (by decide +kernel)) ggL_lapses_L_closes
set_option maxRecDepth 20000 in
theorem ggL_told_X4_tell : GoodIn wsL_told wsX4_tell := goodIn_ca (goodIn_ca (goodIn_r _ [6, 7, 8, 9, 10, 11, 12, 13, 14, 15, 16, 17, 18, 19, 20, 21, 22, 23, 24, 25, 26, 27, 28, 29, 30, 31, 5, 32, 33, 34, 35, 36, 37, 38, 39, 40, 41, 42, 43, 44, 45, 46, 47, 48, 49, 50, 51, 52, 53, 54, 55, 56, 57, 58, 59, 60, 61, 62, 63, 64, 65, 66, 67, 68, 69, 70, 71, 72, 73, 74, 75, 76, 77, 78, 79, 80, 81, 82, 83, 84, 85, 86, 87, 88, 89, 90, 91, 92, 93, 94, 95, 96, 97, 98, 99, 100, 101, 102, 103, 104, 105, 106, 107, 108, 109, 110, 111, 112, 113, 114, 115, 116, 117, 118, 119, 120, 121, 122, 123, 124, 125, 126, 127, 128, 129, 130, 131, 132, 133, 134, 135, 136, 137, 138, 139, 140, 141, 142, 143, 144, 145, 146, 147, 148, 149, 150, 151, 152, 153, 154, 155, 156, 157, 158, 159, 160, 161, 162, 163, 164, 165, 166, 167, 168, 169, 170, 171, 172, 173, 174, 175, 176, 177, 178, 179, 180, 181, 182, 183, 184, 185, 186, 187, 188, 189, 190, 191, 192, 193, 194, 195, 196, 197, 198, 199, 200, 201, 202, 203, 204, 205, 206, 207, 208, 209, 210, 211, 212, 213, 214, 215, 216, 217, 218, 219, 220, 221, 222, 223, 224, 225, 226, 227, 228, 229, 230, 231, 232, 233, 234, 235, 236, 237, 238, 239, 240, 241, 242] (by decide +kernel) (by decide +kernel)) (goodIn_sub (fun _ h => List.mem_cons_of_mem _ (List.mem_append_left _ (List.mem_append_right _ h))) (by decide +kernel))) (goodIn_sub (fun _ h => List.mem_cons_of_mem _ (List.mem_append_right _ h)) (by decide +kernel))
set_option maxRecDepth 20000 in
theorem gL_told_X4_tell : GoodIn wsL_told (wsV RL 54 RX4 yX4_tell wsX4_tell) := goodIn_app (goodIn_of _ (by decide +kernel)) ggL_told_X4_tell
set_option maxRecDepth 20000 in
theorem ggL_does_X4_strike : GoodIn wsL_does wsX4_strike := goodIn_ca (goodIn_r _ [7, 8, 9, 10, 11, 12, 13, 14, 15, 16, 17, 18, 19, 20, 21, 22, 23, 24, 25, 26, 27, 28, 29, 30, 31, 32, 33, 6, 34, 35, 36, 37, 38, 39, 40, 41, 42, 43, 44, 45, 46, 47, 48, 49, 50, 51, 52, 53, 54, 55, 56, 57, 58, 59, 60, 61, 62, 63, 64, 65, 66, 67, 68, 69, 70, 71, 72, 73, 74, 75, 76, 77, 78, 79, 80, 81, 82, 83, 84, 85, 86, 87, 88, 89, 90, 91, 92, 93, 94, 95, 96, 97, 98, 99, 100, 101, 102, 103, 104, 105, 106, 107, 108, 109, 110, 111, 112, 113, 114, 115, 116, 117, 118, 119, 120, 121, 122, 123, 124, 125, 126, 127, 128, 129, 130, 131, 132, 133, 134, 135, 136, 137, 138, 139, 140, 141, 142, 143, 144, 145, 146, 147, 148, 149, 150, 151, 152, 153, 154, 155, 156, 157, 158, 159, 160, 161, 162, 163, 164, 165, 166, 167, 168, 169, 170, 171, 172, 173, 174, 175, 176, 177, 178, 179, 180, 181, 182, 183, 184, 185, 186, 187, 188, 189, 190, 191, 192, 193, 194, 195, 196, 197, 198, 199, 200, 201, 202, 203, 204, 221, 222, 223, 224, 225, 226, 227, 228, 229, 230, 231, 232, 233, 234, 235, 236, 237, 238, 239, 240, 241, 242, 243, 244, 245, 246, 247, 248, 249] (by decide +kernel) (by decide +kernel)) (goodIn_sub (fun _ h => List.mem_cons_of_mem _ (List.mem_append_left _ (List.mem_append_left _ (List.mem_append_right _ h)))) (by decide +kernel))
set_option maxRecDepth 20000 in
theorem gL_does_X4_strike : GoodIn wsL_does (wsV RL 62 RX4 yX4_strike wsX4_strike) := goodIn_app (goodIn_of _ (by decide +kernel)) ggL_does_X4_strike
set_option maxRecDepth 20000 in
theorem ggL_does_X4_isDone : GoodIn wsL_does wsX4_isDone := goodIn_ca (goodIn_r _ [208, 8, 9, 10, 11, 12, 13, 14, 15, 16, 17, 18, 19, 20, 21, 209, 210, 211, 212, 162, 221, 222, 223, 224, 225, 226, 227, 228, 229, 230, 231, 232] (by decide +kernel) (by decide +kernel)) (goodIn_sub (fun _ h => List.mem_cons_of_mem _ (List.mem_append_left _ (List.mem_append_left _ (List.mem_append_right _ h)))) (by decide +kernel))
set_option maxRecDepth 20000 in
theorem gL_does_X4_isDone : GoodIn wsL_does (wsV RL 65 RX4 yX4_isDone wsX4_isDone) := goodIn_app (goodIn_of _ (by decide +kernel)) ggL_does_X4_isDone
set_option maxRecDepth 20000 in
theorem ggL_does_X4_close : GoodIn wsL_does wsX4_close := goodIn_ca (goodIn_ca (goodIn_r _ [216, 217, 218, 219, 220, 37, 36, 35, 163, 164, 165, 6, 166, 75, 76, 167, 99, 100, 90, 101, 102, 168, 169, 170, 136, 171, 172, 118, 95, 119, 173, 174, 175, 134, 135, 137, 138, 139, 140, 141, 142, 143, 144, 145, 146, 147, 148, 149, 150, 151, 152, 176, 177, 178, 179, 180, 181, 182, 183, 92, 97, 107, 113, 114, 115, 116, 112, 117, 103, 104, 105, 106, 184, 185, 186, 187, 132, 188, 189, 190, 191, 93, 94, 96, 192, 193, 194, 195, 196, 197, 198, 199, 200, 201, 202, 203, 41, 204, 43, 44, 45, 46, 47, 48, 49, 50, 51, 52, 53, 54, 55, 56, 57, 58, 59, 60, 221, 222, 223, 224, 225, 226, 240, 241, 242, 243, 244, 245, 246, 247, 248, 249, 233, 234, 235, 236, 237, 238, 239] (by decide +kernel) (by decide +kernel)) (goodIn_sub (fun _ h => List.mem_cons_of_mem _ (List.mem_append_left _ (List.mem_append_right _ h))) (by decide +kernel))) (goodIn_sub (fun _ h => List.mem_cons_of_mem _ (List.mem_append_right _ h)) (by decide +kernel))
set_option maxRecDepth 20000 in
theorem gL_does_X4_close : GoodIn wsL_does (wsV RL 69 RX4 yX4_close wsX4_close) := goodIn_app (goodIn_of _ (by decide +kernel)) ggL_does_X4_close
set_option maxRecDepth 20000 in
theorem ggL_isPolicy_X4_month : GoodIn wsL_isPolicy wsX4_month := goodIn_r _ [6, 7, 346, 347, 348, 349, 350, 351] (by decide +kernel) (by decide +kernel)
set_option maxRecDepth 20000 in
theorem gL_isPolicy_X4_month : GoodIn wsL_isPolicy (wsV RL 74 RX4 yX4_month wsX4_month) := goodIn_app (goodIn_of _ (by decide +kernel)) ggL_isPolicy_X4_month
set_option maxRecDepth 20000 in
theorem ggL_isPolicy_X4_acts : GoodIn wsL_isPolicy wsX4_acts := goodIn_r _ [11, 12, 13, 346, 347, 348, 349, 350, 351, 352, 353, 354, 355, 356, 357] (by decide +kernel) (by decide +kernel)
set_option maxRecDepth 20000 in
theorem gL_isPolicy_X4_acts : GoodIn wsL_isPolicy (wsV RL 78 RX4 yX4_acts wsX4_acts) := goodIn_app (goodIn_of _ (by decide +kernel)) ggL_isPolicy_X4_acts
set_option maxRecDepth 20000 in
theorem ggL_isPolicy_X4_state : GoodIn wsL_isPolicy wsX4_state := goodIn_r _ [17, 18, 19, 346, 347, 348, 349, 350, 351, 358, 359, 360, 361, 362, 363, 364] (by decide +kernel) (by decide +kernel)
set_option maxRecDepth 20000 in
theorem gL_isPolicy_X4_state : GoodIn wsL_isPolicy (wsV RL 80 RX4 yX4_state wsX4_state) := goodIn_app (goodIn_of _ (by decide +kernel)) ggL_isPolicy_X4_state
set_option maxRecDepth 20000 in
theorem ggL_isPolicy_X4_account : GoodIn wsL_isPolicy wsX4_account := goodIn_r _ [23, 18, 24, 346, 347, 348, 349, 350, 351, 358, 359, 360, 361, 362, 363, 364] (by decide +kernel) (by decide +kernel)
set_option maxRecDepth 20000 in
theorem gL_isPolicy_X4_account : GoodIn wsL_isPolicy (wsV RL 83 RX4 yX4_account wsX4_account) := goodIn_app (goodIn_of _ (by decide +kernel)) ggL_isPolicy_X4_account
set_option maxRecDepth 20000 in
theorem ggL_isPolicy_X4_loan : GoodIn wsL_isPolicy wsX4_loan := goodIn_r _ [28, 18, 29, 346, 347, 348, 349, 350, 351, 358, 359, 360, 361, 362, 363, 364] (by decide +kernel) (by decide +kernel)
set_option maxRecDepth 20000 in
theorem gL_isPolicy_X4_loan : GoodIn wsL_isPolicy (wsV RL 86 RX4 yX4_loan wsX4_loan) := goodIn_app (goodIn_of _ (by decide +kernel)) ggL_isPolicy_X4_loan
set_option maxRecDepth 20000 in
theorem ggL_isPolicy_X4_arrears : GoodIn wsL_isPolicy wsX4_arrears := goodIn_r _ [33, 18, 34, 346, 347, 348, 349, 350, 351, 358, 359, 360, 361, 362, 363, 364] (by decide +kernel) (by decide +kernel)
set_option maxRecDepth 20000 in
theorem gL_isPolicy_X4_arrears : GoodIn wsL_isPolicy (wsV RL 89 RX4 yX4_arrears wsX4_arrears) := goodIn_app (goodIn_of _ (by decide +kernel)) ggL_isPolicy_X4_arrears
set_option maxRecDepth 20000 in
theorem ggL_isPolicy_X4_grace : GoodIn wsL_isPolicy wsX4_grace := goodIn_r _ [38, 18, 39, 346, 347, 348, 349, 350, 351, 358, 359, 360, 361, 362, 363, 364] (by decide +kernel) (by decide +kernel)
set_option maxRecDepth 20000 in
theorem gL_isPolicy_X4_grace : GoodIn wsL_isPolicy (wsV RL 92 RX4 yX4_grace wsX4_grace) := goodIn_app (goodIn_of _ (by decide +kernel)) ggL_isPolicy_X4_grace
set_option maxRecDepth 20000 in
theorem ggL_isPolicy_X4_paid : GoodIn wsL_isPolicy wsX4_paid := goodIn_r _ [43, 18, 19, 44, 346, 347, 348, 349, 350, 351, 358, 359, 360, 361, 362, 363, 364] (by decide +kernel) (by decide +kernel)
set_option maxRecDepth 20000 in
theorem gL_isPolicy_X4_paid : GoodIn wsL_isPolicy (wsV RL 95 RX4 yX4_paid wsX4_paid) := goodIn_app (goodIn_of _ (by decide +kernel)) ggL_isPolicy_X4_paid
set_option maxRecDepth 20000 in
theorem ggL_isPolicy_X4_deathSum : GoodIn wsL_isPolicy wsX4_deathSum := goodIn_r _ [48, 18, 49, 24, 7, 50, 51, 52, 53, 54, 55, 56, 57, 58, 59, 60, 61, 62, 63, 64, 65, 66, 67, 68, 69, 70, 71, 72, 73, 74, 75, 76, 346, 347, 348, 349, 350, 351, 358, 359, 360, 361, 362, 363, 364, 365, 366, 367] (by decide +kernel) (by decide +kernel)
set_option maxRecDepth 20000 in
theorem gL_isPolicy_X4_deathSum : GoodIn wsL_isPolicy (wsV RL 98 RX4 yX4_deathSum wsX4_deathSum) := goodIn_app (goodIn_of _ (by decide +kernel)) ggL_isPolicy_X4_deathSum
set_option maxRecDepth 20000 in
theorem ggL_isPolicy_L_death : GoodIn wsL_isPolicy wsL_death := goodIn_r _ [80, 81, 82, 83, 79, 84] (by decide +kernel) (by decide +kernel)
set_option maxRecDepth 20000 in
theorem gL_isPolicy_L_death : GoodIn wsL_isPolicy (va_wsS RL 15 yL_death wsL_death) := goodIn_app (goodIn_of _ (by decide +kernel)) ggL_isPolicy_L_death
set_option maxRecDepth 20000 in
theorem ggL_isPolicy_X4_charge : GoodIn wsL_isPolicy wsX4_charge := goodIn_r _ [88, 18, 49, 24, 7, 50, 51, 52, 53, 54, 55, 89, 90, 91, 59, 92, 93, 94, 66, 95, 96, 97, 98, 57, 58, 60, 61, 62, 63, 64, 65, 67, 68, 69, 70, 71, 72, 73, 74, 75, 76, 99, 100, 101, 102, 346, 347, 348, 349, 350, 351, 358, 359, 360, 361, 362, 363, 364, 365, 366, 367] (by decide +kernel) (by decide +kernel)
set_option maxRecDepth 20000 in
theorem gL_isPolicy_X4_charge : GoodIn wsL_isPolicy (wsV RL 101 RX4 yX4_charge wsX4_charge) := goodIn_app (goodIn_of _ (by decide +kernel)) ggL_isPolicy_X4_charge
set_option maxRecDepth 20000 in
theorem ggL_isPolicy_L_charge : GoodIn wsL_isPolicy wsL_charge := goodIn_r _ [105, 106, 77, 78, 79, 80, 81, 82, 83, 84] (by decide +kernel) (by decide +kernel)
set_option maxRecDepth 20000 in
theorem gL_isPolicy_L_charge : GoodIn wsL_isPolicy (va_wsS RL 21 yL_charge wsL_charge) := goodIn_app (goodIn_of _ (by decide +kernel)) ggL_isPolicy_L_charge
set_option maxRecDepth 20000 in
theorem ggL_isPolicy_X4_accountAt : GoodIn wsL_isPolicy wsX4_accountAt := goodIn_ca (goodIn_r _ [110, 111, 112, 7, 113, 114, 24, 115, 116, 117, 118, 119, 120, 121, 122, 123, 124, 125, 126, 127, 128, 129, 130, 131, 132, 133, 134, 135, 136, 137, 346, 347, 348, 349, 350, 351, 358, 359, 360, 361, 362, 363, 364, 368, 369, 370, 371, 372, 373, 374] (by decide +kernel) (by decide +kernel)) (goodIn_sub (fun _ h => List.mem_cons_of_mem _ (List.mem_append_left _ (List.mem_append_left _ (List.mem_append_right _ h)))) (by decide +kernel))
set_option maxRecDepth 20000 in
theorem gL_isPolicy_X4_accountAt : GoodIn wsL_isPolicy (wsV RL 103 RX4 yX4_accountAt wsX4_accountAt) := goodIn_app (goodIn_of _ (by decide +kernel)) ggL_isPolicy_X4_accountAt
set_option maxRecDepth 20000 in
theorem ggL_isPolicy_X4_stateAt : GoodIn wsL_isPolicy wsX4_stateAt := goodIn_ca (goodIn_r _ [141, 111, 112, 7, 113, 114, 19, 115, 116, 117, 118, 119, 120, 121, 122, 123, 124, 125, 126, 127, 128, 129, 130, 131, 132, 133, 134, 135, 136, 137, 346, 347, 348, 349, 350, 351, 358, 359, 360, 361, 362, 363, 364, 368, 369, 370, 371, 372, 373, 374] (by decide +kernel) (by decide +kernel)) (goodIn_sub (fun _ h => List.mem_cons_of_mem _ (List.mem_append_left _ (List.mem_append_left _ (List.mem_append_right _ h)))) (by decide +kernel))
set_option maxRecDepth 20000 in
theorem gL_isPolicy_X4_stateAt : GoodIn wsL_isPolicy (wsV RL 106 RX4 yX4_stateAt wsX4_stateAt) := goodIn_app (goodIn_of _ (by decide +kernel)) ggL_isPolicy_X4_stateAt
set_option maxRecDepth 20000 in
theorem ggL_isPolicy_X4_accountFromStart : GoodIn wsL_isPolicy wsX4_accountFromStart := goodIn_ca (goodIn_r _ [145, 111, 112, 7, 114, 24, 146, 147, 148, 53, 149, 55, 150, 151, 152, 153, 154, 155, 156, 157, 158, 5, 159, 12, 13, 160, 161, 162, 163, 164, 165, 166, 167, 168, 169, 170, 171, 172, 173, 174, 175, 176, 177, 178, 179, 49, 180, 181, 182, 183, 184, 185, 186, 187, 188, 189, 190, 191, 192, 193, 194, 195, 196, 197, 198, 199, 66, 200, 201, 51, 52, 54, 202, 203, 204, 205, 206, 207, 208, 209, 210, 211, 212, 213, 214, 94, 95, 215, 216, 217, 218, 219, 220, 221, 222, 223, 224, 225, 226, 56, 57, 58, 59, 60, 61, 62, 63, 64, 65, 67, 68, 69, 70, 71, 72, 73, 74, 75, 76, 227, 228, 229, 230, 231, 232, 233, 234, 50, 89, 90, 91, 92, 93, 96, 97, 98, 99, 100, 101, 102, 235, 236, 237, 238, 239, 240, 241, 242, 243, 244, 245, 246, 247, 248, 249, 250, 251, 252, 253, 254, 255, 346, 347, 348, 349, 350, 351, 358, 359, 360, 361, 362, 363, 364, 352, 353, 354, 355, 356, 357, 365, 366, 367] (by decide +kernel) (by decide +kernel)) (goodIn_sub (fun _ h => List.mem_cons_of_mem _ (List.mem_append_left _ (List.mem_append_left _ (List.mem_append_right _ h)))) (by decide +kernel))
set_option maxRecDepth 20000 in
theorem gL_isPolicy_X4_accountFromStart : GoodIn wsL_isPolicy (wsV RL 109 RX4 yX4_accountFromStart wsX4_accountFromStart) := goodIn_app (goodIn_of _ (by decide +kernel)) ggL_isPolicy_X4_accountFromStart
set_option maxRecDepth 20000 in
theorem ggL_isPolicy_X4_corridor : GoodIn wsL_isPolicy wsX4_corridor := goodIn_ca (goodIn_r _ [259, 111, 112, 49, 260, 74, 75, 59, 76, 346, 347, 348, 349, 350, 351] (by decide +kernel) (by decide +kernel)) (goodIn_sub (fun _ h => List.mem_cons_of_mem _ (List.mem_append_left _ (List.mem_append_left _ (List.mem_append_right _ h)))) (by decide +kernel))
set_option maxRecDepth 20000 in
theorem gL_isPolicy_X4_corridor : GoodIn wsL_isPolicy (wsV RL 112 RX4 yX4_corridor wsX4_corridor) := goodIn_app (goodIn_of _ (by decide +kernel)) ggL_isPolicy_X4_corridor
set_option maxRecDepth 20000 in
theorem ggL_isPolicy_L_corridor : GoodIn wsL_isPolicy wsL_corridor := goodIn_r _ [84] (by decide +kernel) (by decide +kernel)
set_option maxRecDepth 20000 in
theorem gL_isPolicy_L_corridor : GoodIn wsL_isPolicy (va_wsS RL 7 yL_corridor wsL_corridor) := goodIn_app (goodIn_of _ (by decide +kernel)) ggL_isPolicy_L_corridor
set_option maxRecDepth 20000 in
theorem ggL_isPolicy_L_does : GoodIn wsL_isPolicy wsL_does := goodIn_ca (goodIn_ca (goodIn_ca (goodIn_r _ [263, 264, 265, 266, 267, 268, 5, 269, 270, 271, 12, 272, 167, 168, 163, 169, 170, 171, 172, 173, 174, 175, 180, 181, 182, 183, 165, 273, 274, 275, 276, 277, 278, 279, 280, 113, 18, 7, 115, 116, 117, 118, 119, 120, 121, 122, 123, 124, 125, 126, 127, 128, 129, 130, 131, 132, 133, 134, 135, 136, 137, 281, 282, 283, 284, 13, 160, 161, 162, 164, 166, 176, 177, 178, 179, 49, 24, 184, 185, 186, 187, 188, 189, 190, 191, 192, 193, 194, 195, 196, 53, 197, 152, 198, 199, 66, 200, 150, 201, 51, 52, 54, 55, 202, 203, 204, 205, 153, 206, 207, 208, 209, 151, 210, 211, 212, 213, 214, 94, 95, 215, 216, 217, 218, 219, 220, 221, 222, 223, 224, 225, 226, 154, 56, 57, 58, 59, 60, 61, 62, 63, 64, 65, 67, 68, 69, 70, 71, 72, 73, 74, 75, 76, 227, 228, 229, 230, 155, 285, 286, 287, 288, 289, 231, 232, 233, 234, 50, 89, 90, 91, 92, 93, 96, 97, 98, 99, 100, 101, 102, 235, 236, 237, 238, 239, 240, 241, 242, 243, 244, 245, 246, 247, 248, 249, 250, 251, 252, 253, 254, 255, 290, 291, 292, 293, 294, 295, 296, 297, 298, 299, 300, 301, 302, 303, 304, 305, 111, 112, 306, 307, 346, 347, 348, 349, 350, 351, 352, 353, 354, 355, 356, 357, 368, 369, 370, 371, 372, 373, 374, 358, 359, 360, 361, 362, 363, 364, 365, 366, 367] (by decide +kernel) (by decide +kernel)) (goodIn_sub (fun _ h => List.mem_cons_of_mem _ (List.mem_append_left _ (List.mem_append_right _ h))) (by decide +kernel))) (goodIn_sub (fun _ h => List.mem_cons_of_mem _ (List.mem_append_left _ (List.mem_append_left _ (List.mem_append_right _ h)))) (by decide +kernel))) (goodIn_sub (fun _ h => List.mem_cons_of_mem _ (List.mem_append_right _ h)) (by decide +kernel))
set_option maxRecDepth 20000 in
theorem gL_isPolicy_L_does : GoodIn wsL_isPolicy (va_wsS RL 113 yL_does wsL_does) := goodIn_app (goodIn_of _ (by decide +kernel)) ggL_isPolicy_L_does
set_option maxRecDepth 20000 in
theorem ggL_isPolicy_X4_wouldLapse : GoodIn wsL_isPolicy wsX4_wouldLapse := goodIn_ca (goodIn_r _ [311, 111, 112, 18, 50, 51, 52, 53, 54, 55, 312, 313, 314, 5, 315, 114, 7, 19, 316, 317, 318, 319, 150, 151, 152, 153, 154, 155, 194, 195, 196, 197, 198, 199, 66, 200, 201, 202, 203, 204, 205, 231, 232, 233, 234, 49, 24, 89, 90, 91, 59, 92, 93, 94, 95, 96, 97, 98, 57, 58, 60, 61, 62, 63, 64, 65, 67, 68, 69, 70, 71, 72, 73, 74, 75, 76, 99, 100, 101, 102, 235, 236, 237, 238, 210, 211, 212, 213, 214, 239, 240, 241, 242, 243, 244, 245, 246, 247, 248, 249, 250, 251, 252, 253, 254, 255, 346, 347, 348, 349, 350, 351, 358, 359, 360, 361, 362, 363, 364, 365, 366, 367] (by decide +kernel) (by decide +kernel)) (goodIn_sub (fun _ h => List.mem_cons_of_mem _ (List.mem_append_left _ (List.mem_append_left _ (List.mem_append_right _ h)))) (by decide +kernel))
set_option maxRecDepth 20000 in
theorem gL_isPolicy_X4_wouldLapse : GoodIn wsL_isPolicy (wsV RL 117 RX4 yX4_wouldLapse wsX4_wouldLapse) := goodIn_app (goodIn_of _ (by decide +kernel)) ggL_isPolicy_X4_wouldLapse
set_option maxRecDepth 20000 in
theorem ggL_isPolicy_L_lapses : GoodIn wsL_isPolicy wsL_lapses := goodIn_r _ [322, 323, 324, 325, 79, 326, 77, 78, 80, 81, 82, 83, 84, 327, 328, 329, 330, 331, 332, 333, 334, 335, 336, 103, 104, 105, 106] (by decide +kernel) (by decide +kernel)
set_option maxRecDepth 20000 in
theorem gL_isPolicy_L_lapses : GoodIn wsL_isPolicy (va_wsS RL 120 yL_lapses wsL_lapses) := goodIn_app (goodIn_of _ (by decide +kernel)) ggL_isPolicy_L_lapses
set_option maxRecDepth 20000 in
theorem ggL_isPolicy_X4_needed : GoodIn wsL_isPolicy wsX4_needed := goodIn_ca (goodIn_r _ [340, 111, 112, 18, 341, 50, 51, 52, 53, 54, 55, 312, 313, 314, 5, 315, 114, 7, 19, 316, 317, 318, 319, 150, 151, 152, 153, 154, 155, 194, 195, 196, 197, 198, 199, 66, 200, 201, 202, 203, 204, 205, 231, 232, 233, 234, 49, 24, 89, 90, 91, 59, 92, 93, 94, 95, 96, 97, 98, 57, 58, 60, 61, 62, 63, 64, 65, 67, 68, 69, 70, 71, 72, 73, 74, 75, 76, 99, 100, 101, 102, 235, 236, 237, 238, 210, 211, 212, 213, 214, 239, 240, 241, 242, 243, 244, 245, 246, 247, 248, 249, 250, 251, 252, 253, 254, 255, 342, 343, 344, 345, 346, 347, 348, 349, 350, 351, 358, 359, 360, 361, 362, 363, 364, 365, 366, 367] (by decide +kernel) (by decide +kernel)) (goodIn_sub (fun _ h => List.mem_cons_of_mem _ (List.mem_append_left _ (List.mem_append_left _ (List.mem_append_right _ h)))) (by decide +kernel))
set_option maxRecDepth 20000 in
theorem gL_isPolicy_X4_needed : GoodIn wsL_isPolicy (wsV RL 124 RX4 yX4_needed wsX4_needed) := goodIn_app (goodIn_of _ (by decide +kernel)) ggL_isPolicy_X4_needed
set_option maxRecDepth 20000 in
theorem ggL_law_X4_init : GoodIn wsL_law wsX4_init := goodIn_r _ [13, 14, 15, 16, 17, 18, 19, 20, 21, 22, 23, 24, 25, 26, 27, 28, 29, 30, 31, 32, 33, 34, 35, 36, 37, 38, 39, 40, 41, 42, 43, 44, 45, 46, 47, 3, 48, 49, 50, 51, 52, 53, 54, 55, 56, 57, 58, 59, 60, 61, 62, 63, 64, 65, 66, 67, 68, 69, 432, 433, 434, 426, 427, 428, 429, 430, 431, 435, 436, 437, 438, 439, 440, 441, 442, 443, 444, 445, 446, 447, 448, 449, 450, 451, 452, 453, 454] (by decide +kernel) (by decide +kernel)
set_option maxRecDepth 20000 in
theorem gL_law_X4_init : GoodIn wsL_law (wsX4_init) := ggL_law_X4_init
set_option maxRecDepth 20000 in
theorem ggL_law_L_isPolicy : GoodIn wsL_law wsL_isPolicy := goodIn_ca (goodIn_ca (goodIn_ca (goodIn_r _ [73, 9, 74, 75, 76, 2, 77, 34, 78, 79, 80, 81, 24, 82, 83, 84, 85, 86, 32, 87, 88, 89, 90, 91, 92, 93, 94, 95, 96, 97, 98, 99, 100, 101, 102, 103, 104, 105, 106, 107, 108, 109, 110, 111, 112, 113, 114, 115, 116, 20, 117, 118, 119, 31, 120, 69, 121, 122, 123, 19, 124, 42, 41, 125, 126, 127, 128, 129, 130, 131, 132, 133, 39, 134, 135, 136, 137, 138, 139, 72, 140, 141, 142, 143, 144, 145, 146, 147, 148, 149, 150, 151, 152, 153, 154, 155, 156, 157, 158, 159, 160, 161, 162, 163, 164, 165, 166, 167, 168, 169, 170, 171, 172, 28, 33, 173, 174, 175, 27, 176, 58, 177, 59, 178, 60, 179, 61, 180, 62, 181, 63, 182, 64, 183, 184, 185, 186, 187, 188, 189, 190, 191, 192, 193, 194, 195, 196, 197, 198, 199, 200, 201, 202, 203, 204, 205, 206, 207, 208, 209, 210, 211, 212, 23, 213, 48, 214, 215, 216, 217, 52, 218, 219, 220, 221, 47, 222, 223, 224, 225, 226, 227, 228, 229, 230, 231, 232, 233, 50, 234, 235, 236, 237, 49, 238, 239, 240, 241, 242, 243, 244, 245, 246, 247, 248, 249, 250, 251, 252, 253, 254, 255, 256, 257, 258, 259, 260, 261, 262, 263, 264, 265, 266, 267, 268, 269, 270, 271, 272, 273, 274, 275, 276, 277, 278, 279, 280, 281, 282, 283, 284, 285, 286, 287, 288, 289, 290, 291, 292, 293, 294, 295, 296, 297, 298, 299, 300, 301, 302, 303, 304, 305, 306, 307, 308, 309, 310, 311, 312, 313, 314, 315, 316, 317, 318, 319, 320, 321, 322, 323, 324, 325, 326, 327, 328, 329, 330, 331, 332, 53, 333, 334, 335, 336, 337, 338, 339, 340, 341, 342, 343, 344, 345, 346, 347, 348, 349, 350, 351, 352, 353, 354, 355, 356, 357, 358, 359, 360, 361, 362, 363, 364, 365, 3, 366, 367, 368, 369, 370, 371, 372, 373, 374, 375, 376, 377, 378, 379, 380, 381, 382, 383, 384, 385, 386, 387, 426, 427, 428, 429, 430, 431, 435, 436, 437, 438, 439, 440, 448, 449, 450, 451, 452, 453, 454, 432, 433, 434, 441, 442, 443, 444, 445, 446, 447] (by decide +kernel) (by decide +kernel)) (goodIn_sub (fun _ h => List.mem_append_left _ (List.mem_append_left _ (List.mem_append_right _ h))) (by decide +kernel))) (goodIn_sub (fun _ h => List.mem_append_left _ (List.mem_append_right _ h)) (by decide +kernel))) (goodIn_sub (fun _ h => List.mem_append_right _ h) (by decide +kernel))
set_option maxRecDepth 20000 in
theorem gL_law_L_isPolicy : GoodIn wsL_law (va_wsS RL 130 yL_isPolicy wsL_isPolicy) := goodIn_app (goodIn_of _ (by decide +kernel)) ggL_law_L_isPolicy
set_option maxRecDepth 20000 in
theorem ggL_law_X4_begin : GoodIn wsL_law wsX4_begin := goodIn_ca (goodIn_r _ [391, 171, 172, 392, 393, 34, 20, 24, 32, 394, 395, 396, 19, 397, 39, 41, 42, 398, 399, 400, 23, 401, 47, 196, 197, 198, 31, 199, 69, 200, 201, 202, 203, 204, 205, 426, 427, 428, 429, 430, 431, 432, 433, 434, 435, 436, 437, 438, 439, 440, 448, 449, 450, 451, 452, 453, 454] (by decide +kernel) (by decide +kernel)) (goodIn_sub (fun _ h => List.mem_append_left _ (List.mem_append_left _ (List.mem_append_right _ h))) (by decide +kernel))
set_option maxRecDepth 20000 in
theorem gL_law_X4_begin : GoodIn wsL_law (wsV RL 138 RX4 yX4_begin wsX4_begin) := goodIn_app (goodIn_of _ (by decide +kernel)) ggL_law_X4_begin
set_option maxRecDepth 20000 in
theorem ggL_law_L_works : GoodIn wsL_law wsL_works := goodIn_r _ [404, 405, 406, 72, 407, 408, 409, 410, 366, 367, 368, 138, 139, 140, 141, 142, 143, 144, 369, 370, 371, 372, 373, 374, 375, 376, 377, 378, 163, 164, 165, 166] (by decide +kernel) (by decide +kernel)
set_option maxRecDepth 20000 in
theorem gL_law_L_works : GoodIn wsL_law (va_wsS RL 143 yL_works wsL_works) := goodIn_app (goodIn_of _ (by decide +kernel)) ggL_law_L_works
set_option maxRecDepth 20000 in
theorem ggL_law_L_told : GoodIn wsL_law wsL_told := goodIn_ca (goodIn_ca (goodIn_r _ [413, 309, 414, 415, 416, 2, 417, 171, 172, 349, 350, 34, 383, 24, 32, 418, 419, 420, 23, 421, 47, 422, 423, 424, 425, 48, 49, 50, 52, 222, 223, 224, 225, 20, 92, 226, 227, 228, 229, 218, 219, 220, 221, 230, 231, 232, 233, 234, 235, 236, 237, 238, 239, 240, 31, 241, 202, 242, 243, 128, 244, 200, 245, 118, 119, 120, 69, 246, 247, 248, 249, 203, 250, 251, 252, 253, 201, 254, 255, 256, 257, 258, 154, 155, 259, 260, 261, 262, 263, 264, 265, 266, 267, 268, 269, 270, 204, 121, 122, 123, 19, 124, 42, 41, 125, 126, 127, 129, 130, 131, 132, 133, 39, 134, 135, 136, 137, 271, 272, 273, 274, 205, 329, 330, 331, 332, 53, 321, 322, 323, 324, 28, 173, 174, 175, 27, 176, 58, 177, 59, 178, 60, 179, 61, 180, 62, 181, 63, 182, 64, 183, 184, 185, 186, 187, 325, 326, 327, 328, 82, 210, 211, 212, 213, 214, 215, 216, 217, 275, 276, 277, 278, 117, 149, 150, 151, 152, 153, 156, 157, 158, 159, 160, 161, 162, 279, 280, 281, 282, 283, 284, 285, 286, 287, 288, 289, 290, 291, 292, 293, 294, 295, 296, 297, 298, 299, 333, 334, 335, 336, 341, 342, 343, 344, 426, 427, 428, 429, 430, 431, 435, 436, 437, 438, 439, 440, 448, 449, 450, 451, 452, 453, 454, 432, 433, 434, 441, 442, 443, 444, 445, 446, 447] (by decide +kernel) (by decide +kernel)) (goodIn_sub (fun _ h => List.mem_append_left _ (List.mem_append_left _ (List.mem_append_right _ h))) (by decide +kernel))) (goodIn_sub (fun _ h => List.mem_append_right _ h) (by decide +kernel))
set_option maxRecDepth 20000 in
theorem gL_law_L_told : GoodIn wsL_law (va_wsS RL 147 yL_told wsL_told) := goodIn_app (goodIn_of _ (by decide +kernel)) ggL_law_L_told
set_option maxRecDepth 20000 in
theorem ggL_law_L_does : GoodIn wsL_law wsL_does := goodIn_ca (goodIn_ca (goodIn_ca (goodIn_r _ [307, 308, 309, 310, 311, 312, 2, 313, 314, 315, 24, 316, 215, 216, 23, 217, 52, 218, 219, 220, 221, 47, 226, 227, 228, 229, 48, 317, 318, 319, 320, 321, 322, 323, 324, 28, 32, 34, 173, 174, 175, 27, 176, 58, 177, 59, 178, 60, 179, 61, 180, 62, 181, 63, 182, 64, 183, 184, 185, 186, 187, 325, 326, 327, 328, 82, 210, 211, 212, 213, 214, 222, 223, 224, 225, 20, 92, 230, 231, 232, 233, 50, 234, 235, 236, 237, 49, 238, 239, 240, 31, 241, 202, 242, 243, 128, 244, 200, 245, 118, 119, 120, 69, 246, 247, 248, 249, 203, 250, 251, 252, 253, 201, 254, 255, 256, 257, 258, 154, 155, 259, 260, 261, 262, 263, 264, 265, 266, 267, 268, 269, 270, 204, 121, 122, 123, 19, 124, 42, 41, 125, 126, 127, 129, 130, 131, 132, 133, 39, 134, 135, 136, 137, 271, 272, 273, 274, 205, 329, 330, 331, 332, 53, 275, 276, 277, 278, 117, 149, 150, 151, 152, 153, 156, 157, 158, 159, 160, 161, 162, 279, 280, 281, 282, 283, 284, 285, 286, 287, 288, 289, 290, 291, 292, 293, 294, 295, 296, 297, 298, 299, 333, 334, 335, 336, 337, 338, 339, 340, 341, 342, 343, 344, 345, 346, 347, 348, 171, 172, 349, 350, 426, 427, 428, 429, 430, 431, 435, 436, 437, 438, 439, 440, 441, 442, 443, 444, 445, 446, 447, 448, 449, 450, 451, 452, 453, 454, 432, 433, 434] (by decide +kernel) (by decide +kernel)) (goodIn_sub (fun _ h => List.mem_append_left _ (List.mem_append_right _ h)) (by decide +kernel))) (goodIn_sub (fun _ h => List.mem_append_left _ (List.mem_append_left _ (List.mem_append_right _ h))) (by decide +kernel))) (goodIn_sub (fun _ h => List.mem_append_right _ h) (by decide +kernel))
set_option maxRecDepth 20000 in
theorem gL_law_L_does : GoodIn wsL_law (va_wsS RL 113 yL_does wsL_does) := goodIn_app (goodIn_of _ (by decide +kernel)) ggL_law_L_does
