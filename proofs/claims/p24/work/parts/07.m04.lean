set_option maxRecDepth 20000 in
theorem gL_does_X4_strike : GoodIn wsL_does (wsV RL 62 RX4 yX4_strike wsX4_strike) := goodIn_app (goodIn_of _ (by decide +kernel)) ggL_does_X4_strike
set_option maxRecDepth 20000 in
theorem ggL_does_X4_isDone : GoodIn wsL_does wsX4_isDone := goodIn_ca (goodIn_r _ [208, 8, 9, 10, 11, 12, 13, 14, 15, 16, 17, 18, 19, 20, 21, 209, 210, 211, 212, 162, 221, 222, 223, 224, 225, 226, 227, 228, 229, 230, 231, 232] (by decide +kernel) (by decide +kernel)) (goodIn_sub (fun _ h => List.mem_cons_of_mem _ (List.mem_append_left _ (List.mem_append_left _ (List.mem_append_right _ h)))) (by decide +kernel))
set_option maxRecDepth 20000 in
theorem gL_does_X4_isDone : GoodIn wsL_does (wsV RL 65 RX4 yX4_isDone wsX4_isDone) := goodIn_app (goodIn_of _ (by decide +kernel)) ggL_does_X4_isDone
set_option maxRecDepth 20000 in
theorem ggL_does_X4_close : GoodIn wsL_does wsX4_close := goodIn_ca (goodIn_ca (goodIn_r _ [216, 217, 218, 219, 220, 37, 36, 35, 163, 164, 165, 6, 166, 75, 76, 167, 99, 100, 90, 101, 102, 168, 169, 170, 136, 171, 172, 118, 95, 119, 173, 174, 175, 134, 135, 137, 138, 139, 140, 141, 142, 143, 144, 145, 146, 147, 148, 149, 150, 151, 152, 176, 177, 178, 179, 180, 181, 182, 183, 92, 97, 107, 113, 114, 115, 116, 112, 117, 103, 104, 105, 106, 184, 185, 186, 187, 132, 188, 189, 190, 191, 93, 94, 96, 192, 193, 194, 195, 196, 197, 198, 199, 200, 201, 202, 203, 41, 204, 43, 44, 45, 46, 47, 48, 49, 50, 51, 52, 53, 54, 55, 56, 57, 58, 59, 60, 221, 222, 223, 224, 225, 226, 240, 241, 242, 243, 244, 245, 246, 247, 248, 249, 233, 234, 235, 236, 237, 238, 239] (by decide +kernel) (by decide +kernel)) (goodIn_sub (fun _ h => List.mem_cons_of_mem _ (List.mem_append_left _ (List.mem_append_right _ h))) (by decide +kernel))) (goodIn_sub (fun _ h => List.mem_cons_of_mem _ (List.mem_append_right _ h)) (by decide +kernel))
set_option maxRecDepth 20000 in
theorem gL_does_X4_close : GoodIn wsL_does (wsV RL 69 RX4 yX4_close wsX4_close) := goodIn_app (goodIn_of _ (by decide +kernel)) ggL_does_X4_close
set_option maxRecDepth 20000 in
theorem ggL_isPolicy_X4_month : GoodIn wsL_isPolicy wsX4_month := goodIn_r _ [6, 7, 346, 347, 348, 349, 350, 351] (by decide +kernel) (by decide +kernel)
set_option maxRecDepth 20000 in
theorem gL_isPolicy_X4_month : GoodIn wsL_isPolicy (wsV RL 74 RX4 yX4_month wsX4_month) := goodIn_app (goodIn_of _ (by decide +kernel)) ggL_isPolicy_X4_month
set_option maxRecDepth 20000 in
theorem ggL_isPolicy_X4_acts : GoodIn wsL_isPolicy wsX4_acts := goodIn_r _ [11, 12, 13, 346, 347, 348, 349, 350, 351, 352, 353, 354, 355, 356, 357] (by decide +kernel) (by decide +kernel)
set_option maxRecDepth 20000 in
theorem gL_isPolicy_X4_acts : GoodIn wsL_isPolicy (wsV RL 78 RX4 yX4_acts wsX4_acts) := goodIn_app (goodIn_of _ (by decide +kernel)) ggL_isPolicy_X4_acts
set_option maxRecDepth 20000 in
theorem ggL_isPolicy_X4_state : GoodIn wsL_isPolicy wsX4_state := goodIn_r _ [17, 18, 19, 346, 347, 348, 349, 350, 351, 358, 359, 360, 361, 362, 363, 364] (by decide +kernel) (by decide +kernel)
set_option maxRecDepth 20000 in
theorem gL_isPolicy_X4_state : GoodIn wsL_isPolicy (wsV RL 80 RX4 yX4_state wsX4_state) := goodIn_app (goodIn_of _ (by decide +kernel)) ggL_isPolicy_X4_state
set_option maxRecDepth 20000 in
theorem ggL_isPolicy_X4_account : GoodIn wsL_isPolicy wsX4_account := goodIn_r _ [23, 18, 24, 346, 347, 348, 349, 350, 351, 358, 359, 360, 361, 362, 363, 364] (by decide +kernel) (by decide +kernel)
set_option maxRecDepth 20000 in
theorem gL_isPolicy_X4_account : GoodIn wsL_isPolicy (wsV RL 83 RX4 yX4_account wsX4_account) := goodIn_app (goodIn_of _ (by decide +kernel)) ggL_isPolicy_X4_account
set_option maxRecDepth 20000 in
theorem ggL_isPolicy_X4_loan : GoodIn wsL_isPolicy wsX4_loan := goodIn_r _ [28, 18, 29, 346, 347, 348, 349, 350, 351, 358, 359, 360, 361, 362, 363, 364] (by decide +kernel) (by decide +kernel)
set_option maxRecDepth 20000 in
theorem gL_isPolicy_X4_loan : GoodIn wsL_isPolicy (wsV RL 86 RX4 yX4_loan wsX4_loan) := goodIn_app (goodIn_of _ (by decide +kernel)) ggL_isPolicy_X4_loan
set_option maxRecDepth 20000 in
theorem ggL_isPolicy_X4_arrears : GoodIn wsL_isPolicy wsX4_arrears := goodIn_r _ [33, 18, 34, 346, 347, 348, 349, 350, 351, 358, 359, 360, 361, 362, 363, 364] (by decide +kernel) (by decide +kernel)
set_option maxRecDepth 20000 in
theorem gL_isPolicy_X4_arrears : GoodIn wsL_isPolicy (wsV RL 89 RX4 yX4_arrears wsX4_arrears) := goodIn_app (goodIn_of _ (by decide +kernel)) ggL_isPolicy_X4_arrears
set_option maxRecDepth 20000 in
theorem ggL_isPolicy_X4_grace : GoodIn wsL_isPolicy wsX4_grace := goodIn_r _ [38, 18, 39, 346, 347, 348, 349, 350, 351, 358, 359, 360, 361, 362, 363, 364] (by decide +kernel) (by decide +kernel)
set_option maxRecDepth 20000 in
theorem gL_isPolicy_X4_grace : GoodIn wsL_isPolicy (wsV RL 92 RX4 yX4_grace wsX4_grace) := goodIn_app (goodIn_of _ (by decide +kernel)) ggL_isPolicy_X4_grace
set_option maxRecDepth 20000 in
theorem ggL_isPolicy_X4_paid : GoodIn wsL_isPolicy wsX4_paid := goodIn_r _ [43, 18, 19, 44, 346, 347, 348, 349, 350, 351, 358, 359, 360, 361, 362, 363, 364] (by decide +kernel) (by decide +kernel)
set_option maxRecDepth 20000 in
theorem gL_isPolicy_X4_paid : GoodIn wsL_isPolicy (wsV RL 95 RX4 yX4_paid wsX4_paid) := goodIn_app (goodIn_of _ (by decide +kernel)) ggL_isPolicy_X4_paid
set_option maxRecDepth 20000 in
theorem ggL_isPolicy_X4_deathSum : GoodIn wsL_isPolicy wsX4_deathSum := goodIn_r _ [48, 18, 49, 24, 7, 50, 51, 52, 53, 54, 55, 56, 57, 58, 59, 60, 61, 62, 63, 64, 65, 66, 67, 68, 69, 70, 71, 72, 73, 74, 75, 76, 346, 347, 348, 349, 350, 351, 358, 359, 360, 361, 362, 363, 364, 365, 366, 367] (by decide +kernel) (by decide +kernel)
set_option maxRecDepth 20000 in
theorem gL_isPolicy_X4_deathSum : GoodIn wsL_isPolicy (wsV RL 98 RX4 yX4_deathSum wsX4_deathSum) := goodIn_app (goodIn_of _ (by decide +kernel)) ggL_isPolicy_X4_deathSum
set_option maxRecDepth 20000 in
theorem ggL_isPolicy_L_death : GoodIn wsL_isPolicy wsL_death := goodIn_r _ [80, 81, 82, 83, 79, 84] (by decide +kernel) (by decide +kernel)
set_option maxRecDepth 20000 in
theorem gL_isPolicy_L_death : GoodIn wsL_isPolicy (va_wsS RL 15 yL_death wsL_death) := goodIn_app (goodIn_of _ (by decide +kernel)) ggL_isPolicy_L_death
set_option maxRecDepth 20000 in
theorem ggL_isPolicy_X4_charge : GoodIn wsL_isPolicy wsX4_charge := goodIn_r _ [88, 18, 49, 24, 7, 50, 51, 52, 53, 54, 55, 89, 90, 91, 59, 92, 93, 94, 66, 95, 96, 97, 98, 57, 58, 60, 61, 62, 63, 64, 65, 67, 68, 69, 70, 71, 72, 73, 74, 75, 76, 99, 100, 101, 102, 346, 347, 348, 349, 350, 351, 358, 359, 360, 361, 362, 363, 364, 365, 366, 367] (by decide +kernel) (by decide +kernel)
set_option maxRecDepth 20000 in
theorem gL_isPolicy_X4_charge : GoodIn wsL_isPolicy (wsV RL 101 RX4 yX4_charge wsX4_charge) := goodIn_app (goodIn_of _ (by decide +kernel)) ggL_isPolicy_X4_charge
set_option maxRecDepth 20000 in
theorem ggL_isPolicy_L_charge : GoodIn wsL_isPolicy wsL_charge := goodIn_r _ [105, 106, 77, 78, 79, 80, 81, 82, 83, 84] (by decide +kernel) (by decide +kernel)
set_option maxRecDepth 20000 in
theorem gL_isPolicy_L_charge : GoodIn wsL_isPolicy (va_wsS RL 21 yL_charge wsL_charge) := goodIn_app (goodIn_of _ (by decide +kernel)) ggL_isPolicy_L_charge
set_option maxRecDepth 20000 in
theorem ggL_isPolicy_X4_accountAt : GoodIn wsL_isPolicy wsX4_accountAt := goodIn_ca (goodIn_r _ [110, 111, 112, 7, 113, 114, 24, 115, 116, 117, 118, 119, 120, 121, 122, 123, 124, 125, 126, 127, 128, 129, 130, 131, 132, 133, 134, 135, 136, 137, 346, 347, 348, 349, 350, 351, 358, 359, 360, 361, 362, 363, 364, 368, 369, 370, 371, 372, 373, 374] (by decide +kernel) (by decide +kernel)) (goodIn_sub (fun _ h => List.mem_cons_of_mem _ (List.mem_append_left _ (List.mem_append_left _ (List.mem_append_right _ h)))) (by decide +kernel))
set_option maxRecDepth 20000 in
theorem gL_isPolicy_X4_accountAt : GoodIn wsL_isPolicy (wsV RL 103 RX4 yX4_accountAt wsX4_accountAt) := goodIn_app (goodIn_of _ (by decide +kernel)) ggL_isPolicy_X4_accountAt
set_option maxRecDepth 20000 in
theorem ggL_isPolicy_X4_stateAt : GoodIn wsL_isPolicy wsX4_stateAt := goodIn_ca (goodIn_r _ [141, 111, 112, 7, 113, 114, 19, 115, 116, 117, 118, 119, 120, 121, 122, 123, 124, 125, 126, 127, 128, 129, 130, 131, 132, 133, 134, 135, 136, 137, 346, 347, 348, 349, 350, 351, 358, 359, 360, 361, 362, 363, 364, 368, 369, 370, 371, 372, 373, 374] (by decide +kernel) (by decide +kernel)) (goodIn_sub (fun _ h => List.mem_cons_of_mem _ (List.mem_append_left _ (List.mem_append_left _ (List.mem_append_right _ h)))) (by decide +kernel))
set_option maxRecDepth 20000 in
theorem gL_isPolicy_X4_stateAt : GoodIn wsL_isPolicy (wsV RL 106 RX4 yX4_stateAt wsX4_stateAt) := goodIn_app (goodIn_of _ (by decide +kernel)) ggL_isPolicy_X4_stateAt
