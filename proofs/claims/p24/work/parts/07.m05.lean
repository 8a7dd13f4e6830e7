set_option maxRecDepth 20000 in
theorem ggL_isPolicy_X4_accountFromStart_q0 : GoodIn wsL_isPolicy [Cond.code yX4_accountFromStart cX4_accountFromStart 3 (some .int)] := goodIn_r _ [145] (by decide +kernel) (by decide +kernel)
set_option maxRecDepth 20000 in
theorem ggL_isPolicy_X4_accountFromStart_wsX4_accountFromStart_r1 : GoodIn wsL_isPolicy wsX4_accountFromStart_r1 := goodIn_r _ [111, 112, 7, 114, 24, 146, 147, 148, 53, 149, 55, 150, 151, 152, 153, 154, 155, 156, 157, 158, 5, 159, 12, 13] (by decide +kernel) (by decide +kernel)
set_option maxRecDepth 20000 in
theorem ggL_isPolicy_X4_accountFromStart_wsX4_accountFromStart_r2 : GoodIn wsL_isPolicy wsX4_accountFromStart_r2 := goodIn_r _ [160, 161, 162, 163, 164, 165, 166, 167, 168, 169, 170, 171, 172, 173, 174, 175, 176, 177, 178, 179, 49, 180, 181, 182] (by decide +kernel) (by decide +kernel)
set_option maxRecDepth 20000 in
theorem ggL_isPolicy_X4_accountFromStart_wsX4_accountFromStart_r3 : GoodIn wsL_isPolicy wsX4_accountFromStart_r3 := goodIn_r _ [183, 184, 185, 186, 187, 188, 189, 190, 191, 192, 193, 194, 195, 196, 197, 198, 199, 66, 200, 201, 51, 52, 54, 202] (by decide +kernel) (by decide +kernel)
set_option maxRecDepth 20000 in
theorem ggL_isPolicy_X4_accountFromStart_wsX4_accountFromStart_r4 : GoodIn wsL_isPolicy wsX4_accountFromStart_r4 := goodIn_r _ [203, 204, 205, 206, 207, 208, 209, 210, 211, 212, 213, 214, 94, 95, 215, 216, 217, 218, 219, 220, 221, 222, 223, 224] (by decide +kernel) (by decide +kernel)
set_option maxRecDepth 20000 in
theorem ggL_isPolicy_X4_accountFromStart_wsX4_accountFromStart_r5 : GoodIn wsL_isPolicy wsX4_accountFromStart_r5 := goodIn_r _ [225, 226, 56, 57, 58, 59, 60, 61, 62, 63, 64, 65, 67, 68, 69, 70, 71, 72, 73, 74, 75, 76, 227, 228] (by decide +kernel) (by decide +kernel)
set_option maxRecDepth 20000 in
theorem ggL_isPolicy_X4_accountFromStart_wsX4_accountFromStart_r6 : GoodIn wsL_isPolicy wsX4_accountFromStart_r6 := goodIn_r _ [229, 230, 231, 232, 233, 234, 50, 89, 90, 91, 92, 93, 96, 97, 98, 99, 100, 101, 102, 235, 236, 237, 238, 239] (by decide +kernel) (by decide +kernel)
set_option maxRecDepth 20000 in
theorem ggL_isPolicy_X4_accountFromStart_wsX4_accountFromStart_r7 : GoodIn wsL_isPolicy wsX4_accountFromStart_r7 := goodIn_r _ [240, 241, 242, 243, 244, 245, 246, 247, 248, 249, 250, 251, 252, 253, 254, 255] (by decide +kernel) (by decide +kernel)
set_option maxRecDepth 20000 in
theorem ggL_isPolicy_X4_accountFromStart_wsX40 : GoodIn wsL_isPolicy wsX40 := goodIn_r _ [346, 347, 348, 349, 350, 351] (by decide +kernel) (by decide +kernel)
set_option maxRecDepth 20000 in
theorem ggL_isPolicy_X4_accountFromStart_wsX30 : GoodIn wsL_isPolicy wsX30 := goodIn_r _ [358, 359, 360, 361, 362, 363, 364] (by decide +kernel) (by decide +kernel)
set_option maxRecDepth 20000 in
theorem ggL_isPolicy_X4_accountFromStart_wsX00 : GoodIn wsL_isPolicy wsX00 := goodIn_r _ [352, 353, 354, 355, 356, 357] (by decide +kernel) (by decide +kernel)
set_option maxRecDepth 20000 in
theorem ggL_isPolicy_X4_accountFromStart_wsX20 : GoodIn wsL_isPolicy wsX20 := goodIn_r _ [365, 366, 367] (by decide +kernel) (by decide +kernel)
set_option maxRecDepth 20000 in
theorem ggL_isPolicy_X4_accountFromStart : GoodIn wsL_isPolicy wsX4_accountFromStart := goodIn_ca (goodIn_cons ggL_isPolicy_X4_accountFromStart_q0 (goodIn_app (goodIn_app (goodIn_app (goodIn_app (goodIn_app ggL_isPolicy_X4_accountFromStart_wsX4_accountFromStart_r1 (goodIn_app ggL_isPolicy_X4_accountFromStart_wsX4_accountFromStart_r2 (goodIn_app ggL_isPolicy_X4_accountFromStart_wsX4_accountFromStart_r3 (goodIn_app ggL_isPolicy_X4_accountFromStart_wsX4_accountFromStart_r4 (goodIn_app ggL_isPolicy_X4_accountFromStart_wsX4_accountFromStart_r5 (goodIn_app ggL_isPolicy_X4_accountFromStart_wsX4_accountFromStart_r6 ggL_isPolicy_X4_accountFromStart_wsX4_accountFromStart_r7)))))) ggL_isPolicy_X4_accountFromStart_wsX40) ggL_isPolicy_X4_accountFromStart_wsX30) ggL_isPolicy_X4_accountFromStart_wsX00) ggL_isPolicy_X4_accountFromStart_wsX20)) (goodIn_sub (fun _ h => List.mem_cons_of_mem _ (List.mem_append_left _ (List.mem_append_left _ (List.mem_append_right _ h)))) (by decide +kernel))
