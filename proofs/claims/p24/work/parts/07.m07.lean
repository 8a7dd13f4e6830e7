set_option maxRecDepth 20000 in
theorem ggL_isPolicy_L_does_q0 : GoodIn wsL_isPolicy [Cond.codeWith yL_does cL_does 4 (some .int) [(0, 38, 39, 72), (0, 38, 43, 60)]] := goodIn_r _ [263] (by decide +kernel) (by decide +kernel)
set_option maxRecDepth 20000 in
theorem ggL_isPolicy_L_does_wsL_does_r1 : GoodIn wsL_isPolicy wsL_does_r1 := goodIn_r _ [264, 265, 266, 267, 268, 5, 269, 270, 271, 12, 272, 167, 168, 163, 169, 170, 171, 172, 173, 174, 175, 180, 181, 182] (by decide +kernel) (by decide +kernel)
set_option maxRecDepth 20000 in
theorem ggL_isPolicy_L_does_wsL_does_r2 : GoodIn wsL_isPolicy wsL_does_r2 := goodIn_r _ [183, 165, 273, 274, 275, 276, 277, 278, 279, 280, 113, 18, 7, 115, 116, 117, 118, 119, 120, 121, 122, 123, 124, 125] (by decide +kernel) (by decide +kernel)
set_option maxRecDepth 20000 in
theorem ggL_isPolicy_L_does_wsL_does_r3 : GoodIn wsL_isPolicy wsL_does_r3 := goodIn_r _ [126, 127, 128, 129, 130, 131, 132, 133, 134, 135, 136, 137, 281, 282, 283, 284, 13, 160, 161, 162, 164, 166, 176, 177] (by decide +kernel) (by decide +kernel)
set_option maxRecDepth 20000 in
theorem ggL_isPolicy_L_does_wsL_does_r4 : GoodIn wsL_isPolicy wsL_does_r4 := goodIn_r _ [178, 179, 49, 24, 184, 185, 186, 187, 188, 189, 190, 191, 192, 193, 194, 195, 196, 53, 197, 152, 198, 199, 66, 200] (by decide +kernel) (by decide +kernel)
set_option maxRecDepth 20000 in
theorem ggL_isPolicy_L_does_wsL_does_r5 : GoodIn wsL_isPolicy wsL_does_r5 := goodIn_r _ [150, 201, 51, 52, 54, 55, 202, 203, 204, 205, 153, 206, 207, 208, 209, 151, 210, 211, 212, 213, 214, 94, 95, 215] (by decide +kernel) (by decide +kernel)
set_option maxRecDepth 20000 in
theorem ggL_isPolicy_L_does_wsL_does_r6 : GoodIn wsL_isPolicy wsL_does_r6 := goodIn_r _ [216, 217, 218, 219, 220, 221, 222, 223, 224, 225, 226, 154, 56, 57, 58, 59, 60, 61, 62, 63, 64, 65, 67, 68] (by decide +kernel) (by decide +kernel)
set_option maxRecDepth 20000 in
theorem ggL_isPolicy_L_does_wsL_does_r7 : GoodIn wsL_isPolicy wsL_does_r7 := goodIn_r _ [69, 70, 71, 72, 73, 74, 75, 76, 227, 228, 229, 230, 155, 285, 286, 287, 288, 289, 231, 232, 233, 234, 50, 89] (by decide +kernel) (by decide +kernel)
set_option maxRecDepth 20000 in
theorem ggL_isPolicy_L_does_wsL_does_r8 : GoodIn wsL_isPolicy wsL_does_r8 := goodIn_r _ [90, 91, 92, 93, 96, 97, 98, 99, 100, 101, 102, 235, 236, 237, 238, 239, 240, 241, 242, 243, 244, 245, 246, 247] (by decide +kernel) (by decide +kernel)
set_option maxRecDepth 20000 in
theorem ggL_isPolicy_L_does_wsL_does_r9 : GoodIn wsL_isPolicy wsL_does_r9 := goodIn_r _ [248, 249, 250, 251, 252, 253, 254, 255, 290, 291, 292, 293, 294, 295, 296, 297, 298, 299, 300, 301, 302, 303, 304, 305] (by decide +kernel) (by decide +kernel)
set_option maxRecDepth 20000 in
theorem ggL_isPolicy_L_does_wsL_does_r10 : GoodIn wsL_isPolicy wsL_does_r10 := goodIn_r _ [111, 112, 306, 307] (by decide +kernel) (by decide +kernel)
set_option maxRecDepth 20000 in
theorem ggL_isPolicy_L_does_wsX40 : GoodIn wsL_isPolicy wsX40 := goodIn_r _ [346, 347, 348, 349, 350, 351] (by decide +kernel) (by decide +kernel)
set_option maxRecDepth 20000 in
theorem ggL_isPolicy_L_does_wsX00 : GoodIn wsL_isPolicy wsX00 := goodIn_r _ [352, 353, 354, 355, 356, 357] (by decide +kernel) (by decide +kernel)
set_option maxRecDepth 20000 in
theorem ggL_isPolicy_L_does_wsX10 : GoodIn wsL_isPolicy wsX10 := goodIn_r _ [368, 369, 370, 371, 372, 373, 374] (by decide +kernel) (by decide +kernel)
set_option maxRecDepth 20000 in
theorem ggL_isPolicy_L_does_wsX30 : GoodIn wsL_isPolicy wsX30 := goodIn_r _ [358, 359, 360, 361, 362, 363, 364] (by decide +kernel) (by decide +kernel)
set_option maxRecDepth 20000 in
theorem ggL_isPolicy_L_does_wsX20 : GoodIn wsL_isPolicy wsX20 := goodIn_r _ [365, 366, 367] (by decide +kernel) (by decide +kernel)
set_option maxRecDepth 20000 in
theorem ggL_isPolicy_L_does : GoodIn wsL_isPolicy wsL_does := goodIn_ca (goodIn_ca (goodIn_ca (goodIn_cons ggL_isPolicy_L_does_q0 (goodIn_app (goodIn_app (goodIn_app (goodIn_app (goodIn_app (goodIn_app ggL_isPolicy_L_does_wsL_does_r1 (goodIn_app ggL_isPolicy_L_does_wsL_does_r2 (goodIn_app ggL_isPolicy_L_does_wsL_does_r3 (goodIn_app ggL_isPolicy_L_does_wsL_does_r4 (goodIn_app ggL_isPolicy_L_does_wsL_does_r5 (goodIn_app ggL_isPolicy_L_does_wsL_does_r6 (goodIn_app ggL_isPolicy_L_does_wsL_does_r7 (goodIn_app ggL_isPolicy_L_does_wsL_does_r8 (goodIn_app ggL_isPolicy_L_does_wsL_does_r9 ggL_isPolicy_L_does_wsL_does_r10))))))))) ggL_isPolicy_L_does_wsX40) ggL_isPolicy_L_does_wsX00) ggL_isPolicy_L_does_wsX10) ggL_isPolicy_L_does_wsX30) ggL_isPolicy_L_does_wsX20)) (goodIn_sub (fun _ h => List.mem_cons_of_mem _ (List.mem_append_left _ (List.mem_append_right _ h))) (by decide +kernel))) (goodIn_sub (fun _ h => List.mem_cons_of_mem _ (List.mem_append_left _ (List.mem_append_left _ (List.mem_append_right _ h)))) (by decide +kernel))) (goodIn_sub (fun _ h => List.mem_cons_of_mem _ (List.mem_append_right _ h)) (by decide +kernel))
