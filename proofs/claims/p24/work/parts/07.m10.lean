set_option maxRecDepth 20000 in
theorem gL_law_L_isPolicy : GoodIn wsL_law (va_wsS RL 130 yL_isPolicy wsL_isPolicy) := goodIn_app (goodIn_of _ (by decide +kernel)) ggL_law_L_isPolicy
set_option maxRecDepth 20000 in
theorem ggL_law_X4_begin : GoodIn wsL_law wsX4_begin := goodIn_ca (goodIn_r _ [391, 171, 172, 392, 393, 34, 20, 24, 32, 394, 395, 396, 19, 397, 39, 41, 42, 398, 399, 400, 23, 401, 47, 196, 197, 198, 31, 199, 69, 200, 201, 202, 203, 204, 205, 426, 427, 428, 429, 430, 431, 432, 433, 434, 435, 436, 437, 438, 439, 440, 448, 449, 450, 451, 452, 453, 454] (by decide +kernel) (by decide +kernel)) (goodIn_sub (fun _ h => List.mem_append_left _ (List.mem_append_left _ (List.mem_append_right _ h))) (by decide +kernel))
set_option maxRecDepth 20000 in
theorem gL_law_X4_begin : GoodIn wsL_law (wsV RL 138 RX4 yX4_begin wsX4_begin) := goodIn_app (goodIn_of _ (by decide +kernel)) ggL_law_X4_begin
set_option maxRecDepth 20000 in
theorem ggL_law_L_works : GoodIn wsL_law wsL_works := goodIn_r _ [404, 405, 406, 72, 407, 408, 409, 410, 366, 367, 368, 138, 139, 140, 141, 142, 143, 144, 369, 370, 371, 372, 373, 374, 375, 376, 377, 378, 163, 164, 165, 166] (by decide +kernel) (by decide +kernel)
set_option maxRecDepth 20000 in
theorem gL_law_L_works : GoodIn wsL_law (va_wsS RL 143 yL_works wsL_works) := goodIn_app (goodIn_of _ (by decide +kernel)) ggL_law_L_works
