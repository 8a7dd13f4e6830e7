set_option maxRecDepth 20000 in
theorem gL_isPolicy_L_does : GoodIn wsL_isPolicy (va_wsS RL 113 yL_does wsL_does) := goodIn_app (goodIn_of _ (by decide +kernel)) ggL_isPolicy_L_does
set_option maxRecDepth 20000 in
theorem ggL_isPolicy_X4_wouldLapse : GoodIn wsL_isPolicy wsX4_wouldLapse := goodIn_ca (goodIn_r _ [311, 111, 112, 18, 50, 51, 52, 53, 54, 55, 312, 313, 314, 5, 315, 114, 7, 19, 316, 317, 318, 319, 150, 151, 152, 153, 154, 155, 194, 195, 196, 197, 198, 199, 66, 200, 201, 202, 203, 204, 205, 231, 232, 233, 234, 49, 24, 89, 90, 91, 59, 92, 93, 94, 95, 96, 97, 98, 57, 58, 60, 61, 62, 63, 64, 65, 67, 68, 69, 70, 71, 72, 73, 74, 75, 76, 99, 100, 101, 102, 235, 236, 237, 238, 210, 211, 212, 213, 214, 239, 240, 241, 242, 243, 244, 245, 246, 247, 248, 249, 250, 251, 252, 253, 254, 255, 346, 347, 348, 349, 350, 351, 358, 359, 360, 361, 362, 363, 364, 365, 366, 367] (by decide +kernel) (by decide +kernel)) (goodIn_sub (fun _ h => List.mem_cons_of_mem _ (List.mem_append_left _ (List.mem_append_left _ (List.mem_append_right _ h)))) (by decide +kernel))
set_option maxRecDepth 20000 in
theorem gL_isPolicy_X4_wouldLapse : GoodIn wsL_isPolicy (wsV RL 117 RX4 yX4_wouldLapse wsX4_wouldLapse) := goodIn_app (goodIn_of _ (by decide +kernel)) ggL_isPolicy_X4_wouldLapse
set_option maxRecDepth 20000 in
theorem ggL_isPolicy_L_lapses : GoodIn wsL_isPolicy wsL_lapses := goodIn_r _ [322, 323, 324, 325, 79, 326, 77, 78, 80, 81, 82, 83, 84, 327, 328, 329, 330, 331, 332, 333, 334, 335, 336, 103, 104, 105, 106] (by decide +kernel) (by decide +kernel)
set_option maxRecDepth 20000 in
theorem gL_isPolicy_L_lapses : GoodIn wsL_isPolicy (va_wsS RL 120 yL_lapses wsL_lapses) := goodIn_app (goodIn_of _ (by decide +kernel)) ggL_isPolicy_L_lapses
set_option maxRecDepth 20000 in
theorem ggL_isPolicy_X4_needed : GoodIn wsL_isPolicy wsX4_needed := goodIn_ca (goodIn_r _ [340, 111, 112, 18, 341, 50, 51, 52, 53, 54, 55, 312, 313, 314, 5, 315, 114, 7, 19, 316, 317, 318, 319, 150, 151, 152, 153, 154, 155, 194, 195, 196, 197, 198, 199, 66, 200, 201, 202, 203, 204, 205, 231, 232, 233, 234, 49, 24, 89, 90, 91, 59, 92, 93, 94, 95, 96, 97, 98, 57, 58, 60, 61, 62, 63, 64, 65, 67, 68, 69, 70, 71, 72, 73, 74, 75, 76, 99, 100, 101, 102, 235, 236, 237, 238, 210, 211, 212, 213, 214, 239, 240, 241, 242, 243, 244, 245, 246, 247, 248, 249, 250, 251, 252, 253, 254, 255, 342, 343, 344, 345, 346, 347, 348, 349, 350, 351, 358, 359, 360, 361, 362, 363, 364, 365, 366, 367] (by decide +kernel) (by decide +kernel)) (goodIn_sub (fun _ h => List.mem_cons_of_mem _ (List.mem_append_left _ (List.mem_append_left _ (List.mem_append_right _ h)))) (by decide +kernel))
set_option maxRecDepth 20000 in
theorem gL_isPolicy_X4_needed : GoodIn wsL_isPolicy (wsV RL 124 RX4 yX4_needed wsX4_needed) := goodIn_app (goodIn_of _ (by decide +kernel)) ggL_isPolicy_X4_needed
set_option maxRecDepth 20000 in
theorem ggL_law_X4_init : GoodIn wsL_law wsX4_init := goodIn_r _ [13, 14, 15, 16, 17, 18, 19, 20, 21, 22, 23, 24, 25, 26, 27, 28, 29, 30, 31, 32, 33, 34, 35, 36, 37, 38, 39, 40, 41, 42, 43, 44, 45, 46, 47, 3, 48, 49, 50, 51, 52, 53, 54, 55, 56, 57, 58, 59, 60, 61, 62, 63, 64, 65, 66, 67, 68, 69, 432, 433, 434, 426, 427, 428, 429, 430, 431, 435, 436, 437, 438, 439, 440, 441, 442, 443, 444, 445, 446, 447, 448, 449, 450, 451, 452, 453, 454] (by decide +kernel) (by decide +kernel)
set_option maxRecDepth 20000 in
theorem gL_law_X4_init : GoodIn wsL_law (wsX4_init) := ggL_law_X4_init
