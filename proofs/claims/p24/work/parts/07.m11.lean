set_option maxRecDepth 20000 in
theorem ggL_law_L_told_q0 : GoodIn wsL_law [Cond.codeWith yL_told cL_told 5 (some .int) [(0, 15, 16, 60)]] := goodIn_r _ [413] (by decide +kernel) (by decide +kernel)
set_option maxRecDepth 20000 in
theorem ggL_law_L_told_wsL_told_r1 : GoodIn wsL_law wsL_told_r1 := goodIn_r _ [309, 414, 415, 416, 2, 417, 171, 172, 349, 350, 34, 383, 24, 32, 418, 419, 420, 23, 421, 47, 422, 423, 424, 425] (by decide +kernel) (by decide +kernel)
set_option maxRecDepth 20000 in
theorem ggL_law_L_told_wsL_told_r2 : GoodIn wsL_law wsL_told_r2 := goodIn_r _ [48, 49, 50, 52, 222, 223, 224, 225, 20, 92, 226, 227, 228, 229, 218, 219, 220, 221, 230, 231, 232, 233, 234, 235] (by decide +kernel) (by decide +kernel)
set_option maxRecDepth 20000 in
theorem ggL_law_L_told_wsL_told_r3 : GoodIn wsL_law wsL_told_r3 := goodIn_r _ [236, 237, 238, 239, 240, 31, 241, 202, 242, 243, 128, 244, 200, 245, 118, 119, 120, 69, 246, 247, 248, 249, 203, 250] (by decide +kernel) (by decide +kernel)
set_option maxRecDepth 20000 in
theorem ggL_law_L_told_wsL_told_r4 : GoodIn wsL_law wsL_told_r4 := goodIn_r _ [251, 252, 253, 201, 254, 255, 256, 257, 258, 154, 155, 259, 260, 261, 262, 263, 264, 265, 266, 267, 268, 269, 270, 204] (by decide +kernel) (by decide +kernel)
set_option maxRecDepth 20000 in
theorem ggL_law_L_told_wsL_told_r5 : GoodIn wsL_law wsL_told_r5 := goodIn_r _ [121, 122, 123, 19, 124, 42, 41, 125, 126, 127, 129, 130, 131, 132, 133, 39, 134, 135, 136, 137, 271, 272, 273, 274] (by decide +kernel) (by decide +kernel)
set_option maxRecDepth 20000 in
theorem ggL_law_L_told_wsL_told_r6 : GoodIn wsL_law wsL_told_r6 := goodIn_r _ [205, 329, 330, 331, 332, 53, 321, 322, 323, 324, 28, 173, 174, 175, 27, 176, 58, 177, 59, 178, 60, 179, 61, 180] (by decide +kernel) (by decide +kernel)
set_option maxRecDepth 20000 in
theorem ggL_law_L_told_wsL_told_r7 : GoodIn wsL_law wsL_told_r7 := goodIn_r _ [62, 181, 63, 182, 64, 183, 184, 185, 186, 187, 325, 326, 327, 328, 82, 210, 211, 212, 213, 214, 215, 216, 217, 275] (by decide +kernel) (by decide +kernel)
set_option maxRecDepth 20000 in
theorem ggL_law_L_told_wsL_told_r8 : GoodIn wsL_law wsL_told_r8 := goodIn_r _ [276, 277, 278, 117, 149, 150, 151, 152, 153, 156, 157, 158, 159, 160, 161, 162, 279, 280, 281, 282, 283, 284, 285, 286] (by decide +kernel) (by decide +kernel)
set_option maxRecDepth 20000 in
theorem ggL_law_L_told_wsL_told_r9 : GoodIn wsL_law wsL_told_r9 := goodIn_r _ [287, 288, 289, 290, 291, 292, 293, 294, 295, 296, 297, 298, 299, 333, 334, 335, 336, 341, 342, 343, 344] (by decide +kernel) (by decide +kernel)
set_option maxRecDepth 20000 in
theorem ggL_law_L_told_wsX40 : GoodIn wsL_law wsX40 := goodIn_r _ [426, 427, 428, 429, 430, 431] (by decide +kernel) (by decide +kernel)
set_option maxRecDepth 20000 in
theorem ggL_law_L_told_wsX00 : GoodIn wsL_law wsX00 := goodIn_r _ [435, 436, 437, 438, 439, 440] (by decide +kernel) (by decide +kernel)
set_option maxRecDepth 20000 in
theorem ggL_law_L_told_wsX30 : GoodIn wsL_law wsX30 := goodIn_r _ [448, 449, 450, 451, 452, 453, 454] (by decide +kernel) (by decide +kernel)
set_option maxRecDepth 20000 in
theorem ggL_law_L_told_wsX20 : GoodIn wsL_law wsX20 := goodIn_r _ [432, 433, 434] (by decide +kernel) (by decide +kernel)
set_option maxRecDepth 20000 in
theorem ggL_law_L_told_wsX10 : GoodIn wsL_law wsX10 := goodIn_r _ [441, 442, 443, 444, 445, 446, 447] (by decide +kernel) (by decide +kernel)
set_option maxRecDepth 20000 in
theorem ggL_law_L_told : GoodIn wsL_law wsL_told := goodIn_ca (goodIn_ca (goodIn_cons ggL_law_L_told_q0 (goodIn_app (goodIn_app (goodIn_app (goodIn_app (goodIn_app (goodIn_app ggL_law_L_told_wsL_told_r1 (goodIn_app ggL_law_L_told_wsL_told_r2 (goodIn_app ggL_law_L_told_wsL_told_r3 (goodIn_app ggL_law_L_told_wsL_told_r4 (goodIn_app ggL_law_L_told_wsL_told_r5 (goodIn_app ggL_law_L_told_wsL_told_r6 (goodIn_app ggL_law_L_told_wsL_told_r7 (goodIn_app ggL_law_L_told_wsL_told_r8 ggL_law_L_told_wsL_told_r9)))))))) ggL_law_L_told_wsX40) ggL_law_L_told_wsX00) ggL_law_L_told_wsX30) ggL_law_L_told_wsX20) ggL_law_L_told_wsX10)) (goodIn_sub (fun _ h => List.mem_append_left _ (List.mem_append_left _ (List.mem_append_right _ h))) (by decide +kernel))) (goodIn_sub (fun _ h => List.mem_append_right _ h) (by decide +kernel))
