set_option maxRecDepth 20000 in
theorem ggL_law_L_does_q0 : GoodIn wsL_law [Cond.codeWith yL_does cL_does 4 (some .int) [(0, 38, 39, 72), (0, 38, 43, 60)]] := goodIn_r _ [307] (by decide +kernel) (by decide +kernel)
set_option maxRecDepth 20000 in
theorem ggL_law_L_does_wsL_does_r1 : GoodIn wsL_law wsL_does_r1 := goodIn_r _ [308, 309, 310, 311, 312, 2, 313, 314, 315, 24, 316, 215, 216, 23, 217, 52, 218, 219, 220, 221, 47, 226, 227, 228] (by decide +kernel) (by decide +kernel)
set_option maxRecDepth 20000 in
theorem ggL_law_L_does_wsL_does_r2 : GoodIn wsL_law wsL_does_r2 := goodIn_r _ [229, 48, 317, 318, 319, 320, 321, 322, 323, 324, 28, 32, 34, 173, 174, 175, 27, 176, 58, 177, 59, 178, 60, 179] (by decide +kernel) (by decide +kernel)
set_option maxRecDepth 20000 in
theorem ggL_law_L_does_wsL_does_r3 : GoodIn wsL_law wsL_does_r3 := goodIn_r _ [61, 180, 62, 181, 63, 182, 64, 183, 184, 185, 186, 187, 325, 326, 327, 328, 82, 210, 211, 212, 213, 214, 222, 223] (by decide +kernel) (by decide +kernel)
set_option maxRecDepth 20000 in
theorem ggL_law_L_does_wsL_does_r4 : GoodIn wsL_law wsL_does_r4 := goodIn_r _ [224, 225, 20, 92, 230, 231, 232, 233, 50, 234, 235, 236, 237, 49, 238, 239, 240, 31, 241, 202, 242, 243, 128, 244] (by decide +kernel) (by decide +kernel)
set_option maxRecDepth 20000 in
theorem ggL_law_L_does_wsL_does_r5 : GoodIn wsL_law wsL_does_r5 := goodIn_r _ [200, 245, 118, 119, 120, 69, 246, 247, 248, 249, 203, 250, 251, 252, 253, 201, 254, 255, 256, 257, 258, 154, 155, 259] (by decide +kernel) (by decide +kernel)
set_option maxRecDepth 20000 in
theorem ggL_law_L_does_wsL_does_r6 : GoodIn wsL_law wsL_does_r6 := goodIn_r _ [260, 261, 262, 263, 264, 265, 266, 267, 268, 269, 270, 204, 121, 122, 123, 19, 124, 42, 41, 125, 126, 127, 129, 130] (by decide +kernel) (by decide +kernel)
set_option maxRecDepth 20000 in
theorem ggL_law_L_does_wsL_does_r7 : GoodIn wsL_law wsL_does_r7 := goodIn_r _ [131, 132, 133, 39, 134, 135, 136, 137, 271, 272, 273, 274, 205, 329, 330, 331, 332, 53, 275, 276, 277, 278, 117, 149] (by decide +kernel) (by decide +kernel)
set_option maxRecDepth 20000 in
theorem ggL_law_L_does_wsL_does_r8 : GoodIn wsL_law wsL_does_r8 := goodIn_r _ [150, 151, 152, 153, 156, 157, 158, 159, 160, 161, 162, 279, 280, 281, 282, 283, 284, 285, 286, 287, 288, 289, 290, 291] (by decide +kernel) (by decide +kernel)
set_option maxRecDepth 20000 in
theorem ggL_law_L_does_wsL_does_r9 : GoodIn wsL_law wsL_does_r9 := goodIn_r _ [292, 293, 294, 295, 296, 297, 298, 299, 333, 334, 335, 336, 337, 338, 339, 340, 341, 342, 343, 344, 345, 346, 347, 348] (by decide +kernel) (by decide +kernel)
set_option maxRecDepth 20000 in
theorem ggL_law_L_does_wsL_does_r10 : GoodIn wsL_law wsL_does_r10 := goodIn_r _ [171, 172, 349, 350] (by decide +kernel) (by decide +kernel)
set_option maxRecDepth 20000 in
theorem ggL_law_L_does_wsX40 : GoodIn wsL_law wsX40 := goodIn_r _ [426, 427, 428, 429, 430, 431] (by decide +kernel) (by decide +kernel)
set_option maxRecDepth 20000 in
theorem ggL_law_L_does_wsX00 : GoodIn wsL_law wsX00 := goodIn_r _ [435, 436, 437, 438, 439, 440] (by decide +kernel) (by decide +kernel)
set_option maxRecDepth 20000 in
theorem ggL_law_L_does_wsX10 : GoodIn wsL_law wsX10 := goodIn_r _ [441, 442, 443, 444, 445, 446, 447] (by decide +kernel) (by decide +kernel)
set_option maxRecDepth 20000 in
theorem ggL_law_L_does_wsX30 : GoodIn wsL_law wsX30 := goodIn_r _ [448, 449, 450, 451, 452, 453, 454] (by decide +kernel) (by decide +kernel)
set_option maxRecDepth 20000 in
theorem ggL_law_L_does_wsX20 : GoodIn wsL_law wsX20 := goodIn_r _ [432, 433, 434] (by decide +kernel) (by decide +kernel)
set_option maxRecDepth 20000 in
theorem ggL_law_L_does : GoodIn wsL_law wsL_does := goodIn_ca (goodIn_ca (goodIn_ca (goodIn_cons ggL_law_L_does_q0 (goodIn_app (goodIn_app (goodIn_app (goodIn_app (goodIn_app (goodIn_app ggL_law_L_does_wsL_does_r1 (goodIn_app ggL_law_L_does_wsL_does_r2 (goodIn_app ggL_law_L_does_wsL_does_r3 (goodIn_app ggL_law_L_does_wsL_does_r4 (goodIn_app ggL_law_L_does_wsL_does_r5 (goodIn_app ggL_law_L_does_wsL_does_r6 (goodIn_app ggL_law_L_does_wsL_does_r7 (goodIn_app ggL_law_L_does_wsL_does_r8 (goodIn_app ggL_law_L_does_wsL_does_r9 ggL_law_L_does_wsL_does_r10))))))))) ggL_law_L_does_wsX40) ggL_law_L_does_wsX00) ggL_law_L_does_wsX10) ggL_law_L_does_wsX30) ggL_law_L_does_wsX20)) (goodIn_sub (fun _ h => List.mem_append_left _ (List.mem_append_right _ h)) (by decide +kernel))) (goodIn_sub (fun _ h => List.mem_append_left _ (List.mem_append_left _ (List.mem_append_right _ h))) (by decide +kernel))) (goodIn_sub (fun _ h => List.mem_append_right _ h) (by decide +kernel))
