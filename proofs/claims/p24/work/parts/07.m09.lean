set_option maxRecDepth 20000 in
theorem ggL_law_L_isPolicy_q0 : GoodIn wsL_law [Cond.code yL_isPolicy cL_isPolicy 14 (some .boolean)] := goodIn_r _ [73] (by decide +kernel) (by decide +kernel)
set_option maxRecDepth 20000 in
theorem ggL_law_L_isPolicy_wsL_isPolicy_r1 : GoodIn wsL_law wsL_isPolicy_r1 := goodIn_r _ [9, 74, 75, 76, 2, 77, 34, 78, 79, 80, 81, 24, 82, 83, 84, 85, 86, 32, 87, 88, 89, 90, 91, 92] (by decide +kernel) (by decide +kernel)
set_option maxRecDepth 20000 in
theorem ggL_law_L_isPolicy_wsL_isPolicy_r2 : GoodIn wsL_law wsL_isPolicy_r2 := goodIn_r _ [93, 94, 95, 96, 97, 98, 99, 100, 101, 102, 103, 104, 105, 106, 107, 108, 109, 110, 111, 112, 113, 114, 115, 116] (by decide +kernel) (by decide +kernel)
set_option maxRecDepth 20000 in
theorem ggL_law_L_isPolicy_wsL_isPolicy_r3 : GoodIn wsL_law wsL_isPolicy_r3 := goodIn_r _ [20, 117, 118, 119, 31, 120, 69, 121, 122, 123, 19, 124, 42, 41, 125, 126, 127, 128, 129, 130, 131, 132, 133, 39] (by decide +kernel) (by decide +kernel)
set_option maxRecDepth 20000 in
theorem ggL_law_L_isPolicy_wsL_isPolicy_r4 : GoodIn wsL_law wsL_isPolicy_r4 := goodIn_r _ [134, 135, 136, 137, 138, 139, 72, 140, 141, 142, 143, 144, 145, 146, 147, 148, 149, 150, 151, 152, 153, 154, 155, 156] (by decide +kernel) (by decide +kernel)
set_option maxRecDepth 20000 in
theorem ggL_law_L_isPolicy_wsL_isPolicy_r5 : GoodIn wsL_law wsL_isPolicy_r5 := goodIn_r _ [157, 158, 159, 160, 161, 162, 163, 164, 165, 166, 167, 168, 169, 170, 171, 172, 28, 33, 173, 174, 175, 27, 176, 58] (by decide +kernel) (by decide +kernel)
set_option maxRecDepth 20000 in
theorem ggL_law_L_isPolicy_wsL_isPolicy_r6 : GoodIn wsL_law wsL_isPolicy_r6 := goodIn_r _ [177, 59, 178, 60, 179, 61, 180, 62, 181, 63, 182, 64, 183, 184, 185, 186, 187, 188, 189, 190, 191, 192, 193, 194] (by decide +kernel) (by decide +kernel)
set_option maxRecDepth 20000 in
theorem ggL_law_L_isPolicy_wsL_isPolicy_r7 : GoodIn wsL_law wsL_isPolicy_r7 := goodIn_r _ [195, 196, 197, 198, 199, 200, 201, 202, 203, 204, 205, 206, 207, 208, 209, 210, 211, 212, 23, 213, 48, 214, 215, 216] (by decide +kernel) (by decide +kernel)
set_option maxRecDepth 20000 in
theorem ggL_law_L_isPolicy_wsL_isPolicy_r8 : GoodIn wsL_law wsL_isPolicy_r8 := goodIn_r _ [217, 52, 218, 219, 220, 221, 47, 222, 223, 224, 225, 226, 227, 228, 229, 230, 231, 232, 233, 50, 234, 235, 236, 237] (by decide +kernel) (by decide +kernel)
set_option maxRecDepth 20000 in
theorem ggL_law_L_isPolicy_wsL_isPolicy_r9 : GoodIn wsL_law wsL_isPolicy_r9 := goodIn_r _ [49, 238, 239, 240, 241, 242, 243, 244, 245, 246, 247, 248, 249, 250, 251, 252, 253, 254, 255, 256, 257, 258, 259, 260] (by decide +kernel) (by decide +kernel)
set_option maxRecDepth 20000 in
theorem ggL_law_L_isPolicy_wsL_isPolicy_r10 : GoodIn wsL_law wsL_isPolicy_r10 := goodIn_r _ [261, 262, 263, 264, 265, 266, 267, 268, 269, 270, 271, 272, 273, 274, 275, 276, 277, 278, 279, 280, 281, 282, 283, 284] (by decide +kernel) (by decide +kernel)
set_option maxRecDepth 20000 in
theorem ggL_law_L_isPolicy_wsL_isPolicy_r11 : GoodIn wsL_law wsL_isPolicy_r11 := goodIn_r _ [285, 286, 287, 288, 289, 290, 291, 292, 293, 294, 295, 296, 297, 298, 299, 300, 301, 302, 303, 304, 305, 306, 307, 308] (by decide +kernel) (by decide +kernel)
set_option maxRecDepth 20000 in
theorem ggL_law_L_isPolicy_wsL_isPolicy_r12 : GoodIn wsL_law wsL_isPolicy_r12 := goodIn_r _ [309, 310, 311, 312, 313, 314, 315, 316, 317, 318, 319, 320, 321, 322, 323, 324, 325, 326, 327, 328, 329, 330, 331, 332] (by decide +kernel) (by decide +kernel)
set_option maxRecDepth 20000 in
theorem ggL_law_L_isPolicy_wsL_isPolicy_r13 : GoodIn wsL_law wsL_isPolicy_r13 := goodIn_r _ [53, 333, 334, 335, 336, 337, 338, 339, 340, 341, 342, 343, 344, 345, 346, 347, 348, 349, 350, 351, 352, 353, 354, 355] (by decide +kernel) (by decide +kernel)
set_option maxRecDepth 20000 in
theorem ggL_law_L_isPolicy_wsL_isPolicy_r14 : GoodIn wsL_law wsL_isPolicy_r14 := goodIn_r _ [356, 357, 358, 359, 360, 361, 362, 363, 364, 365, 3, 366, 367, 368, 369, 370, 371, 372, 373, 374, 375, 376, 377, 378] (by decide +kernel) (by decide +kernel)
set_option maxRecDepth 20000 in
theorem ggL_law_L_isPolicy_wsL_isPolicy_r15 : GoodIn wsL_law wsL_isPolicy_r15 := goodIn_r _ [379, 380, 381, 382, 383, 384, 385, 386, 387] (by decide +kernel) (by decide +kernel)
set_option maxRecDepth 20000 in
theorem ggL_law_L_isPolicy_wsX40 : GoodIn wsL_law wsX40 := goodIn_r _ [426, 427, 428, 429, 430, 431] (by decide +kernel) (by decide +kernel)
set_option maxRecDepth 20000 in
theorem ggL_law_L_isPolicy_wsX00 : GoodIn wsL_law wsX00 := goodIn_r _ [435, 436, 437, 438, 439, 440] (by decide +kernel) (by decide +kernel)
set_option maxRecDepth 20000 in
theorem ggL_law_L_isPolicy_wsX30 : GoodIn wsL_law wsX30 := goodIn_r _ [448, 449, 450, 451, 452, 453, 454] (by decide +kernel) (by decide +kernel)
set_option maxRecDepth 20000 in
theorem ggL_law_L_isPolicy_wsX20 : GoodIn wsL_law wsX20 := goodIn_r _ [432, 433, 434] (by decide +kernel) (by decide +kernel)
set_option maxRecDepth 20000 in
theorem ggL_law_L_isPolicy_wsX10 : GoodIn wsL_law wsX10 := goodIn_r _ [441, 442, 443, 444, 445, 446, 447] (by decide +kernel) (by decide +kernel)
set_option maxRecDepth 20000 in
theorem ggL_law_L_isPolicy : GoodIn wsL_law wsL_isPolicy := goodIn_ca (goodIn_ca (goodIn_ca (goodIn_cons ggL_law_L_isPolicy_q0 (goodIn_app (goodIn_app (goodIn_app (goodIn_app (goodIn_app (goodIn_app ggL_law_L_isPolicy_wsL_isPolicy_r1 (goodIn_app ggL_law_L_isPolicy_wsL_isPolicy_r2 (goodIn_app ggL_law_L_isPolicy_wsL_isPolicy_r3 (goodIn_app ggL_law_L_isPolicy_wsL_isPolicy_r4 (goodIn_app ggL_law_L_isPolicy_wsL_isPolicy_r5 (goodIn_app ggL_law_L_isPolicy_wsL_isPolicy_r6 (goodIn_app ggL_law_L_isPolicy_wsL_isPolicy_r7 (goodIn_app ggL_law_L_isPolicy_wsL_isPolicy_r8 (goodIn_app ggL_law_L_isPolicy_wsL_isPolicy_r9 (goodIn_app ggL_law_L_isPolicy_wsL_isPolicy_r10 (goodIn_app ggL_law_L_isPolicy_wsL_isPolicy_r11 (goodIn_app ggL_law_L_isPolicy_wsL_isPolicy_r12 (goodIn_app ggL_law_L_isPolicy_wsL_isPolicy_r13 (goodIn_app ggL_law_L_isPolicy_wsL_isPolicy_r14 ggL_law_L_isPolicy_wsL_isPolicy_r15)))))))))))))) ggL_law_L_isPolicy_wsX40) ggL_law_L_isPolicy_wsX00) ggL_law_L_isPolicy_wsX30) ggL_law_L_isPolicy_wsX20) ggL_law_L_isPolicy_wsX10)) (goodIn_sub (fun _ h => List.mem_append_left _ (List.mem_append_left _ (List.mem_append_right _ h))) (by decide +kernel))) (goodIn_sub (fun _ h => List.mem_append_left _ (List.mem_append_right _ h)) (by decide +kernel))) (goodIn_sub (fun _ h => List.mem_append_right _ h) (by decide +kernel))
