set_option maxRecDepth 20000 in
theorem ggL_does_X4_strike_q0 : GoodIn wsL_does [Cond.code yX4_strike cX4_strike 3 (some .int)] := goodIn_r _ [7] (by decide +kernel) (by decide +kernel)
set_option maxRecDepth 20000 in
theorem ggL_does_X4_strike_wsX4_strike_r1 : GoodIn wsL_does wsX4_strike_r1 := goodIn_r _ [8, 9, 10, 11, 12, 13, 14, 15, 16, 17, 18, 19, 20, 21, 22, 23, 24, 25, 26, 27, 28, 29, 30, 31] (by decide +kernel) (by decide +kernel)
set_option maxRecDepth 20000 in
theorem ggL_does_X4_strike_wsX4_strike_r2 : GoodIn wsL_does wsX4_strike_r2 := goodIn_r _ [32, 33, 6, 34, 35, 36, 37, 38, 39, 40, 41, 42, 43, 44, 45, 46, 47, 48, 49, 50, 51, 52, 53, 54] (by decide +kernel) (by decide +kernel)
set_option maxRecDepth 20000 in
theorem ggL_does_X4_strike_wsX4_strike_r3 : GoodIn wsL_does wsX4_strike_r3 := goodIn_r _ [55, 56, 57, 58, 59, 60, 61, 62, 63, 64, 65, 66, 67, 68, 69, 70, 71, 72, 73, 74, 75, 76, 77, 78] (by decide +kernel) (by decide +kernel)
set_option maxRecDepth 20000 in
theorem ggL_does_X4_strike_wsX4_strike_r4 : GoodIn wsL_does wsX4_strike_r4 := goodIn_r _ [79, 80, 81, 82, 83, 84, 85, 86, 87, 88, 89, 90, 91, 92, 93, 94, 95, 96, 97, 98, 99, 100, 101, 102] (by decide +kernel) (by decide +kernel)
set_option maxRecDepth 20000 in
theorem ggL_does_X4_strike_wsX4_strike_r5 : GoodIn wsL_does wsX4_strike_r5 := goodIn_r _ [103, 104, 105, 106, 107, 108, 109, 110, 111, 112, 113, 114, 115, 116, 117, 118, 119, 120, 121, 122, 123, 124, 125, 126] (by decide +kernel) (by decide +kernel)
set_option maxRecDepth 20000 in
theorem ggL_does_X4_strike_wsX4_strike_r6 : GoodIn wsL_does wsX4_strike_r6 := goodIn_r _ [127, 128, 129, 130, 131, 132, 133, 134, 135, 136, 137, 138, 139, 140, 141, 142, 143, 144, 145, 146, 147, 148, 149, 150] (by decide +kernel) (by decide +kernel)
set_option maxRecDepth 20000 in
theorem ggL_does_X4_strike_wsX4_strike_r7 : GoodIn wsL_does wsX4_strike_r7 := goodIn_r _ [151, 152, 153, 154, 155, 156, 157, 158, 159, 160, 161, 162, 163, 164, 165, 166, 167, 168, 169, 170, 171, 172, 173, 174] (by decide +kernel) (by decide +kernel)
set_option maxRecDepth 20000 in
theorem ggL_does_X4_strike_wsX4_strike_r8 : GoodIn wsL_does wsX4_strike_r8 := goodIn_r _ [175, 176, 177, 178, 179, 180, 181, 182, 183, 184, 185, 186, 187, 188, 189, 190, 191, 192, 193, 194, 195, 196, 197, 198] (by decide +kernel) (by decide +kernel)
set_option maxRecDepth 20000 in
theorem ggL_does_X4_strike_wsX4_strike_r9 : GoodIn wsL_does wsX4_strike_r9 := goodIn_r _ [199, 200, 201, 202, 203, 204] (by decide +kernel) (by decide +kernel)
set_option maxRecDepth 20000 in
theorem ggL_does_X4_strike_wsX40 : GoodIn wsL_does wsX40 := goodIn_r _ [221, 222, 223, 224, 225, 226] (by decide +kernel) (by decide +kernel)
set_option maxRecDepth 20000 in
theorem ggL_does_X4_strike_wsX00 : GoodIn wsL_does wsX00 := goodIn_r _ [227, 228, 229, 230, 231, 232] (by decide +kernel) (by decide +kernel)
set_option maxRecDepth 20000 in
theorem ggL_does_X4_strike_wsX10 : GoodIn wsL_does wsX10 := goodIn_r _ [233, 234, 235, 236, 237, 238, 239] (by decide +kernel) (by decide +kernel)
set_option maxRecDepth 20000 in
theorem ggL_does_X4_strike_wsX30 : GoodIn wsL_does wsX30 := goodIn_r _ [240, 241, 242, 243, 244, 245, 246] (by decide +kernel) (by decide +kernel)
set_option maxRecDepth 20000 in
theorem ggL_does_X4_strike_wsX20 : GoodIn wsL_does wsX20 := goodIn_r _ [247, 248, 249] (by decide +kernel) (by decide +kernel)
set_option maxRecDepth 20000 in
theorem ggL_does_X4_strike : GoodIn wsL_does wsX4_strike := goodIn_ca (goodIn_cons ggL_does_X4_strike_q0 (goodIn_app (goodIn_app (goodIn_app (goodIn_app (goodIn_app (goodIn_app ggL_does_X4_strike_wsX4_strike_r1 (goodIn_app ggL_does_X4_strike_wsX4_strike_r2 (goodIn_app ggL_does_X4_strike_wsX4_strike_r3 (goodIn_app ggL_does_X4_strike_wsX4_strike_r4 (goodIn_app ggL_does_X4_strike_wsX4_strike_r5 (goodIn_app ggL_does_X4_strike_wsX4_strike_r6 (goodIn_app ggL_does_X4_strike_wsX4_strike_r7 (goodIn_app ggL_does_X4_strike_wsX4_strike_r8 ggL_does_X4_strike_wsX4_strike_r9)))))))) ggL_does_X4_strike_wsX40) ggL_does_X4_strike_wsX00) ggL_does_X4_strike_wsX10) ggL_does_X4_strike_wsX30) ggL_does_X4_strike_wsX20)) (goodIn_sub (fun _ h => List.mem_cons_of_mem _ (List.mem_append_left _ (List.mem_append_left _ (List.mem_append_right _ h)))) (by decide +kernel))
