set_option maxRecDepth 20000 in
theorem gL_isPolicy_X4_accountFromStart : GoodIn wsL_isPolicy (wsV RL 109 RX4 yX4_accountFromStart wsX4_accountFromStart) := goodIn_app (goodIn_of _ (by decide +kernel)) ggL_isPolicy_X4_accountFromStart
set_option maxRecDepth 20000 in
theorem ggL_isPolicy_X4_corridor : GoodIn wsL_isPolicy wsX4_corridor := goodIn_ca (goodIn_r _ [259, 111, 112, 49, 260, 74, 75, 59, 76, 346, 347, 348, 349, 350, 351] (by decide +kernel) (by decide +kernel)) (goodIn_sub (fun _ h => List.mem_cons_of_mem _ (List.mem_append_left _ (List.mem_append_left _ (List.mem_append_right _ h)))) (by decide +kernel))
set_option maxRecDepth 20000 in
theorem gL_isPolicy_X4_corridor : GoodIn wsL_isPolicy (wsV RL 112 RX4 yX4_corridor wsX4_corridor) := goodIn_app (goodIn_of _ (by decide +kernel)) ggL_isPolicy_X4_corridor
set_option maxRecDepth 20000 in
theorem ggL_isPolicy_L_corridor : GoodIn wsL_isPolicy wsL_corridor := goodIn_r _ [84] (by decide +kernel) (by decide +kernel)
set_option maxRecDepth 20000 in
theorem gL_isPolicy_L_corridor : GoodIn wsL_isPolicy (va_wsS RL 7 yL_corridor wsL_corridor) := goodIn_app (goodIn_of _ (by decide +kernel)) ggL_isPolicy_L_corridor
