set_option maxRecDepth 20000 in
theorem gL_told_X4_tell : GoodIn wsL_told (wsV RL 54 RX4 yX4_tell wsX4_tell) := goodIn_app (goodIn_of _ (by decide +kernel)) ggL_told_X4_tell
