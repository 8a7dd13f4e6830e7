theorem goodIn_cons {big a : List Cond} {c : Cond} (hc : GoodIn big [c]) (ha : GoodIn big a) : GoodIn big (c :: a) := fun w h => (List.mem_cons.mp h).elim (fun e => hc w (by rw [e]; exact List.mem_cons_self)) (ha w)
set_option maxRecDepth 20000 in
theorem ggL_death_L_corridor : GoodIn wsL_death wsL_corridor := goodIn_r _ [5] (by decide +kernel) (by decide +kernel)
set_option maxRecDepth 20000 in
theorem gL_death_L_corridor : GoodIn wsL_death (va_wsS RL 7 yL_corridor wsL_corridor) := goodIn_app (goodIn_of _ (by decide +kernel)) ggL_death_L_corridor
set_option maxRecDepth 20000 in
theorem ggL_charge_L_death : GoodIn wsL_charge wsL_death := goodIn_r _ [5, 6, 7, 8, 4, 9] (by decide +kernel) (by decide +kernel)
set_option maxRecDepth 20000 in
theorem gL_charge_L_death : GoodIn wsL_charge (va_wsS RL 15 yL_death wsL_death) := goodIn_app (goodIn_of _ (by decide +kernel)) ggL_charge_L_death
set_option maxRecDepth 20000 in
theorem ggL_acts_L_death : GoodIn wsL_acts wsL_death := goodIn_r _ [4, 5, 6, 7, 3, 8] (by decide +kernel) (by decide +kernel)
set_option maxRecDepth 20000 in
theorem gL_acts_L_death : GoodIn wsL_acts (va_wsS RL 15 yL_death wsL_death) := goodIn_app (goodIn_of _ (by decide +kernel)) ggL_acts_L_death
set_option maxRecDepth 20000 in
theorem ggL_closes_L_charge : GoodIn wsL_closes wsL_charge := goodIn_r _ [11, 12, 13, 14, 10, 15, 16, 17, 18, 19] (by decide +kernel) (by decide +kernel)
set_option maxRecDepth 20000 in
theorem gL_closes_L_charge : GoodIn wsL_closes (va_wsS RL 21 yL_charge wsL_charge) := goodIn_app (goodIn_of _ (by decide +kernel)) ggL_closes_L_charge
set_option maxRecDepth 20000 in
theorem ggL_works_L_takes : GoodIn wsL_works wsL_takes := goodIn_r _ [4] (by decide +kernel) (by decide +kernel)
set_option maxRecDepth 20000 in
theorem gL_works_L_takes : GoodIn wsL_works (va_wsS RL 39 yL_takes wsL_takes) := goodIn_app (goodIn_of _ (by decide +kernel)) ggL_works_L_takes
set_option maxRecDepth 20000 in
theorem ggL_works_L_keeps : GoodIn wsL_works wsL_keeps := goodIn_r _ [7] (by decide +kernel) (by decide +kernel)
set_option maxRecDepth 20000 in
theorem gL_works_L_keeps : GoodIn wsL_works (va_wsS RL 43 yL_keeps wsL_keeps) := goodIn_app (goodIn_of _ (by decide +kernel)) ggL_works_L_keeps
set_option maxRecDepth 20000 in
theorem ggL_works_L_acts : GoodIn wsL_works wsL_acts := goodIn_r _ [10, 11, 12, 3, 13, 14, 15, 16, 17] (by decide +kernel) (by decide +kernel)
set_option maxRecDepth 20000 in
theorem gL_works_L_acts : GoodIn wsL_works (va_wsS RL 46 yL_acts wsL_acts) := goodIn_app (goodIn_of _ (by decide +kernel)) ggL_works_L_acts
set_option maxRecDepth 20000 in
theorem ggL_works_L_closes : GoodIn wsL_works wsL_closes := goodIn_r _ [20, 21, 22, 23, 24, 25, 26, 27, 28, 29, 3, 30, 31, 11, 12, 13, 14, 15, 16, 17] (by decide +kernel) (by decide +kernel)
set_option maxRecDepth 20000 in
theorem gL_works_L_closes : GoodIn wsL_works (va_wsS RL 50 yL_closes wsL_closes) := goodIn_app (goodIn_of _ (by decide +kernel)) ggL_works_L_closes
set_option maxRecDepth 20000 in
theorem ggL_lapses_L_acts : GoodIn wsL_lapses wsL_acts := goodIn_r _ [5, 6, 7, 4, 8, 9, 10, 11, 12] (by decide +kernel) (by decide +kernel)
set_option maxRecDepth 20000 in
theorem gL_lapses_L_acts : GoodIn wsL_lapses (va_wsS RL 46 yL_acts wsL_acts) := goodIn_app (goodIn_of _ (by decide +kernel)) ggL_lapses_L_acts
set_option maxRecDepth 20000 in
theorem ggL_lapses_L_closes : GoodIn wsL_lapses wsL_closes := goodIn_r _ [15, 16, 17, 18, 19, 20, 21, 22, 23, 24, 4, 25, 26, 6, 7, 8, 9, 10, 11, 12] (by decide +kernel) (by decide +kernel)
set_option maxRecDepth 20000 in
theorem gL_lapses_L_closes : GoodIn wsL_lapses (va_wsS RL 50 yL_closes wsL_closes) := goodIn_app (goodIn_of _ (by decide +kernel)) ggL_lapses_L_closes
