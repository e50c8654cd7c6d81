set_option maxRecDepth 20000 in
theorem ggL_charge_X9_charge : GoodIn wsL_charge wsX9_charge := goodIn_m (subW_ca (subW_q _ [(6, 35)] (by exact rfl)) ((fun _ h => List.mem_cons_of_mem _ (List.mem_append_right _ h)))) gwd_X9_charge
set_option maxRecDepth 20000 in
theorem gL_charge_X9_charge : GoodIn wsL_charge (wsV RL 7 RX9 yX9_charge wsX9_charge) := goodIn_app (goodIn_r _ [2, 3, 4, 5] (by exact rfl) (by decide +kernel)) ggL_charge_X9_charge
set_option maxRecDepth 20000 in
theorem ggL_feed_X9_feed : GoodIn wsL_feed wsX9_feed := goodIn_m (subW_ca (subW_ca (subW_q _ [(7, 13), (6, 1), (20, 32)] (by exact rfl)) ((fun _ h => List.mem_cons_of_mem _ (List.mem_append_left _ (List.mem_append_right _ h))))) ((fun _ h => List.mem_cons_of_mem _ (List.mem_append_right _ h)))) gwd_X9_feed
set_option maxRecDepth 20000 in
theorem gL_feed_X9_feed : GoodIn wsL_feed (wsV RL 15 RX9 yX9_feed wsX9_feed) := goodIn_app (goodIn_r _ [3, 4, 5, 6] (by exact rfl) (by decide +kernel)) ggL_feed_X9_feed
set_option maxRecDepth 20000 in
theorem ggL_lime_X9_lime : GoodIn wsL_lime wsX9_lime := goodIn_m (subW_ca (subW_q _ [(6, 41)] (by exact rfl)) ((fun _ h => List.mem_cons_of_mem _ (List.mem_append_right _ h)))) gwd_X9_lime
set_option maxRecDepth 20000 in
theorem gL_lime_X9_lime : GoodIn wsL_lime (wsV RL 20 RX9 yX9_lime wsX9_lime) := goodIn_app (goodIn_r _ [2, 3, 4, 5] (by exact rfl) (by decide +kernel)) ggL_lime_X9_lime
set_option maxRecDepth 20000 in
theorem ggL_treat_X9_treat : GoodIn wsL_treat wsX9_treat := goodIn_m (subW_ca (subW_ca (subW_q _ [(7, 6), (6, 1), (13, 61)] (by exact rfl)) ((fun _ h => List.mem_cons_of_mem _ (List.mem_append_left _ (List.mem_append_right _ h))))) ((fun _ h => List.mem_cons_of_mem _ (List.mem_append_right _ h)))) gwd_X9_treat
set_option maxRecDepth 20000 in
theorem gL_treat_X9_treat : GoodIn wsL_treat (wsV RL 31 RX9 yX9_treat wsX9_treat) := goodIn_app (goodIn_r _ [3, 4, 5, 6] (by exact rfl) (by decide +kernel)) ggL_treat_X9_treat
set_option maxRecDepth 20000 in
theorem ggL_plan_X9_plan : GoodIn wsL_plan wsX9_plan := goodIn_m (subW_ca (subW_ca (subW_ca (subW_q _ [(7, 6), (6, 1), (13, 128)] (by exact rfl)) ((fun _ h => List.mem_cons_of_mem _ (List.mem_append_left _ (List.mem_append_left _ (List.mem_append_right _ h)))))) ((fun _ h => List.mem_cons_of_mem _ (List.mem_append_left _ (List.mem_append_right _ h))))) ((fun _ h => List.mem_cons_of_mem _ (List.mem_append_right _ h)))) gwd_X9_plan
set_option maxRecDepth 20000 in
theorem gL_plan_X9_plan : GoodIn wsL_plan (wsV RL 46 RX9 yX9_plan wsX9_plan) := goodIn_app (goodIn_r _ [3, 4, 5, 6] (by exact rfl) (by decide +kernel)) ggL_plan_X9_plan
set_option maxRecDepth 20000 in
theorem ggL_planned_X9_planned : GoodIn wsL_planned wsX9_planned := goodIn_m (subW_ca (subW_q _ [(6, 28)] (by exact rfl)) ((fun _ h => List.mem_cons_of_mem _ (List.mem_append_right _ h)))) gwd_X9_planned
set_option maxRecDepth 20000 in
theorem gL_planned_X9_planned : GoodIn wsL_planned (wsV RL 50 RX9 yX9_planned wsX9_planned) := goodIn_app (goodIn_r _ [2, 3, 4, 5] (by exact rfl) (by decide +kernel)) ggL_planned_X9_planned
