set_option maxRecDepth 20000 in
theorem ggL_charge_X9_charge : GoodIn wsL_charge wsX9_charge := goodIn_m (subW_ca (subW_q _ [(6, 35)] (by exact rfl)) ((fun _ h => List.mem_cons_of_mem _ (List.mem_append_right _ h)))) gwd_X9_charge
set_option maxRecDepth 20000 in
theorem gL_charge_X9_charge : GoodIn wsL_charge (wsV RL 7 RX9 yX9_charge wsX9_charge) := goodIn_app (goodIn_r _ [2, 3, 4, 5] (by exact rfl) (by decide +kernel)) ggL_charge_X9_charge
set_option maxRecDepth 20000 in
theorem ggL_feed_X9_feed : GoodIn wsL_feed wsX9_feed := goodIn_m (subW_ca (subW_ca (subW_q _ [(7, 13), (6, 1), (20, 32)] (by exact rfl)) ((fun _ h => List.mem_cons_of_mem _ (List.mem_append_left _ (List.mem_append_right _ h))))) ((fun _ h => List.mem_cons_of_mem _ (List.mem_append_right _ h)))) gwd_X9_feed
set_option maxRecDepth 20000 in
theorem gL_feed_X9_feed : GoodIn wsL_feed (wsV RL 15 RX9 yX9_feed wsX9_feed) := goodIn_app (goodIn_r _ [3, 4, 5, 6] (by exact rfl) (by decide +kernel)) ggL_feed_X9_feed
set_option maxRecDepth 20000 in
theorem ggL_lime_X9_lime : GoodIn wsL_lime wsX9_lime := goodIn_m (subW_ca (subW_q _ [(6, 41)] (by exact rfl)) ((fun _ h => List.mem_cons_of_mem _ (List.mem_append_right _ h)))) gwd_X9_lime
set_option maxRecDepth 20000 in
theorem gL_lime_X9_lime : GoodIn wsL_lime (wsV RL 20 RX9 yX9_lime wsX9_lime) := goodIn_app (goodIn_r _ [2, 3, 4, 5] (by exact rfl) (by decide +kernel)) ggL_lime_X9_lime
set_option maxRecDepth 20000 in
theorem ggL_hours_X9_hours : GoodIn wsL_hours wsX9_hours := goodIn_m (subW_ca (subW_q _ [(6, 5), (5, 1), (11, 52)] (by exact rfl)) ((fun _ h => List.mem_cons_of_mem _ (List.mem_append_right _ h)))) gwd_X9_hours
set_option maxRecDepth 20000 in
theorem gL_hours_X9_hours : GoodIn wsL_hours (wsV RL 24 RX9 yX9_hours wsX9_hours) := goodIn_app (goodIn_r _ [2, 3, 4, 5] (by exact rfl) (by decide +kernel)) ggL_hours_X9_hours
set_option maxRecDepth 20000 in
theorem ggL_dip_X9_dip : GoodIn wsL_dip wsX9_dip := goodIn_m (subW_ca (subW_ca (subW_ca (subW_q _ [(7, 7), (6, 1), (14, 86)] (by exact rfl)) ((fun _ h => List.mem_cons_of_mem _ (List.mem_append_left _ (List.mem_append_left _ (List.mem_append_right _ h)))))) ((fun _ h => List.mem_cons_of_mem _ (List.mem_append_left _ (List.mem_append_right _ h))))) ((fun _ h => List.mem_cons_of_mem _ (List.mem_append_right _ h)))) gwd_X9_dip
set_option maxRecDepth 20000 in
theorem gL_dip_X9_dip : GoodIn wsL_dip (wsV RL 27 RX9 yX9_dip wsX9_dip) := goodIn_app (goodIn_r _ [3, 4, 5, 6] (by exact rfl) (by decide +kernel)) ggL_dip_X9_dip
set_option maxRecDepth 20000 in
theorem ggL_treat_X9_treat : GoodIn wsL_treat wsX9_treat := goodIn_m (subW_ca (subW_ca (subW_q _ [(7, 6), (6, 1), (13, 61)] (by exact rfl)) ((fun _ h => List.mem_cons_of_mem _ (List.mem_append_left _ (List.mem_append_right _ h))))) ((fun _ h => List.mem_cons_of_mem _ (List.mem_append_right _ h)))) gwd_X9_treat
set_option maxRecDepth 20000 in
theorem gL_treat_X9_treat : GoodIn wsL_treat (wsV RL 31 RX9 yX9_treat wsX9_treat) := goodIn_app (goodIn_r _ [3, 4, 5, 6] (by exact rfl) (by decide +kernel)) ggL_treat_X9_treat
set_option maxRecDepth 20000 in
theorem ggL_recipe_X9_recipe : GoodIn wsL_recipe wsX9_recipe := goodIn_m (subW_ca (subW_q _ [(6, 12), (5, 1), (18, 222)] (by exact rfl)) ((fun _ h => List.mem_cons_of_mem _ (List.mem_append_right _ h)))) gwd_X9_recipe
set_option maxRecDepth 20000 in
theorem gL_recipe_X9_recipe : GoodIn wsL_recipe (wsV RL 34 RX9 yX9_recipe wsX9_recipe) := goodIn_app (goodIn_r _ [2, 3, 4, 5] (by exact rfl) (by decide +kernel)) ggL_recipe_X9_recipe
set_option maxRecDepth 20000 in
theorem ggL_fault_X9_fault : GoodIn wsL_fault wsX9_fault := goodIn_m (subW_ca (subW_q _ [(6, 23)] (by exact rfl)) ((fun _ h => List.mem_cons_of_mem _ (List.mem_append_right _ h)))) gwd_X9_fault
set_option maxRecDepth 20000 in
theorem gL_fault_X9_fault : GoodIn wsL_fault (wsV RL 37 RX9 yX9_fault wsX9_fault) := goodIn_app (goodIn_r _ [2, 3, 4, 5] (by exact rfl) (by decide +kernel)) ggL_fault_X9_fault
set_option maxRecDepth 20000 in
theorem ggL_run_X9_run : GoodIn wsL_run wsX9_run := goodIn_m (subW_ca (subW_ca (subW_q _ [(6, 8), (5, 1), (14, 222)] (by exact rfl)) ((fun _ h => List.mem_cons_of_mem _ (List.mem_append_left _ (List.mem_append_right _ h))))) ((fun _ h => List.mem_cons_of_mem _ (List.mem_append_right _ h)))) gwd_X9_run
set_option maxRecDepth 20000 in
theorem gL_run_X9_run : GoodIn wsL_run (wsV RL 40 RX9 yX9_run wsX9_run) := goodIn_app (goodIn_r _ [2, 3, 4, 5] (by exact rfl) (by decide +kernel)) ggL_run_X9_run
set_option maxRecDepth 20000 in
theorem ggL_ran_X9_ran : GoodIn wsL_ran wsX9_ran := goodIn_m (subW_ca (subW_q _ [(6, 29)] (by exact rfl)) ((fun _ h => List.mem_cons_of_mem _ (List.mem_append_right _ h)))) gwd_X9_ran
set_option maxRecDepth 20000 in
theorem gL_ran_X9_ran : GoodIn wsL_ran (wsV RL 43 RX9 yX9_ran wsX9_ran) := goodIn_app (goodIn_r _ [2, 3, 4, 5] (by exact rfl) (by decide +kernel)) ggL_ran_X9_ran
set_option maxRecDepth 20000 in
theorem ggL_plan_X9_plan : GoodIn wsL_plan wsX9_plan := goodIn_m (subW_ca (subW_ca (subW_ca (subW_q _ [(7, 6), (6, 1), (13, 128)] (by exact rfl)) ((fun _ h => List.mem_cons_of_mem _ (List.mem_append_left _ (List.mem_append_left _ (List.mem_append_right _ h)))))) ((fun _ h => List.mem_cons_of_mem _ (List.mem_append_left _ (List.mem_append_right _ h))))) ((fun _ h => List.mem_cons_of_mem _ (List.mem_append_right _ h)))) gwd_X9_plan
set_option maxRecDepth 20000 in
theorem gL_plan_X9_plan : GoodIn wsL_plan (wsV RL 46 RX9 yX9_plan wsX9_plan) := goodIn_app (goodIn_r _ [3, 4, 5, 6] (by exact rfl) (by decide +kernel)) ggL_plan_X9_plan
set_option maxRecDepth 20000 in
theorem ggL_planned_X9_planned : GoodIn wsL_planned wsX9_planned := goodIn_m (subW_ca (subW_q _ [(6, 28)] (by exact rfl)) ((fun _ h => List.mem_cons_of_mem _ (List.mem_append_right _ h)))) gwd_X9_planned
set_option maxRecDepth 20000 in
theorem gL_planned_X9_planned : GoodIn wsL_planned (wsV RL 50 RX9 yX9_planned wsX9_planned) := goodIn_app (goodIn_r _ [2, 3, 4, 5] (by exact rfl) (by decide +kernel)) ggL_planned_X9_planned
set_option maxRecDepth 20000 in
theorem ggL_vat_X9_vat : GoodIn wsL_vat wsX9_vat := goodIn_m (subW_ca (subW_ca (subW_q _ [(6, 39)] (by exact rfl)) ((fun _ h => List.mem_cons_of_mem _ (List.mem_append_left _ (List.mem_append_right _ h))))) ((fun _ h => List.mem_cons_of_mem _ (List.mem_append_right _ h)))) gwd_X9_vat
set_option maxRecDepth 20000 in
theorem gL_vat_X9_vat : GoodIn wsL_vat (wsV RL 53 RX9 yX9_vat wsX9_vat) := goodIn_app (goodIn_r _ [2, 3, 4, 5] (by exact rfl) (by decide +kernel)) ggL_vat_X9_vat
set_option maxRecDepth 20000 in
theorem ggL_about_X9_about : GoodIn wsL_about wsX9_about := goodIn_m (subW_ca (subW_q _ [(6, 13), (5, 1), (19, 29)] (by exact rfl)) ((fun _ h => List.mem_cons_of_mem _ (List.mem_append_right _ h)))) gwd_X9_about
set_option maxRecDepth 20000 in
theorem gL_about_X9_about : GoodIn wsL_about (wsV RL 56 RX9 yX9_about wsX9_about) := goodIn_app (goodIn_r _ [2, 3, 4, 5] (by exact rfl) (by decide +kernel)) ggL_about_X9_about
set_option maxRecDepth 20000 in
theorem ggL_count_X9_count : GoodIn wsL_count wsX9_count := goodIn_m (subW_ca (subW_q _ [(6, 24)] (by exact rfl)) ((fun _ h => List.mem_cons_of_mem _ (List.mem_append_right _ h)))) gwd_X9_count
set_option maxRecDepth 20000 in
theorem gL_count_X9_count : GoodIn wsL_count (wsV RL 59 RX9 yX9_count wsX9_count) := goodIn_app (goodIn_r _ [2, 3, 4, 5] (by exact rfl) (by decide +kernel)) ggL_count_X9_count
set_option maxRecDepth 20000 in
theorem ggL_faded_X9_faded : GoodIn wsL_faded wsX9_faded := goodIn_m (subW_ca (subW_ca (subW_q _ [(7, 5), (6, 1), (12, 54)] (by exact rfl)) ((fun _ h => List.mem_cons_of_mem _ (List.mem_append_left _ (List.mem_append_right _ h))))) ((fun _ h => List.mem_cons_of_mem _ (List.mem_append_right _ h)))) gwd_X9_faded
set_option maxRecDepth 20000 in
theorem gL_faded_X9_faded : GoodIn wsL_faded (wsV RL 62 RX9 yX9_faded wsX9_faded) := goodIn_app (goodIn_r _ [3, 4, 5, 6] (by exact rfl) (by decide +kernel)) ggL_faded_X9_faded
set_option maxRecDepth 20000 in
theorem ggL_matching_X9_matching : GoodIn wsL_matching wsX9_matching := goodIn_m (subW_ca (subW_ca (subW_q _ [(7, 7), (6, 1), (14, 56)] (by exact rfl)) ((fun _ h => List.mem_cons_of_mem _ (List.mem_append_left _ (List.mem_append_right _ h))))) ((fun _ h => List.mem_cons_of_mem _ (List.mem_append_right _ h)))) gwd_X9_matching
set_option maxRecDepth 20000 in
theorem gL_matching_X9_matching : GoodIn wsL_matching (wsV RL 65 RX9 yX9_matching wsX9_matching) := goodIn_app (goodIn_r _ [3, 4, 5, 6] (by exact rfl) (by decide +kernel)) ggL_matching_X9_matching
