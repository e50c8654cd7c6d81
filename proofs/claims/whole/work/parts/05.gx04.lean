set_option maxRecDepth 20000 in
theorem ggX9_plan_X9_clothAt : GoodIn wsX9_plan wsX9_clothAt := goodIn_m (subW_ca (subW_q _ [(7, 5), (104, 11)] (by exact rfl)) ((fun _ h => List.mem_cons_of_mem _ (List.mem_append_left _ (List.mem_append_left _ (List.mem_append_right _ h)))))) gwd_X9_clothAt
set_option maxRecDepth 20000 in
theorem gX9_plan_X9_clothAt : GoodIn wsX9_plan (wsV RX9 98 RX9 yX9_clothAt wsX9_clothAt) := goodIn_app (goodIn_r _ [3, 4, 5, 6] (by exact rfl) (by decide +kernel)) ggX9_plan_X9_clothAt
set_option maxRecDepth 20000 in
theorem ggX9_plan_X9_demand : GoodIn wsX9_plan wsX9_demand := goodIn_m (subW_ca (subW_q _ [(14, 3)] (by exact rfl)) ((fun _ h => List.mem_cons_of_mem _ (List.mem_append_left _ (List.mem_append_right _ h))))) gwd_X9_demand
set_option maxRecDepth 20000 in
theorem gX9_plan_X9_demand : GoodIn wsX9_plan (va_wsS RX9 71 yX9_demand wsX9_demand) := goodIn_app (goodIn_r _ [12, 13, 6] (by exact rfl) (by decide +kernel)) ggX9_plan_X9_demand
set_option maxRecDepth 20000 in
theorem ggX9_plan_X1_fewest : GoodIn wsX9_plan wsX1_fewest := goodIn_m (subW_ca (subW_q _ [(21, 13), (9, 1), (34, 21), (20, 1), (55, 41), (115, 20), (96, 8)] (by exact rfl)) ((fun _ h => List.mem_cons_of_mem _ (List.mem_append_right _ h)))) gwd_X1_fewest
set_option maxRecDepth 20000 in
theorem gX9_plan_X1_fewest : GoodIn wsX9_plan (wsV RX9 182 RX1 yX1_fewest wsX1_fewest) := goodIn_app (goodIn_r _ [17, 18, 19, 20] (by exact rfl) (by decide +kernel)) ggX9_plan_X1_fewest
