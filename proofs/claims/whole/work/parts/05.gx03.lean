set_option maxRecDepth 20000 in
theorem ggX9_init_X8_init : GoodIn wsX9_init wsX8_init := goodIn_m (subW_q _ [(28, 2), (2, 2), (30, 11), (87, 3), (124, 8)] (by exact rfl)) gwd_X8_init
set_option maxRecDepth 20000 in
theorem gX9_init_X8_init : GoodIn wsX9_init (wsX8_init) := ggX9_init_X8_init
set_option maxRecDepth 20000 in
theorem ggX9_init_X2_init : GoodIn wsX9_init wsX2_init := goodIn_m (subW_q _ [(43, 2), (2, 2), (45, 14), (101, 6), (132, 7)] (by exact rfl)) gwd_X2_init
set_option maxRecDepth 20000 in
theorem gX9_init_X2_init : GoodIn wsX9_init (wsX2_init) := ggX9_init_X2_init
set_option maxRecDepth 20000 in
theorem ggX9_init_X4_init : GoodIn wsX9_init wsX4_init := goodIn_m (subW_q _ [(61, 2), (2, 2), (63, 2), (107, 8)] (by exact rfl)) gwd_X4_init
set_option maxRecDepth 20000 in
theorem gX9_init_X4_init : GoodIn wsX9_init (wsX4_init) := ggX9_init_X4_init
set_option maxRecDepth 20000 in
theorem ggX9_init_X1_init : GoodIn wsX9_init wsX1_init := goodIn_m (subW_q _ [(67, 2), (2, 2), (69, 6), (54, 1), (75, 4), (32, 2), (79, 8), (35, 6), (115, 9), (139, 8), (124, 8)] (by exact rfl)) gwd_X1_init
set_option maxRecDepth 20000 in
theorem gX9_init_X1_init : GoodIn wsX9_init (wsX1_init) := ggX9_init_X1_init
set_option maxRecDepth 20000 in
theorem ggX9_charge_X8_vatAt : GoodIn wsX9_charge wsX8_vatAt := goodIn_m (subW_ca (subW_q _ [(9, 4), (32, 3)] (by exact rfl)) ((fun _ h => List.mem_cons_of_mem _ (List.mem_append_right _ h)))) gwd_X8_vatAt
set_option maxRecDepth 20000 in
theorem gX9_charge_X8_vatAt : GoodIn wsX9_charge (wsV RX9 57 RX8 yX8_vatAt wsX8_vatAt) := goodIn_app (goodIn_r _ [5, 6, 7, 8] (by exact rfl) (by decide +kernel)) ggX9_charge_X8_vatAt
set_option maxRecDepth 20000 in
theorem ggX9_feed_X8_vatAt : GoodIn wsX9_feed wsX8_vatAt := goodIn_m (subW_ca (subW_q _ [(7, 4), (43, 3)] (by exact rfl)) ((fun _ h => List.mem_cons_of_mem _ (List.mem_append_left _ (List.mem_append_right _ h))))) gwd_X8_vatAt
set_option maxRecDepth 20000 in
theorem gX9_feed_X8_vatAt : GoodIn wsX9_feed (wsV RX9 57 RX8 yX8_vatAt wsX8_vatAt) := goodIn_app (goodIn_r _ [3, 4, 5, 6] (by exact rfl) (by decide +kernel)) ggX9_feed_X8_vatAt
set_option maxRecDepth 20000 in
theorem ggX9_feed_X9_demand : GoodIn wsX9_feed wsX9_demand := goodIn_m (subW_ca (subW_q _ [(14, 3)] (by exact rfl)) ((fun _ h => List.mem_cons_of_mem _ (List.mem_append_right _ h)))) gwd_X9_demand
set_option maxRecDepth 20000 in
theorem gX9_feed_X9_demand : GoodIn wsX9_feed (va_wsS RX9 71 yX9_demand wsX9_demand) := goodIn_app (goodIn_r _ [11, 12, 13] (by exact rfl) (by decide +kernel)) ggX9_feed_X9_demand
set_option maxRecDepth 20000 in
theorem ggX9_feed_X7_takeFood : GoodIn wsX9_feed wsX7_takeFood := goodIn_m (subW_q _ [(21, 3), (35, 8)] (by exact rfl)) gwd_X7_takeFood
set_option maxRecDepth 20000 in
theorem gX9_feed_X7_takeFood : GoodIn wsX9_feed (wsV RX9 75 RX7 yX7_takeFood wsX7_takeFood) := goodIn_app (goodIn_r _ [17, 18, 19, 20] (by exact rfl) (by decide +kernel)) ggX9_feed_X7_takeFood
set_option maxRecDepth 20000 in
theorem ggX9_lime_X8_vatAt : GoodIn wsX9_lime wsX8_vatAt := goodIn_m (subW_ca (subW_q _ [(7, 4), (38, 3)] (by exact rfl)) ((fun _ h => List.mem_cons_of_mem _ (List.mem_append_right _ h)))) gwd_X8_vatAt
set_option maxRecDepth 20000 in
theorem gX9_lime_X8_vatAt : GoodIn wsX9_lime (wsV RX9 57 RX8 yX8_vatAt wsX8_vatAt) := goodIn_app (goodIn_r _ [3, 4, 5, 6] (by exact rfl) (by decide +kernel)) ggX9_lime_X8_vatAt
set_option maxRecDepth 20000 in
theorem ggX9_lime_X7_takeLime : GoodIn wsX9_lime wsX7_takeLime := goodIn_m (subW_q _ [(15, 4), (30, 8)] (by exact rfl)) gwd_X7_takeLime
set_option maxRecDepth 20000 in
theorem gX9_lime_X7_takeLime : GoodIn wsX9_lime (wsV RX9 82 RX7 yX7_takeLime wsX7_takeLime) := goodIn_app (goodIn_r _ [11, 12, 13, 14] (by exact rfl) (by decide +kernel)) ggX9_lime_X7_takeLime
set_option maxRecDepth 20000 in
theorem ggX9_cloth_X0_init : GoodIn wsX9_cloth wsX0_init := goodIn_m (subW_q _ [(8, 7), (26, 8)] (by exact rfl)) gwd_X0_init
set_option maxRecDepth 20000 in
theorem gX9_cloth_X0_init : GoodIn wsX9_cloth (wsX0_init) := ggX9_cloth_X0_init
set_option maxRecDepth 20000 in
theorem ggX9_treat_X9_clothAt : GoodIn wsX9_treat wsX9_clothAt := goodIn_m (subW_ca (subW_q _ [(7, 5), (54, 11)] (by exact rfl)) ((fun _ h => List.mem_cons_of_mem _ (List.mem_append_left _ (List.mem_append_right _ h))))) gwd_X9_clothAt
set_option maxRecDepth 20000 in
theorem gX9_treat_X9_clothAt : GoodIn wsX9_treat (wsV RX9 98 RX9 yX9_clothAt wsX9_clothAt) := goodIn_app (goodIn_r _ [3, 4, 5, 6] (by exact rfl) (by decide +kernel)) ggX9_treat_X9_clothAt
set_option maxRecDepth 20000 in
theorem ggX9_treat_X9_demand : GoodIn wsX9_treat wsX9_demand := goodIn_m (subW_ca (subW_q _ [(14, 3)] (by exact rfl)) ((fun _ h => List.mem_cons_of_mem _ (List.mem_append_right _ h)))) gwd_X9_demand
set_option maxRecDepth 20000 in
theorem gX9_treat_X9_demand : GoodIn wsX9_treat (va_wsS RX9 71 yX9_demand wsX9_demand) := goodIn_app (goodIn_r _ [12, 13, 6] (by exact rfl) (by decide +kernel)) ggX9_treat_X9_demand
set_option maxRecDepth 20000 in
theorem ggX9_treat_X8_airOut : GoodIn wsX9_treat wsX8_airOut := goodIn_m (subW_q _ [(21, 9), (65, 3), (46, 8)] (by exact rfl)) gwd_X8_airOut
set_option maxRecDepth 20000 in
theorem gX9_treat_X8_airOut : GoodIn wsX9_treat (wsV RX9 114 RX8 yX8_airOut wsX8_airOut) := goodIn_app (goodIn_r _ [17, 18, 19, 20] (by exact rfl) (by decide +kernel)) ggX9_treat_X8_airOut
set_option maxRecDepth 20000 in
theorem ggX9_treat_X8_washOut : GoodIn wsX9_treat wsX8_washOut := goodIn_m (subW_q _ [(33, 1), (22, 1), (34, 3), (26, 1), (37, 1), (29, 1), (28, 1), (65, 3), (46, 8)] (by exact rfl)) gwd_X8_washOut
set_option maxRecDepth 20000 in
theorem gX9_treat_X8_washOut : GoodIn wsX9_treat (wsV RX9 118 RX8 yX8_washOut wsX8_washOut) := goodIn_app (goodIn_r _ [30, 31, 32, 20] (by exact rfl) (by decide +kernel)) ggX9_treat_X8_washOut
set_option maxRecDepth 20000 in
theorem ggX9_treat_X8_dryOut : GoodIn wsX9_treat wsX8_dryOut := goodIn_m (subW_q _ [(41, 5), (18, 12), (46, 8), (65, 3)] (by exact rfl)) gwd_X8_dryOut
set_option maxRecDepth 20000 in
theorem gX9_treat_X8_dryOut : GoodIn wsX9_treat (wsV RX9 121 RX8 yX8_dryOut wsX8_dryOut) := goodIn_app (goodIn_r _ [38, 39, 40, 20] (by exact rfl) (by decide +kernel)) ggX9_treat_X8_dryOut
