set_option maxRecDepth 20000 in
theorem ggX10_thinks_X10_moves : GoodIn wsX10_thinks wsX10_moves := goodIn_m (subW_q _ [(11, 1), (1, 1), (12, 1), (4, 1), (2, 1), (6, 1), (13, 51)] (by exact rfl)) gwd_X10_moves
set_option maxRecDepth 20000 in
theorem gX10_thinks_X10_moves : GoodIn wsX10_thinks (wsV RX10 137 RX10 yX10_moves wsX10_moves) := goodIn_app (goodIn_r _ [7, 8, 9, 10] (by exact rfl) (by decide +kernel)) ggX10_thinks_X10_moves
set_option maxRecDepth 20000 in
theorem ggX10_leads_X10_shadeOf : GoodIn wsX10_leads wsX10_shadeOf := goodIn_m (subW_q _ [(10, 3), (36, 51)] (by exact rfl)) gwd_X10_shadeOf
set_option maxRecDepth 20000 in
theorem gX10_leads_X10_shadeOf : GoodIn wsX10_leads (wsV RX10 322 RX10 yX10_shadeOf wsX10_shadeOf) := goodIn_app (goodIn_r _ [6, 7, 8, 9] (by exact rfl) (by decide +kernel)) ggX10_leads_X10_shadeOf
set_option maxRecDepth 20000 in
theorem ggX10_leads_X10_keeps : GoodIn wsX10_leads wsX10_keeps := goodIn_m (subW_q _ [(16, 5), (2, 1), (1, 1), (11, 1), (36, 51)] (by exact rfl)) gwd_X10_keeps
set_option maxRecDepth 20000 in
theorem gX10_leads_X10_keeps : GoodIn wsX10_leads (wsV RX10 331 RX10 yX10_keeps wsX10_keeps) := goodIn_app (goodIn_r _ [13, 14, 15, 9] (by exact rfl) (by decide +kernel)) ggX10_leads_X10_keeps
set_option maxRecDepth 20000 in
theorem ggX10_leads_X10_moves : GoodIn wsX10_leads wsX10_moves := goodIn_m (subW_q _ [(24, 1), (18, 1), (12, 1), (2, 1), (1, 1), (11, 1), (36, 51)] (by exact rfl)) gwd_X10_moves
set_option maxRecDepth 20000 in
theorem gX10_leads_X10_moves : GoodIn wsX10_leads (wsV RX10 137 RX10 yX10_moves wsX10_moves) := goodIn_app (goodIn_r _ [21, 22, 23, 9] (by exact rfl) (by decide +kernel)) ggX10_leads_X10_moves
set_option maxRecDepth 20000 in
theorem ggX10_leads_X10_thinks : GoodIn wsX10_leads wsX10_thinks := goodIn_m (subW_q _ [(28, 1), (18, 1), (1, 1), (20, 1), (2, 1), (19, 1), (11, 1), (21, 3), (9, 1), (24, 1), (12, 1), (36, 51)] (by exact rfl)) gwd_X10_thinks
set_option maxRecDepth 20000 in
theorem gX10_leads_X10_thinks : GoodIn wsX10_leads (wsV RX10 335 RX10 yX10_thinks wsX10_thinks) := goodIn_app (goodIn_r _ [25, 26, 27, 9] (by exact rfl) (by decide +kernel)) ggX10_leads_X10_thinks
set_option maxRecDepth 20000 in
theorem ggX10_leads_X10_leads : GoodIn wsX10_leads wsX10_leads := goodIn_m (subW_q _ [(0, 87)] (by exact rfl)) gwd_X10_leads
set_option maxRecDepth 20000 in
theorem gX10_leads_X10_leads : GoodIn wsX10_leads (wsV RX10 339 RX10 yX10_leads wsX10_leads) := goodIn_app (goodIn_r _ [29, 30, 31, 9] (by exact rfl) (by decide +kernel)) ggX10_leads_X10_leads
set_option maxRecDepth 20000 in
theorem ggX10_leads_X10_restores : GoodIn wsX10_leads wsX10_restores := goodIn_m (subW_q _ [(35, 1), (18, 1), (17, 1), (19, 2), (2, 1), (1, 1), (11, 1), (36, 51)] (by exact rfl)) gwd_X10_restores
set_option maxRecDepth 20000 in
theorem gX10_leads_X10_restores : GoodIn wsX10_leads (wsV RX10 343 RX10 yX10_restores wsX10_restores) := goodIn_app (goodIn_r _ [32, 33, 34, 9] (by exact rfl) (by decide +kernel)) ggX10_leads_X10_restores
set_option maxRecDepth 20000 in
theorem ggX10_plan_X10_isCloth : GoodIn wsX10_plan wsX10_isCloth := goodIn_m (subW_q _ [(6, 6), (5, 1), (12, 1), (53, 51)] (by exact rfl)) gwd_X10_isCloth
set_option maxRecDepth 20000 in
theorem gX10_plan_X10_isCloth : GoodIn wsX10_plan (wsV RX10 141 RX10 yX10_isCloth wsX10_isCloth) := goodIn_app (goodIn_r _ [2, 3, 4, 5] (by exact rfl) (by decide +kernel)) ggX10_plan_X10_isCloth
set_option maxRecDepth 20000 in
theorem ggX10_plan_X10_right : GoodIn wsX10_plan wsX10_right := goodIn_m (subW_q _ [(12, 1), (7, 1), (53, 51)] (by exact rfl)) gwd_X10_right
set_option maxRecDepth 20000 in
theorem gX10_plan_X10_right : GoodIn wsX10_plan (wsV RX10 108 RX10 yX10_right wsX10_right) := goodIn_app (goodIn_r _ [9, 10, 11, 5] (by exact rfl) (by decide +kernel)) ggX10_plan_X10_right
set_option maxRecDepth 20000 in
theorem ggX10_plan_X10_isDry : GoodIn wsX10_plan wsX10_isDry := goodIn_m (subW_q _ [(16, 2), (53, 51)] (by exact rfl)) gwd_X10_isDry
set_option maxRecDepth 20000 in
theorem gX10_plan_X10_isDry : GoodIn wsX10_plan (wsV RX10 144 RX10 yX10_isDry wsX10_isDry) := goodIn_app (goodIn_r _ [13, 14, 15, 5] (by exact rfl) (by decide +kernel)) ggX10_plan_X10_isDry
set_option maxRecDepth 20000 in
theorem ggX10_plan_X10_leads : GoodIn wsX10_plan wsX10_leads := goodIn_m (subW_q _ [(21, 9), (5, 1), (30, 19), (18, 3), (49, 55)] (by exact rfl)) gwd_X10_leads
set_option maxRecDepth 20000 in
theorem gX10_plan_X10_leads : GoodIn wsX10_plan (wsV RX10 339 RX10 yX10_leads wsX10_leads) := goodIn_app (goodIn_r _ [18, 19, 20, 5] (by exact rfl) (by decide +kernel)) ggX10_plan_X10_leads
set_option maxRecDepth 20000 in
theorem ggX10_planned_X10_right : GoodIn wsX10_planned wsX10_right := goodIn_m (subW_q _ [(10, 1), (1, 1), (11, 51)] (by exact rfl)) gwd_X10_right
set_option maxRecDepth 20000 in
theorem gX10_planned_X10_right : GoodIn wsX10_planned (wsV RX10 108 RX10 yX10_right wsX10_right) := goodIn_app (goodIn_r _ [6, 7, 8, 9] (by exact rfl) (by decide +kernel)) ggX10_planned_X10_right
