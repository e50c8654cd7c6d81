set_option maxRecDepth 20000 in
theorem ggX1_init_X0_init : GoodIn wsX1_init wsX0_init := goodIn_m (subW_q _ [(19, 2), (2, 2), (21, 3), (40, 8)] (by exact rfl)) gwd_X0_init
set_option maxRecDepth 20000 in
theorem gX1_init_X0_init : GoodIn wsX1_init (wsX0_init) := ggX1_init_X0_init
set_option maxRecDepth 20000 in
theorem ggX1_init_X7_init : GoodIn wsX1_init wsX7_init := goodIn_m (subW_q _ [(26, 2), (2, 2), (28, 3), (48, 8)] (by exact rfl)) gwd_X7_init
set_option maxRecDepth 20000 in
theorem gX1_init_X7_init : GoodIn wsX1_init (wsX7_init) := ggX1_init_X7_init
set_option maxRecDepth 20000 in
theorem ggX1_fewest_X8_vatAt : GoodIn wsX1_fewest wsX8_vatAt := goodIn_m (subW_ca (subW_q _ [(11, 4), (86, 3)] (by exact rfl)) ((fun _ h => List.mem_cons_of_mem _ (List.mem_append_right _ h)))) gwd_X8_vatAt
set_option maxRecDepth 20000 in
theorem gX1_fewest_X8_vatAt : GoodIn wsX1_fewest (wsV RX1 50 RX8 yX8_vatAt wsX8_vatAt) := goodIn_app (goodIn_r _ [7, 8, 9, 10] (by exact rfl) (by decide +kernel)) ggX1_fewest_X8_vatAt
set_option maxRecDepth 20000 in
theorem ggX1_fewest_X7_copyFrom : GoodIn wsX1_fewest wsX7_copyFrom := goodIn_m (subW_q _ [(19, 5), (89, 8)] (by exact rfl)) gwd_X7_copyFrom
set_option maxRecDepth 20000 in
theorem gX1_fewest_X7_copyFrom : GoodIn wsX1_fewest (wsV RX1 56 RX7 yX7_copyFrom wsX7_copyFrom) := goodIn_app (goodIn_r _ [15, 16, 17, 18] (by exact rfl) (by decide +kernel)) ggX1_fewest_X7_copyFrom
set_option maxRecDepth 20000 in
theorem ggX1_fewest_X0_copyFrom : GoodIn wsX1_fewest wsX0_copyFrom := goodIn_m (subW_q _ [(28, 4), (97, 8)] (by exact rfl)) gwd_X0_copyFrom
set_option maxRecDepth 20000 in
theorem gX1_fewest_X0_copyFrom : GoodIn wsX1_fewest (wsV RX1 60 RX0 yX0_copyFrom wsX0_copyFrom) := goodIn_app (goodIn_r _ [24, 25, 26, 27] (by exact rfl) (by decide +kernel)) ggX1_fewest_X0_copyFrom
set_option maxRecDepth 20000 in
theorem ggX1_fewest_X1_reaches : GoodIn wsX1_fewest wsX1_reaches := goodIn_m (subW_q _ [(36, 1), (5, 1), (37, 1), (1, 3), (38, 3), (27, 1), (41, 1), (29, 1), (31, 1), (42, 3), (35, 1), (45, 13), (18, 1), (58, 2), (23, 1), (20, 1), (60, 8), (30, 1), (68, 5), (22, 1), (21, 1), (73, 4), (32, 3), (77, 9), (97, 8), (89, 8)] (by exact rfl)) gwd_X1_reaches
set_option maxRecDepth 20000 in
theorem gX1_fewest_X1_reaches : GoodIn wsX1_fewest (wsV RX1 63 RX1 yX1_reaches wsX1_reaches) := goodIn_app (goodIn_r _ [32, 33, 34, 35] (by exact rfl) (by decide +kernel)) ggX1_fewest_X1_reaches
set_option maxRecDepth 20000 in
theorem ggX1_reaches_X0_shade : GoodIn wsX1_reaches wsX0_shade := goodIn_m (subW_q _ [(10, 3), (67, 8)] (by exact rfl)) gwd_X0_shade
set_option maxRecDepth 20000 in
theorem gX1_reaches_X0_shade : GoodIn wsX1_reaches (wsV RX1 73 RX0 yX0_shade wsX0_shade) := goodIn_app (goodIn_r _ [6, 7, 8, 9] (by exact rfl) (by decide +kernel)) ggX1_reaches_X0_shade
set_option maxRecDepth 20000 in
theorem ggX1_reaches_X1_reachesBy : GoodIn wsX1_reaches wsX1_reachesBy := goodIn_m (subW_q _ [(17, 1), (1, 1), (18, 4), (2, 1), (22, 5), (4, 1), (27, 15), (9, 1), (42, 1), (11, 1), (43, 1), (12, 1), (44, 11), (6, 3), (10, 1), (55, 3), (16, 1), (0, 1), (3, 1), (5, 1), (13, 3), (58, 25)] (by exact rfl)) gwd_X1_reachesBy
set_option maxRecDepth 20000 in
theorem gX1_reaches_X1_reachesBy : GoodIn wsX1_reaches (wsV RX1 77 RX1 yX1_reachesBy wsX1_reachesBy) := goodIn_app (goodIn_r _ [13, 14, 15, 16] (by exact rfl) (by decide +kernel)) ggX1_reaches_X1_reachesBy
set_option maxRecDepth 20000 in
theorem ggX1_reachesBy_X7_givesTo : GoodIn wsX1_reachesBy wsX7_givesTo := goodIn_m (subW_q _ [(17, 16), (67, 16)] (by exact rfl)) gwd_X7_givesTo
set_option maxRecDepth 20000 in
theorem gX1_reachesBy_X7_givesTo : GoodIn wsX1_reachesBy (wsV RX1 81 RX7 yX7_givesTo wsX7_givesTo) := goodIn_app (goodIn_r _ [13, 14, 15, 16] (by exact rfl) (by decide +kernel)) ggX1_reachesBy_X7_givesTo
set_option maxRecDepth 20000 in
theorem ggX1_reachesBy_X7_soak : GoodIn wsX1_reachesBy wsX7_soak := goodIn_m (subW_q _ [(36, 1), (20, 1), (37, 2), (19, 1), (39, 1), (75, 8), (67, 8)] (by exact rfl)) gwd_X7_soak
set_option maxRecDepth 20000 in
theorem gX1_reachesBy_X7_soak : GoodIn wsX1_reachesBy (wsV RX1 100 RX7 yX7_soak wsX7_soak) := goodIn_app (goodIn_r _ [33, 34, 35, 16] (by exact rfl) (by decide +kernel)) ggX1_reachesBy_X7_soak
set_option maxRecDepth 20000 in
theorem ggX1_reachesBy_X0_loseByAir : GoodIn wsX1_reachesBy wsX0_loseByAir := goodIn_m (subW_q _ [(43, 1), (31, 2), (67, 8)] (by exact rfl)) gwd_X0_loseByAir
set_option maxRecDepth 20000 in
theorem gX1_reachesBy_X0_loseByAir : GoodIn wsX1_reachesBy (wsV RX1 104 RX0 yX0_loseByAir wsX0_loseByAir) := goodIn_app (goodIn_r _ [40, 41, 42, 28] (by exact rfl) (by decide +kernel)) ggX1_reachesBy_X0_loseByAir
set_option maxRecDepth 20000 in
theorem ggX1_reachesBy_X0_shade : GoodIn wsX1_reachesBy wsX0_shade := goodIn_m (subW_q _ [(47, 1), (30, 1), (32, 1), (67, 8)] (by exact rfl)) gwd_X0_shade
set_option maxRecDepth 20000 in
theorem gX1_reachesBy_X0_shade : GoodIn wsX1_reachesBy (wsV RX1 73 RX0 yX0_shade wsX0_shade) := goodIn_app (goodIn_r _ [44, 45, 46, 28] (by exact rfl) (by decide +kernel)) ggX1_reachesBy_X0_shade
set_option maxRecDepth 20000 in
theorem ggX1_reachesBy_X1_reaches : GoodIn wsX1_reachesBy wsX1_reaches := goodIn_m (subW_q _ [(52, 1), (1, 1), (6, 1), (53, 1), (12, 1), (54, 1), (44, 3), (28, 1), (47, 1), (30, 1), (32, 1), (55, 3), (51, 1), (0, 1), (2, 4), (7, 5), (13, 15), (29, 1), (31, 1), (33, 11), (48, 3), (58, 25)] (by exact rfl)) gwd_X1_reaches
set_option maxRecDepth 20000 in
theorem gX1_reachesBy_X1_reaches : GoodIn wsX1_reachesBy (wsV RX1 63 RX1 yX1_reaches wsX1_reaches) := goodIn_app (goodIn_r _ [48, 49, 50, 51] (by exact rfl) (by decide +kernel)) ggX1_reachesBy_X1_reaches
set_option maxRecDepth 20000 in
theorem ggX2_init_X6_init : GoodIn wsX2_init wsX6_init := goodIn_m (subW_q _ [(11, 2), (2, 2), (13, 5), (24, 7)] (by exact rfl)) gwd_X6_init
set_option maxRecDepth 20000 in
theorem gX2_init_X6_init : GoodIn wsX2_init (wsX6_init) := ggX2_init_X6_init
