set_option maxRecDepth 20000 in
theorem ggX1_init_X0_init : GoodIn wsX1_init wsX0_init := goodIn_m (subW_q _ [(19, 2), (2, 2), (21, 3), (40, 8)] (by exact rfl)) gwd_X0_init
set_option maxRecDepth 20000 in
theorem gX1_init_X0_init : GoodIn wsX1_init (wsX0_init) := ggX1_init_X0_init
set_option maxRecDepth 20000 in
theorem ggX1_init_X7_init : GoodIn wsX1_init wsX7_init := goodIn_m (subW_q _ [(26, 2), (2, 2), (28, 3), (48, 8)] (by exact rfl)) gwd_X7_init
set_option maxRecDepth 20000 in
theorem gX1_init_X7_init : GoodIn wsX1_init (wsX7_init) := ggX1_init_X7_init
set_option maxRecDepth 20000 in
theorem ggX1_fewest_X8_vatAt : GoodIn wsX1_fewest wsX8_vatAt := goodIn_m (subW_ca (subW_q _ [(11, 4), (86, 3)] (by exact rfl)) ((fun _ h => List.mem_cons_of_mem _ (List.mem_append_right _ h)))) gwd_X8_vatAt
set_option maxRecDepth 20000 in
theorem gX1_fewest_X8_vatAt : GoodIn wsX1_fewest (wsV RX1 50 RX8 yX8_vatAt wsX8_vatAt) := goodIn_app (goodIn_r _ [7, 8, 9, 10] (by exact rfl) (by decide +kernel)) ggX1_fewest_X8_vatAt
set_option maxRecDepth 20000 in
theorem ggX1_fewest_X7_copyFrom : GoodIn wsX1_fewest wsX7_copyFrom := goodIn_m (subW_q _ [(19, 5), (89, 8)] (by exact rfl)) gwd_X7_copyFrom
set_option maxRecDepth 20000 in
theorem gX1_fewest_X7_copyFrom : GoodIn wsX1_fewest (wsV RX1 56 RX7 yX7_copyFrom wsX7_copyFrom) := goodIn_app (goodIn_r _ [15, 16, 17, 18] (by exact rfl) (by decide +kernel)) ggX1_fewest_X7_copyFrom
set_option maxRecDepth 20000 in
theorem ggX1_fewest_X0_copyFrom : GoodIn wsX1_fewest wsX0_copyFrom := goodIn_m (subW_q _ [(28, 4), (97, 8)] (by exact rfl)) gwd_X0_copyFrom
set_option maxRecDepth 20000 in
theorem gX1_fewest_X0_copyFrom : GoodIn wsX1_fewest (wsV RX1 60 RX0 yX0_copyFrom wsX0_copyFrom) := goodIn_app (goodIn_r _ [24, 25, 26, 27] (by exact rfl) (by decide +kernel)) ggX1_fewest_X0_copyFrom
set_option maxRecDepth 20000 in
theorem ggX1_fewest_X1_reaches : GoodIn wsX1_fewest wsX1_reaches := goodIn_m (subW_q _ [(36, 1), (5, 1), (37, 1), (1, 3), (38, 3), (27, 1), (41, 1), (29, 1), (31, 1), (42, 3), (35, 1), (45, 13), (18, 1), (58, 2), (23, 1), (20, 1), (60, 8), (30, 1), (68, 5), (22, 1), (21, 1), (73, 4), (32, 3), (77, 9), (97, 8), (89, 8)] (by exact rfl)) gwd_X1_reaches
set_option maxRecDepth 20000 in
theorem gX1_fewest_X1_reaches : GoodIn wsX1_fewest (wsV RX1 63 RX1 yX1_reaches wsX1_reaches) := goodIn_app (goodIn_r _ [32, 33, 34, 35] (by exact rfl) (by decide +kernel)) ggX1_fewest_X1_reaches
set_option maxRecDepth 20000 in
theorem ggX1_reaches_X0_shade : GoodIn wsX1_reaches wsX0_shade := goodIn_m (subW_q _ [(10, 3), (67, 8)] (by exact rfl)) gwd_X0_shade
set_option maxRecDepth 20000 in
theorem gX1_reaches_X0_shade : GoodIn wsX1_reaches (wsV RX1 73 RX0 yX0_shade wsX0_shade) := goodIn_app (goodIn_r _ [6, 7, 8, 9] (by exact rfl) (by decide +kernel)) ggX1_reaches_X0_shade
set_option maxRecDepth 20000 in
theorem ggX1_reaches_X1_reachesBy : GoodIn wsX1_reaches wsX1_reachesBy := goodIn_m (subW_q _ [(17, 1), (1, 1), (18, 4), (2, 1), (22, 5), (4, 1), (27, 15), (9, 1), (42, 1), (11, 1), (43, 1), (12, 1), (44, 11), (6, 3), (10, 1), (55, 3), (16, 1), (0, 1), (3, 1), (5, 1), (13, 3), (58, 25)] (by exact rfl)) gwd_X1_reachesBy
set_option maxRecDepth 20000 in
theorem gX1_reaches_X1_reachesBy : GoodIn wsX1_reaches (wsV RX1 77 RX1 yX1_reachesBy wsX1_reachesBy) := goodIn_app (goodIn_r _ [13, 14, 15, 16] (by exact rfl) (by decide +kernel)) ggX1_reaches_X1_reachesBy
set_option maxRecDepth 20000 in
theorem ggX1_reachesBy_X7_givesTo : GoodIn wsX1_reachesBy wsX7_givesTo := goodIn_m (subW_q _ [(17, 16), (67, 16)] (by exact rfl)) gwd_X7_givesTo
set_option maxRecDepth 20000 in
theorem gX1_reachesBy_X7_givesTo : GoodIn wsX1_reachesBy (wsV RX1 81 RX7 yX7_givesTo wsX7_givesTo) := goodIn_app (goodIn_r _ [13, 14, 15, 16] (by exact rfl) (by decide +kernel)) ggX1_reachesBy_X7_givesTo
set_option maxRecDepth 20000 in
theorem ggX1_reachesBy_X7_soak : GoodIn wsX1_reachesBy wsX7_soak := goodIn_m (subW_q _ [(36, 1), (20, 1), (37, 2), (19, 1), (39, 1), (75, 8), (67, 8)] (by exact rfl)) gwd_X7_soak
set_option maxRecDepth 20000 in
theorem gX1_reachesBy_X7_soak : GoodIn wsX1_reachesBy (wsV RX1 100 RX7 yX7_soak wsX7_soak) := goodIn_app (goodIn_r _ [33, 34, 35, 16] (by exact rfl) (by decide +kernel)) ggX1_reachesBy_X7_soak
set_option maxRecDepth 20000 in
theorem ggX1_reachesBy_X0_loseByAir : GoodIn wsX1_reachesBy wsX0_loseByAir := goodIn_m (subW_q _ [(43, 1), (31, 2), (67, 8)] (by exact rfl)) gwd_X0_loseByAir
set_option maxRecDepth 20000 in
theorem gX1_reachesBy_X0_loseByAir : GoodIn wsX1_reachesBy (wsV RX1 104 RX0 yX0_loseByAir wsX0_loseByAir) := goodIn_app (goodIn_r _ [40, 41, 42, 28] (by exact rfl) (by decide +kernel)) ggX1_reachesBy_X0_loseByAir
set_option maxRecDepth 20000 in
theorem ggX1_reachesBy_X0_shade : GoodIn wsX1_reachesBy wsX0_shade := goodIn_m (subW_q _ [(47, 1), (30, 1), (32, 1), (67, 8)] (by exact rfl)) gwd_X0_shade
set_option maxRecDepth 20000 in
theorem gX1_reachesBy_X0_shade : GoodIn wsX1_reachesBy (wsV RX1 73 RX0 yX0_shade wsX0_shade) := goodIn_app (goodIn_r _ [44, 45, 46, 28] (by exact rfl) (by decide +kernel)) ggX1_reachesBy_X0_shade
set_option maxRecDepth 20000 in
theorem ggX1_reachesBy_X1_reaches : GoodIn wsX1_reachesBy wsX1_reaches := goodIn_m (subW_q _ [(52, 1), (1, 1), (6, 1), (53, 1), (12, 1), (54, 1), (44, 3), (28, 1), (47, 1), (30, 1), (32, 1), (55, 3), (51, 1), (0, 1), (2, 4), (7, 5), (13, 15), (29, 1), (31, 1), (33, 11), (48, 3), (58, 25)] (by exact rfl)) gwd_X1_reaches
set_option maxRecDepth 20000 in
theorem gX1_reachesBy_X1_reaches : GoodIn wsX1_reachesBy (wsV RX1 63 RX1 yX1_reaches wsX1_reaches) := goodIn_app (goodIn_r _ [48, 49, 50, 51] (by exact rfl) (by decide +kernel)) ggX1_reachesBy_X1_reaches
set_option maxRecDepth 20000 in
theorem ggX2_init_X6_init : GoodIn wsX2_init wsX6_init := goodIn_m (subW_q _ [(11, 2), (2, 2), (13, 5), (24, 7)] (by exact rfl)) gwd_X6_init
set_option maxRecDepth 20000 in
theorem gX2_init_X6_init : GoodIn wsX2_init (wsX6_init) := ggX2_init_X6_init
set_option maxRecDepth 20000 in
theorem ggX2_readRecipe_X6_split : GoodIn wsX2_readRecipe wsX6_split := goodIn_m (subW_q _ [(9, 15), (8, 1), (24, 89), (184, 7)] (by exact rfl)) gwd_X6_split
set_option maxRecDepth 20000 in
theorem gX2_readRecipe_X6_split : GoodIn wsX2_readRecipe (wsV RX2 24 RX6 yX6_split wsX6_split) := goodIn_app (goodIn_r _ [5, 6, 7, 8] (by exact rfl) (by decide +kernel)) ggX2_readRecipe_X6_split
set_option maxRecDepth 20000 in
theorem ggX2_readRecipe_X2_moveTo : GoodIn wsX2_readRecipe wsX2_moveTo := goodIn_m (subW_q _ [(117, 2), (1, 1), (119, 3), (178, 13)] (by exact rfl)) gwd_X2_moveTo
set_option maxRecDepth 20000 in
theorem gX2_readRecipe_X2_moveTo : GoodIn wsX2_readRecipe (wsV RX2 34 RX2 yX2_moveTo wsX2_moveTo) := goodIn_app (goodIn_r _ [113, 114, 115, 116] (by exact rfl) (by decide +kernel)) ggX2_readRecipe_X2_moveTo
set_option maxRecDepth 20000 in
theorem ggX2_readRecipe_X2_readSteps : GoodIn wsX2_readRecipe wsX2_readSteps := goodIn_m (subW_q _ [(125, 1), (2, 1), (121, 1), (126, 4), (116, 1), (130, 5), (118, 1), (1, 1), (135, 1), (3, 1), (136, 4), (113, 3), (117, 1), (119, 2), (122, 3), (140, 24), (4, 1), (164, 35)] (by exact rfl)) gwd_X2_readSteps
set_option maxRecDepth 20000 in
theorem gX2_readRecipe_X2_readSteps : GoodIn wsX2_readRecipe (wsV RX2 37 RX2 yX2_readSteps wsX2_readSteps) := goodIn_app (goodIn_r _ [122, 123, 124, 116] (by exact rfl) (by decide +kernel)) ggX2_readRecipe_X2_readSteps
set_option maxRecDepth 20000 in
theorem ggX2_readRecipe_X2_pass : GoodIn wsX2_readRecipe wsX2_pass := goodIn_m (subW_q _ [(139, 1), (121, 1), (2, 1), (118, 1), (131, 3), (116, 1), (134, 1), (1, 1), (135, 1), (3, 1), (113, 3), (117, 1), (119, 2), (178, 13)] (by exact rfl)) gwd_X2_pass
set_option maxRecDepth 20000 in
theorem gX2_readRecipe_X2_pass : GoodIn wsX2_readRecipe (wsV RX2 41 RX2 yX2_pass wsX2_pass) := goodIn_app (goodIn_r _ [136, 137, 138, 116] (by exact rfl) (by decide +kernel)) ggX2_readRecipe_X2_pass
set_option maxRecDepth 20000 in
theorem ggX2_readSteps_X2_readStep : GoodIn wsX2_readSteps wsX2_readStep := goodIn_m (subW_q _ [(50, 4), (2, 1), (54, 1), (31, 1), (55, 7), (9, 3), (7, 1), (12, 1), (1, 1), (13, 14), (62, 4), (48, 1), (32, 1), (35, 5), (66, 3), (8, 1), (27, 4), (33, 2), (40, 8), (49, 1), (0, 1), (3, 4), (69, 21)] (by exact rfl)) gwd_X2_readStep
set_option maxRecDepth 20000 in
theorem gX2_readSteps_X2_readStep : GoodIn wsX2_readSteps (wsV RX2 47 RX2 yX2_readStep wsX2_readStep) := goodIn_app (goodIn_r _ [4, 5, 6, 7] (by exact rfl) (by decide +kernel)) ggX2_readSteps_X2_readStep
set_option maxRecDepth 20000 in
theorem ggX2_readStep_X5_init : GoodIn wsX2_readStep wsX5_init := goodIn_m (subW_q _ [(9, 5), (82, 8)] (by exact rfl)) gwd_X5_init
set_option maxRecDepth 20000 in
theorem gX2_readStep_X5_init : GoodIn wsX2_readStep (wsX5_init) := ggX2_readStep_X5_init
set_option maxRecDepth 20000 in
theorem ggX2_readStep_X2_refuse : GoodIn wsX2_readStep wsX2_refuse := goodIn_m (subW_q _ [(18, 6), (69, 13)] (by exact rfl)) gwd_X2_refuse
set_option maxRecDepth 20000 in
theorem gX2_readStep_X2_refuse : GoodIn wsX2_readStep (wsV RX2 58 RX2 yX2_refuse wsX2_refuse) := goodIn_app (goodIn_r _ [14, 15, 16, 17] (by exact rfl) (by decide +kernel)) ggX2_readStep_X2_refuse
set_option maxRecDepth 20000 in
theorem ggX2_readStep_X2_pass : GoodIn wsX2_readStep wsX2_pass := goodIn_m (subW_q _ [(27, 1), (4, 1), (19, 2), (14, 5), (21, 3), (28, 6), (69, 13)] (by exact rfl)) gwd_X2_pass
set_option maxRecDepth 20000 in
theorem gX2_readStep_X2_pass : GoodIn wsX2_readStep (wsV RX2 41 RX2 yX2_pass wsX2_pass) := goodIn_app (goodIn_r _ [24, 25, 26, 17] (by exact rfl) (by decide +kernel)) ggX2_readStep_X2_pass
set_option maxRecDepth 20000 in
theorem ggX2_readStep_X2_readPlain : GoodIn wsX2_readStep wsX2_readPlain := goodIn_m (subW_q _ [(37, 1), (6, 1), (38, 5), (17, 1), (43, 1), (20, 2), (44, 1), (4, 1), (14, 3), (18, 2), (22, 12), (82, 8), (69, 13)] (by exact rfl)) gwd_X2_readPlain
set_option maxRecDepth 20000 in
theorem gX2_readStep_X2_readPlain : GoodIn wsX2_readStep (wsV RX2 64 RX2 yX2_readPlain wsX2_readPlain) := goodIn_app (goodIn_r _ [34, 35, 36, 17] (by exact rfl) (by decide +kernel)) ggX2_readStep_X2_readPlain
set_option maxRecDepth 20000 in
theorem ggX2_readStep_X2_readBuilt : GoodIn wsX2_readStep wsX2_readBuilt := goodIn_m (subW_q _ [(52, 1), (6, 1), (39, 1), (53, 1), (4, 1), (54, 1), (40, 3), (17, 1), (43, 1), (20, 2), (44, 1), (14, 3), (18, 2), (22, 12), (55, 8), (38, 1), (63, 1), (48, 4), (0, 4), (5, 1), (7, 7), (34, 4), (45, 3), (64, 26)] (by exact rfl)) gwd_X2_readBuilt
set_option maxRecDepth 20000 in
theorem gX2_readStep_X2_readBuilt : GoodIn wsX2_readStep (wsV RX2 68 RX2 yX2_readBuilt wsX2_readBuilt) := goodIn_app (goodIn_r _ [45, 46, 47, 17] (by exact rfl) (by decide +kernel)) ggX2_readStep_X2_readBuilt
set_option maxRecDepth 20000 in
theorem ggX2_readPlain_X2_readNumber : GoodIn wsX2_readPlain wsX2_readNumber := goodIn_m (subW_q _ [(8, 8), (7, 1), (16, 14), (38, 13)] (by exact rfl)) gwd_X2_readNumber
set_option maxRecDepth 20000 in
theorem gX2_readPlain_X2_readNumber : GoodIn wsX2_readPlain (wsV RX2 72 RX2 yX2_readNumber wsX2_readNumber) := goodIn_app (goodIn_r _ [4, 5, 6, 7] (by exact rfl) (by decide +kernel)) ggX2_readPlain_X2_readNumber
set_option maxRecDepth 20000 in
theorem ggX2_readBuilt_X2_readNumber : GoodIn wsX2_readBuilt wsX2_readNumber := goodIn_m (subW_q _ [(10, 4), (4, 1), (14, 3), (9, 1), (17, 14), (69, 13)] (by exact rfl)) gwd_X2_readNumber
set_option maxRecDepth 20000 in
theorem gX2_readBuilt_X2_readNumber : GoodIn wsX2_readBuilt (wsV RX2 72 RX2 yX2_readNumber wsX2_readNumber) := goodIn_app (goodIn_r _ [6, 7, 8, 9] (by exact rfl) (by decide +kernel)) ggX2_readBuilt_X2_readNumber
set_option maxRecDepth 20000 in
theorem ggX2_readBuilt_X2_readBlock : GoodIn wsX2_readBuilt wsX2_readBlock := goodIn_m (subW_q _ [(41, 1), (4, 1), (18, 1), (14, 3), (9, 1), (17, 1), (11, 2), (19, 12), (42, 3), (0, 4), (5, 4), (10, 1), (13, 1), (31, 10), (45, 45)] (by exact rfl)) gwd_X2_readBlock
set_option maxRecDepth 20000 in
theorem gX2_readBuilt_X2_readBlock : GoodIn wsX2_readBuilt (wsV RX2 82 RX2 yX2_readBlock wsX2_readBlock) := goodIn_app (goodIn_r _ [31, 32, 33, 9] (by exact rfl) (by decide +kernel)) ggX2_readBuilt_X2_readBlock
set_option maxRecDepth 20000 in
theorem ggX2_readBuilt_X2_readTest : GoodIn wsX2_readBuilt wsX2_readTest := goodIn_m (subW_q _ [(37, 1), (4, 1), (38, 3), (2, 1), (14, 3), (9, 1), (17, 2), (11, 2), (19, 12), (6, 3), (10, 1), (13, 1), (69, 6), (82, 8), (75, 7)] (by exact rfl)) gwd_X2_readTest
set_option maxRecDepth 20000 in
theorem gX2_readBuilt_X2_readTest : GoodIn wsX2_readBuilt (wsV RX2 88 RX2 yX2_readTest wsX2_readTest) := goodIn_app (goodIn_r _ [34, 35, 36, 9] (by exact rfl) (by decide +kernel)) ggX2_readBuilt_X2_readTest
set_option maxRecDepth 20000 in
theorem ggX2_readBuilt_X2_pass : GoodIn wsX2_readBuilt wsX2_pass := goodIn_m (subW_q _ [(24, 1), (4, 1), (18, 1), (11, 1), (14, 3), (9, 1), (17, 1), (12, 1), (19, 2), (25, 6), (69, 13)] (by exact rfl)) gwd_X2_pass
set_option maxRecDepth 20000 in
theorem gX2_readBuilt_X2_pass : GoodIn wsX2_readBuilt (wsV RX2 41 RX2 yX2_pass wsX2_pass) := goodIn_app (goodIn_r _ [21, 22, 23, 9] (by exact rfl) (by decide +kernel)) ggX2_readBuilt_X2_pass
set_option maxRecDepth 20000 in
theorem ggX2_readBlock_X2_refuse : GoodIn wsX2_readBlock wsX2_refuse := goodIn_m (subW_q _ [(7, 1), (2, 1), (8, 4), (69, 13)] (by exact rfl)) gwd_X2_refuse
set_option maxRecDepth 20000 in
theorem gX2_readBlock_X2_refuse : GoodIn wsX2_readBlock (wsV RX2 58 RX2 yX2_refuse wsX2_refuse) := goodIn_app (goodIn_r _ [3, 4, 5, 6] (by exact rfl) (by decide +kernel)) ggX2_readBlock_X2_refuse
