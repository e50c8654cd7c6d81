set_option maxRecDepth 20000 in
theorem ggX10_test_X10_skip : GoodIn wsX10_test wsX10_skip := goodIn_m (subW_q _ [(16, 1), (1, 1), (12, 1), (4, 1), (98, 51)] (by exact rfl)) gwd_X10_skip
set_option maxRecDepth 20000 in
theorem gX10_test_X10_skip : GoodIn wsX10_test (wsV RX10 208 RX10 yX10_skip wsX10_skip) := goodIn_app (goodIn_r _ [13, 14, 15, 10] (by exact rfl) (by decide +kernel)) ggX10_test_X10_skip
set_option maxRecDepth 20000 in
theorem ggX10_test_X10_isSign : GoodIn wsX10_test wsX10_isSign := goodIn_m (subW_q _ [(97, 1), (1, 1), (12, 1), (4, 1), (13, 3), (10, 1), (16, 1), (98, 51)] (by exact rfl)) gwd_X10_isSign
set_option maxRecDepth 20000 in
theorem gX10_test_X10_isSign : GoodIn wsX10_test (wsV RX10 228 RX10 yX10_isSign wsX10_isSign) := goodIn_app (goodIn_r _ [94, 95, 96, 10] (by exact rfl) (by decide +kernel)) ggX10_test_X10_isSign
set_option maxRecDepth 20000 in
theorem ggX10_test_X10_number : GoodIn wsX10_test wsX10_number := goodIn_m (subW_q _ [(90, 1), (1, 1), (12, 1), (4, 1), (6, 1), (13, 3), (10, 1), (16, 1), (91, 3), (72, 6), (98, 51)] (by exact rfl)) gwd_X10_number
set_option maxRecDepth 20000 in
theorem gX10_test_X10_number : GoodIn wsX10_test (wsV RX10 274 RX10 yX10_number wsX10_number) := goodIn_app (goodIn_r _ [87, 88, 89, 10] (by exact rfl) (by decide +kernel)) ggX10_test_X10_number
set_option maxRecDepth 20000 in
theorem ggX10_block_X10_isSign : GoodIn wsX10_block wsX10_isSign := goodIn_m (subW_q _ [(9, 1), (1, 1), (10, 5), (8, 1), (15, 1), (135, 51)] (by exact rfl)) gwd_X10_isSign
set_option maxRecDepth 20000 in
theorem gX10_block_X10_isSign : GoodIn wsX10_block (wsV RX10 228 RX10 yX10_isSign wsX10_isSign) := goodIn_app (goodIn_r _ [5, 6, 7, 8] (by exact rfl) (by decide +kernel)) ggX10_block_X10_isSign
set_option maxRecDepth 20000 in
theorem ggX10_block_X10_wrong : GoodIn wsX10_block wsX10_wrong := goodIn_m (subW_q _ [(19, 3), (135, 51)] (by exact rfl)) gwd_X10_wrong
set_option maxRecDepth 20000 in
theorem gX10_block_X10_wrong : GoodIn wsX10_block (wsV RX10 231 RX10 yX10_wrong wsX10_wrong) := goodIn_app (goodIn_r _ [16, 17, 18, 8] (by exact rfl) (by decide +kernel)) ggX10_block_X10_wrong
set_option maxRecDepth 20000 in
theorem ggX10_block_X10_steps : GoodIn wsX10_block wsX10_steps := goodIn_m (subW_q _ [(131, 1), (1, 1), (10, 1), (127, 1), (12, 3), (8, 1), (15, 1), (11, 1), (5, 3), (9, 1), (132, 3), (0, 1), (2, 3), (16, 111), (128, 3), (135, 51)] (by exact rfl)) gwd_X10_steps
set_option maxRecDepth 20000 in
theorem gX10_block_X10_steps : GoodIn wsX10_block (wsV RX10 280 RX10 yX10_steps wsX10_steps) := goodIn_app (goodIn_r _ [22, 23, 24, 8] (by exact rfl) (by decide +kernel)) ggX10_block_X10_steps
set_option maxRecDepth 20000 in
theorem ggX10_recipe_X10_right : GoodIn wsX10_recipe wsX10_right := goodIn_m (subW_q _ [(24, 1), (1, 1), (145, 51)] (by exact rfl)) gwd_X10_right
set_option maxRecDepth 20000 in
theorem gX10_recipe_X10_right : GoodIn wsX10_recipe (wsV RX10 108 RX10 yX10_right wsX10_right) := goodIn_app (goodIn_r _ [20, 21, 22, 23] (by exact rfl) (by decide +kernel)) ggX10_recipe_X10_right
set_option maxRecDepth 20000 in
theorem ggX10_recipe_X10_steps : GoodIn wsX10_recipe wsX10_steps := goodIn_m (subW_q _ [(28, 1), (4, 1), (3, 1), (16, 1), (29, 3), (23, 1), (32, 10), (8, 1), (15, 1), (14, 1), (42, 4), (5, 2), (25, 3), (46, 1), (9, 1), (47, 4), (11, 1), (51, 5), (10, 1), (56, 18), (12, 2), (74, 68), (7, 1), (142, 54)] (by exact rfl)) gwd_X10_steps
set_option maxRecDepth 20000 in
theorem gX10_recipe_X10_steps : GoodIn wsX10_recipe (wsV RX10 280 RX10 yX10_steps wsX10_steps) := goodIn_app (goodIn_r _ [25, 26, 27, 23] (by exact rfl) (by decide +kernel)) ggX10_recipe_X10_steps
set_option maxRecDepth 20000 in
theorem ggX10_fault_X10_right : GoodIn wsX10_fault wsX10_right := goodIn_m (subW_q _ [(8, 1), (1, 1), (9, 51)] (by exact rfl)) gwd_X10_right
set_option maxRecDepth 20000 in
theorem gX10_fault_X10_right : GoodIn wsX10_fault (wsV RX10 108 RX10 yX10_right wsX10_right) := goodIn_app (goodIn_r _ [4, 5, 6, 7] (by exact rfl) (by decide +kernel)) ggX10_fault_X10_right
set_option maxRecDepth 20000 in
theorem ggX10_row_X10_does : GoodIn wsX10_row wsX10_does := goodIn_m (subW_q _ [(6, 9), (5, 1), (15, 74), (0, 5), (89, 51)] (by exact rfl)) gwd_X10_does
set_option maxRecDepth 20000 in
theorem gX10_row_X10_does : GoodIn wsX10_row (wsV RX10 293 RX10 yX10_does wsX10_does) := goodIn_app (goodIn_r _ [2, 3, 4, 5] (by exact rfl) (by decide +kernel)) ggX10_row_X10_does
set_option maxRecDepth 20000 in
theorem ggX10_does_X10_counts : GoodIn wsX10_does wsX10_counts := goodIn_m (subW_q _ [(10, 3), (89, 51)] (by exact rfl)) gwd_X10_counts
set_option maxRecDepth 20000 in
theorem gX10_does_X10_counts : GoodIn wsX10_does (wsV RX10 297 RX10 yX10_counts wsX10_counts) := goodIn_app (goodIn_r _ [6, 7, 8, 9] (by exact rfl) (by decide +kernel)) ggX10_does_X10_counts
set_option maxRecDepth 20000 in
theorem ggX10_does_X10_dipped : GoodIn wsX10_does wsX10_dipped := goodIn_m (subW_q _ [(16, 1), (5, 1), (17, 5), (9, 1), (22, 3), (4, 1), (25, 12), (89, 51)] (by exact rfl)) gwd_X10_dipped
set_option maxRecDepth 20000 in
theorem gX10_does_X10_dipped : GoodIn wsX10_does (wsV RX10 301 RX10 yX10_dipped wsX10_dipped) := goodIn_app (goodIn_r _ [13, 14, 15, 9] (by exact rfl) (by decide +kernel)) ggX10_does_X10_dipped
set_option maxRecDepth 20000 in
theorem ggX10_does_X10_airs : GoodIn wsX10_does wsX10_airs := goodIn_m (subW_q _ [(40, 1), (4, 1), (25, 1), (41, 1), (89, 51)] (by exact rfl)) gwd_X10_airs
set_option maxRecDepth 20000 in
theorem gX10_does_X10_airs : GoodIn wsX10_does (wsV RX10 156 RX10 yX10_airs wsX10_airs) := goodIn_app (goodIn_r _ [37, 38, 39, 9] (by exact rfl) (by decide +kernel)) ggX10_does_X10_airs
set_option maxRecDepth 20000 in
theorem ggX10_does_X10_washes : GoodIn wsX10_does wsX10_washes := goodIn_m (subW_q _ [(45, 1), (4, 1), (25, 1), (41, 1), (89, 51)] (by exact rfl)) gwd_X10_washes
set_option maxRecDepth 20000 in
theorem gX10_does_X10_washes : GoodIn wsX10_does (wsV RX10 152 RX10 yX10_washes wsX10_washes) := goodIn_app (goodIn_r _ [42, 43, 44, 9] (by exact rfl) (by decide +kernel)) ggX10_does_X10_washes
set_option maxRecDepth 20000 in
theorem ggX10_does_X10_rested : GoodIn wsX10_does wsX10_rested := goodIn_m (subW_q _ [(49, 2), (6, 7), (51, 5), (31, 1), (5, 1), (32, 1), (56, 1), (30, 1), (89, 51)] (by exact rfl)) gwd_X10_rested
set_option maxRecDepth 20000 in
theorem gX10_does_X10_rested : GoodIn wsX10_does (wsV RX10 304 RX10 yX10_rested wsX10_rested) := goodIn_app (goodIn_r _ [46, 47, 48, 9] (by exact rfl) (by decide +kernel)) ggX10_does_X10_rested
set_option maxRecDepth 20000 in
theorem ggX10_does_X10_feeds : GoodIn wsX10_does wsX10_feeds := goodIn_m (subW_q _ [(60, 1), (31, 1), (5, 1), (89, 51)] (by exact rfl)) gwd_X10_feeds
set_option maxRecDepth 20000 in
theorem gX10_does_X10_feeds : GoodIn wsX10_does (wsV RX10 123 RX10 yX10_feeds wsX10_feeds) := goodIn_app (goodIn_r _ [57, 58, 59, 9] (by exact rfl) (by decide +kernel)) ggX10_does_X10_feeds
set_option maxRecDepth 20000 in
theorem ggX10_does_X10_limes : GoodIn wsX10_does wsX10_limes := goodIn_m (subW_q _ [(64, 1), (5, 1), (30, 2), (89, 51)] (by exact rfl)) gwd_X10_limes
set_option maxRecDepth 20000 in
theorem gX10_does_X10_limes : GoodIn wsX10_does (wsV RX10 127 RX10 yX10_limes wsX10_limes) := goodIn_app (goodIn_r _ [61, 62, 63, 9] (by exact rfl) (by decide +kernel)) ggX10_does_X10_limes
set_option maxRecDepth 20000 in
theorem ggX10_does_X10_doesBlocks : GoodIn wsX10_does wsX10_doesBlocks := goodIn_m (subW_q _ [(68, 1), (1, 2), (69, 2), (6, 7), (71, 7), (25, 1), (24, 1), (78, 5), (4, 1), (55, 1), (23, 1), (31, 1), (83, 1), (3, 1), (0, 1), (5, 1), (13, 10), (26, 5), (32, 23), (56, 12), (84, 56)] (by exact rfl)) gwd_X10_doesBlocks
set_option maxRecDepth 20000 in
theorem gX10_does_X10_doesBlocks : GoodIn wsX10_does (wsV RX10 307 RX10 yX10_doesBlocks wsX10_doesBlocks) := goodIn_app (goodIn_r _ [65, 66, 67, 9] (by exact rfl) (by decide +kernel)) ggX10_does_X10_doesBlocks
set_option maxRecDepth 20000 in
theorem ggX10_dipped_X10_moves : GoodIn wsX10_dipped wsX10_moves := goodIn_m (subW_q _ [(8, 3), (1, 1), (11, 2), (24, 51)] (by exact rfl)) gwd_X10_moves
set_option maxRecDepth 20000 in
theorem gX10_dipped_X10_moves : GoodIn wsX10_dipped (wsV RX10 137 RX10 yX10_moves wsX10_moves) := goodIn_app (goodIn_r _ [4, 5, 6, 7] (by exact rfl) (by decide +kernel)) ggX10_dipped_X10_moves
set_option maxRecDepth 20000 in
theorem ggX10_dipped_X10_dips : GoodIn wsX10_dipped wsX10_dips := goodIn_m (subW_q _ [(16, 1), (9, 1), (11, 1), (17, 1), (1, 1), (18, 6), (4, 5), (10, 1), (12, 1), (24, 51)] (by exact rfl)) gwd_X10_dips
set_option maxRecDepth 20000 in
theorem gX10_dipped_X10_dips : GoodIn wsX10_dipped (wsV RX10 147 RX10 yX10_dips wsX10_dips) := goodIn_app (goodIn_r _ [13, 14, 15, 7] (by exact rfl) (by decide +kernel)) ggX10_dipped_X10_dips
set_option maxRecDepth 20000 in
theorem ggX10_rested_X10_counts : GoodIn wsX10_rested wsX10_counts := goodIn_m (subW_q _ [(6, 3), (19, 51)] (by exact rfl)) gwd_X10_counts
set_option maxRecDepth 20000 in
theorem gX10_rested_X10_counts : GoodIn wsX10_rested (wsV RX10 297 RX10 yX10_counts wsX10_counts) := goodIn_app (goodIn_r _ [2, 3, 4, 5] (by exact rfl) (by decide +kernel)) ggX10_rested_X10_counts
set_option maxRecDepth 20000 in
theorem ggX10_rested_X10_hour : GoodIn wsX10_rested wsX10_hour := goodIn_m (subW_q _ [(12, 58)] (by exact rfl)) gwd_X10_hour
set_option maxRecDepth 20000 in
theorem gX10_rested_X10_hour : GoodIn wsX10_rested (wsV RX10 134 RX10 yX10_hour wsX10_hour) := goodIn_app (goodIn_r _ [9, 10, 11, 5] (by exact rfl) (by decide +kernel)) ggX10_rested_X10_hour
set_option maxRecDepth 20000 in
theorem ggX10_doesBlocks_X10_counts : GoodIn wsX10_doesBlocks wsX10_counts := goodIn_m (subW_q _ [(9, 3), (89, 51)] (by exact rfl)) gwd_X10_counts
set_option maxRecDepth 20000 in
theorem gX10_doesBlocks_X10_counts : GoodIn wsX10_doesBlocks (wsV RX10 297 RX10 yX10_counts wsX10_counts) := goodIn_app (goodIn_r _ [5, 6, 7, 8] (by exact rfl) (by decide +kernel)) ggX10_doesBlocks_X10_counts
set_option maxRecDepth 20000 in
theorem ggX10_doesBlocks_X10_row : GoodIn wsX10_doesBlocks wsX10_row := goodIn_m (subW_q _ [(84, 5), (8, 1), (32, 1), (1, 2), (31, 1), (26, 1), (33, 1), (5, 3), (9, 3), (34, 10), (28, 1), (20, 1), (19, 1), (44, 5), (29, 1), (49, 23), (27, 1), (72, 12), (0, 1), (3, 2), (12, 7), (21, 5), (30, 1), (89, 51)] (by exact rfl)) gwd_X10_row
set_option maxRecDepth 20000 in
theorem gX10_doesBlocks_X10_row : GoodIn wsX10_doesBlocks (wsV RX10 319 RX10 yX10_row wsX10_row) := goodIn_app (goodIn_r _ [12, 13, 14, 8] (by exact rfl) (by decide +kernel)) ggX10_doesBlocks_X10_row
set_option maxRecDepth 20000 in
theorem ggX10_doesBlocks_X10_shadeOf : GoodIn wsX10_doesBlocks wsX10_shadeOf := goodIn_m (subW_q _ [(18, 3), (89, 51)] (by exact rfl)) gwd_X10_shadeOf
set_option maxRecDepth 20000 in
theorem gX10_doesBlocks_X10_shadeOf : GoodIn wsX10_doesBlocks (wsV RX10 322 RX10 yX10_shadeOf wsX10_shadeOf) := goodIn_app (goodIn_r _ [15, 16, 17, 8] (by exact rfl) (by decide +kernel)) ggX10_doesBlocks_X10_shadeOf
set_option maxRecDepth 20000 in
theorem ggX10_doesBlocks_X10_holds : GoodIn wsX10_doesBlocks wsX10_holds := goodIn_m (subW_q _ [(24, 5), (2, 1), (29, 3), (15, 3), (8, 1), (18, 3), (89, 51)] (by exact rfl)) gwd_X10_holds
set_option maxRecDepth 20000 in
theorem gX10_doesBlocks_X10_holds : GoodIn wsX10_doesBlocks (wsV RX10 325 RX10 yX10_holds wsX10_holds) := goodIn_app (goodIn_r _ [21, 22, 23, 8] (by exact rfl) (by decide +kernel)) ggX10_doesBlocks_X10_holds
set_option maxRecDepth 20000 in
theorem ggX10_holds_X10_shadeOf : GoodIn wsX10_holds wsX10_shadeOf := goodIn_m (subW_q _ [(13, 54)] (by exact rfl)) gwd_X10_shadeOf
set_option maxRecDepth 20000 in
theorem gX10_holds_X10_shadeOf : GoodIn wsX10_holds (wsV RX10 322 RX10 yX10_shadeOf wsX10_shadeOf) := goodIn_app (goodIn_r _ [9, 10, 11, 12] (by exact rfl) (by decide +kernel)) ggX10_holds_X10_shadeOf
set_option maxRecDepth 20000 in
theorem ggX10_run_X10_isCloth : GoodIn wsX10_run wsX10_isCloth := goodIn_m (subW_q _ [(13, 6), (12, 1), (19, 1), (108, 51)] (by exact rfl)) gwd_X10_isCloth
set_option maxRecDepth 20000 in
theorem gX10_run_X10_isCloth : GoodIn wsX10_run (wsV RX10 141 RX10 yX10_isCloth wsX10_isCloth) := goodIn_app (goodIn_r _ [9, 10, 11, 12] (by exact rfl) (by decide +kernel)) ggX10_run_X10_isCloth
set_option maxRecDepth 20000 in
theorem ggX10_run_X10_isDry : GoodIn wsX10_run wsX10_isDry := goodIn_m (subW_q _ [(23, 2), (108, 51)] (by exact rfl)) gwd_X10_isDry
set_option maxRecDepth 20000 in
theorem gX10_run_X10_isDry : GoodIn wsX10_run (wsV RX10 144 RX10 yX10_isDry wsX10_isDry) := goodIn_app (goodIn_r _ [20, 21, 22, 12] (by exact rfl) (by decide +kernel)) ggX10_run_X10_isDry
set_option maxRecDepth 20000 in
theorem ggX10_run_X10_row : GoodIn wsX10_run wsX10_row := goodIn_m (subW_q _ [(28, 5), (12, 1), (33, 10), (3, 1), (2, 1), (43, 4), (5, 1), (4, 1), (47, 31), (6, 1), (78, 20), (25, 3), (98, 61)] (by exact rfl)) gwd_X10_row
set_option maxRecDepth 20000 in
theorem gX10_run_X10_row : GoodIn wsX10_run (wsV RX10 319 RX10 yX10_row wsX10_row) := goodIn_app (goodIn_r _ [25, 26, 27, 12] (by exact rfl) (by decide +kernel)) ggX10_run_X10_row
