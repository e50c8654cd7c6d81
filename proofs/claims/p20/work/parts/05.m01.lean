set_option maxRecDepth 20000 in
theorem ggX10_need_X10_isSign : GoodIn wsX10_need wsX10_isSign := goodIn_m (subW_q _ [(6, 1), (1, 1), (7, 5), (5, 1), (12, 1), (19, 51)] (by exact rfl)) gwd_X10_isSign
set_option maxRecDepth 20000 in
theorem gX10_need_X10_isSign : GoodIn wsX10_need (wsV RX10 228 RX10 yX10_isSign wsX10_isSign) := goodIn_app (goodIn_r _ [2, 3, 4, 5] (by exact rfl) (by decide +kernel)) ggX10_need_X10_isSign
set_option maxRecDepth 20000 in
theorem ggX10_need_X10_wrong : GoodIn wsX10_need wsX10_wrong := goodIn_m (subW_q _ [(16, 54)] (by exact rfl)) gwd_X10_wrong
set_option maxRecDepth 20000 in
theorem gX10_need_X10_wrong : GoodIn wsX10_need (wsV RX10 231 RX10 yX10_wrong wsX10_wrong) := goodIn_app (goodIn_r _ [13, 14, 15, 5] (by exact rfl) (by decide +kernel)) ggX10_need_X10_wrong
set_option maxRecDepth 20000 in
theorem ggX10_needWord_X10_word : GoodIn wsX10_needWord wsX10_word := goodIn_m (subW_q _ [(6, 1), (1, 1), (7, 5), (5, 1), (12, 56), (78, 51)] (by exact rfl)) gwd_X10_word
set_option maxRecDepth 20000 in
theorem gX10_needWord_X10_word : GoodIn wsX10_needWord (wsV RX10 234 RX10 yX10_word wsX10_word) := goodIn_app (goodIn_r _ [2, 3, 4, 5] (by exact rfl) (by decide +kernel)) ggX10_needWord_X10_word
set_option maxRecDepth 20000 in
theorem ggX10_needWord_X10_wrong : GoodIn wsX10_needWord wsX10_wrong := goodIn_m (subW_q _ [(71, 3), (78, 51)] (by exact rfl)) gwd_X10_wrong
set_option maxRecDepth 20000 in
theorem gX10_needWord_X10_wrong : GoodIn wsX10_needWord (wsV RX10 231 RX10 yX10_wrong wsX10_wrong) := goodIn_app (goodIn_r _ [68, 69, 70, 5] (by exact rfl) (by decide +kernel)) ggX10_needWord_X10_wrong
set_option maxRecDepth 20000 in
theorem ggX10_needWord_X10_pass : GoodIn wsX10_needWord wsX10_pass := goodIn_m (subW_q _ [(77, 1), (1, 1), (16, 2), (5, 1), (18, 13), (78, 51)] (by exact rfl)) gwd_X10_pass
set_option maxRecDepth 20000 in
theorem gX10_needWord_X10_pass : GoodIn wsX10_needWord (wsV RX10 237 RX10 yX10_pass wsX10_pass) := goodIn_app (goodIn_r _ [74, 75, 76, 5] (by exact rfl) (by decide +kernel)) ggX10_needWord_X10_pass
set_option maxRecDepth 20000 in
theorem ggX10_number_X10_skip : GoodIn wsX10_number wsX10_skip := goodIn_m (subW_q _ [(9, 1), (1, 3), (19, 51)] (by exact rfl)) gwd_X10_skip
set_option maxRecDepth 20000 in
theorem gX10_number_X10_skip : GoodIn wsX10_number (wsV RX10 208 RX10 yX10_skip wsX10_skip) := goodIn_app (goodIn_r _ [5, 6, 7, 8] (by exact rfl) (by decide +kernel)) ggX10_number_X10_skip
set_option maxRecDepth 20000 in
theorem ggX10_number_X10_isDigit : GoodIn wsX10_number wsX10_isDigit := goodIn_m (subW_q _ [(12, 1)] (by exact rfl)) gwd_X10_isDigit
set_option maxRecDepth 20000 in
theorem gX10_number_X10_isDigit : GoodIn wsX10_number (va_wsS RX10 240 yX10_isDigit wsX10_isDigit) := goodIn_app (goodIn_r _ [10, 11, 8] (by exact rfl) (by decide +kernel)) ggX10_number_X10_isDigit
set_option maxRecDepth 20000 in
theorem ggX10_number_X10_wrong : GoodIn wsX10_number wsX10_wrong := goodIn_m (subW_q _ [(16, 54)] (by exact rfl)) gwd_X10_wrong
set_option maxRecDepth 20000 in
theorem gX10_number_X10_wrong : GoodIn wsX10_number (wsV RX10 231 RX10 yX10_wrong wsX10_wrong) := goodIn_app (goodIn_r _ [13, 14, 15, 8] (by exact rfl) (by decide +kernel)) ggX10_number_X10_wrong
set_option maxRecDepth 20000 in
theorem ggX10_steps_X10_skip : GoodIn wsX10_steps wsX10_skip := goodIn_m (subW_q _ [(8, 1), (1, 2), (9, 1), (135, 51)] (by exact rfl)) gwd_X10_skip
set_option maxRecDepth 20000 in
theorem gX10_steps_X10_skip : GoodIn wsX10_steps (wsV RX10 208 RX10 yX10_skip wsX10_skip) := goodIn_app (goodIn_r _ [4, 5, 6, 7] (by exact rfl) (by decide +kernel)) ggX10_steps_X10_skip
set_option maxRecDepth 20000 in
theorem ggX10_steps_X10_isSign : GoodIn wsX10_steps wsX10_isSign := goodIn_m (subW_q _ [(13, 1), (1, 2), (9, 1), (4, 5), (135, 51)] (by exact rfl)) gwd_X10_isSign
set_option maxRecDepth 20000 in
theorem gX10_steps_X10_isSign : GoodIn wsX10_steps (wsV RX10 228 RX10 yX10_isSign wsX10_isSign) := goodIn_app (goodIn_r _ [10, 11, 12, 7] (by exact rfl) (by decide +kernel)) ggX10_steps_X10_isSign
set_option maxRecDepth 20000 in
theorem ggX10_steps_X10_step : GoodIn wsX10_steps wsX10_step := goodIn_m (subW_q _ [(130, 1), (1, 1), (131, 1), (31, 1), (42, 1), (36, 1), (20, 1), (19, 1), (3, 1), (63, 3), (7, 1), (66, 1), (2, 1), (9, 1), (4, 3), (8, 1), (67, 55), (21, 6), (122, 4), (132, 3), (17, 2), (10, 4), (27, 4), (32, 4), (37, 5), (43, 20), (126, 4), (0, 1), (14, 3), (135, 51)] (by exact rfl)) gwd_X10_step
set_option maxRecDepth 20000 in
theorem gX10_steps_X10_step : GoodIn wsX10_steps (wsV RX10 246 RX10 yX10_step wsX10_step) := goodIn_app (goodIn_r _ [14, 15, 16, 7] (by exact rfl) (by decide +kernel)) ggX10_steps_X10_step
set_option maxRecDepth 20000 in
theorem ggX10_step_X10_word : GoodIn wsX10_step wsX10_word := goodIn_m (subW_q _ [(13, 1), (1, 1), (14, 5), (12, 1), (19, 56), (135, 51)] (by exact rfl)) gwd_X10_word
set_option maxRecDepth 20000 in
theorem gX10_step_X10_word : GoodIn wsX10_step (wsV RX10 234 RX10 yX10_word wsX10_word) := goodIn_app (goodIn_r _ [9, 10, 11, 12] (by exact rfl) (by decide +kernel)) ggX10_step_X10_word
set_option maxRecDepth 20000 in
theorem ggX10_step_X10_wrong : GoodIn wsX10_step wsX10_wrong := goodIn_m (subW_q _ [(78, 3), (135, 51)] (by exact rfl)) gwd_X10_wrong
set_option maxRecDepth 20000 in
theorem gX10_step_X10_wrong : GoodIn wsX10_step (wsV RX10 231 RX10 yX10_wrong wsX10_wrong) := goodIn_app (goodIn_r _ [75, 76, 77, 12] (by exact rfl) (by decide +kernel)) ggX10_step_X10_wrong
set_option maxRecDepth 20000 in
theorem ggX10_step_X10_pass : GoodIn wsX10_step wsX10_pass := goodIn_m (subW_q _ [(84, 1), (1, 1), (23, 2), (12, 1), (25, 13), (135, 51)] (by exact rfl)) gwd_X10_pass
set_option maxRecDepth 20000 in
theorem gX10_step_X10_pass : GoodIn wsX10_step (wsV RX10 237 RX10 yX10_pass wsX10_pass) := goodIn_app (goodIn_r _ [81, 82, 83, 12] (by exact rfl) (by decide +kernel)) ggX10_step_X10_pass
set_option maxRecDepth 20000 in
theorem ggX10_step_X10_rest : GoodIn wsX10_step wsX10_rest := goodIn_m (subW_q _ [(97, 1), (3, 1), (98, 3), (12, 1), (101, 1), (5, 1), (102, 5), (4, 1), (107, 4), (1, 1), (14, 6), (111, 3), (75, 6), (114, 4), (90, 4), (118, 9), (9, 3), (13, 1), (20, 55), (81, 4), (127, 4), (88, 2), (7, 1), (6, 1), (94, 3), (0, 1), (2, 1), (8, 1), (85, 3), (131, 55)] (by exact rfl)) gwd_X10_rest
set_option maxRecDepth 20000 in
theorem gX10_step_X10_rest : GoodIn wsX10_step (wsV RX10 252 RX10 yX10_rest wsX10_rest) := goodIn_app (goodIn_r _ [85, 86, 87, 12] (by exact rfl) (by decide +kernel)) ggX10_step_X10_rest
set_option maxRecDepth 20000 in
theorem ggX10_rest_X10_numbers : GoodIn wsX10_rest wsX10_numbers := goodIn_m (subW_q _ [(6, 6), (5, 1), (12, 22), (135, 51)] (by exact rfl)) gwd_X10_numbers
set_option maxRecDepth 20000 in
theorem gX10_rest_X10_numbers : GoodIn wsX10_rest (wsV RX10 254 RX10 yX10_numbers wsX10_numbers) := goodIn_app (goodIn_r _ [2, 3, 4, 5] (by exact rfl) (by decide +kernel)) ggX10_rest_X10_numbers
set_option maxRecDepth 20000 in
theorem ggX10_rest_X10_need : GoodIn wsX10_rest wsX10_need := goodIn_m (subW_q _ [(37, 1), (18, 1), (38, 3), (5, 1), (41, 1), (19, 6), (28, 6), (135, 51)] (by exact rfl)) gwd_X10_need
set_option maxRecDepth 20000 in
theorem gX10_rest_X10_need : GoodIn wsX10_rest (wsV RX10 258 RX10 yX10_need wsX10_need) := goodIn_app (goodIn_r _ [34, 35, 36, 5] (by exact rfl) (by decide +kernel)) ggX10_rest_X10_need
set_option maxRecDepth 20000 in
theorem ggX10_rest_X10_single : GoodIn wsX10_rest wsX10_single := goodIn_m (subW_q _ [(12, 2), (8, 1), (14, 3), (5, 1), (17, 17), (135, 51)] (by exact rfl)) gwd_X10_single
set_option maxRecDepth 20000 in
theorem gX10_rest_X10_single : GoodIn wsX10_rest (wsV RX10 261 RX10 yX10_single wsX10_single) := goodIn_app (goodIn_r _ [9, 10, 11, 5] (by exact rfl) (by decide +kernel)) ggX10_rest_X10_single
set_option maxRecDepth 20000 in
theorem ggX10_rest_X10_block : GoodIn wsX10_rest wsX10_block := goodIn_m (subW_q _ [(118, 1), (18, 1), (119, 3), (38, 3), (5, 1), (41, 1), (19, 6), (28, 6), (122, 3), (0, 5), (6, 12), (25, 3), (34, 4), (42, 76), (125, 61)] (by exact rfl)) gwd_X10_block
set_option maxRecDepth 20000 in
theorem gX10_rest_X10_block : GoodIn wsX10_rest (wsV RX10 264 RX10 yX10_block wsX10_block) := goodIn_app (goodIn_r _ [42, 43, 44, 5] (by exact rfl) (by decide +kernel)) ggX10_rest_X10_block
set_option maxRecDepth 20000 in
theorem ggX10_rest_X10_test : GoodIn wsX10_rest wsX10_test := goodIn_m (subW_q _ [(48, 1), (18, 1), (49, 2), (20, 1), (7, 2), (51, 3), (5, 1), (54, 1), (19, 1), (21, 4), (55, 55), (28, 6), (110, 4), (9, 9), (25, 3), (38, 4), (135, 51)] (by exact rfl)) gwd_X10_test
set_option maxRecDepth 20000 in
theorem gX10_rest_X10_test : GoodIn wsX10_rest (wsV RX10 268 RX10 yX10_test wsX10_test) := goodIn_app (goodIn_r _ [45, 46, 47, 5] (by exact rfl) (by decide +kernel)) ggX10_rest_X10_test
set_option maxRecDepth 20000 in
theorem ggX10_rest_X10_word : GoodIn wsX10_rest wsX10_word := goodIn_m (subW_q _ [(54, 1), (18, 6), (5, 1), (24, 1), (55, 55), (135, 51)] (by exact rfl)) gwd_X10_word
set_option maxRecDepth 20000 in
theorem gX10_rest_X10_word : GoodIn wsX10_rest (wsV RX10 234 RX10 yX10_word wsX10_word) := goodIn_app (goodIn_r _ [51, 52, 53, 5] (by exact rfl) (by decide +kernel)) ggX10_rest_X10_word
set_option maxRecDepth 20000 in
theorem ggX10_rest_X10_pass : GoodIn wsX10_rest wsX10_pass := goodIn_m (subW_q _ [(113, 1), (18, 1), (58, 2), (5, 1), (60, 13), (135, 51)] (by exact rfl)) gwd_X10_pass
set_option maxRecDepth 20000 in
theorem gX10_rest_X10_pass : GoodIn wsX10_rest (wsV RX10 237 RX10 yX10_pass wsX10_pass) := goodIn_app (goodIn_r _ [110, 111, 112, 5] (by exact rfl) (by decide +kernel)) ggX10_rest_X10_pass
set_option maxRecDepth 20000 in
theorem ggX10_rest_X10_needWord : GoodIn wsX10_rest wsX10_needWord := goodIn_m (subW_q _ [(117, 1), (18, 1), (51, 3), (5, 1), (54, 1), (19, 6), (55, 55), (28, 6), (110, 4), (135, 51)] (by exact rfl)) gwd_X10_needWord
set_option maxRecDepth 20000 in
theorem gX10_rest_X10_needWord : GoodIn wsX10_rest (wsV RX10 271 RX10 yX10_needWord wsX10_needWord) := goodIn_app (goodIn_r _ [114, 115, 116, 5] (by exact rfl) (by decide +kernel)) ggX10_rest_X10_needWord
set_option maxRecDepth 20000 in
theorem ggX10_single_X10_number : GoodIn wsX10_single wsX10_number := goodIn_m (subW_q _ [(7, 4), (2, 1), (11, 3), (6, 1), (14, 61)] (by exact rfl)) gwd_X10_number
set_option maxRecDepth 20000 in
theorem gX10_single_X10_number : GoodIn wsX10_single (wsV RX10 274 RX10 yX10_number wsX10_number) := goodIn_app (goodIn_r _ [3, 4, 5, 6] (by exact rfl) (by decide +kernel)) ggX10_single_X10_number
set_option maxRecDepth 20000 in
theorem ggX10_numbers_X10_single : GoodIn wsX10_numbers wsX10_single := goodIn_m (subW_q _ [(7, 2), (2, 1), (9, 3), (6, 1), (12, 68)] (by exact rfl)) gwd_X10_single
set_option maxRecDepth 20000 in
theorem gX10_numbers_X10_single : GoodIn wsX10_numbers (wsV RX10 261 RX10 yX10_single wsX10_single) := goodIn_app (goodIn_r _ [3, 4, 5, 6] (by exact rfl) (by decide +kernel)) ggX10_numbers_X10_single
set_option maxRecDepth 20000 in
theorem ggX10_numbers_X10_number : GoodIn wsX10_numbers wsX10_number := goodIn_m (subW_q _ [(12, 4), (2, 1), (16, 3), (6, 1), (19, 61)] (by exact rfl)) gwd_X10_number
set_option maxRecDepth 20000 in
theorem gX10_numbers_X10_number : GoodIn wsX10_numbers (wsV RX10 274 RX10 yX10_number wsX10_number) := goodIn_app (goodIn_r _ [9, 10, 11, 6] (by exact rfl) (by decide +kernel)) ggX10_numbers_X10_number
set_option maxRecDepth 20000 in
theorem ggX10_test_X10_word : GoodIn wsX10_test wsX10_word := goodIn_m (subW_q _ [(11, 1), (1, 1), (12, 1), (4, 1), (13, 3), (10, 1), (16, 56), (98, 51)] (by exact rfl)) gwd_X10_word
set_option maxRecDepth 20000 in
theorem gX10_test_X10_word : GoodIn wsX10_test (wsV RX10 234 RX10 yX10_word wsX10_word) := goodIn_app (goodIn_r _ [7, 8, 9, 10] (by exact rfl) (by decide +kernel)) ggX10_test_X10_word
set_option maxRecDepth 20000 in
theorem ggX10_test_X10_wrong : GoodIn wsX10_test wsX10_wrong := goodIn_m (subW_q _ [(75, 3), (98, 51)] (by exact rfl)) gwd_X10_wrong
set_option maxRecDepth 20000 in
theorem gX10_test_X10_wrong : GoodIn wsX10_test (wsV RX10 231 RX10 yX10_wrong wsX10_wrong) := goodIn_app (goodIn_r _ [72, 73, 74, 10] (by exact rfl) (by decide +kernel)) ggX10_test_X10_wrong
set_option maxRecDepth 20000 in
theorem ggX10_test_X10_pass : GoodIn wsX10_test wsX10_pass := goodIn_m (subW_q _ [(81, 1), (1, 1), (20, 2), (10, 1), (22, 13), (98, 51)] (by exact rfl)) gwd_X10_pass
set_option maxRecDepth 20000 in
theorem gX10_test_X10_pass : GoodIn wsX10_test (wsV RX10 237 RX10 yX10_pass wsX10_pass) := goodIn_app (goodIn_r _ [78, 79, 80, 10] (by exact rfl) (by decide +kernel)) ggX10_test_X10_pass
set_option maxRecDepth 20000 in
theorem ggX10_test_X10_single : GoodIn wsX10_test wsX10_single := goodIn_m (subW_q _ [(85, 2), (6, 1), (87, 3), (10, 1), (90, 1), (1, 1), (12, 1), (4, 1), (13, 4), (91, 3), (72, 6), (98, 51)] (by exact rfl)) gwd_X10_single
set_option maxRecDepth 20000 in
theorem gX10_test_X10_single : GoodIn wsX10_test (wsV RX10 261 RX10 yX10_single wsX10_single) := goodIn_app (goodIn_r _ [82, 83, 84, 10] (by exact rfl) (by decide +kernel)) ggX10_test_X10_single
