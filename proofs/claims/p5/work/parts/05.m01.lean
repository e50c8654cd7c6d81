set_option maxRecDepth 20000 in
theorem ggX10_need_X10_isSign : GoodIn wsX10_need wsX10_isSign := goodIn_m (subW_r _ [6, 1, 7, 8, 9, 10, 11, 5, 12, 19, 20, 21, 22, 23, 24, 25, 26, 27, 28, 29, 30, 31, 32, 33, 34, 35, 36, 37, 38, 39, 40, 41, 42, 43, 44, 45, 46, 47, 48, 49, 50, 51, 52, 53, 54, 55, 56, 57, 58, 59, 60, 61, 62, 63, 64, 65, 66, 67, 68, 69] (by exact rfl)) gwd_X10_isSign
set_option maxRecDepth 20000 in
theorem gX10_need_X10_isSign : GoodIn wsX10_need (wsV RX10 228 RX10 yX10_isSign wsX10_isSign) := goodIn_app (goodIn_r _ [2, 3, 4, 5] (by exact rfl) (by decide +kernel)) ggX10_need_X10_isSign
set_option maxRecDepth 20000 in
theorem ggX10_need_X10_wrong : GoodIn wsX10_need wsX10_wrong := goodIn_m (subW_r _ [16, 17, 18, 19, 20, 21, 22, 23, 24, 25, 26, 27, 28, 29, 30, 31, 32, 33, 34, 35, 36, 37, 38, 39, 40, 41, 42, 43, 44, 45, 46, 47, 48, 49, 50, 51, 52, 53, 54, 55, 56, 57, 58, 59, 60, 61, 62, 63, 64, 65, 66, 67, 68, 69] (by exact rfl)) gwd_X10_wrong
set_option maxRecDepth 20000 in
theorem gX10_need_X10_wrong : GoodIn wsX10_need (wsV RX10 231 RX10 yX10_wrong wsX10_wrong) := goodIn_app (goodIn_r _ [13, 14, 15, 5] (by exact rfl) (by decide +kernel)) ggX10_need_X10_wrong
set_option maxRecDepth 20000 in
theorem ggX10_needWord_X10_word : GoodIn wsX10_needWord wsX10_word := goodIn_m (subW_r _ [6, 1, 7, 8, 9, 10, 11, 5, 12, 13, 14, 15, 16, 17, 18, 19, 20, 21, 22, 23, 24, 25, 26, 27, 28, 29, 30, 31, 32, 33, 34, 35, 36, 37, 38, 39, 40, 41, 42, 43, 44, 45, 46, 47, 48, 49, 50, 51, 52, 53, 54, 55, 56, 57, 58, 59, 60, 61, 62, 63, 64, 65, 66, 67, 78, 79, 80, 81, 82, 83, 84, 85, 86, 87, 88, 89, 90, 91, 92, 93, 94, 95, 96, 97, 98, 99, 100, 101, 102, 103, 104, 105, 106, 107, 108, 109, 110, 111, 112, 113, 114, 115, 116, 117, 118, 119, 120, 121, 122, 123, 124, 125, 126, 127, 128] (by exact rfl)) gwd_X10_word
set_option maxRecDepth 20000 in
theorem gX10_needWord_X10_word : GoodIn wsX10_needWord (wsV RX10 234 RX10 yX10_word wsX10_word) := goodIn_app (goodIn_r _ [2, 3, 4, 5] (by exact rfl) (by decide +kernel)) ggX10_needWord_X10_word
set_option maxRecDepth 20000 in
theorem ggX10_needWord_X10_wrong : GoodIn wsX10_needWord wsX10_wrong := goodIn_m (subW_r _ [71, 72, 73, 78, 79, 80, 81, 82, 83, 84, 85, 86, 87, 88, 89, 90, 91, 92, 93, 94, 95, 96, 97, 98, 99, 100, 101, 102, 103, 104, 105, 106, 107, 108, 109, 110, 111, 112, 113, 114, 115, 116, 117, 118, 119, 120, 121, 122, 123, 124, 125, 126, 127, 128] (by exact rfl)) gwd_X10_wrong
set_option maxRecDepth 20000 in
theorem gX10_needWord_X10_wrong : GoodIn wsX10_needWord (wsV RX10 231 RX10 yX10_wrong wsX10_wrong) := goodIn_app (goodIn_r _ [68, 69, 70, 5] (by exact rfl) (by decide +kernel)) ggX10_needWord_X10_wrong
set_option maxRecDepth 20000 in
theorem ggX10_needWord_X10_pass : GoodIn wsX10_needWord wsX10_pass := goodIn_m (subW_r _ [77, 1, 16, 17, 5, 18, 19, 20, 21, 22, 23, 24, 25, 26, 27, 28, 29, 30, 78, 79, 80, 81, 82, 83, 84, 85, 86, 87, 88, 89, 90, 91, 92, 93, 94, 95, 96, 97, 98, 99, 100, 101, 102, 103, 104, 105, 106, 107, 108, 109, 110, 111, 112, 113, 114, 115, 116, 117, 118, 119, 120, 121, 122, 123, 124, 125, 126, 127, 128] (by exact rfl)) gwd_X10_pass
set_option maxRecDepth 20000 in
theorem gX10_needWord_X10_pass : GoodIn wsX10_needWord (wsV RX10 237 RX10 yX10_pass wsX10_pass) := goodIn_app (goodIn_r _ [74, 75, 76, 5] (by exact rfl) (by decide +kernel)) ggX10_needWord_X10_pass
set_option maxRecDepth 20000 in
theorem ggX10_number_X10_skip : GoodIn wsX10_number wsX10_skip := goodIn_m (subW_r _ [9, 1, 2, 3, 19, 20, 21, 22, 23, 24, 25, 26, 27, 28, 29, 30, 31, 32, 33, 34, 35, 36, 37, 38, 39, 40, 41, 42, 43, 44, 45, 46, 47, 48, 49, 50, 51, 52, 53, 54, 55, 56, 57, 58, 59, 60, 61, 62, 63, 64, 65, 66, 67, 68, 69] (by exact rfl)) gwd_X10_skip
set_option maxRecDepth 20000 in
theorem gX10_number_X10_skip : GoodIn wsX10_number (wsV RX10 208 RX10 yX10_skip wsX10_skip) := goodIn_app (goodIn_r _ [5, 6, 7, 8] (by exact rfl) (by decide +kernel)) ggX10_number_X10_skip
set_option maxRecDepth 20000 in
theorem ggX10_number_X10_isDigit : GoodIn wsX10_number wsX10_isDigit := goodIn_m (subW_r _ [12] (by exact rfl)) gwd_X10_isDigit
set_option maxRecDepth 20000 in
theorem gX10_number_X10_isDigit : GoodIn wsX10_number (va_wsS RX10 240 yX10_isDigit wsX10_isDigit) := goodIn_app (goodIn_r _ [10, 11, 8] (by exact rfl) (by decide +kernel)) ggX10_number_X10_isDigit
set_option maxRecDepth 20000 in
theorem ggX10_number_X10_wrong : GoodIn wsX10_number wsX10_wrong := goodIn_m (subW_r _ [16, 17, 18, 19, 20, 21, 22, 23, 24, 25, 26, 27, 28, 29, 30, 31, 32, 33, 34, 35, 36, 37, 38, 39, 40, 41, 42, 43, 44, 45, 46, 47, 48, 49, 50, 51, 52, 53, 54, 55, 56, 57, 58, 59, 60, 61, 62, 63, 64, 65, 66, 67, 68, 69] (by exact rfl)) gwd_X10_wrong
set_option maxRecDepth 20000 in
theorem gX10_number_X10_wrong : GoodIn wsX10_number (wsV RX10 231 RX10 yX10_wrong wsX10_wrong) := goodIn_app (goodIn_r _ [13, 14, 15, 8] (by exact rfl) (by decide +kernel)) ggX10_number_X10_wrong
set_option maxRecDepth 20000 in
theorem ggX10_steps_X10_skip : GoodIn wsX10_steps wsX10_skip := goodIn_m (subW_r _ [8, 1, 2, 9, 135, 136, 137, 138, 139, 140, 141, 142, 143, 144, 145, 146, 147, 148, 149, 150, 151, 152, 153, 154, 155, 156, 157, 158, 159, 160, 161, 162, 163, 164, 165, 166, 167, 168, 169, 170, 171, 172, 173, 174, 175, 176, 177, 178, 179, 180, 181, 182, 183, 184, 185] (by exact rfl)) gwd_X10_skip
set_option maxRecDepth 20000 in
theorem gX10_steps_X10_skip : GoodIn wsX10_steps (wsV RX10 208 RX10 yX10_skip wsX10_skip) := goodIn_app (goodIn_r _ [4, 5, 6, 7] (by exact rfl) (by decide +kernel)) ggX10_steps_X10_skip
set_option maxRecDepth 20000 in
theorem ggX10_steps_X10_isSign : GoodIn wsX10_steps wsX10_isSign := goodIn_m (subW_r _ [13, 1, 2, 9, 4, 5, 6, 7, 8, 135, 136, 137, 138, 139, 140, 141, 142, 143, 144, 145, 146, 147, 148, 149, 150, 151, 152, 153, 154, 155, 156, 157, 158, 159, 160, 161, 162, 163, 164, 165, 166, 167, 168, 169, 170, 171, 172, 173, 174, 175, 176, 177, 178, 179, 180, 181, 182, 183, 184, 185] (by exact rfl)) gwd_X10_isSign
set_option maxRecDepth 20000 in
theorem gX10_steps_X10_isSign : GoodIn wsX10_steps (wsV RX10 228 RX10 yX10_isSign wsX10_isSign) := goodIn_app (goodIn_r _ [10, 11, 12, 7] (by exact rfl) (by decide +kernel)) ggX10_steps_X10_isSign
set_option maxRecDepth 20000 in
theorem ggX10_steps_X10_step : GoodIn wsX10_steps wsX10_step := goodIn_m (subW_r _ [130, 1, 131, 31, 42, 36, 20, 19, 3, 63, 64, 65, 7, 66, 2, 9, 4, 5, 6, 8, 67, 68, 69, 70, 71, 72, 73, 74, 75, 76, 77, 78, 79, 80, 81, 82, 83, 84, 85, 86, 87, 88, 89, 90, 91, 92, 93, 94, 95, 96, 97, 98, 99, 100, 101, 102, 103, 104, 105, 106, 107, 108, 109, 110, 111, 112, 113, 114, 115, 116, 117, 118, 119, 120, 121, 21, 22, 23, 24, 25, 26, 122, 123, 124, 125, 132, 133, 134, 17, 18, 10, 11, 12, 13, 27, 28, 29, 30, 32, 33, 34, 35, 37, 38, 39, 40, 41, 43, 44, 45, 46, 47, 48, 49, 50, 51, 52, 53, 54, 55, 56, 57, 58, 59, 60, 61, 62, 126, 127, 128, 129, 0, 14, 15, 16, 135, 136, 137, 138, 139, 140, 141, 142, 143, 144, 145, 146, 147, 148, 149, 150, 151, 152, 153, 154, 155, 156, 157, 158, 159, 160, 161, 162, 163, 164, 165, 166, 167, 168, 169, 170, 171, 172, 173, 174, 175, 176, 177, 178, 179, 180, 181, 182, 183, 184, 185] (by exact rfl)) gwd_X10_step
set_option maxRecDepth 20000 in
theorem gX10_steps_X10_step : GoodIn wsX10_steps (wsV RX10 246 RX10 yX10_step wsX10_step) := goodIn_app (goodIn_r _ [14, 15, 16, 7] (by exact rfl) (by decide +kernel)) ggX10_steps_X10_step
set_option maxRecDepth 20000 in
theorem ggX10_step_X10_word : GoodIn wsX10_step wsX10_word := goodIn_m (subW_r _ [13, 1, 14, 15, 16, 17, 18, 12, 19, 20, 21, 22, 23, 24, 25, 26, 27, 28, 29, 30, 31, 32, 33, 34, 35, 36, 37, 38, 39, 40, 41, 42, 43, 44, 45, 46, 47, 48, 49, 50, 51, 52, 53, 54, 55, 56, 57, 58, 59, 60, 61, 62, 63, 64, 65, 66, 67, 68, 69, 70, 71, 72, 73, 74, 135, 136, 137, 138, 139, 140, 141, 142, 143, 144, 145, 146, 147, 148, 149, 150, 151, 152, 153, 154, 155, 156, 157, 158, 159, 160, 161, 162, 163, 164, 165, 166, 167, 168, 169, 170, 171, 172, 173, 174, 175, 176, 177, 178, 179, 180, 181, 182, 183, 184, 185] (by exact rfl)) gwd_X10_word
set_option maxRecDepth 20000 in
theorem gX10_step_X10_word : GoodIn wsX10_step (wsV RX10 234 RX10 yX10_word wsX10_word) := goodIn_app (goodIn_r _ [9, 10, 11, 12] (by exact rfl) (by decide +kernel)) ggX10_step_X10_word
set_option maxRecDepth 20000 in
theorem ggX10_step_X10_wrong : GoodIn wsX10_step wsX10_wrong := goodIn_m (subW_r _ [78, 79, 80, 135, 136, 137, 138, 139, 140, 141, 142, 143, 144, 145, 146, 147, 148, 149, 150, 151, 152, 153, 154, 155, 156, 157, 158, 159, 160, 161, 162, 163, 164, 165, 166, 167, 168, 169, 170, 171, 172, 173, 174, 175, 176, 177, 178, 179, 180, 181, 182, 183, 184, 185] (by exact rfl)) gwd_X10_wrong
set_option maxRecDepth 20000 in
theorem gX10_step_X10_wrong : GoodIn wsX10_step (wsV RX10 231 RX10 yX10_wrong wsX10_wrong) := goodIn_app (goodIn_r _ [75, 76, 77, 12] (by exact rfl) (by decide +kernel)) ggX10_step_X10_wrong
set_option maxRecDepth 20000 in
theorem ggX10_step_X10_pass : GoodIn wsX10_step wsX10_pass := goodIn_m (subW_r _ [84, 1, 23, 24, 12, 25, 26, 27, 28, 29, 30, 31, 32, 33, 34, 35, 36, 37, 135, 136, 137, 138, 139, 140, 141, 142, 143, 144, 145, 146, 147, 148, 149, 150, 151, 152, 153, 154, 155, 156, 157, 158, 159, 160, 161, 162, 163, 164, 165, 166, 167, 168, 169, 170, 171, 172, 173, 174, 175, 176, 177, 178, 179, 180, 181, 182, 183, 184, 185] (by exact rfl)) gwd_X10_pass
set_option maxRecDepth 20000 in
theorem gX10_step_X10_pass : GoodIn wsX10_step (wsV RX10 237 RX10 yX10_pass wsX10_pass) := goodIn_app (goodIn_r _ [81, 82, 83, 12] (by exact rfl) (by decide +kernel)) ggX10_step_X10_pass
set_option maxRecDepth 20000 in
theorem ggX10_step_X10_rest : GoodIn wsX10_step wsX10_rest := goodIn_m (subW_r _ [97, 3, 98, 99, 100, 12, 101, 5, 102, 103, 104, 105, 106, 4, 107, 108, 109, 110, 1, 14, 15, 16, 17, 18, 19, 111, 112, 113, 75, 76, 77, 78, 79, 80, 114, 115, 116, 117, 90, 91, 92, 93, 118, 119, 120, 121, 122, 123, 124, 125, 126, 9, 10, 11, 13, 20, 21, 22, 23, 24, 25, 26, 27, 28, 29, 30, 31, 32, 33, 34, 35, 36, 37, 38, 39, 40, 41, 42, 43, 44, 45, 46, 47, 48, 49, 50, 51, 52, 53, 54, 55, 56, 57, 58, 59, 60, 61, 62, 63, 64, 65, 66, 67, 68, 69, 70, 71, 72, 73, 74, 81, 82, 83, 84, 127, 128, 129, 130, 88, 89, 7, 6, 94, 95, 96, 0, 2, 8, 85, 86, 87, 131, 132, 133, 134, 135, 136, 137, 138, 139, 140, 141, 142, 143, 144, 145, 146, 147, 148, 149, 150, 151, 152, 153, 154, 155, 156, 157, 158, 159, 160, 161, 162, 163, 164, 165, 166, 167, 168, 169, 170, 171, 172, 173, 174, 175, 176, 177, 178, 179, 180, 181, 182, 183, 184, 185] (by exact rfl)) gwd_X10_rest
set_option maxRecDepth 20000 in
theorem gX10_step_X10_rest : GoodIn wsX10_step (wsV RX10 252 RX10 yX10_rest wsX10_rest) := goodIn_app (goodIn_r _ [85, 86, 87, 12] (by exact rfl) (by decide +kernel)) ggX10_step_X10_rest
set_option maxRecDepth 20000 in
theorem ggX10_rest_X10_numbers : GoodIn wsX10_rest wsX10_numbers := goodIn_m (subW_r _ [6, 7, 8, 9, 10, 11, 5, 12, 13, 14, 15, 16, 17, 18, 19, 20, 21, 22, 23, 24, 25, 26, 27, 28, 29, 30, 31, 32, 33, 135, 136, 137, 138, 139, 140, 141, 142, 143, 144, 145, 146, 147, 148, 149, 150, 151, 152, 153, 154, 155, 156, 157, 158, 159, 160, 161, 162, 163, 164, 165, 166, 167, 168, 169, 170, 171, 172, 173, 174, 175, 176, 177, 178, 179, 180, 181, 182, 183, 184, 185] (by exact rfl)) gwd_X10_numbers
set_option maxRecDepth 20000 in
theorem gX10_rest_X10_numbers : GoodIn wsX10_rest (wsV RX10 254 RX10 yX10_numbers wsX10_numbers) := goodIn_app (goodIn_r _ [2, 3, 4, 5] (by exact rfl) (by decide +kernel)) ggX10_rest_X10_numbers
set_option maxRecDepth 20000 in
theorem ggX10_rest_X10_need : GoodIn wsX10_rest wsX10_need := goodIn_m (subW_r _ [37, 18, 38, 39, 40, 5, 41, 19, 20, 21, 22, 23, 24, 28, 29, 30, 31, 32, 33, 135, 136, 137, 138, 139, 140, 141, 142, 143, 144, 145, 146, 147, 148, 149, 150, 151, 152, 153, 154, 155, 156, 157, 158, 159, 160, 161, 162, 163, 164, 165, 166, 167, 168, 169, 170, 171, 172, 173, 174, 175, 176, 177, 178, 179, 180, 181, 182, 183, 184, 185] (by exact rfl)) gwd_X10_need
set_option maxRecDepth 20000 in
theorem gX10_rest_X10_need : GoodIn wsX10_rest (wsV RX10 258 RX10 yX10_need wsX10_need) := goodIn_app (goodIn_r _ [34, 35, 36, 5] (by exact rfl) (by decide +kernel)) ggX10_rest_X10_need
set_option maxRecDepth 20000 in
theorem ggX10_rest_X10_single : GoodIn wsX10_rest wsX10_single := goodIn_m (subW_r _ [12, 13, 8, 14, 15, 16, 5, 17, 18, 19, 20, 21, 22, 23, 24, 25, 26, 27, 28, 29, 30, 31, 32, 33, 135, 136, 137, 138, 139, 140, 141, 142, 143, 144, 145, 146, 147, 148, 149, 150, 151, 152, 153, 154, 155, 156, 157, 158, 159, 160, 161, 162, 163, 164, 165, 166, 167, 168, 169, 170, 171, 172, 173, 174, 175, 176, 177, 178, 179, 180, 181, 182, 183, 184, 185] (by exact rfl)) gwd_X10_single
set_option maxRecDepth 20000 in
theorem gX10_rest_X10_single : GoodIn wsX10_rest (wsV RX10 261 RX10 yX10_single wsX10_single) := goodIn_app (goodIn_r _ [9, 10, 11, 5] (by exact rfl) (by decide +kernel)) ggX10_rest_X10_single
set_option maxRecDepth 20000 in
theorem ggX10_rest_X10_block : GoodIn wsX10_rest wsX10_block := goodIn_m (subW_r _ [118, 18, 119, 120, 121, 38, 39, 40, 5, 41, 19, 20, 21, 22, 23, 24, 28, 29, 30, 31, 32, 33, 122, 123, 124, 0, 1, 2, 3, 4, 6, 7, 8, 9, 10, 11, 12, 13, 14, 15, 16, 17, 25, 26, 27, 34, 35, 36, 37, 42, 43, 44, 45, 46, 47, 48, 49, 50, 51, 52, 53, 54, 55, 56, 57, 58, 59, 60, 61, 62, 63, 64, 65, 66, 67, 68, 69, 70, 71, 72, 73, 74, 75, 76, 77, 78, 79, 80, 81, 82, 83, 84, 85, 86, 87, 88, 89, 90, 91, 92, 93, 94, 95, 96, 97, 98, 99, 100, 101, 102, 103, 104, 105, 106, 107, 108, 109, 110, 111, 112, 113, 114, 115, 116, 117, 125, 126, 127, 128, 129, 130, 131, 132, 133, 134, 135, 136, 137, 138, 139, 140, 141, 142, 143, 144, 145, 146, 147, 148, 149, 150, 151, 152, 153, 154, 155, 156, 157, 158, 159, 160, 161, 162, 163, 164, 165, 166, 167, 168, 169, 170, 171, 172, 173, 174, 175, 176, 177, 178, 179, 180, 181, 182, 183, 184, 185] (by exact rfl)) gwd_X10_block
set_option maxRecDepth 20000 in
theorem gX10_rest_X10_block : GoodIn wsX10_rest (wsV RX10 264 RX10 yX10_block wsX10_block) := goodIn_app (goodIn_r _ [42, 43, 44, 5] (by exact rfl) (by decide +kernel)) ggX10_rest_X10_block
set_option maxRecDepth 20000 in
theorem ggX10_rest_X10_test : GoodIn wsX10_rest wsX10_test := goodIn_m (subW_r _ [48, 18, 49, 50, 20, 7, 8, 51, 52, 53, 5, 54, 19, 21, 22, 23, 24, 55, 56, 57, 58, 59, 60, 61, 62, 63, 64, 65, 66, 67, 68, 69, 70, 71, 72, 73, 74, 75, 76, 77, 78, 79, 80, 81, 82, 83, 84, 85, 86, 87, 88, 89, 90, 91, 92, 93, 94, 95, 96, 97, 98, 99, 100, 101, 102, 103, 104, 105, 106, 107, 108, 109, 28, 29, 30, 31, 32, 33, 110, 111, 112, 113, 9, 10, 11, 12, 13, 14, 15, 16, 17, 25, 26, 27, 38, 39, 40, 41, 135, 136, 137, 138, 139, 140, 141, 142, 143, 144, 145, 146, 147, 148, 149, 150, 151, 152, 153, 154, 155, 156, 157, 158, 159, 160, 161, 162, 163, 164, 165, 166, 167, 168, 169, 170, 171, 172, 173, 174, 175, 176, 177, 178, 179, 180, 181, 182, 183, 184, 185] (by exact rfl)) gwd_X10_test
set_option maxRecDepth 20000 in
theorem gX10_rest_X10_test : GoodIn wsX10_rest (wsV RX10 268 RX10 yX10_test wsX10_test) := goodIn_app (goodIn_r _ [45, 46, 47, 5] (by exact rfl) (by decide +kernel)) ggX10_rest_X10_test
set_option maxRecDepth 20000 in
theorem ggX10_rest_X10_word : GoodIn wsX10_rest wsX10_word := goodIn_m (subW_r _ [54, 18, 19, 20, 21, 22, 23, 5, 24, 55, 56, 57, 58, 59, 60, 61, 62, 63, 64, 65, 66, 67, 68, 69, 70, 71, 72, 73, 74, 75, 76, 77, 78, 79, 80, 81, 82, 83, 84, 85, 86, 87, 88, 89, 90, 91, 92, 93, 94, 95, 96, 97, 98, 99, 100, 101, 102, 103, 104, 105, 106, 107, 108, 109, 135, 136, 137, 138, 139, 140, 141, 142, 143, 144, 145, 146, 147, 148, 149, 150, 151, 152, 153, 154, 155, 156, 157, 158, 159, 160, 161, 162, 163, 164, 165, 166, 167, 168, 169, 170, 171, 172, 173, 174, 175, 176, 177, 178, 179, 180, 181, 182, 183, 184, 185] (by exact rfl)) gwd_X10_word
set_option maxRecDepth 20000 in
theorem gX10_rest_X10_word : GoodIn wsX10_rest (wsV RX10 234 RX10 yX10_word wsX10_word) := goodIn_app (goodIn_r _ [51, 52, 53, 5] (by exact rfl) (by decide +kernel)) ggX10_rest_X10_word
set_option maxRecDepth 20000 in
theorem ggX10_rest_X10_pass : GoodIn wsX10_rest wsX10_pass := goodIn_m (subW_r _ [113, 18, 58, 59, 5, 60, 61, 62, 63, 64, 65, 66, 67, 68, 69, 70, 71, 72, 135, 136, 137, 138, 139, 140, 141, 142, 143, 144, 145, 146, 147, 148, 149, 150, 151, 152, 153, 154, 155, 156, 157, 158, 159, 160, 161, 162, 163, 164, 165, 166, 167, 168, 169, 170, 171, 172, 173, 174, 175, 176, 177, 178, 179, 180, 181, 182, 183, 184, 185] (by exact rfl)) gwd_X10_pass
set_option maxRecDepth 20000 in
theorem gX10_rest_X10_pass : GoodIn wsX10_rest (wsV RX10 237 RX10 yX10_pass wsX10_pass) := goodIn_app (goodIn_r _ [110, 111, 112, 5] (by exact rfl) (by decide +kernel)) ggX10_rest_X10_pass
set_option maxRecDepth 20000 in
theorem ggX10_rest_X10_needWord : GoodIn wsX10_rest wsX10_needWord := goodIn_m (subW_r _ [117, 18, 51, 52, 53, 5, 54, 19, 20, 21, 22, 23, 24, 55, 56, 57, 58, 59, 60, 61, 62, 63, 64, 65, 66, 67, 68, 69, 70, 71, 72, 73, 74, 75, 76, 77, 78, 79, 80, 81, 82, 83, 84, 85, 86, 87, 88, 89, 90, 91, 92, 93, 94, 95, 96, 97, 98, 99, 100, 101, 102, 103, 104, 105, 106, 107, 108, 109, 28, 29, 30, 31, 32, 33, 110, 111, 112, 113, 135, 136, 137, 138, 139, 140, 141, 142, 143, 144, 145, 146, 147, 148, 149, 150, 151, 152, 153, 154, 155, 156, 157, 158, 159, 160, 161, 162, 163, 164, 165, 166, 167, 168, 169, 170, 171, 172, 173, 174, 175, 176, 177, 178, 179, 180, 181, 182, 183, 184, 185] (by exact rfl)) gwd_X10_needWord
set_option maxRecDepth 20000 in
theorem gX10_rest_X10_needWord : GoodIn wsX10_rest (wsV RX10 271 RX10 yX10_needWord wsX10_needWord) := goodIn_app (goodIn_r _ [114, 115, 116, 5] (by exact rfl) (by decide +kernel)) ggX10_rest_X10_needWord
set_option maxRecDepth 20000 in
theorem ggX10_single_X10_number : GoodIn wsX10_single wsX10_number := goodIn_m (subW_r _ [7, 8, 9, 10, 2, 11, 12, 13, 6, 14, 15, 16, 17, 18, 19, 20, 21, 22, 23, 24, 25, 26, 27, 28, 29, 30, 31, 32, 33, 34, 35, 36, 37, 38, 39, 40, 41, 42, 43, 44, 45, 46, 47, 48, 49, 50, 51, 52, 53, 54, 55, 56, 57, 58, 59, 60, 61, 62, 63, 64, 65, 66, 67, 68, 69, 70, 71, 72, 73, 74] (by exact rfl)) gwd_X10_number
set_option maxRecDepth 20000 in
theorem gX10_single_X10_number : GoodIn wsX10_single (wsV RX10 274 RX10 yX10_number wsX10_number) := goodIn_app (goodIn_r _ [3, 4, 5, 6] (by exact rfl) (by decide +kernel)) ggX10_single_X10_number
set_option maxRecDepth 20000 in
theorem ggX10_numbers_X10_single : GoodIn wsX10_numbers wsX10_single := goodIn_m (subW_r _ [7, 8, 2, 9, 10, 11, 6, 12, 13, 14, 15, 16, 17, 18, 19, 20, 21, 22, 23, 24, 25, 26, 27, 28, 29, 30, 31, 32, 33, 34, 35, 36, 37, 38, 39, 40, 41, 42, 43, 44, 45, 46, 47, 48, 49, 50, 51, 52, 53, 54, 55, 56, 57, 58, 59, 60, 61, 62, 63, 64, 65, 66, 67, 68, 69, 70, 71, 72, 73, 74, 75, 76, 77, 78, 79] (by exact rfl)) gwd_X10_single
set_option maxRecDepth 20000 in
theorem gX10_numbers_X10_single : GoodIn wsX10_numbers (wsV RX10 261 RX10 yX10_single wsX10_single) := goodIn_app (goodIn_r _ [3, 4, 5, 6] (by exact rfl) (by decide +kernel)) ggX10_numbers_X10_single
set_option maxRecDepth 20000 in
theorem ggX10_numbers_X10_number : GoodIn wsX10_numbers wsX10_number := goodIn_m (subW_r _ [12, 13, 14, 15, 2, 16, 17, 18, 6, 19, 20, 21, 22, 23, 24, 25, 26, 27, 28, 29, 30, 31, 32, 33, 34, 35, 36, 37, 38, 39, 40, 41, 42, 43, 44, 45, 46, 47, 48, 49, 50, 51, 52, 53, 54, 55, 56, 57, 58, 59, 60, 61, 62, 63, 64, 65, 66, 67, 68, 69, 70, 71, 72, 73, 74, 75, 76, 77, 78, 79] (by exact rfl)) gwd_X10_number
set_option maxRecDepth 20000 in
theorem gX10_numbers_X10_number : GoodIn wsX10_numbers (wsV RX10 274 RX10 yX10_number wsX10_number) := goodIn_app (goodIn_r _ [9, 10, 11, 6] (by exact rfl) (by decide +kernel)) ggX10_numbers_X10_number
set_option maxRecDepth 20000 in
theorem ggX10_test_X10_word : GoodIn wsX10_test wsX10_word := goodIn_m (subW_r _ [11, 1, 12, 4, 13, 14, 15, 10, 16, 17, 18, 19, 20, 21, 22, 23, 24, 25, 26, 27, 28, 29, 30, 31, 32, 33, 34, 35, 36, 37, 38, 39, 40, 41, 42, 43, 44, 45, 46, 47, 48, 49, 50, 51, 52, 53, 54, 55, 56, 57, 58, 59, 60, 61, 62, 63, 64, 65, 66, 67, 68, 69, 70, 71, 98, 99, 100, 101, 102, 103, 104, 105, 106, 107, 108, 109, 110, 111, 112, 113, 114, 115, 116, 117, 118, 119, 120, 121, 122, 123, 124, 125, 126, 127, 128, 129, 130, 131, 132, 133, 134, 135, 136, 137, 138, 139, 140, 141, 142, 143, 144, 145, 146, 147, 148] (by exact rfl)) gwd_X10_word
set_option maxRecDepth 20000 in
theorem gX10_test_X10_word : GoodIn wsX10_test (wsV RX10 234 RX10 yX10_word wsX10_word) := goodIn_app (goodIn_r _ [7, 8, 9, 10] (by exact rfl) (by decide +kernel)) ggX10_test_X10_word
set_option maxRecDepth 20000 in
theorem ggX10_test_X10_wrong : GoodIn wsX10_test wsX10_wrong := goodIn_m (subW_r _ [75, 76, 77, 98, 99, 100, 101, 102, 103, 104, 105, 106, 107, 108, 109, 110, 111, 112, 113, 114, 115, 116, 117, 118, 119, 120, 121, 122, 123, 124, 125, 126, 127, 128, 129, 130, 131, 132, 133, 134, 135, 136, 137, 138, 139, 140, 141, 142, 143, 144, 145, 146, 147, 148] (by exact rfl)) gwd_X10_wrong
set_option maxRecDepth 20000 in
theorem gX10_test_X10_wrong : GoodIn wsX10_test (wsV RX10 231 RX10 yX10_wrong wsX10_wrong) := goodIn_app (goodIn_r _ [72, 73, 74, 10] (by exact rfl) (by decide +kernel)) ggX10_test_X10_wrong
set_option maxRecDepth 20000 in
theorem ggX10_test_X10_pass : GoodIn wsX10_test wsX10_pass := goodIn_m (subW_r _ [81, 1, 20, 21, 10, 22, 23, 24, 25, 26, 27, 28, 29, 30, 31, 32, 33, 34, 98, 99, 100, 101, 102, 103, 104, 105, 106, 107, 108, 109, 110, 111, 112, 113, 114, 115, 116, 117, 118, 119, 120, 121, 122, 123, 124, 125, 126, 127, 128, 129, 130, 131, 132, 133, 134, 135, 136, 137, 138, 139, 140, 141, 142, 143, 144, 145, 146, 147, 148] (by exact rfl)) gwd_X10_pass
set_option maxRecDepth 20000 in
theorem gX10_test_X10_pass : GoodIn wsX10_test (wsV RX10 237 RX10 yX10_pass wsX10_pass) := goodIn_app (goodIn_r _ [78, 79, 80, 10] (by exact rfl) (by decide +kernel)) ggX10_test_X10_pass
set_option maxRecDepth 20000 in
theorem ggX10_test_X10_single : GoodIn wsX10_test wsX10_single := goodIn_m (subW_r _ [85, 86, 6, 87, 88, 89, 10, 90, 1, 12, 4, 13, 14, 15, 16, 91, 92, 93, 72, 73, 74, 75, 76, 77, 98, 99, 100, 101, 102, 103, 104, 105, 106, 107, 108, 109, 110, 111, 112, 113, 114, 115, 116, 117, 118, 119, 120, 121, 122, 123, 124, 125, 126, 127, 128, 129, 130, 131, 132, 133, 134, 135, 136, 137, 138, 139, 140, 141, 142, 143, 144, 145, 146, 147, 148] (by exact rfl)) gwd_X10_single
set_option maxRecDepth 20000 in
theorem gX10_test_X10_single : GoodIn wsX10_test (wsV RX10 261 RX10 yX10_single wsX10_single) := goodIn_app (goodIn_r _ [82, 83, 84, 10] (by exact rfl) (by decide +kernel)) ggX10_test_X10_single
