set_option maxRecDepth 20000 in
theorem ggX10_rest_X10_test : GoodIn wsX10_rest wsX10_test := goodIn_r _ [48, 18, 49, 50, 20, 7, 8, 51, 52, 53, 5, 54, 19, 21, 22, 23, 24, 55, 56, 57, 58, 59, 60, 61, 62, 63, 64, 65, 66, 67, 68, 69, 70, 71, 72, 73, 74, 75, 76, 77, 78, 79, 80, 81, 82, 83, 84, 85, 86, 87, 88, 89, 90, 91, 92, 93, 94, 95, 96, 97, 98, 99, 100, 101, 102, 103, 104, 105, 106, 107, 108, 109, 28, 29, 30, 31, 32, 33, 110, 111, 112, 113, 9, 10, 11, 12, 13, 14, 15, 16, 17, 25, 26, 27, 38, 39, 40, 41, 135, 136, 137, 138, 139, 140, 141, 142, 143, 144, 145, 146, 147, 148, 149, 150, 151, 152, 153, 154, 155, 156, 157, 158, 159, 160, 161, 162, 163, 164, 165, 166, 167, 168, 169, 170, 171, 172, 173, 174, 175, 176, 177, 178, 179, 180, 181, 182, 183, 184, 185] (by decide +kernel) (by decide +kernel)
set_option maxRecDepth 20000 in
theorem gX10_rest_X10_test : GoodIn wsX10_rest (wsV RX10 268 RX10 yX10_test wsX10_test) := goodIn_app (goodIn_of _ (by decide +kernel)) ggX10_rest_X10_test
set_option maxRecDepth 20000 in
theorem ggX10_rest_X10_word : GoodIn wsX10_rest wsX10_word := goodIn_r _ [54, 18, 19, 20, 21, 22, 23, 5, 24, 55, 56, 57, 58, 59, 60, 61, 62, 63, 64, 65, 66, 67, 68, 69, 70, 71, 72, 73, 74, 75, 76, 77, 78, 79, 80, 81, 82, 83, 84, 85, 86, 87, 88, 89, 90, 91, 92, 93, 94, 95, 96, 97, 98, 99, 100, 101, 102, 103, 104, 105, 106, 107, 108, 109, 135, 136, 137, 138, 139, 140, 141, 142, 143, 144, 145, 146, 147, 148, 149, 150, 151, 152, 153, 154, 155, 156, 157, 158, 159, 160, 161, 162, 163, 164, 165, 166, 167, 168, 169, 170, 171, 172, 173, 174, 175, 176, 177, 178, 179, 180, 181, 182, 183, 184, 185] (by decide +kernel) (by decide +kernel)
set_option maxRecDepth 20000 in
theorem gX10_rest_X10_word : GoodIn wsX10_rest (wsV RX10 234 RX10 yX10_word wsX10_word) := goodIn_app (goodIn_of _ (by decide +kernel)) ggX10_rest_X10_word
set_option maxRecDepth 20000 in
theorem ggX10_rest_X10_pass : GoodIn wsX10_rest wsX10_pass := goodIn_r _ [113, 18, 58, 59, 5, 60, 61, 62, 63, 64, 65, 66, 67, 68, 69, 70, 71, 72, 135, 136, 137, 138, 139, 140, 141, 142, 143, 144, 145, 146, 147, 148, 149, 150, 151, 152, 153, 154, 155, 156, 157, 158, 159, 160, 161, 162, 163, 164, 165, 166, 167, 168, 169, 170, 171, 172, 173, 174, 175, 176, 177, 178, 179, 180, 181, 182, 183, 184, 185] (by decide +kernel) (by decide +kernel)
set_option maxRecDepth 20000 in
theorem gX10_rest_X10_pass : GoodIn wsX10_rest (wsV RX10 237 RX10 yX10_pass wsX10_pass) := goodIn_app (goodIn_of _ (by decide +kernel)) ggX10_rest_X10_pass
set_option maxRecDepth 20000 in
theorem ggX10_rest_X10_needWord : GoodIn wsX10_rest wsX10_needWord := goodIn_r _ [117, 18, 51, 52, 53, 5, 54, 19, 20, 21, 22, 23, 24, 55, 56, 57, 58, 59, 60, 61, 62, 63, 64, 65, 66, 67, 68, 69, 70, 71, 72, 73, 74, 75, 76, 77, 78, 79, 80, 81, 82, 83, 84, 85, 86, 87, 88, 89, 90, 91, 92, 93, 94, 95, 96, 97, 98, 99, 100, 101, 102, 103, 104, 105, 106, 107, 108, 109, 28, 29, 30, 31, 32, 33, 110, 111, 112, 113, 135, 136, 137, 138, 139, 140, 141, 142, 143, 144, 145, 146, 147, 148, 149, 150, 151, 152, 153, 154, 155, 156, 157, 158, 159, 160, 161, 162, 163, 164, 165, 166, 167, 168, 169, 170, 171, 172, 173, 174, 175, 176, 177, 178, 179, 180, 181, 182, 183, 184, 185] (by decide +kernel) (by decide +kernel)
set_option maxRecDepth 20000 in
theorem gX10_rest_X10_needWord : GoodIn wsX10_rest (wsV RX10 271 RX10 yX10_needWord wsX10_needWord) := goodIn_app (goodIn_of _ (by decide +kernel)) ggX10_rest_X10_needWord
set_option maxRecDepth 20000 in
theorem ggX10_single_X10_number : GoodIn wsX10_single wsX10_number := goodIn_r _ [7, 8, 9, 10, 2, 11, 12, 13, 6, 14, 15, 16, 17, 18, 19, 20, 21, 22, 23, 24, 25, 26, 27, 28, 29, 30, 31, 32, 33, 34, 35, 36, 37, 38, 39, 40, 41, 42, 43, 44, 45, 46, 47, 48, 49, 50, 51, 52, 53, 54, 55, 56, 57, 58, 59, 60, 61, 62, 63, 64, 65, 66, 67, 68, 69, 70, 71, 72, 73, 74] (by decide +kernel) (by decide +kernel)
set_option maxRecDepth 20000 in
theorem gX10_single_X10_number : GoodIn wsX10_single (wsV RX10 274 RX10 yX10_number wsX10_number) := goodIn_app (goodIn_of _ (by decide +kernel)) ggX10_single_X10_number
set_option maxRecDepth 20000 in
theorem ggX10_numbers_X10_single : GoodIn wsX10_numbers wsX10_single := goodIn_r _ [7, 8, 2, 9, 10, 11, 6, 12, 13, 14, 15, 16, 17, 18, 19, 20, 21, 22, 23, 24, 25, 26, 27, 28, 29, 30, 31, 32, 33, 34, 35, 36, 37, 38, 39, 40, 41, 42, 43, 44, 45, 46, 47, 48, 49, 50, 51, 52, 53, 54, 55, 56, 57, 58, 59, 60, 61, 62, 63, 64, 65, 66, 67, 68, 69, 70, 71, 72, 73, 74, 75, 76, 77, 78, 79] (by decide +kernel) (by decide +kernel)
set_option maxRecDepth 20000 in
theorem gX10_numbers_X10_single : GoodIn wsX10_numbers (wsV RX10 261 RX10 yX10_single wsX10_single) := goodIn_app (goodIn_of _ (by decide +kernel)) ggX10_numbers_X10_single
set_option maxRecDepth 20000 in
theorem ggX10_numbers_X10_number : GoodIn wsX10_numbers wsX10_number := goodIn_r _ [12, 13, 14, 15, 2, 16, 17, 18, 6, 19, 20, 21, 22, 23, 24, 25, 26, 27, 28, 29, 30, 31, 32, 33, 34, 35, 36, 37, 38, 39, 40, 41, 42, 43, 44, 45, 46, 47, 48, 49, 50, 51, 52, 53, 54, 55, 56, 57, 58, 59, 60, 61, 62, 63, 64, 65, 66, 67, 68, 69, 70, 71, 72, 73, 74, 75, 76, 77, 78, 79] (by decide +kernel) (by decide +kernel)
set_option maxRecDepth 20000 in
theorem gX10_numbers_X10_number : GoodIn wsX10_numbers (wsV RX10 274 RX10 yX10_number wsX10_number) := goodIn_app (goodIn_of _ (by decide +kernel)) ggX10_numbers_X10_number
set_option maxRecDepth 20000 in
theorem ggX10_test_X10_word : GoodIn wsX10_test wsX10_word := goodIn_r _ [11, 1, 12, 4, 13, 14, 15, 10, 16, 17, 18, 19, 20, 21, 22, 23, 24, 25, 26, 27, 28, 29, 30, 31, 32, 33, 34, 35, 36, 37, 38, 39, 40, 41, 42, 43, 44, 45, 46, 47, 48, 49, 50, 51, 52, 53, 54, 55, 56, 57, 58, 59, 60, 61, 62, 63, 64, 65, 66, 67, 68, 69, 70, 71, 98, 99, 100, 101, 102, 103, 104, 105, 106, 107, 108, 109, 110, 111, 112, 113, 114, 115, 116, 117, 118, 119, 120, 121, 122, 123, 124, 125, 126, 127, 128, 129, 130, 131, 132, 133, 134, 135, 136, 137, 138, 139, 140, 141, 142, 143, 144, 145, 146, 147, 148] (by decide +kernel) (by decide +kernel)
set_option maxRecDepth 20000 in
theorem gX10_test_X10_word : GoodIn wsX10_test (wsV RX10 234 RX10 yX10_word wsX10_word) := goodIn_app (goodIn_of _ (by decide +kernel)) ggX10_test_X10_word
set_option maxRecDepth 20000 in
theorem ggX10_test_X10_wrong : GoodIn wsX10_test wsX10_wrong := goodIn_r _ [75, 76, 77, 98, 99, 100, 101, 102, 103, 104, 105, 106, 107, 108, 109, 110, 111, 112, 113, 114, 115, 116, 117, 118, 119, 120, 121, 122, 123, 124, 125, 126, 127, 128, 129, 130, 131, 132, 133, 134, 135, 136, 137, 138, 139, 140, 141, 142, 143, 144, 145, 146, 147, 148] (by decide +kernel) (by decide +kernel)
set_option maxRecDepth 20000 in
theorem gX10_test_X10_wrong : GoodIn wsX10_test (wsV RX10 231 RX10 yX10_wrong wsX10_wrong) := goodIn_app (goodIn_of _ (by decide +kernel)) ggX10_test_X10_wrong
set_option maxRecDepth 20000 in
theorem ggX10_test_X10_pass : GoodIn wsX10_test wsX10_pass := goodIn_r _ [81, 1, 20, 21, 10, 22, 23, 24, 25, 26, 27, 28, 29, 30, 31, 32, 33, 34, 98, 99, 100, 101, 102, 103, 104, 105, 106, 107, 108, 109, 110, 111, 112, 113, 114, 115, 116, 117, 118, 119, 120, 121, 122, 123, 124, 125, 126, 127, 128, 129, 130, 131, 132, 133, 134, 135, 136, 137, 138, 139, 140, 141, 142, 143, 144, 145, 146, 147, 148] (by decide +kernel) (by decide +kernel)
set_option maxRecDepth 20000 in
theorem gX10_test_X10_pass : GoodIn wsX10_test (wsV RX10 237 RX10 yX10_pass wsX10_pass) := goodIn_app (goodIn_of _ (by decide +kernel)) ggX10_test_X10_pass
set_option maxRecDepth 20000 in
theorem ggX10_test_X10_single : GoodIn wsX10_test wsX10_single := goodIn_r _ [85, 86, 6, 87, 88, 89, 10, 90, 1, 12, 4, 13, 14, 15, 16, 91, 92, 93, 72, 73, 74, 75, 76, 77, 98, 99, 100, 101, 102, 103, 104, 105, 106, 107, 108, 109, 110, 111, 112, 113, 114, 115, 116, 117, 118, 119, 120, 121, 122, 123, 124, 125, 126, 127, 128, 129, 130, 131, 132, 133, 134, 135, 136, 137, 138, 139, 140, 141, 142, 143, 144, 145, 146, 147, 148] (by decide +kernel) (by decide +kernel)
set_option maxRecDepth 20000 in
theorem gX10_test_X10_single : GoodIn wsX10_test (wsV RX10 261 RX10 yX10_single wsX10_single) := goodIn_app (goodIn_of _ (by decide +kernel)) ggX10_test_X10_single
set_option maxRecDepth 20000 in
theorem ggX10_test_X10_skip : GoodIn wsX10_test wsX10_skip := goodIn_r _ [16, 1, 12, 4, 98, 99, 100, 101, 102, 103, 104, 105, 106, 107, 108, 109, 110, 111, 112, 113, 114, 115, 116, 117, 118, 119, 120, 121, 122, 123, 124, 125, 126, 127, 128, 129, 130, 131, 132, 133, 134, 135, 136, 137, 138, 139, 140, 141, 142, 143, 144, 145, 146, 147, 148] (by decide +kernel) (by decide +kernel)
set_option maxRecDepth 20000 in
theorem gX10_test_X10_skip : GoodIn wsX10_test (wsV RX10 208 RX10 yX10_skip wsX10_skip) := goodIn_app (goodIn_of _ (by decide +kernel)) ggX10_test_X10_skip
set_option maxRecDepth 20000 in
theorem ggX10_test_X10_isSign : GoodIn wsX10_test wsX10_isSign := goodIn_r _ [97, 1, 12, 4, 13, 14, 15, 10, 16, 98, 99, 100, 101, 102, 103, 104, 105, 106, 107, 108, 109, 110, 111, 112, 113, 114, 115, 116, 117, 118, 119, 120, 121, 122, 123, 124, 125, 126, 127, 128, 129, 130, 131, 132, 133, 134, 135, 136, 137, 138, 139, 140, 141, 142, 143, 144, 145, 146, 147, 148] (by decide +kernel) (by decide +kernel)
set_option maxRecDepth 20000 in
theorem gX10_test_X10_isSign : GoodIn wsX10_test (wsV RX10 228 RX10 yX10_isSign wsX10_isSign) := goodIn_app (goodIn_of _ (by decide +kernel)) ggX10_test_X10_isSign
set_option maxRecDepth 20000 in
theorem ggX10_test_X10_number : GoodIn wsX10_test wsX10_number := goodIn_r _ [90, 1, 12, 4, 6, 13, 14, 15, 10, 16, 91, 92, 93, 72, 73, 74, 75, 76, 77, 98, 99, 100, 101, 102, 103, 104, 105, 106, 107, 108, 109, 110, 111, 112, 113, 114, 115, 116, 117, 118, 119, 120, 121, 122, 123, 124, 125, 126, 127, 128, 129, 130, 131, 132, 133, 134, 135, 136, 137, 138, 139, 140, 141, 142, 143, 144, 145, 146, 147, 148] (by decide +kernel) (by decide +kernel)
set_option maxRecDepth 20000 in
theorem gX10_test_X10_number : GoodIn wsX10_test (wsV RX10 274 RX10 yX10_number wsX10_number) := goodIn_app (goodIn_of _ (by decide +kernel)) ggX10_test_X10_number
set_option maxRecDepth 20000 in
theorem ggX10_block_X10_isSign : GoodIn wsX10_block wsX10_isSign := goodIn_r _ [9, 1, 10, 11, 12, 13, 14, 8, 15, 135, 136, 137, 138, 139, 140, 141, 142, 143, 144, 145, 146, 147, 148, 149, 150, 151, 152, 153, 154, 155, 156, 157, 158, 159, 160, 161, 162, 163, 164, 165, 166, 167, 168, 169, 170, 171, 172, 173, 174, 175, 176, 177, 178, 179, 180, 181, 182, 183, 184, 185] (by decide +kernel) (by decide +kernel)
set_option maxRecDepth 20000 in
theorem gX10_block_X10_isSign : GoodIn wsX10_block (wsV RX10 228 RX10 yX10_isSign wsX10_isSign) := goodIn_app (goodIn_of _ (by decide +kernel)) ggX10_block_X10_isSign
set_option maxRecDepth 20000 in
theorem ggX10_block_X10_wrong : GoodIn wsX10_block wsX10_wrong := goodIn_r _ [19, 20, 21, 135, 136, 137, 138, 139, 140, 141, 142, 143, 144, 145, 146, 147, 148, 149, 150, 151, 152, 153, 154, 155, 156, 157, 158, 159, 160, 161, 162, 163, 164, 165, 166, 167, 168, 169, 170, 171, 172, 173, 174, 175, 176, 177, 178, 179, 180, 181, 182, 183, 184, 185] (by decide +kernel) (by decide +kernel)
set_option maxRecDepth 20000 in
theorem gX10_block_X10_wrong : GoodIn wsX10_block (wsV RX10 231 RX10 yX10_wrong wsX10_wrong) := goodIn_app (goodIn_of _ (by decide +kernel)) ggX10_block_X10_wrong
set_option maxRecDepth 20000 in
theorem ggX10_block_X10_steps : GoodIn wsX10_block wsX10_steps := goodIn_r _ [131, 1, 10, 127, 12, 13, 14, 8, 15, 11, 5, 6, 7, 9, 132, 133, 134, 0, 2, 3, 4, 16, 17, 18, 19, 20, 21, 22, 23, 24, 25, 26, 27, 28, 29, 30, 31, 32, 33, 34, 35, 36, 37, 38, 39, 40, 41, 42, 43, 44, 45, 46, 47, 48, 49, 50, 51, 52, 53, 54, 55, 56, 57, 58, 59, 60, 61, 62, 63, 64, 65, 66, 67, 68, 69, 70, 71, 72, 73, 74, 75, 76, 77, 78, 79, 80, 81, 82, 83, 84, 85, 86, 87, 88, 89, 90, 91, 92, 93, 94, 95, 96, 97, 98, 99, 100, 101, 102, 103, 104, 105, 106, 107, 108, 109, 110, 111, 112, 113, 114, 115, 116, 117, 118, 119, 120, 121, 122, 123, 124, 125, 126, 128, 129, 130, 135, 136, 137, 138, 139, 140, 141, 142, 143, 144, 145, 146, 147, 148, 149, 150, 151, 152, 153, 154, 155, 156, 157, 158, 159, 160, 161, 162, 163, 164, 165, 166, 167, 168, 169, 170, 171, 172, 173, 174, 175, 176, 177, 178, 179, 180, 181, 182, 183, 184, 185] (by decide +kernel) (by decide +kernel)
set_option maxRecDepth 20000 in
theorem gX10_block_X10_steps : GoodIn wsX10_block (wsV RX10 280 RX10 yX10_steps wsX10_steps) := goodIn_app (goodIn_of _ (by decide +kernel)) ggX10_block_X10_steps
set_option maxRecDepth 20000 in
theorem ggX10_recipe_X10_right : GoodIn wsX10_recipe wsX10_right := goodIn_r _ [24, 1, 145, 146, 147, 148, 149, 150, 151, 152, 153, 154, 155, 156, 157, 158, 159, 160, 161, 162, 163, 164, 165, 166, 167, 168, 169, 170, 171, 172, 173, 174, 175, 176, 177, 178, 179, 180, 181, 182, 183, 184, 185, 186, 187, 188, 189, 190, 191, 192, 193, 194, 195] (by decide +kernel) (by decide +kernel)
set_option maxRecDepth 20000 in
theorem gX10_recipe_X10_right : GoodIn wsX10_recipe (wsV RX10 108 RX10 yX10_right wsX10_right) := goodIn_app (goodIn_of _ (by decide +kernel)) ggX10_recipe_X10_right
set_option maxRecDepth 20000 in
theorem ggX10_recipe_X10_steps : GoodIn wsX10_recipe wsX10_steps := goodIn_r _ [28, 4, 3, 16, 29, 30, 31, 23, 32, 33, 34, 35, 36, 37, 38, 39, 40, 41, 8, 15, 14, 42, 43, 44, 45, 5, 6, 25, 26, 27, 46, 9, 47, 48, 49, 50, 11, 51, 52, 53, 54, 55, 10, 56, 57, 58, 59, 60, 61, 62, 63, 64, 65, 66, 67, 68, 69, 70, 71, 72, 73, 12, 13, 74, 75, 76, 77, 78, 79, 80, 81, 82, 83, 84, 85, 86, 87, 88, 89, 90, 91, 92, 93, 94, 95, 96, 97, 98, 99, 100, 101, 102, 103, 104, 105, 106, 107, 108, 109, 110, 111, 112, 113, 114, 115, 116, 117, 118, 119, 120, 121, 122, 123, 124, 125, 126, 127, 128, 129, 130, 131, 132, 133, 134, 135, 136, 137, 138, 139, 140, 141, 7, 142, 143, 144, 145, 146, 147, 148, 149, 150, 151, 152, 153, 154, 155, 156, 157, 158, 159, 160, 161, 162, 163, 164, 165, 166, 167, 168, 169, 170, 171, 172, 173, 174, 175, 176, 177, 178, 179, 180, 181, 182, 183, 184, 185, 186, 187, 188, 189, 190, 191, 192, 193, 194, 195] (by decide +kernel) (by decide +kernel)
set_option maxRecDepth 20000 in
theorem gX10_recipe_X10_steps : GoodIn wsX10_recipe (wsV RX10 280 RX10 yX10_steps wsX10_steps) := goodIn_app (goodIn_of _ (by decide +kernel)) ggX10_recipe_X10_steps
set_option maxRecDepth 20000 in
theorem ggX10_fault_X10_right : GoodIn wsX10_fault wsX10_right := goodIn_r _ [8, 1, 9, 10, 11, 12, 13, 14, 15, 16, 17, 18, 19, 20, 21, 22, 23, 24, 25, 26, 27, 28, 29, 30, 31, 32, 33, 34, 35, 36, 37, 38, 39, 40, 41, 42, 43, 44, 45, 46, 47, 48, 49, 50, 51, 52, 53, 54, 55, 56, 57, 58, 59] (by decide +kernel) (by decide +kernel)
set_option maxRecDepth 20000 in
theorem gX10_fault_X10_right : GoodIn wsX10_fault (wsV RX10 108 RX10 yX10_right wsX10_right) := goodIn_app (goodIn_of _ (by decide +kernel)) ggX10_fault_X10_right
set_option maxRecDepth 20000 in
theorem ggX10_row_X10_does : GoodIn wsX10_row wsX10_does := goodIn_r _ [6, 7, 8, 9, 10, 11, 12, 13, 14, 5, 15, 16, 17, 18, 19, 20, 21, 22, 23, 24, 25, 26, 27, 28, 29, 30, 31, 32, 33, 34, 35, 36, 37, 38, 39, 40, 41, 42, 43, 44, 45, 46, 47, 48, 49, 50, 51, 52, 53, 54, 55, 56, 57, 58, 59, 60, 61, 62, 63, 64, 65, 66, 67, 68, 69, 70, 71, 72, 73, 74, 75, 76, 77, 78, 79, 80, 81, 82, 83, 84, 85, 86, 87, 88, 0, 1, 2, 3, 4, 89, 90, 91, 92, 93, 94, 95, 96, 97, 98, 99, 100, 101, 102, 103, 104, 105, 106, 107, 108, 109, 110, 111, 112, 113, 114, 115, 116, 117, 118, 119, 120, 121, 122, 123, 124, 125, 126, 127, 128, 129, 130, 131, 132, 133, 134, 135, 136, 137, 138, 139] (by decide +kernel) (by decide +kernel)
set_option maxRecDepth 20000 in
theorem gX10_row_X10_does : GoodIn wsX10_row (wsV RX10 293 RX10 yX10_does wsX10_does) := goodIn_app (goodIn_of _ (by decide +kernel)) ggX10_row_X10_does
set_option maxRecDepth 20000 in
theorem ggX10_does_X10_counts : GoodIn wsX10_does wsX10_counts := goodIn_r _ [10, 11, 12, 89, 90, 91, 92, 93, 94, 95, 96, 97, 98, 99, 100, 101, 102, 103, 104, 105, 106, 107, 108, 109, 110, 111, 112, 113, 114, 115, 116, 117, 118, 119, 120, 121, 122, 123, 124, 125, 126, 127, 128, 129, 130, 131, 132, 133, 134, 135, 136, 137, 138, 139] (by decide +kernel) (by decide +kernel)
set_option maxRecDepth 20000 in
theorem gX10_does_X10_counts : GoodIn wsX10_does (wsV RX10 297 RX10 yX10_counts wsX10_counts) := goodIn_app (goodIn_of _ (by decide +kernel)) ggX10_does_X10_counts
set_option maxRecDepth 20000 in
theorem ggX10_does_X10_dipped : GoodIn wsX10_does wsX10_dipped := goodIn_r _ [16, 5, 17, 18, 19, 20, 21, 9, 22, 23, 24, 4, 25, 26, 27, 28, 29, 30, 31, 32, 33, 34, 35, 36, 89, 90, 91, 92, 93, 94, 95, 96, 97, 98, 99, 100, 101, 102, 103, 104, 105, 106, 107, 108, 109, 110, 111, 112, 113, 114, 115, 116, 117, 118, 119, 120, 121, 122, 123, 124, 125, 126, 127, 128, 129, 130, 131, 132, 133, 134, 135, 136, 137, 138, 139] (by decide +kernel) (by decide +kernel)
set_option maxRecDepth 20000 in
theorem gX10_does_X10_dipped : GoodIn wsX10_does (wsV RX10 301 RX10 yX10_dipped wsX10_dipped) := goodIn_app (goodIn_of _ (by decide +kernel)) ggX10_does_X10_dipped
set_option maxRecDepth 20000 in
theorem ggX10_does_X10_airs : GoodIn wsX10_does wsX10_airs := goodIn_r _ [40, 4, 25, 41, 89, 90, 91, 92, 93, 94, 95, 96, 97, 98, 99, 100, 101, 102, 103, 104, 105, 106, 107, 108, 109, 110, 111, 112, 113, 114, 115, 116, 117, 118, 119, 120, 121, 122, 123, 124, 125, 126, 127, 128, 129, 130, 131, 132, 133, 134, 135, 136, 137, 138, 139] (by decide +kernel) (by decide +kernel)
set_option maxRecDepth 20000 in
theorem gX10_does_X10_airs : GoodIn wsX10_does (wsV RX10 156 RX10 yX10_airs wsX10_airs) := goodIn_app (goodIn_of _ (by decide +kernel)) ggX10_does_X10_airs
set_option maxRecDepth 20000 in
theorem ggX10_does_X10_washes : GoodIn wsX10_does wsX10_washes := goodIn_r _ [45, 4, 25, 41, 89, 90, 91, 92, 93, 94, 95, 96, 97, 98, 99, 100, 101, 102, 103, 104, 105, 106, 107, 108, 109, 110, 111, 112, 113, 114, 115, 116, 117, 118, 119, 120, 121, 122, 123, 124, 125, 126, 127, 128, 129, 130, 131, 132, 133, 134, 135, 136, 137, 138, 139] (by decide +kernel) (by decide +kernel)
set_option maxRecDepth 20000 in
theorem gX10_does_X10_washes : GoodIn wsX10_does (wsV RX10 152 RX10 yX10_washes wsX10_washes) := goodIn_app (goodIn_of _ (by decide +kernel)) ggX10_does_X10_washes
set_option maxRecDepth 20000 in
theorem ggX10_does_X10_rested : GoodIn wsX10_does wsX10_rested := goodIn_r _ [49, 50, 6, 7, 8, 9, 10, 11, 12, 51, 52, 53, 54, 55, 31, 5, 32, 56, 30, 89, 90, 91, 92, 93, 94, 95, 96, 97, 98, 99, 100, 101, 102, 103, 104, 105, 106, 107, 108, 109, 110, 111, 112, 113, 114, 115, 116, 117, 118, 119, 120, 121, 122, 123, 124, 125, 126, 127, 128, 129, 130, 131, 132, 133, 134, 135, 136, 137, 138, 139] (by decide +kernel) (by decide +kernel)
set_option maxRecDepth 20000 in
theorem gX10_does_X10_rested : GoodIn wsX10_does (wsV RX10 304 RX10 yX10_rested wsX10_rested) := goodIn_app (goodIn_of _ (by decide +kernel)) ggX10_does_X10_rested
set_option maxRecDepth 20000 in
theorem ggX10_does_X10_feeds : GoodIn wsX10_does wsX10_feeds := goodIn_r _ [60, 31, 5, 89, 90, 91, 92, 93, 94, 95, 96, 97, 98, 99, 100, 101, 102, 103, 104, 105, 106, 107, 108, 109, 110, 111, 112, 113, 114, 115, 116, 117, 118, 119, 120, 121, 122, 123, 124, 125, 126, 127, 128, 129, 130, 131, 132, 133, 134, 135, 136, 137, 138, 139] (by decide +kernel) (by decide +kernel)
set_option maxRecDepth 20000 in
theorem gX10_does_X10_feeds : GoodIn wsX10_does (wsV RX10 123 RX10 yX10_feeds wsX10_feeds) := goodIn_app (goodIn_of _ (by decide +kernel)) ggX10_does_X10_feeds
set_option maxRecDepth 20000 in
theorem ggX10_does_X10_limes : GoodIn wsX10_does wsX10_limes := goodIn_r _ [64, 5, 30, 31, 89, 90, 91, 92, 93, 94, 95, 96, 97, 98, 99, 100, 101, 102, 103, 104, 105, 106, 107, 108, 109, 110, 111, 112, 113, 114, 115, 116, 117, 118, 119, 120, 121, 122, 123, 124, 125, 126, 127, 128, 129, 130, 131, 132, 133, 134, 135, 136, 137, 138, 139] (by decide +kernel) (by decide +kernel)
set_option maxRecDepth 20000 in
theorem gX10_does_X10_limes : GoodIn wsX10_does (wsV RX10 127 RX10 yX10_limes wsX10_limes) := goodIn_app (goodIn_of _ (by decide +kernel)) ggX10_does_X10_limes
set_option maxRecDepth 20000 in
theorem ggX10_does_X10_doesBlocks : GoodIn wsX10_does wsX10_doesBlocks := goodIn_r _ [68, 1, 2, 69, 70, 6, 7, 8, 9, 10, 11, 12, 71, 72, 73, 74, 75, 76, 77, 25, 24, 78, 79, 80, 81, 82, 4, 55, 23, 31, 83, 3, 0, 5, 13, 14, 15, 16, 17, 18, 19, 20, 21, 22, 26, 27, 28, 29, 30, 32, 33, 34, 35, 36, 37, 38, 39, 40, 41, 42, 43, 44, 45, 46, 47, 48, 49, 50, 51, 52, 53, 54, 56, 57, 58, 59, 60, 61, 62, 63, 64, 65, 66, 67, 84, 85, 86, 87, 88, 89, 90, 91, 92, 93, 94, 95, 96, 97, 98, 99, 100, 101, 102, 103, 104, 105, 106, 107, 108, 109, 110, 111, 112, 113, 114, 115, 116, 117, 118, 119, 120, 121, 122, 123, 124, 125, 126, 127, 128, 129, 130, 131, 132, 133, 134, 135, 136, 137, 138, 139] (by decide +kernel) (by decide +kernel)
set_option maxRecDepth 20000 in
theorem gX10_does_X10_doesBlocks : GoodIn wsX10_does (wsV RX10 307 RX10 yX10_doesBlocks wsX10_doesBlocks) := goodIn_app (goodIn_of _ (by decide +kernel)) ggX10_does_X10_doesBlocks
set_option maxRecDepth 20000 in
theorem ggX10_dipped_X10_moves : GoodIn wsX10_dipped wsX10_moves := goodIn_r _ [8, 9, 10, 1, 11, 12, 24, 25, 26, 27, 28, 29, 30, 31, 32, 33, 34, 35, 36, 37, 38, 39, 40, 41, 42, 43, 44, 45, 46, 47, 48, 49, 50, 51, 52, 53, 54, 55, 56, 57, 58, 59, 60, 61, 62, 63, 64, 65, 66, 67, 68, 69, 70, 71, 72, 73, 74] (by decide +kernel) (by decide +kernel)
set_option maxRecDepth 20000 in
theorem gX10_dipped_X10_moves : GoodIn wsX10_dipped (wsV RX10 137 RX10 yX10_moves wsX10_moves) := goodIn_app (goodIn_of _ (by decide +kernel)) ggX10_dipped_X10_moves
set_option maxRecDepth 20000 in
theorem ggX10_dipped_X10_dips : GoodIn wsX10_dipped wsX10_dips := goodIn_r _ [16, 9, 11, 17, 1, 18, 19, 20, 21, 22, 23, 4, 5, 6, 7, 8, 10, 12, 24, 25, 26, 27, 28, 29, 30, 31, 32, 33, 34, 35, 36, 37, 38, 39, 40, 41, 42, 43, 44, 45, 46, 47, 48, 49, 50, 51, 52, 53, 54, 55, 56, 57, 58, 59, 60, 61, 62, 63, 64, 65, 66, 67, 68, 69, 70, 71, 72, 73, 74] (by decide +kernel) (by decide +kernel)
set_option maxRecDepth 20000 in
theorem gX10_dipped_X10_dips : GoodIn wsX10_dipped (wsV RX10 147 RX10 yX10_dips wsX10_dips) := goodIn_app (goodIn_of _ (by decide +kernel)) ggX10_dipped_X10_dips
set_option maxRecDepth 20000 in
theorem ggX10_rested_X10_counts : GoodIn wsX10_rested wsX10_counts := goodIn_r _ [6, 7, 8, 19, 20, 21, 22, 23, 24, 25, 26, 27, 28, 29, 30, 31, 32, 33, 34, 35, 36, 37, 38, 39, 40, 41, 42, 43, 44, 45, 46, 47, 48, 49, 50, 51, 52, 53, 54, 55, 56, 57, 58, 59, 60, 61, 62, 63, 64, 65, 66, 67, 68, 69] (by decide +kernel) (by decide +kernel)
set_option maxRecDepth 20000 in
theorem gX10_rested_X10_counts : GoodIn wsX10_rested (wsV RX10 297 RX10 yX10_counts wsX10_counts) := goodIn_app (goodIn_of _ (by decide +kernel)) ggX10_rested_X10_counts
set_option maxRecDepth 20000 in
theorem ggX10_rested_X10_hour : GoodIn wsX10_rested wsX10_hour := goodIn_r _ [12, 13, 14, 15, 16, 17, 18, 19, 20, 21, 22, 23, 24, 25, 26, 27, 28, 29, 30, 31, 32, 33, 34, 35, 36, 37, 38, 39, 40, 41, 42, 43, 44, 45, 46, 47, 48, 49, 50, 51, 52, 53, 54, 55, 56, 57, 58, 59, 60, 61, 62, 63, 64, 65, 66, 67, 68, 69] (by decide +kernel) (by decide +kernel)
set_option maxRecDepth 20000 in
theorem gX10_rested_X10_hour : GoodIn wsX10_rested (wsV RX10 134 RX10 yX10_hour wsX10_hour) := goodIn_app (goodIn_of _ (by decide +kernel)) ggX10_rested_X10_hour
set_option maxRecDepth 20000 in
theorem ggX10_doesBlocks_X10_counts : GoodIn wsX10_doesBlocks wsX10_counts := goodIn_r _ [9, 10, 11, 89, 90, 91, 92, 93, 94, 95, 96, 97, 98, 99, 100, 101, 102, 103, 104, 105, 106, 107, 108, 109, 110, 111, 112, 113, 114, 115, 116, 117, 118, 119, 120, 121, 122, 123, 124, 125, 126, 127, 128, 129, 130, 131, 132, 133, 134, 135, 136, 137, 138, 139] (by decide +kernel) (by decide +kernel)
set_option maxRecDepth 20000 in
theorem gX10_doesBlocks_X10_counts : GoodIn wsX10_doesBlocks (wsV RX10 297 RX10 yX10_counts wsX10_counts) := goodIn_app (goodIn_of _ (by decide +kernel)) ggX10_doesBlocks_X10_counts
set_option maxRecDepth 20000 in
theorem ggX10_doesBlocks_X10_row : GoodIn wsX10_doesBlocks wsX10_row := goodIn_r _ [84, 85, 86, 87, 88, 8, 32, 1, 2, 31, 26, 33, 5, 6, 7, 9, 10, 11, 34, 35, 36, 37, 38, 39, 40, 41, 42, 43, 28, 20, 19, 44, 45, 46, 47, 48, 29, 49, 50, 51, 52, 53, 54, 55, 56, 57, 58, 59, 60, 61, 62, 63, 64, 65, 66, 67, 68, 69, 70, 71, 27, 72, 73, 74, 75, 76, 77, 78, 79, 80, 81, 82, 83, 0, 3, 4, 12, 13, 14, 15, 16, 17, 18, 21, 22, 23, 24, 25, 30, 89, 90, 91, 92, 93, 94, 95, 96, 97, 98, 99, 100, 101, 102, 103, 104, 105, 106, 107, 108, 109, 110, 111, 112, 113, 114, 115, 116, 117, 118, 119, 120, 121, 122, 123, 124, 125, 126, 127, 128, 129, 130, 131, 132, 133, 134, 135, 136, 137, 138, 139] (by decide +kernel) (by decide +kernel)
set_option maxRecDepth 20000 in
theorem gX10_doesBlocks_X10_row : GoodIn wsX10_doesBlocks (wsV RX10 319 RX10 yX10_row wsX10_row) := goodIn_app (goodIn_of _ (by decide +kernel)) ggX10_doesBlocks_X10_row
set_option maxRecDepth 20000 in
theorem ggX10_doesBlocks_X10_shadeOf : GoodIn wsX10_doesBlocks wsX10_shadeOf := goodIn_r _ [18, 19, 20, 89, 90, 91, 92, 93, 94, 95, 96, 97, 98, 99, 100, 101, 102, 103, 104, 105, 106, 107, 108, 109, 110, 111, 112, 113, 114, 115, 116, 117, 118, 119, 120, 121, 122, 123, 124, 125, 126, 127, 128, 129, 130, 131, 132, 133, 134, 135, 136, 137, 138, 139] (by decide +kernel) (by decide +kernel)
set_option maxRecDepth 20000 in
theorem gX10_doesBlocks_X10_shadeOf : GoodIn wsX10_doesBlocks (wsV RX10 322 RX10 yX10_shadeOf wsX10_shadeOf) := goodIn_app (goodIn_of _ (by decide +kernel)) ggX10_doesBlocks_X10_shadeOf
set_option maxRecDepth 20000 in
theorem ggX10_doesBlocks_X10_holds : GoodIn wsX10_doesBlocks wsX10_holds := goodIn_r _ [24, 25, 26, 27, 28, 2, 29, 30, 31, 15, 16, 17, 8, 18, 19, 20, 89, 90, 91, 92, 93, 94, 95, 96, 97, 98, 99, 100, 101, 102, 103, 104, 105, 106, 107, 108, 109, 110, 111, 112, 113, 114, 115, 116, 117, 118, 119, 120, 121, 122, 123, 124, 125, 126, 127, 128, 129, 130, 131, 132, 133, 134, 135, 136, 137, 138, 139] (by decide +kernel) (by decide +kernel)
set_option maxRecDepth 20000 in
theorem gX10_doesBlocks_X10_holds : GoodIn wsX10_doesBlocks (wsV RX10 325 RX10 yX10_holds wsX10_holds) := goodIn_app (goodIn_of _ (by decide +kernel)) ggX10_doesBlocks_X10_holds
set_option maxRecDepth 20000 in
theorem ggX10_holds_X10_shadeOf : GoodIn wsX10_holds wsX10_shadeOf := goodIn_r _ [13, 14, 15, 16, 17, 18, 19, 20, 21, 22, 23, 24, 25, 26, 27, 28, 29, 30, 31, 32, 33, 34, 35, 36, 37, 38, 39, 40, 41, 42, 43, 44, 45, 46, 47, 48, 49, 50, 51, 52, 53, 54, 55, 56, 57, 58, 59, 60, 61, 62, 63, 64, 65, 66] (by decide +kernel) (by decide +kernel)
set_option maxRecDepth 20000 in
theorem gX10_holds_X10_shadeOf : GoodIn wsX10_holds (wsV RX10 322 RX10 yX10_shadeOf wsX10_shadeOf) := goodIn_app (goodIn_of _ (by decide +kernel)) ggX10_holds_X10_shadeOf
set_option maxRecDepth 20000 in
theorem ggX10_run_X10_isCloth : GoodIn wsX10_run wsX10_isCloth := goodIn_r _ [13, 14, 15, 16, 17, 18, 12, 19, 108, 109, 110, 111, 112, 113, 114, 115, 116, 117, 118, 119, 120, 121, 122, 123, 124, 125, 126, 127, 128, 129, 130, 131, 132, 133, 134, 135, 136, 137, 138, 139, 140, 141, 142, 143, 144, 145, 146, 147, 148, 149, 150, 151, 152, 153, 154, 155, 156, 157, 158] (by decide +kernel) (by decide +kernel)
set_option maxRecDepth 20000 in
theorem gX10_run_X10_isCloth : GoodIn wsX10_run (wsV RX10 141 RX10 yX10_isCloth wsX10_isCloth) := goodIn_app (goodIn_of _ (by decide +kernel)) ggX10_run_X10_isCloth
set_option maxRecDepth 20000 in
theorem ggX10_run_X10_isDry : GoodIn wsX10_run wsX10_isDry := goodIn_r _ [23, 24, 108, 109, 110, 111, 112, 113, 114, 115, 116, 117, 118, 119, 120, 121, 122, 123, 124, 125, 126, 127, 128, 129, 130, 131, 132, 133, 134, 135, 136, 137, 138, 139, 140, 141, 142, 143, 144, 145, 146, 147, 148, 149, 150, 151, 152, 153, 154, 155, 156, 157, 158] (by decide +kernel) (by decide +kernel)
set_option maxRecDepth 20000 in
theorem gX10_run_X10_isDry : GoodIn wsX10_run (wsV RX10 144 RX10 yX10_isDry wsX10_isDry) := goodIn_app (goodIn_of _ (by decide +kernel)) ggX10_run_X10_isDry
set_option maxRecDepth 20000 in
theorem ggX10_run_X10_row : GoodIn wsX10_run wsX10_row := goodIn_r _ [28, 29, 30, 31, 32, 12, 33, 34, 35, 36, 37, 38, 39, 40, 41, 42, 3, 2, 43, 44, 45, 46, 5, 4, 47, 48, 49, 50, 51, 52, 53, 54, 55, 56, 57, 58, 59, 60, 61, 62, 63, 64, 65, 66, 67, 68, 69, 70, 71, 72, 73, 74, 75, 76, 77, 6, 78, 79, 80, 81, 82, 83, 84, 85, 86, 87, 88, 89, 90, 91, 92, 93, 94, 95, 96, 97, 25, 26, 27, 98, 99, 100, 101, 102, 103, 104, 105, 106, 107, 108, 109, 110, 111, 112, 113, 114, 115, 116, 117, 118, 119, 120, 121, 122, 123, 124, 125, 126, 127, 128, 129, 130, 131, 132, 133, 134, 135, 136, 137, 138, 139, 140, 141, 142, 143, 144, 145, 146, 147, 148, 149, 150, 151, 152, 153, 154, 155, 156, 157, 158] (by decide +kernel) (by decide +kernel)
set_option maxRecDepth 20000 in
theorem gX10_run_X10_row : GoodIn wsX10_run (wsV RX10 319 RX10 yX10_row wsX10_row) := goodIn_app (goodIn_of _ (by decide +kernel)) ggX10_run_X10_row
set_option maxRecDepth 20000 in
theorem ggX10_ran_X10_right : GoodIn wsX10_ran wsX10_right := goodIn_r _ [12, 1, 13, 14, 15, 16, 17, 18, 19, 20, 21, 22, 23, 24, 25, 26, 27, 28, 29, 30, 31, 32, 33, 34, 35, 36, 37, 38, 39, 40, 41, 42, 43, 44, 45, 46, 47, 48, 49, 50, 51, 52, 53, 54, 55, 56, 57, 58, 59, 60, 61, 62, 63] (by decide +kernel) (by decide +kernel)
set_option maxRecDepth 20000 in
theorem gX10_ran_X10_right : GoodIn wsX10_ran (wsV RX10 108 RX10 yX10_right wsX10_right) := goodIn_app (goodIn_of _ (by decide +kernel)) ggX10_ran_X10_right
set_option maxRecDepth 20000 in
theorem ggX10_thinks_X10_moves : GoodIn wsX10_thinks wsX10_moves := goodIn_r _ [11, 1, 12, 4, 2, 6, 13, 14, 15, 16, 17, 18, 19, 20, 21, 22, 23, 24, 25, 26, 27, 28, 29, 30, 31, 32, 33, 34, 35, 36, 37, 38, 39, 40, 41, 42, 43, 44, 45, 46, 47, 48, 49, 50, 51, 52, 53, 54, 55, 56, 57, 58, 59, 60, 61, 62, 63] (by decide +kernel) (by decide +kernel)
set_option maxRecDepth 20000 in
theorem gX10_thinks_X10_moves : GoodIn wsX10_thinks (wsV RX10 137 RX10 yX10_moves wsX10_moves) := goodIn_app (goodIn_of _ (by decide +kernel)) ggX10_thinks_X10_moves
set_option maxRecDepth 20000 in
theorem ggX10_leads_X10_shadeOf : GoodIn wsX10_leads wsX10_shadeOf := goodIn_r _ [10, 11, 12, 36, 37, 38, 39, 40, 41, 42, 43, 44, 45, 46, 47, 48, 49, 50, 51, 52, 53, 54, 55, 56, 57, 58, 59, 60, 61, 62, 63, 64, 65, 66, 67, 68, 69, 70, 71, 72, 73, 74, 75, 76, 77, 78, 79, 80, 81, 82, 83, 84, 85, 86] (by decide +kernel) (by decide +kernel)
set_option maxRecDepth 20000 in
theorem gX10_leads_X10_shadeOf : GoodIn wsX10_leads (wsV RX10 322 RX10 yX10_shadeOf wsX10_shadeOf) := goodIn_app (goodIn_of _ (by decide +kernel)) ggX10_leads_X10_shadeOf
set_option maxRecDepth 20000 in
theorem ggX10_leads_X10_keeps : GoodIn wsX10_leads wsX10_keeps := goodIn_r _ [16, 17, 18, 19, 20, 2, 1, 11, 36, 37, 38, 39, 40, 41, 42, 43, 44, 45, 46, 47, 48, 49, 50, 51, 52, 53, 54, 55, 56, 57, 58, 59, 60, 61, 62, 63, 64, 65, 66, 67, 68, 69, 70, 71, 72, 73, 74, 75, 76, 77, 78, 79, 80, 81, 82, 83, 84, 85, 86] (by decide +kernel) (by decide +kernel)
set_option maxRecDepth 20000 in
theorem gX10_leads_X10_keeps : GoodIn wsX10_leads (wsV RX10 331 RX10 yX10_keeps wsX10_keeps) := goodIn_app (goodIn_of _ (by decide +kernel)) ggX10_leads_X10_keeps
set_option maxRecDepth 20000 in
theorem ggX10_leads_X10_moves : GoodIn wsX10_leads wsX10_moves := goodIn_r _ [24, 18, 12, 2, 1, 11, 36, 37, 38, 39, 40, 41, 42, 43, 44, 45, 46, 47, 48, 49, 50, 51, 52, 53, 54, 55, 56, 57, 58, 59, 60, 61, 62, 63, 64, 65, 66, 67, 68, 69, 70, 71, 72, 73, 74, 75, 76, 77, 78, 79, 80, 81, 82, 83, 84, 85, 86] (by decide +kernel) (by decide +kernel)
set_option maxRecDepth 20000 in
theorem gX10_leads_X10_moves : GoodIn wsX10_leads (wsV RX10 137 RX10 yX10_moves wsX10_moves) := goodIn_app (goodIn_of _ (by decide +kernel)) ggX10_leads_X10_moves
set_option maxRecDepth 20000 in
theorem ggX10_leads_X10_thinks : GoodIn wsX10_leads wsX10_thinks := goodIn_r _ [28, 18, 1, 20, 2, 19, 11, 21, 22, 23, 9, 24, 12, 36, 37, 38, 39, 40, 41, 42, 43, 44, 45, 46, 47, 48, 49, 50, 51, 52, 53, 54, 55, 56, 57, 58, 59, 60, 61, 62, 63, 64, 65, 66, 67, 68, 69, 70, 71, 72, 73, 74, 75, 76, 77, 78, 79, 80, 81, 82, 83, 84, 85, 86] (by decide +kernel) (by decide +kernel)
set_option maxRecDepth 20000 in
theorem gX10_leads_X10_thinks : GoodIn wsX10_leads (wsV RX10 335 RX10 yX10_thinks wsX10_thinks) := goodIn_app (goodIn_of _ (by decide +kernel)) ggX10_leads_X10_thinks
set_option maxRecDepth 20000 in
theorem ggX10_leads_X10_leads : GoodIn wsX10_leads wsX10_leads := goodIn_r _ [0, 1, 2, 3, 4, 5, 6, 7, 8, 9, 10, 11, 12, 13, 14, 15, 16, 17, 18, 19, 20, 21, 22, 23, 24, 25, 26, 27, 28, 29, 30, 31, 32, 33, 34, 35, 36, 37, 38, 39, 40, 41, 42, 43, 44, 45, 46, 47, 48, 49, 50, 51, 52, 53, 54, 55, 56, 57, 58, 59, 60, 61, 62, 63, 64, 65, 66, 67, 68, 69, 70, 71, 72, 73, 74, 75, 76, 77, 78, 79, 80, 81, 82, 83, 84, 85, 86] (by decide +kernel) (by decide +kernel)
set_option maxRecDepth 20000 in
theorem gX10_leads_X10_leads : GoodIn wsX10_leads (wsV RX10 339 RX10 yX10_leads wsX10_leads) := goodIn_app (goodIn_of _ (by decide +kernel)) ggX10_leads_X10_leads
set_option maxRecDepth 20000 in
theorem ggX10_leads_X10_restores : GoodIn wsX10_leads wsX10_restores := goodIn_r _ [35, 18, 17, 19, 20, 2, 1, 11, 36, 37, 38, 39, 40, 41, 42, 43, 44, 45, 46, 47, 48, 49, 50, 51, 52, 53, 54, 55, 56, 57, 58, 59, 60, 61, 62, 63, 64, 65, 66, 67, 68, 69, 70, 71, 72, 73, 74, 75, 76, 77, 78, 79, 80, 81, 82, 83, 84, 85, 86] (by decide +kernel) (by decide +kernel)
set_option maxRecDepth 20000 in
theorem gX10_leads_X10_restores : GoodIn wsX10_leads (wsV RX10 343 RX10 yX10_restores wsX10_restores) := goodIn_app (goodIn_of _ (by decide +kernel)) ggX10_leads_X10_restores
set_option maxRecDepth 20000 in
theorem ggX10_plan_X10_isCloth : GoodIn wsX10_plan wsX10_isCloth := goodIn_r _ [6, 7, 8, 9, 10, 11, 5, 12, 53, 54, 55, 56, 57, 58, 59, 60, 61, 62, 63, 64, 65, 66, 67, 68, 69, 70, 71, 72, 73, 74, 75, 76, 77, 78, 79, 80, 81, 82, 83, 84, 85, 86, 87, 88, 89, 90, 91, 92, 93, 94, 95, 96, 97, 98, 99, 100, 101, 102, 103] (by decide +kernel) (by decide +kernel)
set_option maxRecDepth 20000 in
theorem gX10_plan_X10_isCloth : GoodIn wsX10_plan (wsV RX10 141 RX10 yX10_isCloth wsX10_isCloth) := goodIn_app (goodIn_of _ (by decide +kernel)) ggX10_plan_X10_isCloth
set_option maxRecDepth 20000 in
theorem ggX10_plan_X10_right : GoodIn wsX10_plan wsX10_right := goodIn_r _ [12, 7, 53, 54, 55, 56, 57, 58, 59, 60, 61, 62, 63, 64, 65, 66, 67, 68, 69, 70, 71, 72, 73, 74, 75, 76, 77, 78, 79, 80, 81, 82, 83, 84, 85, 86, 87, 88, 89, 90, 91, 92, 93, 94, 95, 96, 97, 98, 99, 100, 101, 102, 103] (by decide +kernel) (by decide +kernel)
set_option maxRecDepth 20000 in
theorem gX10_plan_X10_right : GoodIn wsX10_plan (wsV RX10 108 RX10 yX10_right wsX10_right) := goodIn_app (goodIn_of _ (by decide +kernel)) ggX10_plan_X10_right
set_option maxRecDepth 20000 in
theorem ggX10_plan_X10_isDry : GoodIn wsX10_plan wsX10_isDry := goodIn_r _ [16, 17, 53, 54, 55, 56, 57, 58, 59, 60, 61, 62, 63, 64, 65, 66, 67, 68, 69, 70, 71, 72, 73, 74, 75, 76, 77, 78, 79, 80, 81, 82, 83, 84, 85, 86, 87, 88, 89, 90, 91, 92, 93, 94, 95, 96, 97, 98, 99, 100, 101, 102, 103] (by decide +kernel) (by decide +kernel)
set_option maxRecDepth 20000 in
theorem gX10_plan_X10_isDry : GoodIn wsX10_plan (wsV RX10 144 RX10 yX10_isDry wsX10_isDry) := goodIn_app (goodIn_of _ (by decide +kernel)) ggX10_plan_X10_isDry
set_option maxRecDepth 20000 in
theorem ggX10_plan_X10_leads : GoodIn wsX10_plan wsX10_leads := goodIn_r _ [21, 22, 23, 24, 25, 26, 27, 28, 29, 5, 30, 31, 32, 33, 34, 35, 36, 37, 38, 39, 40, 41, 42, 43, 44, 45, 46, 47, 48, 18, 19, 20, 49, 50, 51, 52, 53, 54, 55, 56, 57, 58, 59, 60, 61, 62, 63, 64, 65, 66, 67, 68, 69, 70, 71, 72, 73, 74, 75, 76, 77, 78, 79, 80, 81, 82, 83, 84, 85, 86, 87, 88, 89, 90, 91, 92, 93, 94, 95, 96, 97, 98, 99, 100, 101, 102, 103] (by decide +kernel) (by decide +kernel)
set_option maxRecDepth 20000 in
theorem gX10_plan_X10_leads : GoodIn wsX10_plan (wsV RX10 339 RX10 yX10_leads wsX10_leads) := goodIn_app (goodIn_of _ (by decide +kernel)) ggX10_plan_X10_leads
set_option maxRecDepth 20000 in
theorem ggX10_planned_X10_right : GoodIn wsX10_planned wsX10_right := goodIn_r _ [10, 1, 11, 12, 13, 14, 15, 16, 17, 18, 19, 20, 21, 22, 23, 24, 25, 26, 27, 28, 29, 30, 31, 32, 33, 34, 35, 36, 37, 38, 39, 40, 41, 42, 43, 44, 45, 46, 47, 48, 49, 50, 51, 52, 53, 54, 55, 56, 57, 58, 59, 60, 61] (by decide +kernel) (by decide +kernel)
set_option maxRecDepth 20000 in
theorem gX10_planned_X10_right : GoodIn wsX10_planned (wsV RX10 108 RX10 yX10_right wsX10_right) := goodIn_app (goodIn_of _ (by decide +kernel)) ggX10_planned_X10_right
set_option maxRecDepth 20000 in
theorem ggX10_vat_X10_isVat : GoodIn wsX10_vat wsX10_isVat := goodIn_r _ [11, 12, 13, 14, 15, 10, 16, 17, 18, 19, 20, 21, 22, 23, 24, 25, 26, 27, 28, 29, 30, 31, 32, 33, 34, 35, 36, 37, 38, 39, 40, 41, 42, 43, 44, 45, 46, 47, 48, 49, 50, 51, 52, 53, 54, 55, 56, 57, 58, 59, 60, 61, 62, 63, 64, 65, 66, 67] (by decide +kernel) (by decide +kernel)
set_option maxRecDepth 20000 in
theorem gX10_vat_X10_isVat : GoodIn wsX10_vat (wsV RX10 115 RX10 yX10_isVat wsX10_isVat) := goodIn_app (goodIn_of _ (by decide +kernel)) ggX10_vat_X10_isVat
set_option maxRecDepth 20000 in
theorem ggX10_vat_X10_right : GoodIn wsX10_vat wsX10_right := goodIn_r _ [16, 12, 17, 18, 19, 20, 21, 22, 23, 24, 25, 26, 27, 28, 29, 30, 31, 32, 33, 34, 35, 36, 37, 38, 39, 40, 41, 42, 43, 44, 45, 46, 47, 48, 49, 50, 51, 52, 53, 54, 55, 56, 57, 58, 59, 60, 61, 62, 63, 64, 65, 66, 67] (by decide +kernel) (by decide +kernel)
set_option maxRecDepth 20000 in
theorem gX10_vat_X10_right : GoodIn wsX10_vat (wsV RX10 108 RX10 yX10_right wsX10_right) := goodIn_app (goodIn_of _ (by decide +kernel)) ggX10_vat_X10_right
set_option maxRecDepth 20000 in
theorem ggX10_about_X10_isCloth : GoodIn wsX10_about wsX10_isCloth := goodIn_r _ [11, 12, 13, 14, 15, 16, 10, 17, 26, 27, 28, 29, 30, 31, 32, 33, 34, 35, 36, 37, 38, 39, 40, 41, 42, 43, 44, 45, 46, 47, 48, 49, 50, 51, 52, 53, 54, 55, 56, 57, 58, 59, 60, 61, 62, 63, 64, 65, 66, 67, 68, 69, 70, 71, 72, 73, 74, 75, 76] (by decide +kernel) (by decide +kernel)
set_option maxRecDepth 20000 in
theorem gX10_about_X10_isCloth : GoodIn wsX10_about (wsV RX10 141 RX10 yX10_isCloth wsX10_isCloth) := goodIn_app (goodIn_of _ (by decide +kernel)) ggX10_about_X10_isCloth
set_option maxRecDepth 20000 in
theorem ggX10_about_X10_right : GoodIn wsX10_about wsX10_right := goodIn_r _ [17, 12, 26, 27, 28, 29, 30, 31, 32, 33, 34, 35, 36, 37, 38, 39, 40, 41, 42, 43, 44, 45, 46, 47, 48, 49, 50, 51, 52, 53, 54, 55, 56, 57, 58, 59, 60, 61, 62, 63, 64, 65, 66, 67, 68, 69, 70, 71, 72, 73, 74, 75, 76] (by decide +kernel) (by decide +kernel)
set_option maxRecDepth 20000 in
theorem gX10_about_X10_right : GoodIn wsX10_about (wsV RX10 108 RX10 yX10_right wsX10_right) := goodIn_app (goodIn_of _ (by decide +kernel)) ggX10_about_X10_right
set_option maxRecDepth 20000 in
theorem ggX10_about_X10_shadeOf : GoodIn wsX10_about wsX10_shadeOf := goodIn_r _ [21, 3, 1, 26, 27, 28, 29, 30, 31, 32, 33, 34, 35, 36, 37, 38, 39, 40, 41, 42, 43, 44, 45, 46, 47, 48, 49, 50, 51, 52, 53, 54, 55, 56, 57, 58, 59, 60, 61, 62, 63, 64, 65, 66, 67, 68, 69, 70, 71, 72, 73, 74, 75, 76] (by decide +kernel) (by decide +kernel)
set_option maxRecDepth 20000 in
theorem gX10_about_X10_shadeOf : GoodIn wsX10_about (wsV RX10 322 RX10 yX10_shadeOf wsX10_shadeOf) := goodIn_app (goodIn_of _ (by decide +kernel)) ggX10_about_X10_shadeOf
set_option maxRecDepth 20000 in
theorem ggX10_about_X10_isDry : GoodIn wsX10_about wsX10_isDry := goodIn_r _ [25, 4, 26, 27, 28, 29, 30, 31, 32, 33, 34, 35, 36, 37, 38, 39, 40, 41, 42, 43, 44, 45, 46, 47, 48, 49, 50, 51, 52, 53, 54, 55, 56, 57, 58, 59, 60, 61, 62, 63, 64, 65, 66, 67, 68, 69, 70, 71, 72, 73, 74, 75, 76] (by decide +kernel) (by decide +kernel)
set_option maxRecDepth 20000 in
theorem gX10_about_X10_isDry : GoodIn wsX10_about (wsV RX10 144 RX10 yX10_isDry wsX10_isDry) := goodIn_app (goodIn_of _ (by decide +kernel)) ggX10_about_X10_isDry
set_option maxRecDepth 20000 in
theorem ggX10_count_X10_right : GoodIn wsX10_count wsX10_right := goodIn_r _ [12, 1, 13, 14, 15, 16, 17, 18, 19, 20, 21, 22, 23, 24, 25, 26, 27, 28, 29, 30, 31, 32, 33, 34, 35, 36, 37, 38, 39, 40, 41, 42, 43, 44, 45, 46, 47, 48, 49, 50, 51, 52, 53, 54, 55, 56, 57, 58, 59, 60, 61, 62, 63] (by decide +kernel) (by decide +kernel)
set_option maxRecDepth 20000 in
theorem gX10_count_X10_right : GoodIn wsX10_count (wsV RX10 108 RX10 yX10_right wsX10_right) := goodIn_app (goodIn_of _ (by decide +kernel)) ggX10_count_X10_right
set_option maxRecDepth 20000 in
theorem ggX10_hasSpan_X10_isDry : GoodIn wsX10_hasSpan wsX10_isDry := goodIn_r _ [6, 1, 7, 8, 9, 10, 11, 12, 13, 14, 15, 16, 17, 18, 19, 20, 21, 22, 23, 24, 25, 26, 27, 28, 29, 30, 31, 32, 33, 34, 35, 36, 37, 38, 39, 40, 41, 42, 43, 44, 45, 46, 47, 48, 49, 50, 51, 52, 53, 54, 55, 56, 57] (by decide +kernel) (by decide +kernel)
set_option maxRecDepth 20000 in
theorem gX10_hasSpan_X10_isDry : GoodIn wsX10_hasSpan (wsV RX10 144 RX10 yX10_isDry wsX10_isDry) := goodIn_app (goodIn_of _ (by decide +kernel)) ggX10_hasSpan_X10_isDry
set_option maxRecDepth 20000 in
theorem ggX10_fadedTo_X10_shadeOf : GoodIn wsX10_fadedTo wsX10_shadeOf := goodIn_r _ [6, 7, 8, 9, 10, 11, 12, 13, 14, 15, 16, 17, 18, 19, 20, 21, 22, 23, 24, 25, 26, 27, 28, 29, 30, 31, 32, 33, 34, 35, 36, 37, 38, 39, 40, 41, 42, 43, 44, 45, 46, 47, 48, 49, 50, 51, 52, 53, 54, 55, 56, 57, 58, 59] (by decide +kernel) (by decide +kernel)
set_option maxRecDepth 20000 in
theorem gX10_fadedTo_X10_shadeOf : GoodIn wsX10_fadedTo (wsV RX10 322 RX10 yX10_shadeOf wsX10_shadeOf) := goodIn_app (goodIn_of _ (by decide +kernel)) ggX10_fadedTo_X10_shadeOf
set_option maxRecDepth 20000 in
theorem ggX10_faded_X10_isCloth : GoodIn wsX10_faded wsX10_isCloth := goodIn_r _ [6, 7, 8, 9, 10, 11, 5, 12, 32, 33, 34, 35, 36, 37, 38, 39, 40, 41, 42, 43, 44, 45, 46, 47, 48, 49, 50, 51, 52, 53, 54, 55, 56, 57, 58, 59, 60, 61, 62, 63, 64, 65, 66, 67, 68, 69, 70, 71, 72, 73, 74, 75, 76, 77, 78, 79, 80, 81, 82] (by decide +kernel) (by decide +kernel)
set_option maxRecDepth 20000 in
theorem gX10_faded_X10_isCloth : GoodIn wsX10_faded (wsV RX10 141 RX10 yX10_isCloth wsX10_isCloth) := goodIn_app (goodIn_of _ (by decide +kernel)) ggX10_faded_X10_isCloth
set_option maxRecDepth 20000 in
theorem ggX10_faded_X10_right : GoodIn wsX10_faded wsX10_right := goodIn_r _ [12, 7, 32, 33, 34, 35, 36, 37, 38, 39, 40, 41, 42, 43, 44, 45, 46, 47, 48, 49, 50, 51, 52, 53, 54, 55, 56, 57, 58, 59, 60, 61, 62, 63, 64, 65, 66, 67, 68, 69, 70, 71, 72, 73, 74, 75, 76, 77, 78, 79, 80, 81, 82] (by decide +kernel) (by decide +kernel)
set_option maxRecDepth 20000 in
theorem gX10_faded_X10_right : GoodIn wsX10_faded (wsV RX10 108 RX10 yX10_right wsX10_right) := goodIn_app (goodIn_of _ (by decide +kernel)) ggX10_faded_X10_right
set_option maxRecDepth 20000 in
theorem ggX10_faded_X10_hasSpan : GoodIn wsX10_faded wsX10_hasSpan := goodIn_r _ [16, 17, 18, 19, 20, 5, 21, 32, 33, 34, 35, 36, 37, 38, 39, 40, 41, 42, 43, 44, 45, 46, 47, 48, 49, 50, 51, 52, 53, 54, 55, 56, 57, 58, 59, 60, 61, 62, 63, 64, 65, 66, 67, 68, 69, 70, 71, 72, 73, 74, 75, 76, 77, 78, 79, 80, 81, 82] (by decide +kernel) (by decide +kernel)
set_option maxRecDepth 20000 in
theorem gX10_faded_X10_hasSpan : GoodIn wsX10_faded (wsV RX10 349 RX10 yX10_hasSpan wsX10_hasSpan) := goodIn_app (goodIn_of _ (by decide +kernel)) ggX10_faded_X10_hasSpan
set_option maxRecDepth 20000 in
theorem ggX10_faded_X10_fadedTo : GoodIn wsX10_faded wsX10_fadedTo := goodIn_r _ [25, 17, 26, 27, 28, 5, 29, 30, 31, 32, 33, 34, 35, 36, 37, 38, 39, 40, 41, 42, 43, 44, 45, 46, 47, 48, 49, 50, 51, 52, 53, 54, 55, 56, 57, 58, 59, 60, 61, 62, 63, 64, 65, 66, 67, 68, 69, 70, 71, 72, 73, 74, 75, 76, 77, 78, 79, 80, 81, 82] (by decide +kernel) (by decide +kernel)
set_option maxRecDepth 20000 in
theorem gX10_faded_X10_fadedTo : GoodIn wsX10_faded (wsV RX10 352 RX10 yX10_fadedTo wsX10_fadedTo) := goodIn_app (goodIn_of _ (by decide +kernel)) ggX10_faded_X10_fadedTo
set_option maxRecDepth 20000 in
theorem ggX10_matching_X10_isCloth : GoodIn wsX10_matching wsX10_isCloth := goodIn_r _ [7, 8, 2, 9, 10, 11, 6, 12, 32, 33, 34, 35, 36, 37, 38, 39, 40, 41, 42, 43, 44, 45, 46, 47, 48, 49, 50, 51, 52, 53, 54, 55, 56, 57, 58, 59, 60, 61, 62, 63, 64, 65, 66, 67, 68, 69, 70, 71, 72, 73, 74, 75, 76, 77, 78, 79, 80, 81, 82] (by decide +kernel) (by decide +kernel)
set_option maxRecDepth 20000 in
theorem gX10_matching_X10_isCloth : GoodIn wsX10_matching (wsV RX10 141 RX10 yX10_isCloth wsX10_isCloth) := goodIn_app (goodIn_of _ (by decide +kernel)) ggX10_matching_X10_isCloth
set_option maxRecDepth 20000 in
theorem ggX10_matching_X10_right : GoodIn wsX10_matching wsX10_right := goodIn_r _ [12, 8, 32, 33, 34, 35, 36, 37, 38, 39, 40, 41, 42, 43, 44, 45, 46, 47, 48, 49, 50, 51, 52, 53, 54, 55, 56, 57, 58, 59, 60, 61, 62, 63, 64, 65, 66, 67, 68, 69, 70, 71, 72, 73, 74, 75, 76, 77, 78, 79, 80, 81, 82] (by decide +kernel) (by decide +kernel)
set_option maxRecDepth 20000 in
theorem gX10_matching_X10_right : GoodIn wsX10_matching (wsV RX10 108 RX10 yX10_right wsX10_right) := goodIn_app (goodIn_of _ (by decide +kernel)) ggX10_matching_X10_right
set_option maxRecDepth 20000 in
theorem ggX10_matching_X10_hasSpan : GoodIn wsX10_matching wsX10_hasSpan := goodIn_r _ [16, 17, 18, 19, 20, 6, 21, 32, 33, 34, 35, 36, 37, 38, 39, 40, 41, 42, 43, 44, 45, 46, 47, 48, 49, 50, 51, 52, 53, 54, 55, 56, 57, 58, 59, 60, 61, 62, 63, 64, 65, 66, 67, 68, 69, 70, 71, 72, 73, 74, 75, 76, 77, 78, 79, 80, 81, 82] (by decide +kernel) (by decide +kernel)
set_option maxRecDepth 20000 in
theorem gX10_matching_X10_hasSpan : GoodIn wsX10_matching (wsV RX10 349 RX10 yX10_hasSpan wsX10_hasSpan) := goodIn_app (goodIn_of _ (by decide +kernel)) ggX10_matching_X10_hasSpan
set_option maxRecDepth 20000 in
theorem ggX10_matching_X10_fadedTo : GoodIn wsX10_matching wsX10_fadedTo := goodIn_r _ [25, 17, 26, 27, 28, 6, 29, 30, 31, 32, 33, 34, 35, 36, 37, 38, 39, 40, 41, 42, 43, 44, 45, 46, 47, 48, 49, 50, 51, 52, 53, 54, 55, 56, 57, 58, 59, 60, 61, 62, 63, 64, 65, 66, 67, 68, 69, 70, 71, 72, 73, 74, 75, 76, 77, 78, 79, 80, 81, 82] (by decide +kernel) (by decide +kernel)
set_option maxRecDepth 20000 in
theorem gX10_matching_X10_fadedTo : GoodIn wsX10_matching (wsV RX10 352 RX10 yX10_fadedTo wsX10_fadedTo) := goodIn_app (goodIn_of _ (by decide +kernel)) ggX10_matching_X10_fadedTo
set_option maxRecDepth 20000 in
theorem ggJ0_length_8abf5_J0_coder_7d493 : GoodIn wsJ0_length_8abf5 wsJ0_coder_7d493 := goodIn_r _ [6, 7, 8] (by decide +kernel) (by decide +kernel)
set_option maxRecDepth 20000 in
theorem gJ0_length_8abf5_J0_coder_7d493 : GoodIn wsJ0_length_8abf5 (wsV RJ0 335 RJ0 yJ0_coder_7d493 wsJ0_coder_7d493) := goodIn_app (goodIn_of _ (by decide +kernel)) ggJ0_length_8abf5_J0_coder_7d493
set_option maxRecDepth 20000 in
theorem ggJ0_charAt_5068e_J0_isLatin1_aae02 : GoodIn wsJ0_charAt_5068e wsJ0_isLatin1_aae02 := goodIn_r _ [6, 7, 8] (by decide +kernel) (by decide +kernel)
set_option maxRecDepth 20000 in
theorem gJ0_charAt_5068e_J0_isLatin1_aae02 : GoodIn wsJ0_charAt_5068e (wsV RJ0 492 RJ0 yJ0_isLatin1_aae02 wsJ0_isLatin1_aae02) := goodIn_app (goodIn_of _ (by decide +kernel)) ggJ0_charAt_5068e_J0_isLatin1_aae02
set_option maxRecDepth 20000 in
theorem ggJ0_charAt_5068e_J1_charAt_3b067 : GoodIn wsJ0_charAt_5068e wsJ1_charAt_3b067 := goodIn_r _ [12, 13, 14, 5, 15, 16, 17, 18, 19, 20] (by decide +kernel) (by decide +kernel)
set_option maxRecDepth 20000 in
theorem gJ0_charAt_5068e_J1_charAt_3b067 : GoodIn wsJ0_charAt_5068e (va_wsS RJ0 495 yJ1_charAt_3b067 wsJ1_charAt_3b067) := goodIn_app (goodIn_of _ (by decide +kernel)) ggJ0_charAt_5068e_J1_charAt_3b067
set_option maxRecDepth 20000 in
theorem ggJ0_charAt_5068e_J2_charAt_3b067 : GoodIn wsJ0_charAt_5068e wsJ2_charAt_3b067 := goodIn_r _ [24, 25, 26, 23, 27, 28, 29, 30, 31, 14, 5, 15, 16, 17, 18, 19, 20, 32, 33, 34, 35, 36, 37] (by decide +kernel) (by decide +kernel)
set_option maxRecDepth 20000 in
theorem gJ0_charAt_5068e_J2_charAt_3b067 : GoodIn wsJ0_charAt_5068e (va_wsS RJ0 498 yJ2_charAt_3b067 wsJ2_charAt_3b067) := goodIn_app (goodIn_of _ (by decide +kernel)) ggJ0_charAt_5068e_J2_charAt_3b067
set_option maxRecDepth 20000 in
theorem ggJ0_checkIndex_df160_J3_checkIndex_8e157 : GoodIn wsJ0_checkIndex_df160 wsJ3_checkIndex_8e157 := goodIn_r _ [5] (by decide +kernel) (by decide +kernel)
set_option maxRecDepth 20000 in
theorem gJ0_checkIndex_df160_J3_checkIndex_8e157 : GoodIn wsJ0_checkIndex_df160 (va_wsS RJ0 1059 yJ3_checkIndex_8e157 wsJ3_checkIndex_8e157) := goodIn_app (goodIn_of _ (by decide +kernel)) ggJ0_checkIndex_df160_J3_checkIndex_8e157
set_option maxRecDepth 20000 in
theorem ggJ1_charAt_3b067_J0_checkIndex_df160 : GoodIn wsJ1_charAt_3b067 wsJ0_checkIndex_df160 := goodIn_r _ [4, 5, 6, 7, 8, 9] (by decide +kernel) (by decide +kernel)
set_option maxRecDepth 20000 in
theorem gJ1_charAt_3b067_J0_checkIndex_df160 : GoodIn wsJ1_charAt_3b067 (va_wsS RJ1 9 yJ0_checkIndex_df160 wsJ0_checkIndex_df160) := goodIn_app (goodIn_of _ (by decide +kernel)) ggJ1_charAt_3b067_J0_checkIndex_df160
set_option maxRecDepth 20000 in
theorem ggJ2_getChar_3b067_J2_length_9d52b : GoodIn wsJ2_getChar_3b067 wsJ2_length_9d52b := goodIn_r _ [7] (by decide +kernel) (by decide +kernel)
set_option maxRecDepth 20000 in
theorem gJ2_getChar_3b067_J2_length_9d52b : GoodIn wsJ2_getChar_3b067 (va_wsS RJ2 48 yJ2_length_9d52b wsJ2_length_9d52b) := goodIn_app (goodIn_of _ (by decide +kernel)) ggJ2_getChar_3b067_J2_length_9d52b
set_option maxRecDepth 20000 in
theorem ggJ2_charAt_3b067_J2_checkIndex_2214a : GoodIn wsJ2_charAt_3b067 wsJ2_checkIndex_2214a := goodIn_r _ [4, 5, 6, 3, 7, 8, 9, 10, 11, 12, 13, 14, 15, 16] (by decide +kernel) (by decide +kernel)
set_option maxRecDepth 20000 in
theorem gJ2_charAt_3b067_J2_checkIndex_2214a : GoodIn wsJ2_charAt_3b067 (va_wsS RJ2 67 yJ2_checkIndex_2214a wsJ2_checkIndex_2214a) := goodIn_app (goodIn_of _ (by decide +kernel)) ggJ2_charAt_3b067_J2_checkIndex_2214a
set_option maxRecDepth 20000 in
theorem ggJ2_charAt_3b067_J2_getChar_3b067 : GoodIn wsJ2_charAt_3b067 wsJ2_getChar_3b067 := goodIn_r _ [19, 20, 21, 22, 5, 6, 3, 7] (by decide +kernel) (by decide +kernel)
set_option maxRecDepth 20000 in
theorem gJ2_charAt_3b067_J2_getChar_3b067 : GoodIn wsJ2_charAt_3b067 (va_wsS RJ2 71 yJ2_getChar_3b067 wsJ2_getChar_3b067) := goodIn_app (goodIn_of _ (by decide +kernel)) ggJ2_charAt_3b067_J2_getChar_3b067
set_option maxRecDepth 20000 in
theorem ggJ2_checkIndex_2214a_J2_length_9d52b : GoodIn wsJ2_checkIndex_2214a wsJ2_length_9d52b := goodIn_r _ [4] (by decide +kernel) (by decide +kernel)
set_option maxRecDepth 20000 in
theorem gJ2_checkIndex_2214a_J2_length_9d52b : GoodIn wsJ2_checkIndex_2214a (va_wsS RJ2 48 yJ2_length_9d52b wsJ2_length_9d52b) := goodIn_app (goodIn_of _ (by decide +kernel)) ggJ2_checkIndex_2214a_J2_length_9d52b
set_option maxRecDepth 20000 in
theorem ggJ2_checkIndex_2214a_J0_checkIndex_df160 : GoodIn wsJ2_checkIndex_2214a wsJ0_checkIndex_df160 := goodIn_r _ [8, 9, 10, 11, 12, 13] (by decide +kernel) (by decide +kernel)
set_option maxRecDepth 20000 in
theorem gJ2_checkIndex_2214a_J0_checkIndex_df160 : GoodIn wsJ2_checkIndex_2214a (va_wsS RJ2 414 yJ0_checkIndex_df160 wsJ0_checkIndex_df160) := goodIn_app (goodIn_of _ (by decide +kernel)) ggJ2_checkIndex_2214a_J0_checkIndex_df160
