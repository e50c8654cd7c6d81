set_option maxRecDepth 20000 in
theorem ggX10_test_X10_skip : GoodIn wsX10_test wsX10_skip := goodIn_m (subW_r _ [16, 1, 12, 4, 98, 99, 100, 101, 102, 103, 104, 105, 106, 107, 108, 109, 110, 111, 112, 113, 114, 115, 116, 117, 118, 119, 120, 121, 122, 123, 124, 125, 126, 127, 128, 129, 130, 131, 132, 133, 134, 135, 136, 137, 138, 139, 140, 141, 142, 143, 144, 145, 146, 147, 148] (by exact rfl)) gwd_X10_skip
set_option maxRecDepth 20000 in
theorem gX10_test_X10_skip : GoodIn wsX10_test (wsV RX10 208 RX10 yX10_skip wsX10_skip) := goodIn_app (goodIn_r _ [13, 14, 15, 10] (by exact rfl) (by decide +kernel)) ggX10_test_X10_skip
set_option maxRecDepth 20000 in
theorem ggX10_test_X10_isSign : GoodIn wsX10_test wsX10_isSign := goodIn_m (subW_r _ [97, 1, 12, 4, 13, 14, 15, 10, 16, 98, 99, 100, 101, 102, 103, 104, 105, 106, 107, 108, 109, 110, 111, 112, 113, 114, 115, 116, 117, 118, 119, 120, 121, 122, 123, 124, 125, 126, 127, 128, 129, 130, 131, 132, 133, 134, 135, 136, 137, 138, 139, 140, 141, 142, 143, 144, 145, 146, 147, 148] (by exact rfl)) gwd_X10_isSign
set_option maxRecDepth 20000 in
theorem gX10_test_X10_isSign : GoodIn wsX10_test (wsV RX10 228 RX10 yX10_isSign wsX10_isSign) := goodIn_app (goodIn_r _ [94, 95, 96, 10] (by exact rfl) (by decide +kernel)) ggX10_test_X10_isSign
set_option maxRecDepth 20000 in
theorem ggX10_test_X10_number : GoodIn wsX10_test wsX10_number := goodIn_m (subW_r _ [90, 1, 12, 4, 6, 13, 14, 15, 10, 16, 91, 92, 93, 72, 73, 74, 75, 76, 77, 98, 99, 100, 101, 102, 103, 104, 105, 106, 107, 108, 109, 110, 111, 112, 113, 114, 115, 116, 117, 118, 119, 120, 121, 122, 123, 124, 125, 126, 127, 128, 129, 130, 131, 132, 133, 134, 135, 136, 137, 138, 139, 140, 141, 142, 143, 144, 145, 146, 147, 148] (by exact rfl)) gwd_X10_number
set_option maxRecDepth 20000 in
theorem gX10_test_X10_number : GoodIn wsX10_test (wsV RX10 274 RX10 yX10_number wsX10_number) := goodIn_app (goodIn_r _ [87, 88, 89, 10] (by exact rfl) (by decide +kernel)) ggX10_test_X10_number
set_option maxRecDepth 20000 in
theorem ggX10_block_X10_isSign : GoodIn wsX10_block wsX10_isSign := goodIn_m (subW_r _ [9, 1, 10, 11, 12, 13, 14, 8, 15, 135, 136, 137, 138, 139, 140, 141, 142, 143, 144, 145, 146, 147, 148, 149, 150, 151, 152, 153, 154, 155, 156, 157, 158, 159, 160, 161, 162, 163, 164, 165, 166, 167, 168, 169, 170, 171, 172, 173, 174, 175, 176, 177, 178, 179, 180, 181, 182, 183, 184, 185] (by exact rfl)) gwd_X10_isSign
set_option maxRecDepth 20000 in
theorem gX10_block_X10_isSign : GoodIn wsX10_block (wsV RX10 228 RX10 yX10_isSign wsX10_isSign) := goodIn_app (goodIn_r _ [5, 6, 7, 8] (by exact rfl) (by decide +kernel)) ggX10_block_X10_isSign
set_option maxRecDepth 20000 in
theorem ggX10_block_X10_wrong : GoodIn wsX10_block wsX10_wrong := goodIn_m (subW_r _ [19, 20, 21, 135, 136, 137, 138, 139, 140, 141, 142, 143, 144, 145, 146, 147, 148, 149, 150, 151, 152, 153, 154, 155, 156, 157, 158, 159, 160, 161, 162, 163, 164, 165, 166, 167, 168, 169, 170, 171, 172, 173, 174, 175, 176, 177, 178, 179, 180, 181, 182, 183, 184, 185] (by exact rfl)) gwd_X10_wrong
set_option maxRecDepth 20000 in
theorem gX10_block_X10_wrong : GoodIn wsX10_block (wsV RX10 231 RX10 yX10_wrong wsX10_wrong) := goodIn_app (goodIn_r _ [16, 17, 18, 8] (by exact rfl) (by decide +kernel)) ggX10_block_X10_wrong
set_option maxRecDepth 20000 in
theorem ggX10_block_X10_steps : GoodIn wsX10_block wsX10_steps := goodIn_m (subW_r _ [131, 1, 10, 127, 12, 13, 14, 8, 15, 11, 5, 6, 7, 9, 132, 133, 134, 0, 2, 3, 4, 16, 17, 18, 19, 20, 21, 22, 23, 24, 25, 26, 27, 28, 29, 30, 31, 32, 33, 34, 35, 36, 37, 38, 39, 40, 41, 42, 43, 44, 45, 46, 47, 48, 49, 50, 51, 52, 53, 54, 55, 56, 57, 58, 59, 60, 61, 62, 63, 64, 65, 66, 67, 68, 69, 70, 71, 72, 73, 74, 75, 76, 77, 78, 79, 80, 81, 82, 83, 84, 85, 86, 87, 88, 89, 90, 91, 92, 93, 94, 95, 96, 97, 98, 99, 100, 101, 102, 103, 104, 105, 106, 107, 108, 109, 110, 111, 112, 113, 114, 115, 116, 117, 118, 119, 120, 121, 122, 123, 124, 125, 126, 128, 129, 130, 135, 136, 137, 138, 139, 140, 141, 142, 143, 144, 145, 146, 147, 148, 149, 150, 151, 152, 153, 154, 155, 156, 157, 158, 159, 160, 161, 162, 163, 164, 165, 166, 167, 168, 169, 170, 171, 172, 173, 174, 175, 176, 177, 178, 179, 180, 181, 182, 183, 184, 185] (by exact rfl)) gwd_X10_steps
set_option maxRecDepth 20000 in
theorem gX10_block_X10_steps : GoodIn wsX10_block (wsV RX10 280 RX10 yX10_steps wsX10_steps) := goodIn_app (goodIn_r _ [22, 23, 24, 8] (by exact rfl) (by decide +kernel)) ggX10_block_X10_steps
set_option maxRecDepth 20000 in
theorem ggX10_recipe_X10_right : GoodIn wsX10_recipe wsX10_right := goodIn_m (subW_r _ [24, 1, 145, 146, 147, 148, 149, 150, 151, 152, 153, 154, 155, 156, 157, 158, 159, 160, 161, 162, 163, 164, 165, 166, 167, 168, 169, 170, 171, 172, 173, 174, 175, 176, 177, 178, 179, 180, 181, 182, 183, 184, 185, 186, 187, 188, 189, 190, 191, 192, 193, 194, 195] (by exact rfl)) gwd_X10_right
set_option maxRecDepth 20000 in
theorem gX10_recipe_X10_right : GoodIn wsX10_recipe (wsV RX10 108 RX10 yX10_right wsX10_right) := goodIn_app (goodIn_r _ [20, 21, 22, 23] (by exact rfl) (by decide +kernel)) ggX10_recipe_X10_right
set_option maxRecDepth 20000 in
theorem ggX10_recipe_X10_steps : GoodIn wsX10_recipe wsX10_steps := goodIn_m (subW_r _ [28, 4, 3, 16, 29, 30, 31, 23, 32, 33, 34, 35, 36, 37, 38, 39, 40, 41, 8, 15, 14, 42, 43, 44, 45, 5, 6, 25, 26, 27, 46, 9, 47, 48, 49, 50, 11, 51, 52, 53, 54, 55, 10, 56, 57, 58, 59, 60, 61, 62, 63, 64, 65, 66, 67, 68, 69, 70, 71, 72, 73, 12, 13, 74, 75, 76, 77, 78, 79, 80, 81, 82, 83, 84, 85, 86, 87, 88, 89, 90, 91, 92, 93, 94, 95, 96, 97, 98, 99, 100, 101, 102, 103, 104, 105, 106, 107, 108, 109, 110, 111, 112, 113, 114, 115, 116, 117, 118, 119, 120, 121, 122, 123, 124, 125, 126, 127, 128, 129, 130, 131, 132, 133, 134, 135, 136, 137, 138, 139, 140, 141, 7, 142, 143, 144, 145, 146, 147, 148, 149, 150, 151, 152, 153, 154, 155, 156, 157, 158, 159, 160, 161, 162, 163, 164, 165, 166, 167, 168, 169, 170, 171, 172, 173, 174, 175, 176, 177, 178, 179, 180, 181, 182, 183, 184, 185, 186, 187, 188, 189, 190, 191, 192, 193, 194, 195] (by exact rfl)) gwd_X10_steps
set_option maxRecDepth 20000 in
theorem gX10_recipe_X10_steps : GoodIn wsX10_recipe (wsV RX10 280 RX10 yX10_steps wsX10_steps) := goodIn_app (goodIn_r _ [25, 26, 27, 23] (by exact rfl) (by decide +kernel)) ggX10_recipe_X10_steps
set_option maxRecDepth 20000 in
theorem ggX10_fault_X10_right : GoodIn wsX10_fault wsX10_right := goodIn_m (subW_r _ [8, 1, 9, 10, 11, 12, 13, 14, 15, 16, 17, 18, 19, 20, 21, 22, 23, 24, 25, 26, 27, 28, 29, 30, 31, 32, 33, 34, 35, 36, 37, 38, 39, 40, 41, 42, 43, 44, 45, 46, 47, 48, 49, 50, 51, 52, 53, 54, 55, 56, 57, 58, 59] (by exact rfl)) gwd_X10_right
set_option maxRecDepth 20000 in
theorem gX10_fault_X10_right : GoodIn wsX10_fault (wsV RX10 108 RX10 yX10_right wsX10_right) := goodIn_app (goodIn_r _ [4, 5, 6, 7] (by exact rfl) (by decide +kernel)) ggX10_fault_X10_right
set_option maxRecDepth 20000 in
theorem ggX10_row_X10_does : GoodIn wsX10_row wsX10_does := goodIn_m (subW_r _ [6, 7, 8, 9, 10, 11, 12, 13, 14, 5, 15, 16, 17, 18, 19, 20, 21, 22, 23, 24, 25, 26, 27, 28, 29, 30, 31, 32, 33, 34, 35, 36, 37, 38, 39, 40, 41, 42, 43, 44, 45, 46, 47, 48, 49, 50, 51, 52, 53, 54, 55, 56, 57, 58, 59, 60, 61, 62, 63, 64, 65, 66, 67, 68, 69, 70, 71, 72, 73, 74, 75, 76, 77, 78, 79, 80, 81, 82, 83, 84, 85, 86, 87, 88, 0, 1, 2, 3, 4, 89, 90, 91, 92, 93, 94, 95, 96, 97, 98, 99, 100, 101, 102, 103, 104, 105, 106, 107, 108, 109, 110, 111, 112, 113, 114, 115, 116, 117, 118, 119, 120, 121, 122, 123, 124, 125, 126, 127, 128, 129, 130, 131, 132, 133, 134, 135, 136, 137, 138, 139] (by exact rfl)) gwd_X10_does
set_option maxRecDepth 20000 in
theorem gX10_row_X10_does : GoodIn wsX10_row (wsV RX10 293 RX10 yX10_does wsX10_does) := goodIn_app (goodIn_r _ [2, 3, 4, 5] (by exact rfl) (by decide +kernel)) ggX10_row_X10_does
set_option maxRecDepth 20000 in
theorem ggX10_does_X10_counts : GoodIn wsX10_does wsX10_counts := goodIn_m (subW_r _ [10, 11, 12, 89, 90, 91, 92, 93, 94, 95, 96, 97, 98, 99, 100, 101, 102, 103, 104, 105, 106, 107, 108, 109, 110, 111, 112, 113, 114, 115, 116, 117, 118, 119, 120, 121, 122, 123, 124, 125, 126, 127, 128, 129, 130, 131, 132, 133, 134, 135, 136, 137, 138, 139] (by exact rfl)) gwd_X10_counts
set_option maxRecDepth 20000 in
theorem gX10_does_X10_counts : GoodIn wsX10_does (wsV RX10 297 RX10 yX10_counts wsX10_counts) := goodIn_app (goodIn_r _ [6, 7, 8, 9] (by exact rfl) (by decide +kernel)) ggX10_does_X10_counts
set_option maxRecDepth 20000 in
theorem ggX10_does_X10_dipped : GoodIn wsX10_does wsX10_dipped := goodIn_m (subW_r _ [16, 5, 17, 18, 19, 20, 21, 9, 22, 23, 24, 4, 25, 26, 27, 28, 29, 30, 31, 32, 33, 34, 35, 36, 89, 90, 91, 92, 93, 94, 95, 96, 97, 98, 99, 100, 101, 102, 103, 104, 105, 106, 107, 108, 109, 110, 111, 112, 113, 114, 115, 116, 117, 118, 119, 120, 121, 122, 123, 124, 125, 126, 127, 128, 129, 130, 131, 132, 133, 134, 135, 136, 137, 138, 139] (by exact rfl)) gwd_X10_dipped
set_option maxRecDepth 20000 in
theorem gX10_does_X10_dipped : GoodIn wsX10_does (wsV RX10 301 RX10 yX10_dipped wsX10_dipped) := goodIn_app (goodIn_r _ [13, 14, 15, 9] (by exact rfl) (by decide +kernel)) ggX10_does_X10_dipped
set_option maxRecDepth 20000 in
theorem ggX10_does_X10_airs : GoodIn wsX10_does wsX10_airs := goodIn_m (subW_r _ [40, 4, 25, 41, 89, 90, 91, 92, 93, 94, 95, 96, 97, 98, 99, 100, 101, 102, 103, 104, 105, 106, 107, 108, 109, 110, 111, 112, 113, 114, 115, 116, 117, 118, 119, 120, 121, 122, 123, 124, 125, 126, 127, 128, 129, 130, 131, 132, 133, 134, 135, 136, 137, 138, 139] (by exact rfl)) gwd_X10_airs
set_option maxRecDepth 20000 in
theorem gX10_does_X10_airs : GoodIn wsX10_does (wsV RX10 156 RX10 yX10_airs wsX10_airs) := goodIn_app (goodIn_r _ [37, 38, 39, 9] (by exact rfl) (by decide +kernel)) ggX10_does_X10_airs
set_option maxRecDepth 20000 in
theorem ggX10_does_X10_washes : GoodIn wsX10_does wsX10_washes := goodIn_m (subW_r _ [45, 4, 25, 41, 89, 90, 91, 92, 93, 94, 95, 96, 97, 98, 99, 100, 101, 102, 103, 104, 105, 106, 107, 108, 109, 110, 111, 112, 113, 114, 115, 116, 117, 118, 119, 120, 121, 122, 123, 124, 125, 126, 127, 128, 129, 130, 131, 132, 133, 134, 135, 136, 137, 138, 139] (by exact rfl)) gwd_X10_washes
set_option maxRecDepth 20000 in
theorem gX10_does_X10_washes : GoodIn wsX10_does (wsV RX10 152 RX10 yX10_washes wsX10_washes) := goodIn_app (goodIn_r _ [42, 43, 44, 9] (by exact rfl) (by decide +kernel)) ggX10_does_X10_washes
set_option maxRecDepth 20000 in
theorem ggX10_does_X10_rested : GoodIn wsX10_does wsX10_rested := goodIn_m (subW_r _ [49, 50, 6, 7, 8, 9, 10, 11, 12, 51, 52, 53, 54, 55, 31, 5, 32, 56, 30, 89, 90, 91, 92, 93, 94, 95, 96, 97, 98, 99, 100, 101, 102, 103, 104, 105, 106, 107, 108, 109, 110, 111, 112, 113, 114, 115, 116, 117, 118, 119, 120, 121, 122, 123, 124, 125, 126, 127, 128, 129, 130, 131, 132, 133, 134, 135, 136, 137, 138, 139] (by exact rfl)) gwd_X10_rested
set_option maxRecDepth 20000 in
theorem gX10_does_X10_rested : GoodIn wsX10_does (wsV RX10 304 RX10 yX10_rested wsX10_rested) := goodIn_app (goodIn_r _ [46, 47, 48, 9] (by exact rfl) (by decide +kernel)) ggX10_does_X10_rested
set_option maxRecDepth 20000 in
theorem ggX10_does_X10_feeds : GoodIn wsX10_does wsX10_feeds := goodIn_m (subW_r _ [60, 31, 5, 89, 90, 91, 92, 93, 94, 95, 96, 97, 98, 99, 100, 101, 102, 103, 104, 105, 106, 107, 108, 109, 110, 111, 112, 113, 114, 115, 116, 117, 118, 119, 120, 121, 122, 123, 124, 125, 126, 127, 128, 129, 130, 131, 132, 133, 134, 135, 136, 137, 138, 139] (by exact rfl)) gwd_X10_feeds
set_option maxRecDepth 20000 in
theorem gX10_does_X10_feeds : GoodIn wsX10_does (wsV RX10 123 RX10 yX10_feeds wsX10_feeds) := goodIn_app (goodIn_r _ [57, 58, 59, 9] (by exact rfl) (by decide +kernel)) ggX10_does_X10_feeds
set_option maxRecDepth 20000 in
theorem ggX10_does_X10_limes : GoodIn wsX10_does wsX10_limes := goodIn_m (subW_r _ [64, 5, 30, 31, 89, 90, 91, 92, 93, 94, 95, 96, 97, 98, 99, 100, 101, 102, 103, 104, 105, 106, 107, 108, 109, 110, 111, 112, 113, 114, 115, 116, 117, 118, 119, 120, 121, 122, 123, 124, 125, 126, 127, 128, 129, 130, 131, 132, 133, 134, 135, 136, 137, 138, 139] (by exact rfl)) gwd_X10_limes
set_option maxRecDepth 20000 in
theorem gX10_does_X10_limes : GoodIn wsX10_does (wsV RX10 127 RX10 yX10_limes wsX10_limes) := goodIn_app (goodIn_r _ [61, 62, 63, 9] (by exact rfl) (by decide +kernel)) ggX10_does_X10_limes
set_option maxRecDepth 20000 in
theorem ggX10_does_X10_doesBlocks : GoodIn wsX10_does wsX10_doesBlocks := goodIn_m (subW_r _ [68, 1, 2, 69, 70, 6, 7, 8, 9, 10, 11, 12, 71, 72, 73, 74, 75, 76, 77, 25, 24, 78, 79, 80, 81, 82, 4, 55, 23, 31, 83, 3, 0, 5, 13, 14, 15, 16, 17, 18, 19, 20, 21, 22, 26, 27, 28, 29, 30, 32, 33, 34, 35, 36, 37, 38, 39, 40, 41, 42, 43, 44, 45, 46, 47, 48, 49, 50, 51, 52, 53, 54, 56, 57, 58, 59, 60, 61, 62, 63, 64, 65, 66, 67, 84, 85, 86, 87, 88, 89, 90, 91, 92, 93, 94, 95, 96, 97, 98, 99, 100, 101, 102, 103, 104, 105, 106, 107, 108, 109, 110, 111, 112, 113, 114, 115, 116, 117, 118, 119, 120, 121, 122, 123, 124, 125, 126, 127, 128, 129, 130, 131, 132, 133, 134, 135, 136, 137, 138, 139] (by exact rfl)) gwd_X10_doesBlocks
set_option maxRecDepth 20000 in
theorem gX10_does_X10_doesBlocks : GoodIn wsX10_does (wsV RX10 307 RX10 yX10_doesBlocks wsX10_doesBlocks) := goodIn_app (goodIn_r _ [65, 66, 67, 9] (by exact rfl) (by decide +kernel)) ggX10_does_X10_doesBlocks
set_option maxRecDepth 20000 in
theorem ggX10_dipped_X10_moves : GoodIn wsX10_dipped wsX10_moves := goodIn_m (subW_r _ [8, 9, 10, 1, 11, 12, 24, 25, 26, 27, 28, 29, 30, 31, 32, 33, 34, 35, 36, 37, 38, 39, 40, 41, 42, 43, 44, 45, 46, 47, 48, 49, 50, 51, 52, 53, 54, 55, 56, 57, 58, 59, 60, 61, 62, 63, 64, 65, 66, 67, 68, 69, 70, 71, 72, 73, 74] (by exact rfl)) gwd_X10_moves
set_option maxRecDepth 20000 in
theorem gX10_dipped_X10_moves : GoodIn wsX10_dipped (wsV RX10 137 RX10 yX10_moves wsX10_moves) := goodIn_app (goodIn_r _ [4, 5, 6, 7] (by exact rfl) (by decide +kernel)) ggX10_dipped_X10_moves
set_option maxRecDepth 20000 in
theorem ggX10_dipped_X10_dips : GoodIn wsX10_dipped wsX10_dips := goodIn_m (subW_r _ [16, 9, 11, 17, 1, 18, 19, 20, 21, 22, 23, 4, 5, 6, 7, 8, 10, 12, 24, 25, 26, 27, 28, 29, 30, 31, 32, 33, 34, 35, 36, 37, 38, 39, 40, 41, 42, 43, 44, 45, 46, 47, 48, 49, 50, 51, 52, 53, 54, 55, 56, 57, 58, 59, 60, 61, 62, 63, 64, 65, 66, 67, 68, 69, 70, 71, 72, 73, 74] (by exact rfl)) gwd_X10_dips
set_option maxRecDepth 20000 in
theorem gX10_dipped_X10_dips : GoodIn wsX10_dipped (wsV RX10 147 RX10 yX10_dips wsX10_dips) := goodIn_app (goodIn_r _ [13, 14, 15, 7] (by exact rfl) (by decide +kernel)) ggX10_dipped_X10_dips
set_option maxRecDepth 20000 in
theorem ggX10_rested_X10_counts : GoodIn wsX10_rested wsX10_counts := goodIn_m (subW_r _ [6, 7, 8, 19, 20, 21, 22, 23, 24, 25, 26, 27, 28, 29, 30, 31, 32, 33, 34, 35, 36, 37, 38, 39, 40, 41, 42, 43, 44, 45, 46, 47, 48, 49, 50, 51, 52, 53, 54, 55, 56, 57, 58, 59, 60, 61, 62, 63, 64, 65, 66, 67, 68, 69] (by exact rfl)) gwd_X10_counts
set_option maxRecDepth 20000 in
theorem gX10_rested_X10_counts : GoodIn wsX10_rested (wsV RX10 297 RX10 yX10_counts wsX10_counts) := goodIn_app (goodIn_r _ [2, 3, 4, 5] (by exact rfl) (by decide +kernel)) ggX10_rested_X10_counts
set_option maxRecDepth 20000 in
theorem ggX10_rested_X10_hour : GoodIn wsX10_rested wsX10_hour := goodIn_m (subW_r _ [12, 13, 14, 15, 16, 17, 18, 19, 20, 21, 22, 23, 24, 25, 26, 27, 28, 29, 30, 31, 32, 33, 34, 35, 36, 37, 38, 39, 40, 41, 42, 43, 44, 45, 46, 47, 48, 49, 50, 51, 52, 53, 54, 55, 56, 57, 58, 59, 60, 61, 62, 63, 64, 65, 66, 67, 68, 69] (by exact rfl)) gwd_X10_hour
set_option maxRecDepth 20000 in
theorem gX10_rested_X10_hour : GoodIn wsX10_rested (wsV RX10 134 RX10 yX10_hour wsX10_hour) := goodIn_app (goodIn_r _ [9, 10, 11, 5] (by exact rfl) (by decide +kernel)) ggX10_rested_X10_hour
set_option maxRecDepth 20000 in
theorem ggX10_doesBlocks_X10_counts : GoodIn wsX10_doesBlocks wsX10_counts := goodIn_m (subW_r _ [9, 10, 11, 89, 90, 91, 92, 93, 94, 95, 96, 97, 98, 99, 100, 101, 102, 103, 104, 105, 106, 107, 108, 109, 110, 111, 112, 113, 114, 115, 116, 117, 118, 119, 120, 121, 122, 123, 124, 125, 126, 127, 128, 129, 130, 131, 132, 133, 134, 135, 136, 137, 138, 139] (by exact rfl)) gwd_X10_counts
set_option maxRecDepth 20000 in
theorem gX10_doesBlocks_X10_counts : GoodIn wsX10_doesBlocks (wsV RX10 297 RX10 yX10_counts wsX10_counts) := goodIn_app (goodIn_r _ [5, 6, 7, 8] (by exact rfl) (by decide +kernel)) ggX10_doesBlocks_X10_counts
set_option maxRecDepth 20000 in
theorem ggX10_doesBlocks_X10_row : GoodIn wsX10_doesBlocks wsX10_row := goodIn_m (subW_r _ [84, 85, 86, 87, 88, 8, 32, 1, 2, 31, 26, 33, 5, 6, 7, 9, 10, 11, 34, 35, 36, 37, 38, 39, 40, 41, 42, 43, 28, 20, 19, 44, 45, 46, 47, 48, 29, 49, 50, 51, 52, 53, 54, 55, 56, 57, 58, 59, 60, 61, 62, 63, 64, 65, 66, 67, 68, 69, 70, 71, 27, 72, 73, 74, 75, 76, 77, 78, 79, 80, 81, 82, 83, 0, 3, 4, 12, 13, 14, 15, 16, 17, 18, 21, 22, 23, 24, 25, 30, 89, 90, 91, 92, 93, 94, 95, 96, 97, 98, 99, 100, 101, 102, 103, 104, 105, 106, 107, 108, 109, 110, 111, 112, 113, 114, 115, 116, 117, 118, 119, 120, 121, 122, 123, 124, 125, 126, 127, 128, 129, 130, 131, 132, 133, 134, 135, 136, 137, 138, 139] (by exact rfl)) gwd_X10_row
set_option maxRecDepth 20000 in
theorem gX10_doesBlocks_X10_row : GoodIn wsX10_doesBlocks (wsV RX10 319 RX10 yX10_row wsX10_row) := goodIn_app (goodIn_r _ [12, 13, 14, 8] (by exact rfl) (by decide +kernel)) ggX10_doesBlocks_X10_row
set_option maxRecDepth 20000 in
theorem ggX10_doesBlocks_X10_shadeOf : GoodIn wsX10_doesBlocks wsX10_shadeOf := goodIn_m (subW_r _ [18, 19, 20, 89, 90, 91, 92, 93, 94, 95, 96, 97, 98, 99, 100, 101, 102, 103, 104, 105, 106, 107, 108, 109, 110, 111, 112, 113, 114, 115, 116, 117, 118, 119, 120, 121, 122, 123, 124, 125, 126, 127, 128, 129, 130, 131, 132, 133, 134, 135, 136, 137, 138, 139] (by exact rfl)) gwd_X10_shadeOf
set_option maxRecDepth 20000 in
theorem gX10_doesBlocks_X10_shadeOf : GoodIn wsX10_doesBlocks (wsV RX10 322 RX10 yX10_shadeOf wsX10_shadeOf) := goodIn_app (goodIn_r _ [15, 16, 17, 8] (by exact rfl) (by decide +kernel)) ggX10_doesBlocks_X10_shadeOf
set_option maxRecDepth 20000 in
theorem ggX10_doesBlocks_X10_holds : GoodIn wsX10_doesBlocks wsX10_holds := goodIn_m (subW_r _ [24, 25, 26, 27, 28, 2, 29, 30, 31, 15, 16, 17, 8, 18, 19, 20, 89, 90, 91, 92, 93, 94, 95, 96, 97, 98, 99, 100, 101, 102, 103, 104, 105, 106, 107, 108, 109, 110, 111, 112, 113, 114, 115, 116, 117, 118, 119, 120, 121, 122, 123, 124, 125, 126, 127, 128, 129, 130, 131, 132, 133, 134, 135, 136, 137, 138, 139] (by exact rfl)) gwd_X10_holds
set_option maxRecDepth 20000 in
theorem gX10_doesBlocks_X10_holds : GoodIn wsX10_doesBlocks (wsV RX10 325 RX10 yX10_holds wsX10_holds) := goodIn_app (goodIn_r _ [21, 22, 23, 8] (by exact rfl) (by decide +kernel)) ggX10_doesBlocks_X10_holds
set_option maxRecDepth 20000 in
theorem ggX10_holds_X10_shadeOf : GoodIn wsX10_holds wsX10_shadeOf := goodIn_m (subW_r _ [13, 14, 15, 16, 17, 18, 19, 20, 21, 22, 23, 24, 25, 26, 27, 28, 29, 30, 31, 32, 33, 34, 35, 36, 37, 38, 39, 40, 41, 42, 43, 44, 45, 46, 47, 48, 49, 50, 51, 52, 53, 54, 55, 56, 57, 58, 59, 60, 61, 62, 63, 64, 65, 66] (by exact rfl)) gwd_X10_shadeOf
set_option maxRecDepth 20000 in
theorem gX10_holds_X10_shadeOf : GoodIn wsX10_holds (wsV RX10 322 RX10 yX10_shadeOf wsX10_shadeOf) := goodIn_app (goodIn_r _ [9, 10, 11, 12] (by exact rfl) (by decide +kernel)) ggX10_holds_X10_shadeOf
set_option maxRecDepth 20000 in
theorem ggX10_run_X10_isCloth : GoodIn wsX10_run wsX10_isCloth := goodIn_m (subW_r _ [13, 14, 15, 16, 17, 18, 12, 19, 108, 109, 110, 111, 112, 113, 114, 115, 116, 117, 118, 119, 120, 121, 122, 123, 124, 125, 126, 127, 128, 129, 130, 131, 132, 133, 134, 135, 136, 137, 138, 139, 140, 141, 142, 143, 144, 145, 146, 147, 148, 149, 150, 151, 152, 153, 154, 155, 156, 157, 158] (by exact rfl)) gwd_X10_isCloth
set_option maxRecDepth 20000 in
theorem gX10_run_X10_isCloth : GoodIn wsX10_run (wsV RX10 141 RX10 yX10_isCloth wsX10_isCloth) := goodIn_app (goodIn_r _ [9, 10, 11, 12] (by exact rfl) (by decide +kernel)) ggX10_run_X10_isCloth
set_option maxRecDepth 20000 in
theorem ggX10_run_X10_isDry : GoodIn wsX10_run wsX10_isDry := goodIn_m (subW_r _ [23, 24, 108, 109, 110, 111, 112, 113, 114, 115, 116, 117, 118, 119, 120, 121, 122, 123, 124, 125, 126, 127, 128, 129, 130, 131, 132, 133, 134, 135, 136, 137, 138, 139, 140, 141, 142, 143, 144, 145, 146, 147, 148, 149, 150, 151, 152, 153, 154, 155, 156, 157, 158] (by exact rfl)) gwd_X10_isDry
set_option maxRecDepth 20000 in
theorem gX10_run_X10_isDry : GoodIn wsX10_run (wsV RX10 144 RX10 yX10_isDry wsX10_isDry) := goodIn_app (goodIn_r _ [20, 21, 22, 12] (by exact rfl) (by decide +kernel)) ggX10_run_X10_isDry
set_option maxRecDepth 20000 in
theorem ggX10_run_X10_row : GoodIn wsX10_run wsX10_row := goodIn_m (subW_r _ [28, 29, 30, 31, 32, 12, 33, 34, 35, 36, 37, 38, 39, 40, 41, 42, 3, 2, 43, 44, 45, 46, 5, 4, 47, 48, 49, 50, 51, 52, 53, 54, 55, 56, 57, 58, 59, 60, 61, 62, 63, 64, 65, 66, 67, 68, 69, 70, 71, 72, 73, 74, 75, 76, 77, 6, 78, 79, 80, 81, 82, 83, 84, 85, 86, 87, 88, 89, 90, 91, 92, 93, 94, 95, 96, 97, 25, 26, 27, 98, 99, 100, 101, 102, 103, 104, 105, 106, 107, 108, 109, 110, 111, 112, 113, 114, 115, 116, 117, 118, 119, 120, 121, 122, 123, 124, 125, 126, 127, 128, 129, 130, 131, 132, 133, 134, 135, 136, 137, 138, 139, 140, 141, 142, 143, 144, 145, 146, 147, 148, 149, 150, 151, 152, 153, 154, 155, 156, 157, 158] (by exact rfl)) gwd_X10_row
set_option maxRecDepth 20000 in
theorem gX10_run_X10_row : GoodIn wsX10_run (wsV RX10 319 RX10 yX10_row wsX10_row) := goodIn_app (goodIn_r _ [25, 26, 27, 12] (by exact rfl) (by decide +kernel)) ggX10_run_X10_row
