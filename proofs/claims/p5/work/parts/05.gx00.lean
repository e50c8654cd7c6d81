set_option maxRecDepth 20000 in
theorem ggX1_init_X0_init : GoodIn wsX1_init wsX0_init := goodIn_m (subW_r _ [19, 20, 2, 3, 21, 22, 23, 40, 41, 42, 43, 44, 45, 46, 47] (by exact rfl)) gwd_X0_init
set_option maxRecDepth 20000 in
theorem gX1_init_X0_init : GoodIn wsX1_init (wsX0_init) := ggX1_init_X0_init
set_option maxRecDepth 20000 in
theorem ggX1_init_X7_init : GoodIn wsX1_init wsX7_init := goodIn_m (subW_r _ [26, 27, 2, 3, 28, 29, 30, 48, 49, 50, 51, 52, 53, 54, 55] (by exact rfl)) gwd_X7_init
set_option maxRecDepth 20000 in
theorem gX1_init_X7_init : GoodIn wsX1_init (wsX7_init) := ggX1_init_X7_init
set_option maxRecDepth 20000 in
theorem ggX1_fewest_X8_vatAt : GoodIn wsX1_fewest wsX8_vatAt := goodIn_m (subW_ca (subW_r _ [11, 12, 13, 14, 86, 87, 88] (by exact rfl)) ((fun _ h => List.mem_cons_of_mem _ (List.mem_append_right _ h)))) gwd_X8_vatAt
set_option maxRecDepth 20000 in
theorem gX1_fewest_X8_vatAt : GoodIn wsX1_fewest (wsV RX1 50 RX8 yX8_vatAt wsX8_vatAt) := goodIn_app (goodIn_r _ [7, 8, 9, 10] (by exact rfl) (by decide +kernel)) ggX1_fewest_X8_vatAt
set_option maxRecDepth 20000 in
theorem ggX1_fewest_X7_copyFrom : GoodIn wsX1_fewest wsX7_copyFrom := goodIn_m (subW_r _ [19, 20, 21, 22, 23, 89, 90, 91, 92, 93, 94, 95, 96] (by exact rfl)) gwd_X7_copyFrom
set_option maxRecDepth 20000 in
theorem gX1_fewest_X7_copyFrom : GoodIn wsX1_fewest (wsV RX1 56 RX7 yX7_copyFrom wsX7_copyFrom) := goodIn_app (goodIn_r _ [15, 16, 17, 18] (by exact rfl) (by decide +kernel)) ggX1_fewest_X7_copyFrom
set_option maxRecDepth 20000 in
theorem ggX1_fewest_X0_copyFrom : GoodIn wsX1_fewest wsX0_copyFrom := goodIn_m (subW_r _ [28, 29, 30, 31, 97, 98, 99, 100, 101, 102, 103, 104] (by exact rfl)) gwd_X0_copyFrom
set_option maxRecDepth 20000 in
theorem gX1_fewest_X0_copyFrom : GoodIn wsX1_fewest (wsV RX1 60 RX0 yX0_copyFrom wsX0_copyFrom) := goodIn_app (goodIn_r _ [24, 25, 26, 27] (by exact rfl) (by decide +kernel)) ggX1_fewest_X0_copyFrom
set_option maxRecDepth 20000 in
theorem ggX1_fewest_X1_reaches : GoodIn wsX1_fewest wsX1_reaches := goodIn_m (subW_r _ [36, 5, 37, 1, 2, 3, 38, 39, 40, 27, 41, 29, 31, 42, 43, 44, 35, 45, 46, 47, 48, 49, 50, 51, 52, 53, 54, 55, 56, 57, 18, 58, 59, 23, 20, 60, 61, 62, 63, 64, 65, 66, 67, 30, 68, 69, 70, 71, 72, 22, 21, 73, 74, 75, 76, 32, 33, 34, 77, 78, 79, 80, 81, 82, 83, 84, 85, 97, 98, 99, 100, 101, 102, 103, 104, 89, 90, 91, 92, 93, 94, 95, 96] (by exact rfl)) gwd_X1_reaches
set_option maxRecDepth 20000 in
theorem gX1_fewest_X1_reaches : GoodIn wsX1_fewest (wsV RX1 63 RX1 yX1_reaches wsX1_reaches) := goodIn_app (goodIn_r _ [32, 33, 34, 35] (by exact rfl) (by decide +kernel)) ggX1_fewest_X1_reaches
set_option maxRecDepth 20000 in
theorem ggX1_reaches_X0_shade : GoodIn wsX1_reaches wsX0_shade := goodIn_m (subW_r _ [10, 11, 12, 67, 68, 69, 70, 71, 72, 73, 74] (by exact rfl)) gwd_X0_shade
set_option maxRecDepth 20000 in
theorem gX1_reaches_X0_shade : GoodIn wsX1_reaches (wsV RX1 73 RX0 yX0_shade wsX0_shade) := goodIn_app (goodIn_r _ [6, 7, 8, 9] (by exact rfl) (by decide +kernel)) ggX1_reaches_X0_shade
set_option maxRecDepth 20000 in
theorem ggX1_reaches_X1_reachesBy : GoodIn wsX1_reaches wsX1_reachesBy := goodIn_m (subW_r _ [17, 1, 18, 19, 20, 21, 2, 22, 23, 24, 25, 26, 4, 27, 28, 29, 30, 31, 32, 33, 34, 35, 36, 37, 38, 39, 40, 41, 9, 42, 11, 43, 12, 44, 45, 46, 47, 48, 49, 50, 51, 52, 53, 54, 6, 7, 8, 10, 55, 56, 57, 16, 0, 3, 5, 13, 14, 15, 58, 59, 60, 61, 62, 63, 64, 65, 66, 67, 68, 69, 70, 71, 72, 73, 74, 75, 76, 77, 78, 79, 80, 81, 82] (by exact rfl)) gwd_X1_reachesBy
set_option maxRecDepth 20000 in
theorem gX1_reaches_X1_reachesBy : GoodIn wsX1_reaches (wsV RX1 77 RX1 yX1_reachesBy wsX1_reachesBy) := goodIn_app (goodIn_r _ [13, 14, 15, 16] (by exact rfl) (by decide +kernel)) ggX1_reaches_X1_reachesBy
set_option maxRecDepth 20000 in
theorem ggX1_reachesBy_X7_givesTo : GoodIn wsX1_reachesBy wsX7_givesTo := goodIn_m (subW_r _ [17, 18, 19, 20, 21, 22, 23, 24, 25, 26, 27, 28, 29, 30, 31, 32, 67, 68, 69, 70, 71, 72, 73, 74, 75, 76, 77, 78, 79, 80, 81, 82] (by exact rfl)) gwd_X7_givesTo
set_option maxRecDepth 20000 in
theorem gX1_reachesBy_X7_givesTo : GoodIn wsX1_reachesBy (wsV RX1 81 RX7 yX7_givesTo wsX7_givesTo) := goodIn_app (goodIn_r _ [13, 14, 15, 16] (by exact rfl) (by decide +kernel)) ggX1_reachesBy_X7_givesTo
set_option maxRecDepth 20000 in
theorem ggX1_reachesBy_X7_soak : GoodIn wsX1_reachesBy wsX7_soak := goodIn_m (subW_r _ [36, 20, 37, 38, 19, 39, 75, 76, 77, 78, 79, 80, 81, 82, 67, 68, 69, 70, 71, 72, 73, 74] (by exact rfl)) gwd_X7_soak
set_option maxRecDepth 20000 in
theorem gX1_reachesBy_X7_soak : GoodIn wsX1_reachesBy (wsV RX1 100 RX7 yX7_soak wsX7_soak) := goodIn_app (goodIn_r _ [33, 34, 35, 16] (by exact rfl) (by decide +kernel)) ggX1_reachesBy_X7_soak
set_option maxRecDepth 20000 in
theorem ggX1_reachesBy_X0_loseByAir : GoodIn wsX1_reachesBy wsX0_loseByAir := goodIn_m (subW_r _ [43, 31, 32, 67, 68, 69, 70, 71, 72, 73, 74] (by exact rfl)) gwd_X0_loseByAir
set_option maxRecDepth 20000 in
theorem gX1_reachesBy_X0_loseByAir : GoodIn wsX1_reachesBy (wsV RX1 104 RX0 yX0_loseByAir wsX0_loseByAir) := goodIn_app (goodIn_r _ [40, 41, 42, 28] (by exact rfl) (by decide +kernel)) ggX1_reachesBy_X0_loseByAir
set_option maxRecDepth 20000 in
theorem ggX1_reachesBy_X0_shade : GoodIn wsX1_reachesBy wsX0_shade := goodIn_m (subW_r _ [47, 30, 32, 67, 68, 69, 70, 71, 72, 73, 74] (by exact rfl)) gwd_X0_shade
set_option maxRecDepth 20000 in
theorem gX1_reachesBy_X0_shade : GoodIn wsX1_reachesBy (wsV RX1 73 RX0 yX0_shade wsX0_shade) := goodIn_app (goodIn_r _ [44, 45, 46, 28] (by exact rfl) (by decide +kernel)) ggX1_reachesBy_X0_shade
set_option maxRecDepth 20000 in
theorem ggX1_reachesBy_X1_reaches : GoodIn wsX1_reachesBy wsX1_reaches := goodIn_m (subW_r _ [52, 1, 6, 53, 12, 54, 44, 45, 46, 28, 47, 30, 32, 55, 56, 57, 51, 0, 2, 3, 4, 5, 7, 8, 9, 10, 11, 13, 14, 15, 16, 17, 18, 19, 20, 21, 22, 23, 24, 25, 26, 27, 29, 31, 33, 34, 35, 36, 37, 38, 39, 40, 41, 42, 43, 48, 49, 50, 58, 59, 60, 61, 62, 63, 64, 65, 66, 67, 68, 69, 70, 71, 72, 73, 74, 75, 76, 77, 78, 79, 80, 81, 82] (by exact rfl)) gwd_X1_reaches
set_option maxRecDepth 20000 in
theorem gX1_reachesBy_X1_reaches : GoodIn wsX1_reachesBy (wsV RX1 63 RX1 yX1_reaches wsX1_reaches) := goodIn_app (goodIn_r _ [48, 49, 50, 51] (by exact rfl) (by decide +kernel)) ggX1_reachesBy_X1_reaches
set_option maxRecDepth 20000 in
theorem ggX2_init_X6_init : GoodIn wsX2_init wsX6_init := goodIn_m (subW_r _ [11, 12, 2, 3, 13, 14, 15, 16, 17, 24, 25, 26, 27, 28, 29, 30] (by exact rfl)) gwd_X6_init
set_option maxRecDepth 20000 in
theorem gX2_init_X6_init : GoodIn wsX2_init (wsX6_init) := ggX2_init_X6_init
set_option maxRecDepth 20000 in
theorem ggX2_readRecipe_X6_split : GoodIn wsX2_readRecipe wsX6_split := goodIn_m (subW_r _ [9, 10, 11, 12, 13, 14, 15, 16, 17, 18, 19, 20, 21, 22, 23, 8, 24, 25, 26, 27, 28, 29, 30, 31, 32, 33, 34, 35, 36, 37, 38, 39, 40, 41, 42, 43, 44, 45, 46, 47, 48, 49, 50, 51, 52, 53, 54, 55, 56, 57, 58, 59, 60, 61, 62, 63, 64, 65, 66, 67, 68, 69, 70, 71, 72, 73, 74, 75, 76, 77, 78, 79, 80, 81, 82, 83, 84, 85, 86, 87, 88, 89, 90, 91, 92, 93, 94, 95, 96, 97, 98, 99, 100, 101, 102, 103, 104, 105, 106, 107, 108, 109, 110, 111, 112, 184, 185, 186, 187, 188, 189, 190] (by exact rfl)) gwd_X6_split
set_option maxRecDepth 20000 in
theorem gX2_readRecipe_X6_split : GoodIn wsX2_readRecipe (wsV RX2 24 RX6 yX6_split wsX6_split) := goodIn_app (goodIn_r _ [5, 6, 7, 8] (by exact rfl) (by decide +kernel)) ggX2_readRecipe_X6_split
set_option maxRecDepth 20000 in
theorem ggX2_readRecipe_X2_moveTo : GoodIn wsX2_readRecipe wsX2_moveTo := goodIn_m (subW_r _ [117, 118, 1, 119, 120, 121, 178, 179, 180, 181, 182, 183, 184, 185, 186, 187, 188, 189, 190] (by exact rfl)) gwd_X2_moveTo
set_option maxRecDepth 20000 in
theorem gX2_readRecipe_X2_moveTo : GoodIn wsX2_readRecipe (wsV RX2 34 RX2 yX2_moveTo wsX2_moveTo) := goodIn_app (goodIn_r _ [113, 114, 115, 116] (by exact rfl) (by decide +kernel)) ggX2_readRecipe_X2_moveTo
set_option maxRecDepth 20000 in
theorem ggX2_readRecipe_X2_readSteps : GoodIn wsX2_readRecipe wsX2_readSteps := goodIn_m (subW_r _ [125, 2, 121, 126, 127, 128, 129, 116, 130, 131, 132, 133, 134, 118, 1, 135, 3, 136, 137, 138, 139, 113, 114, 115, 117, 119, 120, 122, 123, 124, 140, 141, 142, 143, 144, 145, 146, 147, 148, 149, 150, 151, 152, 153, 154, 155, 156, 157, 158, 159, 160, 161, 162, 163, 4, 164, 165, 166, 167, 168, 169, 170, 171, 172, 173, 174, 175, 176, 177, 178, 179, 180, 181, 182, 183, 184, 185, 186, 187, 188, 189, 190, 191, 192, 193, 194, 195, 196, 197, 198] (by exact rfl)) gwd_X2_readSteps
set_option maxRecDepth 20000 in
theorem gX2_readRecipe_X2_readSteps : GoodIn wsX2_readRecipe (wsV RX2 37 RX2 yX2_readSteps wsX2_readSteps) := goodIn_app (goodIn_r _ [122, 123, 124, 116] (by exact rfl) (by decide +kernel)) ggX2_readRecipe_X2_readSteps
set_option maxRecDepth 20000 in
theorem ggX2_readRecipe_X2_pass : GoodIn wsX2_readRecipe wsX2_pass := goodIn_m (subW_r _ [139, 121, 2, 118, 131, 132, 133, 116, 134, 1, 135, 3, 113, 114, 115, 117, 119, 120, 178, 179, 180, 181, 182, 183, 184, 185, 186, 187, 188, 189, 190] (by exact rfl)) gwd_X2_pass
set_option maxRecDepth 20000 in
theorem gX2_readRecipe_X2_pass : GoodIn wsX2_readRecipe (wsV RX2 41 RX2 yX2_pass wsX2_pass) := goodIn_app (goodIn_r _ [136, 137, 138, 116] (by exact rfl) (by decide +kernel)) ggX2_readRecipe_X2_pass
set_option maxRecDepth 20000 in
theorem ggX2_readSteps_X2_readStep : GoodIn wsX2_readSteps wsX2_readStep := goodIn_m (subW_r _ [50, 51, 52, 53, 2, 54, 31, 55, 56, 57, 58, 59, 60, 61, 9, 10, 11, 7, 12, 1, 13, 14, 15, 16, 17, 18, 19, 20, 21, 22, 23, 24, 25, 26, 62, 63, 64, 65, 48, 32, 35, 36, 37, 38, 39, 66, 67, 68, 8, 27, 28, 29, 30, 33, 34, 40, 41, 42, 43, 44, 45, 46, 47, 49, 0, 3, 4, 5, 6, 69, 70, 71, 72, 73, 74, 75, 76, 77, 78, 79, 80, 81, 82, 83, 84, 85, 86, 87, 88, 89] (by exact rfl)) gwd_X2_readStep
set_option maxRecDepth 20000 in
theorem gX2_readSteps_X2_readStep : GoodIn wsX2_readSteps (wsV RX2 47 RX2 yX2_readStep wsX2_readStep) := goodIn_app (goodIn_r _ [4, 5, 6, 7] (by exact rfl) (by decide +kernel)) ggX2_readSteps_X2_readStep
set_option maxRecDepth 20000 in
theorem ggX2_readStep_X5_init : GoodIn wsX2_readStep wsX5_init := goodIn_m (subW_r _ [9, 10, 11, 12, 13, 82, 83, 84, 85, 86, 87, 88, 89] (by exact rfl)) gwd_X5_init
set_option maxRecDepth 20000 in
theorem gX2_readStep_X5_init : GoodIn wsX2_readStep (wsX5_init) := ggX2_readStep_X5_init
set_option maxRecDepth 20000 in
theorem ggX2_readStep_X2_refuse : GoodIn wsX2_readStep wsX2_refuse := goodIn_m (subW_r _ [18, 19, 20, 21, 22, 23, 69, 70, 71, 72, 73, 74, 75, 76, 77, 78, 79, 80, 81] (by exact rfl)) gwd_X2_refuse
set_option maxRecDepth 20000 in
theorem gX2_readStep_X2_refuse : GoodIn wsX2_readStep (wsV RX2 58 RX2 yX2_refuse wsX2_refuse) := goodIn_app (goodIn_r _ [14, 15, 16, 17] (by exact rfl) (by decide +kernel)) ggX2_readStep_X2_refuse
set_option maxRecDepth 20000 in
theorem ggX2_readStep_X2_pass : GoodIn wsX2_readStep wsX2_pass := goodIn_m (subW_r _ [27, 4, 19, 20, 14, 15, 16, 17, 18, 21, 22, 23, 28, 29, 30, 31, 32, 33, 69, 70, 71, 72, 73, 74, 75, 76, 77, 78, 79, 80, 81] (by exact rfl)) gwd_X2_pass
set_option maxRecDepth 20000 in
theorem gX2_readStep_X2_pass : GoodIn wsX2_readStep (wsV RX2 41 RX2 yX2_pass wsX2_pass) := goodIn_app (goodIn_r _ [24, 25, 26, 17] (by exact rfl) (by decide +kernel)) ggX2_readStep_X2_pass
set_option maxRecDepth 20000 in
theorem ggX2_readStep_X2_readPlain : GoodIn wsX2_readStep wsX2_readPlain := goodIn_m (subW_r _ [37, 6, 38, 39, 40, 41, 42, 17, 43, 20, 21, 44, 4, 14, 15, 16, 18, 19, 22, 23, 24, 25, 26, 27, 28, 29, 30, 31, 32, 33, 82, 83, 84, 85, 86, 87, 88, 89, 69, 70, 71, 72, 73, 74, 75, 76, 77, 78, 79, 80, 81] (by exact rfl)) gwd_X2_readPlain
set_option maxRecDepth 20000 in
theorem gX2_readStep_X2_readPlain : GoodIn wsX2_readStep (wsV RX2 64 RX2 yX2_readPlain wsX2_readPlain) := goodIn_app (goodIn_r _ [34, 35, 36, 17] (by exact rfl) (by decide +kernel)) ggX2_readStep_X2_readPlain
set_option maxRecDepth 20000 in
theorem ggX2_readStep_X2_readBuilt : GoodIn wsX2_readStep wsX2_readBuilt := goodIn_m (subW_r _ [52, 6, 39, 53, 4, 54, 40, 41, 42, 17, 43, 20, 21, 44, 14, 15, 16, 18, 19, 22, 23, 24, 25, 26, 27, 28, 29, 30, 31, 32, 33, 55, 56, 57, 58, 59, 60, 61, 62, 38, 63, 48, 49, 50, 51, 0, 1, 2, 3, 5, 7, 8, 9, 10, 11, 12, 13, 34, 35, 36, 37, 45, 46, 47, 64, 65, 66, 67, 68, 69, 70, 71, 72, 73, 74, 75, 76, 77, 78, 79, 80, 81, 82, 83, 84, 85, 86, 87, 88, 89] (by exact rfl)) gwd_X2_readBuilt
set_option maxRecDepth 20000 in
theorem gX2_readStep_X2_readBuilt : GoodIn wsX2_readStep (wsV RX2 68 RX2 yX2_readBuilt wsX2_readBuilt) := goodIn_app (goodIn_r _ [45, 46, 47, 17] (by exact rfl) (by decide +kernel)) ggX2_readStep_X2_readBuilt
set_option maxRecDepth 20000 in
theorem ggX2_readPlain_X2_readNumber : GoodIn wsX2_readPlain wsX2_readNumber := goodIn_m (subW_r _ [8, 9, 10, 11, 12, 13, 14, 15, 7, 16, 17, 18, 19, 20, 21, 22, 23, 24, 25, 26, 27, 28, 29, 38, 39, 40, 41, 42, 43, 44, 45, 46, 47, 48, 49, 50] (by exact rfl)) gwd_X2_readNumber
set_option maxRecDepth 20000 in
theorem gX2_readPlain_X2_readNumber : GoodIn wsX2_readPlain (wsV RX2 72 RX2 yX2_readNumber wsX2_readNumber) := goodIn_app (goodIn_r _ [4, 5, 6, 7] (by exact rfl) (by decide +kernel)) ggX2_readPlain_X2_readNumber
set_option maxRecDepth 20000 in
theorem ggX2_readBuilt_X2_readNumber : GoodIn wsX2_readBuilt wsX2_readNumber := goodIn_m (subW_r _ [10, 11, 12, 13, 4, 14, 15, 16, 9, 17, 18, 19, 20, 21, 22, 23, 24, 25, 26, 27, 28, 29, 30, 69, 70, 71, 72, 73, 74, 75, 76, 77, 78, 79, 80, 81] (by exact rfl)) gwd_X2_readNumber
set_option maxRecDepth 20000 in
theorem gX2_readBuilt_X2_readNumber : GoodIn wsX2_readBuilt (wsV RX2 72 RX2 yX2_readNumber wsX2_readNumber) := goodIn_app (goodIn_r _ [6, 7, 8, 9] (by exact rfl) (by decide +kernel)) ggX2_readBuilt_X2_readNumber
set_option maxRecDepth 20000 in
theorem ggX2_readBuilt_X2_readBlock : GoodIn wsX2_readBuilt wsX2_readBlock := goodIn_m (subW_r _ [41, 4, 18, 14, 15, 16, 9, 17, 11, 12, 19, 20, 21, 22, 23, 24, 25, 26, 27, 28, 29, 30, 42, 43, 44, 0, 1, 2, 3, 5, 6, 7, 8, 10, 13, 31, 32, 33, 34, 35, 36, 37, 38, 39, 40, 45, 46, 47, 48, 49, 50, 51, 52, 53, 54, 55, 56, 57, 58, 59, 60, 61, 62, 63, 64, 65, 66, 67, 68, 69, 70, 71, 72, 73, 74, 75, 76, 77, 78, 79, 80, 81, 82, 83, 84, 85, 86, 87, 88, 89] (by exact rfl)) gwd_X2_readBlock
set_option maxRecDepth 20000 in
theorem gX2_readBuilt_X2_readBlock : GoodIn wsX2_readBuilt (wsV RX2 82 RX2 yX2_readBlock wsX2_readBlock) := goodIn_app (goodIn_r _ [31, 32, 33, 9] (by exact rfl) (by decide +kernel)) ggX2_readBuilt_X2_readBlock
set_option maxRecDepth 20000 in
theorem ggX2_readBuilt_X2_readTest : GoodIn wsX2_readBuilt wsX2_readTest := goodIn_m (subW_r _ [37, 4, 38, 39, 40, 2, 14, 15, 16, 9, 17, 18, 11, 12, 19, 20, 21, 22, 23, 24, 25, 26, 27, 28, 29, 30, 6, 7, 8, 10, 13, 69, 70, 71, 72, 73, 74, 82, 83, 84, 85, 86, 87, 88, 89, 75, 76, 77, 78, 79, 80, 81] (by exact rfl)) gwd_X2_readTest
set_option maxRecDepth 20000 in
theorem gX2_readBuilt_X2_readTest : GoodIn wsX2_readBuilt (wsV RX2 88 RX2 yX2_readTest wsX2_readTest) := goodIn_app (goodIn_r _ [34, 35, 36, 9] (by exact rfl) (by decide +kernel)) ggX2_readBuilt_X2_readTest
set_option maxRecDepth 20000 in
theorem ggX2_readBuilt_X2_pass : GoodIn wsX2_readBuilt wsX2_pass := goodIn_m (subW_r _ [24, 4, 18, 11, 14, 15, 16, 9, 17, 12, 19, 20, 25, 26, 27, 28, 29, 30, 69, 70, 71, 72, 73, 74, 75, 76, 77, 78, 79, 80, 81] (by exact rfl)) gwd_X2_pass
set_option maxRecDepth 20000 in
theorem gX2_readBuilt_X2_pass : GoodIn wsX2_readBuilt (wsV RX2 41 RX2 yX2_pass wsX2_pass) := goodIn_app (goodIn_r _ [21, 22, 23, 9] (by exact rfl) (by decide +kernel)) ggX2_readBuilt_X2_pass
set_option maxRecDepth 20000 in
theorem ggX2_readBlock_X2_refuse : GoodIn wsX2_readBlock wsX2_refuse := goodIn_m (subW_r _ [7, 2, 8, 9, 10, 11, 69, 70, 71, 72, 73, 74, 75, 76, 77, 78, 79, 80, 81] (by exact rfl)) gwd_X2_refuse
set_option maxRecDepth 20000 in
theorem gX2_readBlock_X2_refuse : GoodIn wsX2_readBlock (wsV RX2 58 RX2 yX2_refuse wsX2_refuse) := goodIn_app (goodIn_r _ [3, 4, 5, 6] (by exact rfl) (by decide +kernel)) ggX2_readBlock_X2_refuse
