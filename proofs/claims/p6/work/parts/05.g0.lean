set_option maxRecDepth 20000 in
theorem ggX0_leastShade_X0_shade : GoodIn wsX0_leastShade wsX0_shade := goodIn_r _ [10, 11, 12, 13, 14, 15, 16, 17, 18, 19, 20] (by decide +kernel) (by decide +kernel)
set_option maxRecDepth 20000 in
theorem gX0_leastShade_X0_shade : GoodIn wsX0_leastShade (wsV RX0 31 RX0 yX0_shade wsX0_shade) := goodIn_app (goodIn_of _ (by decide +kernel)) ggX0_leastShade_X0_shade
set_option maxRecDepth 20000 in
theorem ggX0_greatestShade_X0_shade : GoodIn wsX0_greatestShade wsX0_shade := goodIn_r _ [10, 11, 12, 13, 14, 15, 16, 17, 18, 19, 20] (by decide +kernel) (by decide +kernel)
set_option maxRecDepth 20000 in
theorem gX0_greatestShade_X0_shade : GoodIn wsX0_greatestShade (wsV RX0 31 RX0 yX0_shade wsX0_shade) := goodIn_app (goodIn_of _ (by decide +kernel)) ggX0_greatestShade_X0_shade
set_option maxRecDepth 20000 in
theorem ggX0_spanMeets_X0_hasSpan : GoodIn wsX0_spanMeets wsX0_hasSpan := goodIn_r _ [5, 6, 7, 26, 27, 28, 29, 30, 31, 32, 33] (by decide +kernel) (by decide +kernel)
set_option maxRecDepth 20000 in
theorem gX0_spanMeets_X0_hasSpan : GoodIn wsX0_spanMeets (wsV RX0 41 RX0 yX0_hasSpan wsX0_hasSpan) := goodIn_app (goodIn_of _ (by decide +kernel)) ggX0_spanMeets_X0_hasSpan
set_option maxRecDepth 20000 in
theorem ggX0_spanMeets_X0_leastShade : GoodIn wsX0_spanMeets wsX0_leastShade := goodIn_r _ [11, 7, 12, 13, 14, 15, 16, 17, 18, 4, 19, 20, 21, 26, 27, 28, 29, 30, 31, 32, 33] (by decide +kernel) (by decide +kernel)
set_option maxRecDepth 20000 in
theorem gX0_spanMeets_X0_leastShade : GoodIn wsX0_spanMeets (wsV RX0 45 RX0 yX0_leastShade wsX0_leastShade) := goodIn_app (goodIn_of _ (by decide +kernel)) ggX0_spanMeets_X0_leastShade
set_option maxRecDepth 20000 in
theorem ggX0_spanMeets_X0_greatestShade : GoodIn wsX0_spanMeets wsX0_greatestShade := goodIn_r _ [25, 7, 12, 13, 14, 15, 16, 17, 18, 4, 19, 20, 21, 26, 27, 28, 29, 30, 31, 32, 33] (by decide +kernel) (by decide +kernel)
set_option maxRecDepth 20000 in
theorem gX0_spanMeets_X0_greatestShade : GoodIn wsX0_spanMeets (wsV RX0 49 RX0 yX0_greatestShade wsX0_greatestShade) := goodIn_app (goodIn_of _ (by decide +kernel)) ggX0_spanMeets_X0_greatestShade
set_option maxRecDepth 20000 in
theorem ggX1_init_X0_init : GoodIn wsX1_init wsX0_init := goodIn_r _ [19, 20, 2, 3, 21, 22, 23, 40, 41, 42, 43, 44, 45, 46, 47] (by decide +kernel) (by decide +kernel)
set_option maxRecDepth 20000 in
theorem gX1_init_X0_init : GoodIn wsX1_init (wsX0_init) := ggX1_init_X0_init
set_option maxRecDepth 20000 in
theorem ggX1_init_X7_init : GoodIn wsX1_init wsX7_init := goodIn_r _ [26, 27, 2, 3, 28, 29, 30, 48, 49, 50, 51, 52, 53, 54, 55] (by decide +kernel) (by decide +kernel)
set_option maxRecDepth 20000 in
theorem gX1_init_X7_init : GoodIn wsX1_init (wsX7_init) := ggX1_init_X7_init
set_option maxRecDepth 20000 in
theorem ggX1_fewest_X8_vatAt : GoodIn wsX1_fewest wsX8_vatAt := goodIn_ca (goodIn_r _ [11, 12, 13, 14, 86, 87, 88] (by decide +kernel) (by decide +kernel)) (goodIn_sub (fun _ h => List.mem_cons_of_mem _ (List.mem_append_right _ h)) (by decide +kernel))
set_option maxRecDepth 20000 in
theorem gX1_fewest_X8_vatAt : GoodIn wsX1_fewest (wsV RX1 50 RX8 yX8_vatAt wsX8_vatAt) := goodIn_app (goodIn_of _ (by decide +kernel)) ggX1_fewest_X8_vatAt
set_option maxRecDepth 20000 in
theorem ggX1_fewest_X7_copyFrom : GoodIn wsX1_fewest wsX7_copyFrom := goodIn_r _ [19, 20, 21, 22, 23, 89, 90, 91, 92, 93, 94, 95, 96] (by decide +kernel) (by decide +kernel)
set_option maxRecDepth 20000 in
theorem gX1_fewest_X7_copyFrom : GoodIn wsX1_fewest (wsV RX1 56 RX7 yX7_copyFrom wsX7_copyFrom) := goodIn_app (goodIn_of _ (by decide +kernel)) ggX1_fewest_X7_copyFrom
set_option maxRecDepth 20000 in
theorem ggX1_fewest_X0_copyFrom : GoodIn wsX1_fewest wsX0_copyFrom := goodIn_r _ [28, 29, 30, 31, 97, 98, 99, 100, 101, 102, 103, 104] (by decide +kernel) (by decide +kernel)
set_option maxRecDepth 20000 in
theorem gX1_fewest_X0_copyFrom : GoodIn wsX1_fewest (wsV RX1 60 RX0 yX0_copyFrom wsX0_copyFrom) := goodIn_app (goodIn_of _ (by decide +kernel)) ggX1_fewest_X0_copyFrom
set_option maxRecDepth 20000 in
theorem ggX1_fewest_X1_reaches : GoodIn wsX1_fewest wsX1_reaches := goodIn_r _ [36, 5, 37, 1, 2, 3, 38, 39, 40, 27, 41, 29, 31, 42, 43, 44, 35, 45, 46, 47, 48, 49, 50, 51, 52, 53, 54, 55, 56, 57, 18, 58, 59, 23, 20, 60, 61, 62, 63, 64, 65, 66, 67, 30, 68, 69, 70, 71, 72, 22, 21, 73, 74, 75, 76, 32, 33, 34, 77, 78, 79, 80, 81, 82, 83, 84, 85, 97, 98, 99, 100, 101, 102, 103, 104, 89, 90, 91, 92, 93, 94, 95, 96] (by decide +kernel) (by decide +kernel)
set_option maxRecDepth 20000 in
theorem gX1_fewest_X1_reaches : GoodIn wsX1_fewest (wsV RX1 63 RX1 yX1_reaches wsX1_reaches) := goodIn_app (goodIn_of _ (by decide +kernel)) ggX1_fewest_X1_reaches
set_option maxRecDepth 20000 in
theorem ggX1_reaches_X0_shade : GoodIn wsX1_reaches wsX0_shade := goodIn_r _ [10, 11, 12, 67, 68, 69, 70, 71, 72, 73, 74] (by decide +kernel) (by decide +kernel)
set_option maxRecDepth 20000 in
theorem gX1_reaches_X0_shade : GoodIn wsX1_reaches (wsV RX1 73 RX0 yX0_shade wsX0_shade) := goodIn_app (goodIn_of _ (by decide +kernel)) ggX1_reaches_X0_shade
set_option maxRecDepth 20000 in
theorem ggX1_reaches_X1_reachesBy : GoodIn wsX1_reaches wsX1_reachesBy := goodIn_r _ [17, 1, 18, 19, 20, 21, 2, 22, 23, 24, 25, 26, 4, 27, 28, 29, 30, 31, 32, 33, 34, 35, 36, 37, 38, 39, 40, 41, 9, 42, 11, 43, 12, 44, 45, 46, 47, 48, 49, 50, 51, 52, 53, 54, 6, 7, 8, 10, 55, 56, 57, 16, 0, 3, 5, 13, 14, 15, 58, 59, 60, 61, 62, 63, 64, 65, 66, 67, 68, 69, 70, 71, 72, 73, 74, 75, 76, 77, 78, 79, 80, 81, 82] (by decide +kernel) (by decide +kernel)
set_option maxRecDepth 20000 in
theorem gX1_reaches_X1_reachesBy : GoodIn wsX1_reaches (wsV RX1 77 RX1 yX1_reachesBy wsX1_reachesBy) := goodIn_app (goodIn_of _ (by decide +kernel)) ggX1_reaches_X1_reachesBy
set_option maxRecDepth 20000 in
theorem ggX1_reachesBy_X7_givesTo : GoodIn wsX1_reachesBy wsX7_givesTo := goodIn_r _ [17, 18, 19, 20, 21, 22, 23, 24, 25, 26, 27, 28, 29, 30, 31, 32, 67, 68, 69, 70, 71, 72, 73, 74, 75, 76, 77, 78, 79, 80, 81, 82] (by decide +kernel) (by decide +kernel)
set_option maxRecDepth 20000 in
theorem gX1_reachesBy_X7_givesTo : GoodIn wsX1_reachesBy (wsV RX1 81 RX7 yX7_givesTo wsX7_givesTo) := goodIn_app (goodIn_of _ (by decide +kernel)) ggX1_reachesBy_X7_givesTo
set_option maxRecDepth 20000 in
theorem ggX1_reachesBy_X7_soak : GoodIn wsX1_reachesBy wsX7_soak := goodIn_r _ [36, 20, 37, 38, 19, 39, 75, 76, 77, 78, 79, 80, 81, 82, 67, 68, 69, 70, 71, 72, 73, 74] (by decide +kernel) (by decide +kernel)
set_option maxRecDepth 20000 in
theorem gX1_reachesBy_X7_soak : GoodIn wsX1_reachesBy (wsV RX1 100 RX7 yX7_soak wsX7_soak) := goodIn_app (goodIn_of _ (by decide +kernel)) ggX1_reachesBy_X7_soak
set_option maxRecDepth 20000 in
theorem ggX1_reachesBy_X0_loseByAir : GoodIn wsX1_reachesBy wsX0_loseByAir := goodIn_r _ [43, 31, 32, 67, 68, 69, 70, 71, 72, 73, 74] (by decide +kernel) (by decide +kernel)
set_option maxRecDepth 20000 in
theorem gX1_reachesBy_X0_loseByAir : GoodIn wsX1_reachesBy (wsV RX1 104 RX0 yX0_loseByAir wsX0_loseByAir) := goodIn_app (goodIn_of _ (by decide +kernel)) ggX1_reachesBy_X0_loseByAir
set_option maxRecDepth 20000 in
theorem ggX1_reachesBy_X0_shade : GoodIn wsX1_reachesBy wsX0_shade := goodIn_r _ [47, 30, 32, 67, 68, 69, 70, 71, 72, 73, 74] (by decide +kernel) (by decide +kernel)
set_option maxRecDepth 20000 in
theorem gX1_reachesBy_X0_shade : GoodIn wsX1_reachesBy (wsV RX1 73 RX0 yX0_shade wsX0_shade) := goodIn_app (goodIn_of _ (by decide +kernel)) ggX1_reachesBy_X0_shade
set_option maxRecDepth 20000 in
theorem ggX1_reachesBy_X1_reaches : GoodIn wsX1_reachesBy wsX1_reaches := goodIn_r _ [52, 1, 6, 53, 12, 54, 44, 45, 46, 28, 47, 30, 32, 55, 56, 57, 51, 0, 2, 3, 4, 5, 7, 8, 9, 10, 11, 13, 14, 15, 16, 17, 18, 19, 20, 21, 22, 23, 24, 25, 26, 27, 29, 31, 33, 34, 35, 36, 37, 38, 39, 40, 41, 42, 43, 48, 49, 50, 58, 59, 60, 61, 62, 63, 64, 65, 66, 67, 68, 69, 70, 71, 72, 73, 74, 75, 76, 77, 78, 79, 80, 81, 82] (by decide +kernel) (by decide +kernel)
set_option maxRecDepth 20000 in
theorem gX1_reachesBy_X1_reaches : GoodIn wsX1_reachesBy (wsV RX1 63 RX1 yX1_reaches wsX1_reaches) := goodIn_app (goodIn_of _ (by decide +kernel)) ggX1_reachesBy_X1_reaches
set_option maxRecDepth 20000 in
theorem ggX2_init_X6_init : GoodIn wsX2_init wsX6_init := goodIn_r _ [11, 12, 2, 3, 13, 14, 15, 16, 17, 24, 25, 26, 27, 28, 29, 30] (by decide +kernel) (by decide +kernel)
set_option maxRecDepth 20000 in
theorem gX2_init_X6_init : GoodIn wsX2_init (wsX6_init) := ggX2_init_X6_init
set_option maxRecDepth 20000 in
theorem ggX2_readRecipe_X6_split : GoodIn wsX2_readRecipe wsX6_split := goodIn_r _ [9, 10, 11, 12, 13, 14, 15, 16, 17, 18, 19, 20, 21, 22, 23, 8, 24, 25, 26, 27, 28, 29, 30, 31, 32, 33, 34, 35, 36, 37, 38, 39, 40, 41, 42, 43, 44, 45, 46, 47, 48, 49, 50, 51, 52, 53, 54, 55, 56, 57, 58, 59, 60, 61, 62, 63, 64, 65, 66, 67, 68, 69, 70, 71, 72, 73, 74, 75, 76, 77, 78, 79, 80, 81, 82, 83, 84, 85, 86, 87, 88, 89, 90, 91, 92, 93, 94, 95, 96, 97, 98, 99, 100, 101, 102, 103, 104, 105, 106, 107, 108, 109, 110, 111, 112, 184, 185, 186, 187, 188, 189, 190] (by decide +kernel) (by decide +kernel)
set_option maxRecDepth 20000 in
theorem gX2_readRecipe_X6_split : GoodIn wsX2_readRecipe (wsV RX2 24 RX6 yX6_split wsX6_split) := goodIn_app (goodIn_of _ (by decide +kernel)) ggX2_readRecipe_X6_split
set_option maxRecDepth 20000 in
theorem ggX2_readRecipe_X2_moveTo : GoodIn wsX2_readRecipe wsX2_moveTo := goodIn_r _ [117, 118, 1, 119, 120, 121, 178, 179, 180, 181, 182, 183, 184, 185, 186, 187, 188, 189, 190] (by decide +kernel) (by decide +kernel)
set_option maxRecDepth 20000 in
theorem gX2_readRecipe_X2_moveTo : GoodIn wsX2_readRecipe (wsV RX2 34 RX2 yX2_moveTo wsX2_moveTo) := goodIn_app (goodIn_of _ (by decide +kernel)) ggX2_readRecipe_X2_moveTo
set_option maxRecDepth 20000 in
theorem ggX2_readRecipe_X2_readSteps : GoodIn wsX2_readRecipe wsX2_readSteps := goodIn_r _ [125, 2, 121, 126, 127, 128, 129, 116, 130, 131, 132, 133, 134, 118, 1, 135, 3, 136, 137, 138, 139, 113, 114, 115, 117, 119, 120, 122, 123, 124, 140, 141, 142, 143, 144, 145, 146, 147, 148, 149, 150, 151, 152, 153, 154, 155, 156, 157, 158, 159, 160, 161, 162, 163, 4, 164, 165, 166, 167, 168, 169, 170, 171, 172, 173, 174, 175, 176, 177, 178, 179, 180, 181, 182, 183, 184, 185, 186, 187, 188, 189, 190, 191, 192, 193, 194, 195, 196, 197, 198] (by decide +kernel) (by decide +kernel)
set_option maxRecDepth 20000 in
theorem gX2_readRecipe_X2_readSteps : GoodIn wsX2_readRecipe (wsV RX2 37 RX2 yX2_readSteps wsX2_readSteps) := goodIn_app (goodIn_of _ (by decide +kernel)) ggX2_readRecipe_X2_readSteps
set_option maxRecDepth 20000 in
theorem ggX2_readRecipe_X2_pass : GoodIn wsX2_readRecipe wsX2_pass := goodIn_r _ [139, 121, 2, 118, 131, 132, 133, 116, 134, 1, 135, 3, 113, 114, 115, 117, 119, 120, 178, 179, 180, 181, 182, 183, 184, 185, 186, 187, 188, 189, 190] (by decide +kernel) (by decide +kernel)
set_option maxRecDepth 20000 in
theorem gX2_readRecipe_X2_pass : GoodIn wsX2_readRecipe (wsV RX2 41 RX2 yX2_pass wsX2_pass) := goodIn_app (goodIn_of _ (by decide +kernel)) ggX2_readRecipe_X2_pass
set_option maxRecDepth 20000 in
theorem ggX2_readSteps_X2_readStep : GoodIn wsX2_readSteps wsX2_readStep := goodIn_r _ [50, 51, 52, 53, 2, 54, 31, 55, 56, 57, 58, 59, 60, 61, 9, 10, 11, 7, 12, 1, 13, 14, 15, 16, 17, 18, 19, 20, 21, 22, 23, 24, 25, 26, 62, 63, 64, 65, 48, 32, 35, 36, 37, 38, 39, 66, 67, 68, 8, 27, 28, 29, 30, 33, 34, 40, 41, 42, 43, 44, 45, 46, 47, 49, 0, 3, 4, 5, 6, 69, 70, 71, 72, 73, 74, 75, 76, 77, 78, 79, 80, 81, 82, 83, 84, 85, 86, 87, 88, 89] (by decide +kernel) (by decide +kernel)
set_option maxRecDepth 20000 in
theorem gX2_readSteps_X2_readStep : GoodIn wsX2_readSteps (wsV RX2 47 RX2 yX2_readStep wsX2_readStep) := goodIn_app (goodIn_of _ (by decide +kernel)) ggX2_readSteps_X2_readStep
set_option maxRecDepth 20000 in
theorem ggX2_readStep_X5_init : GoodIn wsX2_readStep wsX5_init := goodIn_r _ [9, 10, 11, 12, 13, 82, 83, 84, 85, 86, 87, 88, 89] (by decide +kernel) (by decide +kernel)
set_option maxRecDepth 20000 in
theorem gX2_readStep_X5_init : GoodIn wsX2_readStep (wsX5_init) := ggX2_readStep_X5_init
set_option maxRecDepth 20000 in
theorem ggX2_readStep_X2_refuse : GoodIn wsX2_readStep wsX2_refuse := goodIn_r _ [18, 19, 20, 21, 22, 23, 69, 70, 71, 72, 73, 74, 75, 76, 77, 78, 79, 80, 81] (by decide +kernel) (by decide +kernel)
set_option maxRecDepth 20000 in
theorem gX2_readStep_X2_refuse : GoodIn wsX2_readStep (wsV RX2 58 RX2 yX2_refuse wsX2_refuse) := goodIn_app (goodIn_of _ (by decide +kernel)) ggX2_readStep_X2_refuse
set_option maxRecDepth 20000 in
theorem ggX2_readStep_X2_pass : GoodIn wsX2_readStep wsX2_pass := goodIn_r _ [27, 4, 19, 20, 14, 15, 16, 17, 18, 21, 22, 23, 28, 29, 30, 31, 32, 33, 69, 70, 71, 72, 73, 74, 75, 76, 77, 78, 79, 80, 81] (by decide +kernel) (by decide +kernel)
set_option maxRecDepth 20000 in
theorem gX2_readStep_X2_pass : GoodIn wsX2_readStep (wsV RX2 41 RX2 yX2_pass wsX2_pass) := goodIn_app (goodIn_of _ (by decide +kernel)) ggX2_readStep_X2_pass
set_option maxRecDepth 20000 in
theorem ggX2_readStep_X2_readPlain : GoodIn wsX2_readStep wsX2_readPlain := goodIn_r _ [37, 6, 38, 39, 40, 41, 42, 17, 43, 20, 21, 44, 4, 14, 15, 16, 18, 19, 22, 23, 24, 25, 26, 27, 28, 29, 30, 31, 32, 33, 82, 83, 84, 85, 86, 87, 88, 89, 69, 70, 71, 72, 73, 74, 75, 76, 77, 78, 79, 80, 81] (by decide +kernel) (by decide +kernel)
set_option maxRecDepth 20000 in
theorem gX2_readStep_X2_readPlain : GoodIn wsX2_readStep (wsV RX2 64 RX2 yX2_readPlain wsX2_readPlain) := goodIn_app (goodIn_of _ (by decide +kernel)) ggX2_readStep_X2_readPlain
set_option maxRecDepth 20000 in
theorem ggX2_readStep_X2_readBuilt : GoodIn wsX2_readStep wsX2_readBuilt := goodIn_r _ [52, 6, 39, 53, 4, 54, 40, 41, 42, 17, 43, 20, 21, 44, 14, 15, 16, 18, 19, 22, 23, 24, 25, 26, 27, 28, 29, 30, 31, 32, 33, 55, 56, 57, 58, 59, 60, 61, 62, 38, 63, 48, 49, 50, 51, 0, 1, 2, 3, 5, 7, 8, 9, 10, 11, 12, 13, 34, 35, 36, 37, 45, 46, 47, 64, 65, 66, 67, 68, 69, 70, 71, 72, 73, 74, 75, 76, 77, 78, 79, 80, 81, 82, 83, 84, 85, 86, 87, 88, 89] (by decide +kernel) (by decide +kernel)
set_option maxRecDepth 20000 in
theorem gX2_readStep_X2_readBuilt : GoodIn wsX2_readStep (wsV RX2 68 RX2 yX2_readBuilt wsX2_readBuilt) := goodIn_app (goodIn_of _ (by decide +kernel)) ggX2_readStep_X2_readBuilt
set_option maxRecDepth 20000 in
theorem ggX2_readPlain_X2_readNumber : GoodIn wsX2_readPlain wsX2_readNumber := goodIn_r _ [8, 9, 10, 11, 12, 13, 14, 15, 7, 16, 17, 18, 19, 20, 21, 22, 23, 24, 25, 26, 27, 28, 29, 38, 39, 40, 41, 42, 43, 44, 45, 46, 47, 48, 49, 50] (by decide +kernel) (by decide +kernel)
set_option maxRecDepth 20000 in
theorem gX2_readPlain_X2_readNumber : GoodIn wsX2_readPlain (wsV RX2 72 RX2 yX2_readNumber wsX2_readNumber) := goodIn_app (goodIn_of _ (by decide +kernel)) ggX2_readPlain_X2_readNumber
set_option maxRecDepth 20000 in
theorem ggX2_readBuilt_X2_readNumber : GoodIn wsX2_readBuilt wsX2_readNumber := goodIn_r _ [10, 11, 12, 13, 4, 14, 15, 16, 9, 17, 18, 19, 20, 21, 22, 23, 24, 25, 26, 27, 28, 29, 30, 69, 70, 71, 72, 73, 74, 75, 76, 77, 78, 79, 80, 81] (by decide +kernel) (by decide +kernel)
set_option maxRecDepth 20000 in
theorem gX2_readBuilt_X2_readNumber : GoodIn wsX2_readBuilt (wsV RX2 72 RX2 yX2_readNumber wsX2_readNumber) := goodIn_app (goodIn_of _ (by decide +kernel)) ggX2_readBuilt_X2_readNumber
set_option maxRecDepth 20000 in
theorem ggX2_readBuilt_X2_readBlock : GoodIn wsX2_readBuilt wsX2_readBlock := goodIn_r _ [41, 4, 18, 14, 15, 16, 9, 17, 11, 12, 19, 20, 21, 22, 23, 24, 25, 26, 27, 28, 29, 30, 42, 43, 44, 0, 1, 2, 3, 5, 6, 7, 8, 10, 13, 31, 32, 33, 34, 35, 36, 37, 38, 39, 40, 45, 46, 47, 48, 49, 50, 51, 52, 53, 54, 55, 56, 57, 58, 59, 60, 61, 62, 63, 64, 65, 66, 67, 68, 69, 70, 71, 72, 73, 74, 75, 76, 77, 78, 79, 80, 81, 82, 83, 84, 85, 86, 87, 88, 89] (by decide +kernel) (by decide +kernel)
set_option maxRecDepth 20000 in
theorem gX2_readBuilt_X2_readBlock : GoodIn wsX2_readBuilt (wsV RX2 82 RX2 yX2_readBlock wsX2_readBlock) := goodIn_app (goodIn_of _ (by decide +kernel)) ggX2_readBuilt_X2_readBlock
set_option maxRecDepth 20000 in
theorem ggX2_readBuilt_X2_readTest : GoodIn wsX2_readBuilt wsX2_readTest := goodIn_r _ [37, 4, 38, 39, 40, 2, 14, 15, 16, 9, 17, 18, 11, 12, 19, 20, 21, 22, 23, 24, 25, 26, 27, 28, 29, 30, 6, 7, 8, 10, 13, 69, 70, 71, 72, 73, 74, 82, 83, 84, 85, 86, 87, 88, 89, 75, 76, 77, 78, 79, 80, 81] (by decide +kernel) (by decide +kernel)
set_option maxRecDepth 20000 in
theorem gX2_readBuilt_X2_readTest : GoodIn wsX2_readBuilt (wsV RX2 88 RX2 yX2_readTest wsX2_readTest) := goodIn_app (goodIn_of _ (by decide +kernel)) ggX2_readBuilt_X2_readTest
set_option maxRecDepth 20000 in
theorem ggX2_readBuilt_X2_pass : GoodIn wsX2_readBuilt wsX2_pass := goodIn_r _ [24, 4, 18, 11, 14, 15, 16, 9, 17, 12, 19, 20, 25, 26, 27, 28, 29, 30, 69, 70, 71, 72, 73, 74, 75, 76, 77, 78, 79, 80, 81] (by decide +kernel) (by decide +kernel)
set_option maxRecDepth 20000 in
theorem gX2_readBuilt_X2_pass : GoodIn wsX2_readBuilt (wsV RX2 41 RX2 yX2_pass wsX2_pass) := goodIn_app (goodIn_of _ (by decide +kernel)) ggX2_readBuilt_X2_pass
set_option maxRecDepth 20000 in
theorem ggX2_readBlock_X2_refuse : GoodIn wsX2_readBlock wsX2_refuse := goodIn_r _ [7, 2, 8, 9, 10, 11, 69, 70, 71, 72, 73, 74, 75, 76, 77, 78, 79, 80, 81] (by decide +kernel) (by decide +kernel)
set_option maxRecDepth 20000 in
theorem gX2_readBlock_X2_refuse : GoodIn wsX2_readBlock (wsV RX2 58 RX2 yX2_refuse wsX2_refuse) := goodIn_app (goodIn_of _ (by decide +kernel)) ggX2_readBlock_X2_refuse
set_option maxRecDepth 20000 in
theorem ggX2_readBlock_X2_pass : GoodIn wsX2_readBlock wsX2_pass := goodIn_r _ [15, 1, 2, 8, 3, 4, 5, 6, 7, 9, 10, 11, 16, 17, 18, 19, 20, 21, 69, 70, 71, 72, 73, 74, 75, 76, 77, 78, 79, 80, 81] (by decide +kernel) (by decide +kernel)
set_option maxRecDepth 20000 in
theorem gX2_readBlock_X2_pass : GoodIn wsX2_readBlock (wsV RX2 41 RX2 yX2_pass wsX2_pass) := goodIn_app (goodIn_of _ (by decide +kernel)) ggX2_readBlock_X2_pass
set_option maxRecDepth 20000 in
theorem ggX2_readBlock_X2_readSteps : GoodIn wsX2_readBlock wsX2_readSteps := goodIn_r _ [64, 2, 1, 65, 66, 67, 68, 6, 0, 3, 4, 5, 7, 8, 9, 10, 11, 12, 13, 14, 15, 16, 17, 18, 19, 20, 21, 22, 23, 24, 25, 26, 27, 28, 29, 30, 31, 32, 33, 34, 35, 36, 37, 38, 39, 40, 41, 42, 43, 44, 45, 46, 47, 48, 49, 50, 51, 52, 53, 54, 55, 56, 57, 58, 59, 60, 61, 62, 63, 69, 70, 71, 72, 73, 74, 75, 76, 77, 78, 79, 80, 81, 82, 83, 84, 85, 86, 87, 88, 89] (by decide +kernel) (by decide +kernel)
set_option maxRecDepth 20000 in
theorem gX2_readBlock_X2_readSteps : GoodIn wsX2_readBlock (wsV RX2 37 RX2 yX2_readSteps wsX2_readSteps) := goodIn_app (goodIn_of _ (by decide +kernel)) ggX2_readBlock_X2_readSteps
set_option maxRecDepth 20000 in
theorem ggX2_readTest_X2_refuse : GoodIn wsX2_readTest wsX2_refuse := goodIn_r _ [10, 11, 12, 13, 14, 15, 31, 32, 33, 34, 35, 36, 45, 46, 47, 48, 49, 50, 51] (by decide +kernel) (by decide +kernel)
set_option maxRecDepth 20000 in
theorem gX2_readTest_X2_refuse : GoodIn wsX2_readTest (wsV RX2 58 RX2 yX2_refuse wsX2_refuse) := goodIn_app (goodIn_of _ (by decide +kernel)) ggX2_readTest_X2_refuse
set_option maxRecDepth 20000 in
theorem ggX2_readTest_X2_pass : GoodIn wsX2_readTest wsX2_pass := goodIn_r _ [19, 1, 11, 12, 6, 7, 8, 9, 10, 13, 14, 15, 20, 21, 22, 23, 24, 25, 31, 32, 33, 34, 35, 36, 45, 46, 47, 48, 49, 50, 51] (by decide +kernel) (by decide +kernel)
set_option maxRecDepth 20000 in
theorem gX2_readTest_X2_pass : GoodIn wsX2_readTest (wsV RX2 41 RX2 yX2_pass wsX2_pass) := goodIn_app (goodIn_of _ (by decide +kernel)) ggX2_readTest_X2_pass
set_option maxRecDepth 20000 in
theorem ggX2_readTest_X2_readNumber : GoodIn wsX2_readTest wsX2_readNumber := goodIn_r _ [29, 12, 13, 30, 1, 6, 7, 8, 9, 10, 11, 14, 15, 16, 17, 18, 19, 20, 21, 22, 23, 24, 25, 31, 32, 33, 34, 35, 36, 45, 46, 47, 48, 49, 50, 51] (by decide +kernel) (by decide +kernel)
set_option maxRecDepth 20000 in
theorem gX2_readTest_X2_readNumber : GoodIn wsX2_readTest (wsV RX2 72 RX2 yX2_readNumber wsX2_readNumber) := goodIn_app (goodIn_of _ (by decide +kernel)) ggX2_readTest_X2_readNumber
set_option maxRecDepth 20000 in
theorem ggX2_readNumber_X2_refuse : GoodIn wsX2_readNumber wsX2_refuse := goodIn_r _ [9, 10, 1, 2, 11, 12, 23, 24, 25, 26, 27, 28, 29, 30, 31, 32, 33, 34, 35] (by decide +kernel) (by decide +kernel)
set_option maxRecDepth 20000 in
theorem gX2_readNumber_X2_refuse : GoodIn wsX2_readNumber (wsV RX2 58 RX2 yX2_refuse wsX2_refuse) := goodIn_app (goodIn_of _ (by decide +kernel)) ggX2_readNumber_X2_refuse
set_option maxRecDepth 20000 in
theorem ggX2_readNumber_X2_pass : GoodIn wsX2_readNumber wsX2_pass := goodIn_r _ [16, 4, 10, 1, 5, 6, 7, 8, 9, 2, 11, 12, 17, 18, 19, 20, 21, 22, 23, 24, 25, 26, 27, 28, 29, 30, 31, 32, 33, 34, 35] (by decide +kernel) (by decide +kernel)
set_option maxRecDepth 20000 in
theorem gX2_readNumber_X2_pass : GoodIn wsX2_readNumber (wsV RX2 41 RX2 yX2_pass wsX2_pass) := goodIn_app (goodIn_of _ (by decide +kernel)) ggX2_readNumber_X2_pass
set_option maxRecDepth 20000 in
theorem ggX2_pass_X2_refuse : GoodIn wsX2_pass wsX2_refuse := goodIn_r _ [8, 2, 3, 9, 10, 11, 18, 19, 20, 21, 22, 23, 24, 25, 26, 27, 28, 29, 30] (by decide +kernel) (by decide +kernel)
set_option maxRecDepth 20000 in
theorem gX2_pass_X2_refuse : GoodIn wsX2_pass (wsV RX2 58 RX2 yX2_refuse wsX2_refuse) := goodIn_app (goodIn_of _ (by decide +kernel)) ggX2_pass_X2_refuse
set_option maxRecDepth 20000 in
theorem ggX2_pass_X2_moveTo : GoodIn wsX2_pass wsX2_moveTo := goodIn_r _ [15, 3, 9, 16, 17, 1, 18, 19, 20, 21, 22, 23, 24, 25, 26, 27, 28, 29, 30] (by decide +kernel) (by decide +kernel)
set_option maxRecDepth 20000 in
theorem gX2_pass_X2_moveTo : GoodIn wsX2_pass (wsV RX2 34 RX2 yX2_moveTo wsX2_moveTo) := goodIn_app (goodIn_of _ (by decide +kernel)) ggX2_pass_X2_moveTo
set_option maxRecDepth 20000 in
theorem ggX4_follow_X4_doSteps : GoodIn wsX4_follow wsX4_doSteps := goodIn_ca (goodIn_r _ [16, 17, 18, 19, 20, 21, 15, 22, 2, 1, 23, 24, 25, 26, 27, 28, 29, 30, 31, 32, 33, 34, 35, 36, 37, 38, 39, 40, 41, 42, 4, 3, 43, 44, 45, 46, 47, 48, 49, 50, 51, 52, 8, 53, 54, 55, 56, 57, 58, 59, 60, 61, 62, 63, 64, 65, 66, 67, 68, 69, 70, 71, 72, 73, 74, 75, 76, 77, 78, 79, 80, 81, 82, 83, 84, 85, 86, 87, 88, 89, 90, 91, 92, 93, 94, 95, 96, 97, 98, 99, 100, 101, 102, 103, 104, 105, 106, 5, 107, 108, 109, 110, 111, 112, 113, 114, 115, 7, 9, 116, 117, 118, 119, 120, 121, 122, 123, 124, 125, 126, 127, 128, 129, 130, 131, 132, 133, 134, 135, 136, 137, 138, 139, 140, 141, 142, 143, 144, 145, 146, 147, 148, 149, 150, 151, 152, 153, 154, 155, 156, 157, 12, 13, 14, 158, 159, 160, 161, 162, 163, 164, 165, 166, 167, 176, 177, 178, 179, 180, 181, 182, 183, 184, 185, 186, 187, 188, 189, 190, 191, 168, 169, 170, 171, 172, 173, 174, 175, 192, 193, 194, 195, 196, 197, 198, 199, 200, 201, 202] (by decide +kernel) (by decide +kernel)) (goodIn_sub (fun _ h => List.mem_cons_of_mem _ (List.mem_append_right _ h)) (by decide +kernel))
set_option maxRecDepth 20000 in
theorem gX4_follow_X4_doSteps : GoodIn wsX4_follow (wsV RX4 34 RX4 yX4_doSteps wsX4_doSteps) := goodIn_app (goodIn_of _ (by decide +kernel)) ggX4_follow_X4_doSteps
set_option maxRecDepth 20000 in
theorem ggX4_doSteps_X4_mayCount : GoodIn wsX4_doSteps wsX4_mayCount := goodIn_r _ [7, 8, 9, 180, 181, 182, 183, 184, 185, 186, 187] (by decide +kernel) (by decide +kernel)
set_option maxRecDepth 20000 in
theorem gX4_doSteps_X4_mayCount : GoodIn wsX4_doSteps (wsV RX4 47 RX4 yX4_mayCount wsX4_mayCount) := goodIn_app (goodIn_of _ (by decide +kernel)) ggX4_doSteps_X4_mayCount
set_option maxRecDepth 20000 in
theorem ggX4_doSteps_X4_doPlain : GoodIn wsX4_doSteps wsX4_doPlain := goodIn_ca (goodIn_r _ [13, 1, 14, 15, 16, 17, 18, 19, 20, 21, 22, 23, 24, 25, 26, 27, 6, 28, 29, 30, 31, 32, 33, 34, 35, 36, 37, 38, 39, 40, 41, 42, 43, 44, 45, 46, 47, 48, 49, 50, 51, 52, 53, 54, 55, 56, 57, 58, 59, 60, 61, 62, 63, 64, 65, 66, 67, 68, 69, 70, 71, 72, 73, 74, 75, 76, 77, 78, 79, 80, 81, 82, 83, 84, 85, 86, 87, 88, 89, 90, 91, 92, 93, 94, 95, 96, 97, 3, 4, 5, 7, 8, 9, 98, 99, 100, 101, 102, 103, 104, 105, 106, 107, 108, 109, 110, 111, 112, 113, 114, 115, 116, 117, 118, 119, 120, 121, 164, 165, 166, 167, 168, 169, 170, 171, 180, 181, 182, 183, 184, 185, 186, 187, 196, 197, 198, 188, 189, 190, 191, 192, 193, 194, 195, 172, 173, 174, 175, 176, 177, 178, 179] (by decide +kernel) (by decide +kernel)) (goodIn_sub (fun _ h => List.mem_cons_of_mem _ (List.mem_append_right _ h)) (by decide +kernel))
set_option maxRecDepth 20000 in
theorem gX4_doSteps_X4_doPlain : GoodIn wsX4_doSteps (wsV RX4 56 RX4 yX4_doPlain wsX4_doPlain) := goodIn_app (goodIn_of _ (by decide +kernel)) ggX4_doSteps_X4_doPlain
set_option maxRecDepth 20000 in
theorem ggX4_doSteps_X4_doBuilt : GoodIn wsX4_doSteps wsX4_doBuilt := goodIn_ca (goodIn_r _ [125, 1, 126, 127, 128, 129, 130, 6, 131, 132, 133, 134, 135, 136, 137, 138, 16, 139, 140, 141, 142, 143, 75, 14, 15, 144, 145, 146, 147, 148, 149, 47, 150, 49, 51, 17, 18, 19, 20, 21, 22, 23, 24, 151, 152, 153, 154, 155, 156, 157, 158, 159, 0, 2, 3, 4, 5, 7, 8, 9, 10, 11, 12, 13, 25, 26, 27, 28, 29, 30, 31, 32, 33, 34, 35, 36, 37, 38, 39, 40, 41, 42, 43, 44, 45, 46, 48, 50, 52, 53, 54, 55, 56, 57, 58, 59, 60, 61, 62, 63, 64, 65, 66, 67, 68, 69, 70, 71, 72, 73, 74, 76, 77, 78, 79, 80, 81, 82, 83, 84, 85, 86, 87, 88, 89, 90, 91, 92, 93, 94, 95, 96, 97, 98, 99, 100, 101, 102, 103, 104, 105, 106, 107, 108, 109, 110, 111, 112, 113, 114, 115, 116, 117, 118, 119, 120, 121, 122, 123, 124, 160, 161, 162, 163, 164, 165, 166, 167, 168, 169, 170, 171, 172, 173, 174, 175, 176, 177, 178, 179, 180, 181, 182, 183, 184, 185, 186, 187, 188, 189, 190, 191, 192, 193, 194, 195, 196, 197, 198] (by decide +kernel) (by decide +kernel)) (goodIn_sub (fun _ h => List.mem_cons_of_mem _ (List.mem_append_right _ h)) (by decide +kernel))
set_option maxRecDepth 20000 in
theorem gX4_doSteps_X4_doBuilt : GoodIn wsX4_doSteps (wsV RX4 60 RX4 yX4_doBuilt wsX4_doBuilt) := goodIn_app (goodIn_of _ (by decide +kernel)) ggX4_doSteps_X4_doBuilt
set_option maxRecDepth 20000 in
theorem ggX4_doPlain_X8_vatAt : GoodIn wsX4_doPlain wsX8_vatAt := goodIn_ca (goodIn_r _ [9, 10, 11, 12, 133, 134, 135] (by decide +kernel) (by decide +kernel)) (goodIn_sub (fun _ h => List.mem_cons_of_mem _ (List.mem_append_right _ h)) (by decide +kernel))
set_option maxRecDepth 20000 in
theorem gX4_doPlain_X8_vatAt : GoodIn wsX4_doPlain (wsV RX4 70 RX8 yX8_vatAt wsX8_vatAt) := goodIn_app (goodIn_of _ (by decide +kernel)) ggX4_doPlain_X8_vatAt
set_option maxRecDepth 20000 in
theorem ggX4_doPlain_X4_doDip : GoodIn wsX4_doPlain wsX4_doDip := goodIn_r _ [17, 18, 2, 19, 20, 21, 22, 23, 24, 25, 26, 27, 28, 29, 30, 31, 32, 33, 34, 35, 36, 37, 38, 39, 40, 41, 42, 43, 8, 44, 45, 46, 47, 48, 49, 50, 51, 52, 53, 54, 55, 56, 57, 58, 59, 136, 137, 138, 139, 140, 141, 142, 143, 125, 126, 127, 128, 129, 130, 131, 132, 144, 145, 146, 147, 148, 149, 150, 151, 133, 134, 135] (by decide +kernel) (by decide +kernel)
set_option maxRecDepth 20000 in
theorem gX4_doPlain_X4_doDip : GoodIn wsX4_doPlain (wsV RX4 79 RX4 yX4_doDip wsX4_doDip) := goodIn_app (goodIn_of _ (by decide +kernel)) ggX4_doPlain_X4_doDip
set_option maxRecDepth 20000 in
theorem ggX4_doPlain_X4_doAir : GoodIn wsX4_doPlain wsX4_doAir := goodIn_r _ [63, 64, 2, 65, 66, 67, 8, 68, 69, 70, 71, 72, 36, 73, 39, 40, 144, 145, 146, 147, 148, 149, 150, 151, 125, 126, 127, 128, 129, 130, 131, 132, 133, 134, 135] (by decide +kernel) (by decide +kernel)
set_option maxRecDepth 20000 in
theorem gX4_doPlain_X4_doAir : GoodIn wsX4_doPlain (wsV RX4 83 RX4 yX4_doAir wsX4_doAir) := goodIn_app (goodIn_of _ (by decide +kernel)) ggX4_doPlain_X4_doAir
set_option maxRecDepth 20000 in
theorem ggX4_doPlain_X8_washOut : GoodIn wsX4_doPlain wsX8_washOut := goodIn_r _ [77, 69, 78, 79, 80, 36, 81, 40, 39, 133, 134, 135, 144, 145, 146, 147, 148, 149, 150, 151] (by decide +kernel) (by decide +kernel)
set_option maxRecDepth 20000 in
theorem gX4_doPlain_X8_washOut : GoodIn wsX4_doPlain (wsV RX4 87 RX8 yX8_washOut wsX8_washOut) := goodIn_app (goodIn_of _ (by decide +kernel)) ggX4_doPlain_X8_washOut
set_option maxRecDepth 20000 in
theorem ggX4_doPlain_X4_doRest : GoodIn wsX4_doPlain wsX4_doRest := goodIn_r _ [85, 2, 86, 87, 88, 89, 16, 90, 91, 92, 93, 94, 95, 8, 96, 12, 45, 97, 98, 99, 24, 100, 59, 101, 102, 31, 103, 27, 104, 58, 125, 126, 127, 128, 129, 130, 131, 132, 133, 134, 135, 136, 137, 138, 139, 140, 141, 142, 143] (by decide +kernel) (by decide +kernel)
set_option maxRecDepth 20000 in
theorem gX4_doPlain_X4_doRest : GoodIn wsX4_doPlain (wsV RX4 90 RX4 yX4_doRest wsX4_doRest) := goodIn_app (goodIn_of _ (by decide +kernel)) ggX4_doPlain_X4_doRest
set_option maxRecDepth 20000 in
theorem ggX4_doPlain_X7_takeFood : GoodIn wsX4_doPlain wsX7_takeFood := goodIn_r _ [108, 59, 27, 136, 137, 138, 139, 140, 141, 142, 143] (by decide +kernel) (by decide +kernel)
set_option maxRecDepth 20000 in
theorem gX4_doPlain_X7_takeFood : GoodIn wsX4_doPlain (wsV RX4 94 RX7 yX7_takeFood wsX7_takeFood) := goodIn_app (goodIn_of _ (by decide +kernel)) ggX4_doPlain_X7_takeFood
set_option maxRecDepth 20000 in
theorem ggX4_doPlain_X4_doLime : GoodIn wsX4_doPlain wsX4_doLime := goodIn_r _ [112, 18, 113, 114, 115, 24, 116, 27, 58, 59, 136, 137, 138, 139, 140, 141, 142, 143] (by decide +kernel) (by decide +kernel)
set_option maxRecDepth 20000 in
theorem gX4_doPlain_X4_doLime : GoodIn wsX4_doPlain (wsV RX4 100 RX4 yX4_doLime wsX4_doLime) := goodIn_app (goodIn_of _ (by decide +kernel)) ggX4_doPlain_X4_doLime
set_option maxRecDepth 20000 in
theorem ggX4_doBuilt_X4_doTimes : GoodIn wsX4_doBuilt wsX4_doTimes := goodIn_ca (goodIn_r _ [160, 16, 2, 54, 55, 56, 7, 57, 58, 59, 43, 44, 45, 0, 1, 3, 4, 5, 6, 8, 9, 10, 11, 12, 13, 14, 15, 17, 18, 19, 20, 21, 22, 23, 24, 25, 26, 27, 28, 29, 30, 31, 32, 33, 34, 35, 36, 37, 38, 39, 40, 41, 42, 46, 47, 48, 49, 50, 51, 52, 53, 60, 61, 62, 63, 64, 65, 66, 67, 68, 69, 70, 71, 72, 73, 74, 75, 76, 77, 78, 79, 80, 81, 82, 83, 84, 85, 86, 87, 88, 89, 90, 91, 92, 93, 94, 95, 96, 97, 98, 99, 100, 101, 102, 103, 104, 105, 106, 107, 108, 109, 110, 111, 112, 113, 114, 115, 116, 117, 118, 119, 120, 121, 122, 123, 124, 125, 126, 127, 128, 129, 130, 131, 132, 133, 134, 135, 136, 137, 138, 139, 140, 141, 142, 143, 144, 145, 146, 147, 148, 149, 150, 151, 152, 153, 154, 155, 156, 157, 158, 159, 161, 162, 163, 164, 165, 166, 167, 168, 169, 170, 171, 172, 173, 174, 175, 176, 177, 178, 179, 180, 181, 182, 183, 184, 185, 186, 187, 188, 189, 190, 191, 192, 193, 194, 195, 196, 197, 198] (by decide +kernel) (by decide +kernel)) (goodIn_sub (fun _ h => List.mem_cons_of_mem _ (List.mem_append_right _ h)) (by decide +kernel))
set_option maxRecDepth 20000 in
theorem gX4_doBuilt_X4_doTimes : GoodIn wsX4_doBuilt (wsV RX4 104 RX4 yX4_doTimes wsX4_doTimes) := goodIn_app (goodIn_of _ (by decide +kernel)) ggX4_doBuilt_X4_doTimes
set_option maxRecDepth 20000 in
theorem ggX4_doBuilt_X4_doUntil : GoodIn wsX4_doBuilt wsX4_doUntil := goodIn_ca (goodIn_r _ [162, 59, 16, 2, 54, 55, 56, 7, 57, 58, 28, 29, 30, 31, 32, 33, 34, 43, 44, 45, 0, 1, 3, 4, 5, 6, 8, 9, 10, 11, 12, 13, 14, 15, 17, 18, 19, 20, 21, 22, 23, 24, 25, 26, 27, 35, 36, 37, 38, 39, 40, 41, 42, 46, 47, 48, 49, 50, 51, 52, 53, 60, 61, 62, 63, 64, 65, 66, 67, 68, 69, 70, 71, 72, 73, 74, 75, 76, 77, 78, 79, 80, 81, 82, 83, 84, 85, 86, 87, 88, 89, 90, 91, 92, 93, 94, 95, 96, 97, 98, 99, 100, 101, 102, 103, 104, 105, 106, 107, 108, 109, 110, 111, 112, 113, 114, 115, 116, 117, 118, 119, 120, 121, 122, 123, 124, 125, 126, 127, 128, 129, 130, 131, 132, 133, 134, 135, 136, 137, 138, 139, 140, 141, 142, 143, 144, 145, 146, 147, 148, 149, 150, 151, 152, 153, 154, 155, 156, 157, 158, 159, 160, 161, 163, 164, 165, 166, 167, 168, 169, 170, 171, 172, 173, 174, 175, 176, 177, 178, 179, 180, 181, 182, 183, 184, 185, 186, 187, 188, 189, 190, 191, 192, 193, 194, 195, 196, 197, 198] (by decide +kernel) (by decide +kernel)) (goodIn_sub (fun _ h => List.mem_cons_of_mem _ (List.mem_append_right _ h)) (by decide +kernel))
set_option maxRecDepth 20000 in
theorem gX4_doBuilt_X4_doUntil : GoodIn wsX4_doBuilt (wsV RX4 107 RX4 yX4_doUntil wsX4_doUntil) := goodIn_app (goodIn_of _ (by decide +kernel)) ggX4_doBuilt_X4_doUntil
set_option maxRecDepth 20000 in
theorem ggX4_doBuilt_X4_holds : GoodIn wsX4_doBuilt wsX4_holds := goodIn_ca (goodIn_r _ [14, 15, 16, 17, 18, 19, 7, 20, 21, 22, 23, 24, 25, 26, 27, 28, 29, 30, 31, 32, 33, 34, 35, 36, 37, 38, 39, 40, 41, 42, 164, 165, 166, 167, 168, 169, 170, 171, 172, 173, 174, 175, 176, 177, 178, 179, 180, 181, 182, 183, 184, 185, 186, 187, 188, 189, 190, 191, 192, 193, 194, 195, 196, 197, 198] (by decide +kernel) (by decide +kernel)) (goodIn_sub (fun _ h => List.mem_cons_of_mem _ (List.mem_append_right _ h)) (by decide +kernel))
set_option maxRecDepth 20000 in
theorem gX4_doBuilt_X4_holds : GoodIn wsX4_doBuilt (wsV RX4 110 RX4 yX4_holds wsX4_holds) := goodIn_app (goodIn_of _ (by decide +kernel)) ggX4_doBuilt_X4_holds
set_option maxRecDepth 20000 in
theorem ggX4_doBuilt_X4_doSteps : GoodIn wsX4_doBuilt wsX4_doSteps := goodIn_ca (goodIn_r _ [52, 1, 53, 54, 55, 56, 7, 57, 58, 59, 60, 61, 62, 63, 23, 24, 16, 35, 36, 37, 38, 39, 40, 41, 42, 64, 65, 66, 67, 68, 69, 70, 71, 72, 73, 74, 75, 76, 77, 78, 79, 80, 81, 82, 83, 84, 85, 31, 86, 33, 87, 34, 88, 89, 90, 91, 92, 93, 94, 95, 96, 97, 98, 99, 100, 101, 102, 103, 104, 105, 106, 107, 108, 109, 110, 22, 111, 112, 113, 114, 115, 116, 117, 118, 119, 120, 121, 122, 123, 124, 125, 126, 127, 128, 129, 130, 131, 132, 133, 134, 135, 136, 137, 138, 139, 140, 141, 142, 143, 144, 145, 146, 147, 148, 149, 150, 151, 152, 153, 154, 155, 156, 157, 158, 159, 0, 2, 3, 4, 5, 6, 8, 9, 10, 11, 12, 13, 14, 15, 17, 18, 19, 20, 21, 25, 26, 27, 28, 29, 30, 32, 43, 44, 45, 46, 47, 48, 49, 50, 51, 160, 161, 162, 163, 164, 165, 166, 167, 168, 169, 170, 171, 172, 173, 174, 175, 176, 177, 178, 179, 180, 181, 182, 183, 184, 185, 186, 187, 188, 189, 190, 191, 192, 193, 194, 195, 196, 197, 198] (by decide +kernel) (by decide +kernel)) (goodIn_sub (fun _ h => List.mem_cons_of_mem _ (List.mem_append_right _ h)) (by decide +kernel))
set_option maxRecDepth 20000 in
theorem gX4_doBuilt_X4_doSteps : GoodIn wsX4_doBuilt (wsV RX4 34 RX4 yX4_doSteps wsX4_doSteps) := goodIn_app (goodIn_of _ (by decide +kernel)) ggX4_doBuilt_X4_doSteps
set_option maxRecDepth 20000 in
theorem ggX4_doBuilt_X4_doTry : GoodIn wsX4_doBuilt wsX4_doTry := goodIn_ca (goodIn_r _ [161, 2, 3, 43, 44, 45, 7, 0, 1, 4, 5, 6, 8, 9, 10, 11, 12, 13, 14, 15, 16, 17, 18, 19, 20, 21, 22, 23, 24, 25, 26, 27, 28, 29, 30, 31, 32, 33, 34, 35, 36, 37, 38, 39, 40, 41, 42, 46, 47, 48, 49, 50, 51, 52, 53, 54, 55, 56, 57, 58, 59, 60, 61, 62, 63, 64, 65, 66, 67, 68, 69, 70, 71, 72, 73, 74, 75, 76, 77, 78, 79, 80, 81, 82, 83, 84, 85, 86, 87, 88, 89, 90, 91, 92, 93, 94, 95, 96, 97, 98, 99, 100, 101, 102, 103, 104, 105, 106, 107, 108, 109, 110, 111, 112, 113, 114, 115, 116, 117, 118, 119, 120, 121, 122, 123, 124, 125, 126, 127, 128, 129, 130, 131, 132, 133, 134, 135, 136, 137, 138, 139, 140, 141, 142, 143, 144, 145, 146, 147, 148, 149, 150, 151, 152, 153, 154, 155, 156, 157, 158, 159, 160, 162, 163, 164, 165, 166, 167, 168, 169, 170, 171, 172, 173, 174, 175, 176, 177, 178, 179, 180, 181, 182, 183, 184, 185, 186, 187, 188, 189, 190, 191, 192, 193, 194, 195, 196, 197, 198] (by decide +kernel) (by decide +kernel)) (goodIn_sub (fun _ h => List.mem_cons_of_mem _ (List.mem_append_right _ h)) (by decide +kernel))
set_option maxRecDepth 20000 in
theorem gX4_doBuilt_X4_doTry : GoodIn wsX4_doBuilt (wsV RX4 120 RX4 yX4_doTry wsX4_doTry) := goodIn_app (goodIn_of _ (by decide +kernel)) ggX4_doBuilt_X4_doTry
set_option maxRecDepth 20000 in
theorem ggX4_doBuilt_X4_doWithLast : GoodIn wsX4_doBuilt wsX4_doWithLast := goodIn_ca (goodIn_r _ [163, 2, 3, 43, 44, 45, 7, 0, 1, 4, 5, 6, 8, 9, 10, 11, 12, 13, 14, 15, 16, 17, 18, 19, 20, 21, 22, 23, 24, 25, 26, 27, 28, 29, 30, 31, 32, 33, 34, 35, 36, 37, 38, 39, 40, 41, 42, 46, 47, 48, 49, 50, 51, 52, 53, 54, 55, 56, 57, 58, 59, 60, 61, 62, 63, 64, 65, 66, 67, 68, 69, 70, 71, 72, 73, 74, 75, 76, 77, 78, 79, 80, 81, 82, 83, 84, 85, 86, 87, 88, 89, 90, 91, 92, 93, 94, 95, 96, 97, 98, 99, 100, 101, 102, 103, 104, 105, 106, 107, 108, 109, 110, 111, 112, 113, 114, 115, 116, 117, 118, 119, 120, 121, 122, 123, 124, 125, 126, 127, 128, 129, 130, 131, 132, 133, 134, 135, 136, 137, 138, 139, 140, 141, 142, 143, 144, 145, 146, 147, 148, 149, 150, 151, 152, 153, 154, 155, 156, 157, 158, 159, 160, 161, 162, 164, 165, 166, 167, 168, 169, 170, 171, 172, 173, 174, 175, 176, 177, 178, 179, 180, 181, 182, 183, 184, 185, 186, 187, 188, 189, 190, 191, 192, 193, 194, 195, 196, 197, 198] (by decide +kernel) (by decide +kernel)) (goodIn_sub (fun _ h => List.mem_cons_of_mem _ (List.mem_append_right _ h)) (by decide +kernel))
set_option maxRecDepth 20000 in
theorem gX4_doBuilt_X4_doWithLast : GoodIn wsX4_doBuilt (wsV RX4 123 RX4 yX4_doWithLast wsX4_doWithLast) := goodIn_app (goodIn_of _ (by decide +kernel)) ggX4_doBuilt_X4_doWithLast
set_option maxRecDepth 20000 in
theorem ggX4_doDip_X7_givesTo : GoodIn wsX4_doDip wsX7_givesTo := goodIn_r _ [9, 10, 11, 12, 13, 14, 15, 16, 17, 18, 19, 20, 21, 22, 23, 24, 61, 62, 63, 64, 65, 66, 67, 68, 45, 46, 47, 48, 49, 50, 51, 52] (by decide +kernel) (by decide +kernel)
set_option maxRecDepth 20000 in
theorem gX4_doDip_X7_givesTo : GoodIn wsX4_doDip (wsV RX4 129 RX7 yX7_givesTo wsX7_givesTo) := goodIn_app (goodIn_of _ (by decide +kernel)) ggX4_doDip_X7_givesTo
set_option maxRecDepth 20000 in
theorem ggX4_doDip_X8_dipInto : GoodIn wsX4_doDip wsX8_dipInto := goodIn_r _ [29, 30, 31, 32, 33, 34, 35, 36, 37, 38, 39, 40, 8, 41, 12, 42, 43, 11, 44, 69, 70, 71, 45, 46, 47, 48, 49, 50, 51, 52, 61, 62, 63, 64, 65, 66, 67, 68] (by decide +kernel) (by decide +kernel)
set_option maxRecDepth 20000 in
theorem gX4_doDip_X8_dipInto : GoodIn wsX4_doDip (wsV RX4 133 RX8 yX8_dipInto wsX8_dipInto) := goodIn_app (goodIn_of _ (by decide +kernel)) ggX4_doDip_X8_dipInto
set_option maxRecDepth 20000 in
theorem ggX4_doAir_X8_airOut : GoodIn wsX4_doAir wsX8_airOut := goodIn_r _ [7, 8, 9, 10, 11, 12, 13, 14, 15, 32, 33, 34, 16, 17, 18, 19, 20, 21, 22, 23] (by decide +kernel) (by decide +kernel)
set_option maxRecDepth 20000 in
theorem gX4_doAir_X8_airOut : GoodIn wsX4_doAir (wsV RX4 142 RX8 yX8_airOut wsX8_airOut) := goodIn_app (goodIn_of _ (by decide +kernel)) ggX4_doAir_X8_airOut
set_option maxRecDepth 20000 in
theorem ggX4_doRest_X4_mayCount : GoodIn wsX4_doRest wsX4_mayCount := goodIn_r _ [7, 8, 9, 30, 31, 32, 33, 34, 35, 36, 37] (by decide +kernel) (by decide +kernel)
set_option maxRecDepth 20000 in
theorem gX4_doRest_X4_mayCount : GoodIn wsX4_doRest (wsV RX4 47 RX4 yX4_mayCount wsX4_mayCount) := goodIn_app (goodIn_of _ (by decide +kernel)) ggX4_doRest_X4_mayCount
set_option maxRecDepth 20000 in
theorem ggX4_doRest_X8_passHour : GoodIn wsX4_doRest wsX8_passHour := goodIn_r _ [14, 15, 16, 17, 18, 19, 20, 21, 22, 23, 24, 25, 26, 27, 28, 29, 38, 39, 40, 41, 42, 43, 44, 45, 46, 47, 48] (by decide +kernel) (by decide +kernel)
set_option maxRecDepth 20000 in
theorem gX4_doRest_X8_passHour : GoodIn wsX4_doRest (wsV RX4 145 RX8 yX8_passHour wsX8_passHour) := goodIn_app (goodIn_of _ (by decide +kernel)) ggX4_doRest_X8_passHour
set_option maxRecDepth 20000 in
theorem ggX4_doLime_X7_takeLime : GoodIn wsX4_doLime wsX7_takeLime := goodIn_r _ [6, 7, 8, 9, 10, 11, 12, 13, 14, 15, 16, 17] (by decide +kernel) (by decide +kernel)
set_option maxRecDepth 20000 in
theorem gX4_doLime_X7_takeLime : GoodIn wsX4_doLime (wsV RX4 148 RX7 yX7_takeLime wsX7_takeLime) := goodIn_app (goodIn_of _ (by decide +kernel)) ggX4_doLime_X7_takeLime
set_option maxRecDepth 20000 in
theorem ggX4_doTimes_X4_mayCount : GoodIn wsX4_doTimes wsX4_mayCount := goodIn_r _ [7, 8, 9, 180, 181, 182, 183, 184, 185, 186, 187] (by decide +kernel) (by decide +kernel)
set_option maxRecDepth 20000 in
theorem gX4_doTimes_X4_mayCount : GoodIn wsX4_doTimes (wsV RX4 47 RX4 yX4_mayCount wsX4_mayCount) := goodIn_app (goodIn_of _ (by decide +kernel)) ggX4_doTimes_X4_mayCount
set_option maxRecDepth 20000 in
theorem ggX4_doTimes_X4_doSteps : GoodIn wsX4_doTimes wsX4_doSteps := goodIn_ca (goodIn_r _ [59, 14, 60, 3, 4, 5, 6, 7, 8, 9, 61, 62, 63, 64, 33, 34, 1, 45, 46, 47, 48, 49, 50, 51, 52, 65, 66, 67, 68, 69, 70, 71, 72, 73, 74, 75, 76, 77, 78, 79, 80, 81, 82, 83, 84, 85, 86, 41, 87, 43, 88, 44, 89, 90, 91, 92, 93, 94, 95, 96, 97, 98, 99, 100, 101, 102, 103, 104, 105, 106, 107, 108, 109, 110, 111, 32, 112, 113, 114, 115, 116, 117, 118, 119, 120, 121, 122, 123, 124, 125, 126, 127, 128, 129, 130, 131, 132, 133, 134, 135, 136, 137, 138, 139, 140, 141, 142, 143, 144, 145, 146, 147, 148, 149, 150, 151, 152, 153, 154, 155, 156, 157, 158, 159, 160, 13, 2, 15, 16, 17, 18, 19, 20, 21, 22, 23, 24, 25, 26, 27, 28, 29, 30, 31, 35, 36, 37, 38, 39, 40, 42, 10, 11, 12, 53, 54, 55, 56, 57, 58, 0, 161, 162, 163, 164, 165, 166, 167, 168, 169, 170, 171, 172, 173, 174, 175, 176, 177, 178, 179, 180, 181, 182, 183, 184, 185, 186, 187, 188, 189, 190, 191, 192, 193, 194, 195, 196, 197, 198] (by decide +kernel) (by decide +kernel)) (goodIn_sub (fun _ h => List.mem_cons_of_mem _ (List.mem_append_right _ h)) (by decide +kernel))
set_option maxRecDepth 20000 in
theorem gX4_doTimes_X4_doSteps : GoodIn wsX4_doTimes (wsV RX4 34 RX4 yX4_doSteps wsX4_doSteps) := goodIn_app (goodIn_of _ (by decide +kernel)) ggX4_doTimes_X4_doSteps
set_option maxRecDepth 20000 in
theorem ggX4_doUntil_X4_mayCount : GoodIn wsX4_doUntil wsX4_mayCount := goodIn_r _ [8, 9, 1, 180, 181, 182, 183, 184, 185, 186, 187] (by decide +kernel) (by decide +kernel)
set_option maxRecDepth 20000 in
theorem gX4_doUntil_X4_mayCount : GoodIn wsX4_doUntil (wsV RX4 47 RX4 yX4_mayCount wsX4_mayCount) := goodIn_app (goodIn_of _ (by decide +kernel)) ggX4_doUntil_X4_mayCount
set_option maxRecDepth 20000 in
theorem ggX4_doUntil_X0_shade : GoodIn wsX4_doUntil wsX0_shade := goodIn_r _ [14, 15, 16, 172, 173, 174, 175, 176, 177, 178, 179] (by decide +kernel) (by decide +kernel)
set_option maxRecDepth 20000 in
theorem gX4_doUntil_X0_shade : GoodIn wsX4_doUntil (wsV RX4 151 RX0 yX0_shade wsX0_shade) := goodIn_app (goodIn_of _ (by decide +kernel)) ggX4_doUntil_X0_shade
set_option maxRecDepth 20000 in
theorem ggX4_doUntil_X4_doSteps : GoodIn wsX4_doUntil wsX4_doSteps := goodIn_ca (goodIn_r _ [59, 21, 60, 4, 5, 6, 7, 8, 9, 1, 61, 62, 63, 64, 40, 41, 2, 45, 46, 47, 48, 49, 50, 51, 52, 65, 66, 67, 68, 69, 70, 71, 72, 73, 74, 75, 76, 77, 78, 79, 80, 81, 82, 83, 84, 85, 86, 13, 87, 15, 88, 16, 89, 90, 91, 92, 93, 94, 95, 96, 97, 98, 99, 100, 101, 102, 103, 104, 105, 106, 107, 108, 109, 110, 111, 39, 112, 113, 114, 115, 116, 117, 118, 119, 120, 121, 122, 123, 124, 125, 126, 127, 128, 129, 130, 131, 132, 133, 134, 135, 136, 137, 138, 139, 140, 141, 142, 143, 144, 145, 146, 147, 148, 149, 150, 151, 152, 153, 154, 155, 156, 157, 158, 159, 160, 20, 3, 22, 23, 24, 25, 26, 27, 28, 29, 30, 31, 32, 33, 34, 35, 36, 37, 38, 42, 43, 44, 10, 11, 12, 14, 17, 18, 19, 53, 54, 55, 56, 57, 58, 161, 162, 0, 163, 164, 165, 166, 167, 168, 169, 170, 171, 172, 173, 174, 175, 176, 177, 178, 179, 180, 181, 182, 183, 184, 185, 186, 187, 188, 189, 190, 191, 192, 193, 194, 195, 196, 197, 198] (by decide +kernel) (by decide +kernel)) (goodIn_sub (fun _ h => List.mem_cons_of_mem _ (List.mem_append_right _ h)) (by decide +kernel))
set_option maxRecDepth 20000 in
theorem gX4_doUntil_X4_doSteps : GoodIn wsX4_doUntil (wsV RX4 34 RX4 yX4_doSteps wsX4_doSteps) := goodIn_app (goodIn_of _ (by decide +kernel)) ggX4_doUntil_X4_doSteps
set_option maxRecDepth 20000 in
theorem ggX4_doTry_X4_doSteps : GoodIn wsX4_doTry wsX4_doSteps := goodIn_ca (goodIn_r _ [53, 8, 54, 55, 56, 57, 6, 58, 59, 60, 61, 62, 63, 64, 27, 28, 20, 39, 40, 41, 42, 43, 44, 45, 46, 65, 66, 67, 68, 69, 70, 71, 72, 73, 74, 75, 76, 77, 78, 79, 80, 81, 82, 83, 84, 85, 86, 35, 87, 37, 88, 38, 89, 90, 91, 92, 93, 94, 95, 96, 97, 98, 99, 100, 101, 102, 103, 104, 105, 106, 107, 108, 109, 110, 111, 26, 112, 113, 114, 115, 116, 117, 118, 119, 120, 121, 122, 123, 124, 125, 126, 127, 128, 129, 130, 131, 132, 133, 134, 135, 136, 137, 138, 139, 140, 141, 142, 143, 144, 145, 146, 147, 148, 149, 150, 151, 152, 153, 154, 155, 156, 157, 158, 159, 160, 7, 1, 2, 9, 10, 11, 12, 13, 14, 15, 16, 17, 18, 19, 21, 22, 23, 24, 25, 29, 30, 31, 32, 33, 34, 36, 3, 4, 5, 47, 48, 49, 50, 51, 52, 161, 0, 162, 163, 164, 165, 166, 167, 168, 169, 170, 171, 172, 173, 174, 175, 176, 177, 178, 179, 180, 181, 182, 183, 184, 185, 186, 187, 188, 189, 190, 191, 192, 193, 194, 195, 196, 197, 198] (by decide +kernel) (by decide +kernel)) (goodIn_sub (fun _ h => List.mem_cons_of_mem _ (List.mem_append_right _ h)) (by decide +kernel))
set_option maxRecDepth 20000 in
theorem gX4_doTry_X4_doSteps : GoodIn wsX4_doTry (wsV RX4 34 RX4 yX4_doSteps wsX4_doSteps) := goodIn_app (goodIn_of _ (by decide +kernel)) ggX4_doTry_X4_doSteps
set_option maxRecDepth 20000 in
theorem ggX4_doWithLast_X4_doSteps : GoodIn wsX4_doWithLast wsX4_doSteps := goodIn_ca (goodIn_r _ [53, 8, 54, 55, 56, 57, 6, 58, 59, 60, 61, 62, 63, 64, 27, 28, 20, 39, 40, 41, 42, 43, 44, 45, 46, 65, 66, 67, 68, 69, 70, 71, 72, 73, 74, 75, 76, 77, 78, 79, 80, 81, 82, 83, 84, 85, 86, 35, 87, 37, 88, 38, 89, 90, 91, 92, 93, 94, 95, 96, 97, 98, 99, 100, 101, 102, 103, 104, 105, 106, 107, 108, 109, 110, 111, 26, 112, 113, 114, 115, 116, 117, 118, 119, 120, 121, 122, 123, 124, 125, 126, 127, 128, 129, 130, 131, 132, 133, 134, 135, 136, 137, 138, 139, 140, 141, 142, 143, 144, 145, 146, 147, 148, 149, 150, 151, 152, 153, 154, 155, 156, 157, 158, 159, 160, 7, 1, 2, 9, 10, 11, 12, 13, 14, 15, 16, 17, 18, 19, 21, 22, 23, 24, 25, 29, 30, 31, 32, 33, 34, 36, 3, 4, 5, 47, 48, 49, 50, 51, 52, 161, 162, 163, 0, 164, 165, 166, 167, 168, 169, 170, 171, 172, 173, 174, 175, 176, 177, 178, 179, 180, 181, 182, 183, 184, 185, 186, 187, 188, 189, 190, 191, 192, 193, 194, 195, 196, 197, 198] (by decide +kernel) (by decide +kernel)) (goodIn_sub (fun _ h => List.mem_cons_of_mem _ (List.mem_append_right _ h)) (by decide +kernel))
set_option maxRecDepth 20000 in
theorem gX4_doWithLast_X4_doSteps : GoodIn wsX4_doWithLast (wsV RX4 34 RX4 yX4_doSteps wsX4_doSteps) := goodIn_app (goodIn_of _ (by decide +kernel)) ggX4_doWithLast_X4_doSteps
set_option maxRecDepth 20000 in
theorem ggX4_holds_X4_lookAt : GoodIn wsX4_holds wsX4_lookAt := goodIn_ca (goodIn_r _ [7, 8, 9, 10, 11, 12, 13, 14, 15, 16, 17, 18, 19, 20, 21, 22, 23, 24, 25, 26, 27, 28, 29, 30, 31, 32, 33, 34, 35, 36, 37, 38, 39, 40, 41, 42, 43, 44, 45, 46, 47, 48, 49, 50, 51, 52, 53, 54, 55, 56, 57, 58, 59, 60, 61, 62, 63, 64] (by decide +kernel) (by decide +kernel)) (goodIn_sub (fun _ h => List.mem_cons_of_mem _ (List.mem_append_right _ h)) (by decide +kernel))
set_option maxRecDepth 20000 in
theorem gX4_holds_X4_lookAt : GoodIn wsX4_holds (wsV RX4 155 RX4 yX4_lookAt wsX4_lookAt) := goodIn_app (goodIn_of _ (by decide +kernel)) ggX4_holds_X4_lookAt
set_option maxRecDepth 20000 in
theorem ggX4_lookAt_X0_shade : GoodIn wsX4_lookAt wsX0_shade := goodIn_r _ [12, 13, 14, 31, 32, 33, 34, 35, 36, 37, 38] (by decide +kernel) (by decide +kernel)
set_option maxRecDepth 20000 in
theorem gX4_lookAt_X0_shade : GoodIn wsX4_lookAt (wsV RX4 151 RX0 yX0_shade wsX0_shade) := goodIn_app (goodIn_of _ (by decide +kernel)) ggX4_lookAt_X0_shade
set_option maxRecDepth 20000 in
theorem ggX4_lookAt_X8_vatAt : GoodIn wsX4_lookAt wsX8_vatAt := goodIn_ca (goodIn_r _ [19, 20, 21, 22, 55, 56, 57] (by decide +kernel) (by decide +kernel)) (goodIn_sub (fun _ h => List.mem_cons_of_mem _ (List.mem_append_right _ h)) (by decide +kernel))
set_option maxRecDepth 20000 in
theorem gX4_lookAt_X8_vatAt : GoodIn wsX4_lookAt (wsV RX4 70 RX8 yX8_vatAt wsX8_vatAt) := goodIn_app (goodIn_of _ (by decide +kernel)) ggX4_lookAt_X8_vatAt
set_option maxRecDepth 20000 in
theorem ggX6_split_X6_byteAt : GoodIn wsX6_split wsX6_byteAt := goodIn_r _ [16, 9, 1, 105, 106, 107, 108, 109, 110, 111] (by decide +kernel) (by decide +kernel)
set_option maxRecDepth 20000 in
theorem gX6_split_X6_byteAt : GoodIn wsX6_split (wsV RX6 44 RX6 yX6_byteAt wsX6_byteAt) := goodIn_app (goodIn_of _ (by decide +kernel)) ggX6_split_X6_byteAt
set_option maxRecDepth 20000 in
theorem ggX6_split_X6_isBlank : GoodIn wsX6_split wsX6_isBlank := goodIn_r _ [19] (by decide +kernel) (by decide +kernel)
set_option maxRecDepth 20000 in
theorem gX6_split_X6_isBlank : GoodIn wsX6_split (va_wsS RX6 48 yX6_isBlank wsX6_isBlank) := goodIn_app (goodIn_of _ (by decide +kernel)) ggX6_split_X6_isBlank
set_option maxRecDepth 20000 in
theorem ggX6_split_X6_addToken : GoodIn wsX6_split wsX6_addToken := goodIn_r _ [23, 10, 12, 13, 14, 15, 16, 9, 1, 24, 25, 26, 27, 28, 29, 30, 31, 32, 33, 34, 35, 36, 37, 38, 39, 40, 41, 42, 43, 44, 45, 46, 47, 48, 49, 50, 51, 52, 53, 54, 55, 56, 57, 58, 59, 60, 61, 62, 63, 64, 65, 66, 67, 68, 69, 70, 71, 72, 73, 74, 75, 76, 77, 78, 79, 80, 81, 82, 83, 84, 85, 86, 87, 88, 89, 90, 91, 11, 92, 93, 94, 95, 96, 97, 98, 99, 100, 101, 102, 103, 104, 105, 106, 107, 108, 109, 110, 111] (by decide +kernel) (by decide +kernel)
set_option maxRecDepth 20000 in
theorem gX6_split_X6_addToken : GoodIn wsX6_split (wsV RX6 52 RX6 yX6_addToken wsX6_addToken) := goodIn_app (goodIn_of _ (by decide +kernel)) ggX6_split_X6_addToken
set_option maxRecDepth 20000 in
theorem ggX6_split_X6_keep : GoodIn wsX6_split wsX6_keep := goodIn_r _ [91, 11, 92, 93, 94, 105, 106, 107, 108, 109, 110, 111] (by decide +kernel) (by decide +kernel)
set_option maxRecDepth 20000 in
theorem gX6_split_X6_keep : GoodIn wsX6_split (wsV RX6 55 RX6 yX6_keep wsX6_keep) := goodIn_app (goodIn_of _ (by decide +kernel)) ggX6_split_X6_keep
set_option maxRecDepth 20000 in
theorem ggX6_addToken_X6_byteAt : GoodIn wsX6_addToken wsX6_byteAt := goodIn_r _ [6, 7, 8, 91, 92, 93, 94, 95, 96, 97] (by decide +kernel) (by decide +kernel)
set_option maxRecDepth 20000 in
theorem gX6_addToken_X6_byteAt : GoodIn wsX6_addToken (wsV RX6 44 RX6 yX6_byteAt wsX6_byteAt) := goodIn_app (goodIn_of _ (by decide +kernel)) ggX6_addToken_X6_byteAt
set_option maxRecDepth 20000 in
theorem ggX6_addToken_X6_isLetter : GoodIn wsX6_addToken wsX6_isLetter := goodIn_r _ [11] (by decide +kernel) (by decide +kernel)
set_option maxRecDepth 20000 in
theorem gX6_addToken_X6_isLetter : GoodIn wsX6_addToken (va_wsS RX6 59 yX6_isLetter wsX6_isLetter) := goodIn_app (goodIn_of _ (by decide +kernel)) ggX6_addToken_X6_isLetter
set_option maxRecDepth 20000 in
theorem ggX6_addToken_X6_addLetters : GoodIn wsX6_addToken wsX6_addLetters := goodIn_r _ [15, 1, 7, 2, 3, 4, 5, 6, 8, 9, 10, 11, 16, 17, 18, 19, 20, 21, 22, 23, 24, 25, 26, 27, 28, 29, 30, 31, 32, 33, 34, 35, 36, 37, 38, 39, 40, 41, 42, 43, 44, 45, 46, 47, 48, 49, 50, 51, 52, 53, 54, 55, 56, 57, 58, 59, 60, 61, 62, 63, 64, 65, 66, 67, 68, 69, 70, 71, 72, 73, 74, 75, 76, 77, 78, 79, 80, 91, 92, 93, 94, 95, 96, 97] (by decide +kernel) (by decide +kernel)
set_option maxRecDepth 20000 in
theorem gX6_addToken_X6_addLetters : GoodIn wsX6_addToken (wsV RX6 62 RX6 yX6_addLetters wsX6_addLetters) := goodIn_app (goodIn_of _ (by decide +kernel)) ggX6_addToken_X6_addLetters
set_option maxRecDepth 20000 in
theorem ggX6_addToken_X6_isDigit : GoodIn wsX6_addToken wsX6_isDigit := goodIn_r _ [83] (by decide +kernel) (by decide +kernel)
set_option maxRecDepth 20000 in
theorem gX6_addToken_X6_isDigit : GoodIn wsX6_addToken (va_wsS RX6 65 yX6_isDigit wsX6_isDigit) := goodIn_app (goodIn_of _ (by decide +kernel)) ggX6_addToken_X6_isDigit
set_option maxRecDepth 20000 in
theorem ggX6_addToken_X6_addDigits : GoodIn wsX6_addToken wsX6_addDigits := goodIn_r _ [87, 1, 7, 2, 3, 4, 5, 6, 8, 81, 82, 83, 73, 74, 75, 76, 77, 78, 79, 80, 91, 92, 93, 94, 95, 96, 97] (by decide +kernel) (by decide +kernel)
set_option maxRecDepth 20000 in
theorem gX6_addToken_X6_addDigits : GoodIn wsX6_addToken (wsV RX6 68 RX6 yX6_addDigits wsX6_addDigits) := goodIn_app (goodIn_of _ (by decide +kernel)) ggX6_addToken_X6_addDigits
set_option maxRecDepth 20000 in
theorem ggX6_addToken_X6_isSign : GoodIn wsX6_addToken wsX6_isSign := goodIn_r _ [90] (by decide +kernel) (by decide +kernel)
set_option maxRecDepth 20000 in
theorem gX6_addToken_X6_isSign : GoodIn wsX6_addToken (va_wsS RX6 71 yX6_isSign wsX6_isSign) := goodIn_app (goodIn_of _ (by decide +kernel)) ggX6_addToken_X6_isSign
set_option maxRecDepth 20000 in
theorem ggX6_addToken_X6_keep : GoodIn wsX6_addToken wsX6_keep := goodIn_r _ [76, 77, 78, 79, 80, 91, 92, 93, 94, 95, 96, 97] (by decide +kernel) (by decide +kernel)
set_option maxRecDepth 20000 in
theorem gX6_addToken_X6_keep : GoodIn wsX6_addToken (wsV RX6 55 RX6 yX6_keep wsX6_keep) := goodIn_app (goodIn_of _ (by decide +kernel)) ggX6_addToken_X6_keep
set_option maxRecDepth 20000 in
theorem ggX6_addLetters_X6_byteAt : GoodIn wsX6_addLetters wsX6_byteAt := goodIn_r _ [7, 2, 8, 77, 78, 79, 80, 81, 82, 83] (by decide +kernel) (by decide +kernel)
set_option maxRecDepth 20000 in
theorem gX6_addLetters_X6_byteAt : GoodIn wsX6_addLetters (wsV RX6 44 RX6 yX6_byteAt wsX6_byteAt) := goodIn_app (goodIn_of _ (by decide +kernel)) ggX6_addLetters_X6_byteAt
set_option maxRecDepth 20000 in
theorem ggX6_addLetters_X6_isLetter : GoodIn wsX6_addLetters wsX6_isLetter := goodIn_r _ [11] (by decide +kernel) (by decide +kernel)
set_option maxRecDepth 20000 in
theorem gX6_addLetters_X6_isLetter : GoodIn wsX6_addLetters (va_wsS RX6 59 yX6_isLetter wsX6_isLetter) := goodIn_app (goodIn_of _ (by decide +kernel)) ggX6_addLetters_X6_isLetter
set_option maxRecDepth 20000 in
theorem ggX6_addLetters_X6_wordNumber : GoodIn wsX6_addLetters wsX6_wordNumber := goodIn_r _ [15, 16, 17, 18, 19, 20, 21, 22, 23, 24, 25, 26, 27, 28, 29, 30, 31, 32, 33, 34, 35, 36, 37, 38, 39, 40, 41, 42, 43, 44, 45, 46, 47, 48, 49, 50, 51, 52, 53, 54, 55, 56, 57, 58, 59, 60, 61, 62, 63, 64, 65, 66, 67, 6, 68, 1, 3, 4, 5, 7, 2, 8, 77, 78, 79, 80, 81, 82, 83] (by decide +kernel) (by decide +kernel)
set_option maxRecDepth 20000 in
theorem gX6_addLetters_X6_wordNumber : GoodIn wsX6_addLetters (wsV RX6 74 RX6 yX6_wordNumber wsX6_wordNumber) := goodIn_app (goodIn_of _ (by decide +kernel)) ggX6_addLetters_X6_wordNumber
set_option maxRecDepth 20000 in
theorem ggX6_addLetters_X6_keep : GoodIn wsX6_addLetters wsX6_keep := goodIn_r _ [72, 73, 74, 75, 76, 77, 78, 79, 80, 81, 82, 83] (by decide +kernel) (by decide +kernel)
set_option maxRecDepth 20000 in
theorem gX6_addLetters_X6_keep : GoodIn wsX6_addLetters (wsV RX6 55 RX6 yX6_keep wsX6_keep) := goodIn_app (goodIn_of _ (by decide +kernel)) ggX6_addLetters_X6_keep
set_option maxRecDepth 20000 in
theorem ggX6_addDigits_X6_byteAt : GoodIn wsX6_addDigits wsX6_byteAt := goodIn_r _ [7, 2, 8, 20, 21, 22, 23, 24, 25, 26] (by decide +kernel) (by decide +kernel)
set_option maxRecDepth 20000 in
theorem gX6_addDigits_X6_byteAt : GoodIn wsX6_addDigits (wsV RX6 44 RX6 yX6_byteAt wsX6_byteAt) := goodIn_app (goodIn_of _ (by decide +kernel)) ggX6_addDigits_X6_byteAt
set_option maxRecDepth 20000 in
theorem ggX6_addDigits_X6_isDigit : GoodIn wsX6_addDigits wsX6_isDigit := goodIn_r _ [11] (by decide +kernel) (by decide +kernel)
set_option maxRecDepth 20000 in
theorem gX6_addDigits_X6_isDigit : GoodIn wsX6_addDigits (va_wsS RX6 65 yX6_isDigit wsX6_isDigit) := goodIn_app (goodIn_of _ (by decide +kernel)) ggX6_addDigits_X6_isDigit
set_option maxRecDepth 20000 in
theorem ggX6_addDigits_X6_keep : GoodIn wsX6_addDigits wsX6_keep := goodIn_r _ [15, 16, 17, 18, 19, 20, 21, 22, 23, 24, 25, 26] (by decide +kernel) (by decide +kernel)
set_option maxRecDepth 20000 in
theorem gX6_addDigits_X6_keep : GoodIn wsX6_addDigits (wsV RX6 55 RX6 yX6_keep wsX6_keep) := goodIn_app (goodIn_of _ (by decide +kernel)) ggX6_addDigits_X6_keep
set_option maxRecDepth 20000 in
theorem ggX6_wordNumber_J0_length_8abf5 : GoodIn wsX6_wordNumber wsJ0_length_8abf5 := goodIn_r _ [5, 6, 7, 8, 9, 4, 10, 11, 12] (by decide +kernel) (by decide +kernel)
set_option maxRecDepth 20000 in
theorem gX6_wordNumber_J0_length_8abf5 : GoodIn wsX6_wordNumber (wsV RX6 79 RJ0 yJ0_length_8abf5 wsJ0_length_8abf5) := goodIn_app (goodIn_of _ (by decide +kernel)) ggX6_wordNumber_J0_length_8abf5
set_option maxRecDepth 20000 in
theorem ggX6_wordNumber_J0_charAt_5068e : GoodIn wsX6_wordNumber wsJ0_charAt_5068e := goodIn_r _ [16, 6, 17, 18, 19, 4, 20, 11, 12, 21, 22, 23, 24, 25, 26, 27, 28, 29, 30, 31, 32, 33, 34, 35, 36, 37, 38, 39, 40, 41, 42, 43, 44, 45, 46, 47, 48, 49] (by decide +kernel) (by decide +kernel)
set_option maxRecDepth 20000 in
theorem gX6_wordNumber_J0_charAt_5068e : GoodIn wsX6_wordNumber (wsV RX6 84 RJ0 yJ0_charAt_5068e wsJ0_charAt_5068e) := goodIn_app (goodIn_of _ (by decide +kernel)) ggX6_wordNumber_J0_charAt_5068e
set_option maxRecDepth 20000 in
theorem ggX6_wordNumber_X6_isWord : GoodIn wsX6_wordNumber wsX6_isWord := goodIn_r _ [54, 55, 13, 14, 15, 4, 16, 6, 17, 18, 19, 20, 11, 12, 21, 22, 23, 24, 25, 26, 27, 28, 29, 30, 31, 32, 33, 34, 35, 36, 37, 38, 39, 40, 41, 42, 43, 44, 45, 46, 47, 48, 49, 56, 57, 58, 53, 59, 60, 61, 62, 63, 64, 65, 66, 67, 68] (by decide +kernel) (by decide +kernel)
set_option maxRecDepth 20000 in
theorem gX6_wordNumber_X6_isWord : GoodIn wsX6_wordNumber (wsV RX6 88 RX6 yX6_isWord wsX6_isWord) := goodIn_app (goodIn_of _ (by decide +kernel)) ggX6_wordNumber_X6_isWord
set_option maxRecDepth 20000 in
theorem ggX6_isWord_J0_charAt_5068e : GoodIn wsX6_isWord wsJ0_charAt_5068e := goodIn_r _ [6, 7, 8, 9, 10, 5, 11, 12, 13, 14, 15, 16, 17, 18, 19, 20, 21, 22, 23, 24, 25, 26, 27, 28, 29, 30, 31, 32, 33, 34, 35, 36, 37, 38, 39, 40, 41, 42] (by decide +kernel) (by decide +kernel)
set_option maxRecDepth 20000 in
theorem gX6_isWord_J0_charAt_5068e : GoodIn wsX6_isWord (wsV RX6 84 RJ0 yJ0_charAt_5068e wsJ0_charAt_5068e) := goodIn_app (goodIn_of _ (by decide +kernel)) ggX6_isWord_J0_charAt_5068e
set_option maxRecDepth 20000 in
theorem ggX6_isWord_X6_byteAt : GoodIn wsX6_isWord wsX6_byteAt := goodIn_r _ [47, 48, 49, 50, 51, 52, 53, 54, 55, 56] (by decide +kernel) (by decide +kernel)
set_option maxRecDepth 20000 in
theorem gX6_isWord_X6_byteAt : GoodIn wsX6_isWord (wsV RX6 44 RX6 yX6_byteAt wsX6_byteAt) := goodIn_app (goodIn_of _ (by decide +kernel)) ggX6_isWord_X6_byteAt
set_option maxRecDepth 20000 in
theorem ggX7_givesTo_X0_room : GoodIn wsX7_givesTo wsX0_room := goodIn_r _ [12, 13, 14, 15, 16, 17, 18, 19, 20, 21, 22, 23] (by decide +kernel) (by decide +kernel)
set_option maxRecDepth 20000 in
theorem gX7_givesTo_X0_room : GoodIn wsX7_givesTo (wsV RX7 29 RX0 yX0_room wsX0_room) := goodIn_app (goodIn_of _ (by decide +kernel)) ggX7_givesTo_X0_room
set_option maxRecDepth 20000 in
theorem ggX8_init_X7_init : GoodIn wsX8_init wsX7_init := goodIn_r _ [10, 11, 2, 3, 12, 13, 14, 18, 19, 20, 21, 22, 23, 24, 25] (by decide +kernel) (by decide +kernel)
set_option maxRecDepth 20000 in
theorem gX8_init_X7_init : GoodIn wsX8_init (wsX7_init) := ggX8_init_X7_init
set_option maxRecDepth 20000 in
theorem ggX8_dipInto_X7_soak : GoodIn wsX8_dipInto wsX7_soak := goodIn_r _ [13, 14, 15, 16, 17, 18, 22, 23, 24, 25, 26, 27, 28, 29, 30, 31, 32, 33, 34, 35, 36, 37] (by decide +kernel) (by decide +kernel)
set_option maxRecDepth 20000 in
theorem gX8_dipInto_X7_soak : GoodIn wsX8_dipInto (wsV RX8 27 RX7 yX7_soak wsX7_soak) := goodIn_app (goodIn_of _ (by decide +kernel)) ggX8_dipInto_X7_soak
set_option maxRecDepth 20000 in
theorem ggX8_airOut_X0_loseByAir : GoodIn wsX8_airOut wsX0_loseByAir := goodIn_r _ [6, 7, 8, 12, 13, 14, 15, 16, 17, 18, 19] (by decide +kernel) (by decide +kernel)
set_option maxRecDepth 20000 in
theorem gX8_airOut_X0_loseByAir : GoodIn wsX8_airOut (wsV RX8 54 RX0 yX0_loseByAir wsX0_loseByAir) := goodIn_app (goodIn_of _ (by decide +kernel)) ggX8_airOut_X0_loseByAir
set_option maxRecDepth 20000 in
theorem ggX8_washOut_X0_loseByWash : GoodIn wsX8_washOut wsX0_loseByWash := goodIn_r _ [6, 7, 8, 12, 13, 14, 15, 16, 17, 18, 19] (by decide +kernel) (by decide +kernel)
set_option maxRecDepth 20000 in
theorem gX8_washOut_X0_loseByWash : GoodIn wsX8_washOut (wsV RX8 61 RX0 yX0_loseByWash wsX0_loseByWash) := goodIn_app (goodIn_of _ (by decide +kernel)) ggX8_washOut_X0_loseByWash
set_option maxRecDepth 20000 in
theorem ggX8_dryOut_X8_airOut : GoodIn wsX8_dryOut wsX8_airOut := goodIn_r _ [8, 9, 10, 11, 12, 13, 14, 15, 16, 25, 26, 27, 17, 18, 19, 20, 21, 22, 23, 24] (by decide +kernel) (by decide +kernel)
set_option maxRecDepth 20000 in
theorem gX8_dryOut_X8_airOut : GoodIn wsX8_dryOut (wsV RX8 64 RX8 yX8_airOut wsX8_airOut) := goodIn_app (goodIn_of _ (by decide +kernel)) ggX8_dryOut_X8_airOut
set_option maxRecDepth 20000 in
theorem ggX8_passHour_X7_liveThrough : GoodIn wsX8_passHour wsX7_liveThrough := goodIn_r _ [7, 8, 9, 10, 11, 12, 13, 14, 15, 19, 20, 21, 22, 23, 24, 25, 26] (by decide +kernel) (by decide +kernel)
set_option maxRecDepth 20000 in
theorem gX8_passHour_X7_liveThrough : GoodIn wsX8_passHour (wsV RX8 75 RX7 yX7_liveThrough wsX7_liveThrough) := goodIn_app (goodIn_of _ (by decide +kernel)) ggX8_passHour_X7_liveThrough
set_option maxRecDepth 20000 in
theorem ggX8_passHours_X8_passHour : GoodIn wsX8_passHours wsX8_passHour := goodIn_r _ [10, 11, 5, 12, 13, 14, 15, 16, 17, 18, 19, 3, 20, 21, 22, 23, 24, 25, 26, 27, 28, 29, 30, 31, 32, 33, 34] (by decide +kernel) (by decide +kernel)
set_option maxRecDepth 20000 in
theorem gX8_passHours_X8_passHour : GoodIn wsX8_passHours (wsV RX8 84 RX8 yX8_passHour wsX8_passHour) := goodIn_app (goodIn_of _ (by decide +kernel)) ggX8_passHours_X8_passHour
set_option maxRecDepth 20000 in
theorem ggX9_init_X8_init : GoodIn wsX9_init wsX8_init := goodIn_r _ [28, 29, 2, 3, 30, 31, 32, 33, 34, 35, 36, 37, 38, 39, 40, 87, 88, 89, 124, 125, 126, 127, 128, 129, 130, 131] (by decide +kernel) (by decide +kernel)
set_option maxRecDepth 20000 in
theorem gX9_init_X8_init : GoodIn wsX9_init (wsX8_init) := ggX9_init_X8_init
set_option maxRecDepth 20000 in
theorem ggX9_init_X2_init : GoodIn wsX9_init wsX2_init := goodIn_r _ [43, 44, 2, 3, 45, 46, 47, 48, 49, 50, 51, 52, 53, 54, 55, 56, 57, 58, 101, 102, 103, 104, 105, 106, 132, 133, 134, 135, 136, 137, 138] (by decide +kernel) (by decide +kernel)
set_option maxRecDepth 20000 in
theorem gX9_init_X2_init : GoodIn wsX9_init (wsX2_init) := ggX9_init_X2_init
set_option maxRecDepth 20000 in
theorem ggX9_init_X4_init : GoodIn wsX9_init wsX4_init := goodIn_r _ [61, 62, 2, 3, 63, 64, 107, 108, 109, 110, 111, 112, 113, 114] (by decide +kernel) (by decide +kernel)
set_option maxRecDepth 20000 in
theorem gX9_init_X4_init : GoodIn wsX9_init (wsX4_init) := ggX9_init_X4_init
set_option maxRecDepth 20000 in
theorem ggX9_init_X1_init : GoodIn wsX9_init wsX1_init := goodIn_r _ [67, 68, 2, 3, 69, 70, 71, 72, 73, 74, 54, 75, 76, 77, 78, 32, 33, 79, 80, 81, 82, 83, 84, 85, 86, 35, 36, 37, 38, 39, 40, 115, 116, 117, 118, 119, 120, 121, 122, 123, 139, 140, 141, 142, 143, 144, 145, 146, 124, 125, 126, 127, 128, 129, 130, 131] (by decide +kernel) (by decide +kernel)
set_option maxRecDepth 20000 in
theorem gX9_init_X1_init : GoodIn wsX9_init (wsX1_init) := ggX9_init_X1_init
set_option maxRecDepth 20000 in
theorem ggX9_charge_X8_vatAt : GoodIn wsX9_charge wsX8_vatAt := goodIn_ca (goodIn_r _ [9, 10, 11, 12, 32, 33, 34] (by decide +kernel) (by decide +kernel)) (goodIn_sub (fun _ h => List.mem_cons_of_mem _ (List.mem_append_right _ h)) (by decide +kernel))
set_option maxRecDepth 20000 in
theorem gX9_charge_X8_vatAt : GoodIn wsX9_charge (wsV RX9 57 RX8 yX8_vatAt wsX8_vatAt) := goodIn_app (goodIn_of _ (by decide +kernel)) ggX9_charge_X8_vatAt
set_option maxRecDepth 20000 in
theorem ggX9_feed_X8_vatAt : GoodIn wsX9_feed wsX8_vatAt := goodIn_ca (goodIn_r _ [7, 8, 9, 10, 43, 44, 45] (by decide +kernel) (by decide +kernel)) (goodIn_sub (fun _ h => List.mem_cons_of_mem _ (List.mem_append_left _ (List.mem_append_right _ h))) (by decide +kernel))
set_option maxRecDepth 20000 in
theorem gX9_feed_X8_vatAt : GoodIn wsX9_feed (wsV RX9 57 RX8 yX8_vatAt wsX8_vatAt) := goodIn_app (goodIn_of _ (by decide +kernel)) ggX9_feed_X8_vatAt
set_option maxRecDepth 20000 in
theorem ggX9_feed_X9_demand : GoodIn wsX9_feed wsX9_demand := goodIn_ca (goodIn_r _ [14, 15, 16] (by decide +kernel) (by decide +kernel)) (goodIn_sub (fun _ h => List.mem_cons_of_mem _ (List.mem_append_right _ h)) (by decide +kernel))
set_option maxRecDepth 20000 in
theorem gX9_feed_X9_demand : GoodIn wsX9_feed (va_wsS RX9 71 yX9_demand wsX9_demand) := goodIn_app (goodIn_of _ (by decide +kernel)) ggX9_feed_X9_demand
set_option maxRecDepth 20000 in
theorem ggX9_feed_X7_takeFood : GoodIn wsX9_feed wsX7_takeFood := goodIn_r _ [21, 22, 23, 35, 36, 37, 38, 39, 40, 41, 42] (by decide +kernel) (by decide +kernel)
set_option maxRecDepth 20000 in
theorem gX9_feed_X7_takeFood : GoodIn wsX9_feed (wsV RX9 75 RX7 yX7_takeFood wsX7_takeFood) := goodIn_app (goodIn_of _ (by decide +kernel)) ggX9_feed_X7_takeFood
set_option maxRecDepth 20000 in
theorem ggX9_lime_X8_vatAt : GoodIn wsX9_lime wsX8_vatAt := goodIn_ca (goodIn_r _ [7, 8, 9, 10, 38, 39, 40] (by decide +kernel) (by decide +kernel)) (goodIn_sub (fun _ h => List.mem_cons_of_mem _ (List.mem_append_right _ h)) (by decide +kernel))
set_option maxRecDepth 20000 in
theorem gX9_lime_X8_vatAt : GoodIn wsX9_lime (wsV RX9 57 RX8 yX8_vatAt wsX8_vatAt) := goodIn_app (goodIn_of _ (by decide +kernel)) ggX9_lime_X8_vatAt
set_option maxRecDepth 20000 in
theorem ggX9_lime_X7_takeLime : GoodIn wsX9_lime wsX7_takeLime := goodIn_r _ [15, 16, 17, 18, 30, 31, 32, 33, 34, 35, 36, 37] (by decide +kernel) (by decide +kernel)
set_option maxRecDepth 20000 in
theorem gX9_lime_X7_takeLime : GoodIn wsX9_lime (wsV RX9 82 RX7 yX7_takeLime wsX7_takeLime) := goodIn_app (goodIn_of _ (by decide +kernel)) ggX9_lime_X7_takeLime
set_option maxRecDepth 20000 in
theorem ggX9_hours_X9_demand : GoodIn wsX9_hours wsX9_demand := goodIn_ca (goodIn_r _ [6, 7, 8] (by decide +kernel) (by decide +kernel)) (goodIn_sub (fun _ h => List.mem_cons_of_mem _ (List.mem_append_right _ h)) (by decide +kernel))
set_option maxRecDepth 20000 in
theorem gX9_hours_X9_demand : GoodIn wsX9_hours (va_wsS RX9 71 yX9_demand wsX9_demand) := goodIn_app (goodIn_of _ (by decide +kernel)) ggX9_hours_X9_demand
set_option maxRecDepth 20000 in
theorem ggX9_hours_X8_passHours : GoodIn wsX9_hours wsX8_passHours := goodIn_r _ [13, 14, 15, 16, 17, 18, 19, 20, 21, 12, 22, 23, 24, 25, 26, 27, 28, 29, 30, 31, 32, 33, 34, 35, 47, 48, 49, 50, 51, 52, 53, 54, 55, 56, 57] (by decide +kernel) (by decide +kernel)
set_option maxRecDepth 20000 in
theorem gX9_hours_X8_passHours : GoodIn wsX9_hours (wsV RX9 85 RX8 yX8_passHours wsX8_passHours) := goodIn_app (goodIn_of _ (by decide +kernel)) ggX9_hours_X8_passHours
set_option maxRecDepth 20000 in
theorem ggX9_cloth_X0_init : GoodIn wsX9_cloth wsX0_init := goodIn_r _ [8, 9, 10, 11, 12, 13, 14, 26, 27, 28, 29, 30, 31, 32, 33] (by decide +kernel) (by decide +kernel)
set_option maxRecDepth 20000 in
theorem gX9_cloth_X0_init : GoodIn wsX9_cloth (wsX0_init) := ggX9_cloth_X0_init
set_option maxRecDepth 20000 in
theorem ggX9_dip_X9_clothAt : GoodIn wsX9_dip wsX9_clothAt := goodIn_ca (goodIn_r _ [8, 9, 10, 11, 12, 64, 65, 66, 67, 68, 69, 70, 71, 72, 73, 74] (by decide +kernel) (by decide +kernel)) (goodIn_sub (fun _ h => List.mem_cons_of_mem _ (List.mem_append_left _ (List.mem_append_left _ (List.mem_append_right _ h)))) (by decide +kernel))
set_option maxRecDepth 20000 in
theorem gX9_dip_X9_clothAt : GoodIn wsX9_dip (wsV RX9 98 RX9 yX9_clothAt wsX9_clothAt) := goodIn_app (goodIn_of _ (by decide +kernel)) ggX9_dip_X9_clothAt
set_option maxRecDepth 20000 in
theorem ggX9_dip_X8_vatAt : GoodIn wsX9_dip wsX8_vatAt := goodIn_ca (goodIn_r _ [17, 18, 10, 19, 91, 92, 93] (by decide +kernel) (by decide +kernel)) (goodIn_sub (fun _ h => List.mem_cons_of_mem _ (List.mem_append_left _ (List.mem_append_right _ h))) (by decide +kernel))
set_option maxRecDepth 20000 in
theorem gX9_dip_X8_vatAt : GoodIn wsX9_dip (wsV RX9 57 RX8 yX8_vatAt wsX8_vatAt) := goodIn_app (goodIn_of _ (by decide +kernel)) ggX9_dip_X8_vatAt
set_option maxRecDepth 20000 in
theorem ggX9_dip_X9_demand : GoodIn wsX9_dip wsX9_demand := goodIn_ca (goodIn_r _ [22, 23, 24] (by decide +kernel) (by decide +kernel)) (goodIn_sub (fun _ h => List.mem_cons_of_mem _ (List.mem_append_right _ h)) (by decide +kernel))
set_option maxRecDepth 20000 in
theorem gX9_dip_X9_demand : GoodIn wsX9_dip (va_wsS RX9 71 yX9_demand wsX9_demand) := goodIn_app (goodIn_of _ (by decide +kernel)) ggX9_dip_X9_demand
set_option maxRecDepth 20000 in
theorem ggX9_dip_X7_givesTo : GoodIn wsX9_dip wsX7_givesTo := goodIn_r _ [29, 30, 31, 32, 33, 34, 35, 36, 37, 38, 39, 40, 41, 42, 43, 44, 83, 84, 85, 86, 87, 88, 89, 90, 75, 76, 77, 78, 79, 80, 81, 82] (by decide +kernel) (by decide +kernel)
set_option maxRecDepth 20000 in
theorem gX9_dip_X7_givesTo : GoodIn wsX9_dip (wsV RX9 106 RX7 yX7_givesTo wsX7_givesTo) := goodIn_app (goodIn_of _ (by decide +kernel)) ggX9_dip_X7_givesTo
set_option maxRecDepth 20000 in
theorem ggX9_dip_X8_dipInto : GoodIn wsX9_dip wsX8_dipInto := goodIn_r _ [48, 49, 50, 51, 52, 53, 54, 55, 56, 57, 58, 59, 28, 60, 32, 61, 62, 31, 63, 91, 92, 93, 75, 76, 77, 78, 79, 80, 81, 82, 83, 84, 85, 86, 87, 88, 89, 90] (by decide +kernel) (by decide +kernel)
set_option maxRecDepth 20000 in
theorem gX9_dip_X8_dipInto : GoodIn wsX9_dip (wsV RX9 110 RX8 yX8_dipInto wsX8_dipInto) := goodIn_app (goodIn_of _ (by decide +kernel)) ggX9_dip_X8_dipInto
set_option maxRecDepth 20000 in
theorem ggX9_treat_X9_clothAt : GoodIn wsX9_treat wsX9_clothAt := goodIn_ca (goodIn_r _ [7, 8, 9, 10, 11, 54, 55, 56, 57, 58, 59, 60, 61, 62, 63, 64] (by decide +kernel) (by decide +kernel)) (goodIn_sub (fun _ h => List.mem_cons_of_mem _ (List.mem_append_left _ (List.mem_append_right _ h))) (by decide +kernel))
set_option maxRecDepth 20000 in
theorem gX9_treat_X9_clothAt : GoodIn wsX9_treat (wsV RX9 98 RX9 yX9_clothAt wsX9_clothAt) := goodIn_app (goodIn_of _ (by decide +kernel)) ggX9_treat_X9_clothAt
set_option maxRecDepth 20000 in
theorem ggX9_treat_X9_demand : GoodIn wsX9_treat wsX9_demand := goodIn_ca (goodIn_r _ [14, 15, 16] (by decide +kernel) (by decide +kernel)) (goodIn_sub (fun _ h => List.mem_cons_of_mem _ (List.mem_append_right _ h)) (by decide +kernel))
set_option maxRecDepth 20000 in
theorem gX9_treat_X9_demand : GoodIn wsX9_treat (va_wsS RX9 71 yX9_demand wsX9_demand) := goodIn_app (goodIn_of _ (by decide +kernel)) ggX9_treat_X9_demand
set_option maxRecDepth 20000 in
theorem ggX9_treat_X8_airOut : GoodIn wsX9_treat wsX8_airOut := goodIn_r _ [21, 22, 23, 24, 25, 26, 27, 28, 29, 65, 66, 67, 46, 47, 48, 49, 50, 51, 52, 53] (by decide +kernel) (by decide +kernel)
set_option maxRecDepth 20000 in
theorem gX9_treat_X8_airOut : GoodIn wsX9_treat (wsV RX9 114 RX8 yX8_airOut wsX8_airOut) := goodIn_app (goodIn_of _ (by decide +kernel)) ggX9_treat_X8_airOut
set_option maxRecDepth 20000 in
theorem ggX9_treat_X8_washOut : GoodIn wsX9_treat wsX8_washOut := goodIn_r _ [33, 22, 34, 35, 36, 26, 37, 29, 28, 65, 66, 67, 46, 47, 48, 49, 50, 51, 52, 53] (by decide +kernel) (by decide +kernel)
set_option maxRecDepth 20000 in
theorem gX9_treat_X8_washOut : GoodIn wsX9_treat (wsV RX9 118 RX8 yX8_washOut wsX8_washOut) := goodIn_app (goodIn_of _ (by decide +kernel)) ggX9_treat_X8_washOut
set_option maxRecDepth 20000 in
theorem ggX9_treat_X8_dryOut : GoodIn wsX9_treat wsX8_dryOut := goodIn_r _ [41, 42, 43, 44, 45, 18, 19, 20, 21, 22, 23, 24, 25, 26, 27, 28, 29, 46, 47, 48, 49, 50, 51, 52, 53, 65, 66, 67] (by decide +kernel) (by decide +kernel)
set_option maxRecDepth 20000 in
theorem gX9_treat_X8_dryOut : GoodIn wsX9_treat (wsV RX9 121 RX8 yX8_dryOut wsX8_dryOut) := goodIn_app (goodIn_of _ (by decide +kernel)) ggX9_treat_X8_dryOut
set_option maxRecDepth 20000 in
theorem ggX9_put_X9_append : GoodIn wsX9_put wsX9_append := goodIn_r _ [7, 1, 2, 8, 9, 10, 11, 12, 13, 14, 15, 16, 17, 18] (by decide +kernel) (by decide +kernel)
set_option maxRecDepth 20000 in
theorem gX9_put_X9_append : GoodIn wsX9_put (wsV RX9 127 RX9 yX9_append wsX9_append) := goodIn_app (goodIn_of _ (by decide +kernel)) ggX9_put_X9_append
set_option maxRecDepth 20000 in
theorem ggX9_recipe_X9_demand : GoodIn wsX9_recipe wsX9_demand := goodIn_ca (goodIn_r _ [13, 14, 15] (by decide +kernel) (by decide +kernel)) (goodIn_sub (fun _ h => List.mem_cons_of_mem _ (List.mem_append_right _ h)) (by decide +kernel))
set_option maxRecDepth 20000 in
theorem gX9_recipe_X9_demand : GoodIn wsX9_recipe (va_wsS RX9 71 yX9_demand wsX9_demand) := goodIn_app (goodIn_of _ (by decide +kernel)) ggX9_recipe_X9_demand
set_option maxRecDepth 20000 in
theorem ggX9_recipe_X2_readRecipe : GoodIn wsX9_recipe wsX2_readRecipe := goodIn_r _ [20, 21, 22, 23, 24, 25, 26, 27, 28, 29, 30, 31, 32, 33, 34, 35, 36, 37, 38, 39, 40, 41, 42, 43, 44, 45, 46, 47, 48, 49, 50, 51, 52, 53, 54, 55, 56, 57, 58, 59, 60, 61, 62, 63, 64, 65, 66, 67, 68, 69, 70, 71, 72, 73, 74, 75, 76, 77, 78, 79, 80, 81, 82, 83, 84, 85, 86, 87, 88, 89, 90, 91, 92, 93, 94, 95, 96, 97, 98, 99, 100, 101, 102, 103, 104, 105, 106, 107, 108, 109, 110, 111, 112, 113, 114, 115, 116, 117, 118, 119, 120, 121, 122, 123, 124, 125, 126, 127, 128, 129, 130, 131, 132, 133, 134, 135, 19, 136, 137, 138, 139, 140, 141, 142, 143, 144, 145, 146, 147, 148, 149, 150, 151, 152, 153, 154, 155, 156, 157, 158, 159, 160, 161, 162, 163, 164, 165, 166, 167, 168, 169, 170, 171, 172, 173, 174, 175, 176, 177, 178, 179, 180, 181, 182, 183, 184, 185, 186, 187, 188, 189, 190, 191, 192, 193, 194, 195, 196, 213, 214, 215, 216, 217, 218, 220, 221, 222, 223, 224, 225, 226, 227, 228, 229, 230, 231, 232, 233, 234] (by decide +kernel) (by decide +kernel)
set_option maxRecDepth 20000 in
theorem gX9_recipe_X2_readRecipe : GoodIn wsX9_recipe (wsV RX9 130 RX2 yX2_readRecipe wsX2_readRecipe) := goodIn_app (goodIn_of _ (by decide +kernel)) ggX9_recipe_X2_readRecipe
set_option maxRecDepth 20000 in
theorem ggX9_recipe_X3_init : GoodIn wsX9_recipe wsX3_init := goodIn_r _ [199, 200, 187, 188, 201, 219] (by decide +kernel) (by decide +kernel)
set_option maxRecDepth 20000 in
theorem gX9_recipe_X3_init : GoodIn wsX9_recipe (wsX3_init) := ggX9_recipe_X3_init
set_option maxRecDepth 20000 in
theorem ggX9_run_X9_clothAt : GoodIn wsX9_run wsX9_clothAt := goodIn_ca (goodIn_r _ [9, 10, 11, 12, 13, 184, 185, 186, 187, 188, 189, 190, 191, 192, 193, 194] (by decide +kernel) (by decide +kernel)) (goodIn_sub (fun _ h => List.mem_cons_of_mem _ (List.mem_append_left _ (List.mem_append_right _ h))) (by decide +kernel))
set_option maxRecDepth 20000 in
theorem gX9_run_X9_clothAt : GoodIn wsX9_run (wsV RX9 98 RX9 yX9_clothAt wsX9_clothAt) := goodIn_app (goodIn_of _ (by decide +kernel)) ggX9_run_X9_clothAt
set_option maxRecDepth 20000 in
theorem ggX9_run_X4_follow : GoodIn wsX9_run wsX4_follow := goodIn_ca (goodIn_r _ [18, 19, 20, 21, 22, 23, 24, 25, 26, 27, 28, 29, 30, 31, 32, 17, 33, 34, 35, 36, 37, 38, 39, 40, 41, 42, 43, 44, 45, 46, 47, 48, 49, 50, 51, 52, 11, 53, 54, 55, 56, 57, 58, 59, 60, 61, 62, 63, 64, 65, 66, 67, 68, 69, 70, 71, 72, 73, 74, 75, 76, 77, 78, 79, 80, 81, 82, 83, 84, 85, 86, 87, 88, 89, 90, 91, 92, 93, 94, 95, 96, 97, 98, 99, 100, 101, 102, 103, 104, 105, 106, 107, 108, 109, 110, 111, 112, 113, 114, 115, 116, 117, 118, 119, 120, 121, 122, 123, 124, 125, 126, 127, 128, 129, 130, 131, 132, 133, 134, 135, 136, 137, 138, 139, 140, 141, 142, 143, 144, 145, 146, 147, 148, 149, 150, 151, 152, 153, 154, 155, 156, 157, 158, 159, 160, 161, 162, 163, 164, 165, 166, 167, 168, 169, 170, 171, 172, 173, 174, 175, 176, 177, 178, 179, 180, 181, 182, 183, 204, 205, 206, 207, 208, 209, 210, 211, 212, 213, 214, 215, 216, 217, 218, 219, 195, 196, 197, 198, 199, 200, 201, 202, 220, 221, 222, 223, 224, 225, 226, 227, 228, 229, 230] (by decide +kernel) (by decide +kernel)) (goodIn_sub (fun _ h => List.mem_cons_of_mem _ (List.mem_append_right _ h)) (by decide +kernel))
set_option maxRecDepth 20000 in
theorem gX9_run_X4_follow : GoodIn wsX9_run (wsV RX9 160 RX4 yX4_follow wsX4_follow) := goodIn_app (goodIn_of _ (by decide +kernel)) ggX9_run_X4_follow
set_option maxRecDepth 20000 in
theorem ggX9_plan_X9_clothAt : GoodIn wsX9_plan wsX9_clothAt := goodIn_ca (goodIn_r _ [7, 8, 9, 10, 11, 104, 105, 106, 107, 108, 109, 110, 111, 112, 113, 114] (by decide +kernel) (by decide +kernel)) (goodIn_sub (fun _ h => List.mem_cons_of_mem _ (List.mem_append_left _ (List.mem_append_left _ (List.mem_append_right _ h)))) (by decide +kernel))
set_option maxRecDepth 20000 in
theorem gX9_plan_X9_clothAt : GoodIn wsX9_plan (wsV RX9 98 RX9 yX9_clothAt wsX9_clothAt) := goodIn_app (goodIn_of _ (by decide +kernel)) ggX9_plan_X9_clothAt
set_option maxRecDepth 20000 in
theorem ggX9_plan_X9_demand : GoodIn wsX9_plan wsX9_demand := goodIn_ca (goodIn_r _ [14, 15, 16] (by decide +kernel) (by decide +kernel)) (goodIn_sub (fun _ h => List.mem_cons_of_mem _ (List.mem_append_left _ (List.mem_append_right _ h))) (by decide +kernel))
set_option maxRecDepth 20000 in
theorem gX9_plan_X9_demand : GoodIn wsX9_plan (va_wsS RX9 71 yX9_demand wsX9_demand) := goodIn_app (goodIn_of _ (by decide +kernel)) ggX9_plan_X9_demand
set_option maxRecDepth 20000 in
theorem ggX9_plan_X1_fewest : GoodIn wsX9_plan wsX1_fewest := goodIn_ca (goodIn_r _ [21, 22, 23, 24, 25, 26, 27, 28, 29, 30, 31, 32, 33, 9, 34, 35, 36, 37, 38, 39, 40, 41, 42, 43, 44, 45, 46, 47, 48, 49, 50, 51, 52, 53, 54, 20, 55, 56, 57, 58, 59, 60, 61, 62, 63, 64, 65, 66, 67, 68, 69, 70, 71, 72, 73, 74, 75, 76, 77, 78, 79, 80, 81, 82, 83, 84, 85, 86, 87, 88, 89, 90, 91, 92, 93, 94, 95, 115, 116, 117, 118, 119, 120, 121, 122, 123, 124, 125, 126, 127, 128, 129, 130, 131, 132, 133, 134, 96, 97, 98, 99, 100, 101, 102, 103] (by decide +kernel) (by decide +kernel)) (goodIn_sub (fun _ h => List.mem_cons_of_mem _ (List.mem_append_right _ h)) (by decide +kernel))
set_option maxRecDepth 20000 in
theorem gX9_plan_X1_fewest : GoodIn wsX9_plan (wsV RX9 182 RX1 yX1_fewest wsX1_fewest) := goodIn_app (goodIn_of _ (by decide +kernel)) ggX9_plan_X1_fewest
set_option maxRecDepth 20000 in
theorem ggX9_vat_X8_vatAt : GoodIn wsX9_vat wsX8_vatAt := goodIn_ca (goodIn_r _ [14, 15, 2, 16, 36, 37, 38] (by decide +kernel) (by decide +kernel)) (goodIn_sub (fun _ h => List.mem_cons_of_mem _ (List.mem_append_right _ h)) (by decide +kernel))
set_option maxRecDepth 20000 in
theorem gX9_vat_X8_vatAt : GoodIn wsX9_vat (wsV RX9 57 RX8 yX8_vatAt wsX8_vatAt) := goodIn_app (goodIn_of _ (by decide +kernel)) ggX9_vat_X8_vatAt
set_option maxRecDepth 20000 in
theorem ggX9_about_X9_clothAt : GoodIn wsX9_about wsX9_clothAt := goodIn_ca (goodIn_r _ [14, 1, 2, 15, 16, 32, 33, 34, 35, 36, 37, 38, 39, 40, 41, 42] (by decide +kernel) (by decide +kernel)) (goodIn_sub (fun _ h => List.mem_cons_of_mem _ (List.mem_append_right _ h)) (by decide +kernel))
set_option maxRecDepth 20000 in
theorem gX9_about_X9_clothAt : GoodIn wsX9_about (wsV RX9 98 RX9 yX9_clothAt wsX9_clothAt) := goodIn_app (goodIn_of _ (by decide +kernel)) ggX9_about_X9_clothAt
set_option maxRecDepth 20000 in
theorem ggX9_about_X0_shade : GoodIn wsX9_about wsX0_shade := goodIn_r _ [21, 22, 23, 24, 25, 26, 27, 28, 29, 30, 31] (by decide +kernel) (by decide +kernel)
set_option maxRecDepth 20000 in
theorem gX9_about_X0_shade : GoodIn wsX9_about (wsV RX9 222 RX0 yX0_shade wsX0_shade) := goodIn_app (goodIn_of _ (by decide +kernel)) ggX9_about_X0_shade
set_option maxRecDepth 20000 in
theorem ggX9_faded_X9_clothAt : GoodIn wsX9_faded wsX9_clothAt := goodIn_ca (goodIn_r _ [6, 7, 8, 9, 10, 41, 42, 43, 44, 45, 46, 47, 48, 49, 50, 51] (by decide +kernel) (by decide +kernel)) (goodIn_sub (fun _ h => List.mem_cons_of_mem _ (List.mem_append_left _ (List.mem_append_right _ h))) (by decide +kernel))
set_option maxRecDepth 20000 in
theorem gX9_faded_X9_clothAt : GoodIn wsX9_faded (wsV RX9 98 RX9 yX9_clothAt wsX9_clothAt) := goodIn_app (goodIn_of _ (by decide +kernel)) ggX9_faded_X9_clothAt
set_option maxRecDepth 20000 in
theorem ggX9_faded_X9_demand : GoodIn wsX9_faded wsX9_demand := goodIn_ca (goodIn_r _ [13, 14, 15] (by decide +kernel) (by decide +kernel)) (goodIn_sub (fun _ h => List.mem_cons_of_mem _ (List.mem_append_right _ h)) (by decide +kernel))
set_option maxRecDepth 20000 in
theorem gX9_faded_X9_demand : GoodIn wsX9_faded (va_wsS RX9 71 yX9_demand wsX9_demand) := goodIn_app (goodIn_of _ (by decide +kernel)) ggX9_faded_X9_demand
set_option maxRecDepth 20000 in
theorem ggX9_faded_X0_hasSpan : GoodIn wsX9_faded wsX0_hasSpan := goodIn_r _ [20, 21, 22, 52, 53, 54, 55, 56, 57, 58, 59] (by decide +kernel) (by decide +kernel)
set_option maxRecDepth 20000 in
theorem gX9_faded_X0_hasSpan : GoodIn wsX9_faded (wsV RX9 236 RX0 yX0_hasSpan wsX0_hasSpan) := goodIn_app (goodIn_of _ (by decide +kernel)) ggX9_faded_X0_hasSpan
set_option maxRecDepth 20000 in
theorem ggX9_faded_X0_leastShade : GoodIn wsX9_faded wsX0_leastShade := goodIn_r _ [26, 22, 27, 28, 29, 30, 31, 32, 33, 19, 34, 35, 36, 52, 53, 54, 55, 56, 57, 58, 59] (by decide +kernel) (by decide +kernel)
set_option maxRecDepth 20000 in
theorem gX9_faded_X0_leastShade : GoodIn wsX9_faded (wsV RX9 239 RX0 yX0_leastShade wsX0_leastShade) := goodIn_app (goodIn_of _ (by decide +kernel)) ggX9_faded_X0_leastShade
set_option maxRecDepth 20000 in
theorem ggX9_faded_X0_greatestShade : GoodIn wsX9_faded wsX0_greatestShade := goodIn_r _ [40, 22, 27, 28, 29, 30, 31, 32, 33, 19, 34, 35, 36, 52, 53, 54, 55, 56, 57, 58, 59] (by decide +kernel) (by decide +kernel)
set_option maxRecDepth 20000 in
theorem gX9_faded_X0_greatestShade : GoodIn wsX9_faded (wsV RX9 243 RX0 yX0_greatestShade wsX0_greatestShade) := goodIn_app (goodIn_of _ (by decide +kernel)) ggX9_faded_X0_greatestShade
set_option maxRecDepth 20000 in
theorem ggX9_matching_X9_clothAt : GoodIn wsX9_matching wsX9_clothAt := goodIn_ca (goodIn_r _ [8, 9, 10, 2, 3, 45, 46, 47, 48, 49, 50, 51, 52, 53, 54, 55] (by decide +kernel) (by decide +kernel)) (goodIn_sub (fun _ h => List.mem_cons_of_mem _ (List.mem_append_left _ (List.mem_append_right _ h))) (by decide +kernel))
set_option maxRecDepth 20000 in
theorem gX9_matching_X9_clothAt : GoodIn wsX9_matching (wsV RX9 98 RX9 yX9_clothAt wsX9_clothAt) := goodIn_app (goodIn_of _ (by decide +kernel)) ggX9_matching_X9_clothAt
set_option maxRecDepth 20000 in
theorem ggX9_matching_X9_demand : GoodIn wsX9_matching wsX9_demand := goodIn_ca (goodIn_r _ [13, 14, 15] (by decide +kernel) (by decide +kernel)) (goodIn_sub (fun _ h => List.mem_cons_of_mem _ (List.mem_append_right _ h)) (by decide +kernel))
set_option maxRecDepth 20000 in
theorem gX9_matching_X9_demand : GoodIn wsX9_matching (va_wsS RX9 71 yX9_demand wsX9_demand) := goodIn_app (goodIn_of _ (by decide +kernel)) ggX9_matching_X9_demand
set_option maxRecDepth 20000 in
theorem ggX9_matching_X0_spanMeets : GoodIn wsX9_matching wsX0_spanMeets := goodIn_r _ [20, 21, 22, 23, 19, 24, 25, 26, 27, 28, 29, 30, 31, 32, 33, 34, 35, 36, 37, 38, 39, 40, 41, 42, 43, 44, 56, 57, 58, 59, 60, 61, 62, 63] (by decide +kernel) (by decide +kernel)
set_option maxRecDepth 20000 in
theorem gX9_matching_X0_spanMeets : GoodIn wsX9_matching (wsV RX9 246 RX0 yX0_spanMeets wsX0_spanMeets) := goodIn_app (goodIn_of _ (by decide +kernel)) ggX9_matching_X0_spanMeets
set_option maxRecDepth 20000 in
theorem ggX10_isVat_X10_right : GoodIn wsX10_isVat wsX10_right := goodIn_r _ [6, 1, 7, 8, 9, 10, 11, 12, 13, 14, 15, 16, 17, 18, 19, 20, 21, 22, 23, 24, 25, 26, 27, 28, 29, 30, 31, 32, 33, 34, 35, 36, 37, 38, 39, 40, 41, 42, 43, 44, 45, 46, 47, 48, 49, 50, 51, 52, 53, 54, 55, 56, 57] (by decide +kernel) (by decide +kernel)
set_option maxRecDepth 20000 in
theorem gX10_isVat_X10_right : GoodIn wsX10_isVat (wsV RX10 108 RX10 yX10_right wsX10_right) := goodIn_app (goodIn_of _ (by decide +kernel)) ggX10_isVat_X10_right
set_option maxRecDepth 20000 in
theorem ggX10_isCloth_X10_right : GoodIn wsX10_isCloth wsX10_right := goodIn_r _ [7, 1, 8, 9, 10, 11, 12, 13, 14, 15, 16, 17, 18, 19, 20, 21, 22, 23, 24, 25, 26, 27, 28, 29, 30, 31, 32, 33, 34, 35, 36, 37, 38, 39, 40, 41, 42, 43, 44, 45, 46, 47, 48, 49, 50, 51, 52, 53, 54, 55, 56, 57, 58] (by decide +kernel) (by decide +kernel)
set_option maxRecDepth 20000 in
theorem gX10_isCloth_X10_right : GoodIn wsX10_isCloth (wsV RX10 108 RX10 yX10_right wsX10_right) := goodIn_app (goodIn_of _ (by decide +kernel)) ggX10_isCloth_X10_right
set_option maxRecDepth 20000 in
theorem ggX10_charge_X10_isVat : GoodIn wsX10_charge wsX10_isVat := goodIn_r _ [8, 9, 10, 11, 12, 7, 13, 14, 15, 16, 17, 18, 19, 20, 21, 22, 23, 24, 25, 26, 27, 28, 29, 30, 31, 32, 33, 34, 35, 36, 37, 38, 39, 40, 41, 42, 43, 44, 45, 46, 47, 48, 49, 50, 51, 52, 53, 54, 55, 56, 57, 58, 59, 60, 61, 62, 63, 64] (by decide +kernel) (by decide +kernel)
set_option maxRecDepth 20000 in
theorem gX10_charge_X10_isVat : GoodIn wsX10_charge (wsV RX10 115 RX10 yX10_isVat wsX10_isVat) := goodIn_app (goodIn_of _ (by decide +kernel)) ggX10_charge_X10_isVat
set_option maxRecDepth 20000 in
theorem ggX10_feed_X10_isVat : GoodIn wsX10_feed wsX10_isVat := goodIn_r _ [6, 7, 8, 9, 10, 5, 11, 17, 18, 19, 20, 21, 22, 23, 24, 25, 26, 27, 28, 29, 30, 31, 32, 33, 34, 35, 36, 37, 38, 39, 40, 41, 42, 43, 44, 45, 46, 47, 48, 49, 50, 51, 52, 53, 54, 55, 56, 57, 58, 59, 60, 61, 62, 63, 64, 65, 66, 67] (by decide +kernel) (by decide +kernel)
set_option maxRecDepth 20000 in
theorem gX10_feed_X10_isVat : GoodIn wsX10_feed (wsV RX10 115 RX10 yX10_isVat wsX10_isVat) := goodIn_app (goodIn_of _ (by decide +kernel)) ggX10_feed_X10_isVat
set_option maxRecDepth 20000 in
theorem ggX10_feed_X10_right : GoodIn wsX10_feed wsX10_right := goodIn_r _ [11, 7, 17, 18, 19, 20, 21, 22, 23, 24, 25, 26, 27, 28, 29, 30, 31, 32, 33, 34, 35, 36, 37, 38, 39, 40, 41, 42, 43, 44, 45, 46, 47, 48, 49, 50, 51, 52, 53, 54, 55, 56, 57, 58, 59, 60, 61, 62, 63, 64, 65, 66, 67] (by decide +kernel) (by decide +kernel)
set_option maxRecDepth 20000 in
theorem gX10_feed_X10_right : GoodIn wsX10_feed (wsV RX10 108 RX10 yX10_right wsX10_right) := goodIn_app (goodIn_of _ (by decide +kernel)) ggX10_feed_X10_right
set_option maxRecDepth 20000 in
theorem ggX10_feed_X10_feeds : GoodIn wsX10_feed wsX10_feeds := goodIn_r _ [15, 16, 1, 17, 18, 19, 20, 21, 22, 23, 24, 25, 26, 27, 28, 29, 30, 31, 32, 33, 34, 35, 36, 37, 38, 39, 40, 41, 42, 43, 44, 45, 46, 47, 48, 49, 50, 51, 52, 53, 54, 55, 56, 57, 58, 59, 60, 61, 62, 63, 64, 65, 66, 67] (by decide +kernel) (by decide +kernel)
set_option maxRecDepth 20000 in
theorem gX10_feed_X10_feeds : GoodIn wsX10_feed (wsV RX10 123 RX10 yX10_feeds wsX10_feeds) := goodIn_app (goodIn_of _ (by decide +kernel)) ggX10_feed_X10_feeds
set_option maxRecDepth 20000 in
theorem ggX10_lime_X10_isVat : GoodIn wsX10_lime wsX10_isVat := goodIn_r _ [6, 7, 8, 9, 10, 5, 11, 18, 19, 20, 21, 22, 23, 24, 25, 26, 27, 28, 29, 30, 31, 32, 33, 34, 35, 36, 37, 38, 39, 40, 41, 42, 43, 44, 45, 46, 47, 48, 49, 50, 51, 52, 53, 54, 55, 56, 57, 58, 59, 60, 61, 62, 63, 64, 65, 66, 67, 68] (by decide +kernel) (by decide +kernel)
set_option maxRecDepth 20000 in
theorem gX10_lime_X10_isVat : GoodIn wsX10_lime (wsV RX10 115 RX10 yX10_isVat wsX10_isVat) := goodIn_app (goodIn_of _ (by decide +kernel)) ggX10_lime_X10_isVat
set_option maxRecDepth 20000 in
theorem ggX10_lime_X10_limes : GoodIn wsX10_lime wsX10_limes := goodIn_r _ [15, 1, 16, 17, 18, 19, 20, 21, 22, 23, 24, 25, 26, 27, 28, 29, 30, 31, 32, 33, 34, 35, 36, 37, 38, 39, 40, 41, 42, 43, 44, 45, 46, 47, 48, 49, 50, 51, 52, 53, 54, 55, 56, 57, 58, 59, 60, 61, 62, 63, 64, 65, 66, 67, 68] (by decide +kernel) (by decide +kernel)
set_option maxRecDepth 20000 in
theorem gX10_lime_X10_limes : GoodIn wsX10_lime (wsV RX10 127 RX10 yX10_limes wsX10_limes) := goodIn_app (goodIn_of _ (by decide +kernel)) ggX10_lime_X10_limes
set_option maxRecDepth 20000 in
theorem ggX10_hours_X10_right : GoodIn wsX10_hours wsX10_right := goodIn_r _ [7, 1, 17, 18, 19, 20, 21, 22, 23, 24, 25, 26, 27, 28, 29, 30, 31, 32, 33, 34, 35, 36, 37, 38, 39, 40, 41, 42, 43, 44, 45, 46, 47, 48, 49, 50, 51, 52, 53, 54, 55, 56, 57, 58, 59, 60, 61, 62, 63, 64, 65, 66, 67] (by decide +kernel) (by decide +kernel)
set_option maxRecDepth 20000 in
theorem gX10_hours_X10_right : GoodIn wsX10_hours (wsV RX10 108 RX10 yX10_right wsX10_right) := goodIn_app (goodIn_of _ (by decide +kernel)) ggX10_hours_X10_right
set_option maxRecDepth 20000 in
theorem ggX10_hours_X10_hour : GoodIn wsX10_hours wsX10_hour := goodIn_r _ [11, 2, 12, 13, 14, 15, 16, 17, 18, 19, 20, 21, 22, 23, 24, 25, 26, 27, 28, 29, 30, 31, 32, 33, 34, 35, 36, 37, 38, 39, 40, 41, 42, 43, 44, 45, 46, 47, 48, 49, 50, 51, 52, 53, 54, 55, 56, 57, 58, 59, 60, 61, 62, 63, 64, 65, 66, 67] (by decide +kernel) (by decide +kernel)
set_option maxRecDepth 20000 in
theorem gX10_hours_X10_hour : GoodIn wsX10_hours (wsV RX10 134 RX10 yX10_hour wsX10_hour) := goodIn_app (goodIn_of _ (by decide +kernel)) ggX10_hours_X10_hour
set_option maxRecDepth 20000 in
theorem ggX10_dips_X10_moves : GoodIn wsX10_dips wsX10_moves := goodIn_r _ [15, 1, 16, 4, 2, 17, 18, 19, 20, 21, 22, 23, 24, 25, 26, 27, 28, 29, 30, 31, 32, 33, 34, 35, 36, 37, 38, 39, 40, 41, 42, 43, 44, 45, 46, 47, 48, 49, 50, 51, 52, 53, 54, 55, 56, 57, 58, 59, 60, 61, 62, 63, 64, 65, 66, 67, 68] (by decide +kernel) (by decide +kernel)
set_option maxRecDepth 20000 in
theorem gX10_dips_X10_moves : GoodIn wsX10_dips (wsV RX10 137 RX10 yX10_moves wsX10_moves) := goodIn_app (goodIn_of _ (by decide +kernel)) ggX10_dips_X10_moves
set_option maxRecDepth 20000 in
theorem ggX10_dip_X10_isCloth : GoodIn wsX10_dip wsX10_isCloth := goodIn_r _ [6, 7, 8, 9, 10, 11, 5, 12, 41, 42, 43, 44, 45, 46, 47, 48, 49, 50, 51, 52, 53, 54, 55, 56, 57, 58, 59, 60, 61, 62, 63, 64, 65, 66, 67, 68, 69, 70, 71, 72, 73, 74, 75, 76, 77, 78, 79, 80, 81, 82, 83, 84, 85, 86, 87, 88, 89, 90, 91] (by decide +kernel) (by decide +kernel)
set_option maxRecDepth 20000 in
theorem gX10_dip_X10_isCloth : GoodIn wsX10_dip (wsV RX10 141 RX10 yX10_isCloth wsX10_isCloth) := goodIn_app (goodIn_of _ (by decide +kernel)) ggX10_dip_X10_isCloth
set_option maxRecDepth 20000 in
theorem ggX10_dip_X10_isVat : GoodIn wsX10_dip wsX10_isVat := goodIn_r _ [16, 7, 9, 10, 11, 5, 12, 41, 42, 43, 44, 45, 46, 47, 48, 49, 50, 51, 52, 53, 54, 55, 56, 57, 58, 59, 60, 61, 62, 63, 64, 65, 66, 67, 68, 69, 70, 71, 72, 73, 74, 75, 76, 77, 78, 79, 80, 81, 82, 83, 84, 85, 86, 87, 88, 89, 90, 91] (by decide +kernel) (by decide +kernel)
set_option maxRecDepth 20000 in
theorem gX10_dip_X10_isVat : GoodIn wsX10_dip (wsV RX10 115 RX10 yX10_isVat wsX10_isVat) := goodIn_app (goodIn_of _ (by decide +kernel)) ggX10_dip_X10_isVat
set_option maxRecDepth 20000 in
theorem ggX10_dip_X10_right : GoodIn wsX10_dip wsX10_right := goodIn_r _ [12, 7, 41, 42, 43, 44, 45, 46, 47, 48, 49, 50, 51, 52, 53, 54, 55, 56, 57, 58, 59, 60, 61, 62, 63, 64, 65, 66, 67, 68, 69, 70, 71, 72, 73, 74, 75, 76, 77, 78, 79, 80, 81, 82, 83, 84, 85, 86, 87, 88, 89, 90, 91] (by decide +kernel) (by decide +kernel)
set_option maxRecDepth 20000 in
theorem gX10_dip_X10_right : GoodIn wsX10_dip (wsV RX10 108 RX10 yX10_right wsX10_right) := goodIn_app (goodIn_of _ (by decide +kernel)) ggX10_dip_X10_right
set_option maxRecDepth 20000 in
theorem ggX10_dip_X10_isDry : GoodIn wsX10_dip wsX10_isDry := goodIn_r _ [20, 21, 41, 42, 43, 44, 45, 46, 47, 48, 49, 50, 51, 52, 53, 54, 55, 56, 57, 58, 59, 60, 61, 62, 63, 64, 65, 66, 67, 68, 69, 70, 71, 72, 73, 74, 75, 76, 77, 78, 79, 80, 81, 82, 83, 84, 85, 86, 87, 88, 89, 90, 91] (by decide +kernel) (by decide +kernel)
set_option maxRecDepth 20000 in
theorem gX10_dip_X10_isDry : GoodIn wsX10_dip (wsV RX10 144 RX10 yX10_isDry wsX10_isDry) := goodIn_app (goodIn_of _ (by decide +kernel)) ggX10_dip_X10_isDry
set_option maxRecDepth 20000 in
theorem ggX10_dip_X10_dips : GoodIn wsX10_dip wsX10_dips := goodIn_r _ [25, 26, 27, 28, 1, 29, 30, 31, 32, 33, 34, 35, 36, 37, 5, 38, 39, 40, 41, 42, 43, 44, 45, 46, 47, 48, 49, 50, 51, 52, 53, 54, 55, 56, 57, 58, 59, 60, 61, 62, 63, 64, 65, 66, 67, 68, 69, 70, 71, 72, 73, 74, 75, 76, 77, 78, 79, 80, 81, 82, 83, 84, 85, 86, 87, 88, 89, 90, 91] (by decide +kernel) (by decide +kernel)
set_option maxRecDepth 20000 in
theorem gX10_dip_X10_dips : GoodIn wsX10_dip (wsV RX10 147 RX10 yX10_dips wsX10_dips) := goodIn_app (goodIn_of _ (by decide +kernel)) ggX10_dip_X10_dips
set_option maxRecDepth 20000 in
theorem ggX10_treat_X10_isCloth : GoodIn wsX10_treat wsX10_isCloth := goodIn_r _ [7, 8, 9, 10, 11, 12, 6, 13, 29, 30, 31, 32, 33, 34, 35, 36, 37, 38, 39, 40, 41, 42, 43, 44, 45, 46, 47, 48, 49, 50, 51, 52, 53, 54, 55, 56, 57, 58, 59, 60, 61, 62, 63, 64, 65, 66, 67, 68, 69, 70, 71, 72, 73, 74, 75, 76, 77, 78, 79] (by decide +kernel) (by decide +kernel)
set_option maxRecDepth 20000 in
theorem gX10_treat_X10_isCloth : GoodIn wsX10_treat (wsV RX10 141 RX10 yX10_isCloth wsX10_isCloth) := goodIn_app (goodIn_of _ (by decide +kernel)) ggX10_treat_X10_isCloth
set_option maxRecDepth 20000 in
theorem ggX10_treat_X10_right : GoodIn wsX10_treat wsX10_right := goodIn_r _ [13, 8, 29, 30, 31, 32, 33, 34, 35, 36, 37, 38, 39, 40, 41, 42, 43, 44, 45, 46, 47, 48, 49, 50, 51, 52, 53, 54, 55, 56, 57, 58, 59, 60, 61, 62, 63, 64, 65, 66, 67, 68, 69, 70, 71, 72, 73, 74, 75, 76, 77, 78, 79] (by decide +kernel) (by decide +kernel)
set_option maxRecDepth 20000 in
theorem gX10_treat_X10_right : GoodIn wsX10_treat (wsV RX10 108 RX10 yX10_right wsX10_right) := goodIn_app (goodIn_of _ (by decide +kernel)) ggX10_treat_X10_right
set_option maxRecDepth 20000 in
theorem ggX10_treat_X10_isDry : GoodIn wsX10_treat wsX10_isDry := goodIn_r _ [17, 1, 29, 30, 31, 32, 33, 34, 35, 36, 37, 38, 39, 40, 41, 42, 43, 44, 45, 46, 47, 48, 49, 50, 51, 52, 53, 54, 55, 56, 57, 58, 59, 60, 61, 62, 63, 64, 65, 66, 67, 68, 69, 70, 71, 72, 73, 74, 75, 76, 77, 78, 79] (by decide +kernel) (by decide +kernel)
set_option maxRecDepth 20000 in
theorem gX10_treat_X10_isDry : GoodIn wsX10_treat (wsV RX10 144 RX10 yX10_isDry wsX10_isDry) := goodIn_app (goodIn_of _ (by decide +kernel)) ggX10_treat_X10_isDry
set_option maxRecDepth 20000 in
theorem ggX10_treat_X10_washes : GoodIn wsX10_treat wsX10_washes := goodIn_r _ [21, 22, 23, 24, 29, 30, 31, 32, 33, 34, 35, 36, 37, 38, 39, 40, 41, 42, 43, 44, 45, 46, 47, 48, 49, 50, 51, 52, 53, 54, 55, 56, 57, 58, 59, 60, 61, 62, 63, 64, 65, 66, 67, 68, 69, 70, 71, 72, 73, 74, 75, 76, 77, 78, 79] (by decide +kernel) (by decide +kernel)
set_option maxRecDepth 20000 in
theorem gX10_treat_X10_washes : GoodIn wsX10_treat (wsV RX10 152 RX10 yX10_washes wsX10_washes) := goodIn_app (goodIn_of _ (by decide +kernel)) ggX10_treat_X10_washes
set_option maxRecDepth 20000 in
theorem ggX10_treat_X10_airs : GoodIn wsX10_treat wsX10_airs := goodIn_r _ [28, 22, 23, 24, 29, 30, 31, 32, 33, 34, 35, 36, 37, 38, 39, 40, 41, 42, 43, 44, 45, 46, 47, 48, 49, 50, 51, 52, 53, 54, 55, 56, 57, 58, 59, 60, 61, 62, 63, 64, 65, 66, 67, 68, 69, 70, 71, 72, 73, 74, 75, 76, 77, 78, 79] (by decide +kernel) (by decide +kernel)
set_option maxRecDepth 20000 in
theorem gX10_treat_X10_airs : GoodIn wsX10_treat (wsV RX10 156 RX10 yX10_airs wsX10_airs) := goodIn_app (goodIn_of _ (by decide +kernel)) ggX10_treat_X10_airs
set_option maxRecDepth 20000 in
theorem ggX10_put_X10_lays : GoodIn wsX10_put wsX10_lays := goodIn_r _ [7, 8, 2, 9, 10, 11, 12, 13, 14, 15, 16, 17, 18, 19, 20, 21, 22, 23, 24, 25, 26, 27, 28, 29, 30, 31, 32, 33, 34, 35, 36, 37, 38, 39, 40, 41, 42, 43, 44, 45, 46, 47, 48, 49, 50, 51, 52, 53, 54, 55, 56, 57, 58, 59] (by decide +kernel) (by decide +kernel)
set_option maxRecDepth 20000 in
theorem gX10_put_X10_lays : GoodIn wsX10_put (wsV RX10 162 RX10 yX10_lays wsX10_lays) := goodIn_app (goodIn_of _ (by decide +kernel)) ggX10_put_X10_lays
set_option maxRecDepth 20000 in
theorem ggX10_word_X10_skip : GoodIn wsX10_word wsX10_skip := goodIn_r _ [8, 1, 2, 3, 64, 65, 66, 67, 68, 69, 70, 71, 72, 73, 74, 75, 76, 77, 78, 79, 80, 81, 82, 83, 84, 85, 86, 87, 88, 89, 90, 91, 92, 93, 94, 95, 96, 97, 98, 99, 100, 101, 102, 103, 104, 105, 106, 107, 108, 109, 110, 111, 112, 113, 114] (by decide +kernel) (by decide +kernel)
set_option maxRecDepth 20000 in
theorem gX10_word_X10_skip : GoodIn wsX10_word (wsV RX10 208 RX10 yX10_skip wsX10_skip) := goodIn_app (goodIn_of _ (by decide +kernel)) ggX10_word_X10_skip
set_option maxRecDepth 20000 in
theorem ggX10_word_X10_isLetter : GoodIn wsX10_word wsX10_isLetter := goodIn_r _ [11] (by decide +kernel) (by decide +kernel)
set_option maxRecDepth 20000 in
theorem gX10_word_X10_isLetter : GoodIn wsX10_word (va_wsS RX10 211 yX10_isLetter wsX10_isLetter) := goodIn_app (goodIn_of _ (by decide +kernel)) ggX10_word_X10_isLetter
set_option maxRecDepth 20000 in
theorem ggX10_word_X10_nameOf : GoodIn wsX10_word wsX10_nameOf := goodIn_r _ [14] (by decide +kernel) (by decide +kernel)
set_option maxRecDepth 20000 in
theorem gX10_word_X10_nameOf : GoodIn wsX10_word (va_wsS RX10 214 yX10_nameOf wsX10_nameOf) := goodIn_app (goodIn_of _ (by decide +kernel)) ggX10_word_X10_nameOf
set_option maxRecDepth 20000 in
theorem ggX10_word_J0_length_8abf5 : GoodIn wsX10_word wsJ0_length_8abf5 := goodIn_r _ [19, 20, 21, 22, 23, 18, 24, 25, 26] (by decide +kernel) (by decide +kernel)
set_option maxRecDepth 20000 in
theorem gX10_word_J0_length_8abf5 : GoodIn wsX10_word (wsV RX10 218 RJ0 yJ0_length_8abf5 wsJ0_length_8abf5) := goodIn_app (goodIn_of _ (by decide +kernel)) ggX10_word_J0_length_8abf5
set_option maxRecDepth 20000 in
theorem ggX10_word_J0_charAt_5068e : GoodIn wsX10_word wsJ0_charAt_5068e := goodIn_r _ [30, 20, 31, 32, 33, 18, 34, 25, 26, 35, 36, 37, 38, 39, 40, 41, 42, 43, 44, 45, 46, 47, 48, 49, 50, 51, 52, 53, 54, 55, 56, 57, 58, 59, 60, 61, 62, 63] (by decide +kernel) (by decide +kernel)
set_option maxRecDepth 20000 in
theorem gX10_word_J0_charAt_5068e : GoodIn wsX10_word (wsV RX10 224 RJ0 yJ0_charAt_5068e wsJ0_charAt_5068e) := goodIn_app (goodIn_of _ (by decide +kernel)) ggX10_word_J0_charAt_5068e
set_option maxRecDepth 20000 in
theorem ggX10_pass_X10_nameOf : GoodIn wsX10_pass wsX10_nameOf := goodIn_r _ [5] (by decide +kernel) (by decide +kernel)
set_option maxRecDepth 20000 in
theorem gX10_pass_X10_nameOf : GoodIn wsX10_pass (va_wsS RX10 214 yX10_nameOf wsX10_nameOf) := goodIn_app (goodIn_of _ (by decide +kernel)) ggX10_pass_X10_nameOf
set_option maxRecDepth 20000 in
theorem ggX10_pass_J0_length_8abf5 : GoodIn wsX10_pass wsJ0_length_8abf5 := goodIn_r _ [10, 11, 12, 13, 14, 9, 15, 16, 17] (by decide +kernel) (by decide +kernel)
set_option maxRecDepth 20000 in
theorem gX10_pass_J0_length_8abf5 : GoodIn wsX10_pass (wsV RX10 218 RJ0 yJ0_length_8abf5 wsJ0_length_8abf5) := goodIn_app (goodIn_of _ (by decide +kernel)) ggX10_pass_J0_length_8abf5
set_option maxRecDepth 20000 in
theorem ggX10_isSign_X10_skip : GoodIn wsX10_isSign wsX10_skip := goodIn_r _ [8, 1, 2, 3, 9, 10, 11, 12, 13, 14, 15, 16, 17, 18, 19, 20, 21, 22, 23, 24, 25, 26, 27, 28, 29, 30, 31, 32, 33, 34, 35, 36, 37, 38, 39, 40, 41, 42, 43, 44, 45, 46, 47, 48, 49, 50, 51, 52, 53, 54, 55, 56, 57, 58, 59] (by decide +kernel) (by decide +kernel)
set_option maxRecDepth 20000 in
theorem gX10_isSign_X10_skip : GoodIn wsX10_isSign (wsV RX10 208 RX10 yX10_skip wsX10_skip) := goodIn_app (goodIn_of _ (by decide +kernel)) ggX10_isSign_X10_skip
set_option maxRecDepth 20000 in
theorem ggX10_need_X10_isSign : GoodIn wsX10_need wsX10_isSign := goodIn_r _ [6, 1, 7, 8, 9, 10, 11, 5, 12, 19, 20, 21, 22, 23, 24, 25, 26, 27, 28, 29, 30, 31, 32, 33, 34, 35, 36, 37, 38, 39, 40, 41, 42, 43, 44, 45, 46, 47, 48, 49, 50, 51, 52, 53, 54, 55, 56, 57, 58, 59, 60, 61, 62, 63, 64, 65, 66, 67, 68, 69] (by decide +kernel) (by decide +kernel)
set_option maxRecDepth 20000 in
theorem gX10_need_X10_isSign : GoodIn wsX10_need (wsV RX10 228 RX10 yX10_isSign wsX10_isSign) := goodIn_app (goodIn_of _ (by decide +kernel)) ggX10_need_X10_isSign
set_option maxRecDepth 20000 in
theorem ggX10_need_X10_wrong : GoodIn wsX10_need wsX10_wrong := goodIn_r _ [16, 17, 18, 19, 20, 21, 22, 23, 24, 25, 26, 27, 28, 29, 30, 31, 32, 33, 34, 35, 36, 37, 38, 39, 40, 41, 42, 43, 44, 45, 46, 47, 48, 49, 50, 51, 52, 53, 54, 55, 56, 57, 58, 59, 60, 61, 62, 63, 64, 65, 66, 67, 68, 69] (by decide +kernel) (by decide +kernel)
set_option maxRecDepth 20000 in
theorem gX10_need_X10_wrong : GoodIn wsX10_need (wsV RX10 231 RX10 yX10_wrong wsX10_wrong) := goodIn_app (goodIn_of _ (by decide +kernel)) ggX10_need_X10_wrong
set_option maxRecDepth 20000 in
theorem ggX10_needWord_X10_word : GoodIn wsX10_needWord wsX10_word := goodIn_r _ [6, 1, 7, 8, 9, 10, 11, 5, 12, 13, 14, 15, 16, 17, 18, 19, 20, 21, 22, 23, 24, 25, 26, 27, 28, 29, 30, 31, 32, 33, 34, 35, 36, 37, 38, 39, 40, 41, 42, 43, 44, 45, 46, 47, 48, 49, 50, 51, 52, 53, 54, 55, 56, 57, 58, 59, 60, 61, 62, 63, 64, 65, 66, 67, 78, 79, 80, 81, 82, 83, 84, 85, 86, 87, 88, 89, 90, 91, 92, 93, 94, 95, 96, 97, 98, 99, 100, 101, 102, 103, 104, 105, 106, 107, 108, 109, 110, 111, 112, 113, 114, 115, 116, 117, 118, 119, 120, 121, 122, 123, 124, 125, 126, 127, 128] (by decide +kernel) (by decide +kernel)
set_option maxRecDepth 20000 in
theorem gX10_needWord_X10_word : GoodIn wsX10_needWord (wsV RX10 234 RX10 yX10_word wsX10_word) := goodIn_app (goodIn_of _ (by decide +kernel)) ggX10_needWord_X10_word
set_option maxRecDepth 20000 in
theorem ggX10_needWord_X10_wrong : GoodIn wsX10_needWord wsX10_wrong := goodIn_r _ [71, 72, 73, 78, 79, 80, 81, 82, 83, 84, 85, 86, 87, 88, 89, 90, 91, 92, 93, 94, 95, 96, 97, 98, 99, 100, 101, 102, 103, 104, 105, 106, 107, 108, 109, 110, 111, 112, 113, 114, 115, 116, 117, 118, 119, 120, 121, 122, 123, 124, 125, 126, 127, 128] (by decide +kernel) (by decide +kernel)
set_option maxRecDepth 20000 in
theorem gX10_needWord_X10_wrong : GoodIn wsX10_needWord (wsV RX10 231 RX10 yX10_wrong wsX10_wrong) := goodIn_app (goodIn_of _ (by decide +kernel)) ggX10_needWord_X10_wrong
set_option maxRecDepth 20000 in
theorem ggX10_needWord_X10_pass : GoodIn wsX10_needWord wsX10_pass := goodIn_r _ [77, 1, 16, 17, 5, 18, 19, 20, 21, 22, 23, 24, 25, 26, 27, 28, 29, 30, 78, 79, 80, 81, 82, 83, 84, 85, 86, 87, 88, 89, 90, 91, 92, 93, 94, 95, 96, 97, 98, 99, 100, 101, 102, 103, 104, 105, 106, 107, 108, 109, 110, 111, 112, 113, 114, 115, 116, 117, 118, 119, 120, 121, 122, 123, 124, 125, 126, 127, 128] (by decide +kernel) (by decide +kernel)
set_option maxRecDepth 20000 in
theorem gX10_needWord_X10_pass : GoodIn wsX10_needWord (wsV RX10 237 RX10 yX10_pass wsX10_pass) := goodIn_app (goodIn_of _ (by decide +kernel)) ggX10_needWord_X10_pass
set_option maxRecDepth 20000 in
theorem ggX10_number_X10_skip : GoodIn wsX10_number wsX10_skip := goodIn_r _ [9, 1, 2, 3, 19, 20, 21, 22, 23, 24, 25, 26, 27, 28, 29, 30, 31, 32, 33, 34, 35, 36, 37, 38, 39, 40, 41, 42, 43, 44, 45, 46, 47, 48, 49, 50, 51, 52, 53, 54, 55, 56, 57, 58, 59, 60, 61, 62, 63, 64, 65, 66, 67, 68, 69] (by decide +kernel) (by decide +kernel)
set_option maxRecDepth 20000 in
theorem gX10_number_X10_skip : GoodIn wsX10_number (wsV RX10 208 RX10 yX10_skip wsX10_skip) := goodIn_app (goodIn_of _ (by decide +kernel)) ggX10_number_X10_skip
set_option maxRecDepth 20000 in
theorem ggX10_number_X10_isDigit : GoodIn wsX10_number wsX10_isDigit := goodIn_r _ [12] (by decide +kernel) (by decide +kernel)
set_option maxRecDepth 20000 in
theorem gX10_number_X10_isDigit : GoodIn wsX10_number (va_wsS RX10 240 yX10_isDigit wsX10_isDigit) := goodIn_app (goodIn_of _ (by decide +kernel)) ggX10_number_X10_isDigit
set_option maxRecDepth 20000 in
theorem ggX10_number_X10_wrong : GoodIn wsX10_number wsX10_wrong := goodIn_r _ [16, 17, 18, 19, 20, 21, 22, 23, 24, 25, 26, 27, 28, 29, 30, 31, 32, 33, 34, 35, 36, 37, 38, 39, 40, 41, 42, 43, 44, 45, 46, 47, 48, 49, 50, 51, 52, 53, 54, 55, 56, 57, 58, 59, 60, 61, 62, 63, 64, 65, 66, 67, 68, 69] (by decide +kernel) (by decide +kernel)
set_option maxRecDepth 20000 in
theorem gX10_number_X10_wrong : GoodIn wsX10_number (wsV RX10 231 RX10 yX10_wrong wsX10_wrong) := goodIn_app (goodIn_of _ (by decide +kernel)) ggX10_number_X10_wrong
set_option maxRecDepth 20000 in
theorem ggX10_steps_X10_skip : GoodIn wsX10_steps wsX10_skip := goodIn_r _ [8, 1, 2, 9, 135, 136, 137, 138, 139, 140, 141, 142, 143, 144, 145, 146, 147, 148, 149, 150, 151, 152, 153, 154, 155, 156, 157, 158, 159, 160, 161, 162, 163, 164, 165, 166, 167, 168, 169, 170, 171, 172, 173, 174, 175, 176, 177, 178, 179, 180, 181, 182, 183, 184, 185] (by decide +kernel) (by decide +kernel)
set_option maxRecDepth 20000 in
theorem gX10_steps_X10_skip : GoodIn wsX10_steps (wsV RX10 208 RX10 yX10_skip wsX10_skip) := goodIn_app (goodIn_of _ (by decide +kernel)) ggX10_steps_X10_skip
set_option maxRecDepth 20000 in
theorem ggX10_steps_X10_isSign : GoodIn wsX10_steps wsX10_isSign := goodIn_r _ [13, 1, 2, 9, 4, 5, 6, 7, 8, 135, 136, 137, 138, 139, 140, 141, 142, 143, 144, 145, 146, 147, 148, 149, 150, 151, 152, 153, 154, 155, 156, 157, 158, 159, 160, 161, 162, 163, 164, 165, 166, 167, 168, 169, 170, 171, 172, 173, 174, 175, 176, 177, 178, 179, 180, 181, 182, 183, 184, 185] (by decide +kernel) (by decide +kernel)
set_option maxRecDepth 20000 in
theorem gX10_steps_X10_isSign : GoodIn wsX10_steps (wsV RX10 228 RX10 yX10_isSign wsX10_isSign) := goodIn_app (goodIn_of _ (by decide +kernel)) ggX10_steps_X10_isSign
set_option maxRecDepth 20000 in
theorem ggX10_steps_X10_step : GoodIn wsX10_steps wsX10_step := goodIn_r _ [130, 1, 131, 31, 42, 36, 20, 19, 3, 63, 64, 65, 7, 66, 2, 9, 4, 5, 6, 8, 67, 68, 69, 70, 71, 72, 73, 74, 75, 76, 77, 78, 79, 80, 81, 82, 83, 84, 85, 86, 87, 88, 89, 90, 91, 92, 93, 94, 95, 96, 97, 98, 99, 100, 101, 102, 103, 104, 105, 106, 107, 108, 109, 110, 111, 112, 113, 114, 115, 116, 117, 118, 119, 120, 121, 21, 22, 23, 24, 25, 26, 122, 123, 124, 125, 132, 133, 134, 17, 18, 10, 11, 12, 13, 27, 28, 29, 30, 32, 33, 34, 35, 37, 38, 39, 40, 41, 43, 44, 45, 46, 47, 48, 49, 50, 51, 52, 53, 54, 55, 56, 57, 58, 59, 60, 61, 62, 126, 127, 128, 129, 0, 14, 15, 16, 135, 136, 137, 138, 139, 140, 141, 142, 143, 144, 145, 146, 147, 148, 149, 150, 151, 152, 153, 154, 155, 156, 157, 158, 159, 160, 161, 162, 163, 164, 165, 166, 167, 168, 169, 170, 171, 172, 173, 174, 175, 176, 177, 178, 179, 180, 181, 182, 183, 184, 185] (by decide +kernel) (by decide +kernel)
set_option maxRecDepth 20000 in
theorem gX10_steps_X10_step : GoodIn wsX10_steps (wsV RX10 246 RX10 yX10_step wsX10_step) := goodIn_app (goodIn_of _ (by decide +kernel)) ggX10_steps_X10_step
set_option maxRecDepth 20000 in
theorem ggX10_step_X10_word : GoodIn wsX10_step wsX10_word := goodIn_r _ [13, 1, 14, 15, 16, 17, 18, 12, 19, 20, 21, 22, 23, 24, 25, 26, 27, 28, 29, 30, 31, 32, 33, 34, 35, 36, 37, 38, 39, 40, 41, 42, 43, 44, 45, 46, 47, 48, 49, 50, 51, 52, 53, 54, 55, 56, 57, 58, 59, 60, 61, 62, 63, 64, 65, 66, 67, 68, 69, 70, 71, 72, 73, 74, 135, 136, 137, 138, 139, 140, 141, 142, 143, 144, 145, 146, 147, 148, 149, 150, 151, 152, 153, 154, 155, 156, 157, 158, 159, 160, 161, 162, 163, 164, 165, 166, 167, 168, 169, 170, 171, 172, 173, 174, 175, 176, 177, 178, 179, 180, 181, 182, 183, 184, 185] (by decide +kernel) (by decide +kernel)
set_option maxRecDepth 20000 in
theorem gX10_step_X10_word : GoodIn wsX10_step (wsV RX10 234 RX10 yX10_word wsX10_word) := goodIn_app (goodIn_of _ (by decide +kernel)) ggX10_step_X10_word
set_option maxRecDepth 20000 in
theorem ggX10_step_X10_wrong : GoodIn wsX10_step wsX10_wrong := goodIn_r _ [78, 79, 80, 135, 136, 137, 138, 139, 140, 141, 142, 143, 144, 145, 146, 147, 148, 149, 150, 151, 152, 153, 154, 155, 156, 157, 158, 159, 160, 161, 162, 163, 164, 165, 166, 167, 168, 169, 170, 171, 172, 173, 174, 175, 176, 177, 178, 179, 180, 181, 182, 183, 184, 185] (by decide +kernel) (by decide +kernel)
set_option maxRecDepth 20000 in
theorem gX10_step_X10_wrong : GoodIn wsX10_step (wsV RX10 231 RX10 yX10_wrong wsX10_wrong) := goodIn_app (goodIn_of _ (by decide +kernel)) ggX10_step_X10_wrong
set_option maxRecDepth 20000 in
theorem ggX10_step_X10_pass : GoodIn wsX10_step wsX10_pass := goodIn_r _ [84, 1, 23, 24, 12, 25, 26, 27, 28, 29, 30, 31, 32, 33, 34, 35, 36, 37, 135, 136, 137, 138, 139, 140, 141, 142, 143, 144, 145, 146, 147, 148, 149, 150, 151, 152, 153, 154, 155, 156, 157, 158, 159, 160, 161, 162, 163, 164, 165, 166, 167, 168, 169, 170, 171, 172, 173, 174, 175, 176, 177, 178, 179, 180, 181, 182, 183, 184, 185] (by decide +kernel) (by decide +kernel)
set_option maxRecDepth 20000 in
theorem gX10_step_X10_pass : GoodIn wsX10_step (wsV RX10 237 RX10 yX10_pass wsX10_pass) := goodIn_app (goodIn_of _ (by decide +kernel)) ggX10_step_X10_pass
set_option maxRecDepth 20000 in
theorem ggX10_step_X10_rest : GoodIn wsX10_step wsX10_rest := goodIn_r _ [97, 3, 98, 99, 100, 12, 101, 5, 102, 103, 104, 105, 106, 4, 107, 108, 109, 110, 1, 14, 15, 16, 17, 18, 19, 111, 112, 113, 75, 76, 77, 78, 79, 80, 114, 115, 116, 117, 90, 91, 92, 93, 118, 119, 120, 121, 122, 123, 124, 125, 126, 9, 10, 11, 13, 20, 21, 22, 23, 24, 25, 26, 27, 28, 29, 30, 31, 32, 33, 34, 35, 36, 37, 38, 39, 40, 41, 42, 43, 44, 45, 46, 47, 48, 49, 50, 51, 52, 53, 54, 55, 56, 57, 58, 59, 60, 61, 62, 63, 64, 65, 66, 67, 68, 69, 70, 71, 72, 73, 74, 81, 82, 83, 84, 127, 128, 129, 130, 88, 89, 7, 6, 94, 95, 96, 0, 2, 8, 85, 86, 87, 131, 132, 133, 134, 135, 136, 137, 138, 139, 140, 141, 142, 143, 144, 145, 146, 147, 148, 149, 150, 151, 152, 153, 154, 155, 156, 157, 158, 159, 160, 161, 162, 163, 164, 165, 166, 167, 168, 169, 170, 171, 172, 173, 174, 175, 176, 177, 178, 179, 180, 181, 182, 183, 184, 185] (by decide +kernel) (by decide +kernel)
set_option maxRecDepth 20000 in
theorem gX10_step_X10_rest : GoodIn wsX10_step (wsV RX10 252 RX10 yX10_rest wsX10_rest) := goodIn_app (goodIn_of _ (by decide +kernel)) ggX10_step_X10_rest
set_option maxRecDepth 20000 in
theorem ggX10_rest_X10_numbers : GoodIn wsX10_rest wsX10_numbers := goodIn_r _ [6, 7, 8, 9, 10, 11, 5, 12, 13, 14, 15, 16, 17, 18, 19, 20, 21, 22, 23, 24, 25, 26, 27, 28, 29, 30, 31, 32, 33, 135, 136, 137, 138, 139, 140, 141, 142, 143, 144, 145, 146, 147, 148, 149, 150, 151, 152, 153, 154, 155, 156, 157, 158, 159, 160, 161, 162, 163, 164, 165, 166, 167, 168, 169, 170, 171, 172, 173, 174, 175, 176, 177, 178, 179, 180, 181, 182, 183, 184, 185] (by decide +kernel) (by decide +kernel)
set_option maxRecDepth 20000 in
theorem gX10_rest_X10_numbers : GoodIn wsX10_rest (wsV RX10 254 RX10 yX10_numbers wsX10_numbers) := goodIn_app (goodIn_of _ (by decide +kernel)) ggX10_rest_X10_numbers
set_option maxRecDepth 20000 in
theorem ggX10_rest_X10_need : GoodIn wsX10_rest wsX10_need := goodIn_r _ [37, 18, 38, 39, 40, 5, 41, 19, 20, 21, 22, 23, 24, 28, 29, 30, 31, 32, 33, 135, 136, 137, 138, 139, 140, 141, 142, 143, 144, 145, 146, 147, 148, 149, 150, 151, 152, 153, 154, 155, 156, 157, 158, 159, 160, 161, 162, 163, 164, 165, 166, 167, 168, 169, 170, 171, 172, 173, 174, 175, 176, 177, 178, 179, 180, 181, 182, 183, 184, 185] (by decide +kernel) (by decide +kernel)
set_option maxRecDepth 20000 in
theorem gX10_rest_X10_need : GoodIn wsX10_rest (wsV RX10 258 RX10 yX10_need wsX10_need) := goodIn_app (goodIn_of _ (by decide +kernel)) ggX10_rest_X10_need
set_option maxRecDepth 20000 in
theorem ggX10_rest_X10_single : GoodIn wsX10_rest wsX10_single := goodIn_r _ [12, 13, 8, 14, 15, 16, 5, 17, 18, 19, 20, 21, 22, 23, 24, 25, 26, 27, 28, 29, 30, 31, 32, 33, 135, 136, 137, 138, 139, 140, 141, 142, 143, 144, 145, 146, 147, 148, 149, 150, 151, 152, 153, 154, 155, 156, 157, 158, 159, 160, 161, 162, 163, 164, 165, 166, 167, 168, 169, 170, 171, 172, 173, 174, 175, 176, 177, 178, 179, 180, 181, 182, 183, 184, 185] (by decide +kernel) (by decide +kernel)
set_option maxRecDepth 20000 in
theorem gX10_rest_X10_single : GoodIn wsX10_rest (wsV RX10 261 RX10 yX10_single wsX10_single) := goodIn_app (goodIn_of _ (by decide +kernel)) ggX10_rest_X10_single
set_option maxRecDepth 20000 in
theorem ggX10_rest_X10_block : GoodIn wsX10_rest wsX10_block := goodIn_r _ [118, 18, 119, 120, 121, 38, 39, 40, 5, 41, 19, 20, 21, 22, 23, 24, 28, 29, 30, 31, 32, 33, 122, 123, 124, 0, 1, 2, 3, 4, 6, 7, 8, 9, 10, 11, 12, 13, 14, 15, 16, 17, 25, 26, 27, 34, 35, 36, 37, 42, 43, 44, 45, 46, 47, 48, 49, 50, 51, 52, 53, 54, 55, 56, 57, 58, 59, 60, 61, 62, 63, 64, 65, 66, 67, 68, 69, 70, 71, 72, 73, 74, 75, 76, 77, 78, 79, 80, 81, 82, 83, 84, 85, 86, 87, 88, 89, 90, 91, 92, 93, 94, 95, 96, 97, 98, 99, 100, 101, 102, 103, 104, 105, 106, 107, 108, 109, 110, 111, 112, 113, 114, 115, 116, 117, 125, 126, 127, 128, 129, 130, 131, 132, 133, 134, 135, 136, 137, 138, 139, 140, 141, 142, 143, 144, 145, 146, 147, 148, 149, 150, 151, 152, 153, 154, 155, 156, 157, 158, 159, 160, 161, 162, 163, 164, 165, 166, 167, 168, 169, 170, 171, 172, 173, 174, 175, 176, 177, 178, 179, 180, 181, 182, 183, 184, 185] (by decide +kernel) (by decide +kernel)
set_option maxRecDepth 20000 in
theorem gX10_rest_X10_block : GoodIn wsX10_rest (wsV RX10 264 RX10 yX10_block wsX10_block) := goodIn_app (goodIn_of _ (by decide +kernel)) ggX10_rest_X10_block
