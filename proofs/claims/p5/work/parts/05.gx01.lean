set_option maxRecDepth 20000 in
theorem ggX2_readBlock_X2_pass : GoodIn wsX2_readBlock wsX2_pass := goodIn_m (subW_r _ [15, 1, 2, 8, 3, 4, 5, 6, 7, 9, 10, 11, 16, 17, 18, 19, 20, 21, 69, 70, 71, 72, 73, 74, 75, 76, 77, 78, 79, 80, 81] (by exact rfl)) gwd_X2_pass
set_option maxRecDepth 20000 in
theorem gX2_readBlock_X2_pass : GoodIn wsX2_readBlock (wsV RX2 41 RX2 yX2_pass wsX2_pass) := goodIn_app (goodIn_r _ [12, 13, 14, 6] (by exact rfl) (by decide +kernel)) ggX2_readBlock_X2_pass
set_option maxRecDepth 20000 in
theorem ggX2_readBlock_X2_readSteps : GoodIn wsX2_readBlock wsX2_readSteps := goodIn_m (subW_r _ [64, 2, 1, 65, 66, 67, 68, 6, 0, 3, 4, 5, 7, 8, 9, 10, 11, 12, 13, 14, 15, 16, 17, 18, 19, 20, 21, 22, 23, 24, 25, 26, 27, 28, 29, 30, 31, 32, 33, 34, 35, 36, 37, 38, 39, 40, 41, 42, 43, 44, 45, 46, 47, 48, 49, 50, 51, 52, 53, 54, 55, 56, 57, 58, 59, 60, 61, 62, 63, 69, 70, 71, 72, 73, 74, 75, 76, 77, 78, 79, 80, 81, 82, 83, 84, 85, 86, 87, 88, 89] (by exact rfl)) gwd_X2_readSteps
set_option maxRecDepth 20000 in
theorem gX2_readBlock_X2_readSteps : GoodIn wsX2_readBlock (wsV RX2 37 RX2 yX2_readSteps wsX2_readSteps) := goodIn_app (goodIn_r _ [22, 23, 24, 6] (by exact rfl) (by decide +kernel)) ggX2_readBlock_X2_readSteps
set_option maxRecDepth 20000 in
theorem ggX2_readTest_X2_refuse : GoodIn wsX2_readTest wsX2_refuse := goodIn_m (subW_r _ [10, 11, 12, 13, 14, 15, 31, 32, 33, 34, 35, 36, 45, 46, 47, 48, 49, 50, 51] (by exact rfl)) gwd_X2_refuse
set_option maxRecDepth 20000 in
theorem gX2_readTest_X2_refuse : GoodIn wsX2_readTest (wsV RX2 58 RX2 yX2_refuse wsX2_refuse) := goodIn_app (goodIn_r _ [6, 7, 8, 9] (by exact rfl) (by decide +kernel)) ggX2_readTest_X2_refuse
set_option maxRecDepth 20000 in
theorem ggX2_readTest_X2_pass : GoodIn wsX2_readTest wsX2_pass := goodIn_m (subW_r _ [19, 1, 11, 12, 6, 7, 8, 9, 10, 13, 14, 15, 20, 21, 22, 23, 24, 25, 31, 32, 33, 34, 35, 36, 45, 46, 47, 48, 49, 50, 51] (by exact rfl)) gwd_X2_pass
set_option maxRecDepth 20000 in
theorem gX2_readTest_X2_pass : GoodIn wsX2_readTest (wsV RX2 41 RX2 yX2_pass wsX2_pass) := goodIn_app (goodIn_r _ [16, 17, 18, 9] (by exact rfl) (by decide +kernel)) ggX2_readTest_X2_pass
set_option maxRecDepth 20000 in
theorem ggX2_readTest_X2_readNumber : GoodIn wsX2_readTest wsX2_readNumber := goodIn_m (subW_r _ [29, 12, 13, 30, 1, 6, 7, 8, 9, 10, 11, 14, 15, 16, 17, 18, 19, 20, 21, 22, 23, 24, 25, 31, 32, 33, 34, 35, 36, 45, 46, 47, 48, 49, 50, 51] (by exact rfl)) gwd_X2_readNumber
set_option maxRecDepth 20000 in
theorem gX2_readTest_X2_readNumber : GoodIn wsX2_readTest (wsV RX2 72 RX2 yX2_readNumber wsX2_readNumber) := goodIn_app (goodIn_r _ [26, 27, 28, 9] (by exact rfl) (by decide +kernel)) ggX2_readTest_X2_readNumber
set_option maxRecDepth 20000 in
theorem ggX2_readNumber_X2_refuse : GoodIn wsX2_readNumber wsX2_refuse := goodIn_m (subW_r _ [9, 10, 1, 2, 11, 12, 23, 24, 25, 26, 27, 28, 29, 30, 31, 32, 33, 34, 35] (by exact rfl)) gwd_X2_refuse
set_option maxRecDepth 20000 in
theorem gX2_readNumber_X2_refuse : GoodIn wsX2_readNumber (wsV RX2 58 RX2 yX2_refuse wsX2_refuse) := goodIn_app (goodIn_r _ [5, 6, 7, 8] (by exact rfl) (by decide +kernel)) ggX2_readNumber_X2_refuse
set_option maxRecDepth 20000 in
theorem ggX2_readNumber_X2_pass : GoodIn wsX2_readNumber wsX2_pass := goodIn_m (subW_r _ [16, 4, 10, 1, 5, 6, 7, 8, 9, 2, 11, 12, 17, 18, 19, 20, 21, 22, 23, 24, 25, 26, 27, 28, 29, 30, 31, 32, 33, 34, 35] (by exact rfl)) gwd_X2_pass
set_option maxRecDepth 20000 in
theorem gX2_readNumber_X2_pass : GoodIn wsX2_readNumber (wsV RX2 41 RX2 yX2_pass wsX2_pass) := goodIn_app (goodIn_r _ [13, 14, 15, 8] (by exact rfl) (by decide +kernel)) ggX2_readNumber_X2_pass
set_option maxRecDepth 20000 in
theorem ggX2_pass_X2_refuse : GoodIn wsX2_pass wsX2_refuse := goodIn_m (subW_r _ [8, 2, 3, 9, 10, 11, 18, 19, 20, 21, 22, 23, 24, 25, 26, 27, 28, 29, 30] (by exact rfl)) gwd_X2_refuse
set_option maxRecDepth 20000 in
theorem gX2_pass_X2_refuse : GoodIn wsX2_pass (wsV RX2 58 RX2 yX2_refuse wsX2_refuse) := goodIn_app (goodIn_r _ [4, 5, 6, 7] (by exact rfl) (by decide +kernel)) ggX2_pass_X2_refuse
set_option maxRecDepth 20000 in
theorem ggX2_pass_X2_moveTo : GoodIn wsX2_pass wsX2_moveTo := goodIn_m (subW_r _ [15, 3, 9, 16, 17, 1, 18, 19, 20, 21, 22, 23, 24, 25, 26, 27, 28, 29, 30] (by exact rfl)) gwd_X2_moveTo
set_option maxRecDepth 20000 in
theorem gX2_pass_X2_moveTo : GoodIn wsX2_pass (wsV RX2 34 RX2 yX2_moveTo wsX2_moveTo) := goodIn_app (goodIn_r _ [12, 13, 14, 7] (by exact rfl) (by decide +kernel)) ggX2_pass_X2_moveTo
set_option maxRecDepth 20000 in
theorem ggX4_follow_X4_doSteps : GoodIn wsX4_follow wsX4_doSteps := goodIn_m (subW_ca (subW_r _ [16, 17, 18, 19, 20, 21, 15, 22, 2, 1, 23, 24, 25, 26, 27, 28, 29, 30, 31, 32, 33, 34, 35, 36, 37, 38, 39, 40, 41, 42, 4, 3, 43, 44, 45, 46, 47, 48, 49, 50, 51, 52, 8, 53, 54, 55, 56, 57, 58, 59, 60, 61, 62, 63, 64, 65, 66, 67, 68, 69, 70, 71, 72, 73, 74, 75, 76, 77, 78, 79, 80, 81, 82, 83, 84, 85, 86, 87, 88, 89, 90, 91, 92, 93, 94, 95, 96, 97, 98, 99, 100, 101, 102, 103, 104, 105, 106, 5, 107, 108, 109, 110, 111, 112, 113, 114, 115, 7, 9, 116, 117, 118, 119, 120, 121, 122, 123, 124, 125, 126, 127, 128, 129, 130, 131, 132, 133, 134, 135, 136, 137, 138, 139, 140, 141, 142, 143, 144, 145, 146, 147, 148, 149, 150, 151, 152, 153, 154, 155, 156, 157, 12, 13, 14, 158, 159, 160, 161, 162, 163, 164, 165, 166, 167, 176, 177, 178, 179, 180, 181, 182, 183, 184, 185, 186, 187, 188, 189, 190, 191, 168, 169, 170, 171, 172, 173, 174, 175, 192, 193, 194, 195, 196, 197, 198, 199, 200, 201, 202] (by exact rfl)) ((fun _ h => List.mem_cons_of_mem _ (List.mem_append_right _ h)))) gwd_X4_doSteps
set_option maxRecDepth 20000 in
theorem gX4_follow_X4_doSteps : GoodIn wsX4_follow (wsV RX4 34 RX4 yX4_doSteps wsX4_doSteps) := goodIn_app (goodIn_r _ [12, 13, 14, 15] (by exact rfl) (by decide +kernel)) ggX4_follow_X4_doSteps
set_option maxRecDepth 20000 in
theorem ggX4_doSteps_X4_mayCount : GoodIn wsX4_doSteps wsX4_mayCount := goodIn_m (subW_r _ [7, 8, 9, 180, 181, 182, 183, 184, 185, 186, 187] (by exact rfl)) gwd_X4_mayCount
set_option maxRecDepth 20000 in
theorem gX4_doSteps_X4_mayCount : GoodIn wsX4_doSteps (wsV RX4 47 RX4 yX4_mayCount wsX4_mayCount) := goodIn_app (goodIn_r _ [3, 4, 5, 6] (by exact rfl) (by decide +kernel)) ggX4_doSteps_X4_mayCount
set_option maxRecDepth 20000 in
theorem ggX4_doSteps_X4_doPlain : GoodIn wsX4_doSteps wsX4_doPlain := goodIn_m (subW_ca (subW_r _ [13, 1, 14, 15, 16, 17, 18, 19, 20, 21, 22, 23, 24, 25, 26, 27, 6, 28, 29, 30, 31, 32, 33, 34, 35, 36, 37, 38, 39, 40, 41, 42, 43, 44, 45, 46, 47, 48, 49, 50, 51, 52, 53, 54, 55, 56, 57, 58, 59, 60, 61, 62, 63, 64, 65, 66, 67, 68, 69, 70, 71, 72, 73, 74, 75, 76, 77, 78, 79, 80, 81, 82, 83, 84, 85, 86, 87, 88, 89, 90, 91, 92, 93, 94, 95, 96, 97, 3, 4, 5, 7, 8, 9, 98, 99, 100, 101, 102, 103, 104, 105, 106, 107, 108, 109, 110, 111, 112, 113, 114, 115, 116, 117, 118, 119, 120, 121, 164, 165, 166, 167, 168, 169, 170, 171, 180, 181, 182, 183, 184, 185, 186, 187, 196, 197, 198, 188, 189, 190, 191, 192, 193, 194, 195, 172, 173, 174, 175, 176, 177, 178, 179] (by exact rfl)) ((fun _ h => List.mem_cons_of_mem _ (List.mem_append_right _ h)))) gwd_X4_doPlain
set_option maxRecDepth 20000 in
theorem gX4_doSteps_X4_doPlain : GoodIn wsX4_doSteps (wsV RX4 56 RX4 yX4_doPlain wsX4_doPlain) := goodIn_app (goodIn_r _ [10, 11, 12, 6] (by exact rfl) (by decide +kernel)) ggX4_doSteps_X4_doPlain
set_option maxRecDepth 20000 in
theorem ggX4_doSteps_X4_doBuilt : GoodIn wsX4_doSteps wsX4_doBuilt := goodIn_m (subW_ca (subW_r _ [125, 1, 126, 127, 128, 129, 130, 6, 131, 132, 133, 134, 135, 136, 137, 138, 16, 139, 140, 141, 142, 143, 75, 14, 15, 144, 145, 146, 147, 148, 149, 47, 150, 49, 51, 17, 18, 19, 20, 21, 22, 23, 24, 151, 152, 153, 154, 155, 156, 157, 158, 159, 0, 2, 3, 4, 5, 7, 8, 9, 10, 11, 12, 13, 25, 26, 27, 28, 29, 30, 31, 32, 33, 34, 35, 36, 37, 38, 39, 40, 41, 42, 43, 44, 45, 46, 48, 50, 52, 53, 54, 55, 56, 57, 58, 59, 60, 61, 62, 63, 64, 65, 66, 67, 68, 69, 70, 71, 72, 73, 74, 76, 77, 78, 79, 80, 81, 82, 83, 84, 85, 86, 87, 88, 89, 90, 91, 92, 93, 94, 95, 96, 97, 98, 99, 100, 101, 102, 103, 104, 105, 106, 107, 108, 109, 110, 111, 112, 113, 114, 115, 116, 117, 118, 119, 120, 121, 122, 123, 124, 160, 161, 162, 163, 164, 165, 166, 167, 168, 169, 170, 171, 172, 173, 174, 175, 176, 177, 178, 179, 180, 181, 182, 183, 184, 185, 186, 187, 188, 189, 190, 191, 192, 193, 194, 195, 196, 197, 198] (by exact rfl)) ((fun _ h => List.mem_cons_of_mem _ (List.mem_append_right _ h)))) gwd_X4_doBuilt
set_option maxRecDepth 20000 in
theorem gX4_doSteps_X4_doBuilt : GoodIn wsX4_doSteps (wsV RX4 60 RX4 yX4_doBuilt wsX4_doBuilt) := goodIn_app (goodIn_r _ [122, 123, 124, 6] (by exact rfl) (by decide +kernel)) ggX4_doSteps_X4_doBuilt
set_option maxRecDepth 20000 in
theorem ggX4_doPlain_X8_vatAt : GoodIn wsX4_doPlain wsX8_vatAt := goodIn_m (subW_ca (subW_r _ [9, 10, 11, 12, 133, 134, 135] (by exact rfl)) ((fun _ h => List.mem_cons_of_mem _ (List.mem_append_right _ h)))) gwd_X8_vatAt
set_option maxRecDepth 20000 in
theorem gX4_doPlain_X8_vatAt : GoodIn wsX4_doPlain (wsV RX4 70 RX8 yX8_vatAt wsX8_vatAt) := goodIn_app (goodIn_r _ [5, 6, 7, 8] (by exact rfl) (by decide +kernel)) ggX4_doPlain_X8_vatAt
set_option maxRecDepth 20000 in
theorem ggX4_doPlain_X4_doDip : GoodIn wsX4_doPlain wsX4_doDip := goodIn_m (subW_r _ [17, 18, 2, 19, 20, 21, 22, 23, 24, 25, 26, 27, 28, 29, 30, 31, 32, 33, 34, 35, 36, 37, 38, 39, 40, 41, 42, 43, 8, 44, 45, 46, 47, 48, 49, 50, 51, 52, 53, 54, 55, 56, 57, 58, 59, 136, 137, 138, 139, 140, 141, 142, 143, 125, 126, 127, 128, 129, 130, 131, 132, 144, 145, 146, 147, 148, 149, 150, 151, 133, 134, 135] (by exact rfl)) gwd_X4_doDip
set_option maxRecDepth 20000 in
theorem gX4_doPlain_X4_doDip : GoodIn wsX4_doPlain (wsV RX4 79 RX4 yX4_doDip wsX4_doDip) := goodIn_app (goodIn_r _ [13, 14, 15, 16] (by exact rfl) (by decide +kernel)) ggX4_doPlain_X4_doDip
set_option maxRecDepth 20000 in
theorem ggX4_doPlain_X4_doAir : GoodIn wsX4_doPlain wsX4_doAir := goodIn_m (subW_r _ [63, 64, 2, 65, 66, 67, 8, 68, 69, 70, 71, 72, 36, 73, 39, 40, 144, 145, 146, 147, 148, 149, 150, 151, 125, 126, 127, 128, 129, 130, 131, 132, 133, 134, 135] (by exact rfl)) gwd_X4_doAir
set_option maxRecDepth 20000 in
theorem gX4_doPlain_X4_doAir : GoodIn wsX4_doPlain (wsV RX4 83 RX4 yX4_doAir wsX4_doAir) := goodIn_app (goodIn_r _ [60, 61, 62, 16] (by exact rfl) (by decide +kernel)) ggX4_doPlain_X4_doAir
set_option maxRecDepth 20000 in
theorem ggX4_doPlain_X8_washOut : GoodIn wsX4_doPlain wsX8_washOut := goodIn_m (subW_r _ [77, 69, 78, 79, 80, 36, 81, 40, 39, 133, 134, 135, 144, 145, 146, 147, 148, 149, 150, 151] (by exact rfl)) gwd_X8_washOut
set_option maxRecDepth 20000 in
theorem gX4_doPlain_X8_washOut : GoodIn wsX4_doPlain (wsV RX4 87 RX8 yX8_washOut wsX8_washOut) := goodIn_app (goodIn_r _ [74, 75, 76, 8] (by exact rfl) (by decide +kernel)) ggX4_doPlain_X8_washOut
set_option maxRecDepth 20000 in
theorem ggX4_doPlain_X4_doRest : GoodIn wsX4_doPlain wsX4_doRest := goodIn_m (subW_r _ [85, 2, 86, 87, 88, 89, 16, 90, 91, 92, 93, 94, 95, 8, 96, 12, 45, 97, 98, 99, 24, 100, 59, 101, 102, 31, 103, 27, 104, 58, 125, 126, 127, 128, 129, 130, 131, 132, 133, 134, 135, 136, 137, 138, 139, 140, 141, 142, 143] (by exact rfl)) gwd_X4_doRest
set_option maxRecDepth 20000 in
theorem gX4_doPlain_X4_doRest : GoodIn wsX4_doPlain (wsV RX4 90 RX4 yX4_doRest wsX4_doRest) := goodIn_app (goodIn_r _ [82, 83, 84, 16] (by exact rfl) (by decide +kernel)) ggX4_doPlain_X4_doRest
set_option maxRecDepth 20000 in
theorem ggX4_doPlain_X7_takeFood : GoodIn wsX4_doPlain wsX7_takeFood := goodIn_m (subW_r _ [108, 59, 27, 136, 137, 138, 139, 140, 141, 142, 143] (by exact rfl)) gwd_X7_takeFood
set_option maxRecDepth 20000 in
theorem gX4_doPlain_X7_takeFood : GoodIn wsX4_doPlain (wsV RX4 94 RX7 yX7_takeFood wsX7_takeFood) := goodIn_app (goodIn_r _ [105, 106, 107, 24] (by exact rfl) (by decide +kernel)) ggX4_doPlain_X7_takeFood
set_option maxRecDepth 20000 in
theorem ggX4_doPlain_X4_doLime : GoodIn wsX4_doPlain wsX4_doLime := goodIn_m (subW_r _ [112, 18, 113, 114, 115, 24, 116, 27, 58, 59, 136, 137, 138, 139, 140, 141, 142, 143] (by exact rfl)) gwd_X4_doLime
set_option maxRecDepth 20000 in
theorem gX4_doPlain_X4_doLime : GoodIn wsX4_doPlain (wsV RX4 100 RX4 yX4_doLime wsX4_doLime) := goodIn_app (goodIn_r _ [109, 110, 111, 16] (by exact rfl) (by decide +kernel)) ggX4_doPlain_X4_doLime
set_option maxRecDepth 20000 in
theorem ggX4_doBuilt_X4_doTimes : GoodIn wsX4_doBuilt wsX4_doTimes := goodIn_m (subW_ca (subW_r _ [160, 16, 2, 54, 55, 56, 7, 57, 58, 59, 43, 44, 45, 0, 1, 3, 4, 5, 6, 8, 9, 10, 11, 12, 13, 14, 15, 17, 18, 19, 20, 21, 22, 23, 24, 25, 26, 27, 28, 29, 30, 31, 32, 33, 34, 35, 36, 37, 38, 39, 40, 41, 42, 46, 47, 48, 49, 50, 51, 52, 53, 60, 61, 62, 63, 64, 65, 66, 67, 68, 69, 70, 71, 72, 73, 74, 75, 76, 77, 78, 79, 80, 81, 82, 83, 84, 85, 86, 87, 88, 89, 90, 91, 92, 93, 94, 95, 96, 97, 98, 99, 100, 101, 102, 103, 104, 105, 106, 107, 108, 109, 110, 111, 112, 113, 114, 115, 116, 117, 118, 119, 120, 121, 122, 123, 124, 125, 126, 127, 128, 129, 130, 131, 132, 133, 134, 135, 136, 137, 138, 139, 140, 141, 142, 143, 144, 145, 146, 147, 148, 149, 150, 151, 152, 153, 154, 155, 156, 157, 158, 159, 161, 162, 163, 164, 165, 166, 167, 168, 169, 170, 171, 172, 173, 174, 175, 176, 177, 178, 179, 180, 181, 182, 183, 184, 185, 186, 187, 188, 189, 190, 191, 192, 193, 194, 195, 196, 197, 198] (by exact rfl)) ((fun _ h => List.mem_cons_of_mem _ (List.mem_append_right _ h)))) gwd_X4_doTimes
set_option maxRecDepth 20000 in
theorem gX4_doBuilt_X4_doTimes : GoodIn wsX4_doBuilt (wsV RX4 104 RX4 yX4_doTimes wsX4_doTimes) := goodIn_app (goodIn_r _ [4, 5, 6, 7] (by exact rfl) (by decide +kernel)) ggX4_doBuilt_X4_doTimes
set_option maxRecDepth 20000 in
theorem ggX4_doBuilt_X4_doUntil : GoodIn wsX4_doBuilt wsX4_doUntil := goodIn_m (subW_ca (subW_r _ [162, 59, 16, 2, 54, 55, 56, 7, 57, 58, 28, 29, 30, 31, 32, 33, 34, 43, 44, 45, 0, 1, 3, 4, 5, 6, 8, 9, 10, 11, 12, 13, 14, 15, 17, 18, 19, 20, 21, 22, 23, 24, 25, 26, 27, 35, 36, 37, 38, 39, 40, 41, 42, 46, 47, 48, 49, 50, 51, 52, 53, 60, 61, 62, 63, 64, 65, 66, 67, 68, 69, 70, 71, 72, 73, 74, 75, 76, 77, 78, 79, 80, 81, 82, 83, 84, 85, 86, 87, 88, 89, 90, 91, 92, 93, 94, 95, 96, 97, 98, 99, 100, 101, 102, 103, 104, 105, 106, 107, 108, 109, 110, 111, 112, 113, 114, 115, 116, 117, 118, 119, 120, 121, 122, 123, 124, 125, 126, 127, 128, 129, 130, 131, 132, 133, 134, 135, 136, 137, 138, 139, 140, 141, 142, 143, 144, 145, 146, 147, 148, 149, 150, 151, 152, 153, 154, 155, 156, 157, 158, 159, 160, 161, 163, 164, 165, 166, 167, 168, 169, 170, 171, 172, 173, 174, 175, 176, 177, 178, 179, 180, 181, 182, 183, 184, 185, 186, 187, 188, 189, 190, 191, 192, 193, 194, 195, 196, 197, 198] (by exact rfl)) ((fun _ h => List.mem_cons_of_mem _ (List.mem_append_right _ h)))) gwd_X4_doUntil
set_option maxRecDepth 20000 in
theorem gX4_doBuilt_X4_doUntil : GoodIn wsX4_doBuilt (wsV RX4 107 RX4 yX4_doUntil wsX4_doUntil) := goodIn_app (goodIn_r _ [8, 9, 10, 7] (by exact rfl) (by decide +kernel)) ggX4_doBuilt_X4_doUntil
set_option maxRecDepth 20000 in
theorem ggX4_doBuilt_X4_holds : GoodIn wsX4_doBuilt wsX4_holds := goodIn_m (subW_ca (subW_r _ [14, 15, 16, 17, 18, 19, 7, 20, 21, 22, 23, 24, 25, 26, 27, 28, 29, 30, 31, 32, 33, 34, 35, 36, 37, 38, 39, 40, 41, 42, 164, 165, 166, 167, 168, 169, 170, 171, 172, 173, 174, 175, 176, 177, 178, 179, 180, 181, 182, 183, 184, 185, 186, 187, 188, 189, 190, 191, 192, 193, 194, 195, 196, 197, 198] (by exact rfl)) ((fun _ h => List.mem_cons_of_mem _ (List.mem_append_right _ h)))) gwd_X4_holds
set_option maxRecDepth 20000 in
theorem gX4_doBuilt_X4_holds : GoodIn wsX4_doBuilt (wsV RX4 110 RX4 yX4_holds wsX4_holds) := goodIn_app (goodIn_r _ [11, 12, 13, 7] (by exact rfl) (by decide +kernel)) ggX4_doBuilt_X4_holds
set_option maxRecDepth 20000 in
theorem ggX4_doBuilt_X4_doSteps : GoodIn wsX4_doBuilt wsX4_doSteps := goodIn_m (subW_ca (subW_r _ [52, 1, 53, 54, 55, 56, 7, 57, 58, 59, 60, 61, 62, 63, 23, 24, 16, 35, 36, 37, 38, 39, 40, 41, 42, 64, 65, 66, 67, 68, 69, 70, 71, 72, 73, 74, 75, 76, 77, 78, 79, 80, 81, 82, 83, 84, 85, 31, 86, 33, 87, 34, 88, 89, 90, 91, 92, 93, 94, 95, 96, 97, 98, 99, 100, 101, 102, 103, 104, 105, 106, 107, 108, 109, 110, 22, 111, 112, 113, 114, 115, 116, 117, 118, 119, 120, 121, 122, 123, 124, 125, 126, 127, 128, 129, 130, 131, 132, 133, 134, 135, 136, 137, 138, 139, 140, 141, 142, 143, 144, 145, 146, 147, 148, 149, 150, 151, 152, 153, 154, 155, 156, 157, 158, 159, 0, 2, 3, 4, 5, 6, 8, 9, 10, 11, 12, 13, 14, 15, 17, 18, 19, 20, 21, 25, 26, 27, 28, 29, 30, 32, 43, 44, 45, 46, 47, 48, 49, 50, 51, 160, 161, 162, 163, 164, 165, 166, 167, 168, 169, 170, 171, 172, 173, 174, 175, 176, 177, 178, 179, 180, 181, 182, 183, 184, 185, 186, 187, 188, 189, 190, 191, 192, 193, 194, 195, 196, 197, 198] (by exact rfl)) ((fun _ h => List.mem_cons_of_mem _ (List.mem_append_right _ h)))) gwd_X4_doSteps
set_option maxRecDepth 20000 in
theorem gX4_doBuilt_X4_doSteps : GoodIn wsX4_doBuilt (wsV RX4 34 RX4 yX4_doSteps wsX4_doSteps) := goodIn_app (goodIn_r _ [43, 44, 45, 7] (by exact rfl) (by decide +kernel)) ggX4_doBuilt_X4_doSteps
set_option maxRecDepth 20000 in
theorem ggX4_doBuilt_X4_doTry : GoodIn wsX4_doBuilt wsX4_doTry := goodIn_m (subW_ca (subW_r _ [161, 2, 3, 43, 44, 45, 7, 0, 1, 4, 5, 6, 8, 9, 10, 11, 12, 13, 14, 15, 16, 17, 18, 19, 20, 21, 22, 23, 24, 25, 26, 27, 28, 29, 30, 31, 32, 33, 34, 35, 36, 37, 38, 39, 40, 41, 42, 46, 47, 48, 49, 50, 51, 52, 53, 54, 55, 56, 57, 58, 59, 60, 61, 62, 63, 64, 65, 66, 67, 68, 69, 70, 71, 72, 73, 74, 75, 76, 77, 78, 79, 80, 81, 82, 83, 84, 85, 86, 87, 88, 89, 90, 91, 92, 93, 94, 95, 96, 97, 98, 99, 100, 101, 102, 103, 104, 105, 106, 107, 108, 109, 110, 111, 112, 113, 114, 115, 116, 117, 118, 119, 120, 121, 122, 123, 124, 125, 126, 127, 128, 129, 130, 131, 132, 133, 134, 135, 136, 137, 138, 139, 140, 141, 142, 143, 144, 145, 146, 147, 148, 149, 150, 151, 152, 153, 154, 155, 156, 157, 158, 159, 160, 162, 163, 164, 165, 166, 167, 168, 169, 170, 171, 172, 173, 174, 175, 176, 177, 178, 179, 180, 181, 182, 183, 184, 185, 186, 187, 188, 189, 190, 191, 192, 193, 194, 195, 196, 197, 198] (by exact rfl)) ((fun _ h => List.mem_cons_of_mem _ (List.mem_append_right _ h)))) gwd_X4_doTry
set_option maxRecDepth 20000 in
theorem gX4_doBuilt_X4_doTry : GoodIn wsX4_doBuilt (wsV RX4 120 RX4 yX4_doTry wsX4_doTry) := goodIn_app (goodIn_r _ [46, 47, 48, 7] (by exact rfl) (by decide +kernel)) ggX4_doBuilt_X4_doTry
set_option maxRecDepth 20000 in
theorem ggX4_doBuilt_X4_doWithLast : GoodIn wsX4_doBuilt wsX4_doWithLast := goodIn_m (subW_ca (subW_r _ [163, 2, 3, 43, 44, 45, 7, 0, 1, 4, 5, 6, 8, 9, 10, 11, 12, 13, 14, 15, 16, 17, 18, 19, 20, 21, 22, 23, 24, 25, 26, 27, 28, 29, 30, 31, 32, 33, 34, 35, 36, 37, 38, 39, 40, 41, 42, 46, 47, 48, 49, 50, 51, 52, 53, 54, 55, 56, 57, 58, 59, 60, 61, 62, 63, 64, 65, 66, 67, 68, 69, 70, 71, 72, 73, 74, 75, 76, 77, 78, 79, 80, 81, 82, 83, 84, 85, 86, 87, 88, 89, 90, 91, 92, 93, 94, 95, 96, 97, 98, 99, 100, 101, 102, 103, 104, 105, 106, 107, 108, 109, 110, 111, 112, 113, 114, 115, 116, 117, 118, 119, 120, 121, 122, 123, 124, 125, 126, 127, 128, 129, 130, 131, 132, 133, 134, 135, 136, 137, 138, 139, 140, 141, 142, 143, 144, 145, 146, 147, 148, 149, 150, 151, 152, 153, 154, 155, 156, 157, 158, 159, 160, 161, 162, 164, 165, 166, 167, 168, 169, 170, 171, 172, 173, 174, 175, 176, 177, 178, 179, 180, 181, 182, 183, 184, 185, 186, 187, 188, 189, 190, 191, 192, 193, 194, 195, 196, 197, 198] (by exact rfl)) ((fun _ h => List.mem_cons_of_mem _ (List.mem_append_right _ h)))) gwd_X4_doWithLast
set_option maxRecDepth 20000 in
theorem gX4_doBuilt_X4_doWithLast : GoodIn wsX4_doBuilt (wsV RX4 123 RX4 yX4_doWithLast wsX4_doWithLast) := goodIn_app (goodIn_r _ [49, 50, 51, 7] (by exact rfl) (by decide +kernel)) ggX4_doBuilt_X4_doWithLast
set_option maxRecDepth 20000 in
theorem ggX4_doDip_X7_givesTo : GoodIn wsX4_doDip wsX7_givesTo := goodIn_m (subW_r _ [9, 10, 11, 12, 13, 14, 15, 16, 17, 18, 19, 20, 21, 22, 23, 24, 61, 62, 63, 64, 65, 66, 67, 68, 45, 46, 47, 48, 49, 50, 51, 52] (by exact rfl)) gwd_X7_givesTo
set_option maxRecDepth 20000 in
theorem gX4_doDip_X7_givesTo : GoodIn wsX4_doDip (wsV RX4 129 RX7 yX7_givesTo wsX7_givesTo) := goodIn_app (goodIn_r _ [5, 6, 7, 8] (by exact rfl) (by decide +kernel)) ggX4_doDip_X7_givesTo
set_option maxRecDepth 20000 in
theorem ggX4_doDip_X8_dipInto : GoodIn wsX4_doDip wsX8_dipInto := goodIn_m (subW_r _ [29, 30, 31, 32, 33, 34, 35, 36, 37, 38, 39, 40, 8, 41, 12, 42, 43, 11, 44, 69, 70, 71, 45, 46, 47, 48, 49, 50, 51, 52, 61, 62, 63, 64, 65, 66, 67, 68] (by exact rfl)) gwd_X8_dipInto
set_option maxRecDepth 20000 in
theorem gX4_doDip_X8_dipInto : GoodIn wsX4_doDip (wsV RX4 133 RX8 yX8_dipInto wsX8_dipInto) := goodIn_app (goodIn_r _ [25, 26, 27, 28] (by exact rfl) (by decide +kernel)) ggX4_doDip_X8_dipInto
set_option maxRecDepth 20000 in
theorem ggX4_doAir_X8_airOut : GoodIn wsX4_doAir wsX8_airOut := goodIn_m (subW_r _ [7, 8, 9, 10, 11, 12, 13, 14, 15, 32, 33, 34, 16, 17, 18, 19, 20, 21, 22, 23] (by exact rfl)) gwd_X8_airOut
set_option maxRecDepth 20000 in
theorem gX4_doAir_X8_airOut : GoodIn wsX4_doAir (wsV RX4 142 RX8 yX8_airOut wsX8_airOut) := goodIn_app (goodIn_r _ [3, 4, 5, 6] (by exact rfl) (by decide +kernel)) ggX4_doAir_X8_airOut
set_option maxRecDepth 20000 in
theorem ggX4_doRest_X4_mayCount : GoodIn wsX4_doRest wsX4_mayCount := goodIn_m (subW_r _ [7, 8, 9, 30, 31, 32, 33, 34, 35, 36, 37] (by exact rfl)) gwd_X4_mayCount
set_option maxRecDepth 20000 in
theorem gX4_doRest_X4_mayCount : GoodIn wsX4_doRest (wsV RX4 47 RX4 yX4_mayCount wsX4_mayCount) := goodIn_app (goodIn_r _ [3, 4, 5, 6] (by exact rfl) (by decide +kernel)) ggX4_doRest_X4_mayCount
