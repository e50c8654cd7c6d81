set_option maxRecDepth 20000 in
theorem ggX4_doRest_X8_passHour : GoodIn wsX4_doRest wsX8_passHour := goodIn_m (subW_r _ [14, 15, 16, 17, 18, 19, 20, 21, 22, 23, 24, 25, 26, 27, 28, 29, 38, 39, 40, 41, 42, 43, 44, 45, 46, 47, 48] (by exact rfl)) gwd_X8_passHour
set_option maxRecDepth 20000 in
theorem gX4_doRest_X8_passHour : GoodIn wsX4_doRest (wsV RX4 145 RX8 yX8_passHour wsX8_passHour) := goodIn_app (goodIn_r _ [10, 11, 12, 13] (by exact rfl) (by decide +kernel)) ggX4_doRest_X8_passHour
set_option maxRecDepth 20000 in
theorem ggX4_doLime_X7_takeLime : GoodIn wsX4_doLime wsX7_takeLime := goodIn_m (subW_r _ [6, 7, 8, 9, 10, 11, 12, 13, 14, 15, 16, 17] (by exact rfl)) gwd_X7_takeLime
set_option maxRecDepth 20000 in
theorem gX4_doLime_X7_takeLime : GoodIn wsX4_doLime (wsV RX4 148 RX7 yX7_takeLime wsX7_takeLime) := goodIn_app (goodIn_r _ [2, 3, 4, 5] (by exact rfl) (by decide +kernel)) ggX4_doLime_X7_takeLime
set_option maxRecDepth 20000 in
theorem ggX4_doTimes_X4_mayCount : GoodIn wsX4_doTimes wsX4_mayCount := goodIn_m (subW_r _ [7, 8, 9, 180, 181, 182, 183, 184, 185, 186, 187] (by exact rfl)) gwd_X4_mayCount
set_option maxRecDepth 20000 in
theorem gX4_doTimes_X4_mayCount : GoodIn wsX4_doTimes (wsV RX4 47 RX4 yX4_mayCount wsX4_mayCount) := goodIn_app (goodIn_r _ [3, 4, 5, 6] (by exact rfl) (by decide +kernel)) ggX4_doTimes_X4_mayCount
set_option maxRecDepth 20000 in
theorem ggX4_doTimes_X4_doSteps : GoodIn wsX4_doTimes wsX4_doSteps := goodIn_m (subW_ca (subW_r _ [59, 14, 60, 3, 4, 5, 6, 7, 8, 9, 61, 62, 63, 64, 33, 34, 1, 45, 46, 47, 48, 49, 50, 51, 52, 65, 66, 67, 68, 69, 70, 71, 72, 73, 74, 75, 76, 77, 78, 79, 80, 81, 82, 83, 84, 85, 86, 41, 87, 43, 88, 44, 89, 90, 91, 92, 93, 94, 95, 96, 97, 98, 99, 100, 101, 102, 103, 104, 105, 106, 107, 108, 109, 110, 111, 32, 112, 113, 114, 115, 116, 117, 118, 119, 120, 121, 122, 123, 124, 125, 126, 127, 128, 129, 130, 131, 132, 133, 134, 135, 136, 137, 138, 139, 140, 141, 142, 143, 144, 145, 146, 147, 148, 149, 150, 151, 152, 153, 154, 155, 156, 157, 158, 159, 160, 13, 2, 15, 16, 17, 18, 19, 20, 21, 22, 23, 24, 25, 26, 27, 28, 29, 30, 31, 35, 36, 37, 38, 39, 40, 42, 10, 11, 12, 53, 54, 55, 56, 57, 58, 0, 161, 162, 163, 164, 165, 166, 167, 168, 169, 170, 171, 172, 173, 174, 175, 176, 177, 178, 179, 180, 181, 182, 183, 184, 185, 186, 187, 188, 189, 190, 191, 192, 193, 194, 195, 196, 197, 198] (by exact rfl)) ((fun _ h => List.mem_cons_of_mem _ (List.mem_append_right _ h)))) gwd_X4_doSteps
set_option maxRecDepth 20000 in
theorem gX4_doTimes_X4_doSteps : GoodIn wsX4_doTimes (wsV RX4 34 RX4 yX4_doSteps wsX4_doSteps) := goodIn_app (goodIn_r _ [10, 11, 12, 6] (by exact rfl) (by decide +kernel)) ggX4_doTimes_X4_doSteps
set_option maxRecDepth 20000 in
theorem ggX4_doUntil_X4_mayCount : GoodIn wsX4_doUntil wsX4_mayCount := goodIn_m (subW_r _ [8, 9, 1, 180, 181, 182, 183, 184, 185, 186, 187] (by exact rfl)) gwd_X4_mayCount
set_option maxRecDepth 20000 in
theorem gX4_doUntil_X4_mayCount : GoodIn wsX4_doUntil (wsV RX4 47 RX4 yX4_mayCount wsX4_mayCount) := goodIn_app (goodIn_r _ [4, 5, 6, 7] (by exact rfl) (by decide +kernel)) ggX4_doUntil_X4_mayCount
set_option maxRecDepth 20000 in
theorem ggX4_doUntil_X0_shade : GoodIn wsX4_doUntil wsX0_shade := goodIn_m (subW_r _ [14, 15, 16, 172, 173, 174, 175, 176, 177, 178, 179] (by exact rfl)) gwd_X0_shade
set_option maxRecDepth 20000 in
theorem gX4_doUntil_X0_shade : GoodIn wsX4_doUntil (wsV RX4 151 RX0 yX0_shade wsX0_shade) := goodIn_app (goodIn_r _ [10, 11, 12, 13] (by exact rfl) (by decide +kernel)) ggX4_doUntil_X0_shade
set_option maxRecDepth 20000 in
theorem ggX4_doUntil_X4_doSteps : GoodIn wsX4_doUntil wsX4_doSteps := goodIn_m (subW_ca (subW_r _ [59, 21, 60, 4, 5, 6, 7, 8, 9, 1, 61, 62, 63, 64, 40, 41, 2, 45, 46, 47, 48, 49, 50, 51, 52, 65, 66, 67, 68, 69, 70, 71, 72, 73, 74, 75, 76, 77, 78, 79, 80, 81, 82, 83, 84, 85, 86, 13, 87, 15, 88, 16, 89, 90, 91, 92, 93, 94, 95, 96, 97, 98, 99, 100, 101, 102, 103, 104, 105, 106, 107, 108, 109, 110, 111, 39, 112, 113, 114, 115, 116, 117, 118, 119, 120, 121, 122, 123, 124, 125, 126, 127, 128, 129, 130, 131, 132, 133, 134, 135, 136, 137, 138, 139, 140, 141, 142, 143, 144, 145, 146, 147, 148, 149, 150, 151, 152, 153, 154, 155, 156, 157, 158, 159, 160, 20, 3, 22, 23, 24, 25, 26, 27, 28, 29, 30, 31, 32, 33, 34, 35, 36, 37, 38, 42, 43, 44, 10, 11, 12, 14, 17, 18, 19, 53, 54, 55, 56, 57, 58, 161, 162, 0, 163, 164, 165, 166, 167, 168, 169, 170, 171, 172, 173, 174, 175, 176, 177, 178, 179, 180, 181, 182, 183, 184, 185, 186, 187, 188, 189, 190, 191, 192, 193, 194, 195, 196, 197, 198] (by exact rfl)) ((fun _ h => List.mem_cons_of_mem _ (List.mem_append_right _ h)))) gwd_X4_doSteps
set_option maxRecDepth 20000 in
theorem gX4_doUntil_X4_doSteps : GoodIn wsX4_doUntil (wsV RX4 34 RX4 yX4_doSteps wsX4_doSteps) := goodIn_app (goodIn_r _ [17, 18, 19, 7] (by exact rfl) (by decide +kernel)) ggX4_doUntil_X4_doSteps
set_option maxRecDepth 20000 in
theorem ggX4_doTry_X4_doSteps : GoodIn wsX4_doTry wsX4_doSteps := goodIn_m (subW_ca (subW_r _ [53, 8, 54, 55, 56, 57, 6, 58, 59, 60, 61, 62, 63, 64, 27, 28, 20, 39, 40, 41, 42, 43, 44, 45, 46, 65, 66, 67, 68, 69, 70, 71, 72, 73, 74, 75, 76, 77, 78, 79, 80, 81, 82, 83, 84, 85, 86, 35, 87, 37, 88, 38, 89, 90, 91, 92, 93, 94, 95, 96, 97, 98, 99, 100, 101, 102, 103, 104, 105, 106, 107, 108, 109, 110, 111, 26, 112, 113, 114, 115, 116, 117, 118, 119, 120, 121, 122, 123, 124, 125, 126, 127, 128, 129, 130, 131, 132, 133, 134, 135, 136, 137, 138, 139, 140, 141, 142, 143, 144, 145, 146, 147, 148, 149, 150, 151, 152, 153, 154, 155, 156, 157, 158, 159, 160, 7, 1, 2, 9, 10, 11, 12, 13, 14, 15, 16, 17, 18, 19, 21, 22, 23, 24, 25, 29, 30, 31, 32, 33, 34, 36, 3, 4, 5, 47, 48, 49, 50, 51, 52, 161, 0, 162, 163, 164, 165, 166, 167, 168, 169, 170, 171, 172, 173, 174, 175, 176, 177, 178, 179, 180, 181, 182, 183, 184, 185, 186, 187, 188, 189, 190, 191, 192, 193, 194, 195, 196, 197, 198] (by exact rfl)) ((fun _ h => List.mem_cons_of_mem _ (List.mem_append_right _ h)))) gwd_X4_doSteps
set_option maxRecDepth 20000 in
theorem gX4_doTry_X4_doSteps : GoodIn wsX4_doTry (wsV RX4 34 RX4 yX4_doSteps wsX4_doSteps) := goodIn_app (goodIn_r _ [3, 4, 5, 6] (by exact rfl) (by decide +kernel)) ggX4_doTry_X4_doSteps
set_option maxRecDepth 20000 in
theorem ggX4_doWithLast_X4_doSteps : GoodIn wsX4_doWithLast wsX4_doSteps := goodIn_m (subW_ca (subW_r _ [53, 8, 54, 55, 56, 57, 6, 58, 59, 60, 61, 62, 63, 64, 27, 28, 20, 39, 40, 41, 42, 43, 44, 45, 46, 65, 66, 67, 68, 69, 70, 71, 72, 73, 74, 75, 76, 77, 78, 79, 80, 81, 82, 83, 84, 85, 86, 35, 87, 37, 88, 38, 89, 90, 91, 92, 93, 94, 95, 96, 97, 98, 99, 100, 101, 102, 103, 104, 105, 106, 107, 108, 109, 110, 111, 26, 112, 113, 114, 115, 116, 117, 118, 119, 120, 121, 122, 123, 124, 125, 126, 127, 128, 129, 130, 131, 132, 133, 134, 135, 136, 137, 138, 139, 140, 141, 142, 143, 144, 145, 146, 147, 148, 149, 150, 151, 152, 153, 154, 155, 156, 157, 158, 159, 160, 7, 1, 2, 9, 10, 11, 12, 13, 14, 15, 16, 17, 18, 19, 21, 22, 23, 24, 25, 29, 30, 31, 32, 33, 34, 36, 3, 4, 5, 47, 48, 49, 50, 51, 52, 161, 162, 163, 0, 164, 165, 166, 167, 168, 169, 170, 171, 172, 173, 174, 175, 176, 177, 178, 179, 180, 181, 182, 183, 184, 185, 186, 187, 188, 189, 190, 191, 192, 193, 194, 195, 196, 197, 198] (by exact rfl)) ((fun _ h => List.mem_cons_of_mem _ (List.mem_append_right _ h)))) gwd_X4_doSteps
set_option maxRecDepth 20000 in
theorem gX4_doWithLast_X4_doSteps : GoodIn wsX4_doWithLast (wsV RX4 34 RX4 yX4_doSteps wsX4_doSteps) := goodIn_app (goodIn_r _ [3, 4, 5, 6] (by exact rfl) (by decide +kernel)) ggX4_doWithLast_X4_doSteps
set_option maxRecDepth 20000 in
theorem ggX4_holds_X4_lookAt : GoodIn wsX4_holds wsX4_lookAt := goodIn_m (subW_ca (subW_r _ [7, 8, 9, 10, 11, 12, 13, 14, 15, 16, 17, 18, 19, 20, 21, 22, 23, 24, 25, 26, 27, 28, 29, 30, 31, 32, 33, 34, 35, 36, 37, 38, 39, 40, 41, 42, 43, 44, 45, 46, 47, 48, 49, 50, 51, 52, 53, 54, 55, 56, 57, 58, 59, 60, 61, 62, 63, 64] (by exact rfl)) ((fun _ h => List.mem_cons_of_mem _ (List.mem_append_right _ h)))) gwd_X4_lookAt
set_option maxRecDepth 20000 in
theorem gX4_holds_X4_lookAt : GoodIn wsX4_holds (wsV RX4 155 RX4 yX4_lookAt wsX4_lookAt) := goodIn_app (goodIn_r _ [3, 4, 5, 6] (by exact rfl) (by decide +kernel)) ggX4_holds_X4_lookAt
set_option maxRecDepth 20000 in
theorem ggX4_lookAt_X0_shade : GoodIn wsX4_lookAt wsX0_shade := goodIn_m (subW_r _ [12, 13, 14, 31, 32, 33, 34, 35, 36, 37, 38] (by exact rfl)) gwd_X0_shade
set_option maxRecDepth 20000 in
theorem gX4_lookAt_X0_shade : GoodIn wsX4_lookAt (wsV RX4 151 RX0 yX0_shade wsX0_shade) := goodIn_app (goodIn_r _ [8, 9, 10, 11] (by exact rfl) (by decide +kernel)) ggX4_lookAt_X0_shade
set_option maxRecDepth 20000 in
theorem ggX4_lookAt_X8_vatAt : GoodIn wsX4_lookAt wsX8_vatAt := goodIn_m (subW_ca (subW_r _ [19, 20, 21, 22, 55, 56, 57] (by exact rfl)) ((fun _ h => List.mem_cons_of_mem _ (List.mem_append_right _ h)))) gwd_X8_vatAt
set_option maxRecDepth 20000 in
theorem gX4_lookAt_X8_vatAt : GoodIn wsX4_lookAt (wsV RX4 70 RX8 yX8_vatAt wsX8_vatAt) := goodIn_app (goodIn_r _ [15, 16, 17, 18] (by exact rfl) (by decide +kernel)) ggX4_lookAt_X8_vatAt
set_option maxRecDepth 20000 in
theorem ggX6_split_X6_byteAt : GoodIn wsX6_split wsX6_byteAt := goodIn_m (subW_r _ [16, 9, 1, 105, 106, 107, 108, 109, 110, 111] (by exact rfl)) gwd_X6_byteAt
set_option maxRecDepth 20000 in
theorem gX6_split_X6_byteAt : GoodIn wsX6_split (wsV RX6 44 RX6 yX6_byteAt wsX6_byteAt) := goodIn_app (goodIn_r _ [12, 13, 14, 15] (by exact rfl) (by decide +kernel)) ggX6_split_X6_byteAt
set_option maxRecDepth 20000 in
theorem ggX6_split_X6_isBlank : GoodIn wsX6_split wsX6_isBlank := goodIn_m (subW_r _ [19] (by exact rfl)) gwd_X6_isBlank
set_option maxRecDepth 20000 in
theorem gX6_split_X6_isBlank : GoodIn wsX6_split (va_wsS RX6 48 yX6_isBlank wsX6_isBlank) := goodIn_app (goodIn_r _ [17, 18, 15] (by exact rfl) (by decide +kernel)) ggX6_split_X6_isBlank
set_option maxRecDepth 20000 in
theorem ggX6_split_X6_addToken : GoodIn wsX6_split wsX6_addToken := goodIn_m (subW_r _ [23, 10, 12, 13, 14, 15, 16, 9, 1, 24, 25, 26, 27, 28, 29, 30, 31, 32, 33, 34, 35, 36, 37, 38, 39, 40, 41, 42, 43, 44, 45, 46, 47, 48, 49, 50, 51, 52, 53, 54, 55, 56, 57, 58, 59, 60, 61, 62, 63, 64, 65, 66, 67, 68, 69, 70, 71, 72, 73, 74, 75, 76, 77, 78, 79, 80, 81, 82, 83, 84, 85, 86, 87, 88, 89, 90, 91, 11, 92, 93, 94, 95, 96, 97, 98, 99, 100, 101, 102, 103, 104, 105, 106, 107, 108, 109, 110, 111] (by exact rfl)) gwd_X6_addToken
set_option maxRecDepth 20000 in
theorem gX6_split_X6_addToken : GoodIn wsX6_split (wsV RX6 52 RX6 yX6_addToken wsX6_addToken) := goodIn_app (goodIn_r _ [20, 21, 22, 15] (by exact rfl) (by decide +kernel)) ggX6_split_X6_addToken
set_option maxRecDepth 20000 in
theorem ggX6_split_X6_keep : GoodIn wsX6_split wsX6_keep := goodIn_m (subW_r _ [91, 11, 92, 93, 94, 105, 106, 107, 108, 109, 110, 111] (by exact rfl)) gwd_X6_keep
set_option maxRecDepth 20000 in
theorem gX6_split_X6_keep : GoodIn wsX6_split (wsV RX6 55 RX6 yX6_keep wsX6_keep) := goodIn_app (goodIn_r _ [88, 89, 90, 15] (by exact rfl) (by decide +kernel)) ggX6_split_X6_keep
set_option maxRecDepth 20000 in
theorem ggX6_addToken_X6_byteAt : GoodIn wsX6_addToken wsX6_byteAt := goodIn_m (subW_r _ [6, 7, 8, 91, 92, 93, 94, 95, 96, 97] (by exact rfl)) gwd_X6_byteAt
set_option maxRecDepth 20000 in
theorem gX6_addToken_X6_byteAt : GoodIn wsX6_addToken (wsV RX6 44 RX6 yX6_byteAt wsX6_byteAt) := goodIn_app (goodIn_r _ [2, 3, 4, 5] (by exact rfl) (by decide +kernel)) ggX6_addToken_X6_byteAt
set_option maxRecDepth 20000 in
theorem ggX6_addToken_X6_isLetter : GoodIn wsX6_addToken wsX6_isLetter := goodIn_m (subW_r _ [11] (by exact rfl)) gwd_X6_isLetter
set_option maxRecDepth 20000 in
theorem gX6_addToken_X6_isLetter : GoodIn wsX6_addToken (va_wsS RX6 59 yX6_isLetter wsX6_isLetter) := goodIn_app (goodIn_r _ [9, 10, 5] (by exact rfl) (by decide +kernel)) ggX6_addToken_X6_isLetter
set_option maxRecDepth 20000 in
theorem ggX6_addToken_X6_addLetters : GoodIn wsX6_addToken wsX6_addLetters := goodIn_m (subW_r _ [15, 1, 7, 2, 3, 4, 5, 6, 8, 9, 10, 11, 16, 17, 18, 19, 20, 21, 22, 23, 24, 25, 26, 27, 28, 29, 30, 31, 32, 33, 34, 35, 36, 37, 38, 39, 40, 41, 42, 43, 44, 45, 46, 47, 48, 49, 50, 51, 52, 53, 54, 55, 56, 57, 58, 59, 60, 61, 62, 63, 64, 65, 66, 67, 68, 69, 70, 71, 72, 73, 74, 75, 76, 77, 78, 79, 80, 91, 92, 93, 94, 95, 96, 97] (by exact rfl)) gwd_X6_addLetters
set_option maxRecDepth 20000 in
theorem gX6_addToken_X6_addLetters : GoodIn wsX6_addToken (wsV RX6 62 RX6 yX6_addLetters wsX6_addLetters) := goodIn_app (goodIn_r _ [12, 13, 14, 5] (by exact rfl) (by decide +kernel)) ggX6_addToken_X6_addLetters
set_option maxRecDepth 20000 in
theorem ggX6_addToken_X6_isDigit : GoodIn wsX6_addToken wsX6_isDigit := goodIn_m (subW_r _ [83] (by exact rfl)) gwd_X6_isDigit
set_option maxRecDepth 20000 in
theorem gX6_addToken_X6_isDigit : GoodIn wsX6_addToken (va_wsS RX6 65 yX6_isDigit wsX6_isDigit) := goodIn_app (goodIn_r _ [81, 82, 5] (by exact rfl) (by decide +kernel)) ggX6_addToken_X6_isDigit
set_option maxRecDepth 20000 in
theorem ggX6_addToken_X6_addDigits : GoodIn wsX6_addToken wsX6_addDigits := goodIn_m (subW_r _ [87, 1, 7, 2, 3, 4, 5, 6, 8, 81, 82, 83, 73, 74, 75, 76, 77, 78, 79, 80, 91, 92, 93, 94, 95, 96, 97] (by exact rfl)) gwd_X6_addDigits
set_option maxRecDepth 20000 in
theorem gX6_addToken_X6_addDigits : GoodIn wsX6_addToken (wsV RX6 68 RX6 yX6_addDigits wsX6_addDigits) := goodIn_app (goodIn_r _ [84, 85, 86, 5] (by exact rfl) (by decide +kernel)) ggX6_addToken_X6_addDigits
set_option maxRecDepth 20000 in
theorem ggX6_addToken_X6_isSign : GoodIn wsX6_addToken wsX6_isSign := goodIn_m (subW_r _ [90] (by exact rfl)) gwd_X6_isSign
set_option maxRecDepth 20000 in
theorem gX6_addToken_X6_isSign : GoodIn wsX6_addToken (va_wsS RX6 71 yX6_isSign wsX6_isSign) := goodIn_app (goodIn_r _ [88, 89, 5] (by exact rfl) (by decide +kernel)) ggX6_addToken_X6_isSign
set_option maxRecDepth 20000 in
theorem ggX6_addToken_X6_keep : GoodIn wsX6_addToken wsX6_keep := goodIn_m (subW_r _ [76, 77, 78, 79, 80, 91, 92, 93, 94, 95, 96, 97] (by exact rfl)) gwd_X6_keep
set_option maxRecDepth 20000 in
theorem gX6_addToken_X6_keep : GoodIn wsX6_addToken (wsV RX6 55 RX6 yX6_keep wsX6_keep) := goodIn_app (goodIn_r _ [73, 74, 75, 5] (by exact rfl) (by decide +kernel)) ggX6_addToken_X6_keep
set_option maxRecDepth 20000 in
theorem ggX6_addLetters_X6_byteAt : GoodIn wsX6_addLetters wsX6_byteAt := goodIn_m (subW_r _ [7, 2, 8, 77, 78, 79, 80, 81, 82, 83] (by exact rfl)) gwd_X6_byteAt
set_option maxRecDepth 20000 in
theorem gX6_addLetters_X6_byteAt : GoodIn wsX6_addLetters (wsV RX6 44 RX6 yX6_byteAt wsX6_byteAt) := goodIn_app (goodIn_r _ [3, 4, 5, 6] (by exact rfl) (by decide +kernel)) ggX6_addLetters_X6_byteAt
set_option maxRecDepth 20000 in
theorem ggX6_addLetters_X6_isLetter : GoodIn wsX6_addLetters wsX6_isLetter := goodIn_m (subW_r _ [11] (by exact rfl)) gwd_X6_isLetter
set_option maxRecDepth 20000 in
theorem gX6_addLetters_X6_isLetter : GoodIn wsX6_addLetters (va_wsS RX6 59 yX6_isLetter wsX6_isLetter) := goodIn_app (goodIn_r _ [9, 10, 6] (by exact rfl) (by decide +kernel)) ggX6_addLetters_X6_isLetter
set_option maxRecDepth 20000 in
theorem ggX6_addLetters_X6_wordNumber : GoodIn wsX6_addLetters wsX6_wordNumber := goodIn_m (subW_r _ [15, 16, 17, 18, 19, 20, 21, 22, 23, 24, 25, 26, 27, 28, 29, 30, 31, 32, 33, 34, 35, 36, 37, 38, 39, 40, 41, 42, 43, 44, 45, 46, 47, 48, 49, 50, 51, 52, 53, 54, 55, 56, 57, 58, 59, 60, 61, 62, 63, 64, 65, 66, 67, 6, 68, 1, 3, 4, 5, 7, 2, 8, 77, 78, 79, 80, 81, 82, 83] (by exact rfl)) gwd_X6_wordNumber
set_option maxRecDepth 20000 in
theorem gX6_addLetters_X6_wordNumber : GoodIn wsX6_addLetters (wsV RX6 74 RX6 yX6_wordNumber wsX6_wordNumber) := goodIn_app (goodIn_r _ [12, 13, 14, 6] (by exact rfl) (by decide +kernel)) ggX6_addLetters_X6_wordNumber
set_option maxRecDepth 20000 in
theorem ggX6_addLetters_X6_keep : GoodIn wsX6_addLetters wsX6_keep := goodIn_m (subW_r _ [72, 73, 74, 75, 76, 77, 78, 79, 80, 81, 82, 83] (by exact rfl)) gwd_X6_keep
set_option maxRecDepth 20000 in
theorem gX6_addLetters_X6_keep : GoodIn wsX6_addLetters (wsV RX6 55 RX6 yX6_keep wsX6_keep) := goodIn_app (goodIn_r _ [69, 70, 71, 6] (by exact rfl) (by decide +kernel)) ggX6_addLetters_X6_keep
set_option maxRecDepth 20000 in
theorem ggX6_addDigits_X6_byteAt : GoodIn wsX6_addDigits wsX6_byteAt := goodIn_m (subW_r _ [7, 2, 8, 20, 21, 22, 23, 24, 25, 26] (by exact rfl)) gwd_X6_byteAt
set_option maxRecDepth 20000 in
theorem gX6_addDigits_X6_byteAt : GoodIn wsX6_addDigits (wsV RX6 44 RX6 yX6_byteAt wsX6_byteAt) := goodIn_app (goodIn_r _ [3, 4, 5, 6] (by exact rfl) (by decide +kernel)) ggX6_addDigits_X6_byteAt
set_option maxRecDepth 20000 in
theorem ggX6_addDigits_X6_isDigit : GoodIn wsX6_addDigits wsX6_isDigit := goodIn_m (subW_r _ [11] (by exact rfl)) gwd_X6_isDigit
set_option maxRecDepth 20000 in
theorem gX6_addDigits_X6_isDigit : GoodIn wsX6_addDigits (va_wsS RX6 65 yX6_isDigit wsX6_isDigit) := goodIn_app (goodIn_r _ [9, 10, 6] (by exact rfl) (by decide +kernel)) ggX6_addDigits_X6_isDigit
set_option maxRecDepth 20000 in
theorem ggX6_addDigits_X6_keep : GoodIn wsX6_addDigits wsX6_keep := goodIn_m (subW_r _ [15, 16, 17, 18, 19, 20, 21, 22, 23, 24, 25, 26] (by exact rfl)) gwd_X6_keep
set_option maxRecDepth 20000 in
theorem gX6_addDigits_X6_keep : GoodIn wsX6_addDigits (wsV RX6 55 RX6 yX6_keep wsX6_keep) := goodIn_app (goodIn_r _ [12, 13, 14, 6] (by exact rfl) (by decide +kernel)) ggX6_addDigits_X6_keep
