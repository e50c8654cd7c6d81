set_option maxRecDepth 20000 in
theorem ggX4_doRest_X8_passHour : GoodIn wsX4_doRest wsX8_passHour := goodIn_m (subW_q _ [(14, 16), (38, 11)] (by exact rfl)) gwd_X8_passHour
set_option maxRecDepth 20000 in
theorem gX4_doRest_X8_passHour : GoodIn wsX4_doRest (wsV RX4 145 RX8 yX8_passHour wsX8_passHour) := goodIn_app (goodIn_r _ [10, 11, 12, 13] (by exact rfl) (by decide +kernel)) ggX4_doRest_X8_passHour
set_option maxRecDepth 20000 in
theorem ggX4_doLime_X7_takeLime : GoodIn wsX4_doLime wsX7_takeLime := goodIn_m (subW_q _ [(6, 12)] (by exact rfl)) gwd_X7_takeLime
set_option maxRecDepth 20000 in
theorem gX4_doLime_X7_takeLime : GoodIn wsX4_doLime (wsV RX4 148 RX7 yX7_takeLime wsX7_takeLime) := goodIn_app (goodIn_r _ [2, 3, 4, 5] (by exact rfl) (by decide +kernel)) ggX4_doLime_X7_takeLime
set_option maxRecDepth 20000 in
theorem ggX4_doTimes_X4_mayCount : GoodIn wsX4_doTimes wsX4_mayCount := goodIn_m (subW_q _ [(7, 3), (180, 8)] (by exact rfl)) gwd_X4_mayCount
set_option maxRecDepth 20000 in
theorem gX4_doTimes_X4_mayCount : GoodIn wsX4_doTimes (wsV RX4 47 RX4 yX4_mayCount wsX4_mayCount) := goodIn_app (goodIn_r _ [3, 4, 5, 6] (by exact rfl) (by decide +kernel)) ggX4_doTimes_X4_mayCount
set_option maxRecDepth 20000 in
theorem ggX4_doTimes_X4_doSteps : GoodIn wsX4_doTimes wsX4_doSteps := goodIn_m (subW_ca (subW_q _ [(59, 1), (14, 1), (60, 1), (3, 7), (61, 4), (33, 2), (1, 1), (45, 8), (65, 22), (41, 1), (87, 1), (43, 1), (88, 1), (44, 1), (89, 23), (32, 1), (112, 49), (13, 1), (2, 1), (15, 17), (35, 6), (42, 1), (10, 3), (53, 6), (0, 1), (161, 38)] (by exact rfl)) ((fun _ h => List.mem_cons_of_mem _ (List.mem_append_right _ h)))) gwd_X4_doSteps
set_option maxRecDepth 20000 in
theorem gX4_doTimes_X4_doSteps : GoodIn wsX4_doTimes (wsV RX4 34 RX4 yX4_doSteps wsX4_doSteps) := goodIn_app (goodIn_r _ [10, 11, 12, 6] (by exact rfl) (by decide +kernel)) ggX4_doTimes_X4_doSteps
set_option maxRecDepth 20000 in
theorem ggX4_doUntil_X4_mayCount : GoodIn wsX4_doUntil wsX4_mayCount := goodIn_m (subW_q _ [(8, 2), (1, 1), (180, 8)] (by exact rfl)) gwd_X4_mayCount
set_option maxRecDepth 20000 in
theorem gX4_doUntil_X4_mayCount : GoodIn wsX4_doUntil (wsV RX4 47 RX4 yX4_mayCount wsX4_mayCount) := goodIn_app (goodIn_r _ [4, 5, 6, 7] (by exact rfl) (by decide +kernel)) ggX4_doUntil_X4_mayCount
set_option maxRecDepth 20000 in
theorem ggX4_doUntil_X0_shade : GoodIn wsX4_doUntil wsX0_shade := goodIn_m (subW_q _ [(14, 3), (172, 8)] (by exact rfl)) gwd_X0_shade
set_option maxRecDepth 20000 in
theorem gX4_doUntil_X0_shade : GoodIn wsX4_doUntil (wsV RX4 151 RX0 yX0_shade wsX0_shade) := goodIn_app (goodIn_r _ [10, 11, 12, 13] (by exact rfl) (by decide +kernel)) ggX4_doUntil_X0_shade
set_option maxRecDepth 20000 in
theorem ggX4_doUntil_X4_doSteps : GoodIn wsX4_doUntil wsX4_doSteps := goodIn_m (subW_ca (subW_q _ [(59, 1), (21, 1), (60, 1), (4, 6), (1, 1), (61, 4), (40, 2), (2, 1), (45, 8), (65, 22), (13, 1), (87, 1), (15, 1), (88, 1), (16, 1), (89, 23), (39, 1), (112, 49), (20, 1), (3, 1), (22, 17), (42, 3), (10, 3), (14, 1), (17, 3), (53, 6), (161, 2), (0, 1), (163, 36)] (by exact rfl)) ((fun _ h => List.mem_cons_of_mem _ (List.mem_append_right _ h)))) gwd_X4_doSteps
set_option maxRecDepth 20000 in
theorem gX4_doUntil_X4_doSteps : GoodIn wsX4_doUntil (wsV RX4 34 RX4 yX4_doSteps wsX4_doSteps) := goodIn_app (goodIn_r _ [17, 18, 19, 7] (by exact rfl) (by decide +kernel)) ggX4_doUntil_X4_doSteps
set_option maxRecDepth 20000 in
theorem ggX4_doTry_X4_doSteps : GoodIn wsX4_doTry wsX4_doSteps := goodIn_m (subW_ca (subW_q _ [(53, 1), (8, 1), (54, 4), (6, 1), (58, 7), (27, 2), (20, 1), (39, 8), (65, 22), (35, 1), (87, 1), (37, 1), (88, 1), (38, 1), (89, 23), (26, 1), (112, 49), (7, 1), (1, 2), (9, 11), (21, 5), (29, 6), (36, 1), (3, 3), (47, 6), (161, 1), (0, 1), (162, 37)] (by exact rfl)) ((fun _ h => List.mem_cons_of_mem _ (List.mem_append_right _ h)))) gwd_X4_doSteps
set_option maxRecDepth 20000 in
theorem gX4_doTry_X4_doSteps : GoodIn wsX4_doTry (wsV RX4 34 RX4 yX4_doSteps wsX4_doSteps) := goodIn_app (goodIn_r _ [3, 4, 5, 6] (by exact rfl) (by decide +kernel)) ggX4_doTry_X4_doSteps
set_option maxRecDepth 20000 in
theorem ggX4_doWithLast_X4_doSteps : GoodIn wsX4_doWithLast wsX4_doSteps := goodIn_m (subW_ca (subW_q _ [(53, 1), (8, 1), (54, 4), (6, 1), (58, 7), (27, 2), (20, 1), (39, 8), (65, 22), (35, 1), (87, 1), (37, 1), (88, 1), (38, 1), (89, 23), (26, 1), (112, 49), (7, 1), (1, 2), (9, 11), (21, 5), (29, 6), (36, 1), (3, 3), (47, 6), (161, 3), (0, 1), (164, 35)] (by exact rfl)) ((fun _ h => List.mem_cons_of_mem _ (List.mem_append_right _ h)))) gwd_X4_doSteps
set_option maxRecDepth 20000 in
theorem gX4_doWithLast_X4_doSteps : GoodIn wsX4_doWithLast (wsV RX4 34 RX4 yX4_doSteps wsX4_doSteps) := goodIn_app (goodIn_r _ [3, 4, 5, 6] (by exact rfl) (by decide +kernel)) ggX4_doWithLast_X4_doSteps
set_option maxRecDepth 20000 in
theorem ggX4_holds_X4_lookAt : GoodIn wsX4_holds wsX4_lookAt := goodIn_m (subW_ca (subW_q _ [(7, 58)] (by exact rfl)) ((fun _ h => List.mem_cons_of_mem _ (List.mem_append_right _ h)))) gwd_X4_lookAt
set_option maxRecDepth 20000 in
theorem gX4_holds_X4_lookAt : GoodIn wsX4_holds (wsV RX4 155 RX4 yX4_lookAt wsX4_lookAt) := goodIn_app (goodIn_r _ [3, 4, 5, 6] (by exact rfl) (by decide +kernel)) ggX4_holds_X4_lookAt
set_option maxRecDepth 20000 in
theorem ggX4_lookAt_X0_shade : GoodIn wsX4_lookAt wsX0_shade := goodIn_m (subW_q _ [(12, 3), (31, 8)] (by exact rfl)) gwd_X0_shade
set_option maxRecDepth 20000 in
theorem gX4_lookAt_X0_shade : GoodIn wsX4_lookAt (wsV RX4 151 RX0 yX0_shade wsX0_shade) := goodIn_app (goodIn_r _ [8, 9, 10, 11] (by exact rfl) (by decide +kernel)) ggX4_lookAt_X0_shade
set_option maxRecDepth 20000 in
theorem ggX4_lookAt_X8_vatAt : GoodIn wsX4_lookAt wsX8_vatAt := goodIn_m (subW_ca (subW_q _ [(19, 4), (55, 3)] (by exact rfl)) ((fun _ h => List.mem_cons_of_mem _ (List.mem_append_right _ h)))) gwd_X8_vatAt
set_option maxRecDepth 20000 in
theorem gX4_lookAt_X8_vatAt : GoodIn wsX4_lookAt (wsV RX4 70 RX8 yX8_vatAt wsX8_vatAt) := goodIn_app (goodIn_r _ [15, 16, 17, 18] (by exact rfl) (by decide +kernel)) ggX4_lookAt_X8_vatAt
set_option maxRecDepth 20000 in
theorem ggX6_split_X6_byteAt : GoodIn wsX6_split wsX6_byteAt := goodIn_m (subW_q _ [(16, 1), (9, 1), (1, 1), (105, 7)] (by exact rfl)) gwd_X6_byteAt
set_option maxRecDepth 20000 in
theorem gX6_split_X6_byteAt : GoodIn wsX6_split (wsV RX6 44 RX6 yX6_byteAt wsX6_byteAt) := goodIn_app (goodIn_r _ [12, 13, 14, 15] (by exact rfl) (by decide +kernel)) ggX6_split_X6_byteAt
set_option maxRecDepth 20000 in
theorem ggX6_split_X6_isBlank : GoodIn wsX6_split wsX6_isBlank := goodIn_m (subW_q _ [(19, 1)] (by exact rfl)) gwd_X6_isBlank
set_option maxRecDepth 20000 in
theorem gX6_split_X6_isBlank : GoodIn wsX6_split (va_wsS RX6 48 yX6_isBlank wsX6_isBlank) := goodIn_app (goodIn_r _ [17, 18, 15] (by exact rfl) (by decide +kernel)) ggX6_split_X6_isBlank
set_option maxRecDepth 20000 in
theorem ggX6_split_X6_addToken : GoodIn wsX6_split wsX6_addToken := goodIn_m (subW_q _ [(23, 1), (10, 1), (12, 5), (9, 1), (1, 1), (24, 68), (11, 1), (92, 20)] (by exact rfl)) gwd_X6_addToken
set_option maxRecDepth 20000 in
theorem gX6_split_X6_addToken : GoodIn wsX6_split (wsV RX6 52 RX6 yX6_addToken wsX6_addToken) := goodIn_app (goodIn_r _ [20, 21, 22, 15] (by exact rfl) (by decide +kernel)) ggX6_split_X6_addToken
set_option maxRecDepth 20000 in
theorem ggX6_split_X6_keep : GoodIn wsX6_split wsX6_keep := goodIn_m (subW_q _ [(91, 1), (11, 1), (92, 3), (105, 7)] (by exact rfl)) gwd_X6_keep
set_option maxRecDepth 20000 in
theorem gX6_split_X6_keep : GoodIn wsX6_split (wsV RX6 55 RX6 yX6_keep wsX6_keep) := goodIn_app (goodIn_r _ [88, 89, 90, 15] (by exact rfl) (by decide +kernel)) ggX6_split_X6_keep
set_option maxRecDepth 20000 in
theorem ggX6_addToken_X6_byteAt : GoodIn wsX6_addToken wsX6_byteAt := goodIn_m (subW_q _ [(6, 3), (91, 7)] (by exact rfl)) gwd_X6_byteAt
set_option maxRecDepth 20000 in
theorem gX6_addToken_X6_byteAt : GoodIn wsX6_addToken (wsV RX6 44 RX6 yX6_byteAt wsX6_byteAt) := goodIn_app (goodIn_r _ [2, 3, 4, 5] (by exact rfl) (by decide +kernel)) ggX6_addToken_X6_byteAt
set_option maxRecDepth 20000 in
theorem ggX6_addToken_X6_isLetter : GoodIn wsX6_addToken wsX6_isLetter := goodIn_m (subW_q _ [(11, 1)] (by exact rfl)) gwd_X6_isLetter
set_option maxRecDepth 20000 in
theorem gX6_addToken_X6_isLetter : GoodIn wsX6_addToken (va_wsS RX6 59 yX6_isLetter wsX6_isLetter) := goodIn_app (goodIn_r _ [9, 10, 5] (by exact rfl) (by decide +kernel)) ggX6_addToken_X6_isLetter
set_option maxRecDepth 20000 in
theorem ggX6_addToken_X6_addLetters : GoodIn wsX6_addToken wsX6_addLetters := goodIn_m (subW_q _ [(15, 1), (1, 1), (7, 1), (2, 5), (8, 4), (16, 65), (91, 7)] (by exact rfl)) gwd_X6_addLetters
set_option maxRecDepth 20000 in
theorem gX6_addToken_X6_addLetters : GoodIn wsX6_addToken (wsV RX6 62 RX6 yX6_addLetters wsX6_addLetters) := goodIn_app (goodIn_r _ [12, 13, 14, 5] (by exact rfl) (by decide +kernel)) ggX6_addToken_X6_addLetters
set_option maxRecDepth 20000 in
theorem ggX6_addToken_X6_isDigit : GoodIn wsX6_addToken wsX6_isDigit := goodIn_m (subW_q _ [(83, 1)] (by exact rfl)) gwd_X6_isDigit
set_option maxRecDepth 20000 in
theorem gX6_addToken_X6_isDigit : GoodIn wsX6_addToken (va_wsS RX6 65 yX6_isDigit wsX6_isDigit) := goodIn_app (goodIn_r _ [81, 82, 5] (by exact rfl) (by decide +kernel)) ggX6_addToken_X6_isDigit
set_option maxRecDepth 20000 in
theorem ggX6_addToken_X6_addDigits : GoodIn wsX6_addToken wsX6_addDigits := goodIn_m (subW_q _ [(87, 1), (1, 1), (7, 1), (2, 5), (8, 1), (81, 3), (73, 8), (91, 7)] (by exact rfl)) gwd_X6_addDigits
set_option maxRecDepth 20000 in
theorem gX6_addToken_X6_addDigits : GoodIn wsX6_addToken (wsV RX6 68 RX6 yX6_addDigits wsX6_addDigits) := goodIn_app (goodIn_r _ [84, 85, 86, 5] (by exact rfl) (by decide +kernel)) ggX6_addToken_X6_addDigits
set_option maxRecDepth 20000 in
theorem ggX6_addToken_X6_isSign : GoodIn wsX6_addToken wsX6_isSign := goodIn_m (subW_q _ [(90, 1)] (by exact rfl)) gwd_X6_isSign
set_option maxRecDepth 20000 in
theorem gX6_addToken_X6_isSign : GoodIn wsX6_addToken (va_wsS RX6 71 yX6_isSign wsX6_isSign) := goodIn_app (goodIn_r _ [88, 89, 5] (by exact rfl) (by decide +kernel)) ggX6_addToken_X6_isSign
set_option maxRecDepth 20000 in
theorem ggX6_addToken_X6_keep : GoodIn wsX6_addToken wsX6_keep := goodIn_m (subW_q _ [(76, 5), (91, 7)] (by exact rfl)) gwd_X6_keep
set_option maxRecDepth 20000 in
theorem gX6_addToken_X6_keep : GoodIn wsX6_addToken (wsV RX6 55 RX6 yX6_keep wsX6_keep) := goodIn_app (goodIn_r _ [73, 74, 75, 5] (by exact rfl) (by decide +kernel)) ggX6_addToken_X6_keep
set_option maxRecDepth 20000 in
theorem ggX6_addLetters_X6_byteAt : GoodIn wsX6_addLetters wsX6_byteAt := goodIn_m (subW_q _ [(7, 1), (2, 1), (8, 1), (77, 7)] (by exact rfl)) gwd_X6_byteAt
set_option maxRecDepth 20000 in
theorem gX6_addLetters_X6_byteAt : GoodIn wsX6_addLetters (wsV RX6 44 RX6 yX6_byteAt wsX6_byteAt) := goodIn_app (goodIn_r _ [3, 4, 5, 6] (by exact rfl) (by decide +kernel)) ggX6_addLetters_X6_byteAt
set_option maxRecDepth 20000 in
theorem ggX6_addLetters_X6_isLetter : GoodIn wsX6_addLetters wsX6_isLetter := goodIn_m (subW_q _ [(11, 1)] (by exact rfl)) gwd_X6_isLetter
set_option maxRecDepth 20000 in
theorem gX6_addLetters_X6_isLetter : GoodIn wsX6_addLetters (va_wsS RX6 59 yX6_isLetter wsX6_isLetter) := goodIn_app (goodIn_r _ [9, 10, 6] (by exact rfl) (by decide +kernel)) ggX6_addLetters_X6_isLetter
set_option maxRecDepth 20000 in
theorem ggX6_addLetters_X6_wordNumber : GoodIn wsX6_addLetters wsX6_wordNumber := goodIn_m (subW_q _ [(15, 53), (6, 1), (68, 1), (1, 1), (3, 3), (7, 1), (2, 1), (8, 1), (77, 7)] (by exact rfl)) gwd_X6_wordNumber
set_option maxRecDepth 20000 in
theorem gX6_addLetters_X6_wordNumber : GoodIn wsX6_addLetters (wsV RX6 74 RX6 yX6_wordNumber wsX6_wordNumber) := goodIn_app (goodIn_r _ [12, 13, 14, 6] (by exact rfl) (by decide +kernel)) ggX6_addLetters_X6_wordNumber
set_option maxRecDepth 20000 in
theorem ggX6_addLetters_X6_keep : GoodIn wsX6_addLetters wsX6_keep := goodIn_m (subW_q _ [(72, 12)] (by exact rfl)) gwd_X6_keep
set_option maxRecDepth 20000 in
theorem gX6_addLetters_X6_keep : GoodIn wsX6_addLetters (wsV RX6 55 RX6 yX6_keep wsX6_keep) := goodIn_app (goodIn_r _ [69, 70, 71, 6] (by exact rfl) (by decide +kernel)) ggX6_addLetters_X6_keep
set_option maxRecDepth 20000 in
theorem ggX6_addDigits_X6_byteAt : GoodIn wsX6_addDigits wsX6_byteAt := goodIn_m (subW_q _ [(7, 1), (2, 1), (8, 1), (20, 7)] (by exact rfl)) gwd_X6_byteAt
set_option maxRecDepth 20000 in
theorem gX6_addDigits_X6_byteAt : GoodIn wsX6_addDigits (wsV RX6 44 RX6 yX6_byteAt wsX6_byteAt) := goodIn_app (goodIn_r _ [3, 4, 5, 6] (by exact rfl) (by decide +kernel)) ggX6_addDigits_X6_byteAt
set_option maxRecDepth 20000 in
theorem ggX6_addDigits_X6_isDigit : GoodIn wsX6_addDigits wsX6_isDigit := goodIn_m (subW_q _ [(11, 1)] (by exact rfl)) gwd_X6_isDigit
set_option maxRecDepth 20000 in
theorem gX6_addDigits_X6_isDigit : GoodIn wsX6_addDigits (va_wsS RX6 65 yX6_isDigit wsX6_isDigit) := goodIn_app (goodIn_r _ [9, 10, 6] (by exact rfl) (by decide +kernel)) ggX6_addDigits_X6_isDigit
set_option maxRecDepth 20000 in
theorem ggX6_addDigits_X6_keep : GoodIn wsX6_addDigits wsX6_keep := goodIn_m (subW_q _ [(15, 12)] (by exact rfl)) gwd_X6_keep
set_option maxRecDepth 20000 in
theorem gX6_addDigits_X6_keep : GoodIn wsX6_addDigits (wsV RX6 55 RX6 yX6_keep wsX6_keep) := goodIn_app (goodIn_r _ [12, 13, 14, 6] (by exact rfl) (by decide +kernel)) ggX6_addDigits_X6_keep
