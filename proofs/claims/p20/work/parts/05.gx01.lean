set_option maxRecDepth 20000 in
theorem ggX2_readBlock_X2_pass : GoodIn wsX2_readBlock wsX2_pass := goodIn_m (subW_q _ [(15, 1), (1, 2), (8, 1), (3, 5), (9, 3), (16, 6), (69, 13)] (by exact rfl)) gwd_X2_pass
set_option maxRecDepth 20000 in
theorem gX2_readBlock_X2_pass : GoodIn wsX2_readBlock (wsV RX2 41 RX2 yX2_pass wsX2_pass) := goodIn_app (goodIn_r _ [12, 13, 14, 6] (by exact rfl) (by decide +kernel)) ggX2_readBlock_X2_pass
set_option maxRecDepth 20000 in
theorem ggX2_readBlock_X2_readSteps : GoodIn wsX2_readBlock wsX2_readSteps := goodIn_m (subW_q _ [(64, 1), (2, 1), (1, 1), (65, 4), (6, 1), (0, 1), (3, 3), (7, 57), (69, 21)] (by exact rfl)) gwd_X2_readSteps
set_option maxRecDepth 20000 in
theorem gX2_readBlock_X2_readSteps : GoodIn wsX2_readBlock (wsV RX2 37 RX2 yX2_readSteps wsX2_readSteps) := goodIn_app (goodIn_r _ [22, 23, 24, 6] (by exact rfl) (by decide +kernel)) ggX2_readBlock_X2_readSteps
set_option maxRecDepth 20000 in
theorem ggX2_readTest_X2_refuse : GoodIn wsX2_readTest wsX2_refuse := goodIn_m (subW_q _ [(10, 6), (31, 6), (45, 7)] (by exact rfl)) gwd_X2_refuse
set_option maxRecDepth 20000 in
theorem gX2_readTest_X2_refuse : GoodIn wsX2_readTest (wsV RX2 58 RX2 yX2_refuse wsX2_refuse) := goodIn_app (goodIn_r _ [6, 7, 8, 9] (by exact rfl) (by decide +kernel)) ggX2_readTest_X2_refuse
set_option maxRecDepth 20000 in
theorem ggX2_readTest_X2_pass : GoodIn wsX2_readTest wsX2_pass := goodIn_m (subW_q _ [(19, 1), (1, 1), (11, 2), (6, 5), (13, 3), (20, 6), (31, 6), (45, 7)] (by exact rfl)) gwd_X2_pass
set_option maxRecDepth 20000 in
theorem gX2_readTest_X2_pass : GoodIn wsX2_readTest (wsV RX2 41 RX2 yX2_pass wsX2_pass) := goodIn_app (goodIn_r _ [16, 17, 18, 9] (by exact rfl) (by decide +kernel)) ggX2_readTest_X2_pass
set_option maxRecDepth 20000 in
theorem ggX2_readTest_X2_readNumber : GoodIn wsX2_readTest wsX2_readNumber := goodIn_m (subW_q _ [(29, 1), (12, 2), (30, 1), (1, 1), (6, 6), (14, 12), (31, 6), (45, 7)] (by exact rfl)) gwd_X2_readNumber
set_option maxRecDepth 20000 in
theorem gX2_readTest_X2_readNumber : GoodIn wsX2_readTest (wsV RX2 72 RX2 yX2_readNumber wsX2_readNumber) := goodIn_app (goodIn_r _ [26, 27, 28, 9] (by exact rfl) (by decide +kernel)) ggX2_readTest_X2_readNumber
set_option maxRecDepth 20000 in
theorem ggX2_readNumber_X2_refuse : GoodIn wsX2_readNumber wsX2_refuse := goodIn_m (subW_q _ [(9, 2), (1, 2), (11, 2), (23, 13)] (by exact rfl)) gwd_X2_refuse
set_option maxRecDepth 20000 in
theorem gX2_readNumber_X2_refuse : GoodIn wsX2_readNumber (wsV RX2 58 RX2 yX2_refuse wsX2_refuse) := goodIn_app (goodIn_r _ [5, 6, 7, 8] (by exact rfl) (by decide +kernel)) ggX2_readNumber_X2_refuse
set_option maxRecDepth 20000 in
theorem ggX2_readNumber_X2_pass : GoodIn wsX2_readNumber wsX2_pass := goodIn_m (subW_q _ [(16, 1), (4, 1), (10, 1), (1, 1), (5, 5), (2, 1), (11, 2), (17, 19)] (by exact rfl)) gwd_X2_pass
set_option maxRecDepth 20000 in
theorem gX2_readNumber_X2_pass : GoodIn wsX2_readNumber (wsV RX2 41 RX2 yX2_pass wsX2_pass) := goodIn_app (goodIn_r _ [13, 14, 15, 8] (by exact rfl) (by decide +kernel)) ggX2_readNumber_X2_pass
set_option maxRecDepth 20000 in
theorem ggX2_pass_X2_refuse : GoodIn wsX2_pass wsX2_refuse := goodIn_m (subW_q _ [(8, 1), (2, 2), (9, 3), (18, 13)] (by exact rfl)) gwd_X2_refuse
set_option maxRecDepth 20000 in
theorem gX2_pass_X2_refuse : GoodIn wsX2_pass (wsV RX2 58 RX2 yX2_refuse wsX2_refuse) := goodIn_app (goodIn_r _ [4, 5, 6, 7] (by exact rfl) (by decide +kernel)) ggX2_pass_X2_refuse
set_option maxRecDepth 20000 in
theorem ggX2_pass_X2_moveTo : GoodIn wsX2_pass wsX2_moveTo := goodIn_m (subW_q _ [(15, 1), (3, 1), (9, 1), (16, 2), (1, 1), (18, 13)] (by exact rfl)) gwd_X2_moveTo
set_option maxRecDepth 20000 in
theorem gX2_pass_X2_moveTo : GoodIn wsX2_pass (wsV RX2 34 RX2 yX2_moveTo wsX2_moveTo) := goodIn_app (goodIn_r _ [12, 13, 14, 7] (by exact rfl) (by decide +kernel)) ggX2_pass_X2_moveTo
set_option maxRecDepth 20000 in
theorem ggX4_follow_X4_doSteps : GoodIn wsX4_follow wsX4_doSteps := goodIn_m (subW_ca (subW_q _ [(16, 6), (15, 1), (22, 1), (2, 1), (1, 1), (23, 20), (4, 1), (3, 1), (43, 10), (8, 1), (53, 54), (5, 1), (107, 9), (7, 1), (9, 1), (116, 42), (12, 3), (158, 10), (176, 16), (168, 8), (192, 11)] (by exact rfl)) ((fun _ h => List.mem_cons_of_mem _ (List.mem_append_right _ h)))) gwd_X4_doSteps
set_option maxRecDepth 20000 in
theorem gX4_follow_X4_doSteps : GoodIn wsX4_follow (wsV RX4 34 RX4 yX4_doSteps wsX4_doSteps) := goodIn_app (goodIn_r _ [12, 13, 14, 15] (by exact rfl) (by decide +kernel)) ggX4_follow_X4_doSteps
set_option maxRecDepth 20000 in
theorem ggX4_doSteps_X4_mayCount : GoodIn wsX4_doSteps wsX4_mayCount := goodIn_m (subW_q _ [(7, 3), (180, 8)] (by exact rfl)) gwd_X4_mayCount
set_option maxRecDepth 20000 in
theorem gX4_doSteps_X4_mayCount : GoodIn wsX4_doSteps (wsV RX4 47 RX4 yX4_mayCount wsX4_mayCount) := goodIn_app (goodIn_r _ [3, 4, 5, 6] (by exact rfl) (by decide +kernel)) ggX4_doSteps_X4_mayCount
set_option maxRecDepth 20000 in
theorem ggX4_doSteps_X4_doPlain : GoodIn wsX4_doSteps wsX4_doPlain := goodIn_m (subW_ca (subW_q _ [(13, 1), (1, 1), (14, 14), (6, 1), (28, 70), (3, 3), (7, 3), (98, 24), (164, 8), (180, 8), (196, 3), (188, 8), (172, 8)] (by exact rfl)) ((fun _ h => List.mem_cons_of_mem _ (List.mem_append_right _ h)))) gwd_X4_doPlain
set_option maxRecDepth 20000 in
theorem gX4_doSteps_X4_doPlain : GoodIn wsX4_doSteps (wsV RX4 56 RX4 yX4_doPlain wsX4_doPlain) := goodIn_app (goodIn_r _ [10, 11, 12, 6] (by exact rfl) (by decide +kernel)) ggX4_doSteps_X4_doPlain
set_option maxRecDepth 20000 in
theorem ggX4_doSteps_X4_doBuilt : GoodIn wsX4_doSteps wsX4_doBuilt := goodIn_m (subW_ca (subW_q _ [(125, 1), (1, 1), (126, 5), (6, 1), (131, 8), (16, 1), (139, 5), (75, 1), (14, 2), (144, 6), (47, 1), (150, 1), (49, 1), (51, 1), (17, 8), (151, 9), (0, 1), (2, 4), (7, 7), (25, 22), (48, 1), (50, 1), (52, 23), (76, 49), (160, 39)] (by exact rfl)) ((fun _ h => List.mem_cons_of_mem _ (List.mem_append_right _ h)))) gwd_X4_doBuilt
set_option maxRecDepth 20000 in
theorem gX4_doSteps_X4_doBuilt : GoodIn wsX4_doSteps (wsV RX4 60 RX4 yX4_doBuilt wsX4_doBuilt) := goodIn_app (goodIn_r _ [122, 123, 124, 6] (by exact rfl) (by decide +kernel)) ggX4_doSteps_X4_doBuilt
set_option maxRecDepth 20000 in
theorem ggX4_doPlain_X8_vatAt : GoodIn wsX4_doPlain wsX8_vatAt := goodIn_m (subW_ca (subW_q _ [(9, 4), (133, 3)] (by exact rfl)) ((fun _ h => List.mem_cons_of_mem _ (List.mem_append_right _ h)))) gwd_X8_vatAt
set_option maxRecDepth 20000 in
theorem gX4_doPlain_X8_vatAt : GoodIn wsX4_doPlain (wsV RX4 70 RX8 yX8_vatAt wsX8_vatAt) := goodIn_app (goodIn_r _ [5, 6, 7, 8] (by exact rfl) (by decide +kernel)) ggX4_doPlain_X8_vatAt
set_option maxRecDepth 20000 in
theorem ggX4_doPlain_X4_doDip : GoodIn wsX4_doPlain wsX4_doDip := goodIn_m (subW_q _ [(17, 2), (2, 1), (19, 25), (8, 1), (44, 16), (136, 8), (125, 8), (144, 8), (133, 3)] (by exact rfl)) gwd_X4_doDip
set_option maxRecDepth 20000 in
theorem gX4_doPlain_X4_doDip : GoodIn wsX4_doPlain (wsV RX4 79 RX4 yX4_doDip wsX4_doDip) := goodIn_app (goodIn_r _ [13, 14, 15, 16] (by exact rfl) (by decide +kernel)) ggX4_doPlain_X4_doDip
set_option maxRecDepth 20000 in
theorem ggX4_doPlain_X4_doAir : GoodIn wsX4_doPlain wsX4_doAir := goodIn_m (subW_q _ [(63, 2), (2, 1), (65, 3), (8, 1), (68, 5), (36, 1), (73, 1), (39, 2), (144, 8), (125, 11)] (by exact rfl)) gwd_X4_doAir
set_option maxRecDepth 20000 in
theorem gX4_doPlain_X4_doAir : GoodIn wsX4_doPlain (wsV RX4 83 RX4 yX4_doAir wsX4_doAir) := goodIn_app (goodIn_r _ [60, 61, 62, 16] (by exact rfl) (by decide +kernel)) ggX4_doPlain_X4_doAir
set_option maxRecDepth 20000 in
theorem ggX4_doPlain_X8_washOut : GoodIn wsX4_doPlain wsX8_washOut := goodIn_m (subW_q _ [(77, 1), (69, 1), (78, 3), (36, 1), (81, 1), (40, 1), (39, 1), (133, 3), (144, 8)] (by exact rfl)) gwd_X8_washOut
set_option maxRecDepth 20000 in
theorem gX4_doPlain_X8_washOut : GoodIn wsX4_doPlain (wsV RX4 87 RX8 yX8_washOut wsX8_washOut) := goodIn_app (goodIn_r _ [74, 75, 76, 8] (by exact rfl) (by decide +kernel)) ggX4_doPlain_X8_washOut
set_option maxRecDepth 20000 in
theorem ggX4_doPlain_X4_doRest : GoodIn wsX4_doPlain wsX4_doRest := goodIn_m (subW_q _ [(85, 1), (2, 1), (86, 4), (16, 1), (90, 6), (8, 1), (96, 1), (12, 1), (45, 1), (97, 3), (24, 1), (100, 1), (59, 1), (101, 2), (31, 1), (103, 1), (27, 1), (104, 1), (58, 1), (125, 19)] (by exact rfl)) gwd_X4_doRest
set_option maxRecDepth 20000 in
theorem gX4_doPlain_X4_doRest : GoodIn wsX4_doPlain (wsV RX4 90 RX4 yX4_doRest wsX4_doRest) := goodIn_app (goodIn_r _ [82, 83, 84, 16] (by exact rfl) (by decide +kernel)) ggX4_doPlain_X4_doRest
set_option maxRecDepth 20000 in
theorem ggX4_doPlain_X7_takeFood : GoodIn wsX4_doPlain wsX7_takeFood := goodIn_m (subW_q _ [(108, 1), (59, 1), (27, 1), (136, 8)] (by exact rfl)) gwd_X7_takeFood
set_option maxRecDepth 20000 in
theorem gX4_doPlain_X7_takeFood : GoodIn wsX4_doPlain (wsV RX4 94 RX7 yX7_takeFood wsX7_takeFood) := goodIn_app (goodIn_r _ [105, 106, 107, 24] (by exact rfl) (by decide +kernel)) ggX4_doPlain_X7_takeFood
set_option maxRecDepth 20000 in
theorem ggX4_doPlain_X4_doLime : GoodIn wsX4_doPlain wsX4_doLime := goodIn_m (subW_q _ [(112, 1), (18, 1), (113, 3), (24, 1), (116, 1), (27, 1), (58, 2), (136, 8)] (by exact rfl)) gwd_X4_doLime
set_option maxRecDepth 20000 in
theorem gX4_doPlain_X4_doLime : GoodIn wsX4_doPlain (wsV RX4 100 RX4 yX4_doLime wsX4_doLime) := goodIn_app (goodIn_r _ [109, 110, 111, 16] (by exact rfl) (by decide +kernel)) ggX4_doPlain_X4_doLime
set_option maxRecDepth 20000 in
theorem ggX4_doBuilt_X4_doTimes : GoodIn wsX4_doBuilt wsX4_doTimes := goodIn_m (subW_ca (subW_q _ [(160, 1), (16, 1), (2, 1), (54, 3), (7, 1), (57, 3), (43, 3), (0, 2), (3, 4), (8, 8), (17, 26), (46, 8), (60, 100), (161, 38)] (by exact rfl)) ((fun _ h => List.mem_cons_of_mem _ (List.mem_append_right _ h)))) gwd_X4_doTimes
set_option maxRecDepth 20000 in
theorem gX4_doBuilt_X4_doTimes : GoodIn wsX4_doBuilt (wsV RX4 104 RX4 yX4_doTimes wsX4_doTimes) := goodIn_app (goodIn_r _ [4, 5, 6, 7] (by exact rfl) (by decide +kernel)) ggX4_doBuilt_X4_doTimes
set_option maxRecDepth 20000 in
theorem ggX4_doBuilt_X4_doUntil : GoodIn wsX4_doBuilt wsX4_doUntil := goodIn_m (subW_ca (subW_q _ [(162, 1), (59, 1), (16, 1), (2, 1), (54, 3), (7, 1), (57, 2), (28, 7), (43, 3), (0, 2), (3, 4), (8, 8), (17, 11), (35, 8), (46, 8), (60, 102), (163, 36)] (by exact rfl)) ((fun _ h => List.mem_cons_of_mem _ (List.mem_append_right _ h)))) gwd_X4_doUntil
set_option maxRecDepth 20000 in
theorem gX4_doBuilt_X4_doUntil : GoodIn wsX4_doBuilt (wsV RX4 107 RX4 yX4_doUntil wsX4_doUntil) := goodIn_app (goodIn_r _ [8, 9, 10, 7] (by exact rfl) (by decide +kernel)) ggX4_doBuilt_X4_doUntil
set_option maxRecDepth 20000 in
theorem ggX4_doBuilt_X4_holds : GoodIn wsX4_doBuilt wsX4_holds := goodIn_m (subW_ca (subW_q _ [(14, 6), (7, 1), (20, 23), (164, 35)] (by exact rfl)) ((fun _ h => List.mem_cons_of_mem _ (List.mem_append_right _ h)))) gwd_X4_holds
set_option maxRecDepth 20000 in
theorem gX4_doBuilt_X4_holds : GoodIn wsX4_doBuilt (wsV RX4 110 RX4 yX4_holds wsX4_holds) := goodIn_app (goodIn_r _ [11, 12, 13, 7] (by exact rfl) (by decide +kernel)) ggX4_doBuilt_X4_holds
set_option maxRecDepth 20000 in
theorem ggX4_doBuilt_X4_doSteps : GoodIn wsX4_doBuilt wsX4_doSteps := goodIn_m (subW_ca (subW_q _ [(52, 1), (1, 1), (53, 4), (7, 1), (57, 7), (23, 2), (16, 1), (35, 8), (64, 22), (31, 1), (86, 1), (33, 1), (87, 1), (34, 1), (88, 23), (22, 1), (111, 49), (0, 1), (2, 5), (8, 8), (17, 5), (25, 6), (32, 1), (43, 9), (160, 39)] (by exact rfl)) ((fun _ h => List.mem_cons_of_mem _ (List.mem_append_right _ h)))) gwd_X4_doSteps
set_option maxRecDepth 20000 in
theorem gX4_doBuilt_X4_doSteps : GoodIn wsX4_doBuilt (wsV RX4 34 RX4 yX4_doSteps wsX4_doSteps) := goodIn_app (goodIn_r _ [43, 44, 45, 7] (by exact rfl) (by decide +kernel)) ggX4_doBuilt_X4_doSteps
set_option maxRecDepth 20000 in
theorem ggX4_doBuilt_X4_doTry : GoodIn wsX4_doBuilt wsX4_doTry := goodIn_m (subW_ca (subW_q _ [(161, 1), (2, 2), (43, 3), (7, 1), (0, 2), (4, 3), (8, 35), (46, 115), (162, 37)] (by exact rfl)) ((fun _ h => List.mem_cons_of_mem _ (List.mem_append_right _ h)))) gwd_X4_doTry
set_option maxRecDepth 20000 in
theorem gX4_doBuilt_X4_doTry : GoodIn wsX4_doBuilt (wsV RX4 120 RX4 yX4_doTry wsX4_doTry) := goodIn_app (goodIn_r _ [46, 47, 48, 7] (by exact rfl) (by decide +kernel)) ggX4_doBuilt_X4_doTry
set_option maxRecDepth 20000 in
theorem ggX4_doBuilt_X4_doWithLast : GoodIn wsX4_doBuilt wsX4_doWithLast := goodIn_m (subW_ca (subW_q _ [(163, 1), (2, 2), (43, 3), (7, 1), (0, 2), (4, 3), (8, 35), (46, 117), (164, 35)] (by exact rfl)) ((fun _ h => List.mem_cons_of_mem _ (List.mem_append_right _ h)))) gwd_X4_doWithLast
set_option maxRecDepth 20000 in
theorem gX4_doBuilt_X4_doWithLast : GoodIn wsX4_doBuilt (wsV RX4 123 RX4 yX4_doWithLast wsX4_doWithLast) := goodIn_app (goodIn_r _ [49, 50, 51, 7] (by exact rfl) (by decide +kernel)) ggX4_doBuilt_X4_doWithLast
set_option maxRecDepth 20000 in
theorem ggX4_doDip_X7_givesTo : GoodIn wsX4_doDip wsX7_givesTo := goodIn_m (subW_q _ [(9, 16), (61, 8), (45, 8)] (by exact rfl)) gwd_X7_givesTo
set_option maxRecDepth 20000 in
theorem gX4_doDip_X7_givesTo : GoodIn wsX4_doDip (wsV RX4 129 RX7 yX7_givesTo wsX7_givesTo) := goodIn_app (goodIn_r _ [5, 6, 7, 8] (by exact rfl) (by decide +kernel)) ggX4_doDip_X7_givesTo
set_option maxRecDepth 20000 in
theorem ggX4_doDip_X8_dipInto : GoodIn wsX4_doDip wsX8_dipInto := goodIn_m (subW_q _ [(29, 12), (8, 1), (41, 1), (12, 1), (42, 2), (11, 1), (44, 1), (69, 3), (45, 8), (61, 8)] (by exact rfl)) gwd_X8_dipInto
set_option maxRecDepth 20000 in
theorem gX4_doDip_X8_dipInto : GoodIn wsX4_doDip (wsV RX4 133 RX8 yX8_dipInto wsX8_dipInto) := goodIn_app (goodIn_r _ [25, 26, 27, 28] (by exact rfl) (by decide +kernel)) ggX4_doDip_X8_dipInto
set_option maxRecDepth 20000 in
theorem ggX4_doAir_X8_airOut : GoodIn wsX4_doAir wsX8_airOut := goodIn_m (subW_q _ [(7, 9), (32, 3), (16, 8)] (by exact rfl)) gwd_X8_airOut
set_option maxRecDepth 20000 in
theorem gX4_doAir_X8_airOut : GoodIn wsX4_doAir (wsV RX4 142 RX8 yX8_airOut wsX8_airOut) := goodIn_app (goodIn_r _ [3, 4, 5, 6] (by exact rfl) (by decide +kernel)) ggX4_doAir_X8_airOut
set_option maxRecDepth 20000 in
theorem ggX4_doRest_X4_mayCount : GoodIn wsX4_doRest wsX4_mayCount := goodIn_m (subW_q _ [(7, 3), (30, 8)] (by exact rfl)) gwd_X4_mayCount
set_option maxRecDepth 20000 in
theorem gX4_doRest_X4_mayCount : GoodIn wsX4_doRest (wsV RX4 47 RX4 yX4_mayCount wsX4_mayCount) := goodIn_app (goodIn_r _ [3, 4, 5, 6] (by exact rfl) (by decide +kernel)) ggX4_doRest_X4_mayCount
