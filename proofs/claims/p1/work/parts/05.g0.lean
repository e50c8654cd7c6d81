set_option maxRecDepth 20000 in
theorem ggX1_init_X0_init : GoodIn wsX1_init wsX0_init := goodIn_r _ [19, 20, 2, 3, 21, 22, 23, 40, 41, 42, 43, 44, 45, 46, 47] (by decide +kernel) (by decide +kernel)
set_option maxRecDepth 20000 in
theorem gX1_init_X0_init : GoodIn wsX1_init (wsX0_init) := ggX1_init_X0_init
set_option maxRecDepth 20000 in
theorem ggX1_init_X7_init : GoodIn wsX1_init wsX7_init := goodIn_r _ [26, 27, 2, 3, 28, 29, 30, 48, 49, 50, 51, 52, 53, 54, 55] (by decide +kernel) (by decide +kernel)
set_option maxRecDepth 20000 in
theorem gX1_init_X7_init : GoodIn wsX1_init (wsX7_init) := ggX1_init_X7_init
set_option maxRecDepth 20000 in
theorem ggX2_init_X6_init : GoodIn wsX2_init wsX6_init := goodIn_r _ [11, 12, 2, 3, 13, 14, 15, 16, 17, 24, 25, 26, 27, 28, 29, 30] (by decide +kernel) (by decide +kernel)
set_option maxRecDepth 20000 in
theorem gX2_init_X6_init : GoodIn wsX2_init (wsX6_init) := ggX2_init_X6_init
set_option maxRecDepth 20000 in
theorem ggX2_readRecipe_X6_split : GoodIn wsX2_readRecipe wsX6_split := goodIn_r _ [9, 10, 11, 12, 13, 14, 15, 16, 17, 18, 19, 20, 21, 22, 23, 8, 24, 25, 26, 27, 28, 29, 30, 31, 32, 33, 34, 35, 36, 37, 38, 39, 40, 41, 42, 43, 44, 45, 46, 47, 48, 49, 50, 51, 52, 53, 54, 55, 56, 57, 58, 59, 60, 61, 62, 63, 64, 65, 66, 67, 68, 69, 70, 71, 72, 73, 74, 75, 76, 77, 78, 79, 80, 81, 82, 83, 84, 85, 86, 87, 88, 89, 90, 91, 92, 93, 94, 95, 96, 97, 98, 99, 100, 101, 102, 103, 104, 105, 106, 107, 108, 109, 110, 111, 112, 184, 185, 186, 187, 188, 189, 190] (by decide +kernel) (by decide +kernel)
set_option maxRecDepth 20000 in
theorem gX2_readRecipe_X6_split : GoodIn wsX2_readRecipe (wsV RX2 24 RX6 yX6_split wsX6_split) := goodIn_app (goodIn_of _ (by decide +kernel)) ggX2_readRecipe_X6_split
set_option maxRecDepth 20000 in
theorem ggX2_readRecipe_X2_moveTo : GoodIn wsX2_readRecipe wsX2_moveTo := goodIn_r _ [117, 118, 1, 119, 120, 121, 178, 179, 180, 181, 182, 183, 184, 185, 186, 187, 188, 189, 190] (by decide +kernel) (by decide +kernel)
set_option maxRecDepth 20000 in
theorem gX2_readRecipe_X2_moveTo : GoodIn wsX2_readRecipe (wsV RX2 34 RX2 yX2_moveTo wsX2_moveTo) := goodIn_app (goodIn_of _ (by decide +kernel)) ggX2_readRecipe_X2_moveTo
set_option maxRecDepth 20000 in
theorem ggX2_readRecipe_X2_readSteps : GoodIn wsX2_readRecipe wsX2_readSteps := goodIn_r _ [125, 2, 121, 126, 127, 128, 129, 116, 130, 131, 132, 133, 134, 118, 1, 135, 3, 136, 137, 138, 139, 113, 114, 115, 117, 119, 120, 122, 123, 124, 140, 141, 142, 143, 144, 145, 146, 147, 148, 149, 150, 151, 152, 153, 154, 155, 156, 157, 158, 159, 160, 161, 162, 163, 4, 164, 165, 166, 167, 168, 169, 170, 171, 172, 173, 174, 175, 176, 177, 178, 179, 180, 181, 182, 183, 184, 185, 186, 187, 188, 189, 190, 191, 192, 193, 194, 195, 196, 197, 198] (by decide +kernel) (by decide +kernel)
set_option maxRecDepth 20000 in
theorem gX2_readRecipe_X2_readSteps : GoodIn wsX2_readRecipe (wsV RX2 37 RX2 yX2_readSteps wsX2_readSteps) := goodIn_app (goodIn_of _ (by decide +kernel)) ggX2_readRecipe_X2_readSteps
set_option maxRecDepth 20000 in
theorem ggX2_readRecipe_X2_pass : GoodIn wsX2_readRecipe wsX2_pass := goodIn_r _ [139, 121, 2, 118, 131, 132, 133, 116, 134, 1, 135, 3, 113, 114, 115, 117, 119, 120, 178, 179, 180, 181, 182, 183, 184, 185, 186, 187, 188, 189, 190] (by decide +kernel) (by decide +kernel)
set_option maxRecDepth 20000 in
theorem gX2_readRecipe_X2_pass : GoodIn wsX2_readRecipe (wsV RX2 41 RX2 yX2_pass wsX2_pass) := goodIn_app (goodIn_of _ (by decide +kernel)) ggX2_readRecipe_X2_pass
set_option maxRecDepth 20000 in
theorem ggX2_pass_X2_moveTo : GoodIn wsX2_pass wsX2_moveTo := goodIn_r _ [15, 3, 9, 16, 17, 1, 18, 19, 20, 21, 22, 23, 24, 25, 26, 27, 28, 29, 30] (by decide +kernel) (by decide +kernel)
set_option maxRecDepth 20000 in
theorem gX2_pass_X2_moveTo : GoodIn wsX2_pass (wsV RX2 34 RX2 yX2_moveTo wsX2_moveTo) := goodIn_app (goodIn_of _ (by decide +kernel)) ggX2_pass_X2_moveTo
set_option maxRecDepth 20000 in
theorem ggX6_split_X6_keep : GoodIn wsX6_split wsX6_keep := goodIn_r _ [91, 11, 92, 93, 94, 105, 106, 107, 108, 109, 110, 111] (by decide +kernel) (by decide +kernel)
set_option maxRecDepth 20000 in
theorem gX6_split_X6_keep : GoodIn wsX6_split (wsV RX6 55 RX6 yX6_keep wsX6_keep) := goodIn_app (goodIn_of _ (by decide +kernel)) ggX6_split_X6_keep
set_option maxRecDepth 20000 in
theorem ggX8_init_X7_init : GoodIn wsX8_init wsX7_init := goodIn_r _ [10, 11, 2, 3, 12, 13, 14, 18, 19, 20, 21, 22, 23, 24, 25] (by decide +kernel) (by decide +kernel)
set_option maxRecDepth 20000 in
theorem gX8_init_X7_init : GoodIn wsX8_init (wsX7_init) := ggX8_init_X7_init
set_option maxRecDepth 20000 in
theorem ggX8_passHour_X7_liveThrough : GoodIn wsX8_passHour wsX7_liveThrough := goodIn_r _ [7, 8, 9, 10, 11, 12, 13, 14, 15, 19, 20, 21, 22, 23, 24, 25, 26] (by decide +kernel) (by decide +kernel)
set_option maxRecDepth 20000 in
theorem gX8_passHour_X7_liveThrough : GoodIn wsX8_passHour (wsV RX8 75 RX7 yX7_liveThrough wsX7_liveThrough) := goodIn_app (goodIn_of _ (by decide +kernel)) ggX8_passHour_X7_liveThrough
set_option maxRecDepth 20000 in
theorem ggX8_passHours_X8_passHour : GoodIn wsX8_passHours wsX8_passHour := goodIn_r _ [10, 11, 5, 12, 13, 14, 15, 16, 17, 18, 19, 3, 20, 21, 22, 23, 24, 25, 26, 27, 28, 29, 30, 31, 32, 33, 34] (by decide +kernel) (by decide +kernel)
set_option maxRecDepth 20000 in
theorem gX8_passHours_X8_passHour : GoodIn wsX8_passHours (wsV RX8 84 RX8 yX8_passHour wsX8_passHour) := goodIn_app (goodIn_of _ (by decide +kernel)) ggX8_passHours_X8_passHour
set_option maxRecDepth 20000 in
theorem ggX9_init_X8_init : GoodIn wsX9_init wsX8_init := goodIn_r _ [28, 29, 2, 3, 30, 31, 32, 33, 34, 35, 36, 37, 38, 39, 40, 87, 88, 89, 124, 125, 126, 127, 128, 129, 130, 131] (by decide +kernel) (by decide +kernel)
set_option maxRecDepth 20000 in
theorem gX9_init_X8_init : GoodIn wsX9_init (wsX8_init) := ggX9_init_X8_init
set_option maxRecDepth 20000 in
theorem ggX9_init_X2_init : GoodIn wsX9_init wsX2_init := goodIn_r _ [43, 44, 2, 3, 45, 46, 47, 48, 49, 50, 51, 52, 53, 54, 55, 56, 57, 58, 101, 102, 103, 104, 105, 106, 132, 133, 134, 135, 136, 137, 138] (by decide +kernel) (by decide +kernel)
set_option maxRecDepth 20000 in
theorem gX9_init_X2_init : GoodIn wsX9_init (wsX2_init) := ggX9_init_X2_init
set_option maxRecDepth 20000 in
theorem ggX9_init_X4_init : GoodIn wsX9_init wsX4_init := goodIn_r _ [61, 62, 2, 3, 63, 64, 107, 108, 109, 110, 111, 112, 113, 114] (by decide +kernel) (by decide +kernel)
set_option maxRecDepth 20000 in
theorem gX9_init_X4_init : GoodIn wsX9_init (wsX4_init) := ggX9_init_X4_init
set_option maxRecDepth 20000 in
theorem ggX9_init_X1_init : GoodIn wsX9_init wsX1_init := goodIn_r _ [67, 68, 2, 3, 69, 70, 71, 72, 73, 74, 54, 75, 76, 77, 78, 32, 33, 79, 80, 81, 82, 83, 84, 85, 86, 35, 36, 37, 38, 39, 40, 115, 116, 117, 118, 119, 120, 121, 122, 123, 139, 140, 141, 142, 143, 144, 145, 146, 124, 125, 126, 127, 128, 129, 130, 131] (by decide +kernel) (by decide +kernel)
set_option maxRecDepth 20000 in
theorem gX9_init_X1_init : GoodIn wsX9_init (wsX1_init) := ggX9_init_X1_init
set_option maxRecDepth 20000 in
theorem ggX9_charge_X8_vatAt : GoodIn wsX9_charge wsX8_vatAt := goodIn_ca (goodIn_r _ [9, 10, 11, 12, 32, 33, 34] (by decide +kernel) (by decide +kernel)) (goodIn_sub (fun _ h => List.mem_cons_of_mem _ (List.mem_append_right _ h)) (by decide +kernel))
set_option maxRecDepth 20000 in
theorem gX9_charge_X8_vatAt : GoodIn wsX9_charge (wsV RX9 57 RX8 yX8_vatAt wsX8_vatAt) := goodIn_app (goodIn_of _ (by decide +kernel)) ggX9_charge_X8_vatAt
set_option maxRecDepth 20000 in
theorem ggX9_feed_X8_vatAt : GoodIn wsX9_feed wsX8_vatAt := goodIn_ca (goodIn_r _ [7, 8, 9, 10, 43, 44, 45] (by decide +kernel) (by decide +kernel)) (goodIn_sub (fun _ h => List.mem_cons_of_mem _ (List.mem_append_left _ (List.mem_append_right _ h))) (by decide +kernel))
set_option maxRecDepth 20000 in
theorem gX9_feed_X8_vatAt : GoodIn wsX9_feed (wsV RX9 57 RX8 yX8_vatAt wsX8_vatAt) := goodIn_app (goodIn_of _ (by decide +kernel)) ggX9_feed_X8_vatAt
set_option maxRecDepth 20000 in
theorem ggX9_feed_X9_demand : GoodIn wsX9_feed wsX9_demand := goodIn_ca (goodIn_r _ [14, 15, 16] (by decide +kernel) (by decide +kernel)) (goodIn_sub (fun _ h => List.mem_cons_of_mem _ (List.mem_append_right _ h)) (by decide +kernel))
set_option maxRecDepth 20000 in
theorem gX9_feed_X9_demand : GoodIn wsX9_feed (va_wsS RX9 71 yX9_demand wsX9_demand) := goodIn_app (goodIn_of _ (by decide +kernel)) ggX9_feed_X9_demand
set_option maxRecDepth 20000 in
theorem ggX9_feed_X7_takeFood : GoodIn wsX9_feed wsX7_takeFood := goodIn_r _ [21, 22, 23, 35, 36, 37, 38, 39, 40, 41, 42] (by decide +kernel) (by decide +kernel)
set_option maxRecDepth 20000 in
theorem gX9_feed_X7_takeFood : GoodIn wsX9_feed (wsV RX9 75 RX7 yX7_takeFood wsX7_takeFood) := goodIn_app (goodIn_of _ (by decide +kernel)) ggX9_feed_X7_takeFood
set_option maxRecDepth 20000 in
theorem ggX9_lime_X8_vatAt : GoodIn wsX9_lime wsX8_vatAt := goodIn_ca (goodIn_r _ [7, 8, 9, 10, 38, 39, 40] (by decide +kernel) (by decide +kernel)) (goodIn_sub (fun _ h => List.mem_cons_of_mem _ (List.mem_append_right _ h)) (by decide +kernel))
set_option maxRecDepth 20000 in
theorem gX9_lime_X8_vatAt : GoodIn wsX9_lime (wsV RX9 57 RX8 yX8_vatAt wsX8_vatAt) := goodIn_app (goodIn_of _ (by decide +kernel)) ggX9_lime_X8_vatAt
set_option maxRecDepth 20000 in
theorem ggX9_lime_X7_takeLime : GoodIn wsX9_lime wsX7_takeLime := goodIn_r _ [15, 16, 17, 18, 30, 31, 32, 33, 34, 35, 36, 37] (by decide +kernel) (by decide +kernel)
set_option maxRecDepth 20000 in
theorem gX9_lime_X7_takeLime : GoodIn wsX9_lime (wsV RX9 82 RX7 yX7_takeLime wsX7_takeLime) := goodIn_app (goodIn_of _ (by decide +kernel)) ggX9_lime_X7_takeLime
set_option maxRecDepth 20000 in
theorem ggX9_hours_X9_demand : GoodIn wsX9_hours wsX9_demand := goodIn_ca (goodIn_r _ [6, 7, 8] (by decide +kernel) (by decide +kernel)) (goodIn_sub (fun _ h => List.mem_cons_of_mem _ (List.mem_append_right _ h)) (by decide +kernel))
set_option maxRecDepth 20000 in
theorem gX9_hours_X9_demand : GoodIn wsX9_hours (va_wsS RX9 71 yX9_demand wsX9_demand) := goodIn_app (goodIn_of _ (by decide +kernel)) ggX9_hours_X9_demand
set_option maxRecDepth 20000 in
theorem ggX9_hours_X8_passHours : GoodIn wsX9_hours wsX8_passHours := goodIn_r _ [13, 14, 15, 16, 17, 18, 19, 20, 21, 12, 22, 23, 24, 25, 26, 27, 28, 29, 30, 31, 32, 33, 34, 35, 47, 48, 49, 50, 51, 52, 53, 54, 55, 56, 57] (by decide +kernel) (by decide +kernel)
set_option maxRecDepth 20000 in
theorem gX9_hours_X8_passHours : GoodIn wsX9_hours (wsV RX9 85 RX8 yX8_passHours wsX8_passHours) := goodIn_app (goodIn_of _ (by decide +kernel)) ggX9_hours_X8_passHours
set_option maxRecDepth 20000 in
theorem ggX9_cloth_X0_init : GoodIn wsX9_cloth wsX0_init := goodIn_r _ [8, 9, 10, 11, 12, 13, 14, 26, 27, 28, 29, 30, 31, 32, 33] (by decide +kernel) (by decide +kernel)
set_option maxRecDepth 20000 in
theorem gX9_cloth_X0_init : GoodIn wsX9_cloth (wsX0_init) := ggX9_cloth_X0_init
set_option maxRecDepth 20000 in
theorem ggX9_dip_X9_clothAt : GoodIn wsX9_dip wsX9_clothAt := goodIn_ca (goodIn_r _ [8, 9, 10, 11, 12, 64, 65, 66, 67, 68, 69, 70, 71, 72, 73, 74] (by decide +kernel) (by decide +kernel)) (goodIn_sub (fun _ h => List.mem_cons_of_mem _ (List.mem_append_left _ (List.mem_append_left _ (List.mem_append_right _ h)))) (by decide +kernel))
set_option maxRecDepth 20000 in
theorem gX9_dip_X9_clothAt : GoodIn wsX9_dip (wsV RX9 98 RX9 yX9_clothAt wsX9_clothAt) := goodIn_app (goodIn_of _ (by decide +kernel)) ggX9_dip_X9_clothAt
set_option maxRecDepth 20000 in
theorem ggX9_dip_X8_vatAt : GoodIn wsX9_dip wsX8_vatAt := goodIn_ca (goodIn_r _ [17, 18, 10, 19, 91, 92, 93] (by decide +kernel) (by decide +kernel)) (goodIn_sub (fun _ h => List.mem_cons_of_mem _ (List.mem_append_left _ (List.mem_append_right _ h))) (by decide +kernel))
set_option maxRecDepth 20000 in
theorem gX9_dip_X8_vatAt : GoodIn wsX9_dip (wsV RX9 57 RX8 yX8_vatAt wsX8_vatAt) := goodIn_app (goodIn_of _ (by decide +kernel)) ggX9_dip_X8_vatAt
set_option maxRecDepth 20000 in
theorem ggX9_dip_X9_demand : GoodIn wsX9_dip wsX9_demand := goodIn_ca (goodIn_r _ [22, 23, 24] (by decide +kernel) (by decide +kernel)) (goodIn_sub (fun _ h => List.mem_cons_of_mem _ (List.mem_append_right _ h)) (by decide +kernel))
set_option maxRecDepth 20000 in
theorem gX9_dip_X9_demand : GoodIn wsX9_dip (va_wsS RX9 71 yX9_demand wsX9_demand) := goodIn_app (goodIn_of _ (by decide +kernel)) ggX9_dip_X9_demand
set_option maxRecDepth 20000 in
theorem ggX9_treat_X9_clothAt : GoodIn wsX9_treat wsX9_clothAt := goodIn_ca (goodIn_r _ [7, 8, 9, 10, 11, 54, 55, 56, 57, 58, 59, 60, 61, 62, 63, 64] (by decide +kernel) (by decide +kernel)) (goodIn_sub (fun _ h => List.mem_cons_of_mem _ (List.mem_append_left _ (List.mem_append_right _ h))) (by decide +kernel))
set_option maxRecDepth 20000 in
theorem gX9_treat_X9_clothAt : GoodIn wsX9_treat (wsV RX9 98 RX9 yX9_clothAt wsX9_clothAt) := goodIn_app (goodIn_of _ (by decide +kernel)) ggX9_treat_X9_clothAt
set_option maxRecDepth 20000 in
theorem ggX9_treat_X9_demand : GoodIn wsX9_treat wsX9_demand := goodIn_ca (goodIn_r _ [14, 15, 16] (by decide +kernel) (by decide +kernel)) (goodIn_sub (fun _ h => List.mem_cons_of_mem _ (List.mem_append_right _ h)) (by decide +kernel))
set_option maxRecDepth 20000 in
theorem gX9_treat_X9_demand : GoodIn wsX9_treat (va_wsS RX9 71 yX9_demand wsX9_demand) := goodIn_app (goodIn_of _ (by decide +kernel)) ggX9_treat_X9_demand
set_option maxRecDepth 20000 in
theorem ggX9_put_X9_append : GoodIn wsX9_put wsX9_append := goodIn_r _ [7, 1, 2, 8, 9, 10, 11, 12, 13, 14, 15, 16, 17, 18] (by decide +kernel) (by decide +kernel)
set_option maxRecDepth 20000 in
theorem gX9_put_X9_append : GoodIn wsX9_put (wsV RX9 127 RX9 yX9_append wsX9_append) := goodIn_app (goodIn_of _ (by decide +kernel)) ggX9_put_X9_append
set_option maxRecDepth 20000 in
theorem ggX9_recipe_X9_demand : GoodIn wsX9_recipe wsX9_demand := goodIn_ca (goodIn_r _ [13, 14, 15] (by decide +kernel) (by decide +kernel)) (goodIn_sub (fun _ h => List.mem_cons_of_mem _ (List.mem_append_right _ h)) (by decide +kernel))
set_option maxRecDepth 20000 in
theorem gX9_recipe_X9_demand : GoodIn wsX9_recipe (va_wsS RX9 71 yX9_demand wsX9_demand) := goodIn_app (goodIn_of _ (by decide +kernel)) ggX9_recipe_X9_demand
set_option maxRecDepth 20000 in
theorem ggX9_recipe_X2_readRecipe : GoodIn wsX9_recipe wsX2_readRecipe := goodIn_r _ [20, 21, 22, 23, 24, 25, 26, 27, 28, 29, 30, 31, 32, 33, 34, 35, 36, 37, 38, 39, 40, 41, 42, 43, 44, 45, 46, 47, 48, 49, 50, 51, 52, 53, 54, 55, 56, 57, 58, 59, 60, 61, 62, 63, 64, 65, 66, 67, 68, 69, 70, 71, 72, 73, 74, 75, 76, 77, 78, 79, 80, 81, 82, 83, 84, 85, 86, 87, 88, 89, 90, 91, 92, 93, 94, 95, 96, 97, 98, 99, 100, 101, 102, 103, 104, 105, 106, 107, 108, 109, 110, 111, 112, 113, 114, 115, 116, 117, 118, 119, 120, 121, 122, 123, 124, 125, 126, 127, 128, 129, 130, 131, 132, 133, 134, 135, 19, 136, 137, 138, 139, 140, 141, 142, 143, 144, 145, 146, 147, 148, 149, 150, 151, 152, 153, 154, 155, 156, 157, 158, 159, 160, 161, 162, 163, 164, 165, 166, 167, 168, 169, 170, 171, 172, 173, 174, 175, 176, 177, 178, 179, 180, 181, 182, 183, 184, 185, 186, 187, 188, 189, 190, 191, 192, 193, 194, 195, 196, 213, 214, 215, 216, 217, 218, 220, 221, 222, 223, 224, 225, 226, 227, 228, 229, 230, 231, 232, 233, 234] (by decide +kernel) (by decide +kernel)
set_option maxRecDepth 20000 in
theorem gX9_recipe_X2_readRecipe : GoodIn wsX9_recipe (wsV RX9 130 RX2 yX2_readRecipe wsX2_readRecipe) := goodIn_app (goodIn_of _ (by decide +kernel)) ggX9_recipe_X2_readRecipe
set_option maxRecDepth 20000 in
theorem ggX9_recipe_X3_init : GoodIn wsX9_recipe wsX3_init := goodIn_r _ [199, 200, 187, 188, 201, 219] (by decide +kernel) (by decide +kernel)
set_option maxRecDepth 20000 in
theorem gX9_recipe_X3_init : GoodIn wsX9_recipe (wsX3_init) := ggX9_recipe_X3_init
set_option maxRecDepth 20000 in
theorem ggX9_run_X9_clothAt : GoodIn wsX9_run wsX9_clothAt := goodIn_ca (goodIn_r _ [9, 10, 11, 12, 13, 184, 185, 186, 187, 188, 189, 190, 191, 192, 193, 194] (by decide +kernel) (by decide +kernel)) (goodIn_sub (fun _ h => List.mem_cons_of_mem _ (List.mem_append_left _ (List.mem_append_right _ h))) (by decide +kernel))
set_option maxRecDepth 20000 in
theorem gX9_run_X9_clothAt : GoodIn wsX9_run (wsV RX9 98 RX9 yX9_clothAt wsX9_clothAt) := goodIn_app (goodIn_of _ (by decide +kernel)) ggX9_run_X9_clothAt
set_option maxRecDepth 20000 in
theorem ggX9_plan_X9_clothAt : GoodIn wsX9_plan wsX9_clothAt := goodIn_ca (goodIn_r _ [7, 8, 9, 10, 11, 104, 105, 106, 107, 108, 109, 110, 111, 112, 113, 114] (by decide +kernel) (by decide +kernel)) (goodIn_sub (fun _ h => List.mem_cons_of_mem _ (List.mem_append_left _ (List.mem_append_left _ (List.mem_append_right _ h)))) (by decide +kernel))
set_option maxRecDepth 20000 in
theorem gX9_plan_X9_clothAt : GoodIn wsX9_plan (wsV RX9 98 RX9 yX9_clothAt wsX9_clothAt) := goodIn_app (goodIn_of _ (by decide +kernel)) ggX9_plan_X9_clothAt
set_option maxRecDepth 20000 in
theorem ggX9_plan_X9_demand : GoodIn wsX9_plan wsX9_demand := goodIn_ca (goodIn_r _ [14, 15, 16] (by decide +kernel) (by decide +kernel)) (goodIn_sub (fun _ h => List.mem_cons_of_mem _ (List.mem_append_left _ (List.mem_append_right _ h))) (by decide +kernel))
set_option maxRecDepth 20000 in
theorem gX9_plan_X9_demand : GoodIn wsX9_plan (va_wsS RX9 71 yX9_demand wsX9_demand) := goodIn_app (goodIn_of _ (by decide +kernel)) ggX9_plan_X9_demand
set_option maxRecDepth 20000 in
theorem ggX9_vat_X8_vatAt : GoodIn wsX9_vat wsX8_vatAt := goodIn_ca (goodIn_r _ [14, 15, 2, 16, 36, 37, 38] (by decide +kernel) (by decide +kernel)) (goodIn_sub (fun _ h => List.mem_cons_of_mem _ (List.mem_append_right _ h)) (by decide +kernel))
set_option maxRecDepth 20000 in
theorem gX9_vat_X8_vatAt : GoodIn wsX9_vat (wsV RX9 57 RX8 yX8_vatAt wsX8_vatAt) := goodIn_app (goodIn_of _ (by decide +kernel)) ggX9_vat_X8_vatAt
set_option maxRecDepth 20000 in
theorem ggX9_about_X9_clothAt : GoodIn wsX9_about wsX9_clothAt := goodIn_ca (goodIn_r _ [14, 1, 2, 15, 16, 32, 33, 34, 35, 36, 37, 38, 39, 40, 41, 42] (by decide +kernel) (by decide +kernel)) (goodIn_sub (fun _ h => List.mem_cons_of_mem _ (List.mem_append_right _ h)) (by decide +kernel))
set_option maxRecDepth 20000 in
theorem gX9_about_X9_clothAt : GoodIn wsX9_about (wsV RX9 98 RX9 yX9_clothAt wsX9_clothAt) := goodIn_app (goodIn_of _ (by decide +kernel)) ggX9_about_X9_clothAt
set_option maxRecDepth 20000 in
theorem ggX9_faded_X9_clothAt : GoodIn wsX9_faded wsX9_clothAt := goodIn_ca (goodIn_r _ [6, 7, 8, 9, 10, 41, 42, 43, 44, 45, 46, 47, 48, 49, 50, 51] (by decide +kernel) (by decide +kernel)) (goodIn_sub (fun _ h => List.mem_cons_of_mem _ (List.mem_append_left _ (List.mem_append_right _ h))) (by decide +kernel))
set_option maxRecDepth 20000 in
theorem gX9_faded_X9_clothAt : GoodIn wsX9_faded (wsV RX9 98 RX9 yX9_clothAt wsX9_clothAt) := goodIn_app (goodIn_of _ (by decide +kernel)) ggX9_faded_X9_clothAt
set_option maxRecDepth 20000 in
theorem ggX9_faded_X9_demand : GoodIn wsX9_faded wsX9_demand := goodIn_ca (goodIn_r _ [13, 14, 15] (by decide +kernel) (by decide +kernel)) (goodIn_sub (fun _ h => List.mem_cons_of_mem _ (List.mem_append_right _ h)) (by decide +kernel))
set_option maxRecDepth 20000 in
theorem gX9_faded_X9_demand : GoodIn wsX9_faded (va_wsS RX9 71 yX9_demand wsX9_demand) := goodIn_app (goodIn_of _ (by decide +kernel)) ggX9_faded_X9_demand
set_option maxRecDepth 20000 in
theorem ggX9_matching_X9_clothAt : GoodIn wsX9_matching wsX9_clothAt := goodIn_ca (goodIn_r _ [8, 9, 10, 2, 3, 45, 46, 47, 48, 49, 50, 51, 52, 53, 54, 55] (by decide +kernel) (by decide +kernel)) (goodIn_sub (fun _ h => List.mem_cons_of_mem _ (List.mem_append_left _ (List.mem_append_right _ h))) (by decide +kernel))
set_option maxRecDepth 20000 in
theorem gX9_matching_X9_clothAt : GoodIn wsX9_matching (wsV RX9 98 RX9 yX9_clothAt wsX9_clothAt) := goodIn_app (goodIn_of _ (by decide +kernel)) ggX9_matching_X9_clothAt
set_option maxRecDepth 20000 in
theorem ggX9_matching_X9_demand : GoodIn wsX9_matching wsX9_demand := goodIn_ca (goodIn_r _ [13, 14, 15] (by decide +kernel) (by decide +kernel)) (goodIn_sub (fun _ h => List.mem_cons_of_mem _ (List.mem_append_right _ h)) (by decide +kernel))
set_option maxRecDepth 20000 in
theorem gX9_matching_X9_demand : GoodIn wsX9_matching (va_wsS RX9 71 yX9_demand wsX9_demand) := goodIn_app (goodIn_of _ (by decide +kernel)) ggX9_matching_X9_demand
set_option maxRecDepth 20000 in
theorem ggX10_isVat_X10_right : GoodIn wsX10_isVat wsX10_right := goodIn_r _ [6, 1, 7, 8, 9, 10, 11, 12, 13, 14, 15, 16, 17, 18, 19, 20, 21, 22, 23, 24, 25, 26, 27, 28, 29, 30, 31, 32, 33, 34, 35, 36, 37, 38, 39, 40, 41, 42, 43, 44, 45, 46, 47, 48, 49, 50, 51, 52, 53, 54, 55, 56, 57] (by decide +kernel) (by decide +kernel)
set_option maxRecDepth 20000 in
theorem gX10_isVat_X10_right : GoodIn wsX10_isVat (wsV RX10 108 RX10 yX10_right wsX10_right) := goodIn_app (goodIn_of _ (by decide +kernel)) ggX10_isVat_X10_right
set_option maxRecDepth 20000 in
theorem ggX10_isCloth_X10_right : GoodIn wsX10_isCloth wsX10_right := goodIn_r _ [7, 1, 8, 9, 10, 11, 12, 13, 14, 15, 16, 17, 18, 19, 20, 21, 22, 23, 24, 25, 26, 27, 28, 29, 30, 31, 32, 33, 34, 35, 36, 37, 38, 39, 40, 41, 42, 43, 44, 45, 46, 47, 48, 49, 50, 51, 52, 53, 54, 55, 56, 57, 58] (by decide +kernel) (by decide +kernel)
set_option maxRecDepth 20000 in
theorem gX10_isCloth_X10_right : GoodIn wsX10_isCloth (wsV RX10 108 RX10 yX10_right wsX10_right) := goodIn_app (goodIn_of _ (by decide +kernel)) ggX10_isCloth_X10_right
set_option maxRecDepth 20000 in
theorem ggX10_charge_X10_isVat : GoodIn wsX10_charge wsX10_isVat := goodIn_r _ [8, 9, 10, 11, 12, 7, 13, 14, 15, 16, 17, 18, 19, 20, 21, 22, 23, 24, 25, 26, 27, 28, 29, 30, 31, 32, 33, 34, 35, 36, 37, 38, 39, 40, 41, 42, 43, 44, 45, 46, 47, 48, 49, 50, 51, 52, 53, 54, 55, 56, 57, 58, 59, 60, 61, 62, 63, 64] (by decide +kernel) (by decide +kernel)
set_option maxRecDepth 20000 in
theorem gX10_charge_X10_isVat : GoodIn wsX10_charge (wsV RX10 115 RX10 yX10_isVat wsX10_isVat) := goodIn_app (goodIn_of _ (by decide +kernel)) ggX10_charge_X10_isVat
set_option maxRecDepth 20000 in
theorem ggX10_feed_X10_isVat : GoodIn wsX10_feed wsX10_isVat := goodIn_r _ [6, 7, 8, 9, 10, 5, 11, 17, 18, 19, 20, 21, 22, 23, 24, 25, 26, 27, 28, 29, 30, 31, 32, 33, 34, 35, 36, 37, 38, 39, 40, 41, 42, 43, 44, 45, 46, 47, 48, 49, 50, 51, 52, 53, 54, 55, 56, 57, 58, 59, 60, 61, 62, 63, 64, 65, 66, 67] (by decide +kernel) (by decide +kernel)
set_option maxRecDepth 20000 in
theorem gX10_feed_X10_isVat : GoodIn wsX10_feed (wsV RX10 115 RX10 yX10_isVat wsX10_isVat) := goodIn_app (goodIn_of _ (by decide +kernel)) ggX10_feed_X10_isVat
set_option maxRecDepth 20000 in
theorem ggX10_feed_X10_right : GoodIn wsX10_feed wsX10_right := goodIn_r _ [11, 7, 17, 18, 19, 20, 21, 22, 23, 24, 25, 26, 27, 28, 29, 30, 31, 32, 33, 34, 35, 36, 37, 38, 39, 40, 41, 42, 43, 44, 45, 46, 47, 48, 49, 50, 51, 52, 53, 54, 55, 56, 57, 58, 59, 60, 61, 62, 63, 64, 65, 66, 67] (by decide +kernel) (by decide +kernel)
set_option maxRecDepth 20000 in
theorem gX10_feed_X10_right : GoodIn wsX10_feed (wsV RX10 108 RX10 yX10_right wsX10_right) := goodIn_app (goodIn_of _ (by decide +kernel)) ggX10_feed_X10_right
set_option maxRecDepth 20000 in
theorem ggX10_feed_X10_feeds : GoodIn wsX10_feed wsX10_feeds := goodIn_r _ [15, 16, 1, 17, 18, 19, 20, 21, 22, 23, 24, 25, 26, 27, 28, 29, 30, 31, 32, 33, 34, 35, 36, 37, 38, 39, 40, 41, 42, 43, 44, 45, 46, 47, 48, 49, 50, 51, 52, 53, 54, 55, 56, 57, 58, 59, 60, 61, 62, 63, 64, 65, 66, 67] (by decide +kernel) (by decide +kernel)
set_option maxRecDepth 20000 in
theorem gX10_feed_X10_feeds : GoodIn wsX10_feed (wsV RX10 123 RX10 yX10_feeds wsX10_feeds) := goodIn_app (goodIn_of _ (by decide +kernel)) ggX10_feed_X10_feeds
set_option maxRecDepth 20000 in
theorem ggX10_lime_X10_isVat : GoodIn wsX10_lime wsX10_isVat := goodIn_r _ [6, 7, 8, 9, 10, 5, 11, 18, 19, 20, 21, 22, 23, 24, 25, 26, 27, 28, 29, 30, 31, 32, 33, 34, 35, 36, 37, 38, 39, 40, 41, 42, 43, 44, 45, 46, 47, 48, 49, 50, 51, 52, 53, 54, 55, 56, 57, 58, 59, 60, 61, 62, 63, 64, 65, 66, 67, 68] (by decide +kernel) (by decide +kernel)
set_option maxRecDepth 20000 in
theorem gX10_lime_X10_isVat : GoodIn wsX10_lime (wsV RX10 115 RX10 yX10_isVat wsX10_isVat) := goodIn_app (goodIn_of _ (by decide +kernel)) ggX10_lime_X10_isVat
set_option maxRecDepth 20000 in
theorem ggX10_lime_X10_limes : GoodIn wsX10_lime wsX10_limes := goodIn_r _ [15, 1, 16, 17, 18, 19, 20, 21, 22, 23, 24, 25, 26, 27, 28, 29, 30, 31, 32, 33, 34, 35, 36, 37, 38, 39, 40, 41, 42, 43, 44, 45, 46, 47, 48, 49, 50, 51, 52, 53, 54, 55, 56, 57, 58, 59, 60, 61, 62, 63, 64, 65, 66, 67, 68] (by decide +kernel) (by decide +kernel)
set_option maxRecDepth 20000 in
theorem gX10_lime_X10_limes : GoodIn wsX10_lime (wsV RX10 127 RX10 yX10_limes wsX10_limes) := goodIn_app (goodIn_of _ (by decide +kernel)) ggX10_lime_X10_limes
set_option maxRecDepth 20000 in
theorem ggX10_hours_X10_right : GoodIn wsX10_hours wsX10_right := goodIn_r _ [7, 1, 17, 18, 19, 20, 21, 22, 23, 24, 25, 26, 27, 28, 29, 30, 31, 32, 33, 34, 35, 36, 37, 38, 39, 40, 41, 42, 43, 44, 45, 46, 47, 48, 49, 50, 51, 52, 53, 54, 55, 56, 57, 58, 59, 60, 61, 62, 63, 64, 65, 66, 67] (by decide +kernel) (by decide +kernel)
set_option maxRecDepth 20000 in
theorem gX10_hours_X10_right : GoodIn wsX10_hours (wsV RX10 108 RX10 yX10_right wsX10_right) := goodIn_app (goodIn_of _ (by decide +kernel)) ggX10_hours_X10_right
set_option maxRecDepth 20000 in
theorem ggX10_hours_X10_hour : GoodIn wsX10_hours wsX10_hour := goodIn_r _ [11, 2, 12, 13, 14, 15, 16, 17, 18, 19, 20, 21, 22, 23, 24, 25, 26, 27, 28, 29, 30, 31, 32, 33, 34, 35, 36, 37, 38, 39, 40, 41, 42, 43, 44, 45, 46, 47, 48, 49, 50, 51, 52, 53, 54, 55, 56, 57, 58, 59, 60, 61, 62, 63, 64, 65, 66, 67] (by decide +kernel) (by decide +kernel)
set_option maxRecDepth 20000 in
theorem gX10_hours_X10_hour : GoodIn wsX10_hours (wsV RX10 134 RX10 yX10_hour wsX10_hour) := goodIn_app (goodIn_of _ (by decide +kernel)) ggX10_hours_X10_hour
set_option maxRecDepth 20000 in
theorem ggX10_dip_X10_isCloth : GoodIn wsX10_dip wsX10_isCloth := goodIn_r _ [6, 7, 8, 9, 10, 11, 5, 12, 41, 42, 43, 44, 45, 46, 47, 48, 49, 50, 51, 52, 53, 54, 55, 56, 57, 58, 59, 60, 61, 62, 63, 64, 65, 66, 67, 68, 69, 70, 71, 72, 73, 74, 75, 76, 77, 78, 79, 80, 81, 82, 83, 84, 85, 86, 87, 88, 89, 90, 91] (by decide +kernel) (by decide +kernel)
set_option maxRecDepth 20000 in
theorem gX10_dip_X10_isCloth : GoodIn wsX10_dip (wsV RX10 141 RX10 yX10_isCloth wsX10_isCloth) := goodIn_app (goodIn_of _ (by decide +kernel)) ggX10_dip_X10_isCloth
set_option maxRecDepth 20000 in
theorem ggX10_dip_X10_isVat : GoodIn wsX10_dip wsX10_isVat := goodIn_r _ [16, 7, 9, 10, 11, 5, 12, 41, 42, 43, 44, 45, 46, 47, 48, 49, 50, 51, 52, 53, 54, 55, 56, 57, 58, 59, 60, 61, 62, 63, 64, 65, 66, 67, 68, 69, 70, 71, 72, 73, 74, 75, 76, 77, 78, 79, 80, 81, 82, 83, 84, 85, 86, 87, 88, 89, 90, 91] (by decide +kernel) (by decide +kernel)
set_option maxRecDepth 20000 in
theorem gX10_dip_X10_isVat : GoodIn wsX10_dip (wsV RX10 115 RX10 yX10_isVat wsX10_isVat) := goodIn_app (goodIn_of _ (by decide +kernel)) ggX10_dip_X10_isVat
set_option maxRecDepth 20000 in
theorem ggX10_dip_X10_right : GoodIn wsX10_dip wsX10_right := goodIn_r _ [12, 7, 41, 42, 43, 44, 45, 46, 47, 48, 49, 50, 51, 52, 53, 54, 55, 56, 57, 58, 59, 60, 61, 62, 63, 64, 65, 66, 67, 68, 69, 70, 71, 72, 73, 74, 75, 76, 77, 78, 79, 80, 81, 82, 83, 84, 85, 86, 87, 88, 89, 90, 91] (by decide +kernel) (by decide +kernel)
set_option maxRecDepth 20000 in
theorem gX10_dip_X10_right : GoodIn wsX10_dip (wsV RX10 108 RX10 yX10_right wsX10_right) := goodIn_app (goodIn_of _ (by decide +kernel)) ggX10_dip_X10_right
set_option maxRecDepth 20000 in
theorem ggX10_treat_X10_isCloth : GoodIn wsX10_treat wsX10_isCloth := goodIn_r _ [7, 8, 9, 10, 11, 12, 6, 13, 29, 30, 31, 32, 33, 34, 35, 36, 37, 38, 39, 40, 41, 42, 43, 44, 45, 46, 47, 48, 49, 50, 51, 52, 53, 54, 55, 56, 57, 58, 59, 60, 61, 62, 63, 64, 65, 66, 67, 68, 69, 70, 71, 72, 73, 74, 75, 76, 77, 78, 79] (by decide +kernel) (by decide +kernel)
set_option maxRecDepth 20000 in
theorem gX10_treat_X10_isCloth : GoodIn wsX10_treat (wsV RX10 141 RX10 yX10_isCloth wsX10_isCloth) := goodIn_app (goodIn_of _ (by decide +kernel)) ggX10_treat_X10_isCloth
set_option maxRecDepth 20000 in
theorem ggX10_treat_X10_right : GoodIn wsX10_treat wsX10_right := goodIn_r _ [13, 8, 29, 30, 31, 32, 33, 34, 35, 36, 37, 38, 39, 40, 41, 42, 43, 44, 45, 46, 47, 48, 49, 50, 51, 52, 53, 54, 55, 56, 57, 58, 59, 60, 61, 62, 63, 64, 65, 66, 67, 68, 69, 70, 71, 72, 73, 74, 75, 76, 77, 78, 79] (by decide +kernel) (by decide +kernel)
set_option maxRecDepth 20000 in
theorem gX10_treat_X10_right : GoodIn wsX10_treat (wsV RX10 108 RX10 yX10_right wsX10_right) := goodIn_app (goodIn_of _ (by decide +kernel)) ggX10_treat_X10_right
set_option maxRecDepth 20000 in
theorem ggX10_put_X10_lays : GoodIn wsX10_put wsX10_lays := goodIn_r _ [7, 8, 2, 9, 10, 11, 12, 13, 14, 15, 16, 17, 18, 19, 20, 21, 22, 23, 24, 25, 26, 27, 28, 29, 30, 31, 32, 33, 34, 35, 36, 37, 38, 39, 40, 41, 42, 43, 44, 45, 46, 47, 48, 49, 50, 51, 52, 53, 54, 55, 56, 57, 58, 59] (by decide +kernel) (by decide +kernel)
set_option maxRecDepth 20000 in
theorem gX10_put_X10_lays : GoodIn wsX10_put (wsV RX10 162 RX10 yX10_lays wsX10_lays) := goodIn_app (goodIn_of _ (by decide +kernel)) ggX10_put_X10_lays
set_option maxRecDepth 20000 in
theorem ggX10_steps_X10_skip : GoodIn wsX10_steps wsX10_skip := goodIn_r _ [8, 1, 2, 9, 135, 136, 137, 138, 139, 140, 141, 142, 143, 144, 145, 146, 147, 148, 149, 150, 151, 152, 153, 154, 155, 156, 157, 158, 159, 160, 161, 162, 163, 164, 165, 166, 167, 168, 169, 170, 171, 172, 173, 174, 175, 176, 177, 178, 179, 180, 181, 182, 183, 184, 185] (by decide +kernel) (by decide +kernel)
set_option maxRecDepth 20000 in
theorem gX10_steps_X10_skip : GoodIn wsX10_steps (wsV RX10 208 RX10 yX10_skip wsX10_skip) := goodIn_app (goodIn_of _ (by decide +kernel)) ggX10_steps_X10_skip
set_option maxRecDepth 20000 in
theorem ggX10_recipe_X10_right : GoodIn wsX10_recipe wsX10_right := goodIn_r _ [24, 1, 145, 146, 147, 148, 149, 150, 151, 152, 153, 154, 155, 156, 157, 158, 159, 160, 161, 162, 163, 164, 165, 166, 167, 168, 169, 170, 171, 172, 173, 174, 175, 176, 177, 178, 179, 180, 181, 182, 183, 184, 185, 186, 187, 188, 189, 190, 191, 192, 193, 194, 195] (by decide +kernel) (by decide +kernel)
set_option maxRecDepth 20000 in
theorem gX10_recipe_X10_right : GoodIn wsX10_recipe (wsV RX10 108 RX10 yX10_right wsX10_right) := goodIn_app (goodIn_of _ (by decide +kernel)) ggX10_recipe_X10_right
set_option maxRecDepth 20000 in
theorem ggX10_recipe_X10_steps : GoodIn wsX10_recipe wsX10_steps := goodIn_r _ [28, 4, 3, 16, 29, 30, 31, 23, 32, 33, 34, 35, 36, 37, 38, 39, 40, 41, 8, 15, 14, 42, 43, 44, 45, 5, 6, 25, 26, 27, 46, 9, 47, 48, 49, 50, 11, 51, 52, 53, 54, 55, 10, 56, 57, 58, 59, 60, 61, 62, 63, 64, 65, 66, 67, 68, 69, 70, 71, 72, 73, 12, 13, 74, 75, 76, 77, 78, 79, 80, 81, 82, 83, 84, 85, 86, 87, 88, 89, 90, 91, 92, 93, 94, 95, 96, 97, 98, 99, 100, 101, 102, 103, 104, 105, 106, 107, 108, 109, 110, 111, 112, 113, 114, 115, 116, 117, 118, 119, 120, 121, 122, 123, 124, 125, 126, 127, 128, 129, 130, 131, 132, 133, 134, 135, 136, 137, 138, 139, 140, 141, 7, 142, 143, 144, 145, 146, 147, 148, 149, 150, 151, 152, 153, 154, 155, 156, 157, 158, 159, 160, 161, 162, 163, 164, 165, 166, 167, 168, 169, 170, 171, 172, 173, 174, 175, 176, 177, 178, 179, 180, 181, 182, 183, 184, 185, 186, 187, 188, 189, 190, 191, 192, 193, 194, 195] (by decide +kernel) (by decide +kernel)
set_option maxRecDepth 20000 in
theorem gX10_recipe_X10_steps : GoodIn wsX10_recipe (wsV RX10 280 RX10 yX10_steps wsX10_steps) := goodIn_app (goodIn_of _ (by decide +kernel)) ggX10_recipe_X10_steps
set_option maxRecDepth 20000 in
theorem ggX10_fault_X10_right : GoodIn wsX10_fault wsX10_right := goodIn_r _ [8, 1, 9, 10, 11, 12, 13, 14, 15, 16, 17, 18, 19, 20, 21, 22, 23, 24, 25, 26, 27, 28, 29, 30, 31, 32, 33, 34, 35, 36, 37, 38, 39, 40, 41, 42, 43, 44, 45, 46, 47, 48, 49, 50, 51, 52, 53, 54, 55, 56, 57, 58, 59] (by decide +kernel) (by decide +kernel)
set_option maxRecDepth 20000 in
theorem gX10_fault_X10_right : GoodIn wsX10_fault (wsV RX10 108 RX10 yX10_right wsX10_right) := goodIn_app (goodIn_of _ (by decide +kernel)) ggX10_fault_X10_right
set_option maxRecDepth 20000 in
theorem ggX10_run_X10_isCloth : GoodIn wsX10_run wsX10_isCloth := goodIn_r _ [13, 14, 15, 16, 17, 18, 12, 19, 108, 109, 110, 111, 112, 113, 114, 115, 116, 117, 118, 119, 120, 121, 122, 123, 124, 125, 126, 127, 128, 129, 130, 131, 132, 133, 134, 135, 136, 137, 138, 139, 140, 141, 142, 143, 144, 145, 146, 147, 148, 149, 150, 151, 152, 153, 154, 155, 156, 157, 158] (by decide +kernel) (by decide +kernel)
set_option maxRecDepth 20000 in
theorem gX10_run_X10_isCloth : GoodIn wsX10_run (wsV RX10 141 RX10 yX10_isCloth wsX10_isCloth) := goodIn_app (goodIn_of _ (by decide +kernel)) ggX10_run_X10_isCloth
set_option maxRecDepth 20000 in
theorem ggX10_ran_X10_right : GoodIn wsX10_ran wsX10_right := goodIn_r _ [12, 1, 13, 14, 15, 16, 17, 18, 19, 20, 21, 22, 23, 24, 25, 26, 27, 28, 29, 30, 31, 32, 33, 34, 35, 36, 37, 38, 39, 40, 41, 42, 43, 44, 45, 46, 47, 48, 49, 50, 51, 52, 53, 54, 55, 56, 57, 58, 59, 60, 61, 62, 63] (by decide +kernel) (by decide +kernel)
set_option maxRecDepth 20000 in
theorem gX10_ran_X10_right : GoodIn wsX10_ran (wsV RX10 108 RX10 yX10_right wsX10_right) := goodIn_app (goodIn_of _ (by decide +kernel)) ggX10_ran_X10_right
set_option maxRecDepth 20000 in
theorem ggX10_plan_X10_isCloth : GoodIn wsX10_plan wsX10_isCloth := goodIn_r _ [6, 7, 8, 9, 10, 11, 5, 12, 53, 54, 55, 56, 57, 58, 59, 60, 61, 62, 63, 64, 65, 66, 67, 68, 69, 70, 71, 72, 73, 74, 75, 76, 77, 78, 79, 80, 81, 82, 83, 84, 85, 86, 87, 88, 89, 90, 91, 92, 93, 94, 95, 96, 97, 98, 99, 100, 101, 102, 103] (by decide +kernel) (by decide +kernel)
set_option maxRecDepth 20000 in
theorem gX10_plan_X10_isCloth : GoodIn wsX10_plan (wsV RX10 141 RX10 yX10_isCloth wsX10_isCloth) := goodIn_app (goodIn_of _ (by decide +kernel)) ggX10_plan_X10_isCloth
set_option maxRecDepth 20000 in
theorem ggX10_plan_X10_right : GoodIn wsX10_plan wsX10_right := goodIn_r _ [12, 7, 53, 54, 55, 56, 57, 58, 59, 60, 61, 62, 63, 64, 65, 66, 67, 68, 69, 70, 71, 72, 73, 74, 75, 76, 77, 78, 79, 80, 81, 82, 83, 84, 85, 86, 87, 88, 89, 90, 91, 92, 93, 94, 95, 96, 97, 98, 99, 100, 101, 102, 103] (by decide +kernel) (by decide +kernel)
set_option maxRecDepth 20000 in
theorem gX10_plan_X10_right : GoodIn wsX10_plan (wsV RX10 108 RX10 yX10_right wsX10_right) := goodIn_app (goodIn_of _ (by decide +kernel)) ggX10_plan_X10_right
set_option maxRecDepth 20000 in
theorem ggX10_planned_X10_right : GoodIn wsX10_planned wsX10_right := goodIn_r _ [10, 1, 11, 12, 13, 14, 15, 16, 17, 18, 19, 20, 21, 22, 23, 24, 25, 26, 27, 28, 29, 30, 31, 32, 33, 34, 35, 36, 37, 38, 39, 40, 41, 42, 43, 44, 45, 46, 47, 48, 49, 50, 51, 52, 53, 54, 55, 56, 57, 58, 59, 60, 61] (by decide +kernel) (by decide +kernel)
set_option maxRecDepth 20000 in
theorem gX10_planned_X10_right : GoodIn wsX10_planned (wsV RX10 108 RX10 yX10_right wsX10_right) := goodIn_app (goodIn_of _ (by decide +kernel)) ggX10_planned_X10_right
set_option maxRecDepth 20000 in
theorem ggX10_vat_X10_isVat : GoodIn wsX10_vat wsX10_isVat := goodIn_r _ [11, 12, 13, 14, 15, 10, 16, 17, 18, 19, 20, 21, 22, 23, 24, 25, 26, 27, 28, 29, 30, 31, 32, 33, 34, 35, 36, 37, 38, 39, 40, 41, 42, 43, 44, 45, 46, 47, 48, 49, 50, 51, 52, 53, 54, 55, 56, 57, 58, 59, 60, 61, 62, 63, 64, 65, 66, 67] (by decide +kernel) (by decide +kernel)
set_option maxRecDepth 20000 in
theorem gX10_vat_X10_isVat : GoodIn wsX10_vat (wsV RX10 115 RX10 yX10_isVat wsX10_isVat) := goodIn_app (goodIn_of _ (by decide +kernel)) ggX10_vat_X10_isVat
set_option maxRecDepth 20000 in
theorem ggX10_vat_X10_right : GoodIn wsX10_vat wsX10_right := goodIn_r _ [16, 12, 17, 18, 19, 20, 21, 22, 23, 24, 25, 26, 27, 28, 29, 30, 31, 32, 33, 34, 35, 36, 37, 38, 39, 40, 41, 42, 43, 44, 45, 46, 47, 48, 49, 50, 51, 52, 53, 54, 55, 56, 57, 58, 59, 60, 61, 62, 63, 64, 65, 66, 67] (by decide +kernel) (by decide +kernel)
set_option maxRecDepth 20000 in
theorem gX10_vat_X10_right : GoodIn wsX10_vat (wsV RX10 108 RX10 yX10_right wsX10_right) := goodIn_app (goodIn_of _ (by decide +kernel)) ggX10_vat_X10_right
set_option maxRecDepth 20000 in
theorem ggX10_about_X10_isCloth : GoodIn wsX10_about wsX10_isCloth := goodIn_r _ [11, 12, 13, 14, 15, 16, 10, 17, 26, 27, 28, 29, 30, 31, 32, 33, 34, 35, 36, 37, 38, 39, 40, 41, 42, 43, 44, 45, 46, 47, 48, 49, 50, 51, 52, 53, 54, 55, 56, 57, 58, 59, 60, 61, 62, 63, 64, 65, 66, 67, 68, 69, 70, 71, 72, 73, 74, 75, 76] (by decide +kernel) (by decide +kernel)
set_option maxRecDepth 20000 in
theorem gX10_about_X10_isCloth : GoodIn wsX10_about (wsV RX10 141 RX10 yX10_isCloth wsX10_isCloth) := goodIn_app (goodIn_of _ (by decide +kernel)) ggX10_about_X10_isCloth
set_option maxRecDepth 20000 in
theorem ggX10_about_X10_right : GoodIn wsX10_about wsX10_right := goodIn_r _ [17, 12, 26, 27, 28, 29, 30, 31, 32, 33, 34, 35, 36, 37, 38, 39, 40, 41, 42, 43, 44, 45, 46, 47, 48, 49, 50, 51, 52, 53, 54, 55, 56, 57, 58, 59, 60, 61, 62, 63, 64, 65, 66, 67, 68, 69, 70, 71, 72, 73, 74, 75, 76] (by decide +kernel) (by decide +kernel)
set_option maxRecDepth 20000 in
theorem gX10_about_X10_right : GoodIn wsX10_about (wsV RX10 108 RX10 yX10_right wsX10_right) := goodIn_app (goodIn_of _ (by decide +kernel)) ggX10_about_X10_right
set_option maxRecDepth 20000 in
theorem ggX10_count_X10_right : GoodIn wsX10_count wsX10_right := goodIn_r _ [12, 1, 13, 14, 15, 16, 17, 18, 19, 20, 21, 22, 23, 24, 25, 26, 27, 28, 29, 30, 31, 32, 33, 34, 35, 36, 37, 38, 39, 40, 41, 42, 43, 44, 45, 46, 47, 48, 49, 50, 51, 52, 53, 54, 55, 56, 57, 58, 59, 60, 61, 62, 63] (by decide +kernel) (by decide +kernel)
set_option maxRecDepth 20000 in
theorem gX10_count_X10_right : GoodIn wsX10_count (wsV RX10 108 RX10 yX10_right wsX10_right) := goodIn_app (goodIn_of _ (by decide +kernel)) ggX10_count_X10_right
set_option maxRecDepth 20000 in
theorem ggX10_faded_X10_isCloth : GoodIn wsX10_faded wsX10_isCloth := goodIn_r _ [6, 7, 8, 9, 10, 11, 5, 12, 32, 33, 34, 35, 36, 37, 38, 39, 40, 41, 42, 43, 44, 45, 46, 47, 48, 49, 50, 51, 52, 53, 54, 55, 56, 57, 58, 59, 60, 61, 62, 63, 64, 65, 66, 67, 68, 69, 70, 71, 72, 73, 74, 75, 76, 77, 78, 79, 80, 81, 82] (by decide +kernel) (by decide +kernel)
set_option maxRecDepth 20000 in
theorem gX10_faded_X10_isCloth : GoodIn wsX10_faded (wsV RX10 141 RX10 yX10_isCloth wsX10_isCloth) := goodIn_app (goodIn_of _ (by decide +kernel)) ggX10_faded_X10_isCloth
set_option maxRecDepth 20000 in
theorem ggX10_faded_X10_right : GoodIn wsX10_faded wsX10_right := goodIn_r _ [12, 7, 32, 33, 34, 35, 36, 37, 38, 39, 40, 41, 42, 43, 44, 45, 46, 47, 48, 49, 50, 51, 52, 53, 54, 55, 56, 57, 58, 59, 60, 61, 62, 63, 64, 65, 66, 67, 68, 69, 70, 71, 72, 73, 74, 75, 76, 77, 78, 79, 80, 81, 82] (by decide +kernel) (by decide +kernel)
set_option maxRecDepth 20000 in
theorem gX10_faded_X10_right : GoodIn wsX10_faded (wsV RX10 108 RX10 yX10_right wsX10_right) := goodIn_app (goodIn_of _ (by decide +kernel)) ggX10_faded_X10_right
set_option maxRecDepth 20000 in
theorem ggX10_matching_X10_isCloth : GoodIn wsX10_matching wsX10_isCloth := goodIn_r _ [7, 8, 2, 9, 10, 11, 6, 12, 32, 33, 34, 35, 36, 37, 38, 39, 40, 41, 42, 43, 44, 45, 46, 47, 48, 49, 50, 51, 52, 53, 54, 55, 56, 57, 58, 59, 60, 61, 62, 63, 64, 65, 66, 67, 68, 69, 70, 71, 72, 73, 74, 75, 76, 77, 78, 79, 80, 81, 82] (by decide +kernel) (by decide +kernel)
set_option maxRecDepth 20000 in
theorem gX10_matching_X10_isCloth : GoodIn wsX10_matching (wsV RX10 141 RX10 yX10_isCloth wsX10_isCloth) := goodIn_app (goodIn_of _ (by decide +kernel)) ggX10_matching_X10_isCloth
set_option maxRecDepth 20000 in
theorem ggX10_matching_X10_right : GoodIn wsX10_matching wsX10_right := goodIn_r _ [12, 8, 32, 33, 34, 35, 36, 37, 38, 39, 40, 41, 42, 43, 44, 45, 46, 47, 48, 49, 50, 51, 52, 53, 54, 55, 56, 57, 58, 59, 60, 61, 62, 63, 64, 65, 66, 67, 68, 69, 70, 71, 72, 73, 74, 75, 76, 77, 78, 79, 80, 81, 82] (by decide +kernel) (by decide +kernel)
set_option maxRecDepth 20000 in
theorem gX10_matching_X10_right : GoodIn wsX10_matching (wsV RX10 108 RX10 yX10_right wsX10_right) := goodIn_app (goodIn_of _ (by decide +kernel)) ggX10_matching_X10_right
