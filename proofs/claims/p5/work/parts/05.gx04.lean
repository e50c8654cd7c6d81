set_option maxRecDepth 20000 in
theorem ggX9_recipe_X2_readRecipe : GoodIn wsX9_recipe wsX2_readRecipe := goodIn_m (subW_r _ [20, 21, 22, 23, 24, 25, 26, 27, 28, 29, 30, 31, 32, 33, 34, 35, 36, 37, 38, 39, 40, 41, 42, 43, 44, 45, 46, 47, 48, 49, 50, 51, 52, 53, 54, 55, 56, 57, 58, 59, 60, 61, 62, 63, 64, 65, 66, 67, 68, 69, 70, 71, 72, 73, 74, 75, 76, 77, 78, 79, 80, 81, 82, 83, 84, 85, 86, 87, 88, 89, 90, 91, 92, 93, 94, 95, 96, 97, 98, 99, 100, 101, 102, 103, 104, 105, 106, 107, 108, 109, 110, 111, 112, 113, 114, 115, 116, 117, 118, 119, 120, 121, 122, 123, 124, 125, 126, 127, 128, 129, 130, 131, 132, 133, 134, 135, 19, 136, 137, 138, 139, 140, 141, 142, 143, 144, 145, 146, 147, 148, 149, 150, 151, 152, 153, 154, 155, 156, 157, 158, 159, 160, 161, 162, 163, 164, 165, 166, 167, 168, 169, 170, 171, 172, 173, 174, 175, 176, 177, 178, 179, 180, 181, 182, 183, 184, 185, 186, 187, 188, 189, 190, 191, 192, 193, 194, 195, 196, 213, 214, 215, 216, 217, 218, 220, 221, 222, 223, 224, 225, 226, 227, 228, 229, 230, 231, 232, 233, 234] (by exact rfl)) gwd_X2_readRecipe
set_option maxRecDepth 20000 in
theorem gX9_recipe_X2_readRecipe : GoodIn wsX9_recipe (wsV RX9 130 RX2 yX2_readRecipe wsX2_readRecipe) := goodIn_app (goodIn_r _ [16, 17, 18, 19] (by exact rfl) (by decide +kernel)) ggX9_recipe_X2_readRecipe
set_option maxRecDepth 20000 in
theorem ggX9_recipe_X3_init : GoodIn wsX9_recipe wsX3_init := goodIn_m (subW_r _ [199, 200, 187, 188, 201, 219] (by exact rfl)) gwd_X3_init
set_option maxRecDepth 20000 in
theorem gX9_recipe_X3_init : GoodIn wsX9_recipe (wsX3_init) := ggX9_recipe_X3_init
set_option maxRecDepth 20000 in
theorem ggX9_run_X9_clothAt : GoodIn wsX9_run wsX9_clothAt := goodIn_m (subW_ca (subW_r _ [9, 10, 11, 12, 13, 184, 185, 186, 187, 188, 189, 190, 191, 192, 193, 194] (by exact rfl)) ((fun _ h => List.mem_cons_of_mem _ (List.mem_append_left _ (List.mem_append_right _ h))))) gwd_X9_clothAt
set_option maxRecDepth 20000 in
theorem gX9_run_X9_clothAt : GoodIn wsX9_run (wsV RX9 98 RX9 yX9_clothAt wsX9_clothAt) := goodIn_app (goodIn_r _ [5, 6, 7, 8] (by exact rfl) (by decide +kernel)) ggX9_run_X9_clothAt
set_option maxRecDepth 20000 in
theorem ggX9_run_X4_follow : GoodIn wsX9_run wsX4_follow := goodIn_m (subW_ca (subW_r _ [18, 19, 20, 21, 22, 23, 24, 25, 26, 27, 28, 29, 30, 31, 32, 17, 33, 34, 35, 36, 37, 38, 39, 40, 41, 42, 43, 44, 45, 46, 47, 48, 49, 50, 51, 52, 11, 53, 54, 55, 56, 57, 58, 59, 60, 61, 62, 63, 64, 65, 66, 67, 68, 69, 70, 71, 72, 73, 74, 75, 76, 77, 78, 79, 80, 81, 82, 83, 84, 85, 86, 87, 88, 89, 90, 91, 92, 93, 94, 95, 96, 97, 98, 99, 100, 101, 102, 103, 104, 105, 106, 107, 108, 109, 110, 111, 112, 113, 114, 115, 116, 117, 118, 119, 120, 121, 122, 123, 124, 125, 126, 127, 128, 129, 130, 131, 132, 133, 134, 135, 136, 137, 138, 139, 140, 141, 142, 143, 144, 145, 146, 147, 148, 149, 150, 151, 152, 153, 154, 155, 156, 157, 158, 159, 160, 161, 162, 163, 164, 165, 166, 167, 168, 169, 170, 171, 172, 173, 174, 175, 176, 177, 178, 179, 180, 181, 182, 183, 204, 205, 206, 207, 208, 209, 210, 211, 212, 213, 214, 215, 216, 217, 218, 219, 195, 196, 197, 198, 199, 200, 201, 202, 220, 221, 222, 223, 224, 225, 226, 227, 228, 229, 230] (by exact rfl)) ((fun _ h => List.mem_cons_of_mem _ (List.mem_append_right _ h)))) gwd_X4_follow
set_option maxRecDepth 20000 in
theorem gX9_run_X4_follow : GoodIn wsX9_run (wsV RX9 160 RX4 yX4_follow wsX4_follow) := goodIn_app (goodIn_r _ [14, 15, 16, 17] (by exact rfl) (by decide +kernel)) ggX9_run_X4_follow
set_option maxRecDepth 20000 in
theorem ggX9_plan_X9_clothAt : GoodIn wsX9_plan wsX9_clothAt := goodIn_m (subW_ca (subW_r _ [7, 8, 9, 10, 11, 104, 105, 106, 107, 108, 109, 110, 111, 112, 113, 114] (by exact rfl)) ((fun _ h => List.mem_cons_of_mem _ (List.mem_append_left _ (List.mem_append_left _ (List.mem_append_right _ h)))))) gwd_X9_clothAt
set_option maxRecDepth 20000 in
theorem gX9_plan_X9_clothAt : GoodIn wsX9_plan (wsV RX9 98 RX9 yX9_clothAt wsX9_clothAt) := goodIn_app (goodIn_r _ [3, 4, 5, 6] (by exact rfl) (by decide +kernel)) ggX9_plan_X9_clothAt
set_option maxRecDepth 20000 in
theorem ggX9_plan_X9_demand : GoodIn wsX9_plan wsX9_demand := goodIn_m (subW_ca (subW_r _ [14, 15, 16] (by exact rfl)) ((fun _ h => List.mem_cons_of_mem _ (List.mem_append_left _ (List.mem_append_right _ h))))) gwd_X9_demand
set_option maxRecDepth 20000 in
theorem gX9_plan_X9_demand : GoodIn wsX9_plan (va_wsS RX9 71 yX9_demand wsX9_demand) := goodIn_app (goodIn_r _ [12, 13, 6] (by exact rfl) (by decide +kernel)) ggX9_plan_X9_demand
set_option maxRecDepth 20000 in
theorem ggX9_plan_X1_fewest : GoodIn wsX9_plan wsX1_fewest := goodIn_m (subW_ca (subW_r _ [21, 22, 23, 24, 25, 26, 27, 28, 29, 30, 31, 32, 33, 9, 34, 35, 36, 37, 38, 39, 40, 41, 42, 43, 44, 45, 46, 47, 48, 49, 50, 51, 52, 53, 54, 20, 55, 56, 57, 58, 59, 60, 61, 62, 63, 64, 65, 66, 67, 68, 69, 70, 71, 72, 73, 74, 75, 76, 77, 78, 79, 80, 81, 82, 83, 84, 85, 86, 87, 88, 89, 90, 91, 92, 93, 94, 95, 115, 116, 117, 118, 119, 120, 121, 122, 123, 124, 125, 126, 127, 128, 129, 130, 131, 132, 133, 134, 96, 97, 98, 99, 100, 101, 102, 103] (by exact rfl)) ((fun _ h => List.mem_cons_of_mem _ (List.mem_append_right _ h)))) gwd_X1_fewest
set_option maxRecDepth 20000 in
theorem gX9_plan_X1_fewest : GoodIn wsX9_plan (wsV RX9 182 RX1 yX1_fewest wsX1_fewest) := goodIn_app (goodIn_r _ [17, 18, 19, 20] (by exact rfl) (by decide +kernel)) ggX9_plan_X1_fewest
set_option maxRecDepth 20000 in
theorem ggX9_vat_X8_vatAt : GoodIn wsX9_vat wsX8_vatAt := goodIn_m (subW_ca (subW_r _ [14, 15, 2, 16, 36, 37, 38] (by exact rfl)) ((fun _ h => List.mem_cons_of_mem _ (List.mem_append_right _ h)))) gwd_X8_vatAt
set_option maxRecDepth 20000 in
theorem gX9_vat_X8_vatAt : GoodIn wsX9_vat (wsV RX9 57 RX8 yX8_vatAt wsX8_vatAt) := goodIn_app (goodIn_r _ [10, 11, 12, 13] (by exact rfl) (by decide +kernel)) ggX9_vat_X8_vatAt
set_option maxRecDepth 20000 in
theorem ggX9_about_X9_clothAt : GoodIn wsX9_about wsX9_clothAt := goodIn_m (subW_ca (subW_r _ [14, 1, 2, 15, 16, 32, 33, 34, 35, 36, 37, 38, 39, 40, 41, 42] (by exact rfl)) ((fun _ h => List.mem_cons_of_mem _ (List.mem_append_right _ h)))) gwd_X9_clothAt
set_option maxRecDepth 20000 in
theorem gX9_about_X9_clothAt : GoodIn wsX9_about (wsV RX9 98 RX9 yX9_clothAt wsX9_clothAt) := goodIn_app (goodIn_r _ [10, 11, 12, 13] (by exact rfl) (by decide +kernel)) ggX9_about_X9_clothAt
set_option maxRecDepth 20000 in
theorem ggX9_about_X0_shade : GoodIn wsX9_about wsX0_shade := goodIn_m (subW_r _ [21, 22, 23, 24, 25, 26, 27, 28, 29, 30, 31] (by exact rfl)) gwd_X0_shade
set_option maxRecDepth 20000 in
theorem gX9_about_X0_shade : GoodIn wsX9_about (wsV RX9 222 RX0 yX0_shade wsX0_shade) := goodIn_app (goodIn_r _ [17, 18, 19, 20] (by exact rfl) (by decide +kernel)) ggX9_about_X0_shade
set_option maxRecDepth 20000 in
theorem ggX9_faded_X9_clothAt : GoodIn wsX9_faded wsX9_clothAt := goodIn_m (subW_ca (subW_r _ [6, 7, 8, 9, 10, 41, 42, 43, 44, 45, 46, 47, 48, 49, 50, 51] (by exact rfl)) ((fun _ h => List.mem_cons_of_mem _ (List.mem_append_left _ (List.mem_append_right _ h))))) gwd_X9_clothAt
set_option maxRecDepth 20000 in
theorem gX9_faded_X9_clothAt : GoodIn wsX9_faded (wsV RX9 98 RX9 yX9_clothAt wsX9_clothAt) := goodIn_app (goodIn_r _ [2, 3, 4, 5] (by exact rfl) (by decide +kernel)) ggX9_faded_X9_clothAt
set_option maxRecDepth 20000 in
theorem ggX9_faded_X9_demand : GoodIn wsX9_faded wsX9_demand := goodIn_m (subW_ca (subW_r _ [13, 14, 15] (by exact rfl)) ((fun _ h => List.mem_cons_of_mem _ (List.mem_append_right _ h)))) gwd_X9_demand
set_option maxRecDepth 20000 in
theorem gX9_faded_X9_demand : GoodIn wsX9_faded (va_wsS RX9 71 yX9_demand wsX9_demand) := goodIn_app (goodIn_r _ [11, 12, 5] (by exact rfl) (by decide +kernel)) ggX9_faded_X9_demand
set_option maxRecDepth 20000 in
theorem ggX9_faded_X0_hasSpan : GoodIn wsX9_faded wsX0_hasSpan := goodIn_m (subW_r _ [20, 21, 22, 52, 53, 54, 55, 56, 57, 58, 59] (by exact rfl)) gwd_X0_hasSpan
set_option maxRecDepth 20000 in
theorem gX9_faded_X0_hasSpan : GoodIn wsX9_faded (wsV RX9 236 RX0 yX0_hasSpan wsX0_hasSpan) := goodIn_app (goodIn_r _ [16, 17, 18, 19] (by exact rfl) (by decide +kernel)) ggX9_faded_X0_hasSpan
set_option maxRecDepth 20000 in
theorem ggX9_faded_X0_leastShade : GoodIn wsX9_faded wsX0_leastShade := goodIn_m (subW_r _ [26, 22, 27, 28, 29, 30, 31, 32, 33, 19, 34, 35, 36, 52, 53, 54, 55, 56, 57, 58, 59] (by exact rfl)) gwd_X0_leastShade
set_option maxRecDepth 20000 in
theorem gX9_faded_X0_leastShade : GoodIn wsX9_faded (wsV RX9 239 RX0 yX0_leastShade wsX0_leastShade) := goodIn_app (goodIn_r _ [23, 24, 25, 19] (by exact rfl) (by decide +kernel)) ggX9_faded_X0_leastShade
set_option maxRecDepth 20000 in
theorem ggX9_faded_X0_greatestShade : GoodIn wsX9_faded wsX0_greatestShade := goodIn_m (subW_r _ [40, 22, 27, 28, 29, 30, 31, 32, 33, 19, 34, 35, 36, 52, 53, 54, 55, 56, 57, 58, 59] (by exact rfl)) gwd_X0_greatestShade
set_option maxRecDepth 20000 in
theorem gX9_faded_X0_greatestShade : GoodIn wsX9_faded (wsV RX9 243 RX0 yX0_greatestShade wsX0_greatestShade) := goodIn_app (goodIn_r _ [37, 38, 39, 19] (by exact rfl) (by decide +kernel)) ggX9_faded_X0_greatestShade
set_option maxRecDepth 20000 in
theorem ggX9_matching_X9_clothAt : GoodIn wsX9_matching wsX9_clothAt := goodIn_m (subW_ca (subW_r _ [8, 9, 10, 2, 3, 45, 46, 47, 48, 49, 50, 51, 52, 53, 54, 55] (by exact rfl)) ((fun _ h => List.mem_cons_of_mem _ (List.mem_append_left _ (List.mem_append_right _ h))))) gwd_X9_clothAt
set_option maxRecDepth 20000 in
theorem gX9_matching_X9_clothAt : GoodIn wsX9_matching (wsV RX9 98 RX9 yX9_clothAt wsX9_clothAt) := goodIn_app (goodIn_r _ [4, 5, 6, 7] (by exact rfl) (by decide +kernel)) ggX9_matching_X9_clothAt
set_option maxRecDepth 20000 in
theorem ggX9_matching_X9_demand : GoodIn wsX9_matching wsX9_demand := goodIn_m (subW_ca (subW_r _ [13, 14, 15] (by exact rfl)) ((fun _ h => List.mem_cons_of_mem _ (List.mem_append_right _ h)))) gwd_X9_demand
set_option maxRecDepth 20000 in
theorem gX9_matching_X9_demand : GoodIn wsX9_matching (va_wsS RX9 71 yX9_demand wsX9_demand) := goodIn_app (goodIn_r _ [11, 12, 7] (by exact rfl) (by decide +kernel)) ggX9_matching_X9_demand
set_option maxRecDepth 20000 in
theorem ggX9_matching_X0_spanMeets : GoodIn wsX9_matching wsX0_spanMeets := goodIn_m (subW_r _ [20, 21, 22, 23, 19, 24, 25, 26, 27, 28, 29, 30, 31, 32, 33, 34, 35, 36, 37, 38, 39, 40, 41, 42, 43, 44, 56, 57, 58, 59, 60, 61, 62, 63] (by exact rfl)) gwd_X0_spanMeets
set_option maxRecDepth 20000 in
theorem gX9_matching_X0_spanMeets : GoodIn wsX9_matching (wsV RX9 246 RX0 yX0_spanMeets wsX0_spanMeets) := goodIn_app (goodIn_r _ [16, 17, 18, 19] (by exact rfl) (by decide +kernel)) ggX9_matching_X0_spanMeets
set_option maxRecDepth 20000 in
theorem ggJ0_length_8abf5_J0_coder_7d493 : GoodIn wsJ0_length_8abf5 wsJ0_coder_7d493 := goodIn_m (subW_r _ [6, 7, 8] (by exact rfl)) gwd_J0_coder_7d493
set_option maxRecDepth 20000 in
theorem gJ0_length_8abf5_J0_coder_7d493 : GoodIn wsJ0_length_8abf5 (wsV RJ0 335 RJ0 yJ0_coder_7d493 wsJ0_coder_7d493) := goodIn_app (goodIn_r _ [2, 3, 4, 5] (by exact rfl) (by decide +kernel)) ggJ0_length_8abf5_J0_coder_7d493
set_option maxRecDepth 20000 in
theorem ggJ0_charAt_5068e_J0_isLatin1_aae02 : GoodIn wsJ0_charAt_5068e wsJ0_isLatin1_aae02 := goodIn_m (subW_r _ [6, 7, 8] (by exact rfl)) gwd_J0_isLatin1_aae02
set_option maxRecDepth 20000 in
theorem gJ0_charAt_5068e_J0_isLatin1_aae02 : GoodIn wsJ0_charAt_5068e (wsV RJ0 492 RJ0 yJ0_isLatin1_aae02 wsJ0_isLatin1_aae02) := goodIn_app (goodIn_r _ [2, 3, 4, 5] (by exact rfl) (by decide +kernel)) ggJ0_charAt_5068e_J0_isLatin1_aae02
set_option maxRecDepth 20000 in
theorem ggJ0_charAt_5068e_J1_charAt_3b067 : GoodIn wsJ0_charAt_5068e wsJ1_charAt_3b067 := goodIn_m (subW_r _ [12, 13, 14, 5, 15, 16, 17, 18, 19, 20] (by exact rfl)) gwd_J1_charAt_3b067
set_option maxRecDepth 20000 in
theorem gJ0_charAt_5068e_J1_charAt_3b067 : GoodIn wsJ0_charAt_5068e (va_wsS RJ0 495 yJ1_charAt_3b067 wsJ1_charAt_3b067) := goodIn_app (goodIn_r _ [9, 10, 11] (by exact rfl) (by decide +kernel)) ggJ0_charAt_5068e_J1_charAt_3b067
set_option maxRecDepth 20000 in
theorem ggJ0_checkIndex_df160_J3_checkIndex_8e157 : GoodIn wsJ0_checkIndex_df160 wsJ3_checkIndex_8e157 := goodIn_m (subW_r _ [5] (by exact rfl)) gwd_J3_checkIndex_8e157
set_option maxRecDepth 20000 in
theorem gJ0_checkIndex_df160_J3_checkIndex_8e157 : GoodIn wsJ0_checkIndex_df160 (va_wsS RJ0 1059 yJ3_checkIndex_8e157 wsJ3_checkIndex_8e157) := goodIn_app (goodIn_r _ [2, 3, 4] (by exact rfl) (by decide +kernel)) ggJ0_checkIndex_df160_J3_checkIndex_8e157
set_option maxRecDepth 20000 in
theorem ggJ1_charAt_3b067_J0_checkIndex_df160 : GoodIn wsJ1_charAt_3b067 wsJ0_checkIndex_df160 := goodIn_m (subW_r _ [4, 5, 6, 7, 8, 9] (by exact rfl)) gwd_J0_checkIndex_df160
set_option maxRecDepth 20000 in
theorem gJ1_charAt_3b067_J0_checkIndex_df160 : GoodIn wsJ1_charAt_3b067 (va_wsS RJ1 9 yJ0_checkIndex_df160 wsJ0_checkIndex_df160) := goodIn_app (goodIn_r _ [1, 2, 3] (by exact rfl) (by decide +kernel)) ggJ1_charAt_3b067_J0_checkIndex_df160
