set_option maxRecDepth 20000 in
theorem ggX9_recipe_X2_readRecipe : GoodIn wsX9_recipe wsX2_readRecipe := goodIn_m (subW_q _ [(20, 116), (19, 1), (136, 61), (213, 6), (220, 15)] (by exact rfl)) gwd_X2_readRecipe
set_option maxRecDepth 20000 in
theorem gX9_recipe_X2_readRecipe : GoodIn wsX9_recipe (wsV RX9 130 RX2 yX2_readRecipe wsX2_readRecipe) := goodIn_app (goodIn_r _ [16, 17, 18, 19] (by exact rfl) (by decide +kernel)) ggX9_recipe_X2_readRecipe
set_option maxRecDepth 20000 in
theorem ggX9_recipe_X3_init : GoodIn wsX9_recipe wsX3_init := goodIn_m (subW_q _ [(199, 2), (187, 2), (201, 1), (219, 1)] (by exact rfl)) gwd_X3_init
set_option maxRecDepth 20000 in
theorem gX9_recipe_X3_init : GoodIn wsX9_recipe (wsX3_init) := ggX9_recipe_X3_init
set_option maxRecDepth 20000 in
theorem ggX9_run_X9_clothAt : GoodIn wsX9_run wsX9_clothAt := goodIn_m (subW_ca (subW_q _ [(9, 5), (184, 11)] (by exact rfl)) ((fun _ h => List.mem_cons_of_mem _ (List.mem_append_left _ (List.mem_append_right _ h))))) gwd_X9_clothAt
set_option maxRecDepth 20000 in
theorem gX9_run_X9_clothAt : GoodIn wsX9_run (wsV RX9 98 RX9 yX9_clothAt wsX9_clothAt) := goodIn_app (goodIn_r _ [5, 6, 7, 8] (by exact rfl) (by decide +kernel)) ggX9_run_X9_clothAt
set_option maxRecDepth 20000 in
theorem ggX9_run_X4_follow : GoodIn wsX9_run wsX4_follow := goodIn_m (subW_ca (subW_q _ [(18, 15), (17, 1), (33, 20), (11, 1), (53, 131), (204, 16), (195, 8), (220, 11)] (by exact rfl)) ((fun _ h => List.mem_cons_of_mem _ (List.mem_append_right _ h)))) gwd_X4_follow
set_option maxRecDepth 20000 in
theorem gX9_run_X4_follow : GoodIn wsX9_run (wsV RX9 160 RX4 yX4_follow wsX4_follow) := goodIn_app (goodIn_r _ [14, 15, 16, 17] (by exact rfl) (by decide +kernel)) ggX9_run_X4_follow
set_option maxRecDepth 20000 in
theorem ggX9_plan_X9_clothAt : GoodIn wsX9_plan wsX9_clothAt := goodIn_m (subW_ca (subW_q _ [(7, 5), (104, 11)] (by exact rfl)) ((fun _ h => List.mem_cons_of_mem _ (List.mem_append_left _ (List.mem_append_left _ (List.mem_append_right _ h)))))) gwd_X9_clothAt
set_option maxRecDepth 20000 in
theorem gX9_plan_X9_clothAt : GoodIn wsX9_plan (wsV RX9 98 RX9 yX9_clothAt wsX9_clothAt) := goodIn_app (goodIn_r _ [3, 4, 5, 6] (by exact rfl) (by decide +kernel)) ggX9_plan_X9_clothAt
set_option maxRecDepth 20000 in
theorem ggX9_plan_X9_demand : GoodIn wsX9_plan wsX9_demand := goodIn_m (subW_ca (subW_q _ [(14, 3)] (by exact rfl)) ((fun _ h => List.mem_cons_of_mem _ (List.mem_append_left _ (List.mem_append_right _ h))))) gwd_X9_demand
set_option maxRecDepth 20000 in
theorem gX9_plan_X9_demand : GoodIn wsX9_plan (va_wsS RX9 71 yX9_demand wsX9_demand) := goodIn_app (goodIn_r _ [12, 13, 6] (by exact rfl) (by decide +kernel)) ggX9_plan_X9_demand
set_option maxRecDepth 20000 in
theorem ggX9_plan_X1_fewest : GoodIn wsX9_plan wsX1_fewest := goodIn_m (subW_ca (subW_q _ [(21, 13), (9, 1), (34, 21), (20, 1), (55, 41), (115, 20), (96, 8)] (by exact rfl)) ((fun _ h => List.mem_cons_of_mem _ (List.mem_append_right _ h)))) gwd_X1_fewest
set_option maxRecDepth 20000 in
theorem gX9_plan_X1_fewest : GoodIn wsX9_plan (wsV RX9 182 RX1 yX1_fewest wsX1_fewest) := goodIn_app (goodIn_r _ [17, 18, 19, 20] (by exact rfl) (by decide +kernel)) ggX9_plan_X1_fewest
set_option maxRecDepth 20000 in
theorem ggX9_vat_X8_vatAt : GoodIn wsX9_vat wsX8_vatAt := goodIn_m (subW_ca (subW_q _ [(14, 2), (2, 1), (16, 1), (36, 3)] (by exact rfl)) ((fun _ h => List.mem_cons_of_mem _ (List.mem_append_right _ h)))) gwd_X8_vatAt
set_option maxRecDepth 20000 in
theorem gX9_vat_X8_vatAt : GoodIn wsX9_vat (wsV RX9 57 RX8 yX8_vatAt wsX8_vatAt) := goodIn_app (goodIn_r _ [10, 11, 12, 13] (by exact rfl) (by decide +kernel)) ggX9_vat_X8_vatAt
set_option maxRecDepth 20000 in
theorem ggX9_about_X9_clothAt : GoodIn wsX9_about wsX9_clothAt := goodIn_m (subW_ca (subW_q _ [(14, 1), (1, 2), (15, 2), (32, 11)] (by exact rfl)) ((fun _ h => List.mem_cons_of_mem _ (List.mem_append_right _ h)))) gwd_X9_clothAt
set_option maxRecDepth 20000 in
theorem gX9_about_X9_clothAt : GoodIn wsX9_about (wsV RX9 98 RX9 yX9_clothAt wsX9_clothAt) := goodIn_app (goodIn_r _ [10, 11, 12, 13] (by exact rfl) (by decide +kernel)) ggX9_about_X9_clothAt
set_option maxRecDepth 20000 in
theorem ggX9_about_X0_shade : GoodIn wsX9_about wsX0_shade := goodIn_m (subW_q _ [(21, 11)] (by exact rfl)) gwd_X0_shade
set_option maxRecDepth 20000 in
theorem gX9_about_X0_shade : GoodIn wsX9_about (wsV RX9 222 RX0 yX0_shade wsX0_shade) := goodIn_app (goodIn_r _ [17, 18, 19, 20] (by exact rfl) (by decide +kernel)) ggX9_about_X0_shade
set_option maxRecDepth 20000 in
theorem ggX9_faded_X9_clothAt : GoodIn wsX9_faded wsX9_clothAt := goodIn_m (subW_ca (subW_q _ [(6, 5), (41, 11)] (by exact rfl)) ((fun _ h => List.mem_cons_of_mem _ (List.mem_append_left _ (List.mem_append_right _ h))))) gwd_X9_clothAt
set_option maxRecDepth 20000 in
theorem gX9_faded_X9_clothAt : GoodIn wsX9_faded (wsV RX9 98 RX9 yX9_clothAt wsX9_clothAt) := goodIn_app (goodIn_r _ [2, 3, 4, 5] (by exact rfl) (by decide +kernel)) ggX9_faded_X9_clothAt
set_option maxRecDepth 20000 in
theorem ggX9_faded_X9_demand : GoodIn wsX9_faded wsX9_demand := goodIn_m (subW_ca (subW_q _ [(13, 3)] (by exact rfl)) ((fun _ h => List.mem_cons_of_mem _ (List.mem_append_right _ h)))) gwd_X9_demand
set_option maxRecDepth 20000 in
theorem gX9_faded_X9_demand : GoodIn wsX9_faded (va_wsS RX9 71 yX9_demand wsX9_demand) := goodIn_app (goodIn_r _ [11, 12, 5] (by exact rfl) (by decide +kernel)) ggX9_faded_X9_demand
set_option maxRecDepth 20000 in
theorem ggX9_faded_X0_hasSpan : GoodIn wsX9_faded wsX0_hasSpan := goodIn_m (subW_q _ [(20, 3), (52, 8)] (by exact rfl)) gwd_X0_hasSpan
set_option maxRecDepth 20000 in
theorem gX9_faded_X0_hasSpan : GoodIn wsX9_faded (wsV RX9 236 RX0 yX0_hasSpan wsX0_hasSpan) := goodIn_app (goodIn_r _ [16, 17, 18, 19] (by exact rfl) (by decide +kernel)) ggX9_faded_X0_hasSpan
set_option maxRecDepth 20000 in
theorem ggX9_faded_X0_leastShade : GoodIn wsX9_faded wsX0_leastShade := goodIn_m (subW_q _ [(26, 1), (22, 1), (27, 7), (19, 1), (34, 3), (52, 8)] (by exact rfl)) gwd_X0_leastShade
set_option maxRecDepth 20000 in
theorem gX9_faded_X0_leastShade : GoodIn wsX9_faded (wsV RX9 239 RX0 yX0_leastShade wsX0_leastShade) := goodIn_app (goodIn_r _ [23, 24, 25, 19] (by exact rfl) (by decide +kernel)) ggX9_faded_X0_leastShade
set_option maxRecDepth 20000 in
theorem ggX9_faded_X0_greatestShade : GoodIn wsX9_faded wsX0_greatestShade := goodIn_m (subW_q _ [(40, 1), (22, 1), (27, 7), (19, 1), (34, 3), (52, 8)] (by exact rfl)) gwd_X0_greatestShade
set_option maxRecDepth 20000 in
theorem gX9_faded_X0_greatestShade : GoodIn wsX9_faded (wsV RX9 243 RX0 yX0_greatestShade wsX0_greatestShade) := goodIn_app (goodIn_r _ [37, 38, 39, 19] (by exact rfl) (by decide +kernel)) ggX9_faded_X0_greatestShade
set_option maxRecDepth 20000 in
theorem ggX9_matching_X9_clothAt : GoodIn wsX9_matching wsX9_clothAt := goodIn_m (subW_ca (subW_q _ [(8, 3), (2, 2), (45, 11)] (by exact rfl)) ((fun _ h => List.mem_cons_of_mem _ (List.mem_append_left _ (List.mem_append_right _ h))))) gwd_X9_clothAt
set_option maxRecDepth 20000 in
theorem gX9_matching_X9_clothAt : GoodIn wsX9_matching (wsV RX9 98 RX9 yX9_clothAt wsX9_clothAt) := goodIn_app (goodIn_r _ [4, 5, 6, 7] (by exact rfl) (by decide +kernel)) ggX9_matching_X9_clothAt
set_option maxRecDepth 20000 in
theorem ggX9_matching_X9_demand : GoodIn wsX9_matching wsX9_demand := goodIn_m (subW_ca (subW_q _ [(13, 3)] (by exact rfl)) ((fun _ h => List.mem_cons_of_mem _ (List.mem_append_right _ h)))) gwd_X9_demand
set_option maxRecDepth 20000 in
theorem gX9_matching_X9_demand : GoodIn wsX9_matching (va_wsS RX9 71 yX9_demand wsX9_demand) := goodIn_app (goodIn_r _ [11, 12, 7] (by exact rfl) (by decide +kernel)) ggX9_matching_X9_demand
set_option maxRecDepth 20000 in
theorem ggX9_matching_X0_spanMeets : GoodIn wsX9_matching wsX0_spanMeets := goodIn_m (subW_q _ [(20, 4), (19, 1), (24, 21), (56, 8)] (by exact rfl)) gwd_X0_spanMeets
set_option maxRecDepth 20000 in
theorem gX9_matching_X0_spanMeets : GoodIn wsX9_matching (wsV RX9 246 RX0 yX0_spanMeets wsX0_spanMeets) := goodIn_app (goodIn_r _ [16, 17, 18, 19] (by exact rfl) (by decide +kernel)) ggX9_matching_X0_spanMeets
set_option maxRecDepth 20000 in
theorem ggJ0_length_8abf5_J0_coder_7d493 : GoodIn wsJ0_length_8abf5 wsJ0_coder_7d493 := goodIn_m (subW_q _ [(6, 3)] (by exact rfl)) gwd_J0_coder_7d493
set_option maxRecDepth 20000 in
theorem gJ0_length_8abf5_J0_coder_7d493 : GoodIn wsJ0_length_8abf5 (wsV RJ0 335 RJ0 yJ0_coder_7d493 wsJ0_coder_7d493) := goodIn_app (goodIn_r _ [2, 3, 4, 5] (by exact rfl) (by decide +kernel)) ggJ0_length_8abf5_J0_coder_7d493
set_option maxRecDepth 20000 in
theorem ggJ0_charAt_5068e_J0_isLatin1_aae02 : GoodIn wsJ0_charAt_5068e wsJ0_isLatin1_aae02 := goodIn_m (subW_q _ [(6, 3)] (by exact rfl)) gwd_J0_isLatin1_aae02
set_option maxRecDepth 20000 in
theorem gJ0_charAt_5068e_J0_isLatin1_aae02 : GoodIn wsJ0_charAt_5068e (wsV RJ0 492 RJ0 yJ0_isLatin1_aae02 wsJ0_isLatin1_aae02) := goodIn_app (goodIn_r _ [2, 3, 4, 5] (by exact rfl) (by decide +kernel)) ggJ0_charAt_5068e_J0_isLatin1_aae02
set_option maxRecDepth 20000 in
theorem ggJ0_charAt_5068e_J1_charAt_3b067 : GoodIn wsJ0_charAt_5068e wsJ1_charAt_3b067 := goodIn_m (subW_q _ [(12, 3), (5, 1), (15, 6)] (by exact rfl)) gwd_J1_charAt_3b067
set_option maxRecDepth 20000 in
theorem gJ0_charAt_5068e_J1_charAt_3b067 : GoodIn wsJ0_charAt_5068e (va_wsS RJ0 495 yJ1_charAt_3b067 wsJ1_charAt_3b067) := goodIn_app (goodIn_r _ [9, 10, 11] (by exact rfl) (by decide +kernel)) ggJ0_charAt_5068e_J1_charAt_3b067
set_option maxRecDepth 20000 in
theorem ggJ0_checkIndex_df160_J3_checkIndex_8e157 : GoodIn wsJ0_checkIndex_df160 wsJ3_checkIndex_8e157 := goodIn_m (subW_q _ [(5, 1)] (by exact rfl)) gwd_J3_checkIndex_8e157
set_option maxRecDepth 20000 in
theorem gJ0_checkIndex_df160_J3_checkIndex_8e157 : GoodIn wsJ0_checkIndex_df160 (va_wsS RJ0 1059 yJ3_checkIndex_8e157 wsJ3_checkIndex_8e157) := goodIn_app (goodIn_r _ [2, 3, 4] (by exact rfl) (by decide +kernel)) ggJ0_checkIndex_df160_J3_checkIndex_8e157
set_option maxRecDepth 20000 in
theorem ggJ1_charAt_3b067_J0_checkIndex_df160 : GoodIn wsJ1_charAt_3b067 wsJ0_checkIndex_df160 := goodIn_m (subW_q _ [(4, 6)] (by exact rfl)) gwd_J0_checkIndex_df160
set_option maxRecDepth 20000 in
theorem gJ1_charAt_3b067_J0_checkIndex_df160 : GoodIn wsJ1_charAt_3b067 (va_wsS RJ1 9 yJ0_checkIndex_df160 wsJ0_checkIndex_df160) := goodIn_app (goodIn_r _ [1, 2, 3] (by exact rfl) (by decide +kernel)) ggJ1_charAt_3b067_J0_checkIndex_df160
