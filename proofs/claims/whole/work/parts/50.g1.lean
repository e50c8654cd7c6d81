set_option maxRecDepth 100000 in
theorem qw_879 : GW lw_tbl (.instanceMethod yX0_shade) := gw_s (gt_t4 (List.mem_of_getElem? (i := 82) (by exact rfl))) (by decide +kernel)
set_option maxRecDepth 100000 in
theorem qw_880 : GW lw_tbl (.selects RX0 yX0_shade yX0_shade) := gw_s (gt_t4 (List.mem_of_getElem? (i := 83) (by exact rfl))) (by decide +kernel)
set_option maxRecDepth 100000 in
theorem qw_881 : GW lw_tbl (.code yX0_shade cX0_shade 1 (some .int)) := gw_s (gt_t4 (List.mem_of_getElem? (i := 84) (by exact rfl))) (by decide +kernel)
set_option maxRecDepth 100000 in
theorem qw_906 : GW lw_tbl (.methodLink RL 120 yL_plan) := gw_s (gt_t4 (List.mem_of_getElem? (i := 109) (by exact rfl))) (by decide +kernel)
set_option maxRecDepth 100000 in
theorem qw_907 : GW lw_tbl (.static yL_plan) := gw_s (gt_t4 (List.mem_of_getElem? (i := 110) (by exact rfl))) (by decide +kernel)
set_option maxRecDepth 100000 in
theorem qw_908 : GW lw_tbl (.codeWith yL_plan cL_plan 7 (some .int) [(0, 14, 17, 13), (0, 14, 21, 18)]) := gw_s (gt_t4 (List.mem_of_getElem? (i := 111) (by exact rfl))) (by decide +kernel)
set_option maxRecDepth 100000 in
theorem qw_909 : GW lw_tbl (.methodLink RL 46 yX9_plan) := gw_s (gt_t4 (List.mem_of_getElem? (i := 112) (by exact rfl))) (by decide +kernel)
set_option maxRecDepth 100000 in
theorem qw_910 : GW lw_tbl (.instanceMethod yX9_plan) := gw_s (gt_t4 (List.mem_of_getElem? (i := 113) (by exact rfl))) (by decide +kernel)
set_option maxRecDepth 100000 in
theorem qw_911 : GW lw_tbl (.selects RX9 yX9_plan yX9_plan) := gw_s (gt_t4 (List.mem_of_getElem? (i := 114) (by exact rfl))) (by decide +kernel)
set_option maxRecDepth 100000 in
theorem qw_912 : GW lw_tbl (.code yX9_plan cX9_plan 6 (some .int)) := gw_s (gt_t4 (List.mem_of_getElem? (i := 115) (by exact rfl))) (by decide +kernel)
set_option maxRecDepth 100000 in
theorem qw_913 : GW lw_tbl (.methodLink RX9 182 yX1_fewest) := gw_s (gt_t4 (List.mem_of_getElem? (i := 116) (by exact rfl))) (by decide +kernel)
set_option maxRecDepth 100000 in
theorem qw_914 : GW lw_tbl (.instanceMethod yX1_fewest) := gw_s (gt_t4 (List.mem_of_getElem? (i := 117) (by exact rfl))) (by decide +kernel)
set_option maxRecDepth 100000 in
theorem qw_915 : GW lw_tbl (.selects RX1 yX1_fewest yX1_fewest) := gw_s (gt_t4 (List.mem_of_getElem? (i := 118) (by exact rfl))) (by decide +kernel)
set_option maxRecDepth 100000 in
theorem qw_916 : GW lw_tbl (.code yX1_fewest cX1_fewest 6 (some .int)) := gw_s (gt_t4 (List.mem_of_getElem? (i := 119) (by exact rfl))) (by decide +kernel)
set_option maxRecDepth 100000 in
theorem qw_917 : GW lw_tbl (.methodLink RX1 50 yX8_vatAt) := gw_s (gt_t4 (List.mem_of_getElem? (i := 120) (by exact rfl))) (by decide +kernel)
set_option maxRecDepth 100000 in
theorem qw_918 : GW lw_tbl (.methodLink RX1 56 yX7_copyFrom) := gw_s (gt_t4 (List.mem_of_getElem? (i := 121) (by exact rfl))) (by decide +kernel)
set_option maxRecDepth 100000 in
theorem qw_919 : GW lw_tbl (.instanceMethod yX7_copyFrom) := gw_s (gt_t4 (List.mem_of_getElem? (i := 122) (by exact rfl))) (by decide +kernel)
set_option maxRecDepth 100000 in
theorem qw_920 : GW lw_tbl (.selects RX7 yX7_copyFrom yX7_copyFrom) := gw_s (gt_t4 (List.mem_of_getElem? (i := 123) (by exact rfl))) (by decide +kernel)
set_option maxRecDepth 100000 in
theorem qw_921 : GW lw_tbl (.code yX7_copyFrom cX7_copyFrom 2 none) := gw_s (gt_t4 (List.mem_of_getElem? (i := 124) (by exact rfl))) (by decide +kernel)
set_option maxRecDepth 100000 in
theorem qw_922 : GW lw_tbl (.methodLink RX1 60 yX0_copyFrom) := gw_s (gt_t4 (List.mem_of_getElem? (i := 125) (by exact rfl))) (by decide +kernel)
set_option maxRecDepth 100000 in
theorem qw_923 : GW lw_tbl (.instanceMethod yX0_copyFrom) := gw_s (gt_t4 (List.mem_of_getElem? (i := 126) (by exact rfl))) (by decide +kernel)
set_option maxRecDepth 100000 in
theorem qw_924 : GW lw_tbl (.selects RX0 yX0_copyFrom yX0_copyFrom) := gw_s (gt_t4 (List.mem_of_getElem? (i := 127) (by exact rfl))) (by decide +kernel)
set_option maxRecDepth 100000 in
theorem qw_925 : GW lw_tbl (.code yX0_copyFrom cX0_copyFrom 2 none) := gw_s (gt_t4 (List.mem_of_getElem? (i := 128) (by exact rfl))) (by decide +kernel)
set_option maxRecDepth 100000 in
theorem qw_926 : GW lw_tbl (.methodLink RX1 63 yX1_reaches) := gw_s (gt_t4 (List.mem_of_getElem? (i := 129) (by exact rfl))) (by decide +kernel)
set_option maxRecDepth 100000 in
theorem qw_928 : GW lw_tbl (.instanceMethod yX1_reaches) := gw_s (gt_t4 (List.mem_of_getElem? (i := 131) (by exact rfl))) (by decide +kernel)
set_option maxRecDepth 100000 in
theorem qw_929 : GW lw_tbl (.code yX1_reaches cX1_reaches 5 (some .boolean)) := gw_s (gt_t4 (List.mem_of_getElem? (i := 132) (by exact rfl))) (by decide +kernel)
set_option maxRecDepth 100000 in
theorem qw_930 : GW lw_tbl (.methodLink RX1 73 yX0_shade) := gw_s (gt_t4 (List.mem_of_getElem? (i := 133) (by exact rfl))) (by decide +kernel)
set_option maxRecDepth 100000 in
theorem qw_931 : GW lw_tbl (.methodLink RX1 77 yX1_reachesBy) := gw_s (gt_t4 (List.mem_of_getElem? (i := 134) (by exact rfl))) (by decide +kernel)
set_option maxRecDepth 100000 in
theorem qw_933 : GW lw_tbl (.instanceMethod yX1_reachesBy) := gw_s (gt_t4 (List.mem_of_getElem? (i := 136) (by exact rfl))) (by decide +kernel)
set_option maxRecDepth 100000 in
theorem qw_934 : GW lw_tbl (.code yX1_reachesBy cX1_reachesBy 13 (some .boolean)) := gw_s (gt_t4 (List.mem_of_getElem? (i := 137) (by exact rfl))) (by decide +kernel)
set_option maxRecDepth 100000 in
theorem qw_935 : GW lw_tbl (.methodLink RX1 81 yX7_givesTo) := gw_s (gt_t4 (List.mem_of_getElem? (i := 138) (by exact rfl))) (by decide +kernel)
set_option maxRecDepth 100000 in
theorem qw_936 : GW lw_tbl (.methodLink RX1 100 yX7_soak) := gw_s (gt_t4 (List.mem_of_getElem? (i := 139) (by exact rfl))) (by decide +kernel)
set_option maxRecDepth 100000 in
theorem qw_937 : GW lw_tbl (.methodLink RX1 104 yX0_loseByAir) := gw_s (gt_t4 (List.mem_of_getElem? (i := 140) (by exact rfl))) (by decide +kernel)
set_option maxRecDepth 100000 in
theorem qw_938 : GW lw_tbl (.methodLink RL 124 yL_planned) := gw_s (gt_t4 (List.mem_of_getElem? (i := 141) (by exact rfl))) (by decide +kernel)
set_option maxRecDepth 100000 in
theorem qw_939 : GW lw_tbl (.static yL_planned) := gw_s (gt_t4 (List.mem_of_getElem? (i := 142) (by exact rfl))) (by decide +kernel)
set_option maxRecDepth 100000 in
theorem qw_940 : GW lw_tbl (.codeWith yL_planned cL_planned 5 (some .int) [(0, 10, 13, 13)]) := gw_s (gt_t4 (List.mem_of_getElem? (i := 143) (by exact rfl))) (by decide +kernel)
set_option maxRecDepth 100000 in
theorem qw_941 : GW lw_tbl (.methodLink RL 50 yX9_planned) := gw_s (gt_t4 (List.mem_of_getElem? (i := 144) (by exact rfl))) (by decide +kernel)
set_option maxRecDepth 100000 in
theorem qw_942 : GW lw_tbl (.instanceMethod yX9_planned) := gw_s (gt_t4 (List.mem_of_getElem? (i := 145) (by exact rfl))) (by decide +kernel)
set_option maxRecDepth 100000 in
theorem qw_943 : GW lw_tbl (.selects RX9 yX9_planned yX9_planned) := gw_s (gt_t4 (List.mem_of_getElem? (i := 146) (by exact rfl))) (by decide +kernel)
set_option maxRecDepth 100000 in
theorem qw_944 : GW lw_tbl (.code yX9_planned cX9_planned 3 (some .int)) := gw_s (gt_t4 (List.mem_of_getElem? (i := 147) (by exact rfl))) (by decide +kernel)
set_option maxRecDepth 100000 in
theorem qw_1007 : GW lw_tbl (.code yX10_init cX10_init 2 none) := gw_s (gt_t4 (List.mem_of_getElem? (i := 210) (by exact rfl))) (by decide +kernel)
set_option maxRecDepth 100000 in
theorem qw_1008 : GW lw_tbl (.methodLink RX10 1 objectInit) := gw_s (gt_t4 (List.mem_of_getElem? (i := 211) (by exact rfl))) (by decide +kernel)
set_option maxRecDepth 100000 in
theorem qw_1009 : GW lw_tbl (.fieldLink RX10 105 "VatHouseModel" "thrown" "I") := gw_s (gt_t4 (List.mem_of_getElem? (i := 212) (by exact rfl))) (by decide +kernel)
set_option maxRecDepth 100000 in
theorem qw_1010 : GW lw_tbl (.fieldLink RX10 131 "VatHouseModel" "hours" "I") := gw_s (gt_t4 (List.mem_of_getElem? (i := 213) (by exact rfl))) (by decide +kernel)
set_option maxRecDepth 100000 in
theorem qw_1011 : GW lw_tbl (.fieldLink RX10 149 "VatHouseModel" "drain" "I") := gw_s (gt_t4 (List.mem_of_getElem? (i := 214) (by exact rfl))) (by decide +kernel)
set_option maxRecDepth 100000 in
theorem qw_1012 : GW lw_tbl (.fieldLink RX10 120 "VatHouseModel" "put" "I") := gw_s (gt_t4 (List.mem_of_getElem? (i := 215) (by exact rfl))) (by decide +kernel)
set_option maxRecDepth 100000 in
theorem qw_1013 : GW lw_tbl (.fieldLink RX10 7 "VatHouseModel" "grains" "[I") := gw_s (gt_t4 (List.mem_of_getElem? (i := 216) (by exact rfl))) (by decide +kernel)
set_option maxRecDepth 100000 in
theorem qw_1014 : GW lw_tbl (.fieldLink RX10 13 "VatHouseModel" "food" "[I") := gw_s (gt_t4 (List.mem_of_getElem? (i := 217) (by exact rfl))) (by decide +kernel)
set_option maxRecDepth 100000 in
theorem qw_1015 : GW lw_tbl (.fieldLink RX10 16 "VatHouseModel" "minutes" "[I") := gw_s (gt_t4 (List.mem_of_getElem? (i := 218) (by exact rfl))) (by decide +kernel)
set_option maxRecDepth 100000 in
theorem qw_1016 : GW lw_tbl (.fieldLink RX10 19 "VatHouseModel" "state" "[I") := gw_s (gt_t4 (List.mem_of_getElem? (i := 219) (by exact rfl))) (by decide +kernel)
set_option maxRecDepth 100000 in
theorem qw_1017 : GW lw_tbl (.fieldLink RX10 22 "VatHouseModel" "dips" "[I") := gw_s (gt_t4 (List.mem_of_getElem? (i := 220) (by exact rfl))) (by decide +kernel)
set_option maxRecDepth 100000 in
theorem qw_1018 : GW lw_tbl (.fieldLink RX10 25 "VatHouseModel" "dyed" "[I") := gw_s (gt_t4 (List.mem_of_getElem? (i := 221) (by exact rfl))) (by decide +kernel)
set_option maxRecDepth 100000 in
theorem qw_1019 : GW lw_tbl (.fieldLink RX10 28 "VatHouseModel" "isDipped" "[Z") := gw_s (gt_t4 (List.mem_of_getElem? (i := 222) (by exact rfl))) (by decide +kernel)
set_option maxRecDepth 100000 in
theorem qw_1020 : GW lw_tbl (.fieldLink RX10 32 "VatHouseModel" "wasDipped" "[Z") := gw_s (gt_t4 (List.mem_of_getElem? (i := 223) (by exact rfl))) (by decide +kernel)
set_option maxRecDepth 100000 in
theorem qw_1021 : GW lw_tbl (.fieldLink RX10 112 "VatHouseModel" "cloths" "I") := gw_s (gt_t4 (List.mem_of_getElem? (i := 224) (by exact rfl))) (by decide +kernel)
set_option maxRecDepth 100000 in
theorem qw_1022 : GW lw_tbl (.fieldLink RX10 35 "VatHouseModel" "weight" "[I") := gw_s (gt_t4 (List.mem_of_getElem? (i := 225) (by exact rfl))) (by decide +kernel)
set_option maxRecDepth 100000 in
theorem qw_1023 : GW lw_tbl (.fieldLink RX10 38 "VatHouseModel" "loose" "[I") := gw_s (gt_t4 (List.mem_of_getElem? (i := 226) (by exact rfl))) (by decide +kernel)
set_option maxRecDepth 100000 in
theorem qw_1024 : GW lw_tbl (.fieldLink RX10 41 "VatHouseModel" "fast" "[I") := gw_s (gt_t4 (List.mem_of_getElem? (i := 227) (by exact rfl))) (by decide +kernel)
set_option maxRecDepth 100000 in
theorem qw_1025 : GW lw_tbl (.fieldLink RX10 44 "VatHouseModel" "day" "[I") := gw_s (gt_t4 (List.mem_of_getElem? (i := 228) (by exact rfl))) (by decide +kernel)
set_option maxRecDepth 100000 in
theorem qw_1026 : GW lw_tbl (.fieldLink RX10 47 "VatHouseModel" "vats" "[I") := gw_s (gt_t4 (List.mem_of_getElem? (i := 229) (by exact rfl))) (by decide +kernel)
set_option maxRecDepth 100000 in
theorem qw_1027 : GW lw_tbl (.fieldLink RX10 50 "VatHouseModel" "often" "[I") := gw_s (gt_t4 (List.mem_of_getElem? (i := 230) (by exact rfl))) (by decide +kernel)
set_option maxRecDepth 100000 in
theorem qw_1028 : GW lw_tbl (.fieldLink RX10 53 "VatHouseModel" "tape" "[I") := gw_s (gt_t4 (List.mem_of_getElem? (i := 231) (by exact rfl))) (by decide +kernel)
set_option maxRecDepth 100000 in
theorem qw_1033 : GW lw_tbl (.fieldLink RX10 56 "VatHouseModel" "faultPlace" "I") := gw_s (gt_t4 (List.mem_of_getElem? (i := 236) (by exact rfl))) (by decide +kernel)
set_option maxRecDepth 100000 in
theorem qw_1035 : GW lw_tbl (.fieldLink RX10 60 "VatHouseModel" "kind" "[I") := gw_s (gt_t4 (List.mem_of_getElem? (i := 238) (by exact rfl))) (by decide +kernel)
set_option maxRecDepth 100000 in
theorem qw_1036 : GW lw_tbl (.fieldLink RX10 63 "VatHouseModel" "one" "[I") := gw_s (gt_t4 (List.mem_of_getElem? (i := 239) (by exact rfl))) (by decide +kernel)
set_option maxRecDepth 100000 in
theorem qw_1037 : GW lw_tbl (.fieldLink RX10 66 "VatHouseModel" "two" "[I") := gw_s (gt_t5 (List.mem_of_getElem? (i := 0) (by exact rfl))) (by decide +kernel)
set_option maxRecDepth 100000 in
theorem qw_1038 : GW lw_tbl (.fieldLink RX10 69 "VatHouseModel" "look" "[I") := gw_s (gt_t5 (List.mem_of_getElem? (i := 1) (by exact rfl))) (by decide +kernel)
set_option maxRecDepth 100000 in
theorem qw_1039 : GW lw_tbl (.fieldLink RX10 72 "VatHouseModel" "sign" "[I") := gw_s (gt_t5 (List.mem_of_getElem? (i := 2) (by exact rfl))) (by decide +kernel)
set_option maxRecDepth 100000 in
theorem qw_1040 : GW lw_tbl (.fieldLink RX10 75 "VatHouseModel" "inner" "[I") := gw_s (gt_t5 (List.mem_of_getElem? (i := 3) (by exact rfl))) (by decide +kernel)
set_option maxRecDepth 100000 in
theorem qw_1041 : GW lw_tbl (.fieldLink RX10 78 "VatHouseModel" "other" "[I") := gw_s (gt_t5 (List.mem_of_getElem? (i := 4) (by exact rfl))) (by decide +kernel)
set_option maxRecDepth 100000 in
theorem qw_1042 : GW lw_tbl (.fieldLink RX10 81 "VatHouseModel" "next" "[I") := gw_s (gt_t5 (List.mem_of_getElem? (i := 5) (by exact rfl))) (by decide +kernel)
set_option maxRecDepth 100000 in
theorem qw_1043 : GW lw_tbl (.fieldLink RX10 84 "VatHouseModel" "first" "[I") := gw_s (gt_t5 (List.mem_of_getElem? (i := 6) (by exact rfl))) (by decide +kernel)
set_option maxRecDepth 100000 in
theorem qw_1044 : GW lw_tbl (.fieldLink RX10 87 "VatHouseModel" "many" "[I") := gw_s (gt_t5 (List.mem_of_getElem? (i := 7) (by exact rfl))) (by decide +kernel)
set_option maxRecDepth 100000 in
theorem qw_1053 : GW lw_tbl (.fieldLink RX10 90 "VatHouseModel" "ran" "I") := gw_s (gt_t5 (List.mem_of_getElem? (i := 16) (by exact rfl))) (by decide +kernel)
set_option maxRecDepth 100000 in
theorem qw_1055 : GW lw_tbl (.fieldLink RX10 346 "VatHouseModel" "kept" "I") := gw_s (gt_t5 (List.mem_of_getElem? (i := 18) (by exact rfl))) (by decide +kernel)
set_option maxRecDepth 100000 in
theorem qw_1056 : GW lw_tbl (.fieldLink RX10 93 "VatHouseModel" "keptVat" "[I") := gw_s (gt_t5 (List.mem_of_getElem? (i := 19) (by exact rfl))) (by decide +kernel)
set_option maxRecDepth 100000 in
theorem qw_1057 : GW lw_tbl (.fieldLink RX10 96 "VatHouseModel" "keptMinutes" "[I") := gw_s (gt_t5 (List.mem_of_getElem? (i := 20) (by exact rfl))) (by decide +kernel)
set_option maxRecDepth 100000 in
theorem qw_1058 : GW lw_tbl (.fieldLink RX10 99 "VatHouseModel" "keptShade" "[I") := gw_s (gt_t5 (List.mem_of_getElem? (i := 21) (by exact rfl))) (by decide +kernel)
set_option maxRecDepth 100000 in
theorem qw_1059 : GW lw_tbl (.fieldLink RX10 102 "VatHouseModel" "then" "[I") := gw_s (gt_t5 (List.mem_of_getElem? (i := 22) (by exact rfl))) (by decide +kernel)
set_option maxRecDepth 100000 in
theorem qw_1163 : GW lw_tbl (.arrayClass .boolean) := gw_s (gt_t5 (List.mem_of_getElem? (i := 126) (by exact rfl))) (by decide +kernel)
set_option maxRecDepth 100000 in
theorem qw_1164 : GW lw_tbl (.methodLink RL 78 yX10_thrown) := gw_s (gt_t5 (List.mem_of_getElem? (i := 127) (by exact rfl))) (by decide +kernel)
set_option maxRecDepth 100000 in
theorem qw_1165 : GW lw_tbl (.instanceMethod yX10_thrown) := gw_s (gt_t5 (List.mem_of_getElem? (i := 128) (by exact rfl))) (by decide +kernel)
set_option maxRecDepth 100000 in
theorem qw_1166 : GW lw_tbl (.selects RX10 yX10_thrown yX10_thrown) := gw_s (gt_t5 (List.mem_of_getElem? (i := 129) (by exact rfl))) (by decide +kernel)
set_option maxRecDepth 100000 in
theorem qw_1167 : GW lw_tbl (.code yX10_thrown cX10_thrown 1 (some .int)) := gw_s (gt_t5 (List.mem_of_getElem? (i := 130) (by exact rfl))) (by decide +kernel)
set_option maxRecDepth 100000 in
theorem qw_1168 : GW lw_tbl (.methodLink RL 77 yX10_charge) := gw_s (gt_t5 (List.mem_of_getElem? (i := 131) (by exact rfl))) (by decide +kernel)
set_option maxRecDepth 100000 in
theorem qw_1169 : GW lw_tbl (.instanceMethod yX10_charge) := gw_s (gt_t5 (List.mem_of_getElem? (i := 132) (by exact rfl))) (by decide +kernel)
set_option maxRecDepth 100000 in
theorem qw_1170 : GW lw_tbl (.selects RX10 yX10_charge yX10_charge) := gw_s (gt_t5 (List.mem_of_getElem? (i := 133) (by exact rfl))) (by decide +kernel)
set_option maxRecDepth 100000 in
theorem qw_1171 : GW lw_tbl (.code yX10_charge cX10_charge 3 (some .int)) := gw_s (gt_t5 (List.mem_of_getElem? (i := 134) (by exact rfl))) (by decide +kernel)
set_option maxRecDepth 100000 in
theorem qw_1172 : GW lw_tbl (.methodLink RX10 115 yX10_isVat) := gw_s (gt_t5 (List.mem_of_getElem? (i := 135) (by exact rfl))) (by decide +kernel)
set_option maxRecDepth 100000 in
theorem qw_1174 : GW lw_tbl (.instanceMethod yX10_isVat) := gw_s (gt_t5 (List.mem_of_getElem? (i := 137) (by exact rfl))) (by decide +kernel)
set_option maxRecDepth 100000 in
theorem qw_1175 : GW lw_tbl (.code yX10_isVat cX10_isVat 2 (some .boolean)) := gw_s (gt_t5 (List.mem_of_getElem? (i := 138) (by exact rfl))) (by decide +kernel)
set_option maxRecDepth 100000 in
theorem qw_1176 : GW lw_tbl (.methodLink RX10 108 yX10_right) := gw_s (gt_t5 (List.mem_of_getElem? (i := 139) (by exact rfl))) (by decide +kernel)
set_option maxRecDepth 100000 in
theorem qw_1178 : GW lw_tbl (.instanceMethod yX10_right) := gw_s (gt_t5 (List.mem_of_getElem? (i := 141) (by exact rfl))) (by decide +kernel)
set_option maxRecDepth 100000 in
theorem qw_1179 : GW lw_tbl (.code yX10_right cX10_right 3 (some .boolean)) := gw_s (gt_t5 (List.mem_of_getElem? (i := 142) (by exact rfl))) (by decide +kernel)
set_option maxRecDepth 100000 in
theorem qw_1180 : GW lw_tbl (.constant RX10 119 (1000000)) := gw_s (gt_t5 (List.mem_of_getElem? (i := 143) (by exact rfl))) (by decide +kernel)
set_option maxRecDepth 100000 in
theorem qw_1181 : GW lw_tbl (.methodLink RL 84 yX10_feed) := gw_s (gt_t5 (List.mem_of_getElem? (i := 144) (by exact rfl))) (by decide +kernel)
set_option maxRecDepth 100000 in
theorem qw_1182 : GW lw_tbl (.instanceMethod yX10_feed) := gw_s (gt_t5 (List.mem_of_getElem? (i := 145) (by exact rfl))) (by decide +kernel)
set_option maxRecDepth 100000 in
theorem qw_1183 : GW lw_tbl (.selects RX10 yX10_feed yX10_feed) := gw_s (gt_t5 (List.mem_of_getElem? (i := 146) (by exact rfl))) (by decide +kernel)
set_option maxRecDepth 100000 in
theorem qw_1184 : GW lw_tbl (.code yX10_feed cX10_feed 3 (some .int)) := gw_s (gt_t5 (List.mem_of_getElem? (i := 147) (by exact rfl))) (by decide +kernel)
set_option maxRecDepth 100000 in
theorem qw_1185 : GW lw_tbl (.methodLink RX10 123 yX10_feeds) := gw_s (gt_t5 (List.mem_of_getElem? (i := 148) (by exact rfl))) (by decide +kernel)
set_option maxRecDepth 100000 in
theorem qw_1187 : GW lw_tbl (.instanceMethod yX10_feeds) := gw_s (gt_t5 (List.mem_of_getElem? (i := 150) (by exact rfl))) (by decide +kernel)
set_option maxRecDepth 100000 in
theorem qw_1188 : GW lw_tbl (.code yX10_feeds cX10_feeds 3 (some .boolean)) := gw_s (gt_t5 (List.mem_of_getElem? (i := 151) (by exact rfl))) (by decide +kernel)
set_option maxRecDepth 100000 in
theorem qw_1189 : GW lw_tbl (.methodLink RL 88 yX10_lime) := gw_s (gt_t5 (List.mem_of_getElem? (i := 152) (by exact rfl))) (by decide +kernel)
set_option maxRecDepth 100000 in
theorem qw_1190 : GW lw_tbl (.instanceMethod yX10_lime) := gw_s (gt_t5 (List.mem_of_getElem? (i := 153) (by exact rfl))) (by decide +kernel)
set_option maxRecDepth 100000 in
theorem qw_1191 : GW lw_tbl (.selects RX10 yX10_lime yX10_lime) := gw_s (gt_t5 (List.mem_of_getElem? (i := 154) (by exact rfl))) (by decide +kernel)
set_option maxRecDepth 100000 in
theorem qw_1192 : GW lw_tbl (.code yX10_lime cX10_lime 2 (some .int)) := gw_s (gt_t5 (List.mem_of_getElem? (i := 155) (by exact rfl))) (by decide +kernel)
set_option maxRecDepth 100000 in
theorem qw_1193 : GW lw_tbl (.methodLink RX10 127 yX10_limes) := gw_s (gt_t5 (List.mem_of_getElem? (i := 156) (by exact rfl))) (by decide +kernel)
