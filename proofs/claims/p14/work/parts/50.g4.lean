set_option maxRecDepth 100000 in
theorem gL_law_X10_about_c0 : GoodIn lw_tbl (((wsV RL 132 RX10 yX10_about wsX10_about)).take 40) := goodIn_r _ [1415, 1416, 1417, 86, 1418, 1022, 1023, 1024, 1025, 1026, 1027, 1213, 1215, 41, 86, 1216, 1009, 1021, 1176, 1178, 37, 1179, 1375, 1377, 69, 1378, 1217, 1219, 42, 1220, 1060, 1062, 1064, 1066, 1068, 1070, 1072, 1074, 1076, 1078] (by decide +kernel) (by decide +kernel)
set_option maxRecDepth 100000 in
theorem gL_law_X10_about_c1 : GoodIn lw_tbl (((wsV RL 132 RX10 yX10_about wsX10_about).drop 40).take 40) := goodIn_r _ [1080, 1082, 1084, 1086, 1088, 1090, 1092, 1094, 1096, 1098, 1100, 1102, 1104, 1106, 1108, 1110, 1112, 1114, 1116, 1118, 1120, 1122, 1124, 1126, 1128, 1130, 1132, 1134, 1136, 1138, 1140, 1142, 1144, 1146, 1148, 1150, 1152, 1154, 1156, 1158] (by decide +kernel) (by decide +kernel)
set_option maxRecDepth 100000 in
theorem gL_law_X10_about_c2 : GoodIn lw_tbl (((wsV RL 132 RX10 yX10_about wsX10_about).drop 80).take 40) := goodIn_r _ [1160] (by decide +kernel) (by decide +kernel)
set_option maxRecDepth 100000 in
theorem gL_law_X10_about : GoodIn lw_tbl (wsV RL 132 RX10 yX10_about wsX10_about) := goodIn_td 40 gL_law_X10_about_c0 (goodIn_td 40 gL_law_X10_about_c1 (goodIn_dd 40 40 (goodIn_e (by decide +kernel) gL_law_X10_about_c2)))
set_option maxRecDepth 100000 in
theorem gL_law_X10_count_c0 : GoodIn lw_tbl (((wsV RL 135 RX10 yX10_count wsX10_count)).take 40) := goodIn_r _ [1419, 1420, 1421, 86, 1422, 1009, 1010, 1011, 1021, 1012, 1029, 1046, 1176, 1178, 37, 86, 1179, 1060, 1062, 1064, 1066, 1068, 1070, 1072, 1074, 1076, 1078, 1080, 1082, 1084, 1086, 1088, 1090, 1092, 1094, 1096, 1098, 1100, 1102, 1104] (by decide +kernel) (by decide +kernel)
set_option maxRecDepth 100000 in
theorem gL_law_X10_count_c1 : GoodIn lw_tbl (((wsV RL 135 RX10 yX10_count wsX10_count).drop 40).take 40) := goodIn_r _ [1106, 1108, 1110, 1112, 1114, 1116, 1118, 1120, 1122, 1124, 1126, 1128, 1130, 1132, 1134, 1136, 1138, 1140, 1142, 1144, 1146, 1148, 1150, 1152, 1154, 1156, 1158, 1160] (by decide +kernel) (by decide +kernel)
set_option maxRecDepth 100000 in
theorem gL_law_X10_count : GoodIn lw_tbl (wsV RL 135 RX10 yX10_count wsX10_count) := goodIn_td 40 gL_law_X10_count_c0 (goodIn_e (by decide +kernel) gL_law_X10_count_c1)
set_option maxRecDepth 100000 in
theorem gL_law_X10_faded_c0 : GoodIn lw_tbl (((wsV RL 138 RX10 yX10_faded wsX10_faded)).take 40) := goodIn_r _ [1423, 1424, 1425, 86, 1426, 1180, 1213, 1215, 41, 86, 1216, 1009, 1021, 1176, 1178, 37, 1179, 1427, 1429, 75, 1430, 1025, 1217, 1219, 42, 1220, 1431, 1433, 76, 1434, 1375, 1377, 69, 1378, 1024, 1022, 1060, 1062, 1064, 1066] (by decide +kernel) (by decide +kernel)
set_option maxRecDepth 100000 in
theorem gL_law_X10_faded_c1 : GoodIn lw_tbl (((wsV RL 138 RX10 yX10_faded wsX10_faded).drop 40).take 40) := goodIn_r _ [1068, 1070, 1072, 1074, 1076, 1078, 1080, 1082, 1084, 1086, 1088, 1090, 1092, 1094, 1096, 1098, 1100, 1102, 1104, 1106, 1108, 1110, 1112, 1114, 1116, 1118, 1120, 1122, 1124, 1126, 1128, 1130, 1132, 1134, 1136, 1138, 1140, 1142, 1144, 1146] (by decide +kernel) (by decide +kernel)
set_option maxRecDepth 100000 in
theorem gL_law_X10_faded_c2 : GoodIn lw_tbl (((wsV RL 138 RX10 yX10_faded wsX10_faded).drop 80).take 40) := goodIn_r _ [1148, 1150, 1152, 1154, 1156, 1158, 1160] (by decide +kernel) (by decide +kernel)
set_option maxRecDepth 100000 in
theorem gL_law_X10_faded : GoodIn lw_tbl (wsV RL 138 RX10 yX10_faded wsX10_faded) := goodIn_td 40 gL_law_X10_faded_c0 (goodIn_td 40 gL_law_X10_faded_c1 (goodIn_dd 40 40 (goodIn_e (by decide +kernel) gL_law_X10_faded_c2)))
set_option maxRecDepth 100000 in
theorem gL_law_X10_matching_c0 : GoodIn lw_tbl (((wsV RL 141 RX10 yX10_matching wsX10_matching)).take 40) := goodIn_r _ [1435, 1436, 1437, 86, 1438, 1180, 1021, 1213, 1215, 41, 86, 1216, 1009, 1176, 1178, 37, 1179, 1427, 1429, 75, 1430, 1025, 1217, 1219, 42, 1220, 1431, 1433, 76, 1434, 1375, 1377, 69, 1378, 1024, 1022, 1060, 1062, 1064, 1066] (by decide +kernel) (by decide +kernel)
set_option maxRecDepth 100000 in
theorem gL_law_X10_matching_c1 : GoodIn lw_tbl (((wsV RL 141 RX10 yX10_matching wsX10_matching).drop 40).take 40) := goodIn_r _ [1068, 1070, 1072, 1074, 1076, 1078, 1080, 1082, 1084, 1086, 1088, 1090, 1092, 1094, 1096, 1098, 1100, 1102, 1104, 1106, 1108, 1110, 1112, 1114, 1116, 1118, 1120, 1122, 1124, 1126, 1128, 1130, 1132, 1134, 1136, 1138, 1140, 1142, 1144, 1146] (by decide +kernel) (by decide +kernel)
set_option maxRecDepth 100000 in
theorem gL_law_X10_matching_c2 : GoodIn lw_tbl (((wsV RL 141 RX10 yX10_matching wsX10_matching).drop 80).take 40) := goodIn_r _ [1148, 1150, 1152, 1154, 1156, 1158, 1160] (by decide +kernel) (by decide +kernel)
set_option maxRecDepth 100000 in
theorem gL_law_X10_matching : GoodIn lw_tbl (wsV RL 141 RX10 yX10_matching wsX10_matching) := goodIn_td 40 gL_law_X10_matching_c0 (goodIn_td 40 gL_law_X10_matching_c1 (goodIn_dd 40 40 (goodIn_e (by decide +kernel) gL_law_X10_matching_c2)))
set_option maxRecDepth 100000 in
theorem gL_law_X10_thrown : GoodIn lw_tbl (wsV RL 120 RX10 yX10_thrown wsX10_thrown) := goodIn_r _ [1164, 1165, 1166, 86, 1167, 1009, 1060, 1062, 1064, 1066, 1068, 1070, 1072, 1074, 1076, 1078, 1080, 1082, 1084, 1086, 1088, 1090, 1092, 1094, 1096, 1098, 1100, 1102, 1104, 1106, 1108, 1110, 1112, 1114, 1116, 1118, 1120, 1122, 1124, 1126, 1128, 1130, 1132, 1134, 1136, 1138, 1140, 1142, 1144, 1146, 1148, 1150, 1152, 1154, 1156, 1158, 1160] (by decide +kernel) (by decide +kernel)
set_option maxRecDepth 100000 in
theorem iL_X0 : ∀ w ∈ wsX00, w ∈ lw_tbl := fun w h => (goodIn_r wsX00 [313, 315, 317, 319, 321, 323, 325, 327] (by decide +kernel) (by decide +kernel) w h).1
set_option maxRecDepth 100000 in
theorem iL_X1 : ∀ w ∈ wsX10, w ∈ lw_tbl := fun w h => (goodIn_r wsX10 [344, 346, 348, 350, 352, 354, 356, 358, 360] (by decide +kernel) (by decide +kernel) w h).1
set_option maxRecDepth 100000 in
theorem iL_X2 : ∀ w ∈ wsX20, w ∈ lw_tbl := fun w h => (goodIn_r wsX20 [225, 227, 229, 231, 233, 235] (by decide +kernel) (by decide +kernel) w h).1
set_option maxRecDepth 100000 in
theorem iL_X3 : ∀ w ∈ wsX30, w ∈ lw_tbl := fun w h => (goodIn_r wsX30 [808] (by decide +kernel) (by decide +kernel) w h).1
