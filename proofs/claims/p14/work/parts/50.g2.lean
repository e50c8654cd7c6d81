set_option maxRecDepth 100000 in
theorem gL_law_L_matching_c0 : GoodIn lw_tbl (((va_wsS RL 139 yL_matching wsL_matching)).take 40) := goodIn_r _ [989, 990, 77, 991, 413, 492, 992, 993, 994, 78, 995, 488, 365, 364, 563, 565, 2, 566, 567, 90, 497, 498, 499, 500, 91, 996, 997, 998, 85, 999, 1000, 976, 977, 978, 303, 306, 1001, 980, 981, 982] (by decide +kernel) (by decide +kernel)
set_option maxRecDepth 100000 in
theorem gL_law_L_matching_c1 : GoodIn lw_tbl (((va_wsS RL 139 yL_matching wsL_matching).drop 40).take 40) := goodIn_r _ [984, 554, 92, 555, 983, 879, 880, 881, 292, 300, 1002, 986, 987, 988, 374, 376, 378, 380, 382, 384, 386, 388, 390, 392, 394, 313, 315, 317, 319, 321, 323, 325, 327, 87, 444, 453, 456, 459, 461, 445] (by decide +kernel) (by decide +kernel)
set_option maxRecDepth 100000 in
theorem gL_law_L_matching_c2 : GoodIn lw_tbl (((va_wsS RL 139 yL_matching wsL_matching).drop 80).take 40) := goodIn_r _ [446, 105, 106, 447, 452, 457, 477, 434, 478, 436, 479, 438, 448, 450, 440, 473, 474, 476, 440, 464, 465, 466, 467, 467, 468, 469, 470, 470, 471, 472, 473, 569, 423, 431, 432, 433, 435, 437, 439, 443] (by decide +kernel) (by decide +kernel)
set_option maxRecDepth 100000 in
theorem gL_law_L_matching_c3 : GoodIn lw_tbl (((va_wsS RL 139 yL_matching wsL_matching).drop 120).take 40) := goodIn_r _ [442, 441, 87, 444, 453, 456, 459, 461, 445, 446, 105, 106, 447, 452, 457, 477, 434, 478, 436, 479, 438, 448, 450, 440, 473, 474, 476, 440, 511, 512, 513, 467, 467, 468, 469, 470, 470, 471, 472, 473] (by decide +kernel) (by decide +kernel)
set_option maxRecDepth 100000 in
theorem gL_law_L_matching_c4 : GoodIn lw_tbl (((va_wsS RL 139 yL_matching wsL_matching).drop 160).take 40) := goodIn_r _ [510, 501, 503, 455, 504, 505, 506, 507, 443, 442, 508] (by decide +kernel) (by decide +kernel)
set_option maxRecDepth 100000 in
theorem gL_law_L_matching : GoodIn lw_tbl (va_wsS RL 139 yL_matching wsL_matching) := goodIn_td 40 gL_law_L_matching_c0 (goodIn_td 40 gL_law_L_matching_c1 (goodIn_dd 40 40 (goodIn_td 40 gL_law_L_matching_c2 (goodIn_dd 80 40 (goodIn_td 40 gL_law_L_matching_c3 (goodIn_dd 120 40 (goodIn_e (by decide +kernel) gL_law_L_matching_c4)))))))
set_option maxRecDepth 100000 in
theorem gL_law_X9_cloth : GoodIn lw_tbl (wsV RL 88 RX9 yX9_cloth wsX9_cloth) := goodIn_r _ [397, 398, 399, 78, 400, 365, 364, 174, 285, 85, 401, 287, 288, 289, 105, 106, 306, 290, 292, 374, 376, 378, 380, 382, 384, 386, 388, 390, 392, 394, 313, 315, 317, 319, 321, 323, 325, 327] (by decide +kernel) (by decide +kernel)
set_option maxRecDepth 100000 in
theorem gL_law_X9_put : GoodIn lw_tbl (wsV RL 99 RX9 yX9_put wsX9_put) := goodIn_r _ [402, 403, 404, 78, 405, 368, 367, 406, 408, 0, 78, 409, 374, 376, 378, 380, 382, 384, 386, 388, 390, 392, 394] (by decide +kernel) (by decide +kernel)
set_option maxRecDepth 100000 in
theorem gL_law_X10_cloth : GoodIn lw_tbl (wsV RL 91 RX10 yX10_cloth wsX10_cloth) := goodIn_r _ [1205, 1206, 1207, 86, 1208, 1009, 1021, 1022, 1060, 1062, 1064, 1066, 1068, 1070, 1072, 1074, 1076, 1078, 1080, 1082, 1084, 1086, 1088, 1090, 1092, 1094, 1096, 1098, 1100, 1102, 1104, 1106, 1108, 1110, 1112, 1114, 1116, 1118, 1120, 1122, 1124, 1126, 1128, 1130, 1132, 1134, 1136, 1138, 1140, 1142, 1144, 1146, 1148, 1150, 1152, 1154, 1156, 1158, 1160] (by decide +kernel) (by decide +kernel)
set_option maxRecDepth 100000 in
theorem gL_law_X10_put_c0 : GoodIn lw_tbl (((wsV RL 103 RX10 yX10_put wsX10_put)).take 40) := goodIn_r _ [1241, 1242, 1243, 86, 1244, 1009, 1029, 1245, 1247, 47, 86, 1248, 1028, 1060, 1062, 1064, 1066, 1068, 1070, 1072, 1074, 1076, 1078, 1080, 1082, 1084, 1086, 1088, 1090, 1092, 1094, 1096, 1098, 1100, 1102, 1104, 1106, 1108, 1110, 1112] (by decide +kernel) (by decide +kernel)
set_option maxRecDepth 100000 in
theorem gL_law_X10_put_c1 : GoodIn lw_tbl (((wsV RL 103 RX10 yX10_put wsX10_put).drop 40).take 40) := goodIn_r _ [1114, 1116, 1118, 1120, 1122, 1124, 1126, 1128, 1130, 1132, 1134, 1136, 1138, 1140, 1142, 1144, 1146, 1148, 1150, 1152, 1154, 1156, 1158, 1160] (by decide +kernel) (by decide +kernel)
set_option maxRecDepth 100000 in
theorem gL_law_X10_put : GoodIn lw_tbl (wsV RL 103 RX10 yX10_put wsX10_put) := goodIn_td 40 gL_law_X10_put_c0 (goodIn_e (by decide +kernel) gL_law_X10_put_c1)
set_option maxRecDepth 100000 in
theorem gL_law_X10_charge_c0 : GoodIn lw_tbl (((wsV RL 77 RX10 yX10_charge wsX10_charge)).take 40) := goodIn_r _ [1168, 1169, 1170, 86, 1171, 1180, 1013, 1012, 1172, 1174, 36, 86, 1175, 1009, 1176, 1178, 37, 1179, 1060, 1062, 1064, 1066, 1068, 1070, 1072, 1074, 1076, 1078, 1080, 1082, 1084, 1086, 1088, 1090, 1092, 1094, 1096, 1098, 1100, 1102] (by decide +kernel) (by decide +kernel)
set_option maxRecDepth 100000 in
theorem gL_law_X10_charge_c1 : GoodIn lw_tbl (((wsV RL 77 RX10 yX10_charge wsX10_charge).drop 40).take 40) := goodIn_r _ [1104, 1106, 1108, 1110, 1112, 1114, 1116, 1118, 1120, 1122, 1124, 1126, 1128, 1130, 1132, 1134, 1136, 1138, 1140, 1142, 1144, 1146, 1148, 1150, 1152, 1154, 1156, 1158, 1160] (by decide +kernel) (by decide +kernel)
set_option maxRecDepth 100000 in
theorem gL_law_X10_charge : GoodIn lw_tbl (wsV RL 77 RX10 yX10_charge wsX10_charge) := goodIn_td 40 gL_law_X10_charge_c0 (goodIn_e (by decide +kernel) gL_law_X10_charge_c1)
set_option maxRecDepth 100000 in
theorem gL_law_X10_feed_c0 : GoodIn lw_tbl (((wsV RL 80 RX10 yX10_feed wsX10_feed)).take 40) := goodIn_r _ [1181, 1182, 1183, 86, 1184, 1016, 1172, 1174, 36, 86, 1175, 1009, 1176, 1178, 37, 1179, 1185, 1187, 38, 1188, 1014, 1060, 1062, 1064, 1066, 1068, 1070, 1072, 1074, 1076, 1078, 1080, 1082, 1084, 1086, 1088, 1090, 1092, 1094, 1096] (by decide +kernel) (by decide +kernel)
set_option maxRecDepth 100000 in
theorem gL_law_X10_feed_c1 : GoodIn lw_tbl (((wsV RL 80 RX10 yX10_feed wsX10_feed).drop 40).take 40) := goodIn_r _ [1098, 1100, 1102, 1104, 1106, 1108, 1110, 1112, 1114, 1116, 1118, 1120, 1122, 1124, 1126, 1128, 1130, 1132, 1134, 1136, 1138, 1140, 1142, 1144, 1146, 1148, 1150, 1152, 1154, 1156, 1158, 1160] (by decide +kernel) (by decide +kernel)
set_option maxRecDepth 100000 in
theorem gL_law_X10_feed : GoodIn lw_tbl (wsV RL 80 RX10 yX10_feed wsX10_feed) := goodIn_td 40 gL_law_X10_feed_c0 (goodIn_e (by decide +kernel) gL_law_X10_feed_c1)
set_option maxRecDepth 100000 in
theorem gL_law_X10_lime_c0 : GoodIn lw_tbl (((wsV RL 84 RX10 yX10_lime wsX10_lime)).take 40) := goodIn_r _ [1189, 1190, 1191, 86, 1192, 1016, 1172, 1174, 36, 86, 1175, 1009, 1176, 1178, 37, 1179, 1193, 1195, 39, 1196, 1015, 1014, 1060, 1062, 1064, 1066, 1068, 1070, 1072, 1074, 1076, 1078, 1080, 1082, 1084, 1086, 1088, 1090, 1092, 1094] (by decide +kernel) (by decide +kernel)
set_option maxRecDepth 100000 in
theorem gL_law_X10_lime_c1 : GoodIn lw_tbl (((wsV RL 84 RX10 yX10_lime wsX10_lime).drop 40).take 40) := goodIn_r _ [1096, 1098, 1100, 1102, 1104, 1106, 1108, 1110, 1112, 1114, 1116, 1118, 1120, 1122, 1124, 1126, 1128, 1130, 1132, 1134, 1136, 1138, 1140, 1142, 1144, 1146, 1148, 1150, 1152, 1154, 1156, 1158, 1160] (by decide +kernel) (by decide +kernel)
set_option maxRecDepth 100000 in
theorem gL_law_X10_lime : GoodIn lw_tbl (wsV RL 84 RX10 yX10_lime wsX10_lime) := goodIn_td 40 gL_law_X10_lime_c0 (goodIn_e (by decide +kernel) gL_law_X10_lime_c1)
set_option maxRecDepth 100000 in
theorem gL_law_X10_hours_c0 : GoodIn lw_tbl (((wsV RL 87 RX10 yX10_hours wsX10_hours)).take 40) := goodIn_r _ [1197, 1198, 1199, 86, 1200, 1009, 1010, 1176, 1178, 37, 86, 1179, 1201, 1203, 40, 1204, 1014, 1016, 1019, 1020, 1015, 1060, 1062, 1064, 1066, 1068, 1070, 1072, 1074, 1076, 1078, 1080, 1082, 1084, 1086, 1088, 1090, 1092, 1094, 1096] (by decide +kernel) (by decide +kernel)
set_option maxRecDepth 100000 in
theorem gL_law_X10_hours_c1 : GoodIn lw_tbl (((wsV RL 87 RX10 yX10_hours wsX10_hours).drop 40).take 40) := goodIn_r _ [1098, 1100, 1102, 1104, 1106, 1108, 1110, 1112, 1114, 1116, 1118, 1120, 1122, 1124, 1126, 1128, 1130, 1132, 1134, 1136, 1138, 1140, 1142, 1144, 1146, 1148, 1150, 1152, 1154, 1156, 1158, 1160] (by decide +kernel) (by decide +kernel)
set_option maxRecDepth 100000 in
theorem gL_law_X10_hours : GoodIn lw_tbl (wsV RL 87 RX10 yX10_hours wsX10_hours) := goodIn_td 40 gL_law_X10_hours_c0 (goodIn_e (by decide +kernel) gL_law_X10_hours_c1)
