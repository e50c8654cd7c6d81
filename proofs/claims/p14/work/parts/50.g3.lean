set_option maxRecDepth 100000 in
theorem gL_law_X10_dip_c0 : GoodIn lw_tbl (((wsV RL 95 RX10 yX10_dip wsX10_dip)).take 40) := goodIn_r _ [1209, 1210, 1211, 86, 1212, 1016, 1213, 1215, 41, 86, 1216, 1009, 1021, 1176, 1178, 37, 1179, 1172, 1174, 36, 1175, 1217, 1219, 42, 1220, 1025, 1221, 1223, 43, 1224, 1013, 1023, 1015, 1014, 1019, 1017, 1018, 1026, 1027, 1225] (by decide +kernel) (by decide +kernel)
set_option maxRecDepth 100000 in
theorem gL_law_X10_dip_c1 : GoodIn lw_tbl (((wsV RL 95 RX10 yX10_dip wsX10_dip).drop 40).take 40) := goodIn_r _ [1227, 44, 1228, 1022, 1024, 1060, 1062, 1064, 1066, 1068, 1070, 1072, 1074, 1076, 1078, 1080, 1082, 1084, 1086, 1088, 1090, 1092, 1094, 1096, 1098, 1100, 1102, 1104, 1106, 1108, 1110, 1112, 1114, 1116, 1118, 1120, 1122, 1124, 1126, 1128] (by decide +kernel) (by decide +kernel)
set_option maxRecDepth 100000 in
theorem gL_law_X10_dip_c2 : GoodIn lw_tbl (((wsV RL 95 RX10 yX10_dip wsX10_dip).drop 80).take 40) := goodIn_r _ [1130, 1132, 1134, 1136, 1138, 1140, 1142, 1144, 1146, 1148, 1150, 1152, 1154, 1156, 1158, 1160] (by decide +kernel) (by decide +kernel)
set_option maxRecDepth 100000 in
theorem gL_law_X10_dip : GoodIn lw_tbl (wsV RL 95 RX10 yX10_dip wsX10_dip) := goodIn_td 40 gL_law_X10_dip_c0 (goodIn_td 40 gL_law_X10_dip_c1 (goodIn_dd 40 40 (goodIn_e (by decide +kernel) gL_law_X10_dip_c2)))
set_option maxRecDepth 100000 in
theorem gL_law_X10_treat_c0 : GoodIn lw_tbl (((wsV RL 98 RX10 yX10_treat wsX10_treat)).take 40) := goodIn_r _ [1229, 1230, 1231, 86, 1232, 1025, 1010, 1213, 1215, 41, 86, 1216, 1009, 1021, 1176, 1178, 37, 1179, 1217, 1219, 42, 1220, 1233, 1235, 45, 1236, 1023, 1024, 1011, 1237, 1239, 46, 1240, 1060, 1062, 1064, 1066, 1068, 1070, 1072] (by decide +kernel) (by decide +kernel)
set_option maxRecDepth 100000 in
theorem gL_law_X10_treat_c1 : GoodIn lw_tbl (((wsV RL 98 RX10 yX10_treat wsX10_treat).drop 40).take 40) := goodIn_r _ [1074, 1076, 1078, 1080, 1082, 1084, 1086, 1088, 1090, 1092, 1094, 1096, 1098, 1100, 1102, 1104, 1106, 1108, 1110, 1112, 1114, 1116, 1118, 1120, 1122, 1124, 1126, 1128, 1130, 1132, 1134, 1136, 1138, 1140, 1142, 1144, 1146, 1148, 1150, 1152] (by decide +kernel) (by decide +kernel)
set_option maxRecDepth 100000 in
theorem gL_law_X10_treat_c2 : GoodIn lw_tbl (((wsV RL 98 RX10 yX10_treat wsX10_treat).drop 80).take 40) := goodIn_r _ [1154, 1156, 1158, 1160] (by decide +kernel) (by decide +kernel)
set_option maxRecDepth 100000 in
theorem gL_law_X10_treat : GoodIn lw_tbl (wsV RL 98 RX10 yX10_treat wsX10_treat) := goodIn_td 40 gL_law_X10_treat_c0 (goodIn_td 40 gL_law_X10_treat_c1 (goodIn_dd 40 40 (goodIn_e (by decide +kernel) gL_law_X10_treat_c2)))
set_option maxRecDepth 100000 in
theorem gL_law_X10_recipe_c0 : GoodIn lw_tbl (((wsV RL 106 RX10 yX10_recipe wsX10_recipe)).take 40) := goodIn_r _ [1249, 1250, 1251, 86, 1252, 1009, 1029, 1030, 1031, 1032, 1033, 1045, 1047, 1035, 1036, 1037, 1038, 1039, 1040, 1041, 1042, 1043, 1044, 1046, 1176, 1178, 37, 86, 1179, 1253, 1255, 48, 1256, 1257, 1259, 49, 1260, 1028, 1261, 1263] (by decide +kernel) (by decide +kernel)
set_option maxRecDepth 100000 in
theorem gL_law_X10_recipe_c1 : GoodIn lw_tbl (((wsV RL 106 RX10 yX10_recipe wsX10_recipe).drop 40).take 40) := goodIn_r _ [50, 1264, 1265, 1267, 51, 1334, 1300, 1302, 53, 1303, 1311, 1312, 1314, 56, 1315, 1034, 1316, 1318, 57, 1319, 1320, 1322, 58, 1323, 1324, 1325, 1326, 1327, 1329, 59, 1330, 1331, 1333, 60, 1335, 1337, 61, 1338, 1269, 1271] (by decide +kernel) (by decide +kernel)
set_option maxRecDepth 100000 in
theorem gL_law_X10_recipe_c2 : GoodIn lw_tbl (((wsV RL 106 RX10 yX10_recipe wsX10_recipe).drop 80).take 40) := goodIn_r _ [52, 1272, 1273, 1274, 1275, 1276, 1277, 1278, 1298, 656, 657, 93, 658, 1456, 659, 660, 661, 662, 663, 1457, 1299, 666, 667, 668, 669, 670, 671, 672, 673, 674, 94, 675, 676, 677, 678, 679, 681, 682, 95, 683] (by decide +kernel) (by decide +kernel)
set_option maxRecDepth 100000 in
theorem gL_law_X10_recipe_c3 : GoodIn lw_tbl (((wsV RL 106 RX10 yX10_recipe wsX10_recipe).drop 120).take 40) := goodIn_r _ [684, 685, 96, 686, 687, 688, 689, 690, 691, 692, 693, 694, 695, 696, 697, 699, 701, 1304, 1306, 54, 1307, 1339, 1341, 62, 1342, 1268, 1308, 1310, 55, 1060, 1062, 1064, 1066, 1068, 1070, 1072, 1074, 1076, 1078, 1080] (by decide +kernel) (by decide +kernel)
set_option maxRecDepth 100000 in
theorem gL_law_X10_recipe_c4 : GoodIn lw_tbl (((wsV RL 106 RX10 yX10_recipe wsX10_recipe).drop 160).take 40) := goodIn_r _ [1082, 1084, 1086, 1088, 1090, 1092, 1094, 1096, 1098, 1100, 1102, 1104, 1106, 1108, 1110, 1112, 1114, 1116, 1118, 1120, 1122, 1124, 1126, 1128, 1130, 1132, 1134, 1136, 1138, 1140, 1142, 1144, 1146, 1148, 1150, 1152, 1154, 1156, 1158, 1160] (by decide +kernel) (by decide +kernel)
set_option maxRecDepth 100000 in
theorem gL_law_X10_recipe : GoodIn lw_tbl (wsV RL 106 RX10 yX10_recipe wsX10_recipe) := goodIn_td 40 gL_law_X10_recipe_c0 (goodIn_td 40 gL_law_X10_recipe_c1 (goodIn_dd 40 40 (goodIn_td 40 gL_law_X10_recipe_c2 (goodIn_dd 80 40 (goodIn_td 40 gL_law_X10_recipe_c3 (goodIn_dd 120 40 (goodIn_e (by decide +kernel) gL_law_X10_recipe_c4)))))))
set_option maxRecDepth 100000 in
theorem gL_law_X10_fault_c0 : GoodIn lw_tbl (((wsV RL 109 RX10 yX10_fault wsX10_fault)).take 40) := goodIn_r _ [1343, 1344, 1345, 86, 1346, 1009, 1032, 1033, 1176, 1178, 37, 86, 1179, 1060, 1062, 1064, 1066, 1068, 1070, 1072, 1074, 1076, 1078, 1080, 1082, 1084, 1086, 1088, 1090, 1092, 1094, 1096, 1098, 1100, 1102, 1104, 1106, 1108, 1110, 1112] (by decide +kernel) (by decide +kernel)
set_option maxRecDepth 100000 in
theorem gL_law_X10_fault_c1 : GoodIn lw_tbl (((wsV RL 109 RX10 yX10_fault wsX10_fault).drop 40).take 40) := goodIn_r _ [1114, 1116, 1118, 1120, 1122, 1124, 1126, 1128, 1130, 1132, 1134, 1136, 1138, 1140, 1142, 1144, 1146, 1148, 1150, 1152, 1154, 1156, 1158, 1160] (by decide +kernel) (by decide +kernel)
set_option maxRecDepth 100000 in
theorem gL_law_X10_fault : GoodIn lw_tbl (wsV RL 109 RX10 yX10_fault wsX10_fault) := goodIn_td 40 gL_law_X10_fault_c0 (goodIn_e (by decide +kernel) gL_law_X10_fault_c1)
set_option maxRecDepth 100000 in
theorem gL_law_X10_run_c0 : GoodIn lw_tbl (((wsV RL 112 RX10 yX10_run wsX10_run)).take 40) := goodIn_r _ [1347, 1348, 1349, 86, 1350, 1043, 1048, 1049, 1050, 1051, 1052, 1054, 1053, 1213, 1215, 41, 86, 1216, 1009, 1021, 1176, 1178, 37, 1179, 1217, 1219, 42, 1220, 1025, 1351, 1353, 63, 1354, 1042, 1355, 1357, 64, 1358, 1035, 1036] (by decide +kernel) (by decide +kernel)
set_option maxRecDepth 100000 in
theorem gL_law_X10_run_c1 : GoodIn lw_tbl (((wsV RL 112 RX10 yX10_run wsX10_run).drop 40).take 40) := goodIn_r _ [1037, 1023, 1016, 1359, 1361, 65, 1362, 1363, 1365, 66, 1366, 1225, 1227, 44, 1228, 1013, 1022, 1024, 1221, 1223, 43, 1224, 1015, 1014, 1019, 1017, 1018, 1026, 1027, 1237, 1239, 46, 1240, 1011, 1233, 1235, 45, 1236, 1367, 1369] (by decide +kernel) (by decide +kernel)
set_option maxRecDepth 100000 in
theorem gL_law_X10_run_c2 : GoodIn lw_tbl (((wsV RL 112 RX10 yX10_run wsX10_run).drop 80).take 40) := goodIn_r _ [67, 1370, 1201, 1203, 40, 1204, 1010, 1020, 1185, 1187, 38, 1188, 1193, 1195, 39, 1196, 1371, 1373, 68, 1374, 1040, 1041, 1375, 1377, 69, 1378, 1379, 1381, 70, 1382, 1038, 1039, 1060, 1062, 1064, 1066, 1068, 1070, 1072, 1074] (by decide +kernel) (by decide +kernel)
set_option maxRecDepth 100000 in
theorem gL_law_X10_run_c3 : GoodIn lw_tbl (((wsV RL 112 RX10 yX10_run wsX10_run).drop 120).take 40) := goodIn_r _ [1076, 1078, 1080, 1082, 1084, 1086, 1088, 1090, 1092, 1094, 1096, 1098, 1100, 1102, 1104, 1106, 1108, 1110, 1112, 1114, 1116, 1118, 1120, 1122, 1124, 1126, 1128, 1130, 1132, 1134, 1136, 1138, 1140, 1142, 1144, 1146, 1148, 1150, 1152, 1154] (by decide +kernel) (by decide +kernel)
set_option maxRecDepth 100000 in
theorem gL_law_X10_run_c4 : GoodIn lw_tbl (((wsV RL 112 RX10 yX10_run wsX10_run).drop 160).take 40) := goodIn_r _ [1156, 1158, 1160] (by decide +kernel) (by decide +kernel)
set_option maxRecDepth 100000 in
theorem gL_law_X10_run : GoodIn lw_tbl (wsV RL 112 RX10 yX10_run wsX10_run) := goodIn_td 40 gL_law_X10_run_c0 (goodIn_td 40 gL_law_X10_run_c1 (goodIn_dd 40 40 (goodIn_td 40 gL_law_X10_run_c2 (goodIn_dd 80 40 (goodIn_td 40 gL_law_X10_run_c3 (goodIn_dd 120 40 (goodIn_e (by decide +kernel) gL_law_X10_run_c4)))))))
set_option maxRecDepth 100000 in
theorem gL_law_X10_ran_c0 : GoodIn lw_tbl (((wsV RL 115 RX10 yX10_ran wsX10_ran)).take 40) := goodIn_r _ [1383, 1384, 1385, 86, 1386, 1009, 1053, 1054, 1049, 1050, 1051, 1052, 1176, 1178, 37, 86, 1179, 1060, 1062, 1064, 1066, 1068, 1070, 1072, 1074, 1076, 1078, 1080, 1082, 1084, 1086, 1088, 1090, 1092, 1094, 1096, 1098, 1100, 1102, 1104] (by decide +kernel) (by decide +kernel)
set_option maxRecDepth 100000 in
theorem gL_law_X10_ran_c1 : GoodIn lw_tbl (((wsV RL 115 RX10 yX10_ran wsX10_ran).drop 40).take 40) := goodIn_r _ [1106, 1108, 1110, 1112, 1114, 1116, 1118, 1120, 1122, 1124, 1126, 1128, 1130, 1132, 1134, 1136, 1138, 1140, 1142, 1144, 1146, 1148, 1150, 1152, 1154, 1156, 1158, 1160] (by decide +kernel) (by decide +kernel)
set_option maxRecDepth 100000 in
theorem gL_law_X10_ran : GoodIn lw_tbl (wsV RL 115 RX10 yX10_ran wsX10_ran) := goodIn_td 40 gL_law_X10_ran_c0 (goodIn_e (by decide +kernel) gL_law_X10_ran_c1)
set_option maxRecDepth 100000 in
theorem gL_law_X10_plan_c0 : GoodIn lw_tbl (((wsV RL 119 RX10 yX10_plan wsX10_plan)).take 40) := goodIn_r _ [1387, 1388, 1389, 86, 1390, 1055, 1213, 1215, 41, 86, 1216, 1009, 1021, 1176, 1178, 37, 1179, 1217, 1219, 42, 1220, 1025, 1391, 1393, 71, 1394, 1023, 1016, 1056, 1057, 1058, 1375, 1377, 69, 1378, 1024, 1022, 1395, 1397, 72] (by decide +kernel) (by decide +kernel)
set_option maxRecDepth 100000 in
theorem gL_law_X10_plan_c1 : GoodIn lw_tbl (((wsV RL 119 RX10 yX10_plan wsX10_plan).drop 40).take 40) := goodIn_r _ [1398, 1059, 1013, 1014, 1015, 1225, 1227, 44, 1228, 1399, 1401, 73, 1402, 1403, 1405, 74, 1406, 1060, 1062, 1064, 1066, 1068, 1070, 1072, 1074, 1076, 1078, 1080, 1082, 1084, 1086, 1088, 1090, 1092, 1094, 1096, 1098, 1100, 1102, 1104] (by decide +kernel) (by decide +kernel)
set_option maxRecDepth 100000 in
theorem gL_law_X10_plan_c2 : GoodIn lw_tbl (((wsV RL 119 RX10 yX10_plan wsX10_plan).drop 80).take 40) := goodIn_r _ [1106, 1108, 1110, 1112, 1114, 1116, 1118, 1120, 1122, 1124, 1126, 1128, 1130, 1132, 1134, 1136, 1138, 1140, 1142, 1144, 1146, 1148, 1150, 1152, 1154, 1156, 1158, 1160] (by decide +kernel) (by decide +kernel)
set_option maxRecDepth 100000 in
theorem gL_law_X10_plan : GoodIn lw_tbl (wsV RL 119 RX10 yX10_plan wsX10_plan) := goodIn_td 40 gL_law_X10_plan_c0 (goodIn_td 40 gL_law_X10_plan_c1 (goodIn_dd 40 40 (goodIn_e (by decide +kernel) gL_law_X10_plan_c2)))
set_option maxRecDepth 100000 in
theorem gL_law_X10_planned_c0 : GoodIn lw_tbl (((wsV RL 126 RX10 yX10_planned wsX10_planned)).take 40) := goodIn_r _ [1407, 1408, 1409, 86, 1410, 1009, 1055, 1056, 1057, 1058, 1176, 1178, 37, 86, 1179, 1060, 1062, 1064, 1066, 1068, 1070, 1072, 1074, 1076, 1078, 1080, 1082, 1084, 1086, 1088, 1090, 1092, 1094, 1096, 1098, 1100, 1102, 1104, 1106, 1108] (by decide +kernel) (by decide +kernel)
set_option maxRecDepth 100000 in
theorem gL_law_X10_planned_c1 : GoodIn lw_tbl (((wsV RL 126 RX10 yX10_planned wsX10_planned).drop 40).take 40) := goodIn_r _ [1110, 1112, 1114, 1116, 1118, 1120, 1122, 1124, 1126, 1128, 1130, 1132, 1134, 1136, 1138, 1140, 1142, 1144, 1146, 1148, 1150, 1152, 1154, 1156, 1158, 1160] (by decide +kernel) (by decide +kernel)
set_option maxRecDepth 100000 in
theorem gL_law_X10_planned : GoodIn lw_tbl (wsV RL 126 RX10 yX10_planned wsX10_planned) := goodIn_td 40 gL_law_X10_planned_c0 (goodIn_e (by decide +kernel) gL_law_X10_planned_c1)
set_option maxRecDepth 100000 in
theorem gL_law_X10_vat_c0 : GoodIn lw_tbl (((wsV RL 129 RX10 yX10_vat wsX10_vat)).take 40) := goodIn_r _ [1411, 1412, 1413, 86, 1414, 1013, 1014, 1015, 1016, 1017, 1018, 1172, 1174, 36, 86, 1175, 1009, 1176, 1178, 37, 1179, 1060, 1062, 1064, 1066, 1068, 1070, 1072, 1074, 1076, 1078, 1080, 1082, 1084, 1086, 1088, 1090, 1092, 1094, 1096] (by decide +kernel) (by decide +kernel)
set_option maxRecDepth 100000 in
theorem gL_law_X10_vat_c1 : GoodIn lw_tbl (((wsV RL 129 RX10 yX10_vat wsX10_vat).drop 40).take 40) := goodIn_r _ [1098, 1100, 1102, 1104, 1106, 1108, 1110, 1112, 1114, 1116, 1118, 1120, 1122, 1124, 1126, 1128, 1130, 1132, 1134, 1136, 1138, 1140, 1142, 1144, 1146, 1148, 1150, 1152, 1154, 1156, 1158, 1160] (by decide +kernel) (by decide +kernel)
set_option maxRecDepth 100000 in
theorem gL_law_X10_vat : GoodIn lw_tbl (wsV RL 129 RX10 yX10_vat wsX10_vat) := goodIn_td 40 gL_law_X10_vat_c0 (goodIn_e (by decide +kernel) gL_law_X10_vat_c1)
