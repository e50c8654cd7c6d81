set_option maxRecDepth 100000 in
theorem iL_X4 : ∀ w ∈ wsX40, w ∈ lw_tbl := fun w h => (goodIn_r wsX40 [260, 262, 264, 266, 268, 270, 272, 274] (by decide +kernel) (by decide +kernel) w h).1
set_option maxRecDepth 100000 in
theorem iL_X5 : ∀ w ∈ wsX50, w ∈ lw_tbl := fun w h => (goodIn_r wsX50 [756, 758, 760, 762, 764, 766, 768, 770] (by decide +kernel) (by decide +kernel) w h).1
set_option maxRecDepth 100000 in
theorem iL_X6 : ∀ w ∈ wsX60, w ∈ lw_tbl := fun w h => (goodIn_r wsX60 [199, 201, 203, 205, 207, 209, 211] (by decide +kernel) (by decide +kernel) w h).1
set_option maxRecDepth 100000 in
theorem iL_X7 : ∀ w ∈ wsX70, w ∈ lw_tbl := fun w h => (goodIn_r wsX70 [144, 146, 148, 150, 152, 154, 156, 158] (by decide +kernel) (by decide +kernel) w h).1
set_option maxRecDepth 100000 in
theorem iL_X8 : ∀ w ∈ wsX80, w ∈ lw_tbl := fun w h => (goodIn_r wsX80 [167, 169, 171] (by decide +kernel) (by decide +kernel) w h).1
set_option maxRecDepth 100000 in
theorem iL_X9 : ∀ w ∈ wsX90, w ∈ lw_tbl := fun w h => (goodIn_r wsX90 [374, 376, 378, 380, 382, 384, 386, 388, 390, 392, 394] (by decide +kernel) (by decide +kernel) w h).1
set_option maxRecDepth 100000 in
theorem iL_X10 : ∀ w ∈ wsX100, w ∈ lw_tbl := fun w h => (goodIn_r wsX100 [1060, 1062, 1064, 1066, 1068, 1070, 1072, 1074, 1076, 1078, 1080, 1082, 1084, 1086, 1088, 1090, 1092, 1094, 1096, 1098, 1100, 1102, 1104, 1106, 1108, 1110, 1112, 1114, 1116, 1118, 1120, 1122, 1124, 1126, 1128, 1130, 1132, 1134, 1136, 1138, 1140, 1142, 1144, 1146, 1148, 1150, 1152, 1154, 1156, 1158, 1160] (by decide +kernel) (by decide +kernel) w h).1
