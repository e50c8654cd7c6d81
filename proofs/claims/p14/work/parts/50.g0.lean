theorem goodIn_td {big ws : List Cond} (k : Nat) (h1 : GoodIn big (ws.take k)) (h2 : GoodIn big (ws.drop k)) : GoodIn big ws := fun w h => by
  rw [← List.take_append_drop k ws] at h
  exact (List.mem_append.mp h).elim (h1 w) (h2 w)
theorem goodIn_dd {big ws : List Cond} (a k : Nat) (h : GoodIn big (ws.drop (a + k))) : GoodIn big ((ws.drop a).drop k) := by
  rw [List.drop_drop]; exact h
theorem goodIn_e {big ws : List Cond} {k : Nat} (hk : ws.length ≤ k) (h : GoodIn big (ws.take k)) : GoodIn big ws := by
  rw [List.take_of_length_le hk] at h; exact h
set_option maxRecDepth 100000 in
theorem gL_law_X9_init_c0 : GoodIn lw_tbl (((wsX9_init)).take 40) := goodIn_r _ [103, 104, 105, 106, 107, 108, 79, 363, 174, 364, 214, 367, 176, 177, 81, 369, 238, 370, 240, 241, 83, 372, 277, 278, 84, 373, 109, 110, 111, 112, 113, 161, 115, 80, 116, 117, 118, 119, 134, 142] (by decide +kernel) (by decide +kernel)
set_option maxRecDepth 100000 in
theorem gL_law_X9_init_c1 : GoodIn lw_tbl (((wsX9_init).drop 40).take 40) := goodIn_r _ [120, 178, 179, 180, 181, 221, 182, 183, 82, 216, 184, 185, 186, 187, 215, 193, 195, 197, 188, 242, 243, 244, 245, 248, 246, 279, 280, 281, 282, 283, 332, 284, 285, 85, 333, 338, 340, 342, 331, 286] (by decide +kernel) (by decide +kernel)
set_option maxRecDepth 100000 in
theorem gL_law_X9_init_c2 : GoodIn lw_tbl (((wsX9_init).drop 80).take 40) := goodIn_r _ [287, 288, 289, 306, 290, 292, 330, 167, 169, 171, 374, 376, 378, 380, 382, 384, 386, 388, 390, 392, 394, 225, 227, 229, 231, 233, 235, 260, 262, 264, 266, 268, 270, 272, 274, 344, 346, 348, 350, 352] (by decide +kernel) (by decide +kernel)
set_option maxRecDepth 100000 in
theorem gL_law_X9_init_c3 : GoodIn lw_tbl (((wsX9_init).drop 120).take 40) := goodIn_r _ [354, 356, 358, 360, 144, 146, 148, 150, 152, 154, 156, 158, 199, 201, 203, 205, 207, 209, 211, 313, 315, 317, 319, 321, 323, 325, 327] (by decide +kernel) (by decide +kernel)
set_option maxRecDepth 100000 in
theorem gL_law_X9_init : GoodIn lw_tbl (wsX9_init) := goodIn_td 40 gL_law_X9_init_c0 (goodIn_td 40 gL_law_X9_init_c1 (goodIn_dd 40 40 (goodIn_td 40 gL_law_X9_init_c2 (goodIn_dd 80 40 (goodIn_e (by decide +kernel) gL_law_X9_init_c3)))))
set_option maxRecDepth 100000 in
theorem gL_law_X10_init_c0 : GoodIn lw_tbl (((wsX10_init)).take 40) := goodIn_r _ [1007, 1008, 105, 106, 215, 1013, 1014, 1015, 1016, 1017, 1018, 1163, 1019, 1020, 1022, 1023, 1024, 1025, 1026, 1027, 1028, 1033, 1035, 1036, 1037, 1038, 1039, 1040, 1041, 1042, 1043, 1044, 1053, 1056, 1057, 1058, 1059, 1060, 1062, 1064] (by decide +kernel) (by decide +kernel)
set_option maxRecDepth 100000 in
theorem gL_law_X10_init_c1 : GoodIn lw_tbl (((wsX10_init).drop 40).take 40) := goodIn_r _ [1066, 1068, 1070, 1072, 1074, 1076, 1078, 1080, 1082, 1084, 1086, 1088, 1090, 1092, 1094, 1096, 1098, 1100, 1102, 1104, 1106, 1108, 1110, 1112, 1114, 1116, 1118, 1120, 1122, 1124, 1126, 1128, 1130, 1132, 1134, 1136, 1138, 1140, 1142, 1144] (by decide +kernel) (by decide +kernel)
set_option maxRecDepth 100000 in
theorem gL_law_X10_init_c2 : GoodIn lw_tbl (((wsX10_init).drop 80).take 40) := goodIn_r _ [1146, 1148, 1150, 1152, 1154, 1156, 1158, 1160] (by decide +kernel) (by decide +kernel)
set_option maxRecDepth 100000 in
theorem gL_law_X10_init : GoodIn lw_tbl (wsX10_init) := goodIn_td 40 gL_law_X10_init_c0 (goodIn_td 40 gL_law_X10_init_c1 (goodIn_dd 40 40 (goodIn_e (by decide +kernel) gL_law_X10_init_c2)))
set_option maxRecDepth 100000 in
theorem gL_law_L_charge_c0 : GoodIn lw_tbl (((va_wsS RL 72 yL_charge wsL_charge)).take 40) := goodIn_r _ [410, 411, 77, 412, 413, 414, 415, 416, 78, 417, 363, 488, 123, 366, 418, 419, 420, 79, 421, 422, 90, 161, 374, 376, 378, 380, 382, 384, 386, 388, 390, 392, 394, 144, 146, 148, 150, 152, 154, 156] (by decide +kernel) (by decide +kernel)
set_option maxRecDepth 100000 in
theorem gL_law_L_charge_c1 : GoodIn lw_tbl (((va_wsS RL 72 yL_charge wsL_charge).drop 40).take 40) := goodIn_r _ [158, 167, 169, 171, 87, 444, 453, 456, 459, 461, 445, 446, 105, 106, 447, 452, 457, 477, 434, 478, 436, 479, 438, 448, 450, 440, 473, 474, 476, 440, 464, 465, 466, 467, 467, 468, 469, 470, 470, 471] (by decide +kernel) (by decide +kernel)
set_option maxRecDepth 100000 in
theorem gL_law_L_charge_c2 : GoodIn lw_tbl (((va_wsS RL 72 yL_charge wsL_charge).drop 80).take 40) := goodIn_r _ [472, 473, 463, 423, 431, 432, 433, 435, 437, 439, 443, 442, 441] (by decide +kernel) (by decide +kernel)
set_option maxRecDepth 100000 in
theorem gL_law_L_charge : GoodIn lw_tbl (va_wsS RL 72 yL_charge wsL_charge) := goodIn_td 40 gL_law_L_charge_c0 (goodIn_td 40 gL_law_L_charge_c1 (goodIn_dd 40 40 (goodIn_e (by decide +kernel) gL_law_L_charge_c2)))
set_option maxRecDepth 100000 in
theorem gL_law_L_feed_c0 : GoodIn lw_tbl (((va_wsS RL 78 yL_feed wsL_feed)).take 40) := goodIn_r _ [489, 490, 77, 491, 413, 492, 493, 494, 495, 78, 496, 363, 135, 418, 419, 420, 79, 421, 422, 90, 161, 497, 498, 499, 500, 91, 516, 517, 518, 80, 519, 127, 134, 374, 376, 378, 380, 382, 384, 386] (by decide +kernel) (by decide +kernel)
set_option maxRecDepth 100000 in
theorem gL_law_L_feed_c1 : GoodIn lw_tbl (((va_wsS RL 78 yL_feed wsL_feed).drop 40).take 40) := goodIn_r _ [388, 390, 392, 394, 144, 146, 148, 150, 152, 154, 156, 158, 167, 169, 171, 87, 444, 453, 456, 459, 461, 445, 446, 105, 106, 447, 452, 457, 477, 434, 478, 436, 479, 438, 448, 450, 440, 473, 474, 476] (by decide +kernel) (by decide +kernel)
set_option maxRecDepth 100000 in
theorem gL_law_L_feed_c2 : GoodIn lw_tbl (((va_wsS RL 78 yL_feed wsL_feed).drop 80).take 40) := goodIn_r _ [440, 464, 465, 466, 467, 467, 468, 469, 470, 470, 471, 472, 473, 463, 423, 431, 432, 433, 435, 437, 439, 443, 442, 441, 87, 444, 453, 456, 459, 461, 445, 446, 105, 106, 447, 452, 457, 477, 434, 478] (by decide +kernel) (by decide +kernel)
set_option maxRecDepth 100000 in
theorem gL_law_L_feed_c3 : GoodIn lw_tbl (((va_wsS RL 78 yL_feed wsL_feed).drop 120).take 40) := goodIn_r _ [436, 479, 438, 448, 450, 440, 473, 474, 476, 440, 511, 512, 513, 467, 467, 468, 469, 470, 470, 471, 472, 473, 510, 501, 503, 455, 504, 505, 506, 507, 443, 442, 508] (by decide +kernel) (by decide +kernel)
set_option maxRecDepth 100000 in
theorem gL_law_L_feed : GoodIn lw_tbl (va_wsS RL 78 yL_feed wsL_feed) := goodIn_td 40 gL_law_L_feed_c0 (goodIn_td 40 gL_law_L_feed_c1 (goodIn_dd 40 40 (goodIn_td 40 gL_law_L_feed_c2 (goodIn_dd 80 40 (goodIn_e (by decide +kernel) gL_law_L_feed_c3)))))
set_option maxRecDepth 100000 in
theorem gL_law_L_lime_c0 : GoodIn lw_tbl (((va_wsS RL 81 yL_lime wsL_lime)).take 40) := goodIn_r _ [520, 521, 77, 522, 413, 523, 524, 525, 78, 526, 363, 135, 418, 419, 420, 79, 421, 422, 90, 161, 527, 528, 529, 80, 530, 134, 131, 127, 374, 376, 378, 380, 382, 384, 386, 388, 390, 392, 394, 144] (by decide +kernel) (by decide +kernel)
set_option maxRecDepth 100000 in
theorem gL_law_L_lime_c1 : GoodIn lw_tbl (((va_wsS RL 81 yL_lime wsL_lime).drop 40).take 40) := goodIn_r _ [146, 148, 150, 152, 154, 156, 158, 167, 169, 171, 87, 444, 453, 456, 459, 461, 445, 446, 105, 106, 447, 452, 457, 477, 434, 478, 436, 479, 438, 448, 450, 440, 473, 474, 476, 440, 464, 465, 466, 467] (by decide +kernel) (by decide +kernel)
set_option maxRecDepth 100000 in
theorem gL_law_L_lime_c2 : GoodIn lw_tbl (((va_wsS RL 81 yL_lime wsL_lime).drop 80).take 40) := goodIn_r _ [467, 468, 469, 470, 470, 471, 472, 473, 463, 423, 431, 432, 433, 435, 437, 439, 443, 442, 441] (by decide +kernel) (by decide +kernel)
set_option maxRecDepth 100000 in
theorem gL_law_L_lime : GoodIn lw_tbl (va_wsS RL 81 yL_lime wsL_lime) := goodIn_td 40 gL_law_L_lime_c0 (goodIn_td 40 gL_law_L_lime_c1 (goodIn_dd 40 40 (goodIn_e (by decide +kernel) gL_law_L_lime_c2)))
set_option maxRecDepth 100000 in
theorem gL_law_L_hours_c0 : GoodIn lw_tbl (((va_wsS RL 85 yL_hours wsL_hours)).take 40) := goodIn_r _ [531, 532, 77, 533, 492, 534, 535, 536, 78, 537, 363, 163, 497, 498, 499, 500, 91, 538, 539, 540, 79, 541, 542, 543, 92, 544, 162, 545, 546, 547, 548, 161, 549, 550, 551, 80, 552, 127, 553, 554] (by decide +kernel) (by decide +kernel)
set_option maxRecDepth 100000 in
theorem gL_law_L_hours_c1 : GoodIn lw_tbl (((va_wsS RL 85 yL_hours wsL_hours).drop 40).take 40) := goodIn_r _ [555, 134, 142, 131, 374, 376, 378, 380, 382, 384, 386, 388, 390, 392, 394, 167, 169, 171, 144, 146, 148, 150, 152, 154, 156, 158, 87, 444, 453, 456, 459, 461, 445, 446, 105, 106, 447, 452, 457, 477] (by decide +kernel) (by decide +kernel)
set_option maxRecDepth 100000 in
theorem gL_law_L_hours_c2 : GoodIn lw_tbl (((va_wsS RL 85 yL_hours wsL_hours).drop 80).take 40) := goodIn_r _ [434, 478, 436, 479, 438, 448, 450, 440, 473, 474, 476, 440, 511, 512, 513, 467, 467, 468, 469, 470, 470, 471, 472, 473, 510, 501, 503, 455, 504, 505, 506, 507, 443, 442, 508] (by decide +kernel) (by decide +kernel)
set_option maxRecDepth 100000 in
theorem gL_law_L_hours : GoodIn lw_tbl (va_wsS RL 85 yL_hours wsL_hours) := goodIn_td 40 gL_law_L_hours_c0 (goodIn_td 40 gL_law_L_hours_c1 (goodIn_dd 40 40 (goodIn_e (by decide +kernel) gL_law_L_hours_c2)))
set_option maxRecDepth 100000 in
theorem gL_law_L_dip_c0 : GoodIn lw_tbl (((va_wsS RL 92 yL_dip wsL_dip)).take 40) := goodIn_r _ [556, 557, 77, 558, 413, 492, 559, 560, 561, 78, 562, 363, 135, 305, 563, 565, 2, 566, 567, 90, 365, 364, 418, 419, 420, 79, 421, 422, 161, 497, 498, 499, 500, 91, 570, 571, 572, 80, 573, 293] (by decide +kernel) (by decide +kernel)
set_option maxRecDepth 100000 in
theorem gL_law_L_dip_c1 : GoodIn lw_tbl (((va_wsS RL 92 yL_dip wsL_dip).drop 40).take 40) := goodIn_r _ [134, 124, 578, 543, 92, 544, 574, 575, 576, 85, 577, 292, 295, 300, 579, 580, 581, 582, 162, 143, 138, 140, 291, 311, 309, 121, 583, 584, 585, 586, 296, 131, 127, 374, 376, 378, 380, 382, 384, 386] (by decide +kernel) (by decide +kernel)
set_option maxRecDepth 100000 in
theorem gL_law_L_dip_c2 : GoodIn lw_tbl (((va_wsS RL 92 yL_dip wsL_dip).drop 80).take 40) := goodIn_r _ [388, 390, 392, 394, 144, 146, 148, 150, 152, 154, 156, 158, 313, 315, 317, 319, 321, 323, 325, 327, 167, 169, 171, 87, 444, 453, 456, 459, 461, 445, 446, 105, 106, 447, 452, 457, 477, 434, 478, 436] (by decide +kernel) (by decide +kernel)
set_option maxRecDepth 100000 in
theorem gL_law_L_dip_c3 : GoodIn lw_tbl (((va_wsS RL 92 yL_dip wsL_dip).drop 120).take 40) := goodIn_r _ [479, 438, 448, 450, 440, 473, 474, 476, 440, 464, 465, 466, 467, 467, 468, 469, 470, 470, 471, 472, 473, 569, 423, 431, 432, 433, 435, 437, 439, 443, 442, 441, 87, 444, 453, 456, 459, 461, 445, 446] (by decide +kernel) (by decide +kernel)
set_option maxRecDepth 100000 in
theorem gL_law_L_dip_c4 : GoodIn lw_tbl (((va_wsS RL 92 yL_dip wsL_dip).drop 160).take 40) := goodIn_r _ [105, 106, 447, 452, 457, 477, 434, 478, 436, 479, 438, 448, 450, 440, 473, 474, 476, 440, 464, 465, 466, 467, 467, 468, 469, 470, 470, 471, 472, 473, 463, 423, 431, 432, 433, 435, 437, 439, 443, 442] (by decide +kernel) (by decide +kernel)
set_option maxRecDepth 100000 in
theorem gL_law_L_dip_c5 : GoodIn lw_tbl (((va_wsS RL 92 yL_dip wsL_dip).drop 200).take 40) := goodIn_r _ [441, 87, 444, 453, 456, 459, 461, 445, 446, 105, 106, 447, 452, 457, 477, 434, 478, 436, 479, 438, 448, 450, 440, 473, 474, 476, 440, 511, 512, 513, 467, 467, 468, 469, 470, 470, 471, 472, 473, 510] (by decide +kernel) (by decide +kernel)
set_option maxRecDepth 100000 in
theorem gL_law_L_dip_c6 : GoodIn lw_tbl (((va_wsS RL 92 yL_dip wsL_dip).drop 240).take 40) := goodIn_r _ [501, 503, 455, 504, 505, 506, 507, 443, 442, 508] (by decide +kernel) (by decide +kernel)
set_option maxRecDepth 100000 in
theorem gL_law_L_dip : GoodIn lw_tbl (va_wsS RL 92 yL_dip wsL_dip) := goodIn_td 40 gL_law_L_dip_c0 (goodIn_td 40 gL_law_L_dip_c1 (goodIn_dd 40 40 (goodIn_td 40 gL_law_L_dip_c2 (goodIn_dd 80 40 (goodIn_td 40 gL_law_L_dip_c3 (goodIn_dd 120 40 (goodIn_td 40 gL_law_L_dip_c4 (goodIn_dd 160 40 (goodIn_td 40 gL_law_L_dip_c5 (goodIn_dd 200 40 (goodIn_e (by decide +kernel) gL_law_L_dip_c6)))))))))))
set_option maxRecDepth 100000 in
theorem gL_law_L_treat_c0 : GoodIn lw_tbl (((va_wsS RL 96 yL_treat wsL_treat)).take 40) := goodIn_r _ [587, 588, 77, 589, 413, 492, 590, 591, 592, 78, 593, 305, 363, 563, 565, 2, 566, 567, 90, 365, 364, 497, 498, 499, 500, 91, 594, 595, 596, 79, 597, 165, 598, 599, 600, 85, 601, 295, 300, 602] (by decide +kernel) (by decide +kernel)
set_option maxRecDepth 100000 in
theorem gL_law_L_treat_c1 : GoodIn lw_tbl (((va_wsS RL 96 yL_treat wsL_treat).drop 40).take 40) := goodIn_r _ [603, 604, 605, 606, 607, 608, 609, 610, 611, 612, 613, 304, 162, 307, 614, 313, 315, 317, 319, 321, 323, 325, 327, 374, 376, 378, 380, 382, 384, 386, 388, 390, 392, 394, 167, 169, 171, 87, 444, 453] (by decide +kernel) (by decide +kernel)
set_option maxRecDepth 100000 in
theorem gL_law_L_treat_c2 : GoodIn lw_tbl (((va_wsS RL 96 yL_treat wsL_treat).drop 80).take 40) := goodIn_r _ [456, 459, 461, 445, 446, 105, 106, 447, 452, 457, 477, 434, 478, 436, 479, 438, 448, 450, 440, 473, 474, 476, 440, 464, 465, 466, 467, 467, 468, 469, 470, 470, 471, 472, 473, 569, 423, 431, 432, 433] (by decide +kernel) (by decide +kernel)
set_option maxRecDepth 100000 in
theorem gL_law_L_treat_c3 : GoodIn lw_tbl (((va_wsS RL 96 yL_treat wsL_treat).drop 120).take 40) := goodIn_r _ [435, 437, 439, 443, 442, 441, 87, 444, 453, 456, 459, 461, 445, 446, 105, 106, 447, 452, 457, 477, 434, 478, 436, 479, 438, 448, 450, 440, 473, 474, 476, 440, 511, 512, 513, 467, 467, 468, 469, 470] (by decide +kernel) (by decide +kernel)
set_option maxRecDepth 100000 in
theorem gL_law_L_treat_c4 : GoodIn lw_tbl (((va_wsS RL 96 yL_treat wsL_treat).drop 160).take 40) := goodIn_r _ [470, 471, 472, 473, 510, 501, 503, 455, 504, 505, 506, 507, 443, 442, 508] (by decide +kernel) (by decide +kernel)
set_option maxRecDepth 100000 in
theorem gL_law_L_treat : GoodIn lw_tbl (va_wsS RL 96 yL_treat wsL_treat) := goodIn_td 40 gL_law_L_treat_c0 (goodIn_td 40 gL_law_L_treat_c1 (goodIn_dd 40 40 (goodIn_td 40 gL_law_L_treat_c2 (goodIn_dd 80 40 (goodIn_td 40 gL_law_L_treat_c3 (goodIn_dd 120 40 (goodIn_e (by decide +kernel) gL_law_L_treat_c4)))))))
set_option maxRecDepth 100000 in
theorem gL_law_L_recipe_c0 : GoodIn lw_tbl (((va_wsS RL 104 yL_recipe wsL_recipe)).take 40) := goodIn_r _ [615, 616, 77, 617, 492, 618, 619, 620, 78, 621, 370, 368, 369, 220, 238, 801, 98, 224, 371, 497, 498, 499, 500, 91, 622, 623, 624, 81, 625, 216, 219, 221, 223, 626, 627, 628, 82, 629, 188, 630] (by decide +kernel) (by decide +kernel)
set_option maxRecDepth 100000 in
theorem gL_law_L_recipe_c1 : GoodIn lw_tbl (((va_wsS RL 104 yL_recipe wsL_recipe).drop 40).take 40) := goodIn_r _ [543, 92, 544, 631, 554, 555, 189, 190, 191, 632, 634, 3, 635, 636, 637, 638, 639, 641, 4, 642, 643, 644, 645, 646, 648, 5, 649, 650, 652, 6, 653, 655, 656, 657, 93, 658, 1456, 659, 660, 661] (by decide +kernel) (by decide +kernel)
set_option maxRecDepth 100000 in
theorem gL_law_L_recipe_c2 : GoodIn lw_tbl (((va_wsS RL 104 yL_recipe wsL_recipe).drop 80).take 40) := goodIn_r _ [662, 663, 1457, 665, 666, 667, 668, 669, 670, 671, 672, 673, 674, 94, 675, 676, 677, 678, 679, 681, 682, 95, 683, 684, 685, 96, 686, 687, 688, 689, 690, 691, 692, 693, 694, 695, 696, 697, 699, 701] (by decide +kernel) (by decide +kernel)
set_option maxRecDepth 100000 in
theorem gL_law_L_recipe_c3 : GoodIn lw_tbl (((va_wsS RL 104 yL_recipe wsL_recipe).drop 120).take 40) := goodIn_r _ [703, 705, 7, 706, 707, 709, 8, 710, 193, 195, 197, 711, 712, 713, 714, 716, 9, 717, 718, 719, 720, 721, 723, 10, 724, 217, 192, 194, 218, 725, 727, 11, 728, 754, 729, 731, 12, 796, 773, 775] (by decide +kernel) (by decide +kernel)
set_option maxRecDepth 100000 in
theorem gL_law_L_recipe_c4 : GoodIn lw_tbl (((va_wsS RL 104 yL_recipe wsL_recipe).drop 160).take 40) := goodIn_r _ [13, 776, 196, 777, 779, 14, 780, 792, 741, 745, 750, 753, 785, 787, 16, 788, 198, 793, 795, 18, 797, 799, 19, 800, 746, 743, 748, 732, 733, 734, 97, 735, 736, 737, 738, 105, 106, 739, 781, 783] (by decide +kernel) (by decide +kernel)
set_option maxRecDepth 100000 in
theorem gL_law_L_recipe_c5 : GoodIn lw_tbl (((va_wsS RL 104 yL_recipe wsL_recipe).drop 200).take 40) := goodIn_r _ [15, 784, 789, 791, 17, 802, 803, 804, 805, 806, 374, 376, 378, 380, 382, 384, 386, 388, 390, 392, 394, 225, 227, 229, 231, 233, 235, 808, 199, 201, 203, 205, 207, 209, 211, 756, 758, 760, 762, 764] (by decide +kernel) (by decide +kernel)
set_option maxRecDepth 100000 in
theorem gL_law_L_recipe_c6 : GoodIn lw_tbl (((va_wsS RL 104 yL_recipe wsL_recipe).drop 240).take 40) := goodIn_r _ [766, 768, 770, 87, 444, 453, 456, 459, 461, 445, 446, 105, 106, 447, 452, 457, 477, 434, 478, 436, 479, 438, 448, 450, 440, 473, 474, 476, 440, 511, 512, 513, 467, 467, 468, 469, 470, 470, 471, 472] (by decide +kernel) (by decide +kernel)
set_option maxRecDepth 100000 in
theorem gL_law_L_recipe_c7 : GoodIn lw_tbl (((va_wsS RL 104 yL_recipe wsL_recipe).drop 280).take 40) := goodIn_r _ [473, 510, 501, 503, 455, 504, 505, 506, 507, 443, 442, 508] (by decide +kernel) (by decide +kernel)
set_option maxRecDepth 100000 in
theorem gL_law_L_recipe : GoodIn lw_tbl (va_wsS RL 104 yL_recipe wsL_recipe) := goodIn_td 40 gL_law_L_recipe_c0 (goodIn_td 40 gL_law_L_recipe_c1 (goodIn_dd 40 40 (goodIn_td 40 gL_law_L_recipe_c2 (goodIn_dd 80 40 (goodIn_td 40 gL_law_L_recipe_c3 (goodIn_dd 120 40 (goodIn_td 40 gL_law_L_recipe_c4 (goodIn_dd 160 40 (goodIn_td 40 gL_law_L_recipe_c5 (goodIn_dd 200 40 (goodIn_td 40 gL_law_L_recipe_c6 (goodIn_dd 240 40 (goodIn_e (by decide +kernel) gL_law_L_recipe_c7)))))))))))))
