set_option maxRecDepth 100000 in
theorem qs_X9_init_r1 : GoodIn lw_tbl wsX9_init_r1 := gi_c qw_104 (gi_c qw_105 (gi_c qw_106 (gi_c qw_107 (gi_c qw_108 (gi_c qw_79 (gi_c qw_363 (gi_c qw_174 (gi_c qw_364 (gi_c qw_214 (gi_c qw_367 (gi_c qw_176 (gi_c qw_177 (gi_c qw_81 (gi_c qw_369 (gi_c qw_238 (gi_c qw_370 (gi_c qw_240 (gi_c qw_241 (gi_c qw_83 (gi_c qw_372 (gi_c qw_277 (gi_c qw_278 (gi_c qw_84 gi_n)))))))))))))))))))))))
set_option maxRecDepth 100000 in
theorem qs_X9_init_r2 : GoodIn lw_tbl wsX9_init_r2 := gi_c qw_373 (gi_c qw_109 (gi_c qw_110 (gi_c qw_111 (gi_c qw_112 (gi_c qw_113 (gi_c qw_161 (gi_c qw_115 (gi_c qw_80 (gi_c qw_116 (gi_c qw_117 (gi_c qw_118 (gi_c qw_119 (gi_c qw_134 (gi_c qw_142 (gi_c qw_120 (gi_c qw_178 (gi_c qw_179 (gi_c qw_180 (gi_c qw_181 (gi_c qw_221 (gi_c qw_182 (gi_c qw_183 (gi_c qw_82 gi_n)))))))))))))))))))))))
set_option maxRecDepth 100000 in
theorem qs_X9_init_r3 : GoodIn lw_tbl wsX9_init_r3 := gi_c qw_216 (gi_c qw_184 (gi_c qw_185 (gi_c qw_186 (gi_c qw_187 (gi_c qw_215 (gi_c qw_193 (gi_c qw_195 (gi_c qw_197 (gi_c qw_188 (gi_c qw_242 (gi_c qw_243 (gi_c qw_244 (gi_c qw_245 (gi_c qw_248 (gi_c qw_246 (gi_c qw_279 (gi_c qw_280 (gi_c qw_281 (gi_c qw_282 (gi_c qw_283 (gi_c qw_332 (gi_c qw_284 (gi_c qw_285 gi_n)))))))))))))))))))))))
set_option maxRecDepth 100000 in
theorem qs_X9_init_r4 : GoodIn lw_tbl wsX9_init_r4 := gi_c qw_85 (gi_c qw_333 (gi_c qw_338 (gi_c qw_340 (gi_c qw_342 (gi_c qw_331 (gi_c qw_286 (gi_c qw_287 (gi_c qw_288 (gi_c qw_289 (gi_c qw_306 (gi_c qw_290 (gi_c qw_292 (gi_c qw_330 gi_n)))))))))))))
set_option maxRecDepth 100000 in
theorem qu_X8 : GoodIn lw_tbl wsX80 := goodIn_r _ [167, 169, 171] (by decide +kernel) (by decide +kernel)
set_option maxRecDepth 100000 in
theorem qu_X9 : GoodIn lw_tbl wsX90 := goodIn_r _ [374, 376, 378, 380, 382, 384, 386, 388, 390, 392, 394] (by decide +kernel) (by decide +kernel)
set_option maxRecDepth 100000 in
theorem qu_X2 : GoodIn lw_tbl wsX20 := goodIn_r _ [225, 227, 229, 231, 233, 235] (by decide +kernel) (by decide +kernel)
set_option maxRecDepth 100000 in
theorem qu_X4 : GoodIn lw_tbl wsX40 := goodIn_r _ [260, 262, 264, 266, 268, 270, 272, 274] (by decide +kernel) (by decide +kernel)
set_option maxRecDepth 100000 in
theorem qu_X1 : GoodIn lw_tbl wsX10 := goodIn_r _ [344, 346, 348, 350, 352, 354, 356, 358, 360] (by decide +kernel) (by decide +kernel)
set_option maxRecDepth 100000 in
theorem qu_X7 : GoodIn lw_tbl wsX70 := goodIn_r _ [144, 146, 148, 150, 152, 154, 156, 158] (by decide +kernel) (by decide +kernel)
set_option maxRecDepth 100000 in
theorem qu_X6 : GoodIn lw_tbl wsX60 := goodIn_r _ [199, 201, 203, 205, 207, 209, 211] (by decide +kernel) (by decide +kernel)
set_option maxRecDepth 100000 in
theorem qu_X0 : GoodIn lw_tbl wsX00 := goodIn_r _ [313, 315, 317, 319, 321, 323, 325, 327] (by decide +kernel) (by decide +kernel)
set_option maxRecDepth 100000 in
theorem qs_X9_init : GoodIn lw_tbl wsX9_init := gi_c qw_103 (goodIn_app (goodIn_app (goodIn_app (goodIn_app (goodIn_app (goodIn_app (goodIn_app (goodIn_app (goodIn_app (qs_X9_init_r1) (goodIn_app (qs_X9_init_r2) (goodIn_app (qs_X9_init_r3) (qs_X9_init_r4)))) (qu_X8)) (qu_X9)) (qu_X2)) (qu_X4)) (qu_X1)) (qu_X7)) (qu_X6)) (qu_X0))
set_option maxRecDepth 100000 in
theorem qs_X10_init_r1 : GoodIn lw_tbl wsX10_init_r1 := gi_c qw_1008 (gi_c qw_105 (gi_c qw_106 (gi_c qw_215 (gi_c qw_1013 (gi_c qw_1014 (gi_c qw_1015 (gi_c qw_1016 (gi_c qw_1017 (gi_c qw_1018 (gi_c qw_1163 (gi_c qw_1019 (gi_c qw_1020 (gi_c qw_1022 (gi_c qw_1023 (gi_c qw_1024 (gi_c qw_1025 (gi_c qw_1026 (gi_c qw_1027 (gi_c qw_1028 (gi_c qw_1033 (gi_c qw_1035 (gi_c qw_1036 (gi_c qw_1037 gi_n)))))))))))))))))))))))
set_option maxRecDepth 100000 in
theorem qs_X10_init_r2 : GoodIn lw_tbl wsX10_init_r2 := gi_c qw_1038 (gi_c qw_1039 (gi_c qw_1040 (gi_c qw_1041 (gi_c qw_1042 (gi_c qw_1043 (gi_c qw_1044 (gi_c qw_1053 (gi_c qw_1056 (gi_c qw_1057 (gi_c qw_1058 (gi_c qw_1059 gi_n)))))))))))
set_option maxRecDepth 100000 in
theorem qu_X10 : GoodIn lw_tbl wsX100 := goodIn_r _ [1060, 1062, 1064, 1066, 1068, 1070, 1072, 1074, 1076, 1078, 1080, 1082, 1084, 1086, 1088, 1090, 1092, 1094, 1096, 1098, 1100, 1102, 1104, 1106, 1108, 1110, 1112, 1114, 1116, 1118, 1120, 1122, 1124, 1126, 1128, 1130, 1132, 1134, 1136, 1138, 1140, 1142, 1144, 1146, 1148, 1150, 1152, 1154, 1156, 1158, 1160] (by decide +kernel) (by decide +kernel)
set_option maxRecDepth 100000 in
theorem qs_X10_init : GoodIn lw_tbl wsX10_init := gi_c qw_1007 (goodIn_app (goodIn_app (qs_X10_init_r1) (qs_X10_init_r2)) (qu_X10))
set_option maxRecDepth 100000 in
theorem qx_RX8_24 : GoodIn lw_tbl ((xN RX8 24).filter goodWord) := goodIn_r _ [87, 444, 453, 456, 459, 461, 445, 446, 105, 106, 447, 452, 457, 477, 434, 478, 436, 479, 438, 448, 450, 440, 473, 474, 476, 440, 464, 465, 466, 467, 467, 468, 469, 470, 470, 471, 472, 473, 463, 423, 431, 432, 433, 435, 437, 439, 443, 442, 441] (by decide +kernel) (by decide +kernel)
set_option maxRecDepth 100000 in
theorem qs_L_charge : GoodIn lw_tbl wsL_charge := gi_c qw_412 (goodIn_app (goodIn_app (goodIn_app (goodIn_app (gi_c qw_413 (gi_c qw_414 (gi_c qw_415 (gi_c qw_416 (gi_c qw_78 (gi_c qw_417 (gi_c qw_363 (gi_c qw_488 (gi_c qw_123 (gi_c qw_366 (gi_c qw_418 (gi_c qw_419 (gi_c qw_420 (gi_c qw_79 (gi_c qw_421 (gi_c qw_422 (gi_c qw_90 (gi_c qw_161 gi_n)))))))))))))))))) (qu_X9)) (qu_X7)) (qu_X8)) (qx_RX8_24))
set_option maxRecDepth 100000 in
theorem qs_L_feed_r1 : GoodIn lw_tbl wsL_feed_r1 := gi_c qw_413 (gi_c qw_492 (gi_c qw_493 (gi_c qw_494 (gi_c qw_495 (gi_c qw_78 (gi_c qw_496 (gi_c qw_363 (gi_c qw_135 (gi_c qw_418 (gi_c qw_419 (gi_c qw_420 (gi_c qw_79 (gi_c qw_421 (gi_c qw_422 (gi_c qw_90 (gi_c qw_161 (gi_c qw_497 (gi_c qw_498 (gi_c qw_499 (gi_c qw_500 (gi_c qw_91 (gi_c qw_516 (gi_c qw_517 gi_n)))))))))))))))))))))))
set_option maxRecDepth 100000 in
theorem qs_L_feed_r2 : GoodIn lw_tbl wsL_feed_r2 := gi_c qw_518 (gi_c qw_80 (gi_c qw_519 (gi_c qw_127 (gi_c qw_134 gi_n))))
set_option maxRecDepth 100000 in
theorem qx_RX9_256 : GoodIn lw_tbl ((xI RX9 256).filter goodWord) := goodIn_r _ [87, 444, 453, 456, 459, 461, 445, 446, 105, 106, 447, 452, 457, 477, 434, 478, 436, 479, 438, 448, 450, 440, 473, 474, 476, 440, 511, 512, 513, 467, 467, 468, 469, 470, 470, 471, 472, 473, 510, 501, 503, 455, 504, 505, 506, 507, 443, 442, 508] (by decide +kernel) (by decide +kernel)
set_option maxRecDepth 100000 in
theorem qs_L_feed : GoodIn lw_tbl wsL_feed := gi_c qw_491 (goodIn_app (goodIn_app (goodIn_app (goodIn_app (goodIn_app (goodIn_app (qs_L_feed_r1) (qs_L_feed_r2)) (qu_X9)) (qu_X7)) (qu_X8)) (qx_RX8_24)) (qx_RX9_256))
set_option maxRecDepth 100000 in
theorem qs_L_lime : GoodIn lw_tbl wsL_lime := gi_c qw_522 (goodIn_app (goodIn_app (goodIn_app (goodIn_app (gi_c qw_413 (gi_c qw_523 (gi_c qw_524 (gi_c qw_525 (gi_c qw_78 (gi_c qw_526 (gi_c qw_363 (gi_c qw_135 (gi_c qw_418 (gi_c qw_419 (gi_c qw_420 (gi_c qw_79 (gi_c qw_421 (gi_c qw_422 (gi_c qw_90 (gi_c qw_161 (gi_c qw_527 (gi_c qw_528 (gi_c qw_529 (gi_c qw_80 (gi_c qw_530 (gi_c qw_134 (gi_c qw_131 (gi_c qw_127 gi_n)))))))))))))))))))))))) (qu_X9)) (qu_X7)) (qu_X8)) (qx_RX8_24))
set_option maxRecDepth 100000 in
theorem qx_RX9_153 : GoodIn lw_tbl ((xN RX9 153).filter goodWord) := goodIn_r _ [87, 444, 453, 456, 459, 461, 445, 446, 105, 106, 447, 452, 457, 477, 434, 478, 436, 479, 438, 448, 450, 440, 473, 474, 476, 440, 464, 465, 466, 467, 467, 468, 469, 470, 470, 471, 472, 473, 569, 423, 431, 432, 433, 435, 437, 439, 443, 442, 441] (by decide +kernel) (by decide +kernel)
set_option maxRecDepth 100000 in
theorem qs_L_treat_r1 : GoodIn lw_tbl wsL_treat_r1 := gi_c qw_413 (gi_c qw_492 (gi_c qw_590 (gi_c qw_591 (gi_c qw_592 (gi_c qw_78 (gi_c qw_593 (gi_c qw_305 (gi_c qw_363 (gi_c qw_563 (gi_c qw_565 (gi_c qw_2 (gi_c qw_566 (gi_c qw_567 (gi_c qw_90 (gi_c qw_365 (gi_c qw_364 (gi_c qw_497 (gi_c qw_498 (gi_c qw_499 (gi_c qw_500 (gi_c qw_91 (gi_c qw_594 (gi_c qw_595 gi_n)))))))))))))))))))))))
set_option maxRecDepth 100000 in
theorem qs_L_treat_r2 : GoodIn lw_tbl wsL_treat_r2 := gi_c qw_596 (gi_c qw_79 (gi_c qw_597 (gi_c qw_165 (gi_c qw_598 (gi_c qw_599 (gi_c qw_600 (gi_c qw_85 (gi_c qw_601 (gi_c qw_295 (gi_c qw_300 (gi_c qw_602 (gi_c qw_603 (gi_c qw_604 (gi_c qw_605 (gi_c qw_606 (gi_c qw_607 (gi_c qw_608 (gi_c qw_609 (gi_c qw_610 (gi_c qw_611 (gi_c qw_612 (gi_c qw_613 (gi_c qw_304 gi_n)))))))))))))))))))))))
set_option maxRecDepth 100000 in
theorem qs_L_treat_r3 : GoodIn lw_tbl wsL_treat_r3 := gi_c qw_162 (gi_c qw_307 (gi_c qw_614 gi_n))
set_option maxRecDepth 100000 in
theorem qs_L_treat : GoodIn lw_tbl wsL_treat := gi_c qw_589 (goodIn_app (goodIn_app (goodIn_app (goodIn_app (goodIn_app (goodIn_app (qs_L_treat_r1) (goodIn_app (qs_L_treat_r2) (qs_L_treat_r3))) (qu_X0)) (qu_X9)) (qu_X8)) (qx_RX9_153)) (qx_RX9_256))
set_option maxRecDepth 100000 in
theorem qu_X3 : GoodIn lw_tbl wsX30 := goodIn_r _ [808] (by decide +kernel) (by decide +kernel)
set_option maxRecDepth 100000 in
theorem qu_X5 : GoodIn lw_tbl wsX50 := goodIn_r _ [756, 758, 760, 762, 764, 766, 768, 770] (by decide +kernel) (by decide +kernel)
set_option maxRecDepth 100000 in
theorem qs_L_plan_r1 : GoodIn lw_tbl wsL_plan_r1 := gi_c qw_413 (gi_c qw_492 (gi_c qw_909 (gi_c qw_910 (gi_c qw_911 (gi_c qw_78 (gi_c qw_912 (gi_c qw_305 (gi_c qw_373 (gi_c qw_563 (gi_c qw_565 (gi_c qw_2 (gi_c qw_566 (gi_c qw_567 (gi_c qw_90 (gi_c qw_365 (gi_c qw_364 (gi_c qw_497 (gi_c qw_498 (gi_c qw_499 (gi_c qw_500 (gi_c qw_91 (gi_c qw_913 (gi_c qw_914 gi_n)))))))))))))))))))))))
set_option maxRecDepth 100000 in
theorem qs_L_plan_r2 : GoodIn lw_tbl wsL_plan_r2 := gi_c qw_915 (gi_c qw_84 (gi_c qw_916 (gi_c qw_334 (gi_c qw_335 (gi_c qw_332 (gi_c qw_331 (gi_c qw_333 (gi_c qw_336 (gi_c qw_917 (gi_c qw_419 (gi_c qw_420 (gi_c qw_79 (gi_c qw_421 (gi_c qw_422 (gi_c qw_161 (gi_c qw_918 (gi_c qw_919 (gi_c qw_920 (gi_c qw_80 (gi_c qw_921 (gi_c qw_124 (gi_c qw_127 (gi_c qw_131 gi_n)))))))))))))))))))))))
set_option maxRecDepth 100000 in
theorem qs_L_plan_r3 : GoodIn lw_tbl wsL_plan_r3 := gi_c qw_134 (gi_c qw_922 (gi_c qw_923 (gi_c qw_924 (gi_c qw_85 (gi_c qw_925 (gi_c qw_292 (gi_c qw_295 (gi_c qw_300 (gi_c qw_926 (gi_c qw_928 (gi_c qw_34 (gi_c qw_929 (gi_c qw_297 (gi_c qw_930 (gi_c qw_879 (gi_c qw_880 (gi_c qw_881 (gi_c qw_931 (gi_c qw_933 (gi_c qw_35 (gi_c qw_934 (gi_c qw_125 (gi_c qw_128 gi_n)))))))))))))))))))))))
set_option maxRecDepth 100000 in
theorem qs_L_plan_r4 : GoodIn lw_tbl wsL_plan_r4 := gi_c qw_132 (gi_c qw_136 (gi_c qw_301 (gi_c qw_338 (gi_c qw_122 (gi_c qw_340 (gi_c qw_342 (gi_c qw_935 (gi_c qw_571 (gi_c qw_572 (gi_c qw_573 (gi_c qw_293 (gi_c qw_578 (gi_c qw_543 (gi_c qw_92 (gi_c qw_544 (gi_c qw_574 (gi_c qw_575 (gi_c qw_576 (gi_c qw_577 (gi_c qw_936 (gi_c qw_584 (gi_c qw_585 (gi_c qw_586 gi_n)))))))))))))))))))))))
set_option maxRecDepth 100000 in
theorem qs_L_plan_r5 : GoodIn lw_tbl wsL_plan_r5 := gi_c qw_296 (gi_c qw_937 (gi_c qw_599 (gi_c qw_600 (gi_c qw_601 gi_n))))
set_option maxRecDepth 100000 in
theorem qs_L_plan : GoodIn lw_tbl wsL_plan := gi_c qw_908 (goodIn_app (goodIn_app (goodIn_app (goodIn_app (goodIn_app (goodIn_app (goodIn_app (goodIn_app (goodIn_app (qs_L_plan_r1) (goodIn_app (qs_L_plan_r2) (goodIn_app (qs_L_plan_r3) (goodIn_app (qs_L_plan_r4) (qs_L_plan_r5))))) (qu_X0)) (qu_X9)) (qu_X1)) (qu_X8)) (qu_X7)) (qx_RX9_153)) (qx_RX9_256)) (qx_RX8_24))
set_option maxRecDepth 100000 in
theorem qs_L_planned : GoodIn lw_tbl wsL_planned := gi_c qw_940 (goodIn_app (goodIn_app (goodIn_app (gi_c qw_413 (gi_c qw_941 (gi_c qw_942 (gi_c qw_943 (gi_c qw_78 (gi_c qw_944 (gi_c qw_567 (gi_c qw_90 (gi_c qw_373 (gi_c qw_337 (gi_c qw_339 (gi_c qw_341 (gi_c qw_343 gi_n))))))))))))) (qu_X9)) (qu_X1)) (qx_RX9_153))
set_option maxRecDepth 100000 in
theorem qs_X9_cloth : GoodIn lw_tbl wsX9_cloth := gi_c qw_400 (goodIn_app (goodIn_app (gi_c qw_365 (gi_c qw_364 (gi_c qw_174 (gi_c qw_285 (gi_c qw_85 (gi_c qw_401 (gi_c qw_287 (gi_c qw_288 (gi_c qw_289 (gi_c qw_105 (gi_c qw_106 (gi_c qw_306 (gi_c qw_290 (gi_c qw_292 gi_n)))))))))))))) (qu_X9)) (qu_X0))
set_option maxRecDepth 100000 in
theorem qs_X10_cloth : GoodIn lw_tbl wsX10_cloth := gi_c qw_1208 (goodIn_app (gi_c qw_1009 (gi_c qw_1021 (gi_c qw_1022 gi_n))) (qu_X10))
set_option maxRecDepth 100000 in
theorem qs_X10_charge : GoodIn lw_tbl wsX10_charge := gi_c qw_1171 (goodIn_app (gi_c qw_1180 (gi_c qw_1013 (gi_c qw_1012 (gi_c qw_1172 (gi_c qw_1174 (gi_c qw_36 (gi_c qw_86 (gi_c qw_1175 (gi_c qw_1009 (gi_c qw_1176 (gi_c qw_1178 (gi_c qw_37 (gi_c qw_1179 gi_n))))))))))))) (qu_X10))
set_option maxRecDepth 100000 in
theorem qs_X10_feed : GoodIn lw_tbl wsX10_feed := gi_c qw_1184 (goodIn_app (gi_c qw_1016 (gi_c qw_1172 (gi_c qw_1174 (gi_c qw_36 (gi_c qw_86 (gi_c qw_1175 (gi_c qw_1009 (gi_c qw_1176 (gi_c qw_1178 (gi_c qw_37 (gi_c qw_1179 (gi_c qw_1185 (gi_c qw_1187 (gi_c qw_38 (gi_c qw_1188 (gi_c qw_1014 gi_n)))))))))))))))) (qu_X10))
set_option maxRecDepth 100000 in
theorem qs_X10_lime : GoodIn lw_tbl wsX10_lime := gi_c qw_1192 (goodIn_app (gi_c qw_1016 (gi_c qw_1172 (gi_c qw_1174 (gi_c qw_36 (gi_c qw_86 (gi_c qw_1175 (gi_c qw_1009 (gi_c qw_1176 (gi_c qw_1178 (gi_c qw_37 (gi_c qw_1179 (gi_c qw_1193 (gi_c qw_1195 (gi_c qw_39 (gi_c qw_1196 (gi_c qw_1015 (gi_c qw_1014 gi_n))))))))))))))))) (qu_X10))
set_option maxRecDepth 100000 in
theorem qs_X10_treat_r1 : GoodIn lw_tbl wsX10_treat_r1 := gi_c qw_1025 (gi_c qw_1010 (gi_c qw_1213 (gi_c qw_1215 (gi_c qw_41 (gi_c qw_86 (gi_c qw_1216 (gi_c qw_1009 (gi_c qw_1021 (gi_c qw_1176 (gi_c qw_1178 (gi_c qw_37 (gi_c qw_1179 (gi_c qw_1217 (gi_c qw_1219 (gi_c qw_42 (gi_c qw_1220 (gi_c qw_1233 (gi_c qw_1235 (gi_c qw_45 (gi_c qw_1236 (gi_c qw_1023 (gi_c qw_1024 (gi_c qw_1011 gi_n)))))))))))))))))))))))
set_option maxRecDepth 100000 in
theorem qs_X10_treat_r2 : GoodIn lw_tbl wsX10_treat_r2 := gi_c qw_1237 (gi_c qw_1239 (gi_c qw_46 (gi_c qw_1240 gi_n)))
set_option maxRecDepth 100000 in
theorem qs_X10_treat : GoodIn lw_tbl wsX10_treat := gi_c qw_1232 (goodIn_app (goodIn_app (qs_X10_treat_r1) (qs_X10_treat_r2)) (qu_X10))
set_option maxRecDepth 100000 in
theorem qs_X10_plan_r1 : GoodIn lw_tbl wsX10_plan_r1 := gi_c qw_1055 (gi_c qw_1213 (gi_c qw_1215 (gi_c qw_41 (gi_c qw_86 (gi_c qw_1216 (gi_c qw_1009 (gi_c qw_1021 (gi_c qw_1176 (gi_c qw_1178 (gi_c qw_37 (gi_c qw_1179 (gi_c qw_1217 (gi_c qw_1219 (gi_c qw_42 (gi_c qw_1220 (gi_c qw_1025 (gi_c qw_1391 (gi_c qw_1393 (gi_c qw_71 (gi_c qw_1394 (gi_c qw_1023 (gi_c qw_1016 (gi_c qw_1056 gi_n)))))))))))))))))))))))
set_option maxRecDepth 100000 in
theorem qs_X10_plan_r2 : GoodIn lw_tbl wsX10_plan_r2 := gi_c qw_1057 (gi_c qw_1058 (gi_c qw_1375 (gi_c qw_1377 (gi_c qw_69 (gi_c qw_1378 (gi_c qw_1024 (gi_c qw_1022 (gi_c qw_1395 (gi_c qw_1397 (gi_c qw_72 (gi_c qw_1398 (gi_c qw_1059 (gi_c qw_1013 (gi_c qw_1014 (gi_c qw_1015 (gi_c qw_1225 (gi_c qw_1227 (gi_c qw_44 (gi_c qw_1228 (gi_c qw_1399 (gi_c qw_1401 (gi_c qw_73 (gi_c qw_1402 gi_n)))))))))))))))))))))))
set_option maxRecDepth 100000 in
theorem qs_X10_plan_r3 : GoodIn lw_tbl wsX10_plan_r3 := gi_c qw_1403 (gi_c qw_1405 (gi_c qw_74 (gi_c qw_1406 gi_n)))
set_option maxRecDepth 100000 in
theorem qs_X10_plan : GoodIn lw_tbl wsX10_plan := gi_c qw_1390 (goodIn_app (goodIn_app (qs_X10_plan_r1) (goodIn_app (qs_X10_plan_r2) (qs_X10_plan_r3))) (qu_X10))
set_option maxRecDepth 100000 in
theorem qs_X10_planned : GoodIn lw_tbl wsX10_planned := gi_c qw_1410 (goodIn_app (gi_c qw_1009 (gi_c qw_1055 (gi_c qw_1056 (gi_c qw_1057 (gi_c qw_1058 (gi_c qw_1176 (gi_c qw_1178 (gi_c qw_37 (gi_c qw_86 (gi_c qw_1179 gi_n)))))))))) (qu_X10))
set_option maxRecDepth 100000 in
theorem qs_X10_thrown : GoodIn lw_tbl wsX10_thrown := gi_c qw_1167 (goodIn_app (gi_c qw_1009 gi_n) (qu_X10))
set_option maxRecDepth 100000 in
theorem gL_law_X9_init : GoodIn lw_tbl (wsX9_init) := qs_X9_init
set_option maxRecDepth 100000 in
theorem gL_law_X10_init : GoodIn lw_tbl (wsX10_init) := qs_X10_init
set_option maxRecDepth 100000 in
theorem gL_law_L_charge : GoodIn lw_tbl (va_wsS RL 72 yL_charge wsL_charge) := goodIn_app (gi_c qw_410 (gi_c qw_411 (gi_c qw_77 gi_n))) qs_L_charge
set_option maxRecDepth 100000 in
theorem gL_law_L_feed : GoodIn lw_tbl (va_wsS RL 82 yL_feed wsL_feed) := goodIn_app (gi_c qw_489 (gi_c qw_490 (gi_c qw_77 gi_n))) qs_L_feed
set_option maxRecDepth 100000 in
theorem gL_law_L_lime : GoodIn lw_tbl (va_wsS RL 85 yL_lime wsL_lime) := goodIn_app (gi_c qw_520 (gi_c qw_521 (gi_c qw_77 gi_n))) qs_L_lime
set_option maxRecDepth 100000 in
theorem gL_law_L_treat : GoodIn lw_tbl (va_wsS RL 100 yL_treat wsL_treat) := goodIn_app (gi_c qw_587 (gi_c qw_588 (gi_c qw_77 gi_n))) qs_L_treat
set_option maxRecDepth 100000 in
theorem gL_law_L_plan : GoodIn lw_tbl (va_wsS RL 120 yL_plan wsL_plan) := goodIn_app (gi_c qw_906 (gi_c qw_907 (gi_c qw_77 gi_n))) qs_L_plan
set_option maxRecDepth 100000 in
theorem gL_law_L_planned : GoodIn lw_tbl (va_wsS RL 124 yL_planned wsL_planned) := goodIn_app (gi_c qw_938 (gi_c qw_939 (gi_c qw_77 gi_n))) qs_L_planned
set_option maxRecDepth 100000 in
theorem gL_law_X9_cloth : GoodIn lw_tbl (wsV RL 92 RX9 yX9_cloth wsX9_cloth) := goodIn_app (gi_c qw_397 (gi_c qw_398 (gi_c qw_399 (gi_c qw_78 gi_n)))) qs_X9_cloth
set_option maxRecDepth 100000 in
theorem gL_law_X10_cloth : GoodIn lw_tbl (wsV RL 95 RX10 yX10_cloth wsX10_cloth) := goodIn_app (gi_c qw_1205 (gi_c qw_1206 (gi_c qw_1207 (gi_c qw_86 gi_n)))) qs_X10_cloth
set_option maxRecDepth 100000 in
theorem gL_law_X10_charge : GoodIn lw_tbl (wsV RL 77 RX10 yX10_charge wsX10_charge) := goodIn_app (gi_c qw_1168 (gi_c qw_1169 (gi_c qw_1170 (gi_c qw_86 gi_n)))) qs_X10_charge
set_option maxRecDepth 100000 in
theorem gL_law_X10_feed : GoodIn lw_tbl (wsV RL 84 RX10 yX10_feed wsX10_feed) := goodIn_app (gi_c qw_1181 (gi_c qw_1182 (gi_c qw_1183 (gi_c qw_86 gi_n)))) qs_X10_feed
set_option maxRecDepth 100000 in
theorem gL_law_X10_lime : GoodIn lw_tbl (wsV RL 88 RX10 yX10_lime wsX10_lime) := goodIn_app (gi_c qw_1189 (gi_c qw_1190 (gi_c qw_1191 (gi_c qw_86 gi_n)))) qs_X10_lime
set_option maxRecDepth 100000 in
theorem gL_law_X10_treat : GoodIn lw_tbl (wsV RL 102 RX10 yX10_treat wsX10_treat) := goodIn_app (gi_c qw_1229 (gi_c qw_1230 (gi_c qw_1231 (gi_c qw_86 gi_n)))) qs_X10_treat
set_option maxRecDepth 100000 in
theorem gL_law_X10_plan : GoodIn lw_tbl (wsV RL 123 RX10 yX10_plan wsX10_plan) := goodIn_app (gi_c qw_1387 (gi_c qw_1388 (gi_c qw_1389 (gi_c qw_86 gi_n)))) qs_X10_plan
set_option maxRecDepth 100000 in
theorem gL_law_X10_planned : GoodIn lw_tbl (wsV RL 126 RX10 yX10_planned wsX10_planned) := goodIn_app (gi_c qw_1407 (gi_c qw_1408 (gi_c qw_1409 (gi_c qw_86 gi_n)))) qs_X10_planned
set_option maxRecDepth 100000 in
theorem gL_law_X10_thrown : GoodIn lw_tbl (wsV RL 78 RX10 yX10_thrown wsX10_thrown) := goodIn_app (gi_c qw_1164 (gi_c qw_1165 (gi_c qw_1166 (gi_c qw_86 gi_n)))) qs_X10_thrown
set_option maxRecDepth 100000 in
theorem iL_X0 : ∀ w ∈ wsX00, w ∈ lw_tbl := fun w h => (qu_X0 w h).1
set_option maxRecDepth 100000 in
theorem iL_X1 : ∀ w ∈ wsX10, w ∈ lw_tbl := fun w h => (qu_X1 w h).1
set_option maxRecDepth 100000 in
theorem iL_X2 : ∀ w ∈ wsX20, w ∈ lw_tbl := fun w h => (qu_X2 w h).1
set_option maxRecDepth 100000 in
theorem iL_X3 : ∀ w ∈ wsX30, w ∈ lw_tbl := fun w h => (qu_X3 w h).1
set_option maxRecDepth 100000 in
theorem iL_X4 : ∀ w ∈ wsX40, w ∈ lw_tbl := fun w h => (qu_X4 w h).1
set_option maxRecDepth 100000 in
theorem iL_X5 : ∀ w ∈ wsX50, w ∈ lw_tbl := fun w h => (qu_X5 w h).1
set_option maxRecDepth 100000 in
theorem iL_X6 : ∀ w ∈ wsX60, w ∈ lw_tbl := fun w h => (qu_X6 w h).1
set_option maxRecDepth 100000 in
theorem iL_X7 : ∀ w ∈ wsX70, w ∈ lw_tbl := fun w h => (qu_X7 w h).1
set_option maxRecDepth 100000 in
theorem iL_X8 : ∀ w ∈ wsX80, w ∈ lw_tbl := fun w h => (qu_X8 w h).1
set_option maxRecDepth 100000 in
theorem iL_X9 : ∀ w ∈ wsX90, w ∈ lw_tbl := fun w h => (qu_X9 w h).1
set_option maxRecDepth 100000 in
theorem iL_X10 : ∀ w ∈ wsX100, w ∈ lw_tbl := fun w h => (qu_X10 w h).1
