set_option maxRecDepth 100000 in
theorem qs_X9_init_r1 : GoodIn lw_tbl wsX9_init_r1 := gi_c qw_104 (gi_c qw_105 (gi_c qw_106 (gi_c qw_107 (gi_c qw_108 (gi_c qw_79 (gi_c qw_363 (gi_c qw_174 (gi_c qw_364 (gi_c qw_214 (gi_c qw_367 (gi_c qw_176 (gi_c qw_177 (gi_c qw_81 (gi_c qw_369 (gi_c qw_238 (gi_c qw_370 (gi_c qw_240 (gi_c qw_241 (gi_c qw_83 (gi_c qw_372 (gi_c qw_277 (gi_c qw_278 (gi_c qw_84 gi_n)))))))))))))))))))))))
set_option maxRecDepth 100000 in
theorem qs_X9_init_r2 : GoodIn lw_tbl wsX9_init_r2 := gi_c qw_373 (gi_c qw_109 (gi_c qw_110 (gi_c qw_111 (gi_c qw_112 (gi_c qw_113 (gi_c qw_161 (gi_c qw_115 (gi_c qw_80 (gi_c qw_116 (gi_c qw_117 (gi_c qw_118 (gi_c qw_119 (gi_c qw_134 (gi_c qw_142 (gi_c qw_120 (gi_c qw_178 (gi_c qw_179 (gi_c qw_180 (gi_c qw_181 (gi_c qw_221 (gi_c qw_182 (gi_c qw_183 (gi_c qw_82 gi_n)))))))))))))))))))))))
set_option maxRecDepth 100000 in
theorem qs_X9_init_r3 : GoodIn lw_tbl wsX9_init_r3 := gi_c qw_216 (gi_c qw_184 (gi_c qw_185 (gi_c qw_186 (gi_c qw_187 (gi_c qw_215 (gi_c qw_193 (gi_c qw_195 (gi_c qw_197 (gi_c qw_188 (gi_c qw_242 (gi_c qw_243 (gi_c qw_244 (gi_c qw_245 (gi_c qw_248 (gi_c qw_246 (gi_c qw_279 (gi_c qw_280 (gi_c qw_281 (gi_c qw_282 (gi_c qw_283 (gi_c qw_332 (gi_c qw_284 (gi_c qw_285 gi_n)))))))))))))))))))))))
set_option maxRecDepth 100000 in
theorem qs_X9_init_r4 : GoodIn lw_tbl wsX9_init_r4 := gi_c qw_85 (gi_c qw_333 (gi_c qw_338 (gi_c qw_340 (gi_c qw_342 (gi_c qw_331 (gi_c qw_286 (gi_c qw_287 (gi_c qw_288 (gi_c qw_289 (gi_c qw_306 (gi_c qw_290 (gi_c qw_292 (gi_c qw_330 gi_n)))))))))))))
set_option maxRecDepth 100000 in
theorem qu_X8 : GoodIn lw_tbl wsX80 := goodIn_r _ [167, 169, 171] (by decide +kernel) (by decide +kernel)
set_option maxRecDepth 100000 in
theorem qu_X9 : GoodIn lw_tbl wsX90 := goodIn_r _ [374, 376, 378, 380, 382, 384, 386, 388, 390, 392, 394] (by decide +kernel) (by decide +kernel)
set_option maxRecDepth 100000 in
theorem qu_X2 : GoodIn lw_tbl wsX20 := goodIn_r _ [225, 227, 229, 231, 233, 235] (by decide +kernel) (by decide +kernel)
set_option maxRecDepth 100000 in
theorem qu_X4 : GoodIn lw_tbl wsX40 := goodIn_r _ [260, 262, 264, 266, 268, 270, 272, 274] (by decide +kernel) (by decide +kernel)
set_option maxRecDepth 100000 in
theorem qu_X1 : GoodIn lw_tbl wsX10 := goodIn_r _ [344, 346, 348, 350, 352, 354, 356, 358, 360] (by decide +kernel) (by decide +kernel)
set_option maxRecDepth 100000 in
theorem qu_X7 : GoodIn lw_tbl wsX70 := goodIn_r _ [144, 146, 148, 150, 152, 154, 156, 158] (by decide +kernel) (by decide +kernel)
set_option maxRecDepth 100000 in
theorem qu_X6 : GoodIn lw_tbl wsX60 := goodIn_r _ [199, 201, 203, 205, 207, 209, 211] (by decide +kernel) (by decide +kernel)
set_option maxRecDepth 100000 in
theorem qu_X0 : GoodIn lw_tbl wsX00 := goodIn_r _ [313, 315, 317, 319, 321, 323, 325, 327] (by decide +kernel) (by decide +kernel)
set_option maxRecDepth 100000 in
theorem qs_X9_init : GoodIn lw_tbl wsX9_init := gi_c qw_103 (goodIn_app (goodIn_app (goodIn_app (goodIn_app (goodIn_app (goodIn_app (goodIn_app (goodIn_app (goodIn_app (qs_X9_init_r1) (goodIn_app (qs_X9_init_r2) (goodIn_app (qs_X9_init_r3) (qs_X9_init_r4)))) (qu_X8)) (qu_X9)) (qu_X2)) (qu_X4)) (qu_X1)) (qu_X7)) (qu_X6)) (qu_X0))
set_option maxRecDepth 100000 in
theorem qs_X10_init_r1 : GoodIn lw_tbl wsX10_init_r1 := gi_c qw_1008 (gi_c qw_105 (gi_c qw_106 (gi_c qw_215 (gi_c qw_1013 (gi_c qw_1014 (gi_c qw_1015 (gi_c qw_1016 (gi_c qw_1017 (gi_c qw_1018 (gi_c qw_1163 (gi_c qw_1019 (gi_c qw_1020 (gi_c qw_1022 (gi_c qw_1023 (gi_c qw_1024 (gi_c qw_1025 (gi_c qw_1026 (gi_c qw_1027 (gi_c qw_1028 (gi_c qw_1033 (gi_c qw_1035 (gi_c qw_1036 (gi_c qw_1037 gi_n)))))))))))))))))))))))
set_option maxRecDepth 100000 in
theorem qs_X10_init_r2 : GoodIn lw_tbl wsX10_init_r2 := gi_c qw_1038 (gi_c qw_1039 (gi_c qw_1040 (gi_c qw_1041 (gi_c qw_1042 (gi_c qw_1043 (gi_c qw_1044 (gi_c qw_1053 (gi_c qw_1056 (gi_c qw_1057 (gi_c qw_1058 (gi_c qw_1059 gi_n)))))))))))
set_option maxRecDepth 100000 in
theorem qu_X10 : GoodIn lw_tbl wsX100 := goodIn_r _ [1060, 1062, 1064, 1066, 1068, 1070, 1072, 1074, 1076, 1078, 1080, 1082, 1084, 1086, 1088, 1090, 1092, 1094, 1096, 1098, 1100, 1102, 1104, 1106, 1108, 1110, 1112, 1114, 1116, 1118, 1120, 1122, 1124, 1126, 1128, 1130, 1132, 1134, 1136, 1138, 1140, 1142, 1144, 1146, 1148, 1150, 1152, 1154, 1156, 1158, 1160] (by decide +kernel) (by decide +kernel)
set_option maxRecDepth 100000 in
theorem qs_X10_init : GoodIn lw_tbl wsX10_init := gi_c qw_1007 (goodIn_app (goodIn_app (qs_X10_init_r1) (qs_X10_init_r2)) (qu_X10))
set_option maxRecDepth 100000 in
theorem qx_RX8_24 : GoodIn lw_tbl ((xN RX8 24).filter goodWord) := goodIn_r _ [87, 444, 453, 456, 459, 461, 445, 446, 105, 106, 447, 452, 457, 477, 434, 478, 436, 479, 438, 448, 450, 440, 473, 474, 476, 440, 464, 465, 466, 467, 467, 468, 469, 470, 470, 471, 472, 473, 463, 423, 431, 432, 433, 435, 437, 439, 443, 442, 441] (by decide +kernel) (by decide +kernel)
set_option maxRecDepth 100000 in
theorem qs_L_charge : GoodIn lw_tbl wsL_charge := gi_c qw_412 (goodIn_app (goodIn_app (goodIn_app (goodIn_app (gi_c qw_413 (gi_c qw_414 (gi_c qw_415 (gi_c qw_416 (gi_c qw_78 (gi_c qw_417 (gi_c qw_363 (gi_c qw_488 (gi_c qw_123 (gi_c qw_366 (gi_c qw_418 (gi_c qw_419 (gi_c qw_420 (gi_c qw_79 (gi_c qw_421 (gi_c qw_422 (gi_c qw_90 (gi_c qw_161 gi_n)))))))))))))))))) (qu_X9)) (qu_X7)) (qu_X8)) (qx_RX8_24))
set_option maxRecDepth 100000 in
theorem qs_L_feed_r1 : GoodIn lw_tbl wsL_feed_r1 := gi_c qw_413 (gi_c qw_492 (gi_c qw_493 (gi_c qw_494 (gi_c qw_495 (gi_c qw_78 (gi_c qw_496 (gi_c qw_363 (gi_c qw_135 (gi_c qw_418 (gi_c qw_419 (gi_c qw_420 (gi_c qw_79 (gi_c qw_421 (gi_c qw_422 (gi_c qw_90 (gi_c qw_161 (gi_c qw_497 (gi_c qw_498 (gi_c qw_499 (gi_c qw_500 (gi_c qw_91 (gi_c qw_516 (gi_c qw_517 gi_n)))))))))))))))))))))))
set_option maxRecDepth 100000 in
theorem qs_L_feed_r2 : GoodIn lw_tbl wsL_feed_r2 := gi_c qw_518 (gi_c qw_80 (gi_c qw_519 (gi_c qw_127 (gi_c qw_134 gi_n))))
set_option maxRecDepth 100000 in
theorem qx_RX9_256 : GoodIn lw_tbl ((xI RX9 256).filter goodWord) := goodIn_r _ [87, 444, 453, 456, 459, 461, 445, 446, 105, 106, 447, 452, 457, 477, 434, 478, 436, 479, 438, 448, 450, 440, 473, 474, 476, 440, 511, 512, 513, 467, 467, 468, 469, 470, 470, 471, 472, 473, 510, 501, 503, 455, 504, 505, 506, 507, 443, 442, 508] (by decide +kernel) (by decide +kernel)
set_option maxRecDepth 100000 in
theorem qs_L_feed : GoodIn lw_tbl wsL_feed := gi_c qw_491 (goodIn_app (goodIn_app (goodIn_app (goodIn_app (goodIn_app (goodIn_app (qs_L_feed_r1) (qs_L_feed_r2)) (qu_X9)) (qu_X7)) (qu_X8)) (qx_RX8_24)) (qx_RX9_256))
set_option maxRecDepth 100000 in
theorem qs_L_lime : GoodIn lw_tbl wsL_lime := gi_c qw_522 (goodIn_app (goodIn_app (goodIn_app (goodIn_app (gi_c qw_413 (gi_c qw_523 (gi_c qw_524 (gi_c qw_525 (gi_c qw_78 (gi_c qw_526 (gi_c qw_363 (gi_c qw_135 (gi_c qw_418 (gi_c qw_419 (gi_c qw_420 (gi_c qw_79 (gi_c qw_421 (gi_c qw_422 (gi_c qw_90 (gi_c qw_161 (gi_c qw_527 (gi_c qw_528 (gi_c qw_529 (gi_c qw_80 (gi_c qw_530 (gi_c qw_134 (gi_c qw_131 (gi_c qw_127 gi_n)))))))))))))))))))))))) (qu_X9)) (qu_X7)) (qu_X8)) (qx_RX8_24))
set_option maxRecDepth 100000 in
theorem qs_L_hours_r1 : GoodIn lw_tbl wsL_hours_r1 := gi_c qw_492 (gi_c qw_534 (gi_c qw_535 (gi_c qw_536 (gi_c qw_78 (gi_c qw_537 (gi_c qw_363 (gi_c qw_163 (gi_c qw_497 (gi_c qw_498 (gi_c qw_499 (gi_c qw_500 (gi_c qw_91 (gi_c qw_538 (gi_c qw_539 (gi_c qw_540 (gi_c qw_79 (gi_c qw_541 (gi_c qw_542 (gi_c qw_543 (gi_c qw_92 (gi_c qw_544 (gi_c qw_162 (gi_c qw_545 gi_n)))))))))))))))))))))))
set_option maxRecDepth 100000 in
theorem qs_L_hours_r2 : GoodIn lw_tbl wsL_hours_r2 := gi_c qw_546 (gi_c qw_547 (gi_c qw_548 (gi_c qw_161 (gi_c qw_549 (gi_c qw_550 (gi_c qw_551 (gi_c qw_80 (gi_c qw_552 (gi_c qw_127 (gi_c qw_553 (gi_c qw_554 (gi_c qw_555 (gi_c qw_134 (gi_c qw_142 (gi_c qw_131 gi_n)))))))))))))))
set_option maxRecDepth 100000 in
theorem qs_L_hours : GoodIn lw_tbl wsL_hours := gi_c qw_533 (goodIn_app (goodIn_app (goodIn_app (goodIn_app (goodIn_app (qs_L_hours_r1) (qs_L_hours_r2)) (qu_X9)) (qu_X8)) (qu_X7)) (qx_RX9_256))
set_option maxRecDepth 100000 in
theorem qs_L_dip_r1 : GoodIn lw_tbl wsL_dip_r1 := gi_c qw_413 (gi_c qw_492 (gi_c qw_559 (gi_c qw_560 (gi_c qw_561 (gi_c qw_78 (gi_c qw_562 (gi_c qw_363 (gi_c qw_135 (gi_c qw_305 (gi_c qw_563 (gi_c qw_565 (gi_c qw_2 (gi_c qw_566 (gi_c qw_567 (gi_c qw_90 (gi_c qw_365 (gi_c qw_364 (gi_c qw_418 (gi_c qw_419 (gi_c qw_420 (gi_c qw_79 (gi_c qw_421 (gi_c qw_422 gi_n)))))))))))))))))))))))
set_option maxRecDepth 100000 in
theorem qs_L_dip_r2 : GoodIn lw_tbl wsL_dip_r2 := gi_c qw_161 (gi_c qw_497 (gi_c qw_498 (gi_c qw_499 (gi_c qw_500 (gi_c qw_91 (gi_c qw_570 (gi_c qw_571 (gi_c qw_572 (gi_c qw_80 (gi_c qw_573 (gi_c qw_293 (gi_c qw_134 (gi_c qw_124 (gi_c qw_578 (gi_c qw_543 (gi_c qw_92 (gi_c qw_544 (gi_c qw_574 (gi_c qw_575 (gi_c qw_576 (gi_c qw_85 (gi_c qw_577 (gi_c qw_292 gi_n)))))))))))))))))))))))
set_option maxRecDepth 100000 in
theorem qs_L_dip_r3 : GoodIn lw_tbl wsL_dip_r3 := gi_c qw_295 (gi_c qw_300 (gi_c qw_579 (gi_c qw_580 (gi_c qw_581 (gi_c qw_582 (gi_c qw_162 (gi_c qw_143 (gi_c qw_138 (gi_c qw_140 (gi_c qw_291 (gi_c qw_311 (gi_c qw_309 (gi_c qw_121 (gi_c qw_583 (gi_c qw_584 (gi_c qw_585 (gi_c qw_586 (gi_c qw_296 (gi_c qw_131 (gi_c qw_127 gi_n))))))))))))))))))))
set_option maxRecDepth 100000 in
theorem qx_RX9_153 : GoodIn lw_tbl ((xN RX9 153).filter goodWord) := goodIn_r _ [87, 444, 453, 456, 459, 461, 445, 446, 105, 106, 447, 452, 457, 477, 434, 478, 436, 479, 438, 448, 450, 440, 473, 474, 476, 440, 464, 465, 466, 467, 467, 468, 469, 470, 470, 471, 472, 473, 569, 423, 431, 432, 433, 435, 437, 439, 443, 442, 441] (by decide +kernel) (by decide +kernel)
set_option maxRecDepth 100000 in
theorem qs_L_dip : GoodIn lw_tbl wsL_dip := gi_c qw_558 (goodIn_app (goodIn_app (goodIn_app (goodIn_app (goodIn_app (goodIn_app (goodIn_app (goodIn_app (qs_L_dip_r1) (goodIn_app (qs_L_dip_r2) (qs_L_dip_r3))) (qu_X9)) (qu_X7)) (qu_X0)) (qu_X8)) (qx_RX9_153)) (qx_RX8_24)) (qx_RX9_256))
set_option maxRecDepth 100000 in
theorem qs_L_treat_r1 : GoodIn lw_tbl wsL_treat_r1 := gi_c qw_413 (gi_c qw_492 (gi_c qw_590 (gi_c qw_591 (gi_c qw_592 (gi_c qw_78 (gi_c qw_593 (gi_c qw_305 (gi_c qw_363 (gi_c qw_563 (gi_c qw_565 (gi_c qw_2 (gi_c qw_566 (gi_c qw_567 (gi_c qw_90 (gi_c qw_365 (gi_c qw_364 (gi_c qw_497 (gi_c qw_498 (gi_c qw_499 (gi_c qw_500 (gi_c qw_91 (gi_c qw_594 (gi_c qw_595 gi_n)))))))))))))))))))))))
set_option maxRecDepth 100000 in
theorem qs_L_treat_r2 : GoodIn lw_tbl wsL_treat_r2 := gi_c qw_596 (gi_c qw_79 (gi_c qw_597 (gi_c qw_165 (gi_c qw_598 (gi_c qw_599 (gi_c qw_600 (gi_c qw_85 (gi_c qw_601 (gi_c qw_295 (gi_c qw_300 (gi_c qw_602 (gi_c qw_603 (gi_c qw_604 (gi_c qw_605 (gi_c qw_606 (gi_c qw_607 (gi_c qw_608 (gi_c qw_609 (gi_c qw_610 (gi_c qw_611 (gi_c qw_612 (gi_c qw_613 (gi_c qw_304 gi_n)))))))))))))))))))))))
set_option maxRecDepth 100000 in
theorem qs_L_treat_r3 : GoodIn lw_tbl wsL_treat_r3 := gi_c qw_162 (gi_c qw_307 (gi_c qw_614 gi_n))
set_option maxRecDepth 100000 in
theorem qs_L_treat : GoodIn lw_tbl wsL_treat := gi_c qw_589 (goodIn_app (goodIn_app (goodIn_app (goodIn_app (goodIn_app (goodIn_app (qs_L_treat_r1) (goodIn_app (qs_L_treat_r2) (qs_L_treat_r3))) (qu_X0)) (qu_X9)) (qu_X8)) (qx_RX9_153)) (qx_RX9_256))
set_option maxRecDepth 100000 in
theorem qs_L_recipe_r1 : GoodIn lw_tbl wsL_recipe_r1 := gi_c qw_492 (gi_c qw_618 (gi_c qw_619 (gi_c qw_620 (gi_c qw_78 (gi_c qw_621 (gi_c qw_370 (gi_c qw_368 (gi_c qw_369 (gi_c qw_220 (gi_c qw_238 (gi_c qw_801 (gi_c qw_98 (gi_c qw_224 (gi_c qw_371 (gi_c qw_497 (gi_c qw_498 (gi_c qw_499 (gi_c qw_500 (gi_c qw_91 (gi_c qw_622 (gi_c qw_623 (gi_c qw_624 (gi_c qw_81 gi_n)))))))))))))))))))))))
set_option maxRecDepth 100000 in
theorem qs_L_recipe_r2 : GoodIn lw_tbl wsL_recipe_r2 := gi_c qw_625 (gi_c qw_216 (gi_c qw_219 (gi_c qw_221 (gi_c qw_223 (gi_c qw_626 (gi_c qw_627 (gi_c qw_628 (gi_c qw_82 (gi_c qw_629 (gi_c qw_188 (gi_c qw_630 (gi_c qw_543 (gi_c qw_92 (gi_c qw_544 (gi_c qw_631 (gi_c qw_554 (gi_c qw_555 (gi_c qw_189 (gi_c qw_190 (gi_c qw_191 (gi_c qw_632 (gi_c qw_634 (gi_c qw_3 gi_n)))))))))))))))))))))))
set_option maxRecDepth 100000 in
theorem qs_L_recipe_r3 : GoodIn lw_tbl wsL_recipe_r3 := gi_c qw_635 (gi_c qw_636 (gi_c qw_637 (gi_c qw_638 (gi_c qw_639 (gi_c qw_641 (gi_c qw_4 (gi_c qw_642 (gi_c qw_643 (gi_c qw_644 (gi_c qw_645 (gi_c qw_646 (gi_c qw_648 (gi_c qw_5 (gi_c qw_649 (gi_c qw_650 (gi_c qw_652 (gi_c qw_6 (gi_c qw_653 (gi_c qw_655 (gi_c qw_656 (gi_c qw_657 (gi_c qw_93 (gi_c qw_658 gi_n)))))))))))))))))))))))
set_option maxRecDepth 100000 in
theorem qs_L_recipe_r4 : GoodIn lw_tbl wsL_recipe_r4 := gi_c qw_1456 (gi_c qw_659 (gi_c qw_660 (gi_c qw_661 (gi_c qw_662 (gi_c qw_663 (gi_c qw_1457 (gi_c qw_665 (gi_c qw_666 (gi_c qw_667 (gi_c qw_668 (gi_c qw_669 (gi_c qw_670 (gi_c qw_671 (gi_c qw_672 (gi_c qw_673 (gi_c qw_674 (gi_c qw_94 (gi_c qw_675 (gi_c qw_676 (gi_c qw_677 (gi_c qw_678 (gi_c qw_679 (gi_c qw_681 gi_n)))))))))))))))))))))))
set_option maxRecDepth 100000 in
theorem qs_L_recipe_r5 : GoodIn lw_tbl wsL_recipe_r5 := gi_c qw_682 (gi_c qw_95 (gi_c qw_683 (gi_c qw_684 (gi_c qw_685 (gi_c qw_96 (gi_c qw_686 (gi_c qw_687 (gi_c qw_688 (gi_c qw_689 (gi_c qw_690 (gi_c qw_691 (gi_c qw_692 (gi_c qw_693 (gi_c qw_694 (gi_c qw_695 (gi_c qw_696 (gi_c qw_697 (gi_c qw_699 (gi_c qw_701 (gi_c qw_703 (gi_c qw_705 (gi_c qw_7 (gi_c qw_706 gi_n)))))))))))))))))))))))
set_option maxRecDepth 100000 in
theorem qs_L_recipe_r6 : GoodIn lw_tbl wsL_recipe_r6 := gi_c qw_707 (gi_c qw_709 (gi_c qw_8 (gi_c qw_710 (gi_c qw_193 (gi_c qw_195 (gi_c qw_197 (gi_c qw_711 (gi_c qw_712 (gi_c qw_713 (gi_c qw_714 (gi_c qw_716 (gi_c qw_9 (gi_c qw_717 (gi_c qw_718 (gi_c qw_719 (gi_c qw_720 (gi_c qw_721 (gi_c qw_723 (gi_c qw_10 (gi_c qw_724 (gi_c qw_217 (gi_c qw_192 (gi_c qw_194 gi_n)))))))))))))))))))))))
set_option maxRecDepth 100000 in
theorem qs_L_recipe_r7 : GoodIn lw_tbl wsL_recipe_r7 := gi_c qw_218 (gi_c qw_725 (gi_c qw_727 (gi_c qw_11 (gi_c qw_728 (gi_c qw_754 (gi_c qw_729 (gi_c qw_731 (gi_c qw_12 (gi_c qw_796 (gi_c qw_773 (gi_c qw_775 (gi_c qw_13 (gi_c qw_776 (gi_c qw_196 (gi_c qw_777 (gi_c qw_779 (gi_c qw_14 (gi_c qw_780 (gi_c qw_792 (gi_c qw_741 (gi_c qw_745 (gi_c qw_750 (gi_c qw_753 gi_n)))))))))))))))))))))))
set_option maxRecDepth 100000 in
theorem qs_L_recipe_r8 : GoodIn lw_tbl wsL_recipe_r8 := gi_c qw_785 (gi_c qw_787 (gi_c qw_16 (gi_c qw_788 (gi_c qw_198 (gi_c qw_793 (gi_c qw_795 (gi_c qw_18 (gi_c qw_797 (gi_c qw_799 (gi_c qw_19 (gi_c qw_800 (gi_c qw_746 (gi_c qw_743 (gi_c qw_748 (gi_c qw_732 (gi_c qw_733 (gi_c qw_734 (gi_c qw_97 (gi_c qw_735 (gi_c qw_736 (gi_c qw_737 (gi_c qw_738 (gi_c qw_105 gi_n)))))))))))))))))))))))
set_option maxRecDepth 100000 in
theorem qs_L_recipe_r9 : GoodIn lw_tbl wsL_recipe_r9 := gi_c qw_106 (gi_c qw_739 (gi_c qw_781 (gi_c qw_783 (gi_c qw_15 (gi_c qw_784 (gi_c qw_789 (gi_c qw_791 (gi_c qw_17 (gi_c qw_802 (gi_c qw_803 (gi_c qw_804 (gi_c qw_805 (gi_c qw_806 gi_n)))))))))))))
set_option maxRecDepth 100000 in
theorem qu_X3 : GoodIn lw_tbl wsX30 := goodIn_r _ [808] (by decide +kernel) (by decide +kernel)
set_option maxRecDepth 100000 in
theorem qu_X5 : GoodIn lw_tbl wsX50 := goodIn_r _ [756, 758, 760, 762, 764, 766, 768, 770] (by decide +kernel) (by decide +kernel)
set_option maxRecDepth 100000 in
theorem qs_L_recipe : GoodIn lw_tbl wsL_recipe := gi_c qw_617 (goodIn_app (goodIn_app (goodIn_app (goodIn_app (goodIn_app (goodIn_app (goodIn_app (qs_L_recipe_r1) (goodIn_app (qs_L_recipe_r2) (goodIn_app (qs_L_recipe_r3) (goodIn_app (qs_L_recipe_r4) (goodIn_app (qs_L_recipe_r5) (goodIn_app (qs_L_recipe_r6) (goodIn_app (qs_L_recipe_r7) (goodIn_app (qs_L_recipe_r8) (qs_L_recipe_r9))))))))) (qu_X9)) (qu_X2)) (qu_X3)) (qu_X6)) (qu_X5)) (qx_RX9_256))
set_option maxRecDepth 100000 in
theorem qs_L_fault : GoodIn lw_tbl wsL_fault := gi_c qw_813 (goodIn_app (goodIn_app (goodIn_app (gi_c qw_413 (gi_c qw_814 (gi_c qw_815 (gi_c qw_816 (gi_c qw_78 (gi_c qw_817 (gi_c qw_567 (gi_c qw_90 (gi_c qw_369 (gi_c qw_220 (gi_c qw_222 gi_n))))))))))) (qu_X9)) (qu_X2)) (qx_RX9_153))
set_option maxRecDepth 100000 in
theorem qs_L_run_r1 : GoodIn lw_tbl wsL_run_r1 := gi_c qw_413 (gi_c qw_822 (gi_c qw_823 (gi_c qw_824 (gi_c qw_78 (gi_c qw_825 (gi_c qw_370 (gi_c qw_305 (gi_c qw_372 (gi_c qw_807 (gi_c qw_563 (gi_c qw_565 (gi_c qw_2 (gi_c qw_566 (gi_c qw_567 (gi_c qw_90 (gi_c qw_365 (gi_c qw_364 (gi_c qw_826 (gi_c qw_827 (gi_c qw_828 (gi_c qw_83 (gi_c qw_829 (gi_c qw_247 gi_n)))))))))))))))))))))))
set_option maxRecDepth 100000 in
theorem qs_L_run_r2 : GoodIn lw_tbl wsL_run_r2 := gi_c qw_252 (gi_c qw_254 (gi_c qw_256 (gi_c qw_258 (gi_c qw_898 (gi_c qw_554 (gi_c qw_92 (gi_c qw_555 (gi_c qw_250 (gi_c qw_248 (gi_c qw_830 (gi_c qw_832 (gi_c qw_20 (gi_c qw_833 (gi_c qw_740 (gi_c qw_755 (gi_c qw_834 (gi_c qw_836 (gi_c qw_21 (gi_c qw_837 (gi_c qw_838 (gi_c qw_840 (gi_c qw_22 (gi_c qw_841 gi_n)))))))))))))))))))))))
set_option maxRecDepth 100000 in
theorem qs_L_run_r3 : GoodIn lw_tbl wsL_run_r3 := gi_c qw_246 (gi_c qw_742 (gi_c qw_744 (gi_c qw_842 (gi_c qw_419 (gi_c qw_420 (gi_c qw_79 (gi_c qw_421 (gi_c qw_422 (gi_c qw_161 (gi_c qw_843 (gi_c qw_845 (gi_c qw_23 (gi_c qw_846 (gi_c qw_137 (gi_c qw_847 (gi_c qw_571 (gi_c qw_572 (gi_c qw_80 (gi_c qw_573 (gi_c qw_293 (gi_c qw_134 (gi_c qw_124 (gi_c qw_578 gi_n)))))))))))))))))))))))
set_option maxRecDepth 100000 in
theorem qs_L_run_r4 : GoodIn lw_tbl wsL_run_r4 := gi_c qw_543 (gi_c qw_544 (gi_c qw_574 (gi_c qw_575 (gi_c qw_576 (gi_c qw_85 (gi_c qw_577 (gi_c qw_292 (gi_c qw_295 (gi_c qw_300 (gi_c qw_848 (gi_c qw_580 (gi_c qw_581 (gi_c qw_582 (gi_c qw_162 (gi_c qw_143 (gi_c qw_138 (gi_c qw_140 (gi_c qw_291 (gi_c qw_311 (gi_c qw_309 (gi_c qw_121 (gi_c qw_583 (gi_c qw_584 gi_n)))))))))))))))))))))))
set_option maxRecDepth 100000 in
theorem qs_L_run_r5 : GoodIn lw_tbl wsL_run_r5 := gi_c qw_585 (gi_c qw_586 (gi_c qw_296 (gi_c qw_131 (gi_c qw_127 (gi_c qw_849 (gi_c qw_851 (gi_c qw_24 (gi_c qw_852 (gi_c qw_298 (gi_c qw_853 (gi_c qw_595 (gi_c qw_596 (gi_c qw_597 (gi_c qw_165 (gi_c qw_598 (gi_c qw_599 (gi_c qw_600 (gi_c qw_601 (gi_c qw_854 (gi_c qw_603 (gi_c qw_604 (gi_c qw_605 (gi_c qw_606 gi_n)))))))))))))))))))))))
set_option maxRecDepth 100000 in
theorem qs_L_run_r6 : GoodIn lw_tbl wsL_run_r6 := gi_c qw_607 (gi_c qw_608 (gi_c qw_609 (gi_c qw_855 (gi_c qw_857 (gi_c qw_25 (gi_c qw_858 (gi_c qw_859 (gi_c qw_546 (gi_c qw_547 (gi_c qw_548 (gi_c qw_549 (gi_c qw_550 (gi_c qw_551 (gi_c qw_552 (gi_c qw_553 (gi_c qw_142 (gi_c qw_860 (gi_c qw_517 (gi_c qw_518 (gi_c qw_519 (gi_c qw_861 (gi_c qw_863 (gi_c qw_26 gi_n)))))))))))))))))))))))
set_option maxRecDepth 100000 in
theorem qs_L_run_r7 : GoodIn lw_tbl wsL_run_r7 := gi_c qw_864 (gi_c qw_865 (gi_c qw_528 (gi_c qw_529 (gi_c qw_530 (gi_c qw_866 (gi_c qw_868 (gi_c qw_27 (gi_c qw_869 (gi_c qw_751 (gi_c qw_752 (gi_c qw_870 (gi_c qw_872 (gi_c qw_28 (gi_c qw_874 (gi_c qw_876 (gi_c qw_29 (gi_c qw_882 (gi_c qw_884 (gi_c qw_30 (gi_c qw_885 (gi_c qw_749 (gi_c qw_886 (gi_c qw_888 gi_n)))))))))))))))))))))))
set_option maxRecDepth 100000 in
theorem qs_L_run_r8 : GoodIn lw_tbl wsL_run_r8 := gi_c qw_31 (gi_c qw_889 (gi_c qw_747 (gi_c qw_126 (gi_c qw_130 (gi_c qw_164 (gi_c qw_878 (gi_c qw_879 (gi_c qw_880 (gi_c qw_881 (gi_c qw_890 (gi_c qw_892 (gi_c qw_32 (gi_c qw_894 (gi_c qw_896 (gi_c qw_33 (gi_c qw_873 (gi_c qw_893 (gi_c qw_877 (gi_c qw_897 gi_n)))))))))))))))))))
set_option maxRecDepth 100000 in
theorem qs_L_run : GoodIn lw_tbl wsL_run := gi_c qw_821 (goodIn_app (goodIn_app (goodIn_app (goodIn_app (goodIn_app (goodIn_app (goodIn_app (goodIn_app (goodIn_app (goodIn_app (qs_L_run_r1) (goodIn_app (qs_L_run_r2) (goodIn_app (qs_L_run_r3) (goodIn_app (qs_L_run_r4) (goodIn_app (qs_L_run_r5) (goodIn_app (qs_L_run_r6) (goodIn_app (qs_L_run_r7) (qs_L_run_r8)))))))) (qu_X9)) (qu_X0)) (qu_X3)) (qu_X4)) (qu_X5)) (qu_X7)) (qu_X8)) (qx_RX9_153)) (qx_RX8_24))
set_option maxRecDepth 100000 in
theorem qs_L_ran : GoodIn lw_tbl wsL_ran := gi_c qw_901 (goodIn_app (goodIn_app (goodIn_app (gi_c qw_413 (gi_c qw_902 (gi_c qw_903 (gi_c qw_904 (gi_c qw_78 (gi_c qw_905 (gi_c qw_567 (gi_c qw_90 (gi_c qw_372 (gi_c qw_249 (gi_c qw_251 (gi_c qw_253 (gi_c qw_255 (gi_c qw_257 (gi_c qw_259 gi_n))))))))))))))) (qu_X9)) (qu_X4)) (qx_RX9_153))
set_option maxRecDepth 100000 in
theorem qs_L_plan_r1 : GoodIn lw_tbl wsL_plan_r1 := gi_c qw_413 (gi_c qw_492 (gi_c qw_909 (gi_c qw_910 (gi_c qw_911 (gi_c qw_78 (gi_c qw_912 (gi_c qw_305 (gi_c qw_373 (gi_c qw_563 (gi_c qw_565 (gi_c qw_2 (gi_c qw_566 (gi_c qw_567 (gi_c qw_90 (gi_c qw_365 (gi_c qw_364 (gi_c qw_497 (gi_c qw_498 (gi_c qw_499 (gi_c qw_500 (gi_c qw_91 (gi_c qw_913 (gi_c qw_914 gi_n)))))))))))))))))))))))
set_option maxRecDepth 100000 in
theorem qs_L_plan_r2 : GoodIn lw_tbl wsL_plan_r2 := gi_c qw_915 (gi_c qw_84 (gi_c qw_916 (gi_c qw_334 (gi_c qw_335 (gi_c qw_332 (gi_c qw_331 (gi_c qw_333 (gi_c qw_336 (gi_c qw_917 (gi_c qw_419 (gi_c qw_420 (gi_c qw_79 (gi_c qw_421 (gi_c qw_422 (gi_c qw_161 (gi_c qw_918 (gi_c qw_919 (gi_c qw_920 (gi_c qw_80 (gi_c qw_921 (gi_c qw_124 (gi_c qw_127 (gi_c qw_131 gi_n)))))))))))))))))))))))
set_option maxRecDepth 100000 in
theorem qs_L_plan_r3 : GoodIn lw_tbl wsL_plan_r3 := gi_c qw_134 (gi_c qw_922 (gi_c qw_923 (gi_c qw_924 (gi_c qw_85 (gi_c qw_925 (gi_c qw_292 (gi_c qw_295 (gi_c qw_300 (gi_c qw_926 (gi_c qw_928 (gi_c qw_34 (gi_c qw_929 (gi_c qw_297 (gi_c qw_930 (gi_c qw_879 (gi_c qw_880 (gi_c qw_881 (gi_c qw_931 (gi_c qw_933 (gi_c qw_35 (gi_c qw_934 (gi_c qw_125 (gi_c qw_128 gi_n)))))))))))))))))))))))
set_option maxRecDepth 100000 in
theorem qs_L_plan_r4 : GoodIn lw_tbl wsL_plan_r4 := gi_c qw_132 (gi_c qw_136 (gi_c qw_301 (gi_c qw_338 (gi_c qw_122 (gi_c qw_340 (gi_c qw_342 (gi_c qw_935 (gi_c qw_571 (gi_c qw_572 (gi_c qw_573 (gi_c qw_293 (gi_c qw_578 (gi_c qw_543 (gi_c qw_92 (gi_c qw_544 (gi_c qw_574 (gi_c qw_575 (gi_c qw_576 (gi_c qw_577 (gi_c qw_936 (gi_c qw_584 (gi_c qw_585 (gi_c qw_586 gi_n)))))))))))))))))))))))
set_option maxRecDepth 100000 in
theorem qs_L_plan_r5 : GoodIn lw_tbl wsL_plan_r5 := gi_c qw_296 (gi_c qw_937 (gi_c qw_599 (gi_c qw_600 (gi_c qw_601 gi_n))))
set_option maxRecDepth 100000 in
theorem qs_L_plan : GoodIn lw_tbl wsL_plan := gi_c qw_908 (goodIn_app (goodIn_app (goodIn_app (goodIn_app (goodIn_app (goodIn_app (goodIn_app (goodIn_app (goodIn_app (qs_L_plan_r1) (goodIn_app (qs_L_plan_r2) (goodIn_app (qs_L_plan_r3) (goodIn_app (qs_L_plan_r4) (qs_L_plan_r5))))) (qu_X0)) (qu_X9)) (qu_X1)) (qu_X8)) (qu_X7)) (qx_RX9_153)) (qx_RX9_256)) (qx_RX8_24))
set_option maxRecDepth 100000 in
theorem qs_L_planned : GoodIn lw_tbl wsL_planned := gi_c qw_940 (goodIn_app (goodIn_app (goodIn_app (gi_c qw_413 (gi_c qw_941 (gi_c qw_942 (gi_c qw_943 (gi_c qw_78 (gi_c qw_944 (gi_c qw_567 (gi_c qw_90 (gi_c qw_373 (gi_c qw_337 (gi_c qw_339 (gi_c qw_341 (gi_c qw_343 gi_n))))))))))))) (qu_X9)) (qu_X1)) (qx_RX9_153))
set_option maxRecDepth 100000 in
theorem qs_L_vat : GoodIn lw_tbl wsL_vat := gi_c qw_948 (goodIn_app (goodIn_app (goodIn_app (goodIn_app (goodIn_app (gi_c qw_413 (gi_c qw_949 (gi_c qw_950 (gi_c qw_951 (gi_c qw_78 (gi_c qw_952 (gi_c qw_567 (gi_c qw_90 (gi_c qw_363 (gi_c qw_123 (gi_c qw_129 (gi_c qw_133 (gi_c qw_135 (gi_c qw_139 (gi_c qw_141 (gi_c qw_418 (gi_c qw_419 (gi_c qw_420 (gi_c qw_79 (gi_c qw_421 (gi_c qw_422 (gi_c qw_161 gi_n)))))))))))))))))))))) (qu_X9)) (qu_X7)) (qu_X8)) (qx_RX9_153)) (qx_RX8_24))
set_option maxRecDepth 100000 in
theorem qs_L_about_r1 : GoodIn lw_tbl wsL_about_r1 := gi_c qw_413 (gi_c qw_956 (gi_c qw_957 (gi_c qw_958 (gi_c qw_78 (gi_c qw_959 (gi_c qw_567 (gi_c qw_90 (gi_c qw_294 (gi_c qw_299 (gi_c qw_302 (gi_c qw_305 (gi_c qw_308 (gi_c qw_310 (gi_c qw_312 (gi_c qw_563 (gi_c qw_565 (gi_c qw_2 (gi_c qw_566 (gi_c qw_365 (gi_c qw_364 (gi_c qw_960 (gi_c qw_879 (gi_c qw_880 gi_n)))))))))))))))))))))))
set_option maxRecDepth 100000 in
theorem qs_L_about_r2 : GoodIn lw_tbl wsL_about_r2 := gi_c qw_85 (gi_c qw_881 (gi_c qw_292 (gi_c qw_300 gi_n)))
set_option maxRecDepth 100000 in
theorem qs_L_about : GoodIn lw_tbl wsL_about := gi_c qw_955 (goodIn_app (goodIn_app (goodIn_app (goodIn_app (qs_L_about_r1) (qs_L_about_r2)) (qu_X0)) (qu_X9)) (qx_RX9_153))
set_option maxRecDepth 100000 in
theorem qs_L_count : GoodIn lw_tbl wsL_count := gi_c qw_963 (goodIn_app (goodIn_app (goodIn_app (gi_c qw_413 (gi_c qw_964 (gi_c qw_965 (gi_c qw_966 (gi_c qw_78 (gi_c qw_967 (gi_c qw_567 (gi_c qw_90 (gi_c qw_363 (gi_c qw_163 (gi_c qw_166 (gi_c qw_365 (gi_c qw_366 (gi_c qw_368 (gi_c qw_371 gi_n))))))))))))))) (qu_X9)) (qu_X8)) (qx_RX9_153))
set_option maxRecDepth 100000 in
theorem qs_L_faded_r1 : GoodIn lw_tbl wsL_faded_r1 := gi_c qw_413 (gi_c qw_492 (gi_c qw_971 (gi_c qw_972 (gi_c qw_973 (gi_c qw_78 (gi_c qw_974 (gi_c qw_488 (gi_c qw_563 (gi_c qw_565 (gi_c qw_2 (gi_c qw_566 (gi_c qw_567 (gi_c qw_90 (gi_c qw_365 (gi_c qw_364 (gi_c qw_497 (gi_c qw_498 (gi_c qw_499 (gi_c qw_500 (gi_c qw_91 (gi_c qw_975 (gi_c qw_976 (gi_c qw_977 gi_n)))))))))))))))))))))))
set_option maxRecDepth 100000 in
theorem qs_L_faded_r2 : GoodIn lw_tbl wsL_faded_r2 := gi_c qw_85 (gi_c qw_978 (gi_c qw_303 (gi_c qw_306 (gi_c qw_979 (gi_c qw_980 (gi_c qw_981 (gi_c qw_982 (gi_c qw_984 (gi_c qw_554 (gi_c qw_92 (gi_c qw_555 (gi_c qw_983 (gi_c qw_879 (gi_c qw_880 (gi_c qw_881 (gi_c qw_292 (gi_c qw_300 (gi_c qw_985 (gi_c qw_986 (gi_c qw_987 (gi_c qw_988 gi_n)))))))))))))))))))))
set_option maxRecDepth 100000 in
theorem qs_L_faded : GoodIn lw_tbl wsL_faded := gi_c qw_970 (goodIn_app (goodIn_app (goodIn_app (goodIn_app (goodIn_app (qs_L_faded_r1) (qs_L_faded_r2)) (qu_X9)) (qu_X0)) (qx_RX9_153)) (qx_RX9_256))
set_option maxRecDepth 100000 in
theorem qs_L_matching_r1 : GoodIn lw_tbl wsL_matching_r1 := gi_c qw_413 (gi_c qw_492 (gi_c qw_992 (gi_c qw_993 (gi_c qw_994 (gi_c qw_78 (gi_c qw_995 (gi_c qw_488 (gi_c qw_365 (gi_c qw_364 (gi_c qw_563 (gi_c qw_565 (gi_c qw_2 (gi_c qw_566 (gi_c qw_567 (gi_c qw_90 (gi_c qw_497 (gi_c qw_498 (gi_c qw_499 (gi_c qw_500 (gi_c qw_91 (gi_c qw_996 (gi_c qw_997 (gi_c qw_998 gi_n)))))))))))))))))))))))
set_option maxRecDepth 100000 in
theorem qs_L_matching_r2 : GoodIn lw_tbl wsL_matching_r2 := gi_c qw_85 (gi_c qw_999 (gi_c qw_1000 (gi_c qw_976 (gi_c qw_977 (gi_c qw_978 (gi_c qw_303 (gi_c qw_306 (gi_c qw_1001 (gi_c qw_980 (gi_c qw_981 (gi_c qw_982 (gi_c qw_984 (gi_c qw_554 (gi_c qw_92 (gi_c qw_555 (gi_c qw_983 (gi_c qw_879 (gi_c qw_880 (gi_c qw_881 (gi_c qw_292 (gi_c qw_300 (gi_c qw_1002 (gi_c qw_986 gi_n)))))))))))))))))))))))
set_option maxRecDepth 100000 in
theorem qs_L_matching_r3 : GoodIn lw_tbl wsL_matching_r3 := gi_c qw_987 (gi_c qw_988 gi_n)
set_option maxRecDepth 100000 in
theorem qs_L_matching : GoodIn lw_tbl wsL_matching := gi_c qw_991 (goodIn_app (goodIn_app (goodIn_app (goodIn_app (goodIn_app (qs_L_matching_r1) (goodIn_app (qs_L_matching_r2) (qs_L_matching_r3))) (qu_X9)) (qu_X0)) (qx_RX9_153)) (qx_RX9_256))
set_option maxRecDepth 100000 in
theorem qs_X9_cloth : GoodIn lw_tbl wsX9_cloth := gi_c qw_400 (goodIn_app (goodIn_app (gi_c qw_365 (gi_c qw_364 (gi_c qw_174 (gi_c qw_285 (gi_c qw_85 (gi_c qw_401 (gi_c qw_287 (gi_c qw_288 (gi_c qw_289 (gi_c qw_105 (gi_c qw_106 (gi_c qw_306 (gi_c qw_290 (gi_c qw_292 gi_n)))))))))))))) (qu_X9)) (qu_X0))
set_option maxRecDepth 100000 in
theorem qs_X9_put : GoodIn lw_tbl wsX9_put := gi_c qw_405 (goodIn_app (gi_c qw_368 (gi_c qw_367 (gi_c qw_406 (gi_c qw_408 (gi_c qw_0 (gi_c qw_78 (gi_c qw_409 gi_n))))))) (qu_X9))
set_option maxRecDepth 100000 in
theorem qs_X10_cloth : GoodIn lw_tbl wsX10_cloth := gi_c qw_1208 (goodIn_app (gi_c qw_1009 (gi_c qw_1021 (gi_c qw_1022 gi_n))) (qu_X10))
set_option maxRecDepth 100000 in
theorem qs_X10_put : GoodIn lw_tbl wsX10_put := gi_c qw_1244 (goodIn_app (gi_c qw_1009 (gi_c qw_1029 (gi_c qw_1245 (gi_c qw_1247 (gi_c qw_47 (gi_c qw_86 (gi_c qw_1248 (gi_c qw_1028 gi_n)))))))) (qu_X10))
set_option maxRecDepth 100000 in
theorem qs_X10_charge : GoodIn lw_tbl wsX10_charge := gi_c qw_1171 (goodIn_app (gi_c qw_1180 (gi_c qw_1013 (gi_c qw_1012 (gi_c qw_1172 (gi_c qw_1174 (gi_c qw_36 (gi_c qw_86 (gi_c qw_1175 (gi_c qw_1009 (gi_c qw_1176 (gi_c qw_1178 (gi_c qw_37 (gi_c qw_1179 gi_n))))))))))))) (qu_X10))
set_option maxRecDepth 100000 in
theorem qs_X10_feed : GoodIn lw_tbl wsX10_feed := gi_c qw_1184 (goodIn_app (gi_c qw_1016 (gi_c qw_1172 (gi_c qw_1174 (gi_c qw_36 (gi_c qw_86 (gi_c qw_1175 (gi_c qw_1009 (gi_c qw_1176 (gi_c qw_1178 (gi_c qw_37 (gi_c qw_1179 (gi_c qw_1185 (gi_c qw_1187 (gi_c qw_38 (gi_c qw_1188 (gi_c qw_1014 gi_n)))))))))))))))) (qu_X10))
set_option maxRecDepth 100000 in
theorem qs_X10_lime : GoodIn lw_tbl wsX10_lime := gi_c qw_1192 (goodIn_app (gi_c qw_1016 (gi_c qw_1172 (gi_c qw_1174 (gi_c qw_36 (gi_c qw_86 (gi_c qw_1175 (gi_c qw_1009 (gi_c qw_1176 (gi_c qw_1178 (gi_c qw_37 (gi_c qw_1179 (gi_c qw_1193 (gi_c qw_1195 (gi_c qw_39 (gi_c qw_1196 (gi_c qw_1015 (gi_c qw_1014 gi_n))))))))))))))))) (qu_X10))
set_option maxRecDepth 100000 in
theorem qs_X10_hours : GoodIn lw_tbl wsX10_hours := gi_c qw_1200 (goodIn_app (gi_c qw_1009 (gi_c qw_1010 (gi_c qw_1176 (gi_c qw_1178 (gi_c qw_37 (gi_c qw_86 (gi_c qw_1179 (gi_c qw_1201 (gi_c qw_1203 (gi_c qw_40 (gi_c qw_1204 (gi_c qw_1014 (gi_c qw_1016 (gi_c qw_1019 (gi_c qw_1020 (gi_c qw_1015 gi_n)))))))))))))))) (qu_X10))
set_option maxRecDepth 100000 in
theorem qs_X10_dip_r1 : GoodIn lw_tbl wsX10_dip_r1 := gi_c qw_1016 (gi_c qw_1213 (gi_c qw_1215 (gi_c qw_41 (gi_c qw_86 (gi_c qw_1216 (gi_c qw_1009 (gi_c qw_1021 (gi_c qw_1176 (gi_c qw_1178 (gi_c qw_37 (gi_c qw_1179 (gi_c qw_1172 (gi_c qw_1174 (gi_c qw_36 (gi_c qw_1175 (gi_c qw_1217 (gi_c qw_1219 (gi_c qw_42 (gi_c qw_1220 (gi_c qw_1025 (gi_c qw_1221 (gi_c qw_1223 (gi_c qw_43 gi_n)))))))))))))))))))))))
set_option maxRecDepth 100000 in
theorem qs_X10_dip_r2 : GoodIn lw_tbl wsX10_dip_r2 := gi_c qw_1224 (gi_c qw_1013 (gi_c qw_1023 (gi_c qw_1015 (gi_c qw_1014 (gi_c qw_1019 (gi_c qw_1017 (gi_c qw_1018 (gi_c qw_1026 (gi_c qw_1027 (gi_c qw_1225 (gi_c qw_1227 (gi_c qw_44 (gi_c qw_1228 (gi_c qw_1022 (gi_c qw_1024 gi_n)))))))))))))))
set_option maxRecDepth 100000 in
theorem qs_X10_dip : GoodIn lw_tbl wsX10_dip := gi_c qw_1212 (goodIn_app (goodIn_app (qs_X10_dip_r1) (qs_X10_dip_r2)) (qu_X10))
set_option maxRecDepth 100000 in
theorem qs_X10_treat_r1 : GoodIn lw_tbl wsX10_treat_r1 := gi_c qw_1025 (gi_c qw_1010 (gi_c qw_1213 (gi_c qw_1215 (gi_c qw_41 (gi_c qw_86 (gi_c qw_1216 (gi_c qw_1009 (gi_c qw_1021 (gi_c qw_1176 (gi_c qw_1178 (gi_c qw_37 (gi_c qw_1179 (gi_c qw_1217 (gi_c qw_1219 (gi_c qw_42 (gi_c qw_1220 (gi_c qw_1233 (gi_c qw_1235 (gi_c qw_45 (gi_c qw_1236 (gi_c qw_1023 (gi_c qw_1024 (gi_c qw_1011 gi_n)))))))))))))))))))))))
set_option maxRecDepth 100000 in
theorem qs_X10_treat_r2 : GoodIn lw_tbl wsX10_treat_r2 := gi_c qw_1237 (gi_c qw_1239 (gi_c qw_46 (gi_c qw_1240 gi_n)))
set_option maxRecDepth 100000 in
theorem qs_X10_treat : GoodIn lw_tbl wsX10_treat := gi_c qw_1232 (goodIn_app (goodIn_app (qs_X10_treat_r1) (qs_X10_treat_r2)) (qu_X10))
set_option maxRecDepth 100000 in
theorem qs_X10_recipe_r1 : GoodIn lw_tbl wsX10_recipe_r1 := gi_c qw_1009 (gi_c qw_1029 (gi_c qw_1030 (gi_c qw_1031 (gi_c qw_1032 (gi_c qw_1033 (gi_c qw_1045 (gi_c qw_1047 (gi_c qw_1035 (gi_c qw_1036 (gi_c qw_1037 (gi_c qw_1038 (gi_c qw_1039 (gi_c qw_1040 (gi_c qw_1041 (gi_c qw_1042 (gi_c qw_1043 (gi_c qw_1044 (gi_c qw_1046 (gi_c qw_1176 (gi_c qw_1178 (gi_c qw_37 (gi_c qw_86 (gi_c qw_1179 gi_n)))))))))))))))))))))))
set_option maxRecDepth 100000 in
theorem qs_X10_recipe_r2 : GoodIn lw_tbl wsX10_recipe_r2 := gi_c qw_1253 (gi_c qw_1255 (gi_c qw_48 (gi_c qw_1256 (gi_c qw_1257 (gi_c qw_1259 (gi_c qw_49 (gi_c qw_1260 (gi_c qw_1028 (gi_c qw_1261 (gi_c qw_1263 (gi_c qw_50 (gi_c qw_1264 (gi_c qw_1265 (gi_c qw_1267 (gi_c qw_51 (gi_c qw_1334 (gi_c qw_1300 (gi_c qw_1302 (gi_c qw_53 (gi_c qw_1303 (gi_c qw_1311 (gi_c qw_1312 (gi_c qw_1314 gi_n)))))))))))))))))))))))
set_option maxRecDepth 100000 in
theorem qs_X10_recipe_r3 : GoodIn lw_tbl wsX10_recipe_r3 := gi_c qw_56 (gi_c qw_1315 (gi_c qw_1034 (gi_c qw_1316 (gi_c qw_1318 (gi_c qw_57 (gi_c qw_1319 (gi_c qw_1320 (gi_c qw_1322 (gi_c qw_58 (gi_c qw_1323 (gi_c qw_1324 (gi_c qw_1325 (gi_c qw_1326 (gi_c qw_1327 (gi_c qw_1329 (gi_c qw_59 (gi_c qw_1330 (gi_c qw_1331 (gi_c qw_1333 (gi_c qw_60 (gi_c qw_1335 (gi_c qw_1337 (gi_c qw_61 gi_n)))))))))))))))))))))))
set_option maxRecDepth 100000 in
theorem qs_X10_recipe_r4 : GoodIn lw_tbl wsX10_recipe_r4 := gi_c qw_1338 (gi_c qw_1269 (gi_c qw_1271 (gi_c qw_52 (gi_c qw_1272 (gi_c qw_1273 (gi_c qw_1274 (gi_c qw_1275 (gi_c qw_1276 (gi_c qw_1277 (gi_c qw_1278 (gi_c qw_1298 (gi_c qw_656 (gi_c qw_657 (gi_c qw_93 (gi_c qw_658 (gi_c qw_1456 (gi_c qw_659 (gi_c qw_660 (gi_c qw_661 (gi_c qw_662 (gi_c qw_663 (gi_c qw_1457 (gi_c qw_1299 gi_n)))))))))))))))))))))))
set_option maxRecDepth 100000 in
theorem qs_X10_recipe_r5 : GoodIn lw_tbl wsX10_recipe_r5 := gi_c qw_666 (gi_c qw_667 (gi_c qw_668 (gi_c qw_669 (gi_c qw_670 (gi_c qw_671 (gi_c qw_672 (gi_c qw_673 (gi_c qw_674 (gi_c qw_94 (gi_c qw_675 (gi_c qw_676 (gi_c qw_677 (gi_c qw_678 (gi_c qw_679 (gi_c qw_681 (gi_c qw_682 (gi_c qw_95 (gi_c qw_683 (gi_c qw_684 (gi_c qw_685 (gi_c qw_96 (gi_c qw_686 (gi_c qw_687 gi_n)))))))))))))))))))))))
set_option maxRecDepth 100000 in
theorem qs_X10_recipe_r6 : GoodIn lw_tbl wsX10_recipe_r6 := gi_c qw_688 (gi_c qw_689 (gi_c qw_690 (gi_c qw_691 (gi_c qw_692 (gi_c qw_693 (gi_c qw_694 (gi_c qw_695 (gi_c qw_696 (gi_c qw_697 (gi_c qw_699 (gi_c qw_701 (gi_c qw_1304 (gi_c qw_1306 (gi_c qw_54 (gi_c qw_1307 (gi_c qw_1339 (gi_c qw_1341 (gi_c qw_62 (gi_c qw_1342 (gi_c qw_1268 (gi_c qw_1308 (gi_c qw_1310 (gi_c qw_55 gi_n)))))))))))))))))))))))
set_option maxRecDepth 100000 in
theorem qs_X10_recipe : GoodIn lw_tbl wsX10_recipe := gi_c qw_1252 (goodIn_app (goodIn_app (qs_X10_recipe_r1) (goodIn_app (qs_X10_recipe_r2) (goodIn_app (qs_X10_recipe_r3) (goodIn_app (qs_X10_recipe_r4) (goodIn_app (qs_X10_recipe_r5) (qs_X10_recipe_r6)))))) (qu_X10))
set_option maxRecDepth 100000 in
theorem qs_X10_fault : GoodIn lw_tbl wsX10_fault := gi_c qw_1346 (goodIn_app (gi_c qw_1009 (gi_c qw_1032 (gi_c qw_1033 (gi_c qw_1176 (gi_c qw_1178 (gi_c qw_37 (gi_c qw_86 (gi_c qw_1179 gi_n)))))))) (qu_X10))
set_option maxRecDepth 100000 in
theorem qs_X10_run_r1 : GoodIn lw_tbl wsX10_run_r1 := gi_c qw_1043 (gi_c qw_1048 (gi_c qw_1049 (gi_c qw_1050 (gi_c qw_1051 (gi_c qw_1052 (gi_c qw_1054 (gi_c qw_1053 (gi_c qw_1213 (gi_c qw_1215 (gi_c qw_41 (gi_c qw_86 (gi_c qw_1216 (gi_c qw_1009 (gi_c qw_1021 (gi_c qw_1176 (gi_c qw_1178 (gi_c qw_37 (gi_c qw_1179 (gi_c qw_1217 (gi_c qw_1219 (gi_c qw_42 (gi_c qw_1220 (gi_c qw_1025 gi_n)))))))))))))))))))))))
set_option maxRecDepth 100000 in
theorem qs_X10_run_r2 : GoodIn lw_tbl wsX10_run_r2 := gi_c qw_1351 (gi_c qw_1353 (gi_c qw_63 (gi_c qw_1354 (gi_c qw_1042 (gi_c qw_1355 (gi_c qw_1357 (gi_c qw_64 (gi_c qw_1358 (gi_c qw_1035 (gi_c qw_1036 (gi_c qw_1037 (gi_c qw_1023 (gi_c qw_1016 (gi_c qw_1359 (gi_c qw_1361 (gi_c qw_65 (gi_c qw_1362 (gi_c qw_1363 (gi_c qw_1365 (gi_c qw_66 (gi_c qw_1366 (gi_c qw_1225 (gi_c qw_1227 gi_n)))))))))))))))))))))))
set_option maxRecDepth 100000 in
theorem qs_X10_run_r3 : GoodIn lw_tbl wsX10_run_r3 := gi_c qw_44 (gi_c qw_1228 (gi_c qw_1013 (gi_c qw_1022 (gi_c qw_1024 (gi_c qw_1221 (gi_c qw_1223 (gi_c qw_43 (gi_c qw_1224 (gi_c qw_1015 (gi_c qw_1014 (gi_c qw_1019 (gi_c qw_1017 (gi_c qw_1018 (gi_c qw_1026 (gi_c qw_1027 (gi_c qw_1237 (gi_c qw_1239 (gi_c qw_46 (gi_c qw_1240 (gi_c qw_1011 (gi_c qw_1233 (gi_c qw_1235 (gi_c qw_45 gi_n)))))))))))))))))))))))
set_option maxRecDepth 100000 in
theorem qs_X10_run_r4 : GoodIn lw_tbl wsX10_run_r4 := gi_c qw_1236 (gi_c qw_1367 (gi_c qw_1369 (gi_c qw_67 (gi_c qw_1370 (gi_c qw_1201 (gi_c qw_1203 (gi_c qw_40 (gi_c qw_1204 (gi_c qw_1010 (gi_c qw_1020 (gi_c qw_1185 (gi_c qw_1187 (gi_c qw_38 (gi_c qw_1188 (gi_c qw_1193 (gi_c qw_1195 (gi_c qw_39 (gi_c qw_1196 (gi_c qw_1371 (gi_c qw_1373 (gi_c qw_68 (gi_c qw_1374 (gi_c qw_1040 gi_n)))))))))))))))))))))))
set_option maxRecDepth 100000 in
theorem qs_X10_run_r5 : GoodIn lw_tbl wsX10_run_r5 := gi_c qw_1041 (gi_c qw_1375 (gi_c qw_1377 (gi_c qw_69 (gi_c qw_1378 (gi_c qw_1379 (gi_c qw_1381 (gi_c qw_70 (gi_c qw_1382 (gi_c qw_1038 (gi_c qw_1039 gi_n))))))))))
set_option maxRecDepth 100000 in
theorem qs_X10_run : GoodIn lw_tbl wsX10_run := gi_c qw_1350 (goodIn_app (goodIn_app (qs_X10_run_r1) (goodIn_app (qs_X10_run_r2) (goodIn_app (qs_X10_run_r3) (goodIn_app (qs_X10_run_r4) (qs_X10_run_r5))))) (qu_X10))
set_option maxRecDepth 100000 in
theorem qs_X10_ran : GoodIn lw_tbl wsX10_ran := gi_c qw_1386 (goodIn_app (gi_c qw_1009 (gi_c qw_1053 (gi_c qw_1054 (gi_c qw_1049 (gi_c qw_1050 (gi_c qw_1051 (gi_c qw_1052 (gi_c qw_1176 (gi_c qw_1178 (gi_c qw_37 (gi_c qw_86 (gi_c qw_1179 gi_n)))))))))))) (qu_X10))
set_option maxRecDepth 100000 in
theorem qs_X10_plan_r1 : GoodIn lw_tbl wsX10_plan_r1 := gi_c qw_1055 (gi_c qw_1213 (gi_c qw_1215 (gi_c qw_41 (gi_c qw_86 (gi_c qw_1216 (gi_c qw_1009 (gi_c qw_1021 (gi_c qw_1176 (gi_c qw_1178 (gi_c qw_37 (gi_c qw_1179 (gi_c qw_1217 (gi_c qw_1219 (gi_c qw_42 (gi_c qw_1220 (gi_c qw_1025 (gi_c qw_1391 (gi_c qw_1393 (gi_c qw_71 (gi_c qw_1394 (gi_c qw_1023 (gi_c qw_1016 (gi_c qw_1056 gi_n)))))))))))))))))))))))
set_option maxRecDepth 100000 in
theorem qs_X10_plan_r2 : GoodIn lw_tbl wsX10_plan_r2 := gi_c qw_1057 (gi_c qw_1058 (gi_c qw_1375 (gi_c qw_1377 (gi_c qw_69 (gi_c qw_1378 (gi_c qw_1024 (gi_c qw_1022 (gi_c qw_1395 (gi_c qw_1397 (gi_c qw_72 (gi_c qw_1398 (gi_c qw_1059 (gi_c qw_1013 (gi_c qw_1014 (gi_c qw_1015 (gi_c qw_1225 (gi_c qw_1227 (gi_c qw_44 (gi_c qw_1228 (gi_c qw_1399 (gi_c qw_1401 (gi_c qw_73 (gi_c qw_1402 gi_n)))))))))))))))))))))))
set_option maxRecDepth 100000 in
theorem qs_X10_plan_r3 : GoodIn lw_tbl wsX10_plan_r3 := gi_c qw_1403 (gi_c qw_1405 (gi_c qw_74 (gi_c qw_1406 gi_n)))
set_option maxRecDepth 100000 in
theorem qs_X10_plan : GoodIn lw_tbl wsX10_plan := gi_c qw_1390 (goodIn_app (goodIn_app (qs_X10_plan_r1) (goodIn_app (qs_X10_plan_r2) (qs_X10_plan_r3))) (qu_X10))
set_option maxRecDepth 100000 in
theorem qs_X10_planned : GoodIn lw_tbl wsX10_planned := gi_c qw_1410 (goodIn_app (gi_c qw_1009 (gi_c qw_1055 (gi_c qw_1056 (gi_c qw_1057 (gi_c qw_1058 (gi_c qw_1176 (gi_c qw_1178 (gi_c qw_37 (gi_c qw_86 (gi_c qw_1179 gi_n)))))))))) (qu_X10))
set_option maxRecDepth 100000 in
theorem qs_X10_vat : GoodIn lw_tbl wsX10_vat := gi_c qw_1414 (goodIn_app (gi_c qw_1013 (gi_c qw_1014 (gi_c qw_1015 (gi_c qw_1016 (gi_c qw_1017 (gi_c qw_1018 (gi_c qw_1172 (gi_c qw_1174 (gi_c qw_36 (gi_c qw_86 (gi_c qw_1175 (gi_c qw_1009 (gi_c qw_1176 (gi_c qw_1178 (gi_c qw_37 (gi_c qw_1179 gi_n)))))))))))))))) (qu_X10))
set_option maxRecDepth 100000 in
theorem qs_X10_about_r1 : GoodIn lw_tbl wsX10_about_r1 := gi_c qw_1022 (gi_c qw_1023 (gi_c qw_1024 (gi_c qw_1025 (gi_c qw_1026 (gi_c qw_1027 (gi_c qw_1213 (gi_c qw_1215 (gi_c qw_41 (gi_c qw_86 (gi_c qw_1216 (gi_c qw_1009 (gi_c qw_1021 (gi_c qw_1176 (gi_c qw_1178 (gi_c qw_37 (gi_c qw_1179 (gi_c qw_1375 (gi_c qw_1377 (gi_c qw_69 (gi_c qw_1378 (gi_c qw_1217 (gi_c qw_1219 (gi_c qw_42 gi_n)))))))))))))))))))))))
set_option maxRecDepth 100000 in
theorem qs_X10_about_r2 : GoodIn lw_tbl wsX10_about_r2 := gi_c qw_1220 gi_n
set_option maxRecDepth 100000 in
theorem qs_X10_about : GoodIn lw_tbl wsX10_about := gi_c qw_1418 (goodIn_app (goodIn_app (qs_X10_about_r1) (qs_X10_about_r2)) (qu_X10))
set_option maxRecDepth 100000 in
theorem qs_X10_count : GoodIn lw_tbl wsX10_count := gi_c qw_1422 (goodIn_app (gi_c qw_1009 (gi_c qw_1010 (gi_c qw_1011 (gi_c qw_1021 (gi_c qw_1012 (gi_c qw_1029 (gi_c qw_1046 (gi_c qw_1176 (gi_c qw_1178 (gi_c qw_37 (gi_c qw_86 (gi_c qw_1179 gi_n)))))))))))) (qu_X10))
set_option maxRecDepth 100000 in
theorem qs_X10_faded_r1 : GoodIn lw_tbl wsX10_faded_r1 := gi_c qw_1180 (gi_c qw_1213 (gi_c qw_1215 (gi_c qw_41 (gi_c qw_86 (gi_c qw_1216 (gi_c qw_1009 (gi_c qw_1021 (gi_c qw_1176 (gi_c qw_1178 (gi_c qw_37 (gi_c qw_1179 (gi_c qw_1427 (gi_c qw_1429 (gi_c qw_75 (gi_c qw_1430 (gi_c qw_1025 (gi_c qw_1217 (gi_c qw_1219 (gi_c qw_42 (gi_c qw_1220 (gi_c qw_1431 (gi_c qw_1433 (gi_c qw_76 gi_n)))))))))))))))))))))))
set_option maxRecDepth 100000 in
theorem qs_X10_faded_r2 : GoodIn lw_tbl wsX10_faded_r2 := gi_c qw_1434 (gi_c qw_1375 (gi_c qw_1377 (gi_c qw_69 (gi_c qw_1378 (gi_c qw_1024 (gi_c qw_1022 gi_n))))))
set_option maxRecDepth 100000 in
theorem qs_X10_faded : GoodIn lw_tbl wsX10_faded := gi_c qw_1426 (goodIn_app (goodIn_app (qs_X10_faded_r1) (qs_X10_faded_r2)) (qu_X10))
set_option maxRecDepth 100000 in
theorem qs_X10_matching_r1 : GoodIn lw_tbl wsX10_matching_r1 := gi_c qw_1180 (gi_c qw_1021 (gi_c qw_1213 (gi_c qw_1215 (gi_c qw_41 (gi_c qw_86 (gi_c qw_1216 (gi_c qw_1009 (gi_c qw_1176 (gi_c qw_1178 (gi_c qw_37 (gi_c qw_1179 (gi_c qw_1427 (gi_c qw_1429 (gi_c qw_75 (gi_c qw_1430 (gi_c qw_1025 (gi_c qw_1217 (gi_c qw_1219 (gi_c qw_42 (gi_c qw_1220 (gi_c qw_1431 (gi_c qw_1433 (gi_c qw_76 gi_n)))))))))))))))))))))))
set_option maxRecDepth 100000 in
theorem qs_X10_matching_r2 : GoodIn lw_tbl wsX10_matching_r2 := gi_c qw_1434 (gi_c qw_1375 (gi_c qw_1377 (gi_c qw_69 (gi_c qw_1378 (gi_c qw_1024 (gi_c qw_1022 gi_n))))))
set_option maxRecDepth 100000 in
theorem qs_X10_matching : GoodIn lw_tbl wsX10_matching := gi_c qw_1438 (goodIn_app (goodIn_app (qs_X10_matching_r1) (qs_X10_matching_r2)) (qu_X10))
set_option maxRecDepth 100000 in
theorem qs_X10_thrown : GoodIn lw_tbl wsX10_thrown := gi_c qw_1167 (goodIn_app (gi_c qw_1009 gi_n) (qu_X10))
set_option maxRecDepth 100000 in
theorem gL_law_X9_init : GoodIn lw_tbl (wsX9_init) := qs_X9_init
set_option maxRecDepth 100000 in
theorem gL_law_X10_init : GoodIn lw_tbl (wsX10_init) := qs_X10_init
set_option maxRecDepth 100000 in
theorem gL_law_L_charge : GoodIn lw_tbl (va_wsS RL 72 yL_charge wsL_charge) := goodIn_app (gi_c qw_410 (gi_c qw_411 (gi_c qw_77 gi_n))) qs_L_charge
set_option maxRecDepth 100000 in
theorem gL_law_L_feed : GoodIn lw_tbl (va_wsS RL 78 yL_feed wsL_feed) := goodIn_app (gi_c qw_489 (gi_c qw_490 (gi_c qw_77 gi_n))) qs_L_feed
set_option maxRecDepth 100000 in
theorem gL_law_L_lime : GoodIn lw_tbl (va_wsS RL 81 yL_lime wsL_lime) := goodIn_app (gi_c qw_520 (gi_c qw_521 (gi_c qw_77 gi_n))) qs_L_lime
set_option maxRecDepth 100000 in
theorem gL_law_L_hours : GoodIn lw_tbl (va_wsS RL 85 yL_hours wsL_hours) := goodIn_app (gi_c qw_531 (gi_c qw_532 (gi_c qw_77 gi_n))) qs_L_hours
set_option maxRecDepth 100000 in
theorem gL_law_L_dip : GoodIn lw_tbl (va_wsS RL 92 yL_dip wsL_dip) := goodIn_app (gi_c qw_556 (gi_c qw_557 (gi_c qw_77 gi_n))) qs_L_dip
set_option maxRecDepth 100000 in
theorem gL_law_L_treat : GoodIn lw_tbl (va_wsS RL 96 yL_treat wsL_treat) := goodIn_app (gi_c qw_587 (gi_c qw_588 (gi_c qw_77 gi_n))) qs_L_treat
set_option maxRecDepth 100000 in
theorem gL_law_L_recipe : GoodIn lw_tbl (va_wsS RL 104 yL_recipe wsL_recipe) := goodIn_app (gi_c qw_615 (gi_c qw_616 (gi_c qw_77 gi_n))) qs_L_recipe
set_option maxRecDepth 100000 in
theorem gL_law_L_fault : GoodIn lw_tbl (va_wsS RL 107 yL_fault wsL_fault) := goodIn_app (gi_c qw_811 (gi_c qw_812 (gi_c qw_77 gi_n))) qs_L_fault
set_option maxRecDepth 100000 in
theorem gL_law_L_run : GoodIn lw_tbl (va_wsS RL 110 yL_run wsL_run) := goodIn_app (gi_c qw_819 (gi_c qw_820 (gi_c qw_77 gi_n))) qs_L_run
set_option maxRecDepth 100000 in
theorem gL_law_L_ran : GoodIn lw_tbl (va_wsS RL 113 yL_ran wsL_ran) := goodIn_app (gi_c qw_899 (gi_c qw_900 (gi_c qw_77 gi_n))) qs_L_ran
set_option maxRecDepth 100000 in
theorem gL_law_L_plan : GoodIn lw_tbl (va_wsS RL 116 yL_plan wsL_plan) := goodIn_app (gi_c qw_906 (gi_c qw_907 (gi_c qw_77 gi_n))) qs_L_plan
set_option maxRecDepth 100000 in
theorem gL_law_L_planned : GoodIn lw_tbl (va_wsS RL 120 yL_planned wsL_planned) := goodIn_app (gi_c qw_938 (gi_c qw_939 (gi_c qw_77 gi_n))) qs_L_planned
set_option maxRecDepth 100000 in
theorem gL_law_L_vat : GoodIn lw_tbl (va_wsS RL 123 yL_vat wsL_vat) := goodIn_app (gi_c qw_946 (gi_c qw_947 (gi_c qw_77 gi_n))) qs_L_vat
set_option maxRecDepth 100000 in
theorem gL_law_L_about : GoodIn lw_tbl (va_wsS RL 126 yL_about wsL_about) := goodIn_app (gi_c qw_953 (gi_c qw_954 (gi_c qw_77 gi_n))) qs_L_about
set_option maxRecDepth 100000 in
theorem gL_law_L_count : GoodIn lw_tbl (va_wsS RL 129 yL_count wsL_count) := goodIn_app (gi_c qw_961 (gi_c qw_962 (gi_c qw_77 gi_n))) qs_L_count
set_option maxRecDepth 100000 in
theorem gL_law_L_faded : GoodIn lw_tbl (va_wsS RL 132 yL_faded wsL_faded) := goodIn_app (gi_c qw_968 (gi_c qw_969 (gi_c qw_77 gi_n))) qs_L_faded
set_option maxRecDepth 100000 in
theorem gL_law_L_matching : GoodIn lw_tbl (va_wsS RL 135 yL_matching wsL_matching) := goodIn_app (gi_c qw_989 (gi_c qw_990 (gi_c qw_77 gi_n))) qs_L_matching
set_option maxRecDepth 100000 in
theorem gL_law_X9_cloth : GoodIn lw_tbl (wsV RL 88 RX9 yX9_cloth wsX9_cloth) := goodIn_app (gi_c qw_397 (gi_c qw_398 (gi_c qw_399 (gi_c qw_78 gi_n)))) qs_X9_cloth
set_option maxRecDepth 100000 in
theorem gL_law_X9_put : GoodIn lw_tbl (wsV RL 99 RX9 yX9_put wsX9_put) := goodIn_app (gi_c qw_402 (gi_c qw_403 (gi_c qw_404 (gi_c qw_78 gi_n)))) qs_X9_put
set_option maxRecDepth 100000 in
theorem gL_law_X10_cloth : GoodIn lw_tbl (wsV RL 91 RX10 yX10_cloth wsX10_cloth) := goodIn_app (gi_c qw_1205 (gi_c qw_1206 (gi_c qw_1207 (gi_c qw_86 gi_n)))) qs_X10_cloth
set_option maxRecDepth 100000 in
theorem gL_law_X10_put : GoodIn lw_tbl (wsV RL 103 RX10 yX10_put wsX10_put) := goodIn_app (gi_c qw_1241 (gi_c qw_1242 (gi_c qw_1243 (gi_c qw_86 gi_n)))) qs_X10_put
set_option maxRecDepth 100000 in
theorem gL_law_X10_charge : GoodIn lw_tbl (wsV RL 77 RX10 yX10_charge wsX10_charge) := goodIn_app (gi_c qw_1168 (gi_c qw_1169 (gi_c qw_1170 (gi_c qw_86 gi_n)))) qs_X10_charge
set_option maxRecDepth 100000 in
theorem gL_law_X10_feed : GoodIn lw_tbl (wsV RL 80 RX10 yX10_feed wsX10_feed) := goodIn_app (gi_c qw_1181 (gi_c qw_1182 (gi_c qw_1183 (gi_c qw_86 gi_n)))) qs_X10_feed
set_option maxRecDepth 100000 in
theorem gL_law_X10_lime : GoodIn lw_tbl (wsV RL 84 RX10 yX10_lime wsX10_lime) := goodIn_app (gi_c qw_1189 (gi_c qw_1190 (gi_c qw_1191 (gi_c qw_86 gi_n)))) qs_X10_lime
set_option maxRecDepth 100000 in
theorem gL_law_X10_hours : GoodIn lw_tbl (wsV RL 87 RX10 yX10_hours wsX10_hours) := goodIn_app (gi_c qw_1197 (gi_c qw_1198 (gi_c qw_1199 (gi_c qw_86 gi_n)))) qs_X10_hours
set_option maxRecDepth 100000 in
theorem gL_law_X10_dip : GoodIn lw_tbl (wsV RL 95 RX10 yX10_dip wsX10_dip) := goodIn_app (gi_c qw_1209 (gi_c qw_1210 (gi_c qw_1211 (gi_c qw_86 gi_n)))) qs_X10_dip
set_option maxRecDepth 100000 in
theorem gL_law_X10_treat : GoodIn lw_tbl (wsV RL 98 RX10 yX10_treat wsX10_treat) := goodIn_app (gi_c qw_1229 (gi_c qw_1230 (gi_c qw_1231 (gi_c qw_86 gi_n)))) qs_X10_treat
set_option maxRecDepth 100000 in
theorem gL_law_X10_recipe : GoodIn lw_tbl (wsV RL 106 RX10 yX10_recipe wsX10_recipe) := goodIn_app (gi_c qw_1249 (gi_c qw_1250 (gi_c qw_1251 (gi_c qw_86 gi_n)))) qs_X10_recipe
set_option maxRecDepth 100000 in
theorem gL_law_X10_fault : GoodIn lw_tbl (wsV RL 109 RX10 yX10_fault wsX10_fault) := goodIn_app (gi_c qw_1343 (gi_c qw_1344 (gi_c qw_1345 (gi_c qw_86 gi_n)))) qs_X10_fault
set_option maxRecDepth 100000 in
theorem gL_law_X10_run : GoodIn lw_tbl (wsV RL 112 RX10 yX10_run wsX10_run) := goodIn_app (gi_c qw_1347 (gi_c qw_1348 (gi_c qw_1349 (gi_c qw_86 gi_n)))) qs_X10_run
set_option maxRecDepth 100000 in
theorem gL_law_X10_ran : GoodIn lw_tbl (wsV RL 115 RX10 yX10_ran wsX10_ran) := goodIn_app (gi_c qw_1383 (gi_c qw_1384 (gi_c qw_1385 (gi_c qw_86 gi_n)))) qs_X10_ran
set_option maxRecDepth 100000 in
theorem gL_law_X10_plan : GoodIn lw_tbl (wsV RL 119 RX10 yX10_plan wsX10_plan) := goodIn_app (gi_c qw_1387 (gi_c qw_1388 (gi_c qw_1389 (gi_c qw_86 gi_n)))) qs_X10_plan
set_option maxRecDepth 100000 in
theorem gL_law_X10_planned : GoodIn lw_tbl (wsV RL 122 RX10 yX10_planned wsX10_planned) := goodIn_app (gi_c qw_1407 (gi_c qw_1408 (gi_c qw_1409 (gi_c qw_86 gi_n)))) qs_X10_planned
set_option maxRecDepth 100000 in
theorem gL_law_X10_vat : GoodIn lw_tbl (wsV RL 125 RX10 yX10_vat wsX10_vat) := goodIn_app (gi_c qw_1411 (gi_c qw_1412 (gi_c qw_1413 (gi_c qw_86 gi_n)))) qs_X10_vat
set_option maxRecDepth 100000 in
theorem gL_law_X10_about : GoodIn lw_tbl (wsV RL 128 RX10 yX10_about wsX10_about) := goodIn_app (gi_c qw_1415 (gi_c qw_1416 (gi_c qw_1417 (gi_c qw_86 gi_n)))) qs_X10_about
set_option maxRecDepth 100000 in
theorem gL_law_X10_count : GoodIn lw_tbl (wsV RL 131 RX10 yX10_count wsX10_count) := goodIn_app (gi_c qw_1419 (gi_c qw_1420 (gi_c qw_1421 (gi_c qw_86 gi_n)))) qs_X10_count
set_option maxRecDepth 100000 in
theorem gL_law_X10_faded : GoodIn lw_tbl (wsV RL 134 RX10 yX10_faded wsX10_faded) := goodIn_app (gi_c qw_1423 (gi_c qw_1424 (gi_c qw_1425 (gi_c qw_86 gi_n)))) qs_X10_faded
set_option maxRecDepth 100000 in
theorem gL_law_X10_matching : GoodIn lw_tbl (wsV RL 137 RX10 yX10_matching wsX10_matching) := goodIn_app (gi_c qw_1435 (gi_c qw_1436 (gi_c qw_1437 (gi_c qw_86 gi_n)))) qs_X10_matching
set_option maxRecDepth 100000 in
theorem gL_law_X10_thrown : GoodIn lw_tbl (wsV RL 138 RX10 yX10_thrown wsX10_thrown) := goodIn_app (gi_c qw_1164 (gi_c qw_1165 (gi_c qw_1166 (gi_c qw_86 gi_n)))) qs_X10_thrown
set_option maxRecDepth 100000 in
theorem iL_X0 : ∀ w ∈ wsX00, w ∈ lw_tbl := fun w h => (qu_X0 w h).1
set_option maxRecDepth 100000 in
theorem iL_X1 : ∀ w ∈ wsX10, w ∈ lw_tbl := fun w h => (qu_X1 w h).1
set_option maxRecDepth 100000 in
theorem iL_X2 : ∀ w ∈ wsX20, w ∈ lw_tbl := fun w h => (qu_X2 w h).1
set_option maxRecDepth 100000 in
theorem iL_X3 : ∀ w ∈ wsX30, w ∈ lw_tbl := fun w h => (qu_X3 w h).1
set_option maxRecDepth 100000 in
theorem iL_X4 : ∀ w ∈ wsX40, w ∈ lw_tbl := fun w h => (qu_X4 w h).1
set_option maxRecDepth 100000 in
theorem iL_X5 : ∀ w ∈ wsX50, w ∈ lw_tbl := fun w h => (qu_X5 w h).1
set_option maxRecDepth 100000 in
theorem iL_X6 : ∀ w ∈ wsX60, w ∈ lw_tbl := fun w h => (qu_X6 w h).1
set_option maxRecDepth 100000 in
theorem iL_X7 : ∀ w ∈ wsX70, w ∈ lw_tbl := fun w h => (qu_X7 w h).1
set_option maxRecDepth 100000 in
theorem iL_X8 : ∀ w ∈ wsX80, w ∈ lw_tbl := fun w h => (qu_X8 w h).1
set_option maxRecDepth 100000 in
theorem iL_X9 : ∀ w ∈ wsX90, w ∈ lw_tbl := fun w h => (qu_X9 w h).1
set_option maxRecDepth 100000 in
theorem iL_X10 : ∀ w ∈ wsX100, w ∈ lw_tbl := fun w h => (qu_X10 w h).1
