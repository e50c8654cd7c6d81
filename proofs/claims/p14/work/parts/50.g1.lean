set_option maxRecDepth 100000 in
theorem gL_law_L_fault_c0 : GoodIn lw_tbl (((va_wsS RL 107 yL_fault wsL_fault)).take 40) := goodIn_r _ [811, 812, 77, 813, 413, 814, 815, 816, 78, 817, 567, 90, 369, 220, 222, 374, 376, 378, 380, 382, 384, 386, 388, 390, 392, 394, 225, 227, 229, 231, 233, 235, 87, 444, 453, 456, 459, 461, 445, 446] (by decide +kernel) (by decide +kernel)
set_option maxRecDepth 100000 in
theorem gL_law_L_fault_c1 : GoodIn lw_tbl (((va_wsS RL 107 yL_fault wsL_fault).drop 40).take 40) := goodIn_r _ [105, 106, 447, 452, 457, 477, 434, 478, 436, 479, 438, 448, 450, 440, 473, 474, 476, 440, 464, 465, 466, 467, 467, 468, 469, 470, 470, 471, 472, 473, 569, 423, 431, 432, 433, 435, 437, 439, 443, 442] (by decide +kernel) (by decide +kernel)
set_option maxRecDepth 100000 in
theorem gL_law_L_fault_c2 : GoodIn lw_tbl (((va_wsS RL 107 yL_fault wsL_fault).drop 80).take 40) := goodIn_r _ [441] (by decide +kernel) (by decide +kernel)
set_option maxRecDepth 100000 in
theorem gL_law_L_fault : GoodIn lw_tbl (va_wsS RL 107 yL_fault wsL_fault) := goodIn_td 40 gL_law_L_fault_c0 (goodIn_td 40 gL_law_L_fault_c1 (goodIn_dd 40 40 (goodIn_e (by decide +kernel) gL_law_L_fault_c2)))
set_option maxRecDepth 100000 in
theorem gL_law_L_run_c0 : GoodIn lw_tbl (((va_wsS RL 110 yL_run wsL_run)).take 40) := goodIn_r _ [819, 820, 77, 821, 413, 822, 823, 824, 78, 825, 370, 305, 372, 807, 563, 565, 2, 566, 567, 90, 365, 364, 826, 827, 828, 83, 829, 247, 252, 254, 256, 258, 898, 554, 92, 555, 250, 248, 830, 832] (by decide +kernel) (by decide +kernel)
set_option maxRecDepth 100000 in
theorem gL_law_L_run_c1 : GoodIn lw_tbl (((va_wsS RL 110 yL_run wsL_run).drop 40).take 40) := goodIn_r _ [20, 833, 740, 755, 834, 836, 21, 837, 838, 840, 22, 841, 246, 742, 744, 842, 419, 420, 79, 421, 422, 161, 843, 845, 23, 846, 137, 847, 571, 572, 80, 573, 293, 134, 124, 578, 543, 544, 574, 575] (by decide +kernel) (by decide +kernel)
set_option maxRecDepth 100000 in
theorem gL_law_L_run_c2 : GoodIn lw_tbl (((va_wsS RL 110 yL_run wsL_run).drop 80).take 40) := goodIn_r _ [576, 85, 577, 292, 295, 300, 848, 580, 581, 582, 162, 143, 138, 140, 291, 311, 309, 121, 583, 584, 585, 586, 296, 131, 127, 849, 851, 24, 852, 298, 853, 595, 596, 597, 165, 598, 599, 600, 601, 854] (by decide +kernel) (by decide +kernel)
set_option maxRecDepth 100000 in
theorem gL_law_L_run_c3 : GoodIn lw_tbl (((va_wsS RL 110 yL_run wsL_run).drop 120).take 40) := goodIn_r _ [603, 604, 605, 606, 607, 608, 609, 855, 857, 25, 858, 859, 546, 547, 548, 549, 550, 551, 552, 553, 142, 860, 517, 518, 519, 861, 863, 26, 864, 865, 528, 529, 530, 866, 868, 27, 869, 751, 752, 870] (by decide +kernel) (by decide +kernel)
set_option maxRecDepth 100000 in
theorem gL_law_L_run_c4 : GoodIn lw_tbl (((va_wsS RL 110 yL_run wsL_run).drop 160).take 40) := goodIn_r _ [872, 28, 874, 876, 29, 882, 884, 30, 885, 749, 886, 888, 31, 889, 747, 126, 130, 164, 878, 879, 880, 881, 890, 892, 32, 894, 896, 33, 873, 893, 877, 897, 374, 376, 378, 380, 382, 384, 386, 388] (by decide +kernel) (by decide +kernel)
set_option maxRecDepth 100000 in
theorem gL_law_L_run_c5 : GoodIn lw_tbl (((va_wsS RL 110 yL_run wsL_run).drop 200).take 40) := goodIn_r _ [390, 392, 394, 313, 315, 317, 319, 321, 323, 325, 327, 808, 260, 262, 264, 266, 268, 270, 272, 274, 756, 758, 760, 762, 764, 766, 768, 770, 144, 146, 148, 150, 152, 154, 156, 158, 167, 169, 171, 87] (by decide +kernel) (by decide +kernel)
set_option maxRecDepth 100000 in
theorem gL_law_L_run_c6 : GoodIn lw_tbl (((va_wsS RL 110 yL_run wsL_run).drop 240).take 40) := goodIn_r _ [444, 453, 456, 459, 461, 445, 446, 105, 106, 447, 452, 457, 477, 434, 478, 436, 479, 438, 448, 450, 440, 473, 474, 476, 440, 464, 465, 466, 467, 467, 468, 469, 470, 470, 471, 472, 473, 569, 423, 431] (by decide +kernel) (by decide +kernel)
set_option maxRecDepth 100000 in
theorem gL_law_L_run_c7 : GoodIn lw_tbl (((va_wsS RL 110 yL_run wsL_run).drop 280).take 40) := goodIn_r _ [432, 433, 435, 437, 439, 443, 442, 441, 87, 444, 453, 456, 459, 461, 445, 446, 105, 106, 447, 452, 457, 477, 434, 478, 436, 479, 438, 448, 450, 440, 473, 474, 476, 440, 464, 465, 466, 467, 467, 468] (by decide +kernel) (by decide +kernel)
set_option maxRecDepth 100000 in
theorem gL_law_L_run_c8 : GoodIn lw_tbl (((va_wsS RL 110 yL_run wsL_run).drop 320).take 40) := goodIn_r _ [469, 470, 470, 471, 472, 473, 463, 423, 431, 432, 433, 435, 437, 439, 443, 442, 441] (by decide +kernel) (by decide +kernel)
set_option maxRecDepth 100000 in
theorem gL_law_L_run : GoodIn lw_tbl (va_wsS RL 110 yL_run wsL_run) := goodIn_td 40 gL_law_L_run_c0 (goodIn_td 40 gL_law_L_run_c1 (goodIn_dd 40 40 (goodIn_td 40 gL_law_L_run_c2 (goodIn_dd 80 40 (goodIn_td 40 gL_law_L_run_c3 (goodIn_dd 120 40 (goodIn_td 40 gL_law_L_run_c4 (goodIn_dd 160 40 (goodIn_td 40 gL_law_L_run_c5 (goodIn_dd 200 40 (goodIn_td 40 gL_law_L_run_c6 (goodIn_dd 240 40 (goodIn_td 40 gL_law_L_run_c7 (goodIn_dd 280 40 (goodIn_e (by decide +kernel) gL_law_L_run_c8)))))))))))))))
set_option maxRecDepth 100000 in
theorem gL_law_L_ran_c0 : GoodIn lw_tbl (((va_wsS RL 113 yL_ran wsL_ran)).take 40) := goodIn_r _ [899, 900, 77, 901, 413, 902, 903, 904, 78, 905, 567, 90, 372, 249, 251, 253, 255, 257, 259, 374, 376, 378, 380, 382, 384, 386, 388, 390, 392, 394, 260, 262, 264, 266, 268, 270, 272, 274, 87, 444] (by decide +kernel) (by decide +kernel)
set_option maxRecDepth 100000 in
theorem gL_law_L_ran_c1 : GoodIn lw_tbl (((va_wsS RL 113 yL_ran wsL_ran).drop 40).take 40) := goodIn_r _ [453, 456, 459, 461, 445, 446, 105, 106, 447, 452, 457, 477, 434, 478, 436, 479, 438, 448, 450, 440, 473, 474, 476, 440, 464, 465, 466, 467, 467, 468, 469, 470, 470, 471, 472, 473, 569, 423, 431, 432] (by decide +kernel) (by decide +kernel)
set_option maxRecDepth 100000 in
theorem gL_law_L_ran_c2 : GoodIn lw_tbl (((va_wsS RL 113 yL_ran wsL_ran).drop 80).take 40) := goodIn_r _ [433, 435, 437, 439, 443, 442, 441] (by decide +kernel) (by decide +kernel)
set_option maxRecDepth 100000 in
theorem gL_law_L_ran : GoodIn lw_tbl (va_wsS RL 113 yL_ran wsL_ran) := goodIn_td 40 gL_law_L_ran_c0 (goodIn_td 40 gL_law_L_ran_c1 (goodIn_dd 40 40 (goodIn_e (by decide +kernel) gL_law_L_ran_c2)))
set_option maxRecDepth 100000 in
theorem gL_law_L_plan_c0 : GoodIn lw_tbl (((va_wsS RL 116 yL_plan wsL_plan)).take 40) := goodIn_r _ [906, 907, 77, 908, 413, 492, 909, 910, 911, 78, 912, 305, 373, 563, 565, 2, 566, 567, 90, 365, 364, 497, 498, 499, 500, 91, 913, 914, 915, 84, 916, 334, 335, 332, 331, 333, 336, 917, 419, 420] (by decide +kernel) (by decide +kernel)
set_option maxRecDepth 100000 in
theorem gL_law_L_plan_c1 : GoodIn lw_tbl (((va_wsS RL 116 yL_plan wsL_plan).drop 40).take 40) := goodIn_r _ [79, 421, 422, 161, 918, 919, 920, 80, 921, 124, 127, 131, 134, 922, 923, 924, 85, 925, 292, 295, 300, 926, 928, 34, 929, 297, 930, 879, 880, 881, 931, 933, 35, 934, 125, 128, 132, 136, 301, 338] (by decide +kernel) (by decide +kernel)
set_option maxRecDepth 100000 in
theorem gL_law_L_plan_c2 : GoodIn lw_tbl (((va_wsS RL 116 yL_plan wsL_plan).drop 80).take 40) := goodIn_r _ [122, 340, 342, 935, 571, 572, 573, 293, 578, 543, 92, 544, 574, 575, 576, 577, 936, 584, 585, 586, 296, 937, 599, 600, 601, 313, 315, 317, 319, 321, 323, 325, 327, 374, 376, 378, 380, 382, 384, 386] (by decide +kernel) (by decide +kernel)
set_option maxRecDepth 100000 in
theorem gL_law_L_plan_c3 : GoodIn lw_tbl (((va_wsS RL 116 yL_plan wsL_plan).drop 120).take 40) := goodIn_r _ [388, 390, 392, 394, 344, 346, 348, 350, 352, 354, 356, 358, 360, 167, 169, 171, 144, 146, 148, 150, 152, 154, 156, 158, 87, 444, 453, 456, 459, 461, 445, 446, 105, 106, 447, 452, 457, 477, 434, 478] (by decide +kernel) (by decide +kernel)
set_option maxRecDepth 100000 in
theorem gL_law_L_plan_c4 : GoodIn lw_tbl (((va_wsS RL 116 yL_plan wsL_plan).drop 160).take 40) := goodIn_r _ [436, 479, 438, 448, 450, 440, 473, 474, 476, 440, 464, 465, 466, 467, 467, 468, 469, 470, 470, 471, 472, 473, 569, 423, 431, 432, 433, 435, 437, 439, 443, 442, 441, 87, 444, 453, 456, 459, 461, 445] (by decide +kernel) (by decide +kernel)
set_option maxRecDepth 100000 in
theorem gL_law_L_plan_c5 : GoodIn lw_tbl (((va_wsS RL 116 yL_plan wsL_plan).drop 200).take 40) := goodIn_r _ [446, 105, 106, 447, 452, 457, 477, 434, 478, 436, 479, 438, 448, 450, 440, 473, 474, 476, 440, 511, 512, 513, 467, 467, 468, 469, 470, 470, 471, 472, 473, 510, 501, 503, 455, 504, 505, 506, 507, 443] (by decide +kernel) (by decide +kernel)
set_option maxRecDepth 100000 in
theorem gL_law_L_plan_c6 : GoodIn lw_tbl (((va_wsS RL 116 yL_plan wsL_plan).drop 240).take 40) := goodIn_r _ [442, 508, 87, 444, 453, 456, 459, 461, 445, 446, 105, 106, 447, 452, 457, 477, 434, 478, 436, 479, 438, 448, 450, 440, 473, 474, 476, 440, 464, 465, 466, 467, 467, 468, 469, 470, 470, 471, 472, 473] (by decide +kernel) (by decide +kernel)
set_option maxRecDepth 100000 in
theorem gL_law_L_plan_c7 : GoodIn lw_tbl (((va_wsS RL 116 yL_plan wsL_plan).drop 280).take 40) := goodIn_r _ [463, 423, 431, 432, 433, 435, 437, 439, 443, 442, 441] (by decide +kernel) (by decide +kernel)
set_option maxRecDepth 100000 in
theorem gL_law_L_plan : GoodIn lw_tbl (va_wsS RL 116 yL_plan wsL_plan) := goodIn_td 40 gL_law_L_plan_c0 (goodIn_td 40 gL_law_L_plan_c1 (goodIn_dd 40 40 (goodIn_td 40 gL_law_L_plan_c2 (goodIn_dd 80 40 (goodIn_td 40 gL_law_L_plan_c3 (goodIn_dd 120 40 (goodIn_td 40 gL_law_L_plan_c4 (goodIn_dd 160 40 (goodIn_td 40 gL_law_L_plan_c5 (goodIn_dd 200 40 (goodIn_td 40 gL_law_L_plan_c6 (goodIn_dd 240 40 (goodIn_e (by decide +kernel) gL_law_L_plan_c7)))))))))))))
set_option maxRecDepth 100000 in
theorem gL_law_L_planned_c0 : GoodIn lw_tbl (((va_wsS RL 124 yL_planned wsL_planned)).take 40) := goodIn_r _ [938, 939, 77, 940, 413, 941, 942, 943, 78, 944, 567, 90, 373, 337, 339, 341, 343, 374, 376, 378, 380, 382, 384, 386, 388, 390, 392, 394, 344, 346, 348, 350, 352, 354, 356, 358, 360, 87, 444, 453] (by decide +kernel) (by decide +kernel)
set_option maxRecDepth 100000 in
theorem gL_law_L_planned_c1 : GoodIn lw_tbl (((va_wsS RL 124 yL_planned wsL_planned).drop 40).take 40) := goodIn_r _ [456, 459, 461, 445, 446, 105, 106, 447, 452, 457, 477, 434, 478, 436, 479, 438, 448, 450, 440, 473, 474, 476, 440, 464, 465, 466, 467, 467, 468, 469, 470, 470, 471, 472, 473, 569, 423, 431, 432, 433] (by decide +kernel) (by decide +kernel)
set_option maxRecDepth 100000 in
theorem gL_law_L_planned_c2 : GoodIn lw_tbl (((va_wsS RL 124 yL_planned wsL_planned).drop 80).take 40) := goodIn_r _ [435, 437, 439, 443, 442, 441] (by decide +kernel) (by decide +kernel)
set_option maxRecDepth 100000 in
theorem gL_law_L_planned : GoodIn lw_tbl (va_wsS RL 124 yL_planned wsL_planned) := goodIn_td 40 gL_law_L_planned_c0 (goodIn_td 40 gL_law_L_planned_c1 (goodIn_dd 40 40 (goodIn_e (by decide +kernel) gL_law_L_planned_c2)))
set_option maxRecDepth 100000 in
theorem gL_law_L_vat_c0 : GoodIn lw_tbl (((va_wsS RL 127 yL_vat wsL_vat)).take 40) := goodIn_r _ [946, 947, 77, 948, 413, 949, 950, 951, 78, 952, 567, 90, 363, 123, 129, 133, 135, 139, 141, 418, 419, 420, 79, 421, 422, 161, 374, 376, 378, 380, 382, 384, 386, 388, 390, 392, 394, 144, 146, 148] (by decide +kernel) (by decide +kernel)
set_option maxRecDepth 100000 in
theorem gL_law_L_vat_c1 : GoodIn lw_tbl (((va_wsS RL 127 yL_vat wsL_vat).drop 40).take 40) := goodIn_r _ [150, 152, 154, 156, 158, 167, 169, 171, 87, 444, 453, 456, 459, 461, 445, 446, 105, 106, 447, 452, 457, 477, 434, 478, 436, 479, 438, 448, 450, 440, 473, 474, 476, 440, 464, 465, 466, 467, 467, 468] (by decide +kernel) (by decide +kernel)
set_option maxRecDepth 100000 in
theorem gL_law_L_vat_c2 : GoodIn lw_tbl (((va_wsS RL 127 yL_vat wsL_vat).drop 80).take 40) := goodIn_r _ [469, 470, 470, 471, 472, 473, 569, 423, 431, 432, 433, 435, 437, 439, 443, 442, 441, 87, 444, 453, 456, 459, 461, 445, 446, 105, 106, 447, 452, 457, 477, 434, 478, 436, 479, 438, 448, 450, 440, 473] (by decide +kernel) (by decide +kernel)
set_option maxRecDepth 100000 in
theorem gL_law_L_vat_c3 : GoodIn lw_tbl (((va_wsS RL 127 yL_vat wsL_vat).drop 120).take 40) := goodIn_r _ [474, 476, 440, 464, 465, 466, 467, 467, 468, 469, 470, 470, 471, 472, 473, 463, 423, 431, 432, 433, 435, 437, 439, 443, 442, 441] (by decide +kernel) (by decide +kernel)
set_option maxRecDepth 100000 in
theorem gL_law_L_vat : GoodIn lw_tbl (va_wsS RL 127 yL_vat wsL_vat) := goodIn_td 40 gL_law_L_vat_c0 (goodIn_td 40 gL_law_L_vat_c1 (goodIn_dd 40 40 (goodIn_td 40 gL_law_L_vat_c2 (goodIn_dd 80 40 (goodIn_e (by decide +kernel) gL_law_L_vat_c3)))))
set_option maxRecDepth 100000 in
theorem gL_law_L_about_c0 : GoodIn lw_tbl (((va_wsS RL 130 yL_about wsL_about)).take 40) := goodIn_r _ [953, 954, 77, 955, 413, 956, 957, 958, 78, 959, 567, 90, 294, 299, 302, 305, 308, 310, 312, 563, 565, 2, 566, 365, 364, 960, 879, 880, 85, 881, 292, 300, 313, 315, 317, 319, 321, 323, 325, 327] (by decide +kernel) (by decide +kernel)
set_option maxRecDepth 100000 in
theorem gL_law_L_about_c1 : GoodIn lw_tbl (((va_wsS RL 130 yL_about wsL_about).drop 40).take 40) := goodIn_r _ [374, 376, 378, 380, 382, 384, 386, 388, 390, 392, 394, 87, 444, 453, 456, 459, 461, 445, 446, 105, 106, 447, 452, 457, 477, 434, 478, 436, 479, 438, 448, 450, 440, 473, 474, 476, 440, 464, 465, 466] (by decide +kernel) (by decide +kernel)
set_option maxRecDepth 100000 in
theorem gL_law_L_about_c2 : GoodIn lw_tbl (((va_wsS RL 130 yL_about wsL_about).drop 80).take 40) := goodIn_r _ [467, 467, 468, 469, 470, 470, 471, 472, 473, 569, 423, 431, 432, 433, 435, 437, 439, 443, 442, 441] (by decide +kernel) (by decide +kernel)
set_option maxRecDepth 100000 in
theorem gL_law_L_about : GoodIn lw_tbl (va_wsS RL 130 yL_about wsL_about) := goodIn_td 40 gL_law_L_about_c0 (goodIn_td 40 gL_law_L_about_c1 (goodIn_dd 40 40 (goodIn_e (by decide +kernel) gL_law_L_about_c2)))
set_option maxRecDepth 100000 in
theorem gL_law_L_count_c0 : GoodIn lw_tbl (((va_wsS RL 133 yL_count wsL_count)).take 40) := goodIn_r _ [961, 962, 77, 963, 413, 964, 965, 966, 78, 967, 567, 90, 363, 163, 166, 365, 366, 368, 371, 374, 376, 378, 380, 382, 384, 386, 388, 390, 392, 394, 167, 169, 171, 87, 444, 453, 456, 459, 461, 445] (by decide +kernel) (by decide +kernel)
set_option maxRecDepth 100000 in
theorem gL_law_L_count_c1 : GoodIn lw_tbl (((va_wsS RL 133 yL_count wsL_count).drop 40).take 40) := goodIn_r _ [446, 105, 106, 447, 452, 457, 477, 434, 478, 436, 479, 438, 448, 450, 440, 473, 474, 476, 440, 464, 465, 466, 467, 467, 468, 469, 470, 470, 471, 472, 473, 569, 423, 431, 432, 433, 435, 437, 439, 443] (by decide +kernel) (by decide +kernel)
set_option maxRecDepth 100000 in
theorem gL_law_L_count_c2 : GoodIn lw_tbl (((va_wsS RL 133 yL_count wsL_count).drop 80).take 40) := goodIn_r _ [442, 441] (by decide +kernel) (by decide +kernel)
set_option maxRecDepth 100000 in
theorem gL_law_L_count : GoodIn lw_tbl (va_wsS RL 133 yL_count wsL_count) := goodIn_td 40 gL_law_L_count_c0 (goodIn_td 40 gL_law_L_count_c1 (goodIn_dd 40 40 (goodIn_e (by decide +kernel) gL_law_L_count_c2)))
set_option maxRecDepth 100000 in
theorem gL_law_L_faded_c0 : GoodIn lw_tbl (((va_wsS RL 136 yL_faded wsL_faded)).take 40) := goodIn_r _ [968, 969, 77, 970, 413, 492, 971, 972, 973, 78, 974, 488, 563, 565, 2, 566, 567, 90, 365, 364, 497, 498, 499, 500, 91, 975, 976, 977, 85, 978, 303, 306, 979, 980, 981, 982, 984, 554, 92, 555] (by decide +kernel) (by decide +kernel)
set_option maxRecDepth 100000 in
theorem gL_law_L_faded_c1 : GoodIn lw_tbl (((va_wsS RL 136 yL_faded wsL_faded).drop 40).take 40) := goodIn_r _ [983, 879, 880, 881, 292, 300, 985, 986, 987, 988, 374, 376, 378, 380, 382, 384, 386, 388, 390, 392, 394, 313, 315, 317, 319, 321, 323, 325, 327, 87, 444, 453, 456, 459, 461, 445, 446, 105, 106, 447] (by decide +kernel) (by decide +kernel)
set_option maxRecDepth 100000 in
theorem gL_law_L_faded_c2 : GoodIn lw_tbl (((va_wsS RL 136 yL_faded wsL_faded).drop 80).take 40) := goodIn_r _ [452, 457, 477, 434, 478, 436, 479, 438, 448, 450, 440, 473, 474, 476, 440, 464, 465, 466, 467, 467, 468, 469, 470, 470, 471, 472, 473, 569, 423, 431, 432, 433, 435, 437, 439, 443, 442, 441, 87, 444] (by decide +kernel) (by decide +kernel)
set_option maxRecDepth 100000 in
theorem gL_law_L_faded_c3 : GoodIn lw_tbl (((va_wsS RL 136 yL_faded wsL_faded).drop 120).take 40) := goodIn_r _ [453, 456, 459, 461, 445, 446, 105, 106, 447, 452, 457, 477, 434, 478, 436, 479, 438, 448, 450, 440, 473, 474, 476, 440, 511, 512, 513, 467, 467, 468, 469, 470, 470, 471, 472, 473, 510, 501, 503, 455] (by decide +kernel) (by decide +kernel)
set_option maxRecDepth 100000 in
theorem gL_law_L_faded_c4 : GoodIn lw_tbl (((va_wsS RL 136 yL_faded wsL_faded).drop 160).take 40) := goodIn_r _ [504, 505, 506, 507, 443, 442, 508] (by decide +kernel) (by decide +kernel)
set_option maxRecDepth 100000 in
theorem gL_law_L_faded : GoodIn lw_tbl (va_wsS RL 136 yL_faded wsL_faded) := goodIn_td 40 gL_law_L_faded_c0 (goodIn_td 40 gL_law_L_faded_c1 (goodIn_dd 40 40 (goodIn_td 40 gL_law_L_faded_c2 (goodIn_dd 80 40 (goodIn_td 40 gL_law_L_faded_c3 (goodIn_dd 120 40 (goodIn_e (by decide +kernel) gL_law_L_faded_c4)))))))
