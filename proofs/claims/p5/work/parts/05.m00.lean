set_option maxRecDepth 20000 in
theorem ggX10_isVat_X10_right : GoodIn wsX10_isVat wsX10_right := goodIn_m (subW_r _ [6, 1, 7, 8, 9, 10, 11, 12, 13, 14, 15, 16, 17, 18, 19, 20, 21, 22, 23, 24, 25, 26, 27, 28, 29, 30, 31, 32, 33, 34, 35, 36, 37, 38, 39, 40, 41, 42, 43, 44, 45, 46, 47, 48, 49, 50, 51, 52, 53, 54, 55, 56, 57] (by exact rfl)) gwd_X10_right
set_option maxRecDepth 20000 in
theorem gX10_isVat_X10_right : GoodIn wsX10_isVat (wsV RX10 108 RX10 yX10_right wsX10_right) := goodIn_app (goodIn_r _ [2, 3, 4, 5] (by exact rfl) (by decide +kernel)) ggX10_isVat_X10_right
set_option maxRecDepth 20000 in
theorem ggX10_isCloth_X10_right : GoodIn wsX10_isCloth wsX10_right := goodIn_m (subW_r _ [7, 1, 8, 9, 10, 11, 12, 13, 14, 15, 16, 17, 18, 19, 20, 21, 22, 23, 24, 25, 26, 27, 28, 29, 30, 31, 32, 33, 34, 35, 36, 37, 38, 39, 40, 41, 42, 43, 44, 45, 46, 47, 48, 49, 50, 51, 52, 53, 54, 55, 56, 57, 58] (by exact rfl)) gwd_X10_right
set_option maxRecDepth 20000 in
theorem gX10_isCloth_X10_right : GoodIn wsX10_isCloth (wsV RX10 108 RX10 yX10_right wsX10_right) := goodIn_app (goodIn_r _ [3, 4, 5, 6] (by exact rfl) (by decide +kernel)) ggX10_isCloth_X10_right
set_option maxRecDepth 20000 in
theorem ggX10_charge_X10_isVat : GoodIn wsX10_charge wsX10_isVat := goodIn_m (subW_r _ [8, 9, 10, 11, 12, 7, 13, 14, 15, 16, 17, 18, 19, 20, 21, 22, 23, 24, 25, 26, 27, 28, 29, 30, 31, 32, 33, 34, 35, 36, 37, 38, 39, 40, 41, 42, 43, 44, 45, 46, 47, 48, 49, 50, 51, 52, 53, 54, 55, 56, 57, 58, 59, 60, 61, 62, 63, 64] (by exact rfl)) gwd_X10_isVat
set_option maxRecDepth 20000 in
theorem gX10_charge_X10_isVat : GoodIn wsX10_charge (wsV RX10 115 RX10 yX10_isVat wsX10_isVat) := goodIn_app (goodIn_r _ [4, 5, 6, 7] (by exact rfl) (by decide +kernel)) ggX10_charge_X10_isVat
set_option maxRecDepth 20000 in
theorem ggX10_feed_X10_isVat : GoodIn wsX10_feed wsX10_isVat := goodIn_m (subW_r _ [6, 7, 8, 9, 10, 5, 11, 17, 18, 19, 20, 21, 22, 23, 24, 25, 26, 27, 28, 29, 30, 31, 32, 33, 34, 35, 36, 37, 38, 39, 40, 41, 42, 43, 44, 45, 46, 47, 48, 49, 50, 51, 52, 53, 54, 55, 56, 57, 58, 59, 60, 61, 62, 63, 64, 65, 66, 67] (by exact rfl)) gwd_X10_isVat
set_option maxRecDepth 20000 in
theorem gX10_feed_X10_isVat : GoodIn wsX10_feed (wsV RX10 115 RX10 yX10_isVat wsX10_isVat) := goodIn_app (goodIn_r _ [2, 3, 4, 5] (by exact rfl) (by decide +kernel)) ggX10_feed_X10_isVat
set_option maxRecDepth 20000 in
theorem ggX10_feed_X10_right : GoodIn wsX10_feed wsX10_right := goodIn_m (subW_r _ [11, 7, 17, 18, 19, 20, 21, 22, 23, 24, 25, 26, 27, 28, 29, 30, 31, 32, 33, 34, 35, 36, 37, 38, 39, 40, 41, 42, 43, 44, 45, 46, 47, 48, 49, 50, 51, 52, 53, 54, 55, 56, 57, 58, 59, 60, 61, 62, 63, 64, 65, 66, 67] (by exact rfl)) gwd_X10_right
set_option maxRecDepth 20000 in
theorem gX10_feed_X10_right : GoodIn wsX10_feed (wsV RX10 108 RX10 yX10_right wsX10_right) := goodIn_app (goodIn_r _ [8, 9, 10, 5] (by exact rfl) (by decide +kernel)) ggX10_feed_X10_right
set_option maxRecDepth 20000 in
theorem ggX10_feed_X10_feeds : GoodIn wsX10_feed wsX10_feeds := goodIn_m (subW_r _ [15, 16, 1, 17, 18, 19, 20, 21, 22, 23, 24, 25, 26, 27, 28, 29, 30, 31, 32, 33, 34, 35, 36, 37, 38, 39, 40, 41, 42, 43, 44, 45, 46, 47, 48, 49, 50, 51, 52, 53, 54, 55, 56, 57, 58, 59, 60, 61, 62, 63, 64, 65, 66, 67] (by exact rfl)) gwd_X10_feeds
set_option maxRecDepth 20000 in
theorem gX10_feed_X10_feeds : GoodIn wsX10_feed (wsV RX10 123 RX10 yX10_feeds wsX10_feeds) := goodIn_app (goodIn_r _ [12, 13, 14, 5] (by exact rfl) (by decide +kernel)) ggX10_feed_X10_feeds
set_option maxRecDepth 20000 in
theorem ggX10_lime_X10_isVat : GoodIn wsX10_lime wsX10_isVat := goodIn_m (subW_r _ [6, 7, 8, 9, 10, 5, 11, 18, 19, 20, 21, 22, 23, 24, 25, 26, 27, 28, 29, 30, 31, 32, 33, 34, 35, 36, 37, 38, 39, 40, 41, 42, 43, 44, 45, 46, 47, 48, 49, 50, 51, 52, 53, 54, 55, 56, 57, 58, 59, 60, 61, 62, 63, 64, 65, 66, 67, 68] (by exact rfl)) gwd_X10_isVat
set_option maxRecDepth 20000 in
theorem gX10_lime_X10_isVat : GoodIn wsX10_lime (wsV RX10 115 RX10 yX10_isVat wsX10_isVat) := goodIn_app (goodIn_r _ [2, 3, 4, 5] (by exact rfl) (by decide +kernel)) ggX10_lime_X10_isVat
set_option maxRecDepth 20000 in
theorem ggX10_lime_X10_limes : GoodIn wsX10_lime wsX10_limes := goodIn_m (subW_r _ [15, 1, 16, 17, 18, 19, 20, 21, 22, 23, 24, 25, 26, 27, 28, 29, 30, 31, 32, 33, 34, 35, 36, 37, 38, 39, 40, 41, 42, 43, 44, 45, 46, 47, 48, 49, 50, 51, 52, 53, 54, 55, 56, 57, 58, 59, 60, 61, 62, 63, 64, 65, 66, 67, 68] (by exact rfl)) gwd_X10_limes
set_option maxRecDepth 20000 in
theorem gX10_lime_X10_limes : GoodIn wsX10_lime (wsV RX10 127 RX10 yX10_limes wsX10_limes) := goodIn_app (goodIn_r _ [12, 13, 14, 5] (by exact rfl) (by decide +kernel)) ggX10_lime_X10_limes
set_option maxRecDepth 20000 in
theorem ggX10_hours_X10_right : GoodIn wsX10_hours wsX10_right := goodIn_m (subW_r _ [7, 1, 17, 18, 19, 20, 21, 22, 23, 24, 25, 26, 27, 28, 29, 30, 31, 32, 33, 34, 35, 36, 37, 38, 39, 40, 41, 42, 43, 44, 45, 46, 47, 48, 49, 50, 51, 52, 53, 54, 55, 56, 57, 58, 59, 60, 61, 62, 63, 64, 65, 66, 67] (by exact rfl)) gwd_X10_right
set_option maxRecDepth 20000 in
theorem gX10_hours_X10_right : GoodIn wsX10_hours (wsV RX10 108 RX10 yX10_right wsX10_right) := goodIn_app (goodIn_r _ [3, 4, 5, 6] (by exact rfl) (by decide +kernel)) ggX10_hours_X10_right
set_option maxRecDepth 20000 in
theorem ggX10_hours_X10_hour : GoodIn wsX10_hours wsX10_hour := goodIn_m (subW_r _ [11, 2, 12, 13, 14, 15, 16, 17, 18, 19, 20, 21, 22, 23, 24, 25, 26, 27, 28, 29, 30, 31, 32, 33, 34, 35, 36, 37, 38, 39, 40, 41, 42, 43, 44, 45, 46, 47, 48, 49, 50, 51, 52, 53, 54, 55, 56, 57, 58, 59, 60, 61, 62, 63, 64, 65, 66, 67] (by exact rfl)) gwd_X10_hour
set_option maxRecDepth 20000 in
theorem gX10_hours_X10_hour : GoodIn wsX10_hours (wsV RX10 134 RX10 yX10_hour wsX10_hour) := goodIn_app (goodIn_r _ [8, 9, 10, 6] (by exact rfl) (by decide +kernel)) ggX10_hours_X10_hour
set_option maxRecDepth 20000 in
theorem ggX10_dips_X10_moves : GoodIn wsX10_dips wsX10_moves := goodIn_m (subW_r _ [15, 1, 16, 4, 2, 17, 18, 19, 20, 21, 22, 23, 24, 25, 26, 27, 28, 29, 30, 31, 32, 33, 34, 35, 36, 37, 38, 39, 40, 41, 42, 43, 44, 45, 46, 47, 48, 49, 50, 51, 52, 53, 54, 55, 56, 57, 58, 59, 60, 61, 62, 63, 64, 65, 66, 67, 68] (by exact rfl)) gwd_X10_moves
set_option maxRecDepth 20000 in
theorem gX10_dips_X10_moves : GoodIn wsX10_dips (wsV RX10 137 RX10 yX10_moves wsX10_moves) := goodIn_app (goodIn_r _ [11, 12, 13, 14] (by exact rfl) (by decide +kernel)) ggX10_dips_X10_moves
set_option maxRecDepth 20000 in
theorem ggX10_dip_X10_isCloth : GoodIn wsX10_dip wsX10_isCloth := goodIn_m (subW_r _ [6, 7, 8, 9, 10, 11, 5, 12, 41, 42, 43, 44, 45, 46, 47, 48, 49, 50, 51, 52, 53, 54, 55, 56, 57, 58, 59, 60, 61, 62, 63, 64, 65, 66, 67, 68, 69, 70, 71, 72, 73, 74, 75, 76, 77, 78, 79, 80, 81, 82, 83, 84, 85, 86, 87, 88, 89, 90, 91] (by exact rfl)) gwd_X10_isCloth
set_option maxRecDepth 20000 in
theorem gX10_dip_X10_isCloth : GoodIn wsX10_dip (wsV RX10 141 RX10 yX10_isCloth wsX10_isCloth) := goodIn_app (goodIn_r _ [2, 3, 4, 5] (by exact rfl) (by decide +kernel)) ggX10_dip_X10_isCloth
set_option maxRecDepth 20000 in
theorem ggX10_dip_X10_isVat : GoodIn wsX10_dip wsX10_isVat := goodIn_m (subW_r _ [16, 7, 9, 10, 11, 5, 12, 41, 42, 43, 44, 45, 46, 47, 48, 49, 50, 51, 52, 53, 54, 55, 56, 57, 58, 59, 60, 61, 62, 63, 64, 65, 66, 67, 68, 69, 70, 71, 72, 73, 74, 75, 76, 77, 78, 79, 80, 81, 82, 83, 84, 85, 86, 87, 88, 89, 90, 91] (by exact rfl)) gwd_X10_isVat
set_option maxRecDepth 20000 in
theorem gX10_dip_X10_isVat : GoodIn wsX10_dip (wsV RX10 115 RX10 yX10_isVat wsX10_isVat) := goodIn_app (goodIn_r _ [13, 14, 15, 5] (by exact rfl) (by decide +kernel)) ggX10_dip_X10_isVat
set_option maxRecDepth 20000 in
theorem ggX10_dip_X10_right : GoodIn wsX10_dip wsX10_right := goodIn_m (subW_r _ [12, 7, 41, 42, 43, 44, 45, 46, 47, 48, 49, 50, 51, 52, 53, 54, 55, 56, 57, 58, 59, 60, 61, 62, 63, 64, 65, 66, 67, 68, 69, 70, 71, 72, 73, 74, 75, 76, 77, 78, 79, 80, 81, 82, 83, 84, 85, 86, 87, 88, 89, 90, 91] (by exact rfl)) gwd_X10_right
set_option maxRecDepth 20000 in
theorem gX10_dip_X10_right : GoodIn wsX10_dip (wsV RX10 108 RX10 yX10_right wsX10_right) := goodIn_app (goodIn_r _ [9, 10, 11, 5] (by exact rfl) (by decide +kernel)) ggX10_dip_X10_right
set_option maxRecDepth 20000 in
theorem ggX10_dip_X10_isDry : GoodIn wsX10_dip wsX10_isDry := goodIn_m (subW_r _ [20, 21, 41, 42, 43, 44, 45, 46, 47, 48, 49, 50, 51, 52, 53, 54, 55, 56, 57, 58, 59, 60, 61, 62, 63, 64, 65, 66, 67, 68, 69, 70, 71, 72, 73, 74, 75, 76, 77, 78, 79, 80, 81, 82, 83, 84, 85, 86, 87, 88, 89, 90, 91] (by exact rfl)) gwd_X10_isDry
set_option maxRecDepth 20000 in
theorem gX10_dip_X10_isDry : GoodIn wsX10_dip (wsV RX10 144 RX10 yX10_isDry wsX10_isDry) := goodIn_app (goodIn_r _ [17, 18, 19, 5] (by exact rfl) (by decide +kernel)) ggX10_dip_X10_isDry
set_option maxRecDepth 20000 in
theorem ggX10_dip_X10_dips : GoodIn wsX10_dip wsX10_dips := goodIn_m (subW_r _ [25, 26, 27, 28, 1, 29, 30, 31, 32, 33, 34, 35, 36, 37, 5, 38, 39, 40, 41, 42, 43, 44, 45, 46, 47, 48, 49, 50, 51, 52, 53, 54, 55, 56, 57, 58, 59, 60, 61, 62, 63, 64, 65, 66, 67, 68, 69, 70, 71, 72, 73, 74, 75, 76, 77, 78, 79, 80, 81, 82, 83, 84, 85, 86, 87, 88, 89, 90, 91] (by exact rfl)) gwd_X10_dips
set_option maxRecDepth 20000 in
theorem gX10_dip_X10_dips : GoodIn wsX10_dip (wsV RX10 147 RX10 yX10_dips wsX10_dips) := goodIn_app (goodIn_r _ [22, 23, 24, 5] (by exact rfl) (by decide +kernel)) ggX10_dip_X10_dips
set_option maxRecDepth 20000 in
theorem ggX10_treat_X10_isCloth : GoodIn wsX10_treat wsX10_isCloth := goodIn_m (subW_r _ [7, 8, 9, 10, 11, 12, 6, 13, 29, 30, 31, 32, 33, 34, 35, 36, 37, 38, 39, 40, 41, 42, 43, 44, 45, 46, 47, 48, 49, 50, 51, 52, 53, 54, 55, 56, 57, 58, 59, 60, 61, 62, 63, 64, 65, 66, 67, 68, 69, 70, 71, 72, 73, 74, 75, 76, 77, 78, 79] (by exact rfl)) gwd_X10_isCloth
set_option maxRecDepth 20000 in
theorem gX10_treat_X10_isCloth : GoodIn wsX10_treat (wsV RX10 141 RX10 yX10_isCloth wsX10_isCloth) := goodIn_app (goodIn_r _ [3, 4, 5, 6] (by exact rfl) (by decide +kernel)) ggX10_treat_X10_isCloth
set_option maxRecDepth 20000 in
theorem ggX10_treat_X10_right : GoodIn wsX10_treat wsX10_right := goodIn_m (subW_r _ [13, 8, 29, 30, 31, 32, 33, 34, 35, 36, 37, 38, 39, 40, 41, 42, 43, 44, 45, 46, 47, 48, 49, 50, 51, 52, 53, 54, 55, 56, 57, 58, 59, 60, 61, 62, 63, 64, 65, 66, 67, 68, 69, 70, 71, 72, 73, 74, 75, 76, 77, 78, 79] (by exact rfl)) gwd_X10_right
set_option maxRecDepth 20000 in
theorem gX10_treat_X10_right : GoodIn wsX10_treat (wsV RX10 108 RX10 yX10_right wsX10_right) := goodIn_app (goodIn_r _ [10, 11, 12, 6] (by exact rfl) (by decide +kernel)) ggX10_treat_X10_right
set_option maxRecDepth 20000 in
theorem ggX10_treat_X10_isDry : GoodIn wsX10_treat wsX10_isDry := goodIn_m (subW_r _ [17, 1, 29, 30, 31, 32, 33, 34, 35, 36, 37, 38, 39, 40, 41, 42, 43, 44, 45, 46, 47, 48, 49, 50, 51, 52, 53, 54, 55, 56, 57, 58, 59, 60, 61, 62, 63, 64, 65, 66, 67, 68, 69, 70, 71, 72, 73, 74, 75, 76, 77, 78, 79] (by exact rfl)) gwd_X10_isDry
set_option maxRecDepth 20000 in
theorem gX10_treat_X10_isDry : GoodIn wsX10_treat (wsV RX10 144 RX10 yX10_isDry wsX10_isDry) := goodIn_app (goodIn_r _ [14, 15, 16, 6] (by exact rfl) (by decide +kernel)) ggX10_treat_X10_isDry
set_option maxRecDepth 20000 in
theorem ggX10_treat_X10_washes : GoodIn wsX10_treat wsX10_washes := goodIn_m (subW_r _ [21, 22, 23, 24, 29, 30, 31, 32, 33, 34, 35, 36, 37, 38, 39, 40, 41, 42, 43, 44, 45, 46, 47, 48, 49, 50, 51, 52, 53, 54, 55, 56, 57, 58, 59, 60, 61, 62, 63, 64, 65, 66, 67, 68, 69, 70, 71, 72, 73, 74, 75, 76, 77, 78, 79] (by exact rfl)) gwd_X10_washes
set_option maxRecDepth 20000 in
theorem gX10_treat_X10_washes : GoodIn wsX10_treat (wsV RX10 152 RX10 yX10_washes wsX10_washes) := goodIn_app (goodIn_r _ [18, 19, 20, 6] (by exact rfl) (by decide +kernel)) ggX10_treat_X10_washes
set_option maxRecDepth 20000 in
theorem ggX10_treat_X10_airs : GoodIn wsX10_treat wsX10_airs := goodIn_m (subW_r _ [28, 22, 23, 24, 29, 30, 31, 32, 33, 34, 35, 36, 37, 38, 39, 40, 41, 42, 43, 44, 45, 46, 47, 48, 49, 50, 51, 52, 53, 54, 55, 56, 57, 58, 59, 60, 61, 62, 63, 64, 65, 66, 67, 68, 69, 70, 71, 72, 73, 74, 75, 76, 77, 78, 79] (by exact rfl)) gwd_X10_airs
set_option maxRecDepth 20000 in
theorem gX10_treat_X10_airs : GoodIn wsX10_treat (wsV RX10 156 RX10 yX10_airs wsX10_airs) := goodIn_app (goodIn_r _ [25, 26, 27, 6] (by exact rfl) (by decide +kernel)) ggX10_treat_X10_airs
set_option maxRecDepth 20000 in
theorem ggX10_put_X10_lays : GoodIn wsX10_put wsX10_lays := goodIn_m (subW_r _ [7, 8, 2, 9, 10, 11, 12, 13, 14, 15, 16, 17, 18, 19, 20, 21, 22, 23, 24, 25, 26, 27, 28, 29, 30, 31, 32, 33, 34, 35, 36, 37, 38, 39, 40, 41, 42, 43, 44, 45, 46, 47, 48, 49, 50, 51, 52, 53, 54, 55, 56, 57, 58, 59] (by exact rfl)) gwd_X10_lays
set_option maxRecDepth 20000 in
theorem gX10_put_X10_lays : GoodIn wsX10_put (wsV RX10 162 RX10 yX10_lays wsX10_lays) := goodIn_app (goodIn_r _ [3, 4, 5, 6] (by exact rfl) (by decide +kernel)) ggX10_put_X10_lays
set_option maxRecDepth 20000 in
theorem ggX10_word_X10_skip : GoodIn wsX10_word wsX10_skip := goodIn_m (subW_r _ [8, 1, 2, 3, 64, 65, 66, 67, 68, 69, 70, 71, 72, 73, 74, 75, 76, 77, 78, 79, 80, 81, 82, 83, 84, 85, 86, 87, 88, 89, 90, 91, 92, 93, 94, 95, 96, 97, 98, 99, 100, 101, 102, 103, 104, 105, 106, 107, 108, 109, 110, 111, 112, 113, 114] (by exact rfl)) gwd_X10_skip
set_option maxRecDepth 20000 in
theorem gX10_word_X10_skip : GoodIn wsX10_word (wsV RX10 208 RX10 yX10_skip wsX10_skip) := goodIn_app (goodIn_r _ [4, 5, 6, 7] (by exact rfl) (by decide +kernel)) ggX10_word_X10_skip
set_option maxRecDepth 20000 in
theorem ggX10_word_X10_isLetter : GoodIn wsX10_word wsX10_isLetter := goodIn_m (subW_r _ [11] (by exact rfl)) gwd_X10_isLetter
set_option maxRecDepth 20000 in
theorem gX10_word_X10_isLetter : GoodIn wsX10_word (va_wsS RX10 211 yX10_isLetter wsX10_isLetter) := goodIn_app (goodIn_r _ [9, 10, 7] (by exact rfl) (by decide +kernel)) ggX10_word_X10_isLetter
set_option maxRecDepth 20000 in
theorem ggX10_word_X10_nameOf : GoodIn wsX10_word wsX10_nameOf := goodIn_m (subW_r _ [14] (by exact rfl)) gwd_X10_nameOf
set_option maxRecDepth 20000 in
theorem gX10_word_X10_nameOf : GoodIn wsX10_word (va_wsS RX10 214 yX10_nameOf wsX10_nameOf) := goodIn_app (goodIn_r _ [12, 13, 7] (by exact rfl) (by decide +kernel)) ggX10_word_X10_nameOf
set_option maxRecDepth 20000 in
theorem ggX10_word_J0_length_8abf5 : GoodIn wsX10_word wsJ0_length_8abf5 := goodIn_m (subW_r _ [19, 20, 21, 22, 23, 18, 24, 25, 26] (by exact rfl)) gwd_J0_length_8abf5
set_option maxRecDepth 20000 in
theorem gX10_word_J0_length_8abf5 : GoodIn wsX10_word (wsV RX10 218 RJ0 yJ0_length_8abf5 wsJ0_length_8abf5) := goodIn_app (goodIn_r _ [15, 16, 17, 18] (by exact rfl) (by decide +kernel)) ggX10_word_J0_length_8abf5
set_option maxRecDepth 20000 in
theorem ggX10_word_J0_charAt_5068e : GoodIn wsX10_word wsJ0_charAt_5068e := goodIn_m (subW_r _ [30, 20, 31, 32, 33, 18, 34, 25, 26, 35, 36, 37, 38, 39, 40, 41, 42, 43, 44, 45, 46, 47, 48, 49, 50, 51, 52, 53, 54, 55, 56, 57, 58, 59, 60, 61, 62, 63] (by exact rfl)) gwd_J0_charAt_5068e
set_option maxRecDepth 20000 in
theorem gX10_word_J0_charAt_5068e : GoodIn wsX10_word (wsV RX10 224 RJ0 yJ0_charAt_5068e wsJ0_charAt_5068e) := goodIn_app (goodIn_r _ [27, 28, 29, 18] (by exact rfl) (by decide +kernel)) ggX10_word_J0_charAt_5068e
set_option maxRecDepth 20000 in
theorem ggX10_pass_X10_nameOf : GoodIn wsX10_pass wsX10_nameOf := goodIn_m (subW_r _ [5] (by exact rfl)) gwd_X10_nameOf
set_option maxRecDepth 20000 in
theorem gX10_pass_X10_nameOf : GoodIn wsX10_pass (va_wsS RX10 214 yX10_nameOf wsX10_nameOf) := goodIn_app (goodIn_r _ [2, 3, 4] (by exact rfl) (by decide +kernel)) ggX10_pass_X10_nameOf
set_option maxRecDepth 20000 in
theorem ggX10_pass_J0_length_8abf5 : GoodIn wsX10_pass wsJ0_length_8abf5 := goodIn_m (subW_r _ [10, 11, 12, 13, 14, 9, 15, 16, 17] (by exact rfl)) gwd_J0_length_8abf5
set_option maxRecDepth 20000 in
theorem gX10_pass_J0_length_8abf5 : GoodIn wsX10_pass (wsV RX10 218 RJ0 yJ0_length_8abf5 wsJ0_length_8abf5) := goodIn_app (goodIn_r _ [6, 7, 8, 9] (by exact rfl) (by decide +kernel)) ggX10_pass_J0_length_8abf5
set_option maxRecDepth 20000 in
theorem ggX10_isSign_X10_skip : GoodIn wsX10_isSign wsX10_skip := goodIn_m (subW_r _ [8, 1, 2, 3, 9, 10, 11, 12, 13, 14, 15, 16, 17, 18, 19, 20, 21, 22, 23, 24, 25, 26, 27, 28, 29, 30, 31, 32, 33, 34, 35, 36, 37, 38, 39, 40, 41, 42, 43, 44, 45, 46, 47, 48, 49, 50, 51, 52, 53, 54, 55, 56, 57, 58, 59] (by exact rfl)) gwd_X10_skip
set_option maxRecDepth 20000 in
theorem gX10_isSign_X10_skip : GoodIn wsX10_isSign (wsV RX10 208 RX10 yX10_skip wsX10_skip) := goodIn_app (goodIn_r _ [4, 5, 6, 7] (by exact rfl) (by decide +kernel)) ggX10_isSign_X10_skip
