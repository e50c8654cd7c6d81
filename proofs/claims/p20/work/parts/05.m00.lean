set_option maxRecDepth 20000 in
theorem ggX10_isVat_X10_right : GoodIn wsX10_isVat wsX10_right := goodIn_m (subW_q _ [(6, 1), (1, 1), (7, 51)] (by exact rfl)) gwd_X10_right
set_option maxRecDepth 20000 in
theorem gX10_isVat_X10_right : GoodIn wsX10_isVat (wsV RX10 108 RX10 yX10_right wsX10_right) := goodIn_app (goodIn_r _ [2, 3, 4, 5] (by exact rfl) (by decide +kernel)) ggX10_isVat_X10_right
set_option maxRecDepth 20000 in
theorem ggX10_isCloth_X10_right : GoodIn wsX10_isCloth wsX10_right := goodIn_m (subW_q _ [(7, 1), (1, 1), (8, 51)] (by exact rfl)) gwd_X10_right
set_option maxRecDepth 20000 in
theorem gX10_isCloth_X10_right : GoodIn wsX10_isCloth (wsV RX10 108 RX10 yX10_right wsX10_right) := goodIn_app (goodIn_r _ [3, 4, 5, 6] (by exact rfl) (by decide +kernel)) ggX10_isCloth_X10_right
set_option maxRecDepth 20000 in
theorem ggX10_charge_X10_isVat : GoodIn wsX10_charge wsX10_isVat := goodIn_m (subW_q _ [(8, 5), (7, 1), (13, 52)] (by exact rfl)) gwd_X10_isVat
set_option maxRecDepth 20000 in
theorem gX10_charge_X10_isVat : GoodIn wsX10_charge (wsV RX10 115 RX10 yX10_isVat wsX10_isVat) := goodIn_app (goodIn_r _ [4, 5, 6, 7] (by exact rfl) (by decide +kernel)) ggX10_charge_X10_isVat
set_option maxRecDepth 20000 in
theorem ggX10_feed_X10_isVat : GoodIn wsX10_feed wsX10_isVat := goodIn_m (subW_q _ [(6, 5), (5, 1), (11, 1), (17, 51)] (by exact rfl)) gwd_X10_isVat
set_option maxRecDepth 20000 in
theorem gX10_feed_X10_isVat : GoodIn wsX10_feed (wsV RX10 115 RX10 yX10_isVat wsX10_isVat) := goodIn_app (goodIn_r _ [2, 3, 4, 5] (by exact rfl) (by decide +kernel)) ggX10_feed_X10_isVat
set_option maxRecDepth 20000 in
theorem ggX10_feed_X10_right : GoodIn wsX10_feed wsX10_right := goodIn_m (subW_q _ [(11, 1), (7, 1), (17, 51)] (by exact rfl)) gwd_X10_right
set_option maxRecDepth 20000 in
theorem gX10_feed_X10_right : GoodIn wsX10_feed (wsV RX10 108 RX10 yX10_right wsX10_right) := goodIn_app (goodIn_r _ [8, 9, 10, 5] (by exact rfl) (by decide +kernel)) ggX10_feed_X10_right
set_option maxRecDepth 20000 in
theorem ggX10_feed_X10_feeds : GoodIn wsX10_feed wsX10_feeds := goodIn_m (subW_q _ [(15, 2), (1, 1), (17, 51)] (by exact rfl)) gwd_X10_feeds
set_option maxRecDepth 20000 in
theorem gX10_feed_X10_feeds : GoodIn wsX10_feed (wsV RX10 123 RX10 yX10_feeds wsX10_feeds) := goodIn_app (goodIn_r _ [12, 13, 14, 5] (by exact rfl) (by decide +kernel)) ggX10_feed_X10_feeds
set_option maxRecDepth 20000 in
theorem ggX10_lime_X10_isVat : GoodIn wsX10_lime wsX10_isVat := goodIn_m (subW_q _ [(6, 5), (5, 1), (11, 1), (18, 51)] (by exact rfl)) gwd_X10_isVat
set_option maxRecDepth 20000 in
theorem gX10_lime_X10_isVat : GoodIn wsX10_lime (wsV RX10 115 RX10 yX10_isVat wsX10_isVat) := goodIn_app (goodIn_r _ [2, 3, 4, 5] (by exact rfl) (by decide +kernel)) ggX10_lime_X10_isVat
set_option maxRecDepth 20000 in
theorem ggX10_lime_X10_limes : GoodIn wsX10_lime wsX10_limes := goodIn_m (subW_q _ [(15, 1), (1, 1), (16, 53)] (by exact rfl)) gwd_X10_limes
set_option maxRecDepth 20000 in
theorem gX10_lime_X10_limes : GoodIn wsX10_lime (wsV RX10 127 RX10 yX10_limes wsX10_limes) := goodIn_app (goodIn_r _ [12, 13, 14, 5] (by exact rfl) (by decide +kernel)) ggX10_lime_X10_limes
set_option maxRecDepth 20000 in
theorem ggX10_hours_X10_right : GoodIn wsX10_hours wsX10_right := goodIn_m (subW_q _ [(7, 1), (1, 1), (17, 51)] (by exact rfl)) gwd_X10_right
set_option maxRecDepth 20000 in
theorem gX10_hours_X10_right : GoodIn wsX10_hours (wsV RX10 108 RX10 yX10_right wsX10_right) := goodIn_app (goodIn_r _ [3, 4, 5, 6] (by exact rfl) (by decide +kernel)) ggX10_hours_X10_right
set_option maxRecDepth 20000 in
theorem ggX10_hours_X10_hour : GoodIn wsX10_hours wsX10_hour := goodIn_m (subW_q _ [(11, 1), (2, 1), (12, 56)] (by exact rfl)) gwd_X10_hour
set_option maxRecDepth 20000 in
theorem gX10_hours_X10_hour : GoodIn wsX10_hours (wsV RX10 134 RX10 yX10_hour wsX10_hour) := goodIn_app (goodIn_r _ [8, 9, 10, 6] (by exact rfl) (by decide +kernel)) ggX10_hours_X10_hour
set_option maxRecDepth 20000 in
theorem ggX10_dips_X10_moves : GoodIn wsX10_dips wsX10_moves := goodIn_m (subW_q _ [(15, 1), (1, 1), (16, 1), (4, 1), (2, 1), (17, 52)] (by exact rfl)) gwd_X10_moves
set_option maxRecDepth 20000 in
theorem gX10_dips_X10_moves : GoodIn wsX10_dips (wsV RX10 137 RX10 yX10_moves wsX10_moves) := goodIn_app (goodIn_r _ [11, 12, 13, 14] (by exact rfl) (by decide +kernel)) ggX10_dips_X10_moves
set_option maxRecDepth 20000 in
theorem ggX10_dip_X10_isCloth : GoodIn wsX10_dip wsX10_isCloth := goodIn_m (subW_q _ [(6, 6), (5, 1), (12, 1), (41, 51)] (by exact rfl)) gwd_X10_isCloth
set_option maxRecDepth 20000 in
theorem gX10_dip_X10_isCloth : GoodIn wsX10_dip (wsV RX10 141 RX10 yX10_isCloth wsX10_isCloth) := goodIn_app (goodIn_r _ [2, 3, 4, 5] (by exact rfl) (by decide +kernel)) ggX10_dip_X10_isCloth
set_option maxRecDepth 20000 in
theorem ggX10_dip_X10_isVat : GoodIn wsX10_dip wsX10_isVat := goodIn_m (subW_q _ [(16, 1), (7, 1), (9, 3), (5, 1), (12, 1), (41, 51)] (by exact rfl)) gwd_X10_isVat
set_option maxRecDepth 20000 in
theorem gX10_dip_X10_isVat : GoodIn wsX10_dip (wsV RX10 115 RX10 yX10_isVat wsX10_isVat) := goodIn_app (goodIn_r _ [13, 14, 15, 5] (by exact rfl) (by decide +kernel)) ggX10_dip_X10_isVat
set_option maxRecDepth 20000 in
theorem ggX10_dip_X10_right : GoodIn wsX10_dip wsX10_right := goodIn_m (subW_q _ [(12, 1), (7, 1), (41, 51)] (by exact rfl)) gwd_X10_right
set_option maxRecDepth 20000 in
theorem gX10_dip_X10_right : GoodIn wsX10_dip (wsV RX10 108 RX10 yX10_right wsX10_right) := goodIn_app (goodIn_r _ [9, 10, 11, 5] (by exact rfl) (by decide +kernel)) ggX10_dip_X10_right
set_option maxRecDepth 20000 in
theorem ggX10_dip_X10_isDry : GoodIn wsX10_dip wsX10_isDry := goodIn_m (subW_q _ [(20, 2), (41, 51)] (by exact rfl)) gwd_X10_isDry
set_option maxRecDepth 20000 in
theorem gX10_dip_X10_isDry : GoodIn wsX10_dip (wsV RX10 144 RX10 yX10_isDry wsX10_isDry) := goodIn_app (goodIn_r _ [17, 18, 19, 5] (by exact rfl) (by decide +kernel)) ggX10_dip_X10_isDry
set_option maxRecDepth 20000 in
theorem ggX10_dip_X10_dips : GoodIn wsX10_dip wsX10_dips := goodIn_m (subW_q _ [(25, 4), (1, 1), (29, 9), (5, 1), (38, 54)] (by exact rfl)) gwd_X10_dips
set_option maxRecDepth 20000 in
theorem gX10_dip_X10_dips : GoodIn wsX10_dip (wsV RX10 147 RX10 yX10_dips wsX10_dips) := goodIn_app (goodIn_r _ [22, 23, 24, 5] (by exact rfl) (by decide +kernel)) ggX10_dip_X10_dips
set_option maxRecDepth 20000 in
theorem ggX10_treat_X10_isCloth : GoodIn wsX10_treat wsX10_isCloth := goodIn_m (subW_q _ [(7, 6), (6, 1), (13, 1), (29, 51)] (by exact rfl)) gwd_X10_isCloth
set_option maxRecDepth 20000 in
theorem gX10_treat_X10_isCloth : GoodIn wsX10_treat (wsV RX10 141 RX10 yX10_isCloth wsX10_isCloth) := goodIn_app (goodIn_r _ [3, 4, 5, 6] (by exact rfl) (by decide +kernel)) ggX10_treat_X10_isCloth
set_option maxRecDepth 20000 in
theorem ggX10_treat_X10_right : GoodIn wsX10_treat wsX10_right := goodIn_m (subW_q _ [(13, 1), (8, 1), (29, 51)] (by exact rfl)) gwd_X10_right
set_option maxRecDepth 20000 in
theorem gX10_treat_X10_right : GoodIn wsX10_treat (wsV RX10 108 RX10 yX10_right wsX10_right) := goodIn_app (goodIn_r _ [10, 11, 12, 6] (by exact rfl) (by decide +kernel)) ggX10_treat_X10_right
set_option maxRecDepth 20000 in
theorem ggX10_treat_X10_isDry : GoodIn wsX10_treat wsX10_isDry := goodIn_m (subW_q _ [(17, 1), (1, 1), (29, 51)] (by exact rfl)) gwd_X10_isDry
set_option maxRecDepth 20000 in
theorem gX10_treat_X10_isDry : GoodIn wsX10_treat (wsV RX10 144 RX10 yX10_isDry wsX10_isDry) := goodIn_app (goodIn_r _ [14, 15, 16, 6] (by exact rfl) (by decide +kernel)) ggX10_treat_X10_isDry
set_option maxRecDepth 20000 in
theorem ggX10_treat_X10_washes : GoodIn wsX10_treat wsX10_washes := goodIn_m (subW_q _ [(21, 4), (29, 51)] (by exact rfl)) gwd_X10_washes
set_option maxRecDepth 20000 in
theorem gX10_treat_X10_washes : GoodIn wsX10_treat (wsV RX10 152 RX10 yX10_washes wsX10_washes) := goodIn_app (goodIn_r _ [18, 19, 20, 6] (by exact rfl) (by decide +kernel)) ggX10_treat_X10_washes
set_option maxRecDepth 20000 in
theorem ggX10_treat_X10_airs : GoodIn wsX10_treat wsX10_airs := goodIn_m (subW_q _ [(28, 1), (22, 3), (29, 51)] (by exact rfl)) gwd_X10_airs
set_option maxRecDepth 20000 in
theorem gX10_treat_X10_airs : GoodIn wsX10_treat (wsV RX10 156 RX10 yX10_airs wsX10_airs) := goodIn_app (goodIn_r _ [25, 26, 27, 6] (by exact rfl) (by decide +kernel)) ggX10_treat_X10_airs
set_option maxRecDepth 20000 in
theorem ggX10_put_X10_lays : GoodIn wsX10_put wsX10_lays := goodIn_m (subW_q _ [(7, 2), (2, 1), (9, 51)] (by exact rfl)) gwd_X10_lays
set_option maxRecDepth 20000 in
theorem gX10_put_X10_lays : GoodIn wsX10_put (wsV RX10 162 RX10 yX10_lays wsX10_lays) := goodIn_app (goodIn_r _ [3, 4, 5, 6] (by exact rfl) (by decide +kernel)) ggX10_put_X10_lays
set_option maxRecDepth 20000 in
theorem ggX10_word_X10_skip : GoodIn wsX10_word wsX10_skip := goodIn_m (subW_q _ [(8, 1), (1, 3), (64, 51)] (by exact rfl)) gwd_X10_skip
set_option maxRecDepth 20000 in
theorem gX10_word_X10_skip : GoodIn wsX10_word (wsV RX10 208 RX10 yX10_skip wsX10_skip) := goodIn_app (goodIn_r _ [4, 5, 6, 7] (by exact rfl) (by decide +kernel)) ggX10_word_X10_skip
set_option maxRecDepth 20000 in
theorem ggX10_word_X10_isLetter : GoodIn wsX10_word wsX10_isLetter := goodIn_m (subW_q _ [(11, 1)] (by exact rfl)) gwd_X10_isLetter
set_option maxRecDepth 20000 in
theorem gX10_word_X10_isLetter : GoodIn wsX10_word (va_wsS RX10 211 yX10_isLetter wsX10_isLetter) := goodIn_app (goodIn_r _ [9, 10, 7] (by exact rfl) (by decide +kernel)) ggX10_word_X10_isLetter
set_option maxRecDepth 20000 in
theorem ggX10_word_X10_nameOf : GoodIn wsX10_word wsX10_nameOf := goodIn_m (subW_q _ [(14, 1)] (by exact rfl)) gwd_X10_nameOf
set_option maxRecDepth 20000 in
theorem gX10_word_X10_nameOf : GoodIn wsX10_word (va_wsS RX10 214 yX10_nameOf wsX10_nameOf) := goodIn_app (goodIn_r _ [12, 13, 7] (by exact rfl) (by decide +kernel)) ggX10_word_X10_nameOf
set_option maxRecDepth 20000 in
theorem ggX10_word_J0_length_8abf5 : GoodIn wsX10_word wsJ0_length_8abf5 := goodIn_m (subW_q _ [(19, 5), (18, 1), (24, 3)] (by exact rfl)) gwd_J0_length_8abf5
set_option maxRecDepth 20000 in
theorem gX10_word_J0_length_8abf5 : GoodIn wsX10_word (wsV RX10 218 RJ0 yJ0_length_8abf5 wsJ0_length_8abf5) := goodIn_app (goodIn_r _ [15, 16, 17, 18] (by exact rfl) (by decide +kernel)) ggX10_word_J0_length_8abf5
set_option maxRecDepth 20000 in
theorem ggX10_word_J0_charAt_5068e : GoodIn wsX10_word wsJ0_charAt_5068e := goodIn_m (subW_q _ [(30, 1), (20, 1), (31, 3), (18, 1), (34, 1), (25, 2), (35, 29)] (by exact rfl)) gwd_J0_charAt_5068e
set_option maxRecDepth 20000 in
theorem gX10_word_J0_charAt_5068e : GoodIn wsX10_word (wsV RX10 224 RJ0 yJ0_charAt_5068e wsJ0_charAt_5068e) := goodIn_app (goodIn_r _ [27, 28, 29, 18] (by exact rfl) (by decide +kernel)) ggX10_word_J0_charAt_5068e
set_option maxRecDepth 20000 in
theorem ggX10_pass_X10_nameOf : GoodIn wsX10_pass wsX10_nameOf := goodIn_m (subW_q _ [(5, 1)] (by exact rfl)) gwd_X10_nameOf
set_option maxRecDepth 20000 in
theorem gX10_pass_X10_nameOf : GoodIn wsX10_pass (va_wsS RX10 214 yX10_nameOf wsX10_nameOf) := goodIn_app (goodIn_r _ [2, 3, 4] (by exact rfl) (by decide +kernel)) ggX10_pass_X10_nameOf
set_option maxRecDepth 20000 in
theorem ggX10_pass_J0_length_8abf5 : GoodIn wsX10_pass wsJ0_length_8abf5 := goodIn_m (subW_q _ [(10, 5), (9, 1), (15, 3)] (by exact rfl)) gwd_J0_length_8abf5
set_option maxRecDepth 20000 in
theorem gX10_pass_J0_length_8abf5 : GoodIn wsX10_pass (wsV RX10 218 RJ0 yJ0_length_8abf5 wsJ0_length_8abf5) := goodIn_app (goodIn_r _ [6, 7, 8, 9] (by exact rfl) (by decide +kernel)) ggX10_pass_J0_length_8abf5
set_option maxRecDepth 20000 in
theorem ggX10_isSign_X10_skip : GoodIn wsX10_isSign wsX10_skip := goodIn_m (subW_q _ [(8, 1), (1, 3), (9, 51)] (by exact rfl)) gwd_X10_skip
set_option maxRecDepth 20000 in
theorem gX10_isSign_X10_skip : GoodIn wsX10_isSign (wsV RX10 208 RX10 yX10_skip wsX10_skip) := goodIn_app (goodIn_r _ [4, 5, 6, 7] (by exact rfl) (by decide +kernel)) ggX10_isSign_X10_skip
