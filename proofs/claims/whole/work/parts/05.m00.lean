set_option maxRecDepth 20000 in
theorem ggX10_isVat_X10_right : GoodIn wsX10_isVat wsX10_right := goodIn_m (subW_q _ [(6, 1), (1, 1), (7, 51)] (by exact rfl)) gwd_X10_right
set_option maxRecDepth 20000 in
theorem gX10_isVat_X10_right : GoodIn wsX10_isVat (wsV RX10 108 RX10 yX10_right wsX10_right) := goodIn_app (goodIn_r _ [2, 3, 4, 5] (by exact rfl) (by decide +kernel)) ggX10_isVat_X10_right
set_option maxRecDepth 20000 in
theorem ggX10_isCloth_X10_right : GoodIn wsX10_isCloth wsX10_right := goodIn_m (subW_q _ [(7, 1), (1, 1), (8, 51)] (by exact rfl)) gwd_X10_right
set_option maxRecDepth 20000 in
theorem gX10_isCloth_X10_right : GoodIn wsX10_isCloth (wsV RX10 108 RX10 yX10_right wsX10_right) := goodIn_app (goodIn_r _ [3, 4, 5, 6] (by exact rfl) (by decide +kernel)) ggX10_isCloth_X10_right
set_option maxRecDepth 20000 in
theorem ggX10_charge_X10_isVat : GoodIn wsX10_charge wsX10_isVat := goodIn_m (subW_q _ [(8, 5), (7, 1), (13, 52)] (by exact rfl)) gwd_X10_isVat
set_option maxRecDepth 20000 in
theorem gX10_charge_X10_isVat : GoodIn wsX10_charge (wsV RX10 115 RX10 yX10_isVat wsX10_isVat) := goodIn_app (goodIn_r _ [4, 5, 6, 7] (by exact rfl) (by decide +kernel)) ggX10_charge_X10_isVat
set_option maxRecDepth 20000 in
theorem ggX10_feed_X10_isVat : GoodIn wsX10_feed wsX10_isVat := goodIn_m (subW_q _ [(6, 5), (5, 1), (11, 1), (17, 51)] (by exact rfl)) gwd_X10_isVat
set_option maxRecDepth 20000 in
theorem gX10_feed_X10_isVat : GoodIn wsX10_feed (wsV RX10 115 RX10 yX10_isVat wsX10_isVat) := goodIn_app (goodIn_r _ [2, 3, 4, 5] (by exact rfl) (by decide +kernel)) ggX10_feed_X10_isVat
set_option maxRecDepth 20000 in
theorem ggX10_feed_X10_right : GoodIn wsX10_feed wsX10_right := goodIn_m (subW_q _ [(11, 1), (7, 1), (17, 51)] (by exact rfl)) gwd_X10_right
set_option maxRecDepth 20000 in
theorem gX10_feed_X10_right : GoodIn wsX10_feed (wsV RX10 108 RX10 yX10_right wsX10_right) := goodIn_app (goodIn_r _ [8, 9, 10, 5] (by exact rfl) (by decide +kernel)) ggX10_feed_X10_right
set_option maxRecDepth 20000 in
theorem ggX10_feed_X10_feeds : GoodIn wsX10_feed wsX10_feeds := goodIn_m (subW_q _ [(15, 2), (1, 1), (17, 51)] (by exact rfl)) gwd_X10_feeds
set_option maxRecDepth 20000 in
theorem gX10_feed_X10_feeds : GoodIn wsX10_feed (wsV RX10 123 RX10 yX10_feeds wsX10_feeds) := goodIn_app (goodIn_r _ [12, 13, 14, 5] (by exact rfl) (by decide +kernel)) ggX10_feed_X10_feeds
set_option maxRecDepth 20000 in
theorem ggX10_lime_X10_isVat : GoodIn wsX10_lime wsX10_isVat := goodIn_m (subW_q _ [(6, 5), (5, 1), (11, 1), (18, 51)] (by exact rfl)) gwd_X10_isVat
set_option maxRecDepth 20000 in
theorem gX10_lime_X10_isVat : GoodIn wsX10_lime (wsV RX10 115 RX10 yX10_isVat wsX10_isVat) := goodIn_app (goodIn_r _ [2, 3, 4, 5] (by exact rfl) (by decide +kernel)) ggX10_lime_X10_isVat
set_option maxRecDepth 20000 in
theorem ggX10_lime_X10_limes : GoodIn wsX10_lime wsX10_limes := goodIn_m (subW_q _ [(15, 1), (1, 1), (16, 53)] (by exact rfl)) gwd_X10_limes
set_option maxRecDepth 20000 in
theorem gX10_lime_X10_limes : GoodIn wsX10_lime (wsV RX10 127 RX10 yX10_limes wsX10_limes) := goodIn_app (goodIn_r _ [12, 13, 14, 5] (by exact rfl) (by decide +kernel)) ggX10_lime_X10_limes
set_option maxRecDepth 20000 in
theorem ggX10_treat_X10_isCloth : GoodIn wsX10_treat wsX10_isCloth := goodIn_m (subW_q _ [(7, 6), (6, 1), (13, 1), (29, 51)] (by exact rfl)) gwd_X10_isCloth
set_option maxRecDepth 20000 in
theorem gX10_treat_X10_isCloth : GoodIn wsX10_treat (wsV RX10 141 RX10 yX10_isCloth wsX10_isCloth) := goodIn_app (goodIn_r _ [3, 4, 5, 6] (by exact rfl) (by decide +kernel)) ggX10_treat_X10_isCloth
set_option maxRecDepth 20000 in
theorem ggX10_treat_X10_right : GoodIn wsX10_treat wsX10_right := goodIn_m (subW_q _ [(13, 1), (8, 1), (29, 51)] (by exact rfl)) gwd_X10_right
set_option maxRecDepth 20000 in
theorem gX10_treat_X10_right : GoodIn wsX10_treat (wsV RX10 108 RX10 yX10_right wsX10_right) := goodIn_app (goodIn_r _ [10, 11, 12, 6] (by exact rfl) (by decide +kernel)) ggX10_treat_X10_right
set_option maxRecDepth 20000 in
theorem ggX10_treat_X10_isDry : GoodIn wsX10_treat wsX10_isDry := goodIn_m (subW_q _ [(17, 1), (1, 1), (29, 51)] (by exact rfl)) gwd_X10_isDry
set_option maxRecDepth 20000 in
theorem gX10_treat_X10_isDry : GoodIn wsX10_treat (wsV RX10 144 RX10 yX10_isDry wsX10_isDry) := goodIn_app (goodIn_r _ [14, 15, 16, 6] (by exact rfl) (by decide +kernel)) ggX10_treat_X10_isDry
set_option maxRecDepth 20000 in
theorem ggX10_treat_X10_washes : GoodIn wsX10_treat wsX10_washes := goodIn_m (subW_q _ [(21, 4), (29, 51)] (by exact rfl)) gwd_X10_washes
set_option maxRecDepth 20000 in
theorem gX10_treat_X10_washes : GoodIn wsX10_treat (wsV RX10 152 RX10 yX10_washes wsX10_washes) := goodIn_app (goodIn_r _ [18, 19, 20, 6] (by exact rfl) (by decide +kernel)) ggX10_treat_X10_washes
set_option maxRecDepth 20000 in
theorem ggX10_treat_X10_airs : GoodIn wsX10_treat wsX10_airs := goodIn_m (subW_q _ [(28, 1), (22, 3), (29, 51)] (by exact rfl)) gwd_X10_airs
set_option maxRecDepth 20000 in
theorem gX10_treat_X10_airs : GoodIn wsX10_treat (wsV RX10 156 RX10 yX10_airs wsX10_airs) := goodIn_app (goodIn_r _ [25, 26, 27, 6] (by exact rfl) (by decide +kernel)) ggX10_treat_X10_airs
