set_option maxRecDepth 20000 in
theorem ggX7_givesTo_X0_room : GoodIn wsX7_givesTo wsX0_room := goodIn_m (subW_q _ [(12, 12)] (by exact rfl)) gwd_X0_room
set_option maxRecDepth 20000 in
theorem gX7_givesTo_X0_room : GoodIn wsX7_givesTo (wsV RX7 29 RX0 yX0_room wsX0_room) := goodIn_app (goodIn_r _ [8, 9, 10, 11] (by exact rfl) (by decide +kernel)) ggX7_givesTo_X0_room
set_option maxRecDepth 20000 in
theorem ggX8_init_X7_init : GoodIn wsX8_init wsX7_init := goodIn_m (subW_q _ [(10, 2), (2, 2), (12, 3), (18, 8)] (by exact rfl)) gwd_X7_init
set_option maxRecDepth 20000 in
theorem gX8_init_X7_init : GoodIn wsX8_init (wsX7_init) := ggX8_init_X7_init
set_option maxRecDepth 20000 in
theorem ggX8_airOut_X0_loseByAir : GoodIn wsX8_airOut wsX0_loseByAir := goodIn_m (subW_q _ [(6, 3), (12, 8)] (by exact rfl)) gwd_X0_loseByAir
set_option maxRecDepth 20000 in
theorem gX8_airOut_X0_loseByAir : GoodIn wsX8_airOut (wsV RX8 54 RX0 yX0_loseByAir wsX0_loseByAir) := goodIn_app (goodIn_r _ [2, 3, 4, 5] (by exact rfl) (by decide +kernel)) ggX8_airOut_X0_loseByAir
set_option maxRecDepth 20000 in
theorem ggX8_washOut_X0_loseByWash : GoodIn wsX8_washOut wsX0_loseByWash := goodIn_m (subW_q _ [(6, 3), (12, 8)] (by exact rfl)) gwd_X0_loseByWash
set_option maxRecDepth 20000 in
theorem gX8_washOut_X0_loseByWash : GoodIn wsX8_washOut (wsV RX8 61 RX0 yX0_loseByWash wsX0_loseByWash) := goodIn_app (goodIn_r _ [2, 3, 4, 5] (by exact rfl) (by decide +kernel)) ggX8_washOut_X0_loseByWash
set_option maxRecDepth 20000 in
theorem ggX8_dryOut_X8_airOut : GoodIn wsX8_dryOut wsX8_airOut := goodIn_m (subW_q _ [(8, 9), (25, 3), (17, 8)] (by exact rfl)) gwd_X8_airOut
set_option maxRecDepth 20000 in
theorem gX8_dryOut_X8_airOut : GoodIn wsX8_dryOut (wsV RX8 64 RX8 yX8_airOut wsX8_airOut) := goodIn_app (goodIn_r _ [4, 5, 6, 7] (by exact rfl) (by decide +kernel)) ggX8_dryOut_X8_airOut
