set_option maxRecDepth 20000 in
theorem ggX0_leastShade_X0_shade : GoodIn wsX0_leastShade wsX0_shade := goodIn_m (subW_q _ [(10, 11)] (by exact rfl)) gwd_X0_shade
set_option maxRecDepth 20000 in
theorem gX0_leastShade_X0_shade : GoodIn wsX0_leastShade (wsV RX0 31 RX0 yX0_shade wsX0_shade) := goodIn_app (goodIn_r _ [6, 7, 8, 9] (by exact rfl) (by decide +kernel)) ggX0_leastShade_X0_shade
set_option maxRecDepth 20000 in
theorem ggX0_greatestShade_X0_shade : GoodIn wsX0_greatestShade wsX0_shade := goodIn_m (subW_q _ [(10, 11)] (by exact rfl)) gwd_X0_shade
set_option maxRecDepth 20000 in
theorem gX0_greatestShade_X0_shade : GoodIn wsX0_greatestShade (wsV RX0 31 RX0 yX0_shade wsX0_shade) := goodIn_app (goodIn_r _ [6, 7, 8, 9] (by exact rfl) (by decide +kernel)) ggX0_greatestShade_X0_shade
set_option maxRecDepth 20000 in
theorem ggX0_spanMeets_X0_hasSpan : GoodIn wsX0_spanMeets wsX0_hasSpan := goodIn_m (subW_q _ [(5, 3), (26, 8)] (by exact rfl)) gwd_X0_hasSpan
set_option maxRecDepth 20000 in
theorem gX0_spanMeets_X0_hasSpan : GoodIn wsX0_spanMeets (wsV RX0 41 RX0 yX0_hasSpan wsX0_hasSpan) := goodIn_app (goodIn_r _ [1, 2, 3, 4] (by exact rfl) (by decide +kernel)) ggX0_spanMeets_X0_hasSpan
set_option maxRecDepth 20000 in
theorem ggX0_spanMeets_X0_leastShade : GoodIn wsX0_spanMeets wsX0_leastShade := goodIn_m (subW_q _ [(11, 1), (7, 1), (12, 7), (4, 1), (19, 3), (26, 8)] (by exact rfl)) gwd_X0_leastShade
set_option maxRecDepth 20000 in
theorem gX0_spanMeets_X0_leastShade : GoodIn wsX0_spanMeets (wsV RX0 45 RX0 yX0_leastShade wsX0_leastShade) := goodIn_app (goodIn_r _ [8, 9, 10, 4] (by exact rfl) (by decide +kernel)) ggX0_spanMeets_X0_leastShade
set_option maxRecDepth 20000 in
theorem ggX0_spanMeets_X0_greatestShade : GoodIn wsX0_spanMeets wsX0_greatestShade := goodIn_m (subW_q _ [(25, 1), (7, 1), (12, 7), (4, 1), (19, 3), (26, 8)] (by exact rfl)) gwd_X0_greatestShade
set_option maxRecDepth 20000 in
theorem gX0_spanMeets_X0_greatestShade : GoodIn wsX0_spanMeets (wsV RX0 49 RX0 yX0_greatestShade wsX0_greatestShade) := goodIn_app (goodIn_r _ [22, 23, 24, 4] (by exact rfl) (by decide +kernel)) ggX0_spanMeets_X0_greatestShade
set_option maxRecDepth 20000 in
theorem ggX7_givesTo_X0_room : GoodIn wsX7_givesTo wsX0_room := goodIn_m (subW_q _ [(12, 12)] (by exact rfl)) gwd_X0_room
set_option maxRecDepth 20000 in
theorem gX7_givesTo_X0_room : GoodIn wsX7_givesTo (wsV RX7 29 RX0 yX0_room wsX0_room) := goodIn_app (goodIn_r _ [8, 9, 10, 11] (by exact rfl) (by decide +kernel)) ggX7_givesTo_X0_room
set_option maxRecDepth 20000 in
theorem ggX8_init_X7_init : GoodIn wsX8_init wsX7_init := goodIn_m (subW_q _ [(10, 2), (2, 2), (12, 3), (18, 8)] (by exact rfl)) gwd_X7_init
set_option maxRecDepth 20000 in
theorem gX8_init_X7_init : GoodIn wsX8_init (wsX7_init) := ggX8_init_X7_init
set_option maxRecDepth 20000 in
theorem ggX8_dipInto_X7_soak : GoodIn wsX8_dipInto wsX7_soak := goodIn_m (subW_q _ [(13, 6), (22, 16)] (by exact rfl)) gwd_X7_soak
set_option maxRecDepth 20000 in
theorem gX8_dipInto_X7_soak : GoodIn wsX8_dipInto (wsV RX8 27 RX7 yX7_soak wsX7_soak) := goodIn_app (goodIn_r _ [9, 10, 11, 12] (by exact rfl) (by decide +kernel)) ggX8_dipInto_X7_soak
set_option maxRecDepth 20000 in
theorem ggX8_airOut_X0_loseByAir : GoodIn wsX8_airOut wsX0_loseByAir := goodIn_m (subW_q _ [(6, 3), (12, 8)] (by exact rfl)) gwd_X0_loseByAir
set_option maxRecDepth 20000 in
theorem gX8_airOut_X0_loseByAir : GoodIn wsX8_airOut (wsV RX8 54 RX0 yX0_loseByAir wsX0_loseByAir) := goodIn_app (goodIn_r _ [2, 3, 4, 5] (by exact rfl) (by decide +kernel)) ggX8_airOut_X0_loseByAir
set_option maxRecDepth 20000 in
theorem ggX8_washOut_X0_loseByWash : GoodIn wsX8_washOut wsX0_loseByWash := goodIn_m (subW_q _ [(6, 3), (12, 8)] (by exact rfl)) gwd_X0_loseByWash
set_option maxRecDepth 20000 in
theorem gX8_washOut_X0_loseByWash : GoodIn wsX8_washOut (wsV RX8 61 RX0 yX0_loseByWash wsX0_loseByWash) := goodIn_app (goodIn_r _ [2, 3, 4, 5] (by exact rfl) (by decide +kernel)) ggX8_washOut_X0_loseByWash
set_option maxRecDepth 20000 in
theorem ggX8_dryOut_X8_airOut : GoodIn wsX8_dryOut wsX8_airOut := goodIn_m (subW_q _ [(8, 9), (25, 3), (17, 8)] (by exact rfl)) gwd_X8_airOut
set_option maxRecDepth 20000 in
theorem gX8_dryOut_X8_airOut : GoodIn wsX8_dryOut (wsV RX8 64 RX8 yX8_airOut wsX8_airOut) := goodIn_app (goodIn_r _ [4, 5, 6, 7] (by exact rfl) (by decide +kernel)) ggX8_dryOut_X8_airOut
set_option maxRecDepth 20000 in
theorem ggX8_passHour_X7_liveThrough : GoodIn wsX8_passHour wsX7_liveThrough := goodIn_m (subW_q _ [(7, 9), (19, 8)] (by exact rfl)) gwd_X7_liveThrough
set_option maxRecDepth 20000 in
theorem gX8_passHour_X7_liveThrough : GoodIn wsX8_passHour (wsV RX8 75 RX7 yX7_liveThrough wsX7_liveThrough) := goodIn_app (goodIn_r _ [3, 4, 5, 6] (by exact rfl) (by decide +kernel)) ggX8_passHour_X7_liveThrough
set_option maxRecDepth 20000 in
theorem ggX8_passHours_X8_passHour : GoodIn wsX8_passHours wsX8_passHour := goodIn_m (subW_q _ [(10, 2), (5, 1), (12, 8), (3, 1), (20, 15)] (by exact rfl)) gwd_X8_passHour
set_option maxRecDepth 20000 in
theorem gX8_passHours_X8_passHour : GoodIn wsX8_passHours (wsV RX8 84 RX8 yX8_passHour wsX8_passHour) := goodIn_app (goodIn_r _ [6, 7, 8, 9] (by exact rfl) (by decide +kernel)) ggX8_passHours_X8_passHour
