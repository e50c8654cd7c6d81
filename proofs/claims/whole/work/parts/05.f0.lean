set_option maxRecDepth 20000 in
theorem gwd_X0_shade : wsX0_shade.all goodWord = true := by decide +kernel
set_option maxRecDepth 20000 in
theorem gwd_X0_init : wsX0_init.all goodWord = true := by decide +kernel
set_option maxRecDepth 20000 in
theorem gwd_X7_init : wsX7_init.all goodWord = true := by decide +kernel
set_option maxRecDepth 20000 in
theorem gwd_X8_vatAt : wsX8_vatAt.all goodWord = true := by decide +kernel
set_option maxRecDepth 20000 in
theorem gwd_X7_copyFrom : wsX7_copyFrom.all goodWord = true := by decide +kernel
set_option maxRecDepth 20000 in
theorem gwd_X0_copyFrom : wsX0_copyFrom.all goodWord = true := by decide +kernel
set_option maxRecDepth 20000 in
theorem gwd_X1_reaches : wsX1_reaches.all goodWord = true := by decide +kernel
set_option maxRecDepth 20000 in
theorem gwd_X1_reachesBy : wsX1_reachesBy.all goodWord = true := by decide +kernel
set_option maxRecDepth 20000 in
theorem gwd_X7_givesTo : wsX7_givesTo.all goodWord = true := by decide +kernel
set_option maxRecDepth 20000 in
theorem gwd_X7_soak : wsX7_soak.all goodWord = true := by decide +kernel
set_option maxRecDepth 20000 in
theorem gwd_X0_loseByAir : wsX0_loseByAir.all goodWord = true := by decide +kernel
set_option maxRecDepth 20000 in
theorem gwd_X6_init : wsX6_init.all goodWord = true := by decide +kernel
set_option maxRecDepth 20000 in
theorem gwd_X8_washOut : wsX8_washOut.all goodWord = true := by decide +kernel
set_option maxRecDepth 20000 in
theorem gwd_X7_takeFood : wsX7_takeFood.all goodWord = true := by decide +kernel
set_option maxRecDepth 20000 in
theorem gwd_X8_airOut : wsX8_airOut.all goodWord = true := by decide +kernel
set_option maxRecDepth 20000 in
theorem gwd_X7_takeLime : wsX7_takeLime.all goodWord = true := by decide +kernel
set_option maxRecDepth 20000 in
theorem gwd_X0_room : wsX0_room.all goodWord = true := by decide +kernel
set_option maxRecDepth 20000 in
theorem gwd_X0_loseByWash : wsX0_loseByWash.all goodWord = true := by decide +kernel
set_option maxRecDepth 20000 in
theorem gwd_X8_init : wsX8_init.all goodWord = true := by decide +kernel
set_option maxRecDepth 20000 in
theorem gwd_X2_init : wsX2_init.all goodWord = true := by decide +kernel
set_option maxRecDepth 20000 in
theorem gwd_X4_init : wsX4_init.all goodWord = true := by decide +kernel
set_option maxRecDepth 20000 in
theorem gwd_X1_init : wsX1_init.all goodWord = true := by decide +kernel
set_option maxRecDepth 20000 in
theorem gwd_X9_demand : wsX9_demand.all goodWord = true := by decide +kernel
set_option maxRecDepth 20000 in
theorem gwd_X9_clothAt : wsX9_clothAt.all goodWord = true := by decide +kernel
set_option maxRecDepth 20000 in
theorem gwd_X8_dryOut : wsX8_dryOut.all goodWord = true := by decide +kernel
set_option maxRecDepth 20000 in
theorem gwd_X1_fewest : wsX1_fewest.all goodWord = true := by decide +kernel
set_option maxRecDepth 20000 in
theorem gwd_X10_right : wsX10_right.all goodWord = true := by decide +kernel
set_option maxRecDepth 20000 in
theorem gwd_X10_isVat : wsX10_isVat.all goodWord = true := by decide +kernel
set_option maxRecDepth 20000 in
theorem gwd_X10_feeds : wsX10_feeds.all goodWord = true := by decide +kernel
set_option maxRecDepth 20000 in
theorem gwd_X10_limes : wsX10_limes.all goodWord = true := by decide +kernel
set_option maxRecDepth 20000 in
theorem gwd_X10_moves : wsX10_moves.all goodWord = true := by decide +kernel
set_option maxRecDepth 20000 in
theorem gwd_X10_isCloth : wsX10_isCloth.all goodWord = true := by decide +kernel
set_option maxRecDepth 20000 in
theorem gwd_X10_isDry : wsX10_isDry.all goodWord = true := by decide +kernel
set_option maxRecDepth 20000 in
theorem gwd_X10_washes : wsX10_washes.all goodWord = true := by decide +kernel
set_option maxRecDepth 20000 in
theorem gwd_X10_airs : wsX10_airs.all goodWord = true := by decide +kernel
set_option maxRecDepth 20000 in
theorem gwd_X10_shadeOf : wsX10_shadeOf.all goodWord = true := by decide +kernel
set_option maxRecDepth 20000 in
theorem gwd_X10_keeps : wsX10_keeps.all goodWord = true := by decide +kernel
set_option maxRecDepth 20000 in
theorem gwd_X10_thinks : wsX10_thinks.all goodWord = true := by decide +kernel
set_option maxRecDepth 20000 in
theorem gwd_X10_leads : wsX10_leads.all goodWord = true := by decide +kernel
set_option maxRecDepth 20000 in
theorem gwd_X10_restores : wsX10_restores.all goodWord = true := by decide +kernel
set_option maxRecDepth 20000 in
theorem gwd_X9_charge : wsX9_charge.all goodWord = true := by decide +kernel
set_option maxRecDepth 20000 in
theorem gwd_X9_feed : wsX9_feed.all goodWord = true := by decide +kernel
set_option maxRecDepth 20000 in
theorem gwd_X9_lime : wsX9_lime.all goodWord = true := by decide +kernel
set_option maxRecDepth 20000 in
theorem gwd_X9_treat : wsX9_treat.all goodWord = true := by decide +kernel
set_option maxRecDepth 20000 in
theorem gwd_X9_plan : wsX9_plan.all goodWord = true := by decide +kernel
set_option maxRecDepth 20000 in
theorem gwd_X9_planned : wsX9_planned.all goodWord = true := by decide +kernel
