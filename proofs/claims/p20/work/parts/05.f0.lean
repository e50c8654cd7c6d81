set_option maxRecDepth 20000 in
theorem gwd_X0_shade : wsX0_shade.all goodWord = true := by decide +kernel
set_option maxRecDepth 20000 in
theorem gwd_X0_hasSpan : wsX0_hasSpan.all goodWord = true := by decide +kernel
set_option maxRecDepth 20000 in
theorem gwd_X0_leastShade : wsX0_leastShade.all goodWord = true := by decide +kernel
set_option maxRecDepth 20000 in
theorem gwd_X0_greatestShade : wsX0_greatestShade.all goodWord = true := by decide +kernel
set_option maxRecDepth 20000 in
theorem gwd_X0_init : wsX0_init.all goodWord = true := by decide +kernel
set_option maxRecDepth 20000 in
theorem gwd_X7_init : wsX7_init.all goodWord = true := by decide +kernel
set_option maxRecDepth 20000 in
theorem gwd_X8_vatAt : wsX8_vatAt.all goodWord = true := by decide +kernel
set_option maxRecDepth 20000 in
theorem gwd_X7_copyFrom : wsX7_copyFrom.all goodWord = true := by decide +kernel
set_option maxRecDepth 20000 in
theorem gwd_X0_copyFrom : wsX0_copyFrom.all goodWord = true := by decide +kernel
set_option maxRecDepth 20000 in
theorem gwd_X1_reaches : wsX1_reaches.all goodWord = true := by decide +kernel
set_option maxRecDepth 20000 in
theorem gwd_X1_reachesBy : wsX1_reachesBy.all goodWord = true := by decide +kernel
set_option maxRecDepth 20000 in
theorem gwd_X7_givesTo : wsX7_givesTo.all goodWord = true := by decide +kernel
set_option maxRecDepth 20000 in
theorem gwd_X7_soak : wsX7_soak.all goodWord = true := by decide +kernel
set_option maxRecDepth 20000 in
theorem gwd_X0_loseByAir : wsX0_loseByAir.all goodWord = true := by decide +kernel
set_option maxRecDepth 20000 in
theorem gwd_X6_init : wsX6_init.all goodWord = true := by decide +kernel
set_option maxRecDepth 20000 in
theorem gwd_X6_split : wsX6_split.all goodWord = true := by decide +kernel
set_option maxRecDepth 20000 in
theorem gwd_X2_moveTo : wsX2_moveTo.all goodWord = true := by decide +kernel
set_option maxRecDepth 20000 in
theorem gwd_X2_readSteps : wsX2_readSteps.all goodWord = true := by decide +kernel
set_option maxRecDepth 20000 in
theorem gwd_X2_pass : wsX2_pass.all goodWord = true := by decide +kernel
set_option maxRecDepth 20000 in
theorem gwd_X2_readStep : wsX2_readStep.all goodWord = true := by decide +kernel
set_option maxRecDepth 20000 in
theorem gwd_X5_init : wsX5_init.all goodWord = true := by decide +kernel
set_option maxRecDepth 20000 in
theorem gwd_X2_refuse : wsX2_refuse.all goodWord = true := by decide +kernel
set_option maxRecDepth 20000 in
theorem gwd_X2_readPlain : wsX2_readPlain.all goodWord = true := by decide +kernel
set_option maxRecDepth 20000 in
theorem gwd_X2_readBuilt : wsX2_readBuilt.all goodWord = true := by decide +kernel
set_option maxRecDepth 20000 in
theorem gwd_X2_readNumber : wsX2_readNumber.all goodWord = true := by decide +kernel
set_option maxRecDepth 20000 in
theorem gwd_X2_readBlock : wsX2_readBlock.all goodWord = true := by decide +kernel
set_option maxRecDepth 20000 in
theorem gwd_X2_readTest : wsX2_readTest.all goodWord = true := by decide +kernel
set_option maxRecDepth 20000 in
theorem gwd_X4_doSteps : wsX4_doSteps.all goodWord = true := by decide +kernel
set_option maxRecDepth 20000 in
theorem gwd_X4_mayCount : wsX4_mayCount.all goodWord = true := by decide +kernel
set_option maxRecDepth 20000 in
theorem gwd_X4_doPlain : wsX4_doPlain.all goodWord = true := by decide +kernel
set_option maxRecDepth 20000 in
theorem gwd_X4_doBuilt : wsX4_doBuilt.all goodWord = true := by decide +kernel
set_option maxRecDepth 20000 in
theorem gwd_X4_doDip : wsX4_doDip.all goodWord = true := by decide +kernel
set_option maxRecDepth 20000 in
theorem gwd_X4_doAir : wsX4_doAir.all goodWord = true := by decide +kernel
set_option maxRecDepth 20000 in
theorem gwd_X8_washOut : wsX8_washOut.all goodWord = true := by decide +kernel
set_option maxRecDepth 20000 in
theorem gwd_X4_doRest : wsX4_doRest.all goodWord = true := by decide +kernel
set_option maxRecDepth 20000 in
theorem gwd_X7_takeFood : wsX7_takeFood.all goodWord = true := by decide +kernel
set_option maxRecDepth 20000 in
theorem gwd_X4_doLime : wsX4_doLime.all goodWord = true := by decide +kernel
set_option maxRecDepth 20000 in
theorem gwd_X4_doTimes : wsX4_doTimes.all goodWord = true := by decide +kernel
set_option maxRecDepth 20000 in
theorem gwd_X4_doUntil : wsX4_doUntil.all goodWord = true := by decide +kernel
set_option maxRecDepth 20000 in
theorem gwd_X4_holds : wsX4_holds.all goodWord = true := by decide +kernel
set_option maxRecDepth 20000 in
theorem gwd_X4_doTry : wsX4_doTry.all goodWord = true := by decide +kernel
set_option maxRecDepth 20000 in
theorem gwd_X4_doWithLast : wsX4_doWithLast.all goodWord = true := by decide +kernel
set_option maxRecDepth 20000 in
theorem gwd_X8_dipInto : wsX8_dipInto.all goodWord = true := by decide +kernel
set_option maxRecDepth 20000 in
theorem gwd_X8_airOut : wsX8_airOut.all goodWord = true := by decide +kernel
set_option maxRecDepth 20000 in
theorem gwd_X8_passHour : wsX8_passHour.all goodWord = true := by decide +kernel
set_option maxRecDepth 20000 in
theorem gwd_X7_takeLime : wsX7_takeLime.all goodWord = true := by decide +kernel
set_option maxRecDepth 20000 in
theorem gwd_X4_lookAt : wsX4_lookAt.all goodWord = true := by decide +kernel
set_option maxRecDepth 20000 in
theorem gwd_X6_byteAt : wsX6_byteAt.all goodWord = true := by decide +kernel
set_option maxRecDepth 20000 in
theorem gwd_X6_isBlank : wsX6_isBlank.all goodWord = true := by decide +kernel
set_option maxRecDepth 20000 in
theorem gwd_X6_addToken : wsX6_addToken.all goodWord = true := by decide +kernel
set_option maxRecDepth 20000 in
theorem gwd_X6_keep : wsX6_keep.all goodWord = true := by decide +kernel
set_option maxRecDepth 20000 in
theorem gwd_X6_isLetter : wsX6_isLetter.all goodWord = true := by decide +kernel
set_option maxRecDepth 20000 in
theorem gwd_X6_addLetters : wsX6_addLetters.all goodWord = true := by decide +kernel
set_option maxRecDepth 20000 in
theorem gwd_X6_isDigit : wsX6_isDigit.all goodWord = true := by decide +kernel
set_option maxRecDepth 20000 in
theorem gwd_X6_addDigits : wsX6_addDigits.all goodWord = true := by decide +kernel
set_option maxRecDepth 20000 in
theorem gwd_X6_isSign : wsX6_isSign.all goodWord = true := by decide +kernel
set_option maxRecDepth 20000 in
theorem gwd_X6_wordNumber : wsX6_wordNumber.all goodWord = true := by decide +kernel
set_option maxRecDepth 20000 in
theorem gwd_J0_length_8abf5 : wsJ0_length_8abf5.all goodWord = true := by decide +kernel
set_option maxRecDepth 20000 in
theorem gwd_J0_charAt_5068e : wsJ0_charAt_5068e.all goodWord = true := by decide +kernel
set_option maxRecDepth 20000 in
theorem gwd_X6_isWord : wsX6_isWord.all goodWord = true := by decide +kernel
set_option maxRecDepth 20000 in
theorem gwd_X0_room : wsX0_room.all goodWord = true := by decide +kernel
set_option maxRecDepth 20000 in
theorem gwd_X0_loseByWash : wsX0_loseByWash.all goodWord = true := by decide +kernel
set_option maxRecDepth 20000 in
theorem gwd_X7_liveThrough : wsX7_liveThrough.all goodWord = true := by decide +kernel
set_option maxRecDepth 20000 in
theorem gwd_X8_init : wsX8_init.all goodWord = true := by decide +kernel
set_option maxRecDepth 20000 in
theorem gwd_X2_init : wsX2_init.all goodWord = true := by decide +kernel
set_option maxRecDepth 20000 in
theorem gwd_X4_init : wsX4_init.all goodWord = true := by decide +kernel
set_option maxRecDepth 20000 in
theorem gwd_X1_init : wsX1_init.all goodWord = true := by decide +kernel
set_option maxRecDepth 20000 in
theorem gwd_X9_demand : wsX9_demand.all goodWord = true := by decide +kernel
set_option maxRecDepth 20000 in
theorem gwd_X8_passHours : wsX8_passHours.all goodWord = true := by decide +kernel
set_option maxRecDepth 20000 in
theorem gwd_X9_clothAt : wsX9_clothAt.all goodWord = true := by decide +kernel
set_option maxRecDepth 20000 in
theorem gwd_X8_dryOut : wsX8_dryOut.all goodWord = true := by decide +kernel
set_option maxRecDepth 20000 in
theorem gwd_X9_append : wsX9_append.all goodWord = true := by decide +kernel
set_option maxRecDepth 20000 in
theorem gwd_X2_readRecipe : wsX2_readRecipe.all goodWord = true := by decide +kernel
set_option maxRecDepth 20000 in
theorem gwd_X3_init : wsX3_init.all goodWord = true := by decide +kernel
set_option maxRecDepth 20000 in
theorem gwd_X4_follow : wsX4_follow.all goodWord = true := by decide +kernel
set_option maxRecDepth 20000 in
theorem gwd_X1_fewest : wsX1_fewest.all goodWord = true := by decide +kernel
set_option maxRecDepth 20000 in
theorem gwd_X0_spanMeets : wsX0_spanMeets.all goodWord = true := by decide +kernel
set_option maxRecDepth 20000 in
theorem gwd_X10_right : wsX10_right.all goodWord = true := by decide +kernel
set_option maxRecDepth 20000 in
theorem gwd_X10_isVat : wsX10_isVat.all goodWord = true := by decide +kernel
set_option maxRecDepth 20000 in
theorem gwd_X10_feeds : wsX10_feeds.all goodWord = true := by decide +kernel
set_option maxRecDepth 20000 in
theorem gwd_X10_limes : wsX10_limes.all goodWord = true := by decide +kernel
set_option maxRecDepth 20000 in
theorem gwd_X10_hour : wsX10_hour.all goodWord = true := by decide +kernel
set_option maxRecDepth 20000 in
theorem gwd_X10_moves : wsX10_moves.all goodWord = true := by decide +kernel
set_option maxRecDepth 20000 in
theorem gwd_X10_isCloth : wsX10_isCloth.all goodWord = true := by decide +kernel
set_option maxRecDepth 20000 in
theorem gwd_X10_isDry : wsX10_isDry.all goodWord = true := by decide +kernel
set_option maxRecDepth 20000 in
theorem gwd_X10_dips : wsX10_dips.all goodWord = true := by decide +kernel
set_option maxRecDepth 20000 in
theorem gwd_X10_washes : wsX10_washes.all goodWord = true := by decide +kernel
set_option maxRecDepth 20000 in
theorem gwd_X10_airs : wsX10_airs.all goodWord = true := by decide +kernel
set_option maxRecDepth 20000 in
theorem gwd_X10_lays : wsX10_lays.all goodWord = true := by decide +kernel
set_option maxRecDepth 20000 in
theorem gwd_X10_skip : wsX10_skip.all goodWord = true := by decide +kernel
set_option maxRecDepth 20000 in
theorem gwd_X10_isLetter : wsX10_isLetter.all goodWord = true := by decide +kernel
set_option maxRecDepth 20000 in
theorem gwd_X10_nameOf : wsX10_nameOf.all goodWord = true := by decide +kernel
set_option maxRecDepth 20000 in
theorem gwd_X10_isSign : wsX10_isSign.all goodWord = true := by decide +kernel
set_option maxRecDepth 20000 in
theorem gwd_X10_wrong : wsX10_wrong.all goodWord = true := by decide +kernel
set_option maxRecDepth 20000 in
theorem gwd_X10_word : wsX10_word.all goodWord = true := by decide +kernel
set_option maxRecDepth 20000 in
theorem gwd_X10_pass : wsX10_pass.all goodWord = true := by decide +kernel
set_option maxRecDepth 20000 in
theorem gwd_X10_isDigit : wsX10_isDigit.all goodWord = true := by decide +kernel
set_option maxRecDepth 20000 in
theorem gwd_X10_step : wsX10_step.all goodWord = true := by decide +kernel
set_option maxRecDepth 20000 in
theorem gwd_X10_rest : wsX10_rest.all goodWord = true := by decide +kernel
set_option maxRecDepth 20000 in
theorem gwd_X10_numbers : wsX10_numbers.all goodWord = true := by decide +kernel
set_option maxRecDepth 20000 in
theorem gwd_X10_need : wsX10_need.all goodWord = true := by decide +kernel
set_option maxRecDepth 20000 in
theorem gwd_X10_single : wsX10_single.all goodWord = true := by decide +kernel
set_option maxRecDepth 20000 in
theorem gwd_X10_block : wsX10_block.all goodWord = true := by decide +kernel
set_option maxRecDepth 20000 in
theorem gwd_X10_test : wsX10_test.all goodWord = true := by decide +kernel
set_option maxRecDepth 20000 in
theorem gwd_X10_needWord : wsX10_needWord.all goodWord = true := by decide +kernel
set_option maxRecDepth 20000 in
theorem gwd_X10_number : wsX10_number.all goodWord = true := by decide +kernel
set_option maxRecDepth 20000 in
theorem gwd_X10_steps : wsX10_steps.all goodWord = true := by decide +kernel
set_option maxRecDepth 20000 in
theorem gwd_X10_does : wsX10_does.all goodWord = true := by decide +kernel
set_option maxRecDepth 20000 in
theorem gwd_X10_counts : wsX10_counts.all goodWord = true := by decide +kernel
set_option maxRecDepth 20000 in
theorem gwd_X10_dipped : wsX10_dipped.all goodWord = true := by decide +kernel
set_option maxRecDepth 20000 in
theorem gwd_X10_rested : wsX10_rested.all goodWord = true := by decide +kernel
set_option maxRecDepth 20000 in
theorem gwd_X10_doesBlocks : wsX10_doesBlocks.all goodWord = true := by decide +kernel
set_option maxRecDepth 20000 in
theorem gwd_X10_row : wsX10_row.all goodWord = true := by decide +kernel
set_option maxRecDepth 20000 in
theorem gwd_X10_shadeOf : wsX10_shadeOf.all goodWord = true := by decide +kernel
set_option maxRecDepth 20000 in
theorem gwd_X10_holds : wsX10_holds.all goodWord = true := by decide +kernel
set_option maxRecDepth 20000 in
theorem gwd_X10_keeps : wsX10_keeps.all goodWord = true := by decide +kernel
set_option maxRecDepth 20000 in
theorem gwd_X10_thinks : wsX10_thinks.all goodWord = true := by decide +kernel
set_option maxRecDepth 20000 in
theorem gwd_X10_leads : wsX10_leads.all goodWord = true := by decide +kernel
set_option maxRecDepth 20000 in
theorem gwd_X10_restores : wsX10_restores.all goodWord = true := by decide +kernel
set_option maxRecDepth 20000 in
theorem gwd_X10_hasSpan : wsX10_hasSpan.all goodWord = true := by decide +kernel
set_option maxRecDepth 20000 in
theorem gwd_X10_fadedTo : wsX10_fadedTo.all goodWord = true := by decide +kernel
set_option maxRecDepth 20000 in
theorem gwd_J0_coder_7d493 : wsJ0_coder_7d493.all goodWord = true := by decide +kernel
set_option maxRecDepth 20000 in
theorem gwd_J0_isLatin1_aae02 : wsJ0_isLatin1_aae02.all goodWord = true := by decide +kernel
set_option maxRecDepth 20000 in
theorem gwd_J1_charAt_3b067 : wsJ1_charAt_3b067.all goodWord = true := by decide +kernel
set_option maxRecDepth 20000 in
theorem gwd_J3_checkIndex_8e157 : wsJ3_checkIndex_8e157.all goodWord = true := by decide +kernel
set_option maxRecDepth 20000 in
theorem gwd_J0_checkIndex_df160 : wsJ0_checkIndex_df160.all goodWord = true := by decide +kernel
set_option maxRecDepth 20000 in
theorem gwd_X9_charge : wsX9_charge.all goodWord = true := by decide +kernel
set_option maxRecDepth 20000 in
theorem gwd_X9_feed : wsX9_feed.all goodWord = true := by decide +kernel
set_option maxRecDepth 20000 in
theorem gwd_X9_lime : wsX9_lime.all goodWord = true := by decide +kernel
set_option maxRecDepth 20000 in
theorem gwd_X9_hours : wsX9_hours.all goodWord = true := by decide +kernel
set_option maxRecDepth 20000 in
theorem gwd_X9_dip : wsX9_dip.all goodWord = true := by decide +kernel
set_option maxRecDepth 20000 in
theorem gwd_X9_treat : wsX9_treat.all goodWord = true := by decide +kernel
set_option maxRecDepth 20000 in
theorem gwd_X9_recipe : wsX9_recipe.all goodWord = true := by decide +kernel
set_option maxRecDepth 20000 in
theorem gwd_X9_fault : wsX9_fault.all goodWord = true := by decide +kernel
set_option maxRecDepth 20000 in
theorem gwd_X9_run : wsX9_run.all goodWord = true := by decide +kernel
set_option maxRecDepth 20000 in
theorem gwd_X9_ran : wsX9_ran.all goodWord = true := by decide +kernel
set_option maxRecDepth 20000 in
theorem gwd_X9_plan : wsX9_plan.all goodWord = true := by decide +kernel
set_option maxRecDepth 20000 in
theorem gwd_X9_planned : wsX9_planned.all goodWord = true := by decide +kernel
set_option maxRecDepth 20000 in
theorem gwd_X9_vat : wsX9_vat.all goodWord = true := by decide +kernel
set_option maxRecDepth 20000 in
theorem gwd_X9_about : wsX9_about.all goodWord = true := by decide +kernel
set_option maxRecDepth 20000 in
theorem gwd_X9_count : wsX9_count.all goodWord = true := by decide +kernel
set_option maxRecDepth 20000 in
theorem gwd_X9_faded : wsX9_faded.all goodWord = true := by decide +kernel
set_option maxRecDepth 20000 in
theorem gwd_X9_matching : wsX9_matching.all goodWord = true := by decide +kernel
