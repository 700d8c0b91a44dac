theorem bz_X5_latestHeard : bq_X5_latestHeard.all (ab_ck ab_hd ab_xs [] [] bx_X5_latestHeard be_X5_latestHeard bi_X5_latestHeard (some .int) 4 18) = true := by decide +kernel
theorem bz_X5_between : bq_X5_between.all (ab_ck ab_hd ab_xs [] [] bx_X5_between ec_no bi_X5_between (some .int) 6 40) = true := by decide +kernel
theorem bz_X5_tooMuch : bq_X5_tooMuch.all (ab_ck ab_hd ab_xs [] [] bx_X5_tooMuch be_X5_tooMuch bi_X5_tooMuch (some .int) 6 33) = true := by decide +kernel
theorem bz_X5_workedBack : bq_X5_workedBack.all (ab_ck ab_hd ab_xs [] [] bx_X5_workedBack be_X5_workedBack bi_X5_workedBack (some .int) 2 24) = true := by decide +kernel
theorem bz_X6_becomeLike : bq_X6_becomeLike.all (ab_ck ab_hd ab_xs [] [] bx_X6_becomeLike be_X6_becomeLike bi_X6_becomeLike none 2 74) = true := by decide +kernel
theorem bz_X6_isKind : bq_X6_isKind.all (ab_ck ab_hd ab_xs [] [] bx_X6_isKind ec_no bi_X6_isKind (some .boolean) 1 10) = true := by decide +kernel
theorem bz_X6_isUse : bq_X6_isUse.all (ab_ck ab_hd ab_xs [] [] bx_X6_isUse ec_no bi_X6_isUse (some .boolean) 1 24) = true := by decide +kernel
theorem bz_X6_addMachine : bq_X6_addMachine.all (ab_ck ab_hd ab_xs [] [] bx_X6_addMachine be_X6_addMachine bi_X6_addMachine (some .int) 6 72) = true := by decide +kernel
theorem bz_X6_isUnder : bq_X6_isUnder.all (ab_ck ab_hd ab_xs [] [] bx_X6_isUnder be_X6_isUnder bi_X6_isUnder (some .boolean) 4 17) = true := by decide +kernel
theorem bz_X6_rateAs : bq_X6_rateAs.all (ab_ck ab_hd ab_xs [] [] bx_X6_rateAs be_X6_rateAs bi_X6_rateAs (some .int) 3 22) = true := by decide +kernel
theorem bz_X6_setOn : bq_X6_setOn.all (ab_ck ab_hd ab_xs [] [] bx_X6_setOn be_X6_setOn bi_X6_setOn (some .int) 4 26) = true := by decide +kernel
theorem bz_X6_tellOf : bq_X6_tellOf.all (ab_ck ab_hd ab_xs [] [] bx_X6_tellOf be_X6_tellOf bi_X6_tellOf (some .int) 3 14) = true := by decide +kernel
theorem bz_X6_setSpares : bq_X6_setSpares.all (ab_ck ab_hd ab_xs [] [] bx_X6_setSpares be_X6_setSpares bi_X6_setSpares (some .int) 4 26) = true := by decide +kernel
theorem bz_X6_setSun : bq_X6_setSun.all (ab_ck ab_hd ab_xs [] [] bx_X6_setSun ec_no bi_X6_setSun (some .int) 3 28) = true := by decide +kernel
theorem bz_X6_setBattery : bq_X6_setBattery.all (ab_ck ab_hd ab_xs [] [] bx_X6_setBattery ec_no bi_X6_setBattery (some .int) 3 20) = true := by decide +kernel
theorem bz_X6_isReady : bq_X6_isReady.all (ab_ck ab_hd ab_xs [] [] bx_X6_isReady ec_no bi_X6_isReady (some .boolean) 2 15) = true := by decide +kernel
theorem bz_X6_sharePower : bq_X6_sharePower.all (ab_ck ab_hd ab_xs [] [] bx_X6_sharePower be_X6_sharePower bi_X6_sharePower none 5 36) = true := by decide +kernel
theorem bz_X6_split : bq_X6_split.all (ab_ck ab_hd ab_xs [] [] bx_X6_split be_X6_split bi_X6_split none 5 31) = true := by decide +kernel
theorem bz_X6_distil : bq_X6_distil.all (ab_ck ab_hd ab_xs [] [] bx_X6_distil be_X6_distil bi_X6_distil none 5 27) = true := by decide +kernel
theorem bz_X6_work : bq_X6_work.all (ab_ck ab_hd ab_xs [] [] bx_X6_work be_X6_work bi_X6_work none 3 25) = true := by decide +kernel
theorem bz_X6_workAll : bq_X6_workAll.all (ab_ck ab_hd ab_xs [] [] bx_X6_workAll be_X6_workAll bi_X6_workAll none 3 48) = true := by decide +kernel
theorem bz_X6_readySet : bq_X6_readySet.all (ab_ck ab_hd ab_xs [] [] bx_X6_readySet be_X6_readySet bi_X6_readySet (some .int) 3 18) = true := by decide +kernel
theorem bz_X6_sumOver : bq_X6_sumOver.all (ab_ck ab_hd ab_xs [] [] bx_X6_sumOver ec_no bi_X6_sumOver (some .int) 5 21) = true := by decide +kernel
theorem bz_X6_leastHarm : bq_X6_leastHarm.all (ab_ck ab_hd ab_xs [] [] bx_X6_leastHarm be_X6_leastHarm bi_X6_leastHarm (some .int) 8 50) = true := by decide +kernel
theorem bz_X6_shedding : bq_X6_shedding.all (ab_ck ab_hd ab_xs [] [] bx_X6_shedding be_X6_shedding bi_X6_shedding (some .int) 3 22) = true := by decide +kernel
theorem bz_X7_has : bq_X7_has.all (ab_ck ab_hd ab_xs [] [] bx_X7_has ec_no bi_X7_has (some .boolean) 2 11) = true := by decide +kernel
theorem bz_X7_addLine : bq_X7_addLine.all (ab_ck ab_hd ab_xs [] [] bx_X7_addLine ec_no bi_X7_addLine (some .int) 5 41) = true := by decide +kernel
theorem bz_X8_becomeLike : bq_X8_becomeLike.all (ab_ck ab_hd ab_xs [] [] bx_X8_becomeLike be_X8_becomeLike bi_X8_becomeLike none 2 32) = true := by decide +kernel
theorem bz_X8_isCheck : bq_X8_isCheck.all (ab_ck ab_hd ab_xs [] [] bx_X8_isCheck be_X8_isCheck bi_X8_isCheck (some .boolean) 4 15) = true := by decide +kernel
theorem bz_X8_holds : bq_X8_holds.all (ab_ck ab_hd ab_xs [] [] bx_X8_holds be_X8_holds bi_X8_holds (some .boolean) 4 14) = true := by decide +kernel
theorem bz_X8_lineAfterCheck : bq_X8_lineAfterCheck.all (ab_ck ab_hd ab_xs [] [] bx_X8_lineAfterCheck be_X8_lineAfterCheck bi_X8_lineAfterCheck (some .int) 6 52) = true := by decide +kernel
theorem bz_X8_walk : bq_X8_walk.all (ab_ck ab_hd ab_xs [] [] bx_X8_walk be_X8_walk bi_X8_walk (some .int) 3 42) = true := by decide +kernel
theorem bz_X8_mend : bq_X8_mend.all (ab_ck ab_hd ab_xs [] [] bx_X8_mend be_X8_mend bi_X8_mend (some .int) 5 79) = true := by decide +kernel
theorem bz_X8_actByText : bq_X8_actByText.all (ab_ck ab_hd ab_xs [] [] bx_X8_actByText be_X8_actByText bi_X8_actByText (some .int) 4 30) = true := by decide +kernel
theorem bz_X8_lineAfter : bq_X8_lineAfter.all (ab_ck ab_hd ab_xs [] [] bx_X8_lineAfter be_X8_lineAfter bi_X8_lineAfter (some .int) 3 30) = true := by decide +kernel
theorem bz_X8_doText : bq_X8_doText.all (ab_ck ab_hd ab_xs [] [] bx_X8_doText be_X8_doText bi_X8_doText none 2 40) = true := by decide +kernel
theorem bz_X8_passTick : bq_X8_passTick.all (ab_ck ab_hd ab_xs [] [] bx_X8_passTick be_X8_passTick bi_X8_passTick (some .boolean) 2 48) = true := by decide +kernel
theorem bz_X9_counted : bq_X9_counted.all (ab_ck ab_hd ab_xs [(7, 6), (7, 7), (10, 0), (10, 1), (10, 2), (10, 3), (10, 4), (10, 5), (10, 6), (10, 7), (11, 0), (11, 1), (11, 2), (11, 3), (11, 4), (11, 5), (11, 6), (11, 7), (64, 1)] [] bx_X9_counted ec_no bi_X9_counted (some .int) 2 20) = true := by decide +kernel
theorem bz_X9_module : bq_X9_module.all (ab_ck ab_hd ab_xs [(7, 6), (7, 7)] [] bx_X9_module be_X9_module bi_X9_module (some .int) 1 9) = true := by decide +kernel
theorem bz_X9_hatch : bq_X9_hatch.all (ab_ck ab_hd ab_xs [(7, 6), (7, 7), (10, 0), (10, 1), (10, 2), (10, 3), (10, 4), (10, 5), (10, 6), (10, 7), (11, 0), (11, 1), (11, 2), (11, 3), (11, 4), (11, 5), (11, 6), (11, 7)] [] bx_X9_hatch be_X9_hatch bi_X9_hatch (some .int) 3 11) = true := by decide +kernel
theorem bz_X9_shut : bq_X9_shut.all (ab_ck ab_hd ab_xs [] [] bx_X9_shut be_X9_shut bi_X9_shut (some .int) 3 11) = true := by decide +kernel
theorem bz_X9_gas : bq_X9_gas.all (ab_ck ab_hd ab_xs [] [] bx_X9_gas be_X9_gas bi_X9_gas (some .int) 4 12) = true := by decide +kernel
theorem bz_X9_leak : bq_X9_leak.all (ab_ck ab_hd ab_xs [] [] bx_X9_leak be_X9_leak bi_X9_leak (some .int) 3 11) = true := by decide +kernel
theorem bz_X9_tank : bq_X9_tank.all (ab_ck ab_hd ab_xs [] [] bx_X9_tank be_X9_tank bi_X9_tank (some .int) 3 11) = true := by decide +kernel
theorem bz_X9_grams : bq_X9_grams.all (ab_ck ab_hd ab_xs [] [] bx_X9_grams be_X9_grams bi_X9_grams (some .int) 1 7) = true := by decide +kernel
theorem bz_X9_person : bq_X9_person.all (ab_ck ab_hd ab_xs [] [] bx_X9_person be_X9_person bi_X9_person (some .int) 2 16) = true := by decide +kernel
theorem bz_X9_go : bq_X9_go.all (ab_ck ab_hd ab_xs [] [] bx_X9_go be_X9_go bi_X9_go (some .int) 3 10) = true := by decide +kernel
theorem bz_X9_doing : bq_X9_doing.all (ab_ck ab_hd ab_xs [] [] bx_X9_doing be_X9_doing bi_X9_doing (some .int) 3 11) = true := by decide +kernel
theorem bz_X9_about : bq_X9_about.all (ab_ck ab_hd ab_xs [] [] bx_X9_about be_X9_about bi_X9_about (some .int) 3 11) = true := by decide +kernel
theorem bz_X9_machine : bq_X9_machine.all (ab_ck ab_hd ab_xs [] [] bx_X9_machine be_X9_machine bi_X9_machine (some .int) 5 19) = true := by decide +kernel
theorem bz_X9_as : bq_X9_as.all (ab_ck ab_hd ab_xs [] [] bx_X9_as be_X9_as bi_X9_as (some .int) 3 11) = true := by decide +kernel
theorem bz_X9_turn : bq_X9_turn.all (ab_ck ab_hd ab_xs [] [] bx_X9_turn be_X9_turn bi_X9_turn (some .int) 3 11) = true := by decide +kernel
theorem bz_X9_of : bq_X9_of.all (ab_ck ab_hd ab_xs [] [] bx_X9_of be_X9_of bi_X9_of (some .int) 3 11) = true := by decide +kernel
theorem bz_X9_spares : bq_X9_spares.all (ab_ck ab_hd ab_xs [] [] bx_X9_spares be_X9_spares bi_X9_spares (some .int) 3 11) = true := by decide +kernel
theorem bz_X9_repair : bq_X9_repair.all (ab_ck ab_hd ab_xs [] [] bx_X9_repair be_X9_repair bi_X9_repair (some .int) 4 11) = true := by decide +kernel
theorem bz_X9_shed : bq_X9_shed.all (ab_ck ab_hd ab_xs [] [] bx_X9_shed be_X9_shed bi_X9_shed (some .int) 3 11) = true := by decide +kernel
theorem bz_X9_sun : bq_X9_sun.all (ab_ck ab_hd ab_xs [] [] bx_X9_sun be_X9_sun bi_X9_sun (some .int) 3 11) = true := by decide +kernel
theorem bz_X9_battery : bq_X9_battery.all (ab_ck ab_hd ab_xs [] [] bx_X9_battery be_X9_battery bi_X9_battery (some .int) 2 10) = true := by decide +kernel
theorem bz_X9_bounds : bq_X9_bounds.all (ab_ck ab_hd ab_xs [] [] bx_X9_bounds be_X9_bounds bi_X9_bounds (some .int) 4 12) = true := by decide +kernel
