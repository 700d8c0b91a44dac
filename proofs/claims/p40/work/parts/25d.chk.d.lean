theorem bz_X10_isIn : bq_X10_isIn.all (ab_ck ab_hd ab_xs [(101, 0), (76, 40), (76, 49), (106, 0), (106, 1), (106, 2), (106, 3), (106, 4), (106, 5), (106, 6), (106, 7), (106, 8), (106, 9), (106, 10), (106, 11), (106, 12), (106, 13), (106, 14), (106, 15), (106, 16), (106, 17), (106, 18), (106, 19), (106, 20), (106, 21), (106, 22), (106, 23), (106, 24), (106, 25), (106, 26), (106, 27), (106, 28), (106, 29), (106, 30), (106, 31), (106, 32), (106, 33), (106, 34), (106, 35), (106, 36), (106, 37), (106, 38), (106, 39), (109, 0), (109, 1), (109, 2), (109, 3), (109, 4), (109, 5), (109, 6), (109, 7), (109, 8), (109, 9), (109, 10), (109, 11), (109, 12), (109, 13), (109, 14), (109, 15), (109, 16), (109, 17), (109, 18), (109, 19), (109, 20), (109, 21), (109, 22), (109, 23), (109, 24), (109, 25), (109, 26), (109, 27), (109, 28), (109, 29), (109, 30), (109, 31), (109, 32), (109, 33), (109, 34), (109, 35), (109, 36), (109, 37), (109, 38), (109, 39), (115, 126)] [] bx_X10_isIn ec_no bi_X10_isIn (some .boolean) 3 11) = true := by decide +kernel
theorem bz_X10_isModule : bq_X10_isModule.all (ab_ck ab_hd ab_xs [(101, 0), (115, 126)] [] bx_X10_isModule ec_no bi_X10_isModule (some .boolean) 2 11) = true := by decide +kernel
theorem bz_X10_isHatch : bq_X10_isHatch.all (ab_ck ab_hd ab_xs [(101, 0), (115, 126)] [] bx_X10_isHatch ec_no bi_X10_isHatch (some .boolean) 2 11) = true := by decide +kernel
theorem bz_X10_isPerson : bq_X10_isPerson.all (ab_ck ab_hd ab_xs [(101, 0), (115, 126)] [] bx_X10_isPerson ec_no bi_X10_isPerson (some .boolean) 2 11) = true := by decide +kernel
theorem bz_X10_isMachine : bq_X10_isMachine.all (ab_ck ab_hd ab_xs [(101, 0), (115, 126)] [] bx_X10_isMachine ec_no bi_X10_isMachine (some .boolean) 2 11) = true := by decide +kernel
theorem bz_X10_module : bq_X10_module.all (ab_ck ab_hd ab_xs [] [] bx_X10_module be_X10_module bi_X10_module (some .int) 1 17) = true := by decide +kernel
theorem bz_X10_hatch : bq_X10_hatch.all (ab_ck ab_hd ab_xs [] [] bx_X10_hatch be_X10_hatch bi_X10_hatch (some .int) 3 46) = true := by decide +kernel
theorem bz_X10_shut : bq_X10_shut.all (ab_ck ab_hd ab_xs [] [] bx_X10_shut be_X10_shut bi_X10_shut (some .int) 4 23) = true := by decide +kernel
theorem bz_X10_gas : bq_X10_gas.all (ab_ck ab_hd ab_xs [] [] bx_X10_gas be_X10_gas bi_X10_gas (some .int) 5 49) = true := by decide +kernel
theorem bz_X10_leak : bq_X10_leak.all (ab_ck ab_hd ab_xs [] [] bx_X10_leak be_X10_leak bi_X10_leak (some .int) 4 23) = true := by decide +kernel
theorem bz_X10_tank : bq_X10_tank.all (ab_ck ab_hd ab_xs [] [] bx_X10_tank be_X10_tank bi_X10_tank (some .int) 4 27) = true := by decide +kernel
theorem bz_X10_grams : bq_X10_grams.all (ab_ck ab_hd ab_xs [] [] bx_X10_grams ec_no bi_X10_grams (some .int) 3 17) = true := by decide +kernel
theorem bz_X10_person : bq_X10_person.all (ab_ck ab_hd ab_xs [] [] bx_X10_person be_X10_person bi_X10_person (some .int) 2 33) = true := by decide +kernel
theorem bz_X10_canGo : bq_X10_canGo.all (ab_ck ab_hd ab_xs [(101, 0), (115, 126)] [] bx_X10_canGo ec_no bi_X10_canGo (some .boolean) 5 49) = true := by decide +kernel
theorem bz_X10_go : bq_X10_go.all (ab_ck ab_hd ab_xs [] [] bx_X10_go be_X10_go bi_X10_go (some .int) 3 22) = true := by decide +kernel
theorem bz_X10_doing : bq_X10_doing.all (ab_ck ab_hd ab_xs [] [] bx_X10_doing be_X10_doing bi_X10_doing (some .int) 4 28) = true := by decide +kernel
theorem bz_X10_about : bq_X10_about.all (ab_ck ab_hd ab_xs [] [] bx_X10_about be_X10_about bi_X10_about (some .int) 3 18) = true := by decide +kernel
theorem bz_X10_machine : bq_X10_machine.all (ab_ck ab_hd ab_xs [] [] bx_X10_machine be_X10_machine bi_X10_machine (some .int) 6 111) = true := by decide +kernel
theorem bz_X10_as : bq_X10_as.all (ab_ck ab_hd ab_xs [] [] bx_X10_as be_X10_as bi_X10_as (some .int) 3 34) = true := by decide +kernel
theorem bz_X10_turn : bq_X10_turn.all (ab_ck ab_hd ab_xs [] [] bx_X10_turn be_X10_turn bi_X10_turn (some .int) 4 23) = true := by decide +kernel
theorem bz_X10_of : bq_X10_of.all (ab_ck ab_hd ab_xs [] [] bx_X10_of be_X10_of bi_X10_of (some .int) 3 18) = true := by decide +kernel
theorem bz_X10_spares : bq_X10_spares.all (ab_ck ab_hd ab_xs [] [] bx_X10_spares be_X10_spares bi_X10_spares (some .int) 4 27) = true := by decide +kernel
theorem bz_X10_isMended : bq_X10_isMended.all (ab_ck ab_hd ab_xs [(101, 0), (115, 126)] [] bx_X10_isMended ec_no bi_X10_isMended (some .boolean) 4 19) = true := by decide +kernel
theorem bz_X10_refusesMend : bq_X10_refusesMend.all (ab_ck ab_hd ab_xs [(101, 0), (115, 126)] [] bx_X10_refusesMend be_X10_refusesMend bi_X10_refusesMend (some .int) 4 49) = true := by decide +kernel
theorem bz_X10_beginMend : bq_X10_beginMend.all (ab_ck ab_hd ab_xs [(101, 0), (115, 126)] [] bx_X10_beginMend ec_no bi_X10_beginMend none 4 29) = true := by decide +kernel
theorem bz_X10_repair : bq_X10_repair.all (ab_ck ab_hd ab_xs [] [] bx_X10_repair be_X10_repair bi_X10_repair (some .int) 5 23) = true := by decide +kernel
theorem bz_X10_canShed : bq_X10_canShed.all (ab_ck ab_hd ab_xs [(101, 0), (115, 126)] [] bx_X10_canShed ec_no bi_X10_canShed (some .boolean) 2 16) = true := by decide +kernel
theorem bz_X10_together : bq_X10_together.all (ab_ck ab_hd ab_xs [] [] bx_X10_together be_X10_together bi_X10_together (some .int) 7 38) = true := by decide +kernel
theorem bz_X10_shed : bq_X10_shed.all (ab_ck ab_hd ab_xs [] [] bx_X10_shed be_X10_shed bi_X10_shed (some .int) 8 61) = true := by decide +kernel
theorem bz_X10_endText : bq_X10_endText.all (ab_ck ab_hd ab_xs [(101, 0), (115, 126)] [] bx_X10_endText ec_no bi_X10_endText none 2 38) = true := by decide +kernel
theorem bz_X10_abortText : bq_X10_abortText.all (ab_ck ab_hd ab_xs [(101, 0), (115, 126)] [] bx_X10_abortText be_X10_abortText bi_X10_abortText none 1 37) = true := by decide +kernel
theorem bz_X10_isLine : bq_X10_isLine.all (ab_ck ab_hd ab_xs [(101, 0), (115, 126)] [] bx_X10_isLine ec_no bi_X10_isLine (some .boolean) 2 11) = true := by decide +kernel
theorem bz_X10_canCheck : bq_X10_canCheck.all (ab_ck ab_hd ab_xs [(101, 0), (115, 126)] [] bx_X10_canCheck be_X10_canCheck bi_X10_canCheck (some .boolean) 4 35) = true := by decide +kernel
theorem bz_X10_isSo : bq_X10_isSo.all (ab_ck ab_hd ab_xs [(101, 0), (115, 126)] [] bx_X10_isSo ec_no bi_X10_isSo (some .boolean) 3 21) = true := by decide +kernel
theorem bz_X10_doLine : bq_X10_doLine.all (ab_ck ab_hd ab_xs [(101, 0), (115, 126)] [] bx_X10_doLine be_X10_doLine bi_X10_doLine (some .boolean) 5 33) = true := by decide +kernel
theorem bz_X10_runText : bq_X10_runText.all (ab_ck ab_hd ab_xs [(101, 0), (115, 126)] [] bx_X10_runText be_X10_runText bi_X10_runText none 2 54) = true := by decide +kernel
theorem bz_X10_line : bq_X10_line.all (ab_ck ab_hd ab_xs [] [] bx_X10_line be_X10_line bi_X10_line (some .int) 5 52) = true := by decide +kernel
theorem bz_X10_erase : bq_X10_erase.all (ab_ck ab_hd ab_xs [] [] bx_X10_erase be_X10_erase bi_X10_erase (some .int) 2 16) = true := by decide +kernel
theorem bz_X10_begin : bq_X10_begin.all (ab_ck ab_hd ab_xs [] [] bx_X10_begin be_X10_begin bi_X10_begin (some .int) 1 23) = true := by decide +kernel
theorem bz_X10_halt : bq_X10_halt.all (ab_ck ab_hd ab_xs [] [] bx_X10_halt be_X10_halt bi_X10_halt (some .int) 2 25) = true := by decide +kernel
theorem bz_X10_abort : bq_X10_abort.all (ab_ck ab_hd ab_xs [] [] bx_X10_abort be_X10_abort bi_X10_abort (some .int) 1 14) = true := by decide +kernel
theorem bz_X10_text : bq_X10_text.all (ab_ck ab_hd ab_xs [] [] bx_X10_text be_X10_text bi_X10_text (some .int) 2 14) = true := by decide +kernel
theorem bz_X10_mendAll : bq_X10_mendAll.all (ab_ck ab_hd ab_xs [(101, 0), (115, 126)] [] bx_X10_mendAll ec_no bi_X10_mendAll none 2 47) = true := by decide +kernel
theorem bz_X10_feedAll : bq_X10_feedAll.all (ab_ck ab_hd ab_xs [(101, 0), (115, 126)] [] bx_X10_feedAll be_X10_feedAll bi_X10_feedAll none 4 39) = true := by decide +kernel
theorem bz_X10_lesser : bq_X10_lesser.all (ab_ck ab_hd ab_xs [(101, 0), (115, 126)] [] bx_X10_lesser ec_no bi_X10_lesser (some .int) 2 8) = true := by decide +kernel
theorem bz_X10_workOf : bq_X10_workOf.all (ab_ck ab_hd ab_xs [(101, 0), (115, 126)] [] bx_X10_workOf be_X10_workOf bi_X10_workOf none 4 98) = true := by decide +kernel
theorem bz_X10_breathe : bq_X10_breathe.all (ab_ck ab_hd ab_xs [(101, 0), (115, 126)] [] bx_X10_breathe be_X10_breathe bi_X10_breathe none 5 143) = true := by decide +kernel
theorem bz_X10_leakAll : bq_X10_leakAll.all (ab_ck ab_hd ab_xs [(101, 0), (115, 126)] [] bx_X10_leakAll ec_no bi_X10_leakAll none 3 43) = true := by decide +kernel
theorem bz_X10_mixAll : bq_X10_mixAll.all (ab_ck ab_hd ab_xs [(101, 0), (115, 126)] [] bx_X10_mixAll ec_no bi_X10_mixAll none 4 63) = true := by decide +kernel
theorem bz_X10_brokenAt : bq_X10_brokenAt.all (ab_ck ab_hd ab_xs [(101, 0), (115, 126)] [] bx_X10_brokenAt ec_no bi_X10_brokenAt (some .int) 4 39) = true := by decide +kernel
theorem bz_X10_tick : bq_X10_tick.all (ab_ck ab_hd ab_xs [(101, 0), (115, 126)] [] bx_X10_tick be_X10_tick bi_X10_tick (some .boolean) 2 46) = true := by decide +kernel
