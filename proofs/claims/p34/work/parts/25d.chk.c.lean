theorem bz_X9_ticks : bq_X9_ticks.all (ab_ck ab_hd ab_xs [] [] bx_X9_ticks be_X9_ticks bi_X9_ticks (some .int) 3 19) = true := by decide +kernel
theorem bz_X9_broke : bq_X9_broke.all (ab_ck ab_hd ab_xs [] [] bx_X9_broke be_X9_broke bi_X9_broke (some .int) 2 10) = true := by decide +kernel
theorem bz_X9_ahead : bq_X9_ahead.all (ab_ck ab_hd ab_xs [] [] bx_X9_ahead be_X9_ahead bi_X9_ahead (some .int) 3 15) = true := by decide +kernel
theorem bz_X9_line : bq_X9_line.all (ab_ck ab_hd ab_xs [] [] bx_X9_line be_X9_line bi_X9_line (some .int) 5 22) = true := by decide +kernel
theorem bz_X9_erase : bq_X9_erase.all (ab_ck ab_hd ab_xs [] [] bx_X9_erase be_X9_erase bi_X9_erase (some .int) 2 17) = true := by decide +kernel
theorem bz_X9_begin : bq_X9_begin.all (ab_ck ab_hd ab_xs [] [] bx_X9_begin be_X9_begin bi_X9_begin (some .int) 1 17) = true := by decide +kernel
theorem bz_X9_halt : bq_X9_halt.all (ab_ck ab_hd ab_xs [] [] bx_X9_halt be_X9_halt bi_X9_halt (some .int) 2 10) = true := by decide +kernel
theorem bz_X9_abort : bq_X9_abort.all (ab_ck ab_hd ab_xs [] [] bx_X9_abort be_X9_abort bi_X9_abort (some .int) 1 17) = true := by decide +kernel
theorem bz_X9_text : bq_X9_text.all (ab_ck ab_hd ab_xs [] [] bx_X9_text be_X9_text bi_X9_text (some .int) 2 10) = true := by decide +kernel
theorem bz_X9_hunt : bq_X9_hunt.all (ab_ck ab_hd ab_xs [(7, 6), (7, 7), (64, 1)] [] bx_X9_hunt be_X9_hunt bi_X9_hunt (some .int) 1 9) = true := by decide +kernel
theorem bz_X9_suspects : bq_X9_suspects.all (ab_ck ab_hd ab_xs [(64, 1)] [] bx_X9_suspects ec_no bi_X9_suspects (some .int) 1 6) = true := by decide +kernel
theorem bz_X9_read : bq_X9_read.all (ab_ck ab_hd ab_xs [] [] bx_X9_read be_X9_read bi_X9_read (some .int) 3 13) = true := by decide +kernel
theorem bz_X9_calibrate : bq_X9_calibrate.all (ab_ck ab_hd ab_xs [] [] bx_X9_calibrate be_X9_calibrate bi_X9_calibrate (some .int) 3 13) = true := by decide +kernel
theorem bz_X9_worked : bq_X9_worked.all (ab_ck ab_hd ab_xs [] [] bx_X9_worked be_X9_worked bi_X9_worked (some .int) 2 9) = true := by decide +kernel
theorem bz_X9_delay : bq_X9_delay.all (ab_ck ab_hd ab_xs [] [] bx_X9_delay be_X9_delay bi_X9_delay (some .int) 2 9) = true := by decide +kernel
theorem bz_X9_known : bq_X9_known.all (ab_ck ab_hd ab_xs [] [] bx_X9_known be_X9_known bi_X9_known (some .int) 3 10) = true := by decide +kernel
theorem bz_X9_isMass : bq_X9_isMass.all (ab_ck ab_hd ab_xs [] [] bx_X9_isMass ec_no bi_X9_isMass (some .boolean) 1 11) = true := by decide +kernel
theorem bz_X9_setMass : bq_X9_setMass.all (ab_ck ab_hd ab_xs [] [] bx_X9_setMass be_X9_setMass bi_X9_setMass (some .int) 3 19) = true := by decide +kernel
theorem bz_X9_isSpeed : bq_X9_isSpeed.all (ab_ck ab_hd ab_xs [] [] bx_X9_isSpeed ec_no bi_X9_isSpeed (some .boolean) 1 11) = true := by decide +kernel
theorem bz_X9_setSpeed : bq_X9_setSpeed.all (ab_ck ab_hd ab_xs [] [] bx_X9_setSpeed be_X9_setSpeed bi_X9_setSpeed (some .int) 3 19) = true := by decide +kernel
theorem bz_X9_mass : bq_X9_mass.all (ab_ck ab_hd ab_xs [] [] bx_X9_mass be_X9_mass bi_X9_mass (some .int) 3 13) = true := by decide +kernel
theorem bz_X9_dock : bq_X9_dock.all (ab_ck ab_hd ab_xs [] [] bx_X9_dock be_X9_dock bi_X9_dock (some .int) 6 43) = true := by decide +kernel
theorem bz_X9_undock : bq_X9_undock.all (ab_ck ab_hd ab_xs [] [] bx_X9_undock be_X9_undock bi_X9_undock (some .int) 2 20) = true := by decide +kernel
theorem bz_X9_tell : bq_X9_tell.all (ab_ck ab_hd ab_xs [] [] bx_X9_tell be_X9_tell bi_X9_tell (some .int) 2 21) = true := by decide +kernel
theorem bz_X9_check : bq_X9_check.all (ab_ck ab_hd ab_xs [] [] bx_X9_check be_X9_check bi_X9_check (some .int) 5 24) = true := by decide +kernel
theorem bz_X9_count : bq_X9_count.all (ab_ck ab_hd ab_xs [] [] bx_X9_count be_X9_count bi_X9_count (some .int) 2 9) = true := by decide +kernel
theorem bz_X9_found : bq_X9_found.all (ab_ck ab_hd ab_xs [] [] bx_X9_found be_X9_found bi_X9_found (some .int) 2 13) = true := by decide +kernel
theorem bz_X10_finding : bq_X10_finding.all (ab_ck ab_hd ab_xs [(76, 0), (76, 4), (80, 0), (80, 1), (80, 2), (80, 3), (80, 4), (80, 5), (80, 6), (80, 7), (81, 0), (81, 1), (81, 2), (81, 3), (81, 4), (81, 5), (81, 6), (81, 7), (76, 39)] [] bx_X10_finding ec_no bi_X10_finding (some .int) 2 14) = true := by decide +kernel
theorem bz_X10_isIn : bq_X10_isIn.all (ab_ck ab_hd ab_xs [(76, 39)] [] bx_X10_isIn ec_no bi_X10_isIn (some .boolean) 3 11) = true := by decide +kernel
theorem bz_X10_isModule : bq_X10_isModule.all (ab_ck ab_hd ab_xs [(76, 0), (76, 4), (80, 0), (80, 1), (80, 2), (80, 3), (80, 4), (80, 5), (80, 6), (80, 7), (81, 0), (81, 1), (81, 2), (81, 3), (81, 4), (81, 5), (81, 6), (81, 7), (76, 39)] [] bx_X10_isModule ec_no bi_X10_isModule (some .boolean) 2 11) = true := by decide +kernel
theorem bz_X10_isHatch : bq_X10_isHatch.all (ab_ck ab_hd ab_xs [] [] bx_X10_isHatch ec_no bi_X10_isHatch (some .boolean) 2 11) = true := by decide +kernel
theorem bz_X10_isPerson : bq_X10_isPerson.all (ab_ck ab_hd ab_xs [] [] bx_X10_isPerson ec_no bi_X10_isPerson (some .boolean) 2 11) = true := by decide +kernel
theorem bz_X10_isMachine : bq_X10_isMachine.all (ab_ck ab_hd ab_xs [] [] bx_X10_isMachine ec_no bi_X10_isMachine (some .boolean) 2 11) = true := by decide +kernel
theorem bz_X10_module : bq_X10_module.all (ab_ck ab_hd ab_xs [(76, 0), (76, 4)] [] bx_X10_module be_X10_module bi_X10_module (some .int) 1 17) = true := by decide +kernel
theorem bz_X10_hatch : bq_X10_hatch.all (ab_ck ab_hd ab_xs [(76, 0), (76, 4), (80, 0), (80, 1), (80, 2), (80, 3), (80, 4), (80, 5), (80, 6), (80, 7), (81, 0), (81, 1), (81, 2), (81, 3), (81, 4), (81, 5), (81, 6), (81, 7)] [] bx_X10_hatch be_X10_hatch bi_X10_hatch (some .int) 3 46) = true := by decide +kernel
theorem bz_X10_shut : bq_X10_shut.all (ab_ck ab_hd ab_xs [] [] bx_X10_shut be_X10_shut bi_X10_shut (some .int) 4 23) = true := by decide +kernel
theorem bz_X10_gas : bq_X10_gas.all (ab_ck ab_hd ab_xs [] [] bx_X10_gas be_X10_gas bi_X10_gas (some .int) 5 49) = true := by decide +kernel
theorem bz_X10_leak : bq_X10_leak.all (ab_ck ab_hd ab_xs [] [] bx_X10_leak be_X10_leak bi_X10_leak (some .int) 4 23) = true := by decide +kernel
theorem bz_X10_tank : bq_X10_tank.all (ab_ck ab_hd ab_xs [] [] bx_X10_tank be_X10_tank bi_X10_tank (some .int) 4 27) = true := by decide +kernel
theorem bz_X10_grams : bq_X10_grams.all (ab_ck ab_hd ab_xs [] [] bx_X10_grams ec_no bi_X10_grams (some .int) 3 17) = true := by decide +kernel
theorem bz_X10_person : bq_X10_person.all (ab_ck ab_hd ab_xs [] [] bx_X10_person be_X10_person bi_X10_person (some .int) 2 33) = true := by decide +kernel
theorem bz_X10_canGo : bq_X10_canGo.all (ab_ck ab_hd ab_xs [] [] bx_X10_canGo ec_no bi_X10_canGo (some .boolean) 5 49) = true := by decide +kernel
theorem bz_X10_go : bq_X10_go.all (ab_ck ab_hd ab_xs [] [] bx_X10_go be_X10_go bi_X10_go (some .int) 3 22) = true := by decide +kernel
theorem bz_X10_doing : bq_X10_doing.all (ab_ck ab_hd ab_xs [] [] bx_X10_doing be_X10_doing bi_X10_doing (some .int) 4 28) = true := by decide +kernel
theorem bz_X10_about : bq_X10_about.all (ab_ck ab_hd ab_xs [] [] bx_X10_about be_X10_about bi_X10_about (some .int) 3 18) = true := by decide +kernel
theorem bz_X10_machine : bq_X10_machine.all (ab_ck ab_hd ab_xs [] [] bx_X10_machine be_X10_machine bi_X10_machine (some .int) 6 111) = true := by decide +kernel
theorem bz_X10_as : bq_X10_as.all (ab_ck ab_hd ab_xs [] [] bx_X10_as be_X10_as bi_X10_as (some .int) 3 34) = true := by decide +kernel
theorem bz_X10_turn : bq_X10_turn.all (ab_ck ab_hd ab_xs [] [] bx_X10_turn be_X10_turn bi_X10_turn (some .int) 4 23) = true := by decide +kernel
theorem bz_X10_of : bq_X10_of.all (ab_ck ab_hd ab_xs [] [] bx_X10_of be_X10_of bi_X10_of (some .int) 3 18) = true := by decide +kernel
theorem bz_X10_spares : bq_X10_spares.all (ab_ck ab_hd ab_xs [] [] bx_X10_spares be_X10_spares bi_X10_spares (some .int) 4 27) = true := by decide +kernel
theorem bz_X10_isMended : bq_X10_isMended.all (ab_ck ab_hd ab_xs [] [] bx_X10_isMended ec_no bi_X10_isMended (some .boolean) 4 19) = true := by decide +kernel
theorem bz_X10_refusesMend : bq_X10_refusesMend.all (ab_ck ab_hd ab_xs [] [] bx_X10_refusesMend be_X10_refusesMend bi_X10_refusesMend (some .int) 4 49) = true := by decide +kernel
theorem bz_X10_beginMend : bq_X10_beginMend.all (ab_ck ab_hd ab_xs [] [] bx_X10_beginMend ec_no bi_X10_beginMend none 4 29) = true := by decide +kernel
theorem bz_X10_repair : bq_X10_repair.all (ab_ck ab_hd ab_xs [] [] bx_X10_repair be_X10_repair bi_X10_repair (some .int) 5 23) = true := by decide +kernel
theorem bz_X10_canShed : bq_X10_canShed.all (ab_ck ab_hd ab_xs [] [] bx_X10_canShed ec_no bi_X10_canShed (some .boolean) 2 16) = true := by decide +kernel
theorem bz_X10_together : bq_X10_together.all (ab_ck ab_hd ab_xs [] [] bx_X10_together be_X10_together bi_X10_together (some .int) 7 38) = true := by decide +kernel
theorem bz_X10_shed : bq_X10_shed.all (ab_ck ab_hd ab_xs [] [] bx_X10_shed be_X10_shed bi_X10_shed (some .int) 8 61) = true := by decide +kernel
theorem bz_X10_endText : bq_X10_endText.all (ab_ck ab_hd ab_xs [] [] bx_X10_endText ec_no bi_X10_endText none 2 38) = true := by decide +kernel
