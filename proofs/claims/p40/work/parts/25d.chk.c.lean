theorem bz_X9_module : bq_X9_module.all (ab_ck ab_hd ab_xs [] [] bx_X9_module be_X9_module bi_X9_module (some .int) 1 9) = true := by decide +kernel
theorem bz_X9_hatch : bq_X9_hatch.all (ab_ck ab_hd ab_xs [] [] bx_X9_hatch be_X9_hatch bi_X9_hatch (some .int) 3 11) = true := by decide +kernel
theorem bz_X9_shut : bq_X9_shut.all (ab_ck ab_hd ab_xs [] [] bx_X9_shut be_X9_shut bi_X9_shut (some .int) 3 11) = true := by decide +kernel
theorem bz_X9_gas : bq_X9_gas.all (ab_ck ab_hd ab_xs [] [] bx_X9_gas be_X9_gas bi_X9_gas (some .int) 4 12) = true := by decide +kernel
theorem bz_X9_leak : bq_X9_leak.all (ab_ck ab_hd ab_xs [] [] bx_X9_leak be_X9_leak bi_X9_leak (some .int) 3 11) = true := by decide +kernel
theorem bz_X9_tank : bq_X9_tank.all (ab_ck ab_hd ab_xs [] [] bx_X9_tank be_X9_tank bi_X9_tank (some .int) 3 11) = true := by decide +kernel
theorem bz_X9_grams : bq_X9_grams.all (ab_ck ab_hd ab_xs [] [] bx_X9_grams be_X9_grams bi_X9_grams (some .int) 1 7) = true := by decide +kernel
theorem bz_X9_person : bq_X9_person.all (ab_ck ab_hd ab_xs [] [] bx_X9_person be_X9_person bi_X9_person (some .int) 2 16) = true := by decide +kernel
theorem bz_X9_go : bq_X9_go.all (ab_ck ab_hd ab_xs [] [] bx_X9_go be_X9_go bi_X9_go (some .int) 3 10) = true := by decide +kernel
theorem bz_X9_doing : bq_X9_doing.all (ab_ck ab_hd ab_xs [] [] bx_X9_doing be_X9_doing bi_X9_doing (some .int) 3 11) = true := by decide +kernel
theorem bz_X9_about : bq_X9_about.all (ab_ck ab_hd ab_xs [] [] bx_X9_about be_X9_about bi_X9_about (some .int) 3 11) = true := by decide +kernel
theorem bz_X9_machine : bq_X9_machine.all (ab_ck ab_hd ab_xs [] [] bx_X9_machine be_X9_machine bi_X9_machine (some .int) 5 19) = true := by decide +kernel
theorem bz_X9_as : bq_X9_as.all (ab_ck ab_hd ab_xs [] [] bx_X9_as be_X9_as bi_X9_as (some .int) 3 11) = true := by decide +kernel
theorem bz_X9_turn : bq_X9_turn.all (ab_ck ab_hd ab_xs [] [] bx_X9_turn be_X9_turn bi_X9_turn (some .int) 3 11) = true := by decide +kernel
theorem bz_X9_of : bq_X9_of.all (ab_ck ab_hd ab_xs [] [] bx_X9_of be_X9_of bi_X9_of (some .int) 3 11) = true := by decide +kernel
theorem bz_X9_spares : bq_X9_spares.all (ab_ck ab_hd ab_xs [] [] bx_X9_spares be_X9_spares bi_X9_spares (some .int) 3 11) = true := by decide +kernel
theorem bz_X9_repair : bq_X9_repair.all (ab_ck ab_hd ab_xs [] [] bx_X9_repair be_X9_repair bi_X9_repair (some .int) 4 11) = true := by decide +kernel
theorem bz_X9_shed : bq_X9_shed.all (ab_ck ab_hd ab_xs [] [] bx_X9_shed be_X9_shed bi_X9_shed (some .int) 3 11) = true := by decide +kernel
theorem bz_X9_sun : bq_X9_sun.all (ab_ck ab_hd ab_xs [] [] bx_X9_sun be_X9_sun bi_X9_sun (some .int) 3 11) = true := by decide +kernel
theorem bz_X9_battery : bq_X9_battery.all (ab_ck ab_hd ab_xs [] [] bx_X9_battery be_X9_battery bi_X9_battery (some .int) 2 10) = true := by decide +kernel
theorem bz_X9_bounds : bq_X9_bounds.all (ab_ck ab_hd ab_xs [] [] bx_X9_bounds be_X9_bounds bi_X9_bounds (some .int) 4 12) = true := by decide +kernel
theorem bz_X9_ticks : bq_X9_ticks.all (ab_ck ab_hd ab_xs [(6, 6)] [] bx_X9_ticks be_X9_ticks bi_X9_ticks (some .int) 3 924) = true := by decide +kernel
theorem bz_X9_broke : bq_X9_broke.all (ab_ck ab_hd ab_xs [] [] bx_X9_broke be_X9_broke bi_X9_broke (some .int) 2 10) = true := by decide +kernel
theorem bz_X9_ahead : bq_X9_ahead.all (ab_ck ab_hd ab_xs [(6, 6)] [] bx_X9_ahead be_X9_ahead bi_X9_ahead (some .int) 3 15) = true := by decide +kernel
theorem bz_X9_line : bq_X9_line.all (ab_ck ab_hd ab_xs [] [] bx_X9_line be_X9_line bi_X9_line (some .int) 5 22) = true := by decide +kernel
theorem bz_X9_erase : bq_X9_erase.all (ab_ck ab_hd ab_xs [] [] bx_X9_erase be_X9_erase bi_X9_erase (some .int) 2 17) = true := by decide +kernel
theorem bz_X9_begin : bq_X9_begin.all (ab_ck ab_hd ab_xs [] [] bx_X9_begin be_X9_begin bi_X9_begin (some .int) 1 17) = true := by decide +kernel
theorem bz_X9_halt : bq_X9_halt.all (ab_ck ab_hd ab_xs [] [] bx_X9_halt be_X9_halt bi_X9_halt (some .int) 2 10) = true := by decide +kernel
theorem bz_X9_abort : bq_X9_abort.all (ab_ck ab_hd ab_xs [] [] bx_X9_abort be_X9_abort bi_X9_abort (some .int) 1 17) = true := by decide +kernel
theorem bz_X9_text : bq_X9_text.all (ab_ck ab_hd ab_xs [] [] bx_X9_text be_X9_text bi_X9_text (some .int) 2 10) = true := by decide +kernel
theorem bz_X9_hunt : bq_X9_hunt.all (ab_ck ab_hd ab_xs [] [] bx_X9_hunt be_X9_hunt bi_X9_hunt (some .int) 1 9) = true := by decide +kernel
theorem bz_X9_test : bq_X9_test.all (ab_ck ab_hd ab_xs [] [] bx_X9_test be_X9_test bi_X9_test (some .int) 3 13) = true := by decide +kernel
theorem bz_X9_best : bq_X9_best.all (ab_ck ab_hd ab_xs [] [] bx_X9_best be_X9_best bi_X9_best (some .int) 2 12) = true := by decide +kernel
theorem bz_X9_suspects : bq_X9_suspects.all (ab_ck ab_hd ab_xs [] [] bx_X9_suspects ec_no bi_X9_suspects (some .int) 1 6) = true := by decide +kernel
theorem bz_X9_read : bq_X9_read.all (ab_ck ab_hd ab_xs [(6, 6), (66, 7), (66, 9), (67, 0), (67, 1), (67, 2), (67, 3), (67, 4), (67, 5), (67, 6), (67, 7), (67, 8), (67, 9), (67, 10), (67, 11), (67, 12), (67, 13), (67, 14), (67, 15), (67, 16), (67, 17), (67, 18), (67, 19), (67, 20), (67, 21), (67, 22), (67, 23), (67, 24), (67, 25), (67, 26), (67, 27), (67, 28), (67, 29), (67, 30), (67, 31), (67, 32), (67, 33), (67, 34), (67, 35), (67, 36), (67, 37), (67, 38), (67, 39), (70, 0), (70, 1), (70, 2), (70, 3), (70, 4), (70, 5), (70, 6), (70, 7), (70, 8), (70, 9), (70, 10), (70, 11), (70, 12), (70, 13), (70, 14), (70, 15), (70, 16), (70, 17), (70, 18), (70, 19), (70, 20), (70, 21), (70, 22), (70, 23), (70, 24), (70, 25), (70, 26), (70, 27), (70, 28), (70, 29), (70, 30), (70, 31), (70, 32), (70, 33), (70, 34), (70, 35), (70, 36), (70, 37), (70, 38), (70, 39)] [] bx_X9_read be_X9_read bi_X9_read (some .int) 3 13) = true := by decide +kernel
theorem bz_X9_calibrate : bq_X9_calibrate.all (ab_ck ab_hd ab_xs [] [] bx_X9_calibrate be_X9_calibrate bi_X9_calibrate (some .int) 3 13) = true := by decide +kernel
theorem bz_X9_worked : bq_X9_worked.all (ab_ck ab_hd ab_xs [] [] bx_X9_worked be_X9_worked bi_X9_worked (some .int) 2 9) = true := by decide +kernel
theorem bz_X9_delay : bq_X9_delay.all (ab_ck ab_hd ab_xs [(66, 9)] [] bx_X9_delay be_X9_delay bi_X9_delay (some .int) 2 9) = true := by decide +kernel
theorem bz_X9_known : bq_X9_known.all (ab_ck ab_hd ab_xs [(66, 7)] [] bx_X9_known be_X9_known bi_X9_known (some .int) 3 10) = true := by decide +kernel
theorem bz_X9_isMass : bq_X9_isMass.all (ab_ck ab_hd ab_xs [] [] bx_X9_isMass ec_no bi_X9_isMass (some .boolean) 1 11) = true := by decide +kernel
theorem bz_X9_setMass : bq_X9_setMass.all (ab_ck ab_hd ab_xs [] [] bx_X9_setMass be_X9_setMass bi_X9_setMass (some .int) 3 19) = true := by decide +kernel
theorem bz_X9_isSpeed : bq_X9_isSpeed.all (ab_ck ab_hd ab_xs [] [] bx_X9_isSpeed ec_no bi_X9_isSpeed (some .boolean) 1 11) = true := by decide +kernel
theorem bz_X9_setSpeed : bq_X9_setSpeed.all (ab_ck ab_hd ab_xs [] [] bx_X9_setSpeed be_X9_setSpeed bi_X9_setSpeed (some .int) 3 19) = true := by decide +kernel
theorem bz_X9_mass : bq_X9_mass.all (ab_ck ab_hd ab_xs [] [] bx_X9_mass be_X9_mass bi_X9_mass (some .int) 3 13) = true := by decide +kernel
theorem bz_X9_dock : bq_X9_dock.all (ab_ck ab_hd ab_xs [] [] bx_X9_dock be_X9_dock bi_X9_dock (some .int) 6 43) = true := by decide +kernel
theorem bz_X9_undock : bq_X9_undock.all (ab_ck ab_hd ab_xs [] [] bx_X9_undock be_X9_undock bi_X9_undock (some .int) 2 20) = true := by decide +kernel
theorem bz_X9_tell : bq_X9_tell.all (ab_ck ab_hd ab_xs [] [] bx_X9_tell be_X9_tell bi_X9_tell (some .int) 2 21) = true := by decide +kernel
theorem bz_X9_check : bq_X9_check.all (ab_ck ab_hd ab_xs [(6, 6)] [] bx_X9_check be_X9_check bi_X9_check (some .int) 5 24) = true := by decide +kernel
theorem bz_X9_count : bq_X9_count.all (ab_ck ab_hd ab_xs [] [] bx_X9_count be_X9_count bi_X9_count (some .int) 2 9) = true := by decide +kernel
theorem bz_X9_found : bq_X9_found.all (ab_ck ab_hd ab_xs [] [] bx_X9_found be_X9_found bi_X9_found (some .int) 2 13) = true := by decide +kernel
theorem bz_X10_finding : bq_X10_finding.all (ab_ck ab_hd ab_xs [(101, 0), (76, 40), (76, 49), (106, 0), (106, 1), (106, 2), (106, 3), (106, 4), (106, 5), (106, 6), (106, 7), (106, 8), (106, 9), (106, 10), (106, 11), (106, 12), (106, 13), (106, 14), (106, 15), (106, 16), (106, 17), (106, 18), (106, 19), (106, 20), (106, 21), (106, 22), (106, 23), (106, 24), (106, 25), (106, 26), (106, 27), (106, 28), (106, 29), (106, 30), (106, 31), (106, 32), (106, 33), (106, 34), (106, 35), (106, 36), (106, 37), (106, 38), (106, 39), (109, 0), (109, 1), (109, 2), (109, 3), (109, 4), (109, 5), (109, 6), (109, 7), (109, 8), (109, 9), (109, 10), (109, 11), (109, 12), (109, 13), (109, 14), (109, 15), (109, 16), (109, 17), (109, 18), (109, 19), (109, 20), (109, 21), (109, 22), (109, 23), (109, 24), (109, 25), (109, 26), (109, 27), (109, 28), (109, 29), (109, 30), (109, 31), (109, 32), (109, 33), (109, 34), (109, 35), (109, 36), (109, 37), (109, 38), (109, 39), (115, 126)] [] bx_X10_finding ec_no bi_X10_finding (some .int) 2 14) = true := by decide +kernel
