theorem bz_X10_abortText : bq_X10_abortText.all (ab_ck ab_hd ab_xs [] [] bx_X10_abortText be_X10_abortText bi_X10_abortText none 1 37) = true := by decide +kernel
theorem bz_X10_isLine : bq_X10_isLine.all (ab_ck ab_hd ab_xs [] [] bx_X10_isLine ec_no bi_X10_isLine (some .boolean) 2 11) = true := by decide +kernel
theorem bz_X10_canCheck : bq_X10_canCheck.all (ab_ck ab_hd ab_xs [] [] bx_X10_canCheck be_X10_canCheck bi_X10_canCheck (some .boolean) 4 35) = true := by decide +kernel
theorem bz_X10_isSo : bq_X10_isSo.all (ab_ck ab_hd ab_xs [] [] bx_X10_isSo ec_no bi_X10_isSo (some .boolean) 3 21) = true := by decide +kernel
theorem bz_X10_doLine : bq_X10_doLine.all (ab_ck ab_hd ab_xs [] [] bx_X10_doLine be_X10_doLine bi_X10_doLine (some .boolean) 5 33) = true := by decide +kernel
theorem bz_X10_runText : bq_X10_runText.all (ab_ck ab_hd ab_xs [] [] bx_X10_runText be_X10_runText bi_X10_runText none 2 54) = true := by decide +kernel
theorem bz_X10_line : bq_X10_line.all (ab_ck ab_hd ab_xs [] [] bx_X10_line be_X10_line bi_X10_line (some .int) 5 52) = true := by decide +kernel
theorem bz_X10_erase : bq_X10_erase.all (ab_ck ab_hd ab_xs [] [] bx_X10_erase be_X10_erase bi_X10_erase (some .int) 2 16) = true := by decide +kernel
theorem bz_X10_begin : bq_X10_begin.all (ab_ck ab_hd ab_xs [] [] bx_X10_begin be_X10_begin bi_X10_begin (some .int) 1 23) = true := by decide +kernel
theorem bz_X10_halt : bq_X10_halt.all (ab_ck ab_hd ab_xs [] [] bx_X10_halt be_X10_halt bi_X10_halt (some .int) 2 25) = true := by decide +kernel
theorem bz_X10_abort : bq_X10_abort.all (ab_ck ab_hd ab_xs [] [] bx_X10_abort be_X10_abort bi_X10_abort (some .int) 1 14) = true := by decide +kernel
theorem bz_X10_text : bq_X10_text.all (ab_ck ab_hd ab_xs [] [] bx_X10_text be_X10_text bi_X10_text (some .int) 2 14) = true := by decide +kernel
theorem bz_X10_mendAll : bq_X10_mendAll.all (ab_ck ab_hd ab_xs [] [] bx_X10_mendAll ec_no bi_X10_mendAll none 2 47) = true := by decide +kernel
theorem bz_X10_feedAll : bq_X10_feedAll.all (ab_ck ab_hd ab_xs [] [] bx_X10_feedAll be_X10_feedAll bi_X10_feedAll none 4 39) = true := by decide +kernel
theorem bz_X10_lesser : bq_X10_lesser.all (ab_ck ab_hd ab_xs [] [] bx_X10_lesser ec_no bi_X10_lesser (some .int) 2 8) = true := by decide +kernel
theorem bz_X10_workOf : bq_X10_workOf.all (ab_ck ab_hd ab_xs [] [] bx_X10_workOf be_X10_workOf bi_X10_workOf none 4 98) = true := by decide +kernel
theorem bz_X10_breathe : bq_X10_breathe.all (ab_ck ab_hd ab_xs [] [] bx_X10_breathe be_X10_breathe bi_X10_breathe none 5 143) = true := by decide +kernel
theorem bz_X10_leakAll : bq_X10_leakAll.all (ab_ck ab_hd ab_xs [] [] bx_X10_leakAll ec_no bi_X10_leakAll none 3 43) = true := by decide +kernel
theorem bz_X10_mixAll : bq_X10_mixAll.all (ab_ck ab_hd ab_xs [] [] bx_X10_mixAll ec_no bi_X10_mixAll none 4 63) = true := by decide +kernel
theorem bz_X10_brokenAt : bq_X10_brokenAt.all (ab_ck ab_hd ab_xs [] [] bx_X10_brokenAt ec_no bi_X10_brokenAt (some .int) 4 39) = true := by decide +kernel
theorem bz_X10_tick : bq_X10_tick.all (ab_ck ab_hd ab_xs [] [] bx_X10_tick be_X10_tick bi_X10_tick (some .boolean) 2 46) = true := by decide +kernel
theorem bz_X10_sun : bq_X10_sun.all (ab_ck ab_hd ab_xs [] [] bx_X10_sun be_X10_sun bi_X10_sun (some .int) 3 34) = true := by decide +kernel
theorem bz_X10_battery : bq_X10_battery.all (ab_ck ab_hd ab_xs [] [] bx_X10_battery be_X10_battery bi_X10_battery (some .int) 3 23) = true := by decide +kernel
theorem bz_X10_bounds : bq_X10_bounds.all (ab_ck ab_hd ab_xs [] [] bx_X10_bounds be_X10_bounds bi_X10_bounds (some .int) 4 28) = true := by decide +kernel
theorem bz_X10_ticks : bq_X10_ticks.all (ab_ck ab_hd ab_xs [] [] bx_X10_ticks be_X10_ticks bi_X10_ticks (some .int) 4 19) = true := by decide +kernel
theorem bz_X10_broke : bq_X10_broke.all (ab_ck ab_hd ab_xs [] [] bx_X10_broke be_X10_broke bi_X10_broke (some .int) 2 19) = true := by decide +kernel
theorem bz_X10_lays : bq_X10_lays.all (ab_ck ab_hd ab_xs [] [] bx_X10_lays ec_no bi_X10_lays none 4 561) = true := by decide +kernel
theorem bz_X10_layAside : bq_X10_layAside.all (ab_ck ab_hd ab_xs [] [] bx_X10_layAside be_X10_layAside bi_X10_layAside none 2 86) = true := by decide +kernel
theorem bz_X10_ahead : bq_X10_ahead.all (ab_ck ab_hd ab_xs [] [] bx_X10_ahead be_X10_ahead bi_X10_ahead (some .int) 4 15) = true := by decide +kernel
theorem bz_X10_suspects : bq_X10_suspects.all (ab_ck ab_hd ab_xs [(76, 39)] [] bx_X10_suspects ec_no bi_X10_suspects (some .int) 1 5) = true := by decide +kernel
theorem bz_X10_read : bq_X10_read.all (ab_ck ab_hd ab_xs [] [] bx_X10_read be_X10_read bi_X10_read (some .int) 3 60) = true := by decide +kernel
theorem bz_X10_calibrate : bq_X10_calibrate.all (ab_ck ab_hd ab_xs [] [] bx_X10_calibrate be_X10_calibrate bi_X10_calibrate (some .int) 3 46) = true := by decide +kernel
theorem bz_X10_worked : bq_X10_worked.all (ab_ck ab_hd ab_xs [] [] bx_X10_worked be_X10_worked bi_X10_worked (some .int) 2 24) = true := by decide +kernel
theorem bz_X10_delay : bq_X10_delay.all (ab_ck ab_hd ab_xs [] [] bx_X10_delay be_X10_delay bi_X10_delay (some .int) 3 15) = true := by decide +kernel
theorem bz_X10_known : bq_X10_known.all (ab_ck ab_hd ab_xs [] [] bx_X10_known be_X10_known bi_X10_known (some .int) 5 23) = true := by decide +kernel
theorem bz_X10_mass : bq_X10_mass.all (ab_ck ab_hd ab_xs [] [] bx_X10_mass be_X10_mass bi_X10_mass (some .int) 4 40) = true := by decide +kernel
theorem bz_X10_dock : bq_X10_dock.all (ab_ck ab_hd ab_xs [] [] bx_X10_dock be_X10_dock bi_X10_dock (some .int) 3 49) = true := by decide +kernel
theorem bz_X10_undock : bq_X10_undock.all (ab_ck ab_hd ab_xs [] [] bx_X10_undock be_X10_undock bi_X10_undock (some .int) 2 22) = true := by decide +kernel
theorem bz_X10_tell : bq_X10_tell.all (ab_ck ab_hd ab_xs [] [] bx_X10_tell be_X10_tell bi_X10_tell (some .int) 2 21) = true := by decide +kernel
theorem bz_X10_check : bq_X10_check.all (ab_ck ab_hd ab_xs [] [] bx_X10_check be_X10_check bi_X10_check (some .int) 7 33) = true := by decide +kernel
theorem bz_X10_count : bq_X10_count.all (ab_ck ab_hd ab_xs [] [] bx_X10_count be_X10_count bi_X10_count (some .int) 4 18) = true := by decide +kernel
theorem bz_X10_found : bq_X10_found.all (ab_ck ab_hd ab_xs [] [] bx_X10_found be_X10_found bi_X10_found (some .int) 2 13) = true := by decide +kernel
