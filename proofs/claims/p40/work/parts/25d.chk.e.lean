theorem bz_X10_sun : bq_X10_sun.all (ab_ck ab_hd ab_xs [] [] bx_X10_sun be_X10_sun bi_X10_sun (some .int) 3 34) = true := by decide +kernel
theorem bz_X10_battery : bq_X10_battery.all (ab_ck ab_hd ab_xs [] [] bx_X10_battery be_X10_battery bi_X10_battery (some .int) 3 23) = true := by decide +kernel
theorem bz_X10_bounds : bq_X10_bounds.all (ab_ck ab_hd ab_xs [] [] bx_X10_bounds be_X10_bounds bi_X10_bounds (some .int) 4 28) = true := by decide +kernel
theorem bz_X10_ticks : bq_X10_ticks.all (ab_ck ab_hd ab_xs [(101, 0), (115, 126)] [] bx_X10_ticks be_X10_ticks bi_X10_ticks (some .int) 4 825) = true := by decide +kernel
theorem bz_X10_broke : bq_X10_broke.all (ab_ck ab_hd ab_xs [] [] bx_X10_broke be_X10_broke bi_X10_broke (some .int) 2 19) = true := by decide +kernel
theorem bz_X10_lays : bq_X10_lays.all (ab_ck ab_hd ab_xs [(101, 0), (115, 126)] [] bx_X10_lays ec_no bi_X10_lays none 4 561) = true := by decide +kernel
theorem bz_X10_layAside : bq_X10_layAside.all (ab_ck ab_hd ab_xs [(101, 0), (115, 126)] [] bx_X10_layAside be_X10_layAside bi_X10_layAside none 2 86) = true := by decide +kernel
theorem bz_X10_ahead : bq_X10_ahead.all (ab_ck ab_hd ab_xs [(101, 0), (115, 126)] [] bx_X10_ahead be_X10_ahead bi_X10_ahead (some .int) 4 15) = true := by decide +kernel
theorem bz_X10_ones : bq_X10_ones.all (ab_ck ab_hd ab_xs [] [] bx_X10_ones ec_no bi_X10_ones (some .int) 3 15) = true := by decide +kernel
theorem bz_X10_hunt : bq_X10_hunt.all (ab_ck ab_hd ab_xs [] [] bx_X10_hunt ec_no bi_X10_hunt (some .int) 1 13) = true := by decide +kernel
theorem bz_X10_test : bq_X10_test.all (ab_ck ab_hd ab_xs [] [] bx_X10_test be_X10_test bi_X10_test (some .int) 4 32) = true := by decide +kernel
theorem bz_X10_worst : bq_X10_worst.all (ab_ck ab_hd ab_xs [] [] bx_X10_worst be_X10_worst bi_X10_worst (some .int) 5 23) = true := by decide +kernel
theorem bz_X10_best : bq_X10_best.all (ab_ck ab_hd ab_xs [] [] bx_X10_best be_X10_best bi_X10_best (some .int) 5 30) = true := by decide +kernel
theorem bz_X10_suspects : bq_X10_suspects.all (ab_ck ab_hd ab_xs [] [] bx_X10_suspects ec_no bi_X10_suspects (some .int) 1 5) = true := by decide +kernel
theorem bz_X10_read : bq_X10_read.all (ab_ck ab_hd ab_xs [(101, 0), (76, 40), (76, 49), (106, 0), (106, 1), (106, 2), (106, 3), (106, 4), (106, 5), (106, 6), (106, 7), (106, 8), (106, 9), (106, 10), (106, 11), (106, 12), (106, 13), (106, 14), (106, 15), (106, 16), (106, 17), (106, 18), (106, 19), (106, 20), (106, 21), (106, 22), (106, 23), (106, 24), (106, 25), (106, 26), (106, 27), (106, 28), (106, 29), (106, 30), (106, 31), (106, 32), (106, 33), (106, 34), (106, 35), (106, 36), (106, 37), (106, 38), (106, 39), (109, 0), (109, 1), (109, 2), (109, 3), (109, 4), (109, 5), (109, 6), (109, 7), (109, 8), (109, 9), (109, 10), (109, 11), (109, 12), (109, 13), (109, 14), (109, 15), (109, 16), (109, 17), (109, 18), (109, 19), (109, 20), (109, 21), (109, 22), (109, 23), (109, 24), (109, 25), (109, 26), (109, 27), (109, 28), (109, 29), (109, 30), (109, 31), (109, 32), (109, 33), (109, 34), (109, 35), (109, 36), (109, 37), (109, 38), (109, 39)] [(52, 1)] bx_X10_read be_X10_read bi_X10_read (some .int) 3 60) = true := by decide +kernel
theorem bz_X10_calibrate : bq_X10_calibrate.all (ab_ck ab_hd ab_xs [] [] bx_X10_calibrate be_X10_calibrate bi_X10_calibrate (some .int) 3 46) = true := by decide +kernel
theorem bz_X10_worked : bq_X10_worked.all (ab_ck ab_hd ab_xs [] [] bx_X10_worked be_X10_worked bi_X10_worked (some .int) 2 24) = true := by decide +kernel
theorem bz_X10_delay : bq_X10_delay.all (ab_ck ab_hd ab_xs [(76, 49)] [] bx_X10_delay be_X10_delay bi_X10_delay (some .int) 3 15) = true := by decide +kernel
theorem bz_X10_known : bc_X10_known.all (fun c => ab_cko ab_hd ab_xs [(76, 40)] [] bx_X10_known be_X10_known bi_X10_known (some .int) 5 40 c be_X10_known_es be_X10_known_xo [31, 75]) = true := by decide +kernel
theorem bz_X10_mass : bq_X10_mass.all (ab_ck ab_hd ab_xs [] [] bx_X10_mass be_X10_mass bi_X10_mass (some .int) 4 40) = true := by decide +kernel
theorem bz_X10_dock : bq_X10_dock.all (ab_ck ab_hd ab_xs [] [] bx_X10_dock be_X10_dock bi_X10_dock (some .int) 3 49) = true := by decide +kernel
theorem bz_X10_undock : bq_X10_undock.all (ab_ck ab_hd ab_xs [] [] bx_X10_undock be_X10_undock bi_X10_undock (some .int) 2 22) = true := by decide +kernel
theorem bz_X10_tell : bq_X10_tell.all (ab_ck ab_hd ab_xs [] [] bx_X10_tell be_X10_tell bi_X10_tell (some .int) 2 21) = true := by decide +kernel
theorem bz_X10_check : bq_X10_check.all (ab_ck ab_hd ab_xs [(101, 0), (115, 126)] [] bx_X10_check be_X10_check bi_X10_check (some .int) 7 33) = true := by decide +kernel
theorem bz_X10_count : bq_X10_count.all (ab_ck ab_hd ab_xs [] [] bx_X10_count be_X10_count bi_X10_count (some .int) 4 18) = true := by decide +kernel
theorem bz_X10_found : bq_X10_found.all (ab_ck ab_hd ab_xs [] [] bx_X10_found be_X10_found bi_X10_found (some .int) 2 13) = true := by decide +kernel
