theorem bz_X10_delay : bq_X10_delay.all (ab_ck ab_hd ab_xs [] [] bx_X10_delay be_X10_delay bi_X10_delay (some .int) 3 15) = true := by decide +kernel
theorem bz_X10_known : bq_X10_known.all (ab_ck ab_hd ab_xs [] [] bx_X10_known be_X10_known bi_X10_known (some .int) 5 23) = true := by decide +kernel
theorem bz_X10_mass : bq_X10_mass.all (ab_ck ab_hd ab_xs [] [] bx_X10_mass be_X10_mass bi_X10_mass (some .int) 4 40) = true := by decide +kernel
theorem bz_X10_dock : bq_X10_dock.all (ab_ck ab_hd ab_xs [] [] bx_X10_dock be_X10_dock bi_X10_dock (some .int) 3 49) = true := by decide +kernel
theorem bz_X10_undock : bq_X10_undock.all (ab_ck ab_hd ab_xs [] [] bx_X10_undock be_X10_undock bi_X10_undock (some .int) 2 22) = true := by decide +kernel
theorem bz_X10_tell : bq_X10_tell.all (ab_ck ab_hd ab_xs [] [] bx_X10_tell be_X10_tell bi_X10_tell (some .int) 2 21) = true := by decide +kernel
theorem bz_X10_check : bq_X10_check.all (ab_ck ab_hd ab_xs [(101, 0), (115, 126)] [] bx_X10_check be_X10_check bi_X10_check (some .int) 7 33) = true := by decide +kernel
theorem bz_X10_count : bq_X10_count.all (ab_ck ab_hd ab_xs [] [] bx_X10_count be_X10_count bi_X10_count (some .int) 4 18) = true := by decide +kernel
theorem bz_X10_found : bq_X10_found.all (ab_ck ab_hd ab_xs [] [] bx_X10_found be_X10_found bi_X10_found (some .int) 2 13) = true := by decide +kernel
