theorem bz_X9_copy : bq_X9_copy.all (ab_ck ab_hd ab_xs [] [] bx_X9_copy ec_no bi_X9_copy none 2 13) = true := by decide +kernel
theorem bz_X9_copyFlags : bq_X9_copyFlags.all (ab_ck ab_hd ab_xs [] [] bx_X9_copyFlags ec_no bi_X9_copyFlags none 3 18) = true := by decide +kernel
theorem bz_X0_becomeLike : bq_X0_becomeLike.all (ab_ck ab_hd ab_xs [] [] bx_X0_becomeLike be_X0_becomeLike bi_X0_becomeLike none 2 41) = true := by decide +kernel
theorem bz_X0_isSort : bq_X0_isSort.all (ab_ck ab_hd ab_xs [] [] bx_X0_isSort ec_no bi_X0_isSort (some .boolean) 1 10) = true := by decide +kernel
theorem bz_X0_hasModule : bq_X0_hasModule.all (ab_ck ab_hd ab_xs [(7, 6), (7, 7), (10, 0), (10, 1), (10, 2), (10, 3), (10, 4), (10, 5), (10, 6), (10, 7), (11, 0), (11, 1), (11, 2), (11, 3), (11, 4), (11, 5), (11, 6), (11, 7), (64, 1)] [] bx_X0_hasModule ec_no bi_X0_hasModule (some .boolean) 2 11) = true := by decide +kernel
theorem bz_X0_hasHatch : bq_X0_hasHatch.all (ab_ck ab_hd ab_xs [] [] bx_X0_hasHatch ec_no bi_X0_hasHatch (some .boolean) 2 11) = true := by decide +kernel
theorem bz_X0_addModule : bq_X0_addModule.all (ab_ck ab_hd ab_xs [(7, 6), (7, 7)] [] bx_X0_addModule ec_no bi_X0_addModule (some .int) 1 17) = true := by decide +kernel
theorem bz_X0_addHatch : bq_X0_addHatch.all (ab_ck ab_hd ab_xs [(7, 6), (7, 7), (10, 0), (10, 1), (10, 2), (10, 3), (10, 4), (10, 5), (10, 6), (10, 7), (11, 0), (11, 1), (11, 2), (11, 3), (11, 4), (11, 5), (11, 6), (11, 7)] [] bx_X0_addHatch be_X0_addHatch bi_X0_addHatch (some .int) 3 46) = true := by decide +kernel
theorem bz_X9_isSwitch : bq_X9_isSwitch.all (ab_ck ab_hd ab_xs [] [] bx_X9_isSwitch ec_no bi_X9_isSwitch (some .boolean) 1 10) = true := by decide +kernel
theorem bz_X9_one : bq_X9_one.all (ab_ck ab_hd ab_xs [] [] bx_X9_one ec_no bi_X9_one (some .int) 1 7) = true := by decide +kernel
theorem bz_X0_setOpen : bq_X0_setOpen.all (ab_ck ab_hd ab_xs [] [] bx_X0_setOpen be_X0_setOpen bi_X0_setOpen (some .int) 4 26) = true := by decide +kernel
theorem bz_X0_setHeld : bq_X0_setHeld.all (ab_ck ab_hd ab_xs [] [] bx_X0_setHeld be_X0_setHeld bi_X0_setHeld (some .int) 5 38) = true := by decide +kernel
theorem bz_X0_setLeak : bq_X0_setLeak.all (ab_ck ab_hd ab_xs [] [] bx_X0_setLeak be_X0_setLeak bi_X0_setLeak (some .int) 4 23) = true := by decide +kernel
theorem bz_X0_setStored : bq_X0_setStored.all (ab_ck ab_hd ab_xs [] [] bx_X0_setStored ec_no bi_X0_setStored (some .int) 4 28) = true := by decide +kernel
theorem bz_X0_allGrams : bq_X0_allGrams.all (ab_ck ab_hd ab_xs [] [] bx_X0_allGrams ec_no bi_X0_allGrams (some .int) 4 18) = true := by decide +kernel
theorem bz_X0_amount : bq_X0_amount.all (ab_ck ab_hd ab_xs [] [] bx_X0_amount ec_no bi_X0_amount (some .int) 3 11) = true := by decide +kernel
theorem bz_X0_give : bq_X0_give.all (ab_ck ab_hd ab_xs [] [] bx_X0_give ec_no bi_X0_give none 4 15) = true := by decide +kernel
theorem bz_X0_take : bq_X0_take.all (ab_ck ab_hd ab_xs [] [] bx_X0_take ec_no bi_X0_take (some .int) 5 27) = true := by decide +kernel
theorem bz_X0_fill : bq_X0_fill.all (ab_ck ab_hd ab_xs [] [] bx_X0_fill ec_no bi_X0_fill none 3 11) = true := by decide +kernel
theorem bz_X0_draw : bq_X0_draw.all (ab_ck ab_hd ab_xs [] [] bx_X0_draw ec_no bi_X0_draw (some .int) 4 19) = true := by decide +kernel
theorem bz_X0_openBetween : bq_X0_openBetween.all (ab_ck ab_hd ab_xs [] [] bx_X0_openBetween ec_no bi_X0_openBetween (some .boolean) 5 42) = true := by decide +kernel
theorem bz_X0_leakOut : bq_X0_leakOut.all (ab_ck ab_hd ab_xs [] [] bx_X0_leakOut be_X0_leakOut bi_X0_leakOut none 4 29) = true := by decide +kernel
theorem bz_X0_mix : bq_X0_mix.all (ab_ck ab_hd ab_xs [] [] bx_X0_mix be_X0_mix bi_X0_mix none 5 30) = true := by decide +kernel
theorem bz_X0_mixThroughHatches : bq_X0_mixThroughHatches.all (ab_ck ab_hd ab_xs [] [] bx_X0_mixThroughHatches be_X0_mixThroughHatches bi_X0_mixThroughHatches none 2 23) = true := by decide +kernel
theorem bz_X1_becomeLike : bq_X1_becomeLike.all (ab_ck ab_hd ab_xs [] [] bx_X1_becomeLike ec_no bi_X1_becomeLike none 2 27) = true := by decide +kernel
theorem bz_X1_isBound : bq_X1_isBound.all (ab_ck ab_hd ab_xs [] [] bx_X1_isBound ec_no bi_X1_isBound (some .boolean) 1 10) = true := by decide +kernel
theorem bz_X1_setAll : bq_X1_setAll.all (ab_ck ab_hd ab_xs [] [] bx_X1_setAll be_X1_setAll bi_X1_setAll (some .int) 4 22) = true := by decide +kernel
theorem bz_X1_tellFirstBreak : bq_X1_tellFirstBreak.all (ab_ck ab_hd ab_xs [] [] bx_X1_tellFirstBreak ec_no bi_X1_tellFirstBreak (some .int) 2 15) = true := by decide +kernel
theorem bz_X3_anyoneIn : bq_X3_anyoneIn.all (ab_ck ab_hd ab_xs [] [] bx_X3_anyoneIn ec_no bi_X3_anyoneIn (some .boolean) 3 14) = true := by decide +kernel
theorem bz_X1_breaksIn : bq_X1_breaksIn.all (ab_ck ab_hd ab_xs [] [] bx_X1_breaksIn be_X1_breaksIn bi_X1_breaksIn (some .boolean) 3 26) = true := by decide +kernel
theorem bz_X1_keepFirst : bq_X1_keepFirst.all (ab_ck ab_hd ab_xs [] [] bx_X1_keepFirst ec_no bi_X1_keepFirst none 3 15) = true := by decide +kernel
theorem bz_X1_look : bq_X1_look.all (ab_ck ab_hd ab_xs [] [] bx_X1_look be_X1_look bi_X1_look (some .boolean) 5 21) = true := by decide +kernel
theorem bz_X2_becomeLike : bq_X2_becomeLike.all (ab_ck ab_hd ab_xs [] [] bx_X2_becomeLike ec_no bi_X2_becomeLike none 2 31) = true := by decide +kernel
theorem bz_X2_start : bq_X2_start.all (ab_ck ab_hd ab_xs [] [] bx_X2_start ec_no bi_X2_start none 1 21) = true := by decide +kernel
theorem bz_X2_finish : bq_X2_finish.all (ab_ck ab_hd ab_xs [] [] bx_X2_finish ec_no bi_X2_finish none 2 9) = true := by decide +kernel
theorem bz_X2_giveUp : bq_X2_giveUp.all (ab_ck ab_hd ab_xs [] [] bx_X2_giveUp be_X2_giveUp bi_X2_giveUp none 1 23) = true := by decide +kernel
theorem bz_X2_goOnAt : bq_X2_goOnAt.all (ab_ck ab_hd ab_xs [] [] bx_X2_goOnAt be_X2_goOnAt bi_X2_goOnAt none 2 9) = true := by decide +kernel
theorem bz_X2_setHalted : bq_X2_setHalted.all (ab_ck ab_hd ab_xs [] [] bx_X2_setHalted be_X2_setHalted bi_X2_setHalted (some .int) 2 25) = true := by decide +kernel
theorem bz_X2_tellOf : bq_X2_tellOf.all (ab_ck ab_hd ab_xs [] [] bx_X2_tellOf be_X2_tellOf bi_X2_tellOf (some .int) 2 11) = true := by decide +kernel
theorem bz_X3_becomeLike : bq_X3_becomeLike.all (ab_ck ab_hd ab_xs [] [] bx_X3_becomeLike be_X3_becomeLike bi_X3_becomeLike none 2 37) = true := by decide +kernel
theorem bz_X3_has : bq_X3_has.all (ab_ck ab_hd ab_xs [] [] bx_X3_has ec_no bi_X3_has (some .boolean) 2 11) = true := by decide +kernel
theorem bz_X3_mends : bq_X3_mends.all (ab_ck ab_hd ab_xs [] [] bx_X3_mends ec_no bi_X3_mends (some .boolean) 2 11) = true := by decide +kernel
theorem bz_X3_addPerson : bq_X3_addPerson.all (ab_ck ab_hd ab_xs [] [] bx_X3_addPerson ec_no bi_X3_addPerson (some .int) 2 29) = true := by decide +kernel
theorem bz_X3_setDoing : bq_X3_setDoing.all (ab_ck ab_hd ab_xs [] [] bx_X3_setDoing be_X3_setDoing bi_X3_setDoing (some .int) 4 27) = true := by decide +kernel
theorem bz_X3_tellOf : bq_X3_tellOf.all (ab_ck ab_hd ab_xs [] [] bx_X3_tellOf be_X3_tellOf bi_X3_tellOf (some .int) 3 13) = true := by decide +kernel
theorem bz_X3_startMending : bq_X3_startMending.all (ab_ck ab_hd ab_xs [] [] bx_X3_startMending ec_no bi_X3_startMending none 4 18) = true := by decide +kernel
theorem bz_X3_isMended : bq_X3_isMended.all (ab_ck ab_hd ab_xs [] [] bx_X3_isMended ec_no bi_X3_isMended (some .boolean) 3 14) = true := by decide +kernel
theorem bz_X3_menders : bq_X3_menders.all (ab_ck ab_hd ab_xs [] [] bx_X3_menders be_X3_menders bi_X3_menders (some .int) 3 15) = true := by decide +kernel
theorem bz_X6_has : bq_X6_has.all (ab_ck ab_hd ab_xs [] [] bx_X6_has ec_no bi_X6_has (some .boolean) 2 11) = true := by decide +kernel
theorem bz_X6_makeNew : bq_X6_makeNew.all (ab_ck ab_hd ab_xs [] [] bx_X6_makeNew be_X6_makeNew bi_X6_makeNew none 2 17) = true := by decide +kernel
theorem bz_X3_mendOn : bq_X3_mendOn.all (ab_ck ab_hd ab_xs [] [] bx_X3_mendOn be_X3_mendOn bi_X3_mendOn none 3 36) = true := by decide +kernel
theorem bz_X3_breathe : bq_X3_breathe.all (ab_ck ab_hd ab_xs [] [] bx_X3_breathe be_X3_breathe bi_X3_breathe none 5 40) = true := by decide +kernel
theorem bz_X3_drink : bq_X3_drink.all (ab_ck ab_hd ab_xs [] [] bx_X3_drink be_X3_drink bi_X3_drink none 5 41) = true := by decide +kernel
theorem bz_X3_live : bq_X3_live.all (ab_ck ab_hd ab_xs [] [] bx_X3_live be_X3_live bi_X3_live none 3 29) = true := by decide +kernel
theorem bz_X5_isSensor : bq_X5_isSensor.all (ab_ck ab_hd ab_xs [] [] bx_X5_isSensor ec_no bi_X5_isSensor (some .boolean) 1 10) = true := by decide +kernel
theorem bz_X5_addReading : bq_X5_addReading.all (ab_ck ab_hd ab_xs [] [] bx_X5_addReading be_X5_addReading bi_X5_addReading (some .int) 4 53) = true := by decide +kernel
theorem bz_X5_addCalibration : bq_X5_addCalibration.all (ab_ck ab_hd ab_xs [] [] bx_X5_addCalibration be_X5_addCalibration bi_X5_addCalibration (some .int) 4 42) = true := by decide +kernel
theorem bz_X5_setDelay : bq_X5_setDelay.all (ab_ck ab_hd ab_xs [] [] bx_X5_setDelay ec_no bi_X5_setDelay (some .int) 3 15) = true := by decide +kernel
