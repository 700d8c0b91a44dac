theorem bw_X9_copy : ec_cw yX9_copy cX9_copy 2 none := ⟨ec_in (i := 874) (by decide +kernel) rfl, ec_in (i := 58) (by decide +kernel) rfl, by decide, by decide⟩
theorem bv_X9_copy : Cond.static yX9_copy ∈ ec_tb := ec_in (i := 873) (by decide +kernel) rfl
theorem bj_X9_copy (l : Launch) : ex_ok l 1 26 bx_X9_copy := ⟨ec_fok fo_X9, ec_cok co_X9, so_X9, fun _ _ _ _ h => (by cases h), am_X9 (by decide) (by decide), ax_X9, ao_X9 (by decide) (by decide), fun _ _ h => (by cases h)⟩
theorem bm_X9_copy (l : Launch) : ex_Met l yX9_copy cX9_copy 2 none 1 26 (ab_sp ab_hd bc_X9_copy) := ab_met (by decide) (by decide) rfl (bj_X9_copy l) bd_X9_copy ab_hcm ab_xk bz_X9_copy
theorem bw_X9_copyFlags : ec_cw yX9_copyFlags cX9_copyFlags 3 none := ⟨ec_in (i := 881) (by decide +kernel) rfl, ec_in (i := 58) (by decide +kernel) rfl, by decide, by decide⟩
theorem bv_X9_copyFlags : Cond.static yX9_copyFlags ∈ ec_tb := ec_in (i := 880) (by decide +kernel) rfl
theorem bj_X9_copyFlags (l : Launch) : ex_ok l 0 0 bx_X9_copyFlags := ⟨ec_fok fo_X9, ec_cok co_X9, so_X9, fun _ _ _ _ h => (by cases h), fun _ h => (by cases h), fun _ h => (by cases h), fun _ h => (by cases h), fun _ _ h => (by cases h)⟩
theorem bm_X9_copyFlags (l : Launch) : ex_Met l yX9_copyFlags cX9_copyFlags 3 none 0 0 (ab_sp ab_hd bc_X9_copyFlags) := ab_met (by decide) (by decide) rfl (bj_X9_copyFlags l) bd_X9_copyFlags ab_hcm ab_xk bz_X9_copyFlags
theorem bw_X0_becomeLike : ec_cw yX0_becomeLike cX0_becomeLike 2 none := ⟨ec_in (i := 871) (by decide +kernel) rfl, ec_in (i := 61) (by decide +kernel) rfl, by decide, by decide⟩
theorem bv_X0_becomeLike : Cond.instanceMethod yX0_becomeLike ∈ ec_tb ∧ Cond.selects yX0_becomeLike.cls yX0_becomeLike yX0_becomeLike ∈ ec_tb := ⟨ec_in (i := 869) (by decide +kernel) rfl, ec_in (i := 870) (by decide +kernel) rfl⟩
theorem bk_X0_becomeLike (l : Launch) : ∀ (ix n : Nat) (rc : Option Nat) (sp : ex_S), (be_X0_becomeLike ix).map (fun q => (q.1, q.2.1, ab_sp ab_hd q.2.2)) = some (n, rc, sp) → ex_cok l RX0 2 47 ix n rc sp := by
  intro ix n rc sp h
  obtain ⟨l0, h2, rfl⟩ := ab_dmk h
  clear h
  unfold be_X0_becomeLike at h2
  split at h2
  · cases h2; exact ec_cS (bm_X9_copy l) bw_X9_copy bv_X9_copy (by decide) (by decide) (Or.inr ⟨"TinStation", by decide +kernel⟩) (by decide +kernel)
  · cases h2; exact ec_cS (bm_X9_copyFlags l) bw_X9_copyFlags bv_X9_copyFlags (by decide) (by decide) (Or.inr ⟨"TinStation", by decide +kernel⟩) (by decide +kernel)
  · cases h2
theorem bj_X0_becomeLike (l : Launch) : ex_ok l 2 47 bx_X0_becomeLike := ⟨ec_fok fo_X0, ec_cok co_X0, so_X0, bk_X0_becomeLike l, fun _ h => (by cases h), fun _ h => (by cases h), fun _ h => (by cases h), fun _ _ h => (by cases h)⟩
theorem bm_X0_becomeLike (l : Launch) : ex_Met l yX0_becomeLike cX0_becomeLike 2 none 2 47 (ab_sp ab_hd bc_X0_becomeLike) := ab_met (by decide) (by decide) rfl (bj_X0_becomeLike l) bd_X0_becomeLike ab_hcm ab_xk bz_X0_becomeLike
theorem bw_X0_isSort : ec_cw yX0_isSort cX0_isSort 1 (some .boolean) := ⟨ec_in (i := 471) (by decide +kernel) rfl, ec_in (i := 61) (by decide +kernel) rfl, by decide, by decide⟩
theorem bv_X0_isSort : Cond.static yX0_isSort ∈ ec_tb := ec_in (i := 470) (by decide +kernel) rfl
theorem bj_X0_isSort (l : Launch) : ex_ok l 0 0 bx_X0_isSort := ⟨ec_fok fo_X0, ec_cok co_X0, so_X0, fun _ _ _ _ h => (by cases h), fun _ h => (by cases h), fun _ h => (by cases h), fun _ h => (by cases h), fun _ _ h => (by cases h)⟩
theorem bm_X0_isSort (l : Launch) : ex_Met l yX0_isSort cX0_isSort 1 (some .boolean) 0 0 (ab_sp ab_hd bc_X0_isSort) := ab_met (by decide) (by decide) rfl (bj_X0_isSort l) bd_X0_isSort ab_hcm ab_xk bz_X0_isSort
theorem bw_X0_hasModule : ec_cw yX0_hasModule cX0_hasModule 2 (some .boolean) := ⟨ec_in (i := 441) (by decide +kernel) rfl, ec_in (i := 61) (by decide +kernel) rfl, by decide, by decide⟩
theorem bv_X0_hasModule : Cond.instanceMethod yX0_hasModule ∈ ec_tb ∧ Cond.selects yX0_hasModule.cls yX0_hasModule yX0_hasModule ∈ ec_tb := ⟨ec_in (i := 439) (by decide +kernel) rfl, ec_in (i := 440) (by decide +kernel) rfl⟩
theorem bj_X0_hasModule (l : Launch) : ex_ok l 0 0 bx_X0_hasModule := ⟨ec_fok fo_X0, ec_cok co_X0, so_X0, fun _ _ _ _ h => (by cases h), fun _ h => (by cases h), fun _ h => (by cases h), fun _ h => (by cases h), fun _ _ h => (by cases h)⟩
theorem bm_X0_hasModule (l : Launch) : ex_Met l yX0_hasModule cX0_hasModule 2 (some .boolean) 0 0 (ab_sp ab_hd bc_X0_hasModule) := ab_met (by decide) (by decide) rfl (bj_X0_hasModule l) bd_X0_hasModule ab_hcm ab_xk bz_X0_hasModule
theorem bw_X0_hasHatch : ec_cw yX0_hasHatch cX0_hasHatch 2 (some .boolean) := ⟨ec_in (i := 454) (by decide +kernel) rfl, ec_in (i := 61) (by decide +kernel) rfl, by decide, by decide⟩
theorem bv_X0_hasHatch : Cond.instanceMethod yX0_hasHatch ∈ ec_tb ∧ Cond.selects yX0_hasHatch.cls yX0_hasHatch yX0_hasHatch ∈ ec_tb := ⟨ec_in (i := 452) (by decide +kernel) rfl, ec_in (i := 453) (by decide +kernel) rfl⟩
theorem bj_X0_hasHatch (l : Launch) : ex_ok l 0 0 bx_X0_hasHatch := ⟨ec_fok fo_X0, ec_cok co_X0, so_X0, fun _ _ _ _ h => (by cases h), fun _ h => (by cases h), fun _ h => (by cases h), fun _ h => (by cases h), fun _ _ h => (by cases h)⟩
theorem bm_X0_hasHatch (l : Launch) : ex_Met l yX0_hasHatch cX0_hasHatch 2 (some .boolean) 0 0 (ab_sp ab_hd bc_X0_hasHatch) := ab_met (by decide) (by decide) rfl (bj_X0_hasHatch l) bd_X0_hasHatch ab_hcm ab_xk bz_X0_hasHatch
theorem bw_X0_addModule : ec_cw yX0_addModule cX0_addModule 1 (some .int) := ⟨ec_in (i := 422) (by decide +kernel) rfl, ec_in (i := 61) (by decide +kernel) rfl, by decide, by decide⟩
theorem bv_X0_addModule : Cond.instanceMethod yX0_addModule ∈ ec_tb ∧ Cond.selects yX0_addModule.cls yX0_addModule yX0_addModule ∈ ec_tb := ⟨ec_in (i := 420) (by decide +kernel) rfl, ec_in (i := 421) (by decide +kernel) rfl⟩
theorem bj_X0_addModule (l : Launch) : ex_ok l 0 0 bx_X0_addModule := ⟨ec_fok fo_X0, ec_cok co_X0, so_X0, fun _ _ _ _ h => (by cases h), fun _ h => (by cases h), fun _ h => (by cases h), fun _ h => (by cases h), fun _ _ h => (by cases h)⟩
theorem bm_X0_addModule (l : Launch) : ex_Met l yX0_addModule cX0_addModule 1 (some .int) 0 0 (ab_sp ab_hd bc_X0_addModule) := ab_met (by decide) (by decide) rfl (bj_X0_addModule l) bd_X0_addModule ab_hcm ab_xk bz_X0_addModule
theorem bw_X0_addHatch : ec_cw yX0_addHatch cX0_addHatch 3 (some .int) := ⟨ec_in (i := 437) (by decide +kernel) rfl, ec_in (i := 61) (by decide +kernel) rfl, by decide, by decide⟩
theorem bv_X0_addHatch : Cond.instanceMethod yX0_addHatch ∈ ec_tb ∧ Cond.selects yX0_addHatch.cls yX0_addHatch yX0_addHatch ∈ ec_tb := ⟨ec_in (i := 435) (by decide +kernel) rfl, ec_in (i := 436) (by decide +kernel) rfl⟩
theorem bk_X0_addHatch (l : Launch) : ∀ (ix n : Nat) (rc : Option Nat) (sp : ex_S), (be_X0_addHatch ix).map (fun q => (q.1, q.2.1, ab_sp ab_hd q.2.2)) = some (n, rc, sp) → ex_cok l RX0 1 21 ix n rc sp := by
  intro ix n rc sp h
  obtain ⟨l0, h2, rfl⟩ := ab_dmk h
  clear h
  unfold be_X0_addHatch at h2
  split at h2
  · cases h2; exact ec_cV (bm_X0_hasModule l) bw_X0_hasModule bv_X0_hasModule (by decide) (by decide) (Or.inl (ec_in (i := 438) (by decide +kernel) rfl)) (T := TX0) (N := 8) rfl (by decide) (by decide +kernel)
  · cases h2
theorem bj_X0_addHatch (l : Launch) : ex_ok l 1 21 bx_X0_addHatch := ⟨ec_fok fo_X0, ec_cok co_X0, so_X0, bk_X0_addHatch l, fun _ h => (by cases h), fun _ h => (by cases h), fun _ h => (by cases h), fun _ _ h => (by cases h)⟩
theorem bm_X0_addHatch (l : Launch) : ex_Met l yX0_addHatch cX0_addHatch 3 (some .int) 1 21 (ab_sp ab_hd bc_X0_addHatch) := ab_met (by decide) (by decide) rfl (bj_X0_addHatch l) bd_X0_addHatch ab_hcm ab_xk bz_X0_addHatch
theorem bw_X9_isSwitch : ec_cw yX9_isSwitch cX9_isSwitch 1 (some .boolean) := ⟨ec_in (i := 457) (by decide +kernel) rfl, ec_in (i := 58) (by decide +kernel) rfl, by decide, by decide⟩
theorem bv_X9_isSwitch : Cond.static yX9_isSwitch ∈ ec_tb := ec_in (i := 456) (by decide +kernel) rfl
theorem bj_X9_isSwitch (l : Launch) : ex_ok l 0 0 bx_X9_isSwitch := ⟨ec_fok fo_X9, ec_cok co_X9, so_X9, fun _ _ _ _ h => (by cases h), fun _ h => (by cases h), fun _ h => (by cases h), fun _ h => (by cases h), fun _ _ h => (by cases h)⟩
theorem bm_X9_isSwitch (l : Launch) : ex_Met l yX9_isSwitch cX9_isSwitch 1 (some .boolean) 0 0 (ab_sp ab_hd bc_X9_isSwitch) := ab_met (by decide) (by decide) rfl (bj_X9_isSwitch l) bd_X9_isSwitch ab_hcm ab_xk bz_X9_isSwitch
theorem bw_X9_one : ec_cw yX9_one cX9_one 1 (some .int) := ⟨ec_in (i := 460) (by decide +kernel) rfl, ec_in (i := 58) (by decide +kernel) rfl, by decide, by decide⟩
theorem bv_X9_one : Cond.static yX9_one ∈ ec_tb := ec_in (i := 459) (by decide +kernel) rfl
theorem bj_X9_one (l : Launch) : ex_ok l 0 0 bx_X9_one := ⟨ec_fok fo_X9, ec_cok co_X9, so_X9, fun _ _ _ _ h => (by cases h), fun _ h => (by cases h), fun _ h => (by cases h), fun _ h => (by cases h), fun _ _ h => (by cases h)⟩
theorem bm_X9_one (l : Launch) : ex_Met l yX9_one cX9_one 1 (some .int) 0 0 (ab_sp ab_hd bc_X9_one) := ab_met (by decide) (by decide) rfl (bj_X9_one l) bd_X9_one ab_hcm ab_xk bz_X9_one
theorem bw_X0_setOpen : ec_cw yX0_setOpen cX0_setOpen 4 (some .int) := ⟨ec_in (i := 450) (by decide +kernel) rfl, ec_in (i := 61) (by decide +kernel) rfl, by decide, by decide⟩
theorem bv_X0_setOpen : Cond.instanceMethod yX0_setOpen ∈ ec_tb ∧ Cond.selects yX0_setOpen.cls yX0_setOpen yX0_setOpen ∈ ec_tb := ⟨ec_in (i := 448) (by decide +kernel) rfl, ec_in (i := 449) (by decide +kernel) rfl⟩
theorem bk_X0_setOpen (l : Launch) : ∀ (ix n : Nat) (rc : Option Nat) (sp : ex_S), (be_X0_setOpen ix).map (fun q => (q.1, q.2.1, ab_sp ab_hd q.2.2)) = some (n, rc, sp) → ex_cok l RX0 1 21 ix n rc sp := by
  intro ix n rc sp h
  obtain ⟨l0, h2, rfl⟩ := ab_dmk h
  clear h
  unfold be_X0_setOpen at h2
  split at h2
  · cases h2; exact ec_cV (bm_X0_hasHatch l) bw_X0_hasHatch bv_X0_hasHatch (by decide) (by decide) (Or.inl (ec_in (i := 451) (by decide +kernel) rfl)) (T := TX0) (N := 8) rfl (by decide) (by decide +kernel)
  · cases h2; exact ec_cS (bm_X9_isSwitch l) bw_X9_isSwitch bv_X9_isSwitch (by decide) (by decide) (Or.inr ⟨"TinStation", by decide +kernel⟩) (by decide +kernel)
  · cases h2; exact ec_cS (bm_X9_one l) bw_X9_one bv_X9_one (by decide) (by decide) (Or.inr ⟨"TinStation", by decide +kernel⟩) (by decide +kernel)
  · cases h2
theorem bj_X0_setOpen (l : Launch) : ex_ok l 1 21 bx_X0_setOpen := ⟨ec_fok fo_X0, ec_cok co_X0, so_X0, bk_X0_setOpen l, fun _ h => (by cases h), fun _ h => (by cases h), fun _ h => (by cases h), fun _ _ h => (by cases h)⟩
theorem bm_X0_setOpen (l : Launch) : ex_Met l yX0_setOpen cX0_setOpen 4 (some .int) 1 21 (ab_sp ab_hd bc_X0_setOpen) := ab_met (by decide) (by decide) rfl (bj_X0_setOpen l) bd_X0_setOpen ab_hcm ab_xk bz_X0_setOpen
theorem bw_X0_setHeld : ec_cw yX0_setHeld cX0_setHeld 5 (some .int) := ⟨ec_in (i := 468) (by decide +kernel) rfl, ec_in (i := 61) (by decide +kernel) rfl, by decide, by decide⟩
theorem bv_X0_setHeld : Cond.instanceMethod yX0_setHeld ∈ ec_tb ∧ Cond.selects yX0_setHeld.cls yX0_setHeld yX0_setHeld ∈ ec_tb := ⟨ec_in (i := 466) (by decide +kernel) rfl, ec_in (i := 467) (by decide +kernel) rfl⟩
theorem bk_X0_setHeld (l : Launch) : ∀ (ix n : Nat) (rc : Option Nat) (sp : ex_S), (be_X0_setHeld ix).map (fun q => (q.1, q.2.1, ab_sp ab_hd q.2.2)) = some (n, rc, sp) → ex_cok l RX0 1 21 ix n rc sp := by
  intro ix n rc sp h
  obtain ⟨l0, h2, rfl⟩ := ab_dmk h
  clear h
  unfold be_X0_setHeld at h2
  split at h2
  · cases h2; exact ec_cV (bm_X0_hasModule l) bw_X0_hasModule bv_X0_hasModule (by decide) (by decide) (Or.inl (ec_in (i := 438) (by decide +kernel) rfl)) (T := TX0) (N := 8) rfl (by decide) (by decide +kernel)
  · cases h2; exact ec_cS (bm_X0_isSort l) bw_X0_isSort bv_X0_isSort (by decide) (by decide) (Or.inl (ec_in (i := 469) (by decide +kernel) rfl)) (by decide +kernel)
  · cases h2
theorem bj_X0_setHeld (l : Launch) : ex_ok l 1 21 bx_X0_setHeld := ⟨ec_fok fo_X0, ec_cok co_X0, so_X0, bk_X0_setHeld l, fun _ h => (by cases h), fun _ h => (by cases h), fun _ h => (by cases h), fun _ _ h => (by cases h)⟩
theorem bm_X0_setHeld (l : Launch) : ex_Met l yX0_setHeld cX0_setHeld 5 (some .int) 1 21 (ab_sp ab_hd bc_X0_setHeld) := ab_met (by decide) (by decide) rfl (bj_X0_setHeld l) bd_X0_setHeld ab_hcm ab_xk bz_X0_setHeld
theorem bw_X0_setLeak : ec_cw yX0_setLeak cX0_setLeak 4 (some .int) := ⟨ec_in (i := 480) (by decide +kernel) rfl, ec_in (i := 61) (by decide +kernel) rfl, by decide, by decide⟩
theorem bv_X0_setLeak : Cond.instanceMethod yX0_setLeak ∈ ec_tb ∧ Cond.selects yX0_setLeak.cls yX0_setLeak yX0_setLeak ∈ ec_tb := ⟨ec_in (i := 478) (by decide +kernel) rfl, ec_in (i := 479) (by decide +kernel) rfl⟩
theorem bk_X0_setLeak (l : Launch) : ∀ (ix n : Nat) (rc : Option Nat) (sp : ex_S), (be_X0_setLeak ix).map (fun q => (q.1, q.2.1, ab_sp ab_hd q.2.2)) = some (n, rc, sp) → ex_cok l RX0 1 21 ix n rc sp := by
  intro ix n rc sp h
  obtain ⟨l0, h2, rfl⟩ := ab_dmk h
  clear h
  unfold be_X0_setLeak at h2
  split at h2
  · cases h2; exact ec_cV (bm_X0_hasModule l) bw_X0_hasModule bv_X0_hasModule (by decide) (by decide) (Or.inl (ec_in (i := 438) (by decide +kernel) rfl)) (T := TX0) (N := 8) rfl (by decide) (by decide +kernel)
  · cases h2
theorem bj_X0_setLeak (l : Launch) : ex_ok l 1 21 bx_X0_setLeak := ⟨ec_fok fo_X0, ec_cok co_X0, so_X0, bk_X0_setLeak l, fun _ h => (by cases h), fun _ h => (by cases h), fun _ h => (by cases h), fun _ _ h => (by cases h)⟩
theorem bm_X0_setLeak (l : Launch) : ex_Met l yX0_setLeak cX0_setLeak 4 (some .int) 1 21 (ab_sp ab_hd bc_X0_setLeak) := ab_met (by decide) (by decide) rfl (bj_X0_setLeak l) bd_X0_setLeak ab_hcm ab_xk bz_X0_setLeak
theorem bw_X0_setStored : ec_cw yX0_setStored cX0_setStored 4 (some .int) := ⟨ec_in (i := 488) (by decide +kernel) rfl, ec_in (i := 61) (by decide +kernel) rfl, by decide, by decide⟩
theorem bv_X0_setStored : Cond.instanceMethod yX0_setStored ∈ ec_tb ∧ Cond.selects yX0_setStored.cls yX0_setStored yX0_setStored ∈ ec_tb := ⟨ec_in (i := 486) (by decide +kernel) rfl, ec_in (i := 487) (by decide +kernel) rfl⟩
theorem bj_X0_setStored (l : Launch) : ex_ok l 0 0 bx_X0_setStored := ⟨ec_fok fo_X0, ec_cok co_X0, so_X0, fun _ _ _ _ h => (by cases h), fun _ h => (by cases h), fun _ h => (by cases h), fun _ h => (by cases h), fun _ _ h => (by cases h)⟩
theorem bm_X0_setStored (l : Launch) : ex_Met l yX0_setStored cX0_setStored 4 (some .int) 0 0 (ab_sp ab_hd bc_X0_setStored) := ab_met (by decide) (by decide) rfl (bj_X0_setStored l) bd_X0_setStored ab_hcm ab_xk bz_X0_setStored
theorem bw_X0_allGrams : ec_cw yX0_allGrams cX0_allGrams 4 (some .int) := ⟨ec_in (i := 497) (by decide +kernel) rfl, ec_in (i := 61) (by decide +kernel) rfl, by decide, by decide⟩
theorem bv_X0_allGrams : Cond.instanceMethod yX0_allGrams ∈ ec_tb ∧ Cond.selects yX0_allGrams.cls yX0_allGrams yX0_allGrams ∈ ec_tb := ⟨ec_in (i := 495) (by decide +kernel) rfl, ec_in (i := 496) (by decide +kernel) rfl⟩
theorem bj_X0_allGrams (l : Launch) : ex_ok l 0 0 bx_X0_allGrams := ⟨ec_fok fo_X0, ec_cok co_X0, so_X0, fun _ _ _ _ h => (by cases h), fun _ h => (by cases h), fun _ h => (by cases h), fun _ h => (by cases h), fun _ _ h => (by cases h)⟩
theorem bm_X0_allGrams (l : Launch) : ex_Met l yX0_allGrams cX0_allGrams 4 (some .int) 0 0 (ab_sp ab_hd bc_X0_allGrams) := ab_met (by decide) (by decide) rfl (bj_X0_allGrams l) bd_X0_allGrams ab_hcm ab_xk bz_X0_allGrams
theorem bw_X0_amount : ec_cw yX0_amount cX0_amount 3 (some .int) := ⟨ec_in (i := 734) (by decide +kernel) rfl, ec_in (i := 61) (by decide +kernel) rfl, by decide, by decide⟩
theorem bv_X0_amount : Cond.instanceMethod yX0_amount ∈ ec_tb ∧ Cond.selects yX0_amount.cls yX0_amount yX0_amount ∈ ec_tb := ⟨ec_in (i := 732) (by decide +kernel) rfl, ec_in (i := 733) (by decide +kernel) rfl⟩
theorem bj_X0_amount (l : Launch) : ex_ok l 0 0 bx_X0_amount := ⟨ec_fok fo_X0, ec_cok co_X0, so_X0, fun _ _ _ _ h => (by cases h), fun _ h => (by cases h), fun _ h => (by cases h), fun _ h => (by cases h), fun _ _ h => (by cases h)⟩
theorem bm_X0_amount (l : Launch) : ex_Met l yX0_amount cX0_amount 3 (some .int) 0 0 (ab_sp ab_hd bc_X0_amount) := ab_met (by decide) (by decide) rfl (bj_X0_amount l) bd_X0_amount ab_hcm ab_xk bz_X0_amount
theorem bw_X0_give : ec_cw yX0_give cX0_give 4 none := ⟨ec_in (i := 793) (by decide +kernel) rfl, ec_in (i := 61) (by decide +kernel) rfl, by decide, by decide⟩
theorem bv_X0_give : Cond.instanceMethod yX0_give ∈ ec_tb ∧ Cond.selects yX0_give.cls yX0_give yX0_give ∈ ec_tb := ⟨ec_in (i := 791) (by decide +kernel) rfl, ec_in (i := 792) (by decide +kernel) rfl⟩
theorem bj_X0_give (l : Launch) : ex_ok l 0 0 bx_X0_give := ⟨ec_fok fo_X0, ec_cok co_X0, so_X0, fun _ _ _ _ h => (by cases h), fun _ h => (by cases h), fun _ h => (by cases h), fun _ h => (by cases h), fun _ _ h => (by cases h)⟩
theorem bm_X0_give (l : Launch) : ex_Met l yX0_give cX0_give 4 none 0 0 (ab_sp ab_hd bc_X0_give) := ab_met (by decide) (by decide) rfl (bj_X0_give l) bd_X0_give ab_hcm ab_xk bz_X0_give
theorem bw_X0_take : ec_cw yX0_take cX0_take 5 (some .int) := ⟨ec_in (i := 776) (by decide +kernel) rfl, ec_in (i := 61) (by decide +kernel) rfl, by decide, by decide⟩
theorem bv_X0_take : Cond.instanceMethod yX0_take ∈ ec_tb ∧ Cond.selects yX0_take.cls yX0_take yX0_take ∈ ec_tb := ⟨ec_in (i := 774) (by decide +kernel) rfl, ec_in (i := 775) (by decide +kernel) rfl⟩
theorem bj_X0_take (l : Launch) : ex_ok l 1 21 bx_X0_take := ⟨ec_fok fo_X0, ec_cok co_X0, so_X0, fun _ _ _ _ h => (by cases h), am_X0 (by decide) (by decide), ax_X0, ao_X0, fun _ _ h => (by cases h)⟩
theorem bm_X0_take (l : Launch) : ex_Met l yX0_take cX0_take 5 (some .int) 1 21 (ab_sp ab_hd bc_X0_take) := ab_met (by decide) (by decide) rfl (bj_X0_take l) bd_X0_take ab_hcm ab_xk bz_X0_take
theorem bw_X0_fill : ec_cw yX0_fill cX0_fill 3 none := ⟨ec_in (i := 781) (by decide +kernel) rfl, ec_in (i := 61) (by decide +kernel) rfl, by decide, by decide⟩
theorem bv_X0_fill : Cond.instanceMethod yX0_fill ∈ ec_tb ∧ Cond.selects yX0_fill.cls yX0_fill yX0_fill ∈ ec_tb := ⟨ec_in (i := 779) (by decide +kernel) rfl, ec_in (i := 780) (by decide +kernel) rfl⟩
theorem bj_X0_fill (l : Launch) : ex_ok l 0 0 bx_X0_fill := ⟨ec_fok fo_X0, ec_cok co_X0, so_X0, fun _ _ _ _ h => (by cases h), fun _ h => (by cases h), fun _ h => (by cases h), fun _ h => (by cases h), fun _ _ h => (by cases h)⟩
theorem bm_X0_fill (l : Launch) : ex_Met l yX0_fill cX0_fill 3 none 0 0 (ab_sp ab_hd bc_X0_fill) := ab_met (by decide) (by decide) rfl (bj_X0_fill l) bd_X0_fill ab_hcm ab_xk bz_X0_fill
theorem bw_X0_draw : ec_cw yX0_draw cX0_draw 4 (some .int) := ⟨ec_in (i := 789) (by decide +kernel) rfl, ec_in (i := 61) (by decide +kernel) rfl, by decide, by decide⟩
theorem bv_X0_draw : Cond.instanceMethod yX0_draw ∈ ec_tb ∧ Cond.selects yX0_draw.cls yX0_draw yX0_draw ∈ ec_tb := ⟨ec_in (i := 787) (by decide +kernel) rfl, ec_in (i := 788) (by decide +kernel) rfl⟩
theorem bj_X0_draw (l : Launch) : ex_ok l 1 21 bx_X0_draw := ⟨ec_fok fo_X0, ec_cok co_X0, so_X0, fun _ _ _ _ h => (by cases h), am_X0 (by decide) (by decide), ax_X0, ao_X0, fun _ _ h => (by cases h)⟩
theorem bm_X0_draw (l : Launch) : ex_Met l yX0_draw cX0_draw 4 (some .int) 1 21 (ab_sp ab_hd bc_X0_draw) := ab_met (by decide) (by decide) rfl (bj_X0_draw l) bd_X0_draw ab_hcm ab_xk bz_X0_draw
theorem bw_X0_openBetween : ec_cw yX0_openBetween cX0_openBetween 5 (some .boolean) := ⟨ec_in (i := 530) (by decide +kernel) rfl, ec_in (i := 61) (by decide +kernel) rfl, by decide, by decide⟩
theorem bv_X0_openBetween : Cond.instanceMethod yX0_openBetween ∈ ec_tb ∧ Cond.selects yX0_openBetween.cls yX0_openBetween yX0_openBetween ∈ ec_tb := ⟨ec_in (i := 528) (by decide +kernel) rfl, ec_in (i := 529) (by decide +kernel) rfl⟩
theorem bj_X0_openBetween (l : Launch) : ex_ok l 0 0 bx_X0_openBetween := ⟨ec_fok fo_X0, ec_cok co_X0, so_X0, fun _ _ _ _ h => (by cases h), fun _ h => (by cases h), fun _ h => (by cases h), fun _ h => (by cases h), fun _ _ h => (by cases h)⟩
theorem bm_X0_openBetween (l : Launch) : ex_Met l yX0_openBetween cX0_openBetween 5 (some .boolean) 0 0 (ab_sp ab_hd bc_X0_openBetween) := ab_met (by decide) (by decide) rfl (bj_X0_openBetween l) bd_X0_openBetween ab_hcm ab_xk bz_X0_openBetween
theorem bw_X0_leakOut : ec_cw yX0_leakOut cX0_leakOut 4 none := ⟨ec_in (i := 822) (by decide +kernel) rfl, ec_in (i := 61) (by decide +kernel) rfl, by decide, by decide⟩
theorem bv_X0_leakOut : Cond.instanceMethod yX0_leakOut ∈ ec_tb ∧ Cond.selects yX0_leakOut.cls yX0_leakOut yX0_leakOut ∈ ec_tb := ⟨ec_in (i := 820) (by decide +kernel) rfl, ec_in (i := 821) (by decide +kernel) rfl⟩
theorem bk_X0_leakOut (l : Launch) : ∀ (ix n : Nat) (rc : Option Nat) (sp : ex_S), (be_X0_leakOut ix).map (fun q => (q.1, q.2.1, ab_sp ab_hd q.2.2)) = some (n, rc, sp) → ex_cok l RX0 1 23 ix n rc sp := by
  intro ix n rc sp h
  obtain ⟨l0, h2, rfl⟩ := ab_dmk h
  clear h
  unfold be_X0_leakOut at h2
  split at h2
  · cases h2; exact ec_cV (bm_X0_amount l) bw_X0_amount bv_X0_amount (by decide) (by decide) (Or.inl (ec_in (i := 823) (by decide +kernel) rfl)) (T := TX0) (N := 8) rfl (by decide) (by decide +kernel)
  · cases h2; exact ec_cV (bm_X0_give l) bw_X0_give bv_X0_give (by decide) (by decide) (Or.inl (ec_in (i := 824) (by decide +kernel) rfl)) (T := TX0) (N := 8) rfl (by decide) (by decide +kernel)
  · cases h2; exact ec_cV (bm_X0_fill l) bw_X0_fill bv_X0_fill (by decide) (by decide) (Or.inl (ec_in (i := 825) (by decide +kernel) rfl)) (T := TX0) (N := 8) rfl (by decide) (by decide +kernel)
  · cases h2
theorem bj_X0_leakOut (l : Launch) : ex_ok l 1 23 bx_X0_leakOut := ⟨ec_fok fo_X0, ec_cok co_X0, so_X0, bk_X0_leakOut l, fun _ h => (by cases h), fun _ h => (by cases h), fun _ h => (by cases h), fun _ _ h => (by cases h)⟩
theorem bm_X0_leakOut (l : Launch) : ex_Met l yX0_leakOut cX0_leakOut 4 none 1 23 (ab_sp ab_hd bc_X0_leakOut) := ab_met (by decide) (by decide) rfl (bj_X0_leakOut l) bd_X0_leakOut ab_hcm ab_xk bz_X0_leakOut
theorem bw_X0_mix : ec_cw yX0_mix cX0_mix 5 none := ⟨ec_in (i := 833) (by decide +kernel) rfl, ec_in (i := 61) (by decide +kernel) rfl, by decide, by decide⟩
theorem bv_X0_mix : Cond.instanceMethod yX0_mix ∈ ec_tb ∧ Cond.selects yX0_mix.cls yX0_mix yX0_mix ∈ ec_tb := ⟨ec_in (i := 832) (by decide +kernel) rfl, ec_in (i := 16) (by decide +kernel) rfl⟩
theorem bk_X0_mix (l : Launch) : ∀ (ix n : Nat) (rc : Option Nat) (sp : ex_S), (be_X0_mix ix).map (fun q => (q.1, q.2.1, ab_sp ab_hd q.2.2)) = some (n, rc, sp) → ex_cok l RX0 1 23 ix n rc sp := by
  intro ix n rc sp h
  obtain ⟨l0, h2, rfl⟩ := ab_dmk h
  clear h
  unfold be_X0_mix at h2
  split at h2
  · cases h2; exact ec_cV (bm_X0_amount l) bw_X0_amount bv_X0_amount (by decide) (by decide) (Or.inl (ec_in (i := 823) (by decide +kernel) rfl)) (T := TX0) (N := 8) rfl (by decide) (by decide +kernel)
  · cases h2; exact ec_cV (bm_X0_give l) bw_X0_give bv_X0_give (by decide) (by decide) (Or.inl (ec_in (i := 824) (by decide +kernel) rfl)) (T := TX0) (N := 8) rfl (by decide) (by decide +kernel)
  · cases h2
theorem bj_X0_mix (l : Launch) : ex_ok l 1 23 bx_X0_mix := ⟨ec_fok fo_X0, ec_cok co_X0, so_X0, bk_X0_mix l, fun _ h => (by cases h), fun _ h => (by cases h), fun _ h => (by cases h), fun _ _ h => (by cases h)⟩
theorem bm_X0_mix (l : Launch) : ex_Met l yX0_mix cX0_mix 5 none 1 23 (ab_sp ab_hd bc_X0_mix) := ab_met (by decide) (by decide) rfl (bj_X0_mix l) bd_X0_mix ab_hcm ab_xk bz_X0_mix
theorem bw_X0_mixThroughHatches : ec_cw yX0_mixThroughHatches cX0_mixThroughHatches 2 none := ⟨ec_in (i := 829) (by decide +kernel) rfl, ec_in (i := 61) (by decide +kernel) rfl, by decide, by decide⟩
theorem bv_X0_mixThroughHatches : Cond.instanceMethod yX0_mixThroughHatches ∈ ec_tb ∧ Cond.selects yX0_mixThroughHatches.cls yX0_mixThroughHatches yX0_mixThroughHatches ∈ ec_tb := ⟨ec_in (i := 827) (by decide +kernel) rfl, ec_in (i := 828) (by decide +kernel) rfl⟩
theorem bk_X0_mixThroughHatches (l : Launch) : ∀ (ix n : Nat) (rc : Option Nat) (sp : ex_S), (be_X0_mixThroughHatches ix).map (fun q => (q.1, q.2.1, ab_sp ab_hd q.2.2)) = some (n, rc, sp) → ex_cok l RX0 2 47 ix n rc sp := by
  intro ix n rc sp h
  obtain ⟨l0, h2, rfl⟩ := ab_dmk h
  clear h
  unfold be_X0_mixThroughHatches at h2
  split at h2
  · cases h2; exact ec_cV (bm_X0_mix l) bw_X0_mix bv_X0_mix (by decide) (by decide) (Or.inl (ec_in (i := 830) (by decide +kernel) rfl)) (T := TX0) (N := 8) rfl (by decide) (by decide +kernel)
  · cases h2
theorem bj_X0_mixThroughHatches (l : Launch) : ex_ok l 2 47 bx_X0_mixThroughHatches := ⟨ec_fok fo_X0, ec_cok co_X0, so_X0, bk_X0_mixThroughHatches l, fun _ h => (by cases h), fun _ h => (by cases h), fun _ h => (by cases h), fun _ _ h => (by cases h)⟩
theorem bm_X0_mixThroughHatches (l : Launch) : ex_Met l yX0_mixThroughHatches cX0_mixThroughHatches 2 none 2 47 (ab_sp ab_hd bc_X0_mixThroughHatches) := ab_met (by decide) (by decide) rfl (bj_X0_mixThroughHatches l) bd_X0_mixThroughHatches ab_hcm ab_xk bz_X0_mixThroughHatches
theorem bw_X1_becomeLike : ec_cw yX1_becomeLike cX1_becomeLike 2 none := ⟨ec_in (i := 896) (by decide +kernel) rfl, ec_in (i := 64) (by decide +kernel) rfl, by decide, by decide⟩
theorem bv_X1_becomeLike : Cond.instanceMethod yX1_becomeLike ∈ ec_tb ∧ Cond.selects yX1_becomeLike.cls yX1_becomeLike yX1_becomeLike ∈ ec_tb := ⟨ec_in (i := 894) (by decide +kernel) rfl, ec_in (i := 895) (by decide +kernel) rfl⟩
theorem bj_X1_becomeLike (l : Launch) : ex_ok l 0 0 bx_X1_becomeLike := ⟨ec_fok fo_X1, ec_cok co_X1, so_X1, fun _ _ _ _ h => (by cases h), fun _ h => (by cases h), fun _ h => (by cases h), fun _ h => (by cases h), fun _ _ h => (by cases h)⟩
theorem bm_X1_becomeLike (l : Launch) : ex_Met l yX1_becomeLike cX1_becomeLike 2 none 0 0 (ab_sp ab_hd bc_X1_becomeLike) := ab_met (by decide) (by decide) rfl (bj_X1_becomeLike l) bd_X1_becomeLike ab_hcm ab_xk bz_X1_becomeLike
theorem bw_X1_isBound : ec_cw yX1_isBound cX1_isBound 1 (some .boolean) := ⟨ec_in (i := 690) (by decide +kernel) rfl, ec_in (i := 64) (by decide +kernel) rfl, by decide, by decide⟩
theorem bv_X1_isBound : Cond.static yX1_isBound ∈ ec_tb := ec_in (i := 689) (by decide +kernel) rfl
theorem bj_X1_isBound (l : Launch) : ex_ok l 0 0 bx_X1_isBound := ⟨ec_fok fo_X1, ec_cok co_X1, so_X1, fun _ _ _ _ h => (by cases h), fun _ h => (by cases h), fun _ h => (by cases h), fun _ h => (by cases h), fun _ _ h => (by cases h)⟩
theorem bm_X1_isBound (l : Launch) : ex_Met l yX1_isBound cX1_isBound 1 (some .boolean) 0 0 (ab_sp ab_hd bc_X1_isBound) := ab_met (by decide) (by decide) rfl (bj_X1_isBound l) bd_X1_isBound ab_hcm ab_xk bz_X1_isBound
theorem bw_X1_setAll : ec_cw yX1_setAll cX1_setAll 4 (some .int) := ⟨ec_in (i := 687) (by decide +kernel) rfl, ec_in (i := 64) (by decide +kernel) rfl, by decide, by decide⟩
theorem bv_X1_setAll : Cond.instanceMethod yX1_setAll ∈ ec_tb ∧ Cond.selects yX1_setAll.cls yX1_setAll yX1_setAll ∈ ec_tb := ⟨ec_in (i := 685) (by decide +kernel) rfl, ec_in (i := 686) (by decide +kernel) rfl⟩
theorem bk_X1_setAll (l : Launch) : ∀ (ix n : Nat) (rc : Option Nat) (sp : ex_S), (be_X1_setAll ix).map (fun q => (q.1, q.2.1, ab_sp ab_hd q.2.2)) = some (n, rc, sp) → ex_cok l RX1 1 20 ix n rc sp := by
  intro ix n rc sp h
  obtain ⟨l0, h2, rfl⟩ := ab_dmk h
  clear h
  unfold be_X1_setAll at h2
  split at h2
  · cases h2; exact ec_cS (bm_X1_isBound l) bw_X1_isBound bv_X1_isBound (by decide) (by decide) (Or.inl (ec_in (i := 688) (by decide +kernel) rfl)) (by decide +kernel)
  · cases h2
theorem bj_X1_setAll (l : Launch) : ex_ok l 1 20 bx_X1_setAll := ⟨ec_fok fo_X1, ec_cok co_X1, so_X1, bk_X1_setAll l, fun _ h => (by cases h), fun _ h => (by cases h), fun _ h => (by cases h), fun _ _ h => (by cases h)⟩
theorem bm_X1_setAll (l : Launch) : ex_Met l yX1_setAll cX1_setAll 4 (some .int) 1 20 (ab_sp ab_hd bc_X1_setAll) := ab_met (by decide) (by decide) rfl (bj_X1_setAll l) bd_X1_setAll ab_hcm ab_xk bz_X1_setAll
theorem bw_X1_tellFirstBreak : ec_cw yX1_tellFirstBreak cX1_tellFirstBreak 2 (some .int) := ⟨ec_in (i := 858) (by decide +kernel) rfl, ec_in (i := 64) (by decide +kernel) rfl, by decide, by decide⟩
theorem bv_X1_tellFirstBreak : Cond.instanceMethod yX1_tellFirstBreak ∈ ec_tb ∧ Cond.selects yX1_tellFirstBreak.cls yX1_tellFirstBreak yX1_tellFirstBreak ∈ ec_tb := ⟨ec_in (i := 856) (by decide +kernel) rfl, ec_in (i := 857) (by decide +kernel) rfl⟩
theorem bj_X1_tellFirstBreak (l : Launch) : ex_ok l 0 0 bx_X1_tellFirstBreak := ⟨ec_fok fo_X1, ec_cok co_X1, so_X1, fun _ _ _ _ h => (by cases h), fun _ h => (by cases h), fun _ h => (by cases h), fun _ h => (by cases h), fun _ _ h => (by cases h)⟩
theorem bm_X1_tellFirstBreak (l : Launch) : ex_Met l yX1_tellFirstBreak cX1_tellFirstBreak 2 (some .int) 0 0 (ab_sp ab_hd bc_X1_tellFirstBreak) := ab_met (by decide) (by decide) rfl (bj_X1_tellFirstBreak l) bd_X1_tellFirstBreak ab_hcm ab_xk bz_X1_tellFirstBreak
theorem bw_X3_anyoneIn : ec_cw yX3_anyoneIn cX3_anyoneIn 3 (some .boolean) := ⟨ec_in (i := 841) (by decide +kernel) rfl, ec_in (i := 62) (by decide +kernel) rfl, by decide, by decide⟩
theorem bv_X3_anyoneIn : Cond.instanceMethod yX3_anyoneIn ∈ ec_tb ∧ Cond.selects yX3_anyoneIn.cls yX3_anyoneIn yX3_anyoneIn ∈ ec_tb := ⟨ec_in (i := 839) (by decide +kernel) rfl, ec_in (i := 840) (by decide +kernel) rfl⟩
theorem bj_X3_anyoneIn (l : Launch) : ex_ok l 0 0 bx_X3_anyoneIn := ⟨ec_fok fo_X3, ec_cok co_X3, so_X3, fun _ _ _ _ h => (by cases h), fun _ h => (by cases h), fun _ h => (by cases h), fun _ h => (by cases h), fun _ _ h => (by cases h)⟩
theorem bm_X3_anyoneIn (l : Launch) : ex_Met l yX3_anyoneIn cX3_anyoneIn 3 (some .boolean) 0 0 (ab_sp ab_hd bc_X3_anyoneIn) := ab_met (by decide) (by decide) rfl (bj_X3_anyoneIn l) bd_X3_anyoneIn ab_hcm ab_xk bz_X3_anyoneIn
theorem bw_X1_breaksIn : ec_cw yX1_breaksIn cX1_breaksIn 3 (some .boolean) := ⟨ec_in (i := 845) (by decide +kernel) rfl, ec_in (i := 64) (by decide +kernel) rfl, by decide, by decide⟩
theorem bv_X1_breaksIn : Cond.instanceMethod yX1_breaksIn ∈ ec_tb ∧ Cond.selects yX1_breaksIn.cls yX1_breaksIn yX1_breaksIn ∈ ec_tb := ⟨ec_in (i := 844) (by decide +kernel) rfl, ec_in (i := 17) (by decide +kernel) rfl⟩
theorem bk_X1_breaksIn (l : Launch) : ∀ (ix n : Nat) (rc : Option Nat) (sp : ex_S), (be_X1_breaksIn ix).map (fun q => (q.1, q.2.1, ab_sp ab_hd q.2.2)) = some (n, rc, sp) → ex_cok l RX1 1 22 ix n rc sp := by
  intro ix n rc sp h
  obtain ⟨l0, h2, rfl⟩ := ab_dmk h
  clear h
  unfold be_X1_breaksIn at h2
  split at h2
  · cases h2; exact ec_cV (bm_X0_amount l) bw_X0_amount bv_X0_amount (by decide) (by decide) (Or.inl (ec_in (i := 846) (by decide +kernel) rfl)) (T := TX0) (N := 8) rfl (by decide) (by decide +kernel)
  · cases h2
theorem bj_X1_breaksIn (l : Launch) : ex_ok l 1 22 bx_X1_breaksIn := ⟨ec_fok fo_X1, ec_cok co_X1, so_X1, bk_X1_breaksIn l, fun _ h => (by cases h), fun _ h => (by cases h), fun _ h => (by cases h), fun _ _ h => (by cases h)⟩
theorem bm_X1_breaksIn (l : Launch) : ex_Met l yX1_breaksIn cX1_breaksIn 3 (some .boolean) 1 22 (ab_sp ab_hd bc_X1_breaksIn) := ab_met (by decide) (by decide) rfl (bj_X1_breaksIn l) bd_X1_breaksIn ab_hcm ab_xk bz_X1_breaksIn
theorem bw_X1_keepFirst : ec_cw yX1_keepFirst cX1_keepFirst 3 none := ⟨ec_in (i := 850) (by decide +kernel) rfl, ec_in (i := 64) (by decide +kernel) rfl, by decide, by decide⟩
theorem bv_X1_keepFirst : Cond.instanceMethod yX1_keepFirst ∈ ec_tb ∧ Cond.selects yX1_keepFirst.cls yX1_keepFirst yX1_keepFirst ∈ ec_tb := ⟨ec_in (i := 849) (by decide +kernel) rfl, ec_in (i := 18) (by decide +kernel) rfl⟩
theorem bj_X1_keepFirst (l : Launch) : ex_ok l 0 0 bx_X1_keepFirst := ⟨ec_fok fo_X1, ec_cok co_X1, so_X1, fun _ _ _ _ h => (by cases h), fun _ h => (by cases h), fun _ h => (by cases h), fun _ h => (by cases h), fun _ _ h => (by cases h)⟩
theorem bm_X1_keepFirst (l : Launch) : ex_Met l yX1_keepFirst cX1_keepFirst 3 none 0 0 (ab_sp ab_hd bc_X1_keepFirst) := ab_met (by decide) (by decide) rfl (bj_X1_keepFirst l) bd_X1_keepFirst ab_hcm ab_xk bz_X1_keepFirst
theorem bw_X1_look : ec_cw yX1_look cX1_look 5 (some .boolean) := ⟨ec_in (i := 837) (by decide +kernel) rfl, ec_in (i := 64) (by decide +kernel) rfl, by decide, by decide⟩
theorem bv_X1_look : Cond.instanceMethod yX1_look ∈ ec_tb ∧ Cond.selects yX1_look.cls yX1_look yX1_look ∈ ec_tb := ⟨ec_in (i := 835) (by decide +kernel) rfl, ec_in (i := 836) (by decide +kernel) rfl⟩
theorem bk_X1_look (l : Launch) : ∀ (ix n : Nat) (rc : Option Nat) (sp : ex_S), (be_X1_look ix).map (fun q => (q.1, q.2.1, ab_sp ab_hd q.2.2)) = some (n, rc, sp) → ex_cok l RX1 2 44 ix n rc sp := by
  intro ix n rc sp h
  obtain ⟨l0, h2, rfl⟩ := ab_dmk h
  clear h
  unfold be_X1_look at h2
  split at h2
  · cases h2; exact ec_cV (bm_X3_anyoneIn l) bw_X3_anyoneIn bv_X3_anyoneIn (by decide) (by decide) (Or.inl (ec_in (i := 838) (by decide +kernel) rfl)) (T := TX3) (N := 7) rfl (by decide) (by decide +kernel)
  · cases h2; exact ec_cV (bm_X1_breaksIn l) bw_X1_breaksIn bv_X1_breaksIn (by decide) (by decide) (Or.inl (ec_in (i := 842) (by decide +kernel) rfl)) (T := TX1) (N := 6) rfl (by decide) (by decide +kernel)
  · cases h2; exact ec_cV (bm_X1_keepFirst l) bw_X1_keepFirst bv_X1_keepFirst (by decide) (by decide) (Or.inl (ec_in (i := 847) (by decide +kernel) rfl)) (T := TX1) (N := 6) rfl (by decide) (by decide +kernel)
  · cases h2
theorem bj_X1_look (l : Launch) : ex_ok l 2 44 bx_X1_look := ⟨ec_fok fo_X1, ec_cok co_X1, so_X1, bk_X1_look l, fun _ h => (by cases h), fun _ h => (by cases h), fun _ h => (by cases h), fun _ _ h => (by cases h)⟩
theorem bm_X1_look (l : Launch) : ex_Met l yX1_look cX1_look 5 (some .boolean) 2 44 (ab_sp ab_hd bc_X1_look) := ab_met (by decide) (by decide) rfl (bj_X1_look l) bd_X1_look ab_hcm ab_xk bz_X1_look
theorem bw_X2_becomeLike : ec_cw yX2_becomeLike cX2_becomeLike 2 none := ⟨ec_in (i := 900) (by decide +kernel) rfl, ec_in (i := 65) (by decide +kernel) rfl, by decide, by decide⟩
theorem bv_X2_becomeLike : Cond.instanceMethod yX2_becomeLike ∈ ec_tb ∧ Cond.selects yX2_becomeLike.cls yX2_becomeLike yX2_becomeLike ∈ ec_tb := ⟨ec_in (i := 898) (by decide +kernel) rfl, ec_in (i := 899) (by decide +kernel) rfl⟩
theorem bj_X2_becomeLike (l : Launch) : ex_ok l 0 0 bx_X2_becomeLike := ⟨ec_fok fo_X2, ec_cok co_X2, so_X2, fun _ _ _ _ h => (by cases h), fun _ h => (by cases h), fun _ h => (by cases h), fun _ h => (by cases h), fun _ _ h => (by cases h)⟩
theorem bm_X2_becomeLike (l : Launch) : ex_Met l yX2_becomeLike cX2_becomeLike 2 none 0 0 (ab_sp ab_hd bc_X2_becomeLike) := ab_met (by decide) (by decide) rfl (bj_X2_becomeLike l) bd_X2_becomeLike ab_hcm ab_xk bz_X2_becomeLike
theorem bw_X2_start : ec_cw yX2_start cX2_start 1 none := ⟨ec_in (i := 922) (by decide +kernel) rfl, ec_in (i := 65) (by decide +kernel) rfl, by decide, by decide⟩
theorem bv_X2_start : Cond.instanceMethod yX2_start ∈ ec_tb ∧ Cond.selects yX2_start.cls yX2_start yX2_start ∈ ec_tb := ⟨ec_in (i := 920) (by decide +kernel) rfl, ec_in (i := 921) (by decide +kernel) rfl⟩
theorem bj_X2_start (l : Launch) : ex_ok l 0 0 bx_X2_start := ⟨ec_fok fo_X2, ec_cok co_X2, so_X2, fun _ _ _ _ h => (by cases h), fun _ h => (by cases h), fun _ h => (by cases h), fun _ h => (by cases h), fun _ _ h => (by cases h)⟩
theorem bm_X2_start (l : Launch) : ex_Met l yX2_start cX2_start 1 none 0 0 (ab_sp ab_hd bc_X2_start) := ab_met (by decide) (by decide) rfl (bj_X2_start l) bd_X2_start ab_hcm ab_xk bz_X2_start
theorem bw_X2_finish : ec_cw yX2_finish cX2_finish 2 none := ⟨ec_in (i := 713) (by decide +kernel) rfl, ec_in (i := 65) (by decide +kernel) rfl, by decide, by decide⟩
theorem bv_X2_finish : Cond.instanceMethod yX2_finish ∈ ec_tb ∧ Cond.selects yX2_finish.cls yX2_finish yX2_finish ∈ ec_tb := ⟨ec_in (i := 711) (by decide +kernel) rfl, ec_in (i := 712) (by decide +kernel) rfl⟩
theorem bj_X2_finish (l : Launch) : ex_ok l 0 0 bx_X2_finish := ⟨ec_fok fo_X2, ec_cok co_X2, so_X2, fun _ _ _ _ h => (by cases h), fun _ h => (by cases h), fun _ h => (by cases h), fun _ h => (by cases h), fun _ _ h => (by cases h)⟩
theorem bm_X2_finish (l : Launch) : ex_Met l yX2_finish cX2_finish 2 none 0 0 (ab_sp ab_hd bc_X2_finish) := ab_met (by decide) (by decide) rfl (bj_X2_finish l) bd_X2_finish ab_hcm ab_xk bz_X2_finish
theorem bw_X2_giveUp : ec_cw yX2_giveUp cX2_giveUp 1 none := ⟨ec_in (i := 751) (by decide +kernel) rfl, ec_in (i := 65) (by decide +kernel) rfl, by decide, by decide⟩
theorem bv_X2_giveUp : Cond.instanceMethod yX2_giveUp ∈ ec_tb ∧ Cond.selects yX2_giveUp.cls yX2_giveUp yX2_giveUp ∈ ec_tb := ⟨ec_in (i := 749) (by decide +kernel) rfl, ec_in (i := 750) (by decide +kernel) rfl⟩
theorem bk_X2_giveUp (l : Launch) : ∀ (ix n : Nat) (rc : Option Nat) (sp : ex_S), (be_X2_giveUp ix).map (fun q => (q.1, q.2.1, ab_sp ab_hd q.2.2)) = some (n, rc, sp) → ex_cok l RX2 1 21 ix n rc sp := by
  intro ix n rc sp h
  obtain ⟨l0, h2, rfl⟩ := ab_dmk h
  clear h
  unfold be_X2_giveUp at h2
  split at h2
  · cases h2; exact ec_cV (bm_X2_finish l) bw_X2_finish bv_X2_finish (by decide) (by decide) (Or.inl (ec_in (i := 752) (by decide +kernel) rfl)) (T := TX2) (N := 7) rfl (by decide) (by decide +kernel)
  · cases h2
theorem bj_X2_giveUp (l : Launch) : ex_ok l 1 21 bx_X2_giveUp := ⟨ec_fok fo_X2, ec_cok co_X2, so_X2, bk_X2_giveUp l, fun _ h => (by cases h), fun _ h => (by cases h), fun _ h => (by cases h), fun _ _ h => (by cases h)⟩
theorem bm_X2_giveUp (l : Launch) : ex_Met l yX2_giveUp cX2_giveUp 1 none 1 21 (ab_sp ab_hd bc_X2_giveUp) := ab_met (by decide) (by decide) rfl (bj_X2_giveUp l) bd_X2_giveUp ab_hcm ab_xk bz_X2_giveUp
theorem bw_X2_goOnAt : ec_cw yX2_goOnAt cX2_goOnAt 2 none := ⟨ec_in (i := 747) (by decide +kernel) rfl, ec_in (i := 65) (by decide +kernel) rfl, by decide, by decide⟩
theorem bv_X2_goOnAt : Cond.instanceMethod yX2_goOnAt ∈ ec_tb ∧ Cond.selects yX2_goOnAt.cls yX2_goOnAt yX2_goOnAt ∈ ec_tb := ⟨ec_in (i := 745) (by decide +kernel) rfl, ec_in (i := 746) (by decide +kernel) rfl⟩
theorem bk_X2_goOnAt (l : Launch) : ∀ (ix n : Nat) (rc : Option Nat) (sp : ex_S), (be_X2_goOnAt ix).map (fun q => (q.1, q.2.1, ab_sp ab_hd q.2.2)) = some (n, rc, sp) → ex_cok l RX2 2 41 ix n rc sp := by
  intro ix n rc sp h
  obtain ⟨l0, h2, rfl⟩ := ab_dmk h
  clear h
  unfold be_X2_goOnAt at h2
  split at h2
  · cases h2; exact ec_cV (bm_X2_giveUp l) bw_X2_giveUp bv_X2_giveUp (by decide) (by decide) (Or.inl (ec_in (i := 748) (by decide +kernel) rfl)) (T := TX2) (N := 7) rfl (by decide) (by decide +kernel)
  · cases h2
theorem bj_X2_goOnAt (l : Launch) : ex_ok l 2 41 bx_X2_goOnAt := ⟨ec_fok fo_X2, ec_cok co_X2, so_X2, bk_X2_goOnAt l, fun _ h => (by cases h), fun _ h => (by cases h), fun _ h => (by cases h), fun _ _ h => (by cases h)⟩
theorem bm_X2_goOnAt (l : Launch) : ex_Met l yX2_goOnAt cX2_goOnAt 2 none 2 41 (ab_sp ab_hd bc_X2_goOnAt) := ab_met (by decide) (by decide) rfl (bj_X2_goOnAt l) bd_X2_goOnAt ab_hcm ab_xk bz_X2_goOnAt
theorem bw_X2_setHalted : ec_cw yX2_setHalted cX2_setHalted 2 (some .int) := ⟨ec_in (i := 930) (by decide +kernel) rfl, ec_in (i := 65) (by decide +kernel) rfl, by decide, by decide⟩
theorem bv_X2_setHalted : Cond.instanceMethod yX2_setHalted ∈ ec_tb ∧ Cond.selects yX2_setHalted.cls yX2_setHalted yX2_setHalted ∈ ec_tb := ⟨ec_in (i := 928) (by decide +kernel) rfl, ec_in (i := 929) (by decide +kernel) rfl⟩
theorem bk_X2_setHalted (l : Launch) : ∀ (ix n : Nat) (rc : Option Nat) (sp : ex_S), (be_X2_setHalted ix).map (fun q => (q.1, q.2.1, ab_sp ab_hd q.2.2)) = some (n, rc, sp) → ex_cok l RX2 1 20 ix n rc sp := by
  intro ix n rc sp h
  obtain ⟨l0, h2, rfl⟩ := ab_dmk h
  clear h
  unfold be_X2_setHalted at h2
  split at h2
  · cases h2; exact ec_cS (bm_X9_isSwitch l) bw_X9_isSwitch bv_X9_isSwitch (by decide) (by decide) (Or.inr ⟨"TinStation", by decide +kernel⟩) (by decide +kernel)
  · cases h2
theorem bj_X2_setHalted (l : Launch) : ex_ok l 1 20 bx_X2_setHalted := ⟨ec_fok fo_X2, ec_cok co_X2, so_X2, bk_X2_setHalted l, fun _ h => (by cases h), fun _ h => (by cases h), fun _ h => (by cases h), fun _ _ h => (by cases h)⟩
theorem bm_X2_setHalted (l : Launch) : ex_Met l yX2_setHalted cX2_setHalted 2 (some .int) 1 20 (ab_sp ab_hd bc_X2_setHalted) := ab_met (by decide) (by decide) rfl (bj_X2_setHalted l) bd_X2_setHalted ab_hcm ab_xk bz_X2_setHalted
theorem bw_X2_tellOf : ec_cw yX2_tellOf cX2_tellOf 2 (some .int) := ⟨ec_in (i := 947) (by decide +kernel) rfl, ec_in (i := 65) (by decide +kernel) rfl, by decide, by decide⟩
theorem bv_X2_tellOf : Cond.instanceMethod yX2_tellOf ∈ ec_tb ∧ Cond.selects yX2_tellOf.cls yX2_tellOf yX2_tellOf ∈ ec_tb := ⟨ec_in (i := 945) (by decide +kernel) rfl, ec_in (i := 946) (by decide +kernel) rfl⟩
theorem bk_X2_tellOf (l : Launch) : ∀ (ix n : Nat) (rc : Option Nat) (sp : ex_S), (be_X2_tellOf ix).map (fun q => (q.1, q.2.1, ab_sp ab_hd q.2.2)) = some (n, rc, sp) → ex_cok l RX2 1 20 ix n rc sp := by
  intro ix n rc sp h
  obtain ⟨l0, h2, rfl⟩ := ab_dmk h
  clear h
  unfold be_X2_tellOf at h2
  split at h2
  · cases h2; exact ec_cS (bm_X9_one l) bw_X9_one bv_X9_one (by decide) (by decide) (Or.inr ⟨"TinStation", by decide +kernel⟩) (by decide +kernel)
  · cases h2
theorem bj_X2_tellOf (l : Launch) : ex_ok l 1 20 bx_X2_tellOf := ⟨ec_fok fo_X2, ec_cok co_X2, so_X2, bk_X2_tellOf l, fun _ h => (by cases h), fun _ h => (by cases h), fun _ h => (by cases h), fun _ _ h => (by cases h)⟩
theorem bm_X2_tellOf (l : Launch) : ex_Met l yX2_tellOf cX2_tellOf 2 (some .int) 1 20 (ab_sp ab_hd bc_X2_tellOf) := ab_met (by decide) (by decide) rfl (bj_X2_tellOf l) bd_X2_tellOf ab_hcm ab_xk bz_X2_tellOf
theorem bw_X3_becomeLike : ec_cw yX3_becomeLike cX3_becomeLike 2 none := ⟨ec_in (i := 885) (by decide +kernel) rfl, ec_in (i := 62) (by decide +kernel) rfl, by decide, by decide⟩
theorem bv_X3_becomeLike : Cond.instanceMethod yX3_becomeLike ∈ ec_tb ∧ Cond.selects yX3_becomeLike.cls yX3_becomeLike yX3_becomeLike ∈ ec_tb := ⟨ec_in (i := 883) (by decide +kernel) rfl, ec_in (i := 884) (by decide +kernel) rfl⟩
theorem bk_X3_becomeLike (l : Launch) : ∀ (ix n : Nat) (rc : Option Nat) (sp : ex_S), (be_X3_becomeLike ix).map (fun q => (q.1, q.2.1, ab_sp ab_hd q.2.2)) = some (n, rc, sp) → ex_cok l RX3 2 47 ix n rc sp := by
  intro ix n rc sp h
  obtain ⟨l0, h2, rfl⟩ := ab_dmk h
  clear h
  unfold be_X3_becomeLike at h2
  split at h2
  · cases h2; exact ec_cS (bm_X9_copy l) bw_X9_copy bv_X9_copy (by decide) (by decide) (Or.inr ⟨"TinStation", by decide +kernel⟩) (by decide +kernel)
  · cases h2
theorem bj_X3_becomeLike (l : Launch) : ex_ok l 2 47 bx_X3_becomeLike := ⟨ec_fok fo_X3, ec_cok co_X3, so_X3, bk_X3_becomeLike l, fun _ h => (by cases h), fun _ h => (by cases h), fun _ h => (by cases h), fun _ _ h => (by cases h)⟩
theorem bm_X3_becomeLike (l : Launch) : ex_Met l yX3_becomeLike cX3_becomeLike 2 none 2 47 (ab_sp ab_hd bc_X3_becomeLike) := ab_met (by decide) (by decide) rfl (bj_X3_becomeLike l) bd_X3_becomeLike ab_hcm ab_xk bz_X3_becomeLike
theorem bw_X3_has : ec_cw yX3_has cX3_has 2 (some .boolean) := ⟨ec_in (i := 520) (by decide +kernel) rfl, ec_in (i := 62) (by decide +kernel) rfl, by decide, by decide⟩
theorem bv_X3_has : Cond.instanceMethod yX3_has ∈ ec_tb ∧ Cond.selects yX3_has.cls yX3_has yX3_has ∈ ec_tb := ⟨ec_in (i := 518) (by decide +kernel) rfl, ec_in (i := 519) (by decide +kernel) rfl⟩
theorem bj_X3_has (l : Launch) : ex_ok l 0 0 bx_X3_has := ⟨ec_fok fo_X3, ec_cok co_X3, so_X3, fun _ _ _ _ h => (by cases h), fun _ h => (by cases h), fun _ h => (by cases h), fun _ h => (by cases h), fun _ _ h => (by cases h)⟩
theorem bm_X3_has (l : Launch) : ex_Met l yX3_has cX3_has 2 (some .boolean) 0 0 (ab_sp ab_hd bc_X3_has) := ab_met (by decide) (by decide) rfl (bj_X3_has l) bd_X3_has ab_hcm ab_xk bz_X3_has
theorem bw_X3_mends : ec_cw yX3_mends cX3_mends 2 (some .boolean) := ⟨ec_in (i := 526) (by decide +kernel) rfl, ec_in (i := 62) (by decide +kernel) rfl, by decide, by decide⟩
theorem bv_X3_mends : Cond.instanceMethod yX3_mends ∈ ec_tb ∧ Cond.selects yX3_mends.cls yX3_mends yX3_mends ∈ ec_tb := ⟨ec_in (i := 524) (by decide +kernel) rfl, ec_in (i := 525) (by decide +kernel) rfl⟩
theorem bj_X3_mends (l : Launch) : ex_ok l 0 0 bx_X3_mends := ⟨ec_fok fo_X3, ec_cok co_X3, so_X3, fun _ _ _ _ h => (by cases h), fun _ h => (by cases h), fun _ h => (by cases h), fun _ h => (by cases h), fun _ _ h => (by cases h)⟩
theorem bm_X3_mends (l : Launch) : ex_Met l yX3_mends cX3_mends 2 (some .boolean) 0 0 (ab_sp ab_hd bc_X3_mends) := ab_met (by decide) (by decide) rfl (bj_X3_mends l) bd_X3_mends ab_hcm ab_xk bz_X3_mends
theorem bw_X3_addPerson : ec_cw yX3_addPerson cX3_addPerson 2 (some .int) := ⟨ec_in (i := 507) (by decide +kernel) rfl, ec_in (i := 62) (by decide +kernel) rfl, by decide, by decide⟩
theorem bv_X3_addPerson : Cond.instanceMethod yX3_addPerson ∈ ec_tb ∧ Cond.selects yX3_addPerson.cls yX3_addPerson yX3_addPerson ∈ ec_tb := ⟨ec_in (i := 505) (by decide +kernel) rfl, ec_in (i := 506) (by decide +kernel) rfl⟩
theorem bj_X3_addPerson (l : Launch) : ex_ok l 0 0 bx_X3_addPerson := ⟨ec_fok fo_X3, ec_cok co_X3, so_X3, fun _ _ _ _ h => (by cases h), fun _ h => (by cases h), fun _ h => (by cases h), fun _ h => (by cases h), fun _ _ h => (by cases h)⟩
theorem bm_X3_addPerson (l : Launch) : ex_Met l yX3_addPerson cX3_addPerson 2 (some .int) 0 0 (ab_sp ab_hd bc_X3_addPerson) := ab_met (by decide) (by decide) rfl (bj_X3_addPerson l) bd_X3_addPerson ab_hcm ab_xk bz_X3_addPerson
theorem bw_X3_setDoing : ec_cw yX3_setDoing cX3_setDoing 4 (some .int) := ⟨ec_in (i := 539) (by decide +kernel) rfl, ec_in (i := 62) (by decide +kernel) rfl, by decide, by decide⟩
theorem bv_X3_setDoing : Cond.instanceMethod yX3_setDoing ∈ ec_tb ∧ Cond.selects yX3_setDoing.cls yX3_setDoing yX3_setDoing ∈ ec_tb := ⟨ec_in (i := 537) (by decide +kernel) rfl, ec_in (i := 538) (by decide +kernel) rfl⟩
theorem bk_X3_setDoing (l : Launch) : ∀ (ix n : Nat) (rc : Option Nat) (sp : ex_S), (be_X3_setDoing ix).map (fun q => (q.1, q.2.1, ab_sp ab_hd q.2.2)) = some (n, rc, sp) → ex_cok l RX3 1 21 ix n rc sp := by
  intro ix n rc sp h
  obtain ⟨l0, h2, rfl⟩ := ab_dmk h
  clear h
  unfold be_X3_setDoing at h2
  split at h2
  · cases h2; exact ec_cV (bm_X3_has l) bw_X3_has bv_X3_has (by decide) (by decide) (Or.inl (ec_in (i := 540) (by decide +kernel) rfl)) (T := TX3) (N := 7) rfl (by decide) (by decide +kernel)
  · cases h2; exact ec_cV (bm_X3_mends l) bw_X3_mends bv_X3_mends (by decide) (by decide) (Or.inl (ec_in (i := 542) (by decide +kernel) rfl)) (T := TX3) (N := 7) rfl (by decide) (by decide +kernel)
  · cases h2
theorem bj_X3_setDoing (l : Launch) : ex_ok l 1 21 bx_X3_setDoing := ⟨ec_fok fo_X3, ec_cok co_X3, so_X3, bk_X3_setDoing l, fun _ h => (by cases h), fun _ h => (by cases h), fun _ h => (by cases h), fun _ _ h => (by cases h)⟩
theorem bm_X3_setDoing (l : Launch) : ex_Met l yX3_setDoing cX3_setDoing 4 (some .int) 1 21 (ab_sp ab_hd bc_X3_setDoing) := ab_met (by decide) (by decide) rfl (bj_X3_setDoing l) bd_X3_setDoing ab_hcm ab_xk bz_X3_setDoing
theorem bw_X3_tellOf : ec_cw yX3_tellOf cX3_tellOf 3 (some .int) := ⟨ec_in (i := 551) (by decide +kernel) rfl, ec_in (i := 62) (by decide +kernel) rfl, by decide, by decide⟩
theorem bv_X3_tellOf : Cond.instanceMethod yX3_tellOf ∈ ec_tb ∧ Cond.selects yX3_tellOf.cls yX3_tellOf yX3_tellOf ∈ ec_tb := ⟨ec_in (i := 549) (by decide +kernel) rfl, ec_in (i := 550) (by decide +kernel) rfl⟩
theorem bk_X3_tellOf (l : Launch) : ∀ (ix n : Nat) (rc : Option Nat) (sp : ex_S), (be_X3_tellOf ix).map (fun q => (q.1, q.2.1, ab_sp ab_hd q.2.2)) = some (n, rc, sp) → ex_cok l RX3 1 21 ix n rc sp := by
  intro ix n rc sp h
  obtain ⟨l0, h2, rfl⟩ := ab_dmk h
  clear h
  unfold be_X3_tellOf at h2
  split at h2
  · cases h2; exact ec_cV (bm_X3_has l) bw_X3_has bv_X3_has (by decide) (by decide) (Or.inl (ec_in (i := 540) (by decide +kernel) rfl)) (T := TX3) (N := 7) rfl (by decide) (by decide +kernel)
  · cases h2
theorem bj_X3_tellOf (l : Launch) : ex_ok l 1 21 bx_X3_tellOf := ⟨ec_fok fo_X3, ec_cok co_X3, so_X3, bk_X3_tellOf l, fun _ h => (by cases h), fun _ h => (by cases h), fun _ h => (by cases h), fun _ _ h => (by cases h)⟩
theorem bm_X3_tellOf (l : Launch) : ex_Met l yX3_tellOf cX3_tellOf 3 (some .int) 1 21 (ab_sp ab_hd bc_X3_tellOf) := ab_met (by decide) (by decide) rfl (bj_X3_tellOf l) bd_X3_tellOf ab_hcm ab_xk bz_X3_tellOf
theorem bw_X3_startMending : ec_cw yX3_startMending cX3_startMending 4 none := ⟨ec_in (i := 630) (by decide +kernel) rfl, ec_in (i := 62) (by decide +kernel) rfl, by decide, by decide⟩
theorem bv_X3_startMending : Cond.instanceMethod yX3_startMending ∈ ec_tb ∧ Cond.selects yX3_startMending.cls yX3_startMending yX3_startMending ∈ ec_tb := ⟨ec_in (i := 628) (by decide +kernel) rfl, ec_in (i := 629) (by decide +kernel) rfl⟩
theorem bj_X3_startMending (l : Launch) : ex_ok l 0 0 bx_X3_startMending := ⟨ec_fok fo_X3, ec_cok co_X3, so_X3, fun _ _ _ _ h => (by cases h), fun _ h => (by cases h), fun _ h => (by cases h), fun _ h => (by cases h), fun _ _ h => (by cases h)⟩
theorem bm_X3_startMending (l : Launch) : ex_Met l yX3_startMending cX3_startMending 4 none 0 0 (ab_sp ab_hd bc_X3_startMending) := ab_met (by decide) (by decide) rfl (bj_X3_startMending l) bd_X3_startMending ab_hcm ab_xk bz_X3_startMending
theorem bw_X3_isMended : ec_cw yX3_isMended cX3_isMended 3 (some .boolean) := ⟨ec_in (i := 625) (by decide +kernel) rfl, ec_in (i := 62) (by decide +kernel) rfl, by decide, by decide⟩
theorem bv_X3_isMended : Cond.instanceMethod yX3_isMended ∈ ec_tb ∧ Cond.selects yX3_isMended.cls yX3_isMended yX3_isMended ∈ ec_tb := ⟨ec_in (i := 623) (by decide +kernel) rfl, ec_in (i := 624) (by decide +kernel) rfl⟩
theorem bj_X3_isMended (l : Launch) : ex_ok l 0 0 bx_X3_isMended := ⟨ec_fok fo_X3, ec_cok co_X3, so_X3, fun _ _ _ _ h => (by cases h), fun _ h => (by cases h), fun _ h => (by cases h), fun _ h => (by cases h), fun _ _ h => (by cases h)⟩
theorem bm_X3_isMended (l : Launch) : ex_Met l yX3_isMended cX3_isMended 3 (some .boolean) 0 0 (ab_sp ab_hd bc_X3_isMended) := ab_met (by decide) (by decide) rfl (bj_X3_isMended l) bd_X3_isMended ab_hcm ab_xk bz_X3_isMended
theorem bw_X3_menders : ec_cw yX3_menders cX3_menders 3 (some .int) := ⟨ec_in (i := 1094) (by decide +kernel) rfl, ec_in (i := 62) (by decide +kernel) rfl, by decide, by decide⟩
theorem bv_X3_menders : Cond.instanceMethod yX3_menders ∈ ec_tb ∧ Cond.selects yX3_menders.cls yX3_menders yX3_menders ∈ ec_tb := ⟨ec_in (i := 1092) (by decide +kernel) rfl, ec_in (i := 1093) (by decide +kernel) rfl⟩
theorem bk_X3_menders (l : Launch) : ∀ (ix n : Nat) (rc : Option Nat) (sp : ex_S), (be_X3_menders ix).map (fun q => (q.1, q.2.1, ab_sp ab_hd q.2.2)) = some (n, rc, sp) → ex_cok l RX3 1 21 ix n rc sp := by
  intro ix n rc sp h
  obtain ⟨l0, h2, rfl⟩ := ab_dmk h
  clear h
  unfold be_X3_menders at h2
  split at h2
  · cases h2; exact ec_cV (bm_X3_mends l) bw_X3_mends bv_X3_mends (by decide) (by decide) (Or.inl (ec_in (i := 542) (by decide +kernel) rfl)) (T := TX3) (N := 7) rfl (by decide) (by decide +kernel)
  · cases h2; exact ec_cS (bm_X9_one l) bw_X9_one bv_X9_one (by decide) (by decide) (Or.inr ⟨"TinStation", by decide +kernel⟩) (by decide +kernel)
  · cases h2
theorem bj_X3_menders (l : Launch) : ex_ok l 1 21 bx_X3_menders := ⟨ec_fok fo_X3, ec_cok co_X3, so_X3, bk_X3_menders l, fun _ h => (by cases h), fun _ h => (by cases h), fun _ h => (by cases h), fun _ _ h => (by cases h)⟩
theorem bm_X3_menders (l : Launch) : ex_Met l yX3_menders cX3_menders 3 (some .int) 1 21 (ab_sp ab_hd bc_X3_menders) := ab_met (by decide) (by decide) rfl (bj_X3_menders l) bd_X3_menders ab_hcm ab_xk bz_X3_menders
theorem bw_X6_has : ec_cw yX6_has cX6_has 2 (some .boolean) := ⟨ec_in (i := 580) (by decide +kernel) rfl, ec_in (i := 63) (by decide +kernel) rfl, by decide, by decide⟩
theorem bv_X6_has : Cond.instanceMethod yX6_has ∈ ec_tb ∧ Cond.selects yX6_has.cls yX6_has yX6_has ∈ ec_tb := ⟨ec_in (i := 578) (by decide +kernel) rfl, ec_in (i := 579) (by decide +kernel) rfl⟩
theorem bj_X6_has (l : Launch) : ex_ok l 0 0 bx_X6_has := ⟨ec_fok fo_X6, ec_cok co_X6, so_X6, fun _ _ _ _ h => (by cases h), fun _ h => (by cases h), fun _ h => (by cases h), fun _ h => (by cases h), fun _ _ h => (by cases h)⟩
theorem bm_X6_has (l : Launch) : ex_Met l yX6_has cX6_has 2 (some .boolean) 0 0 (ab_sp ab_hd bc_X6_has) := ab_met (by decide) (by decide) rfl (bj_X6_has l) bd_X6_has ab_hcm ab_xk bz_X6_has
theorem bw_X6_makeNew : ec_cw yX6_makeNew cX6_makeNew 2 none := ⟨ec_in (i := 760) (by decide +kernel) rfl, ec_in (i := 63) (by decide +kernel) rfl, by decide, by decide⟩
theorem bv_X6_makeNew : Cond.instanceMethod yX6_makeNew ∈ ec_tb ∧ Cond.selects yX6_makeNew.cls yX6_makeNew yX6_makeNew ∈ ec_tb := ⟨ec_in (i := 758) (by decide +kernel) rfl, ec_in (i := 759) (by decide +kernel) rfl⟩
theorem bk_X6_makeNew (l : Launch) : ∀ (ix n : Nat) (rc : Option Nat) (sp : ex_S), (be_X6_makeNew ix).map (fun q => (q.1, q.2.1, ab_sp ab_hd q.2.2)) = some (n, rc, sp) → ex_cok l RX6 1 21 ix n rc sp := by
  intro ix n rc sp h
  obtain ⟨l0, h2, rfl⟩ := ab_dmk h
  clear h
  unfold be_X6_makeNew at h2
  split at h2
  · cases h2; exact ec_cV (bm_X6_has l) bw_X6_has bv_X6_has (by decide) (by decide) (Or.inl (ec_in (i := 577) (by decide +kernel) rfl)) (T := TX6) (N := 15) rfl (by decide) (by decide +kernel)
  · cases h2
theorem bj_X6_makeNew (l : Launch) : ex_ok l 1 21 bx_X6_makeNew := ⟨ec_fok fo_X6, ec_cok co_X6, so_X6, bk_X6_makeNew l, fun _ h => (by cases h), fun _ h => (by cases h), fun _ h => (by cases h), fun _ _ h => (by cases h)⟩
theorem bm_X6_makeNew (l : Launch) : ex_Met l yX6_makeNew cX6_makeNew 2 none 1 21 (ab_sp ab_hd bc_X6_makeNew) := ab_met (by decide) (by decide) rfl (bj_X6_makeNew l) bd_X6_makeNew ab_hcm ab_xk bz_X6_makeNew
theorem bw_X3_mendOn : ec_cw yX3_mendOn cX3_mendOn 3 none := ⟨ec_in (i := 756) (by decide +kernel) rfl, ec_in (i := 62) (by decide +kernel) rfl, by decide, by decide⟩
theorem bv_X3_mendOn : Cond.instanceMethod yX3_mendOn ∈ ec_tb ∧ Cond.selects yX3_mendOn.cls yX3_mendOn yX3_mendOn ∈ ec_tb := ⟨ec_in (i := 754) (by decide +kernel) rfl, ec_in (i := 755) (by decide +kernel) rfl⟩
theorem bk_X3_mendOn (l : Launch) : ∀ (ix n : Nat) (rc : Option Nat) (sp : ex_S), (be_X3_mendOn ix).map (fun q => (q.1, q.2.1, ab_sp ab_hd q.2.2)) = some (n, rc, sp) → ex_cok l RX3 2 42 ix n rc sp := by
  intro ix n rc sp h
  obtain ⟨l0, h2, rfl⟩ := ab_dmk h
  clear h
  unfold be_X3_mendOn at h2
  split at h2
  · cases h2; exact ec_cV (bm_X3_mends l) bw_X3_mends bv_X3_mends (by decide) (by decide) (Or.inl (ec_in (i := 542) (by decide +kernel) rfl)) (T := TX3) (N := 7) rfl (by decide) (by decide +kernel)
  · cases h2; exact ec_cV (bm_X6_makeNew l) bw_X6_makeNew bv_X6_makeNew (by decide) (by decide) (Or.inl (ec_in (i := 757) (by decide +kernel) rfl)) (T := TX6) (N := 15) rfl (by decide) (by decide +kernel)
  · cases h2
theorem bj_X3_mendOn (l : Launch) : ex_ok l 2 42 bx_X3_mendOn := ⟨ec_fok fo_X3, ec_cok co_X3, so_X3, bk_X3_mendOn l, fun _ h => (by cases h), fun _ h => (by cases h), fun _ h => (by cases h), fun _ _ h => (by cases h)⟩
theorem bm_X3_mendOn (l : Launch) : ex_Met l yX3_mendOn cX3_mendOn 3 none 2 42 (ab_sp ab_hd bc_X3_mendOn) := ab_met (by decide) (by decide) rfl (bj_X3_mendOn l) bd_X3_mendOn ab_hcm ab_xk bz_X3_mendOn
theorem bw_X3_breathe : ec_cw yX3_breathe cX3_breathe 5 none := ⟨ec_in (i := 805) (by decide +kernel) rfl, ec_in (i := 62) (by decide +kernel) rfl, by decide, by decide⟩
theorem bv_X3_breathe : Cond.instanceMethod yX3_breathe ∈ ec_tb ∧ Cond.selects yX3_breathe.cls yX3_breathe yX3_breathe ∈ ec_tb := ⟨ec_in (i := 804) (by decide +kernel) rfl, ec_in (i := 14) (by decide +kernel) rfl⟩
theorem bk_X3_breathe (l : Launch) : ∀ (ix n : Nat) (rc : Option Nat) (sp : ex_S), (be_X3_breathe ix).map (fun q => (q.1, q.2.1, ab_sp ab_hd q.2.2)) = some (n, rc, sp) → ex_cok l RX3 2 45 ix n rc sp := by
  intro ix n rc sp h
  obtain ⟨l0, h2, rfl⟩ := ab_dmk h
  clear h
  unfold be_X3_breathe at h2
  split at h2
  · cases h2; exact ec_cV (bm_X0_take l) bw_X0_take bv_X0_take (by decide) (by decide) (Or.inl (ec_in (i := 808) (by decide +kernel) rfl)) (T := TX0) (N := 8) rfl (by decide) (by decide +kernel)
  · cases h2; exact ec_cV (bm_X0_give l) bw_X0_give bv_X0_give (by decide) (by decide) (Or.inl (ec_in (i := 809) (by decide +kernel) rfl)) (T := TX0) (N := 8) rfl (by decide) (by decide +kernel)
  · cases h2; exact ec_cS (bm_X9_one l) bw_X9_one bv_X9_one (by decide) (by decide) (Or.inr ⟨"TinStation", by decide +kernel⟩) (by decide +kernel)
  · cases h2
theorem bj_X3_breathe (l : Launch) : ex_ok l 2 45 bx_X3_breathe := ⟨ec_fok fo_X3, ec_cok co_X3, so_X3, bk_X3_breathe l, fun _ h => (by cases h), fun _ h => (by cases h), fun _ h => (by cases h), fun _ _ h => (by cases h)⟩
theorem bm_X3_breathe (l : Launch) : ex_Met l yX3_breathe cX3_breathe 5 none 2 45 (ab_sp ab_hd bc_X3_breathe) := ab_met (by decide) (by decide) rfl (bj_X3_breathe l) bd_X3_breathe ab_hcm ab_xk bz_X3_breathe
theorem bw_X3_drink : ec_cw yX3_drink cX3_drink 5 none := ⟨ec_in (i := 814) (by decide +kernel) rfl, ec_in (i := 62) (by decide +kernel) rfl, by decide, by decide⟩
theorem bv_X3_drink : Cond.instanceMethod yX3_drink ∈ ec_tb ∧ Cond.selects yX3_drink.cls yX3_drink yX3_drink ∈ ec_tb := ⟨ec_in (i := 813) (by decide +kernel) rfl, ec_in (i := 15) (by decide +kernel) rfl⟩
theorem bk_X3_drink (l : Launch) : ∀ (ix n : Nat) (rc : Option Nat) (sp : ex_S), (be_X3_drink ix).map (fun q => (q.1, q.2.1, ab_sp ab_hd q.2.2)) = some (n, rc, sp) → ex_cok l RX3 2 44 ix n rc sp := by
  intro ix n rc sp h
  obtain ⟨l0, h2, rfl⟩ := ab_dmk h
  clear h
  unfold be_X3_drink at h2
  split at h2
  · cases h2; exact ec_cV (bm_X0_draw l) bw_X0_draw bv_X0_draw (by decide) (by decide) (Or.inl (ec_in (i := 815) (by decide +kernel) rfl)) (T := TX0) (N := 8) rfl (by decide) (by decide +kernel)
  · cases h2; exact ec_cV (bm_X0_give l) bw_X0_give bv_X0_give (by decide) (by decide) (Or.inl (ec_in (i := 809) (by decide +kernel) rfl)) (T := TX0) (N := 8) rfl (by decide) (by decide +kernel)
  · cases h2; exact ec_cV (bm_X0_fill l) bw_X0_fill bv_X0_fill (by decide) (by decide) (Or.inl (ec_in (i := 816) (by decide +kernel) rfl)) (T := TX0) (N := 8) rfl (by decide) (by decide +kernel)
  · cases h2; exact ec_cS (bm_X9_one l) bw_X9_one bv_X9_one (by decide) (by decide) (Or.inr ⟨"TinStation", by decide +kernel⟩) (by decide +kernel)
  · cases h2
theorem bj_X3_drink (l : Launch) : ex_ok l 2 44 bx_X3_drink := ⟨ec_fok fo_X3, ec_cok co_X3, so_X3, bk_X3_drink l, fun _ h => (by cases h), fun _ h => (by cases h), fun _ h => (by cases h), fun _ _ h => (by cases h)⟩
theorem bm_X3_drink (l : Launch) : ex_Met l yX3_drink cX3_drink 5 none 2 44 (ab_sp ab_hd bc_X3_drink) := ab_met (by decide) (by decide) rfl (bj_X3_drink l) bd_X3_drink ab_hcm ab_xk bz_X3_drink
theorem bw_X3_live : ec_cw yX3_live cX3_live 3 none := ⟨ec_in (i := 801) (by decide +kernel) rfl, ec_in (i := 62) (by decide +kernel) rfl, by decide, by decide⟩
theorem bv_X3_live : Cond.instanceMethod yX3_live ∈ ec_tb ∧ Cond.selects yX3_live.cls yX3_live yX3_live ∈ ec_tb := ⟨ec_in (i := 799) (by decide +kernel) rfl, ec_in (i := 800) (by decide +kernel) rfl⟩
theorem bk_X3_live (l : Launch) : ∀ (ix n : Nat) (rc : Option Nat) (sp : ex_S), (be_X3_live ix).map (fun q => (q.1, q.2.1, ab_sp ab_hd q.2.2)) = some (n, rc, sp) → ex_cok l RX3 3 69 ix n rc sp := by
  intro ix n rc sp h
  obtain ⟨l0, h2, rfl⟩ := ab_dmk h
  clear h
  unfold be_X3_live at h2
  split at h2
  · cases h2; exact ec_cV (bm_X3_breathe l) bw_X3_breathe bv_X3_breathe (by decide) (by decide) (Or.inl (ec_in (i := 802) (by decide +kernel) rfl)) (T := TX3) (N := 7) rfl (by decide) (by decide +kernel)
  · cases h2; exact ec_cV (bm_X3_drink l) bw_X3_drink bv_X3_drink (by decide) (by decide) (Or.inl (ec_in (i := 811) (by decide +kernel) rfl)) (T := TX3) (N := 7) rfl (by decide) (by decide +kernel)
  · cases h2; exact ec_cV (bm_X0_give l) bw_X0_give bv_X0_give (by decide) (by decide) (Or.inl (ec_in (i := 809) (by decide +kernel) rfl)) (T := TX0) (N := 8) rfl (by decide) (by decide +kernel)
  · cases h2
theorem bj_X3_live (l : Launch) : ex_ok l 3 69 bx_X3_live := ⟨ec_fok fo_X3, ec_cok co_X3, so_X3, bk_X3_live l, fun _ h => (by cases h), fun _ h => (by cases h), fun _ h => (by cases h), fun _ _ h => (by cases h)⟩
theorem bm_X3_live (l : Launch) : ex_Met l yX3_live cX3_live 3 none 3 69 (ab_sp ab_hd bc_X3_live) := ab_met (by decide) (by decide) rfl (bj_X3_live l) bd_X3_live ab_hcm ab_xk bz_X3_live
theorem bw_X4_startOver : ec_cw yX4_startOver cX4_startOver 2 (some .int) := ⟨ec_in (i := 956) (by decide +kernel) rfl, ec_in (i := 66) (by decide +kernel) rfl, by decide, by decide⟩
theorem bv_X4_startOver : Cond.instanceMethod yX4_startOver ∈ ec_tb ∧ Cond.selects yX4_startOver.cls yX4_startOver yX4_startOver ∈ ec_tb := ⟨ec_in (i := 954) (by decide +kernel) rfl, ec_in (i := 955) (by decide +kernel) rfl⟩
theorem bj_X4_startOver (l : Launch) : ex_ok l 0 0 bx_X4_startOver := ⟨ec_fok fo_X4, ec_cok co_X4, so_X4, fun _ _ _ _ h => (by cases h), fun _ h => (by cases h), fun _ h => (by cases h), fun _ h => (by cases h), fun _ _ h => (by cases h)⟩
theorem bm_X4_startOver (l : Launch) : ex_Met l yX4_startOver cX4_startOver 2 (some .int) 0 0 (ab_sp ab_hd bc_X4_startOver) := ab_met (by decide) (by decide) rfl (bj_X4_startOver l) bd_X4_startOver ab_hcm ab_xk bz_X4_startOver
theorem bw_X4_join : ec_cw yX4_join cX4_join 4 none := ⟨ec_in (i := 974) (by decide +kernel) rfl, ec_in (i := 66) (by decide +kernel) rfl, by decide, by decide⟩
theorem bv_X4_join : Cond.instanceMethod yX4_join ∈ ec_tb ∧ Cond.selects yX4_join.cls yX4_join yX4_join ∈ ec_tb := ⟨ec_in (i := 973) (by decide +kernel) rfl, ec_in (i := 20) (by decide +kernel) rfl⟩
theorem bj_X4_join (l : Launch) : ex_ok l 0 0 bx_X4_join := ⟨ec_fok fo_X4, ec_cok co_X4, so_X4, fun _ _ _ _ h => (by cases h), fun _ h => (by cases h), fun _ h => (by cases h), fun _ h => (by cases h), fun _ _ h => (by cases h)⟩
theorem bm_X4_join (l : Launch) : ex_Met l yX4_join cX4_join 4 none 0 0 (ab_sp ab_hd bc_X4_join) := ab_met (by decide) (by decide) rfl (bj_X4_join l) bd_X4_join ab_hcm ab_xk bz_X4_join
theorem bw_X4_findParts : ec_cw yX4_findParts cX4_findParts 4 none := ⟨ec_in (i := 970) (by decide +kernel) rfl, ec_in (i := 66) (by decide +kernel) rfl, by decide, by decide⟩
theorem bv_X4_findParts : Cond.instanceMethod yX4_findParts ∈ ec_tb ∧ Cond.selects yX4_findParts.cls yX4_findParts yX4_findParts ∈ ec_tb := ⟨ec_in (i := 969) (by decide +kernel) rfl, ec_in (i := 19) (by decide +kernel) rfl⟩
theorem bk_X4_findParts (l : Launch) : ∀ (ix n : Nat) (rc : Option Nat) (sp : ex_S), (be_X4_findParts ix).map (fun q => (q.1, q.2.1, ab_sp ab_hd q.2.2)) = some (n, rc, sp) → ex_cok l RX4 1 23 ix n rc sp := by
  intro ix n rc sp h
  obtain ⟨l0, h2, rfl⟩ := ab_dmk h
  clear h
  unfold be_X4_findParts at h2
  split at h2
  · cases h2; exact ec_cV (bm_X4_join l) bw_X4_join bv_X4_join (by decide) (by decide) (Or.inl (ec_in (i := 971) (by decide +kernel) rfl)) (T := TX4) (N := 2) rfl (by decide) (by decide +kernel)
  · cases h2
theorem bj_X4_findParts (l : Launch) : ex_ok l 1 23 bx_X4_findParts := ⟨ec_fok fo_X4, ec_cok co_X4, so_X4, bk_X4_findParts l, fun _ h => (by cases h), fun _ h => (by cases h), fun _ h => (by cases h), fun _ _ h => (by cases h)⟩
theorem bm_X4_findParts (l : Launch) : ex_Met l yX4_findParts cX4_findParts 4 none 1 23 (ab_sp ab_hd bc_X4_findParts) := ab_met (by decide) (by decide) rfl (bj_X4_findParts l) bd_X4_findParts ab_hcm ab_xk bz_X4_findParts
theorem bw_X4_narrow : ec_cw yX4_narrow cX4_narrow 5 (some .int) := ⟨ec_in (i := 964) (by decide +kernel) rfl, ec_in (i := 66) (by decide +kernel) rfl, by decide, by decide⟩
theorem bv_X4_narrow : Cond.instanceMethod yX4_narrow ∈ ec_tb ∧ Cond.selects yX4_narrow.cls yX4_narrow yX4_narrow ∈ ec_tb := ⟨ec_in (i := 962) (by decide +kernel) rfl, ec_in (i := 963) (by decide +kernel) rfl⟩
theorem bk_X4_narrow (l : Launch) : ∀ (ix n : Nat) (rc : Option Nat) (sp : ex_S), (be_X4_narrow ix).map (fun q => (q.1, q.2.1, ab_sp ab_hd q.2.2)) = some (n, rc, sp) → ex_cok l RX4 2 46 ix n rc sp := by
  intro ix n rc sp h
  obtain ⟨l0, h2, rfl⟩ := ab_dmk h
  clear h
  unfold be_X4_narrow at h2
  split at h2
  · cases h2; exact ec_cV (bm_X0_hasModule l) bw_X0_hasModule bv_X0_hasModule (by decide) (by decide) (Or.inl (ec_in (i := 965) (by decide +kernel) rfl)) (T := TX0) (N := 8) rfl (by decide) (by decide +kernel)
  · cases h2; exact ec_cV (bm_X4_findParts l) bw_X4_findParts bv_X4_findParts (by decide) (by decide) (Or.inl (ec_in (i := 967) (by decide +kernel) rfl)) (T := TX4) (N := 2) rfl (by decide) (by decide +kernel)
  · cases h2
theorem bj_X4_narrow (l : Launch) : ex_ok l 2 46 bx_X4_narrow := ⟨ec_fok fo_X4, ec_cok co_X4, so_X4, bk_X4_narrow l, fun _ h => (by cases h), fun _ h => (by cases h), fun _ h => (by cases h), fun _ _ h => (by cases h)⟩
theorem bm_X4_narrow (l : Launch) : ex_Met l yX4_narrow cX4_narrow 5 (some .int) 2 46 (ab_sp ab_hd bc_X4_narrow) := ab_met (by decide) (by decide) rfl (bj_X4_narrow l) bd_X4_narrow ab_hcm ab_xk bz_X4_narrow
theorem bw_J6_bitCount_0f7a4 : ec_cw yJ6_bitCount_0f7a4 cJ6_bitCount_0f7a4 1 (some .int) := ⟨ec_in (i := 657) (by decide +kernel) rfl, ec_in (i := 69) (by decide +kernel) rfl, by decide, by decide⟩
theorem bv_J6_bitCount_0f7a4 : Cond.static yJ6_bitCount_0f7a4 ∈ ec_tb := ec_in (i := 656) (by decide +kernel) rfl
theorem bo_J6_bitCount_0f7a4 : bl_J6_bitCount_0f7a4.all (fun q => decide (Cond.constant RJ6 q.1 q.2 ∈ lw_tbl) && goodWord (Cond.constant RJ6 q.1 q.2)) = true := by decide +kernel
theorem bj_J6_bitCount_0f7a4 (l : Launch) : ex_ok l 0 0 bx_J6_bitCount_0f7a4 := ⟨fun _ _ _ _ _ h => (by cases h), ec_cok bo_J6_bitCount_0f7a4, fun _ _ h => (by cases h), fun _ _ _ _ h => (by cases h), fun _ h => (by cases h), fun _ h => (by cases h), fun _ h => (by cases h), fun _ _ h => (by cases h)⟩
theorem bm_J6_bitCount_0f7a4 (l : Launch) : ex_Met l yJ6_bitCount_0f7a4 cJ6_bitCount_0f7a4 1 (some .int) 0 0 (ab_sp ab_hd bc_J6_bitCount_0f7a4) := ab_met (by decide) (by decide) rfl (bj_J6_bitCount_0f7a4 l) bd_J6_bitCount_0f7a4 ab_hcm ab_xk bz_J6_bitCount_0f7a4
theorem bw_X4_leftAtWorst : ec_cw yX4_leftAtWorst cX4_leftAtWorst 5 (some .int) := ⟨ec_in (i := 987) (by decide +kernel) rfl, ec_in (i := 66) (by decide +kernel) rfl, by decide, by decide⟩
theorem bv_X4_leftAtWorst : Cond.instanceMethod yX4_leftAtWorst ∈ ec_tb ∧ Cond.selects yX4_leftAtWorst.cls yX4_leftAtWorst yX4_leftAtWorst ∈ ec_tb := ⟨ec_in (i := 986) (by decide +kernel) rfl, ec_in (i := 21) (by decide +kernel) rfl⟩
theorem bk_X4_leftAtWorst (l : Launch) : ∀ (ix n : Nat) (rc : Option Nat) (sp : ex_S), (be_X4_leftAtWorst ix).map (fun q => (q.1, q.2.1, ab_sp ab_hd q.2.2)) = some (n, rc, sp) → ex_cok l RX4 2 46 ix n rc sp := by
  intro ix n rc sp h
  obtain ⟨l0, h2, rfl⟩ := ab_dmk h
  clear h
  unfold be_X4_leftAtWorst at h2
  split at h2
  · cases h2; exact ec_cV (bm_X4_findParts l) bw_X4_findParts bv_X4_findParts (by decide) (by decide) (Or.inl (ec_in (i := 967) (by decide +kernel) rfl)) (T := TX4) (N := 2) rfl (by decide) (by decide +kernel)
  · cases h2; exact ec_cS (bm_J6_bitCount_0f7a4 l) bw_J6_bitCount_0f7a4 bv_J6_bitCount_0f7a4 (by decide) (by decide) (Or.inl (ec_in (i := 988) (by decide +kernel) rfl)) (by decide +kernel)
  · cases h2
theorem bj_X4_leftAtWorst (l : Launch) : ex_ok l 2 46 bx_X4_leftAtWorst := ⟨ec_fok fo_X4, ec_cok co_X4, so_X4, bk_X4_leftAtWorst l, am_X4, ax_X4 (by decide) (by decide), ao_X4, fun _ _ h => (by cases h)⟩
theorem bm_X4_leftAtWorst (l : Launch) : ex_Met l yX4_leftAtWorst cX4_leftAtWorst 5 (some .int) 2 46 (ab_sp ab_hd bc_X4_leftAtWorst) := ab_met (by decide) (by decide) rfl (bj_X4_leftAtWorst l) bd_X4_leftAtWorst ab_hcm ab_xk bz_X4_leftAtWorst
theorem bw_X4_bestTest : ec_cw yX4_bestTest cX4_bestTest 9 (some .int) := ⟨ec_in (i := 983) (by decide +kernel) rfl, ec_in (i := 66) (by decide +kernel) rfl, by decide, by decide⟩
theorem bv_X4_bestTest : Cond.instanceMethod yX4_bestTest ∈ ec_tb ∧ Cond.selects yX4_bestTest.cls yX4_bestTest yX4_bestTest ∈ ec_tb := ⟨ec_in (i := 981) (by decide +kernel) rfl, ec_in (i := 982) (by decide +kernel) rfl⟩
theorem bk_X4_bestTest (l : Launch) : ∀ (ix n : Nat) (rc : Option Nat) (sp : ex_S), (be_X4_bestTest ix).map (fun q => (q.1, q.2.1, ab_sp ab_hd q.2.2)) = some (n, rc, sp) → ex_cok l RX4 3 70 ix n rc sp := by
  intro ix n rc sp h
  obtain ⟨l0, h2, rfl⟩ := ab_dmk h
  clear h
  unfold be_X4_bestTest at h2
  split at h2
  · cases h2; exact ec_cV (bm_X4_leftAtWorst l) bw_X4_leftAtWorst bv_X4_leftAtWorst (by decide) (by decide) (Or.inl (ec_in (i := 984) (by decide +kernel) rfl)) (T := TX4) (N := 2) rfl (by decide) (by decide +kernel)
  · cases h2; exact ec_cS (bm_J6_bitCount_0f7a4 l) bw_J6_bitCount_0f7a4 bv_J6_bitCount_0f7a4 (by decide) (by decide) (Or.inl (ec_in (i := 988) (by decide +kernel) rfl)) (by decide +kernel)
  · cases h2
theorem bj_X4_bestTest (l : Launch) : ex_ok l 3 70 bx_X4_bestTest := ⟨ec_fok fo_X4, ec_cok co_X4, so_X4, bk_X4_bestTest l, fun _ h => (by cases h), fun _ h => (by cases h), fun _ h => (by cases h), fun _ _ h => (by cases h)⟩
theorem bm_X4_bestTest (l : Launch) : ex_Met l yX4_bestTest cX4_bestTest 9 (some .int) 3 70 (ab_sp ab_hd bc_X4_bestTest) := ab_met (by decide) (by decide) rfl (bj_X4_bestTest l) bd_X4_bestTest ab_hcm ab_xk bz_X4_bestTest
theorem bw_X5_isSensor : ec_cw yX5_isSensor cX5_isSensor 1 (some .boolean) := ⟨ec_in (i := 1006) (by decide +kernel) rfl, ec_in (i := 67) (by decide +kernel) rfl, by decide, by decide⟩
theorem bv_X5_isSensor : Cond.static yX5_isSensor ∈ ec_tb := ec_in (i := 1005) (by decide +kernel) rfl
theorem bj_X5_isSensor (l : Launch) : ex_ok l 0 0 bx_X5_isSensor := ⟨ec_fok fo_X5, ec_cok co_X5, so_X5, fun _ _ _ _ h => (by cases h), fun _ h => (by cases h), fun _ h => (by cases h), fun _ h => (by cases h), fun _ _ h => (by cases h)⟩
theorem bm_X5_isSensor (l : Launch) : ex_Met l yX5_isSensor cX5_isSensor 1 (some .boolean) 0 0 (ab_sp ab_hd bc_X5_isSensor) := ab_met (by decide) (by decide) rfl (bj_X5_isSensor l) bd_X5_isSensor ab_hcm ab_xk bz_X5_isSensor
theorem bw_X5_addReading : ec_cw yX5_addReading cX5_addReading 4 (some .int) := ⟨ec_in (i := 1003) (by decide +kernel) rfl, ec_in (i := 67) (by decide +kernel) rfl, by decide, by decide⟩
theorem bv_X5_addReading : Cond.instanceMethod yX5_addReading ∈ ec_tb ∧ Cond.selects yX5_addReading.cls yX5_addReading yX5_addReading ∈ ec_tb := ⟨ec_in (i := 1001) (by decide +kernel) rfl, ec_in (i := 1002) (by decide +kernel) rfl⟩
theorem bk_X5_addReading (l : Launch) : ∀ (ix n : Nat) (rc : Option Nat) (sp : ex_S), (be_X5_addReading ix).map (fun q => (q.1, q.2.1, ab_sp ab_hd q.2.2)) = some (n, rc, sp) → ex_cok l RX5 1 20 ix n rc sp := by
  intro ix n rc sp h
  obtain ⟨l0, h2, rfl⟩ := ab_dmk h
  clear h
  unfold be_X5_addReading at h2
  split at h2
  · cases h2; exact ec_cS (bm_X5_isSensor l) bw_X5_isSensor bv_X5_isSensor (by decide) (by decide) (Or.inl (ec_in (i := 1004) (by decide +kernel) rfl)) (by decide +kernel)
  · cases h2
theorem bj_X5_addReading (l : Launch) : ex_ok l 1 20 bx_X5_addReading := ⟨ec_fok fo_X5, ec_cok co_X5, so_X5, bk_X5_addReading l, fun _ h => (by cases h), fun _ h => (by cases h), fun _ h => (by cases h), fun _ _ h => (by cases h)⟩
theorem bm_X5_addReading (l : Launch) : ex_Met l yX5_addReading cX5_addReading 4 (some .int) 1 20 (ab_sp ab_hd bc_X5_addReading) := ab_met (by decide) (by decide) rfl (bj_X5_addReading l) bd_X5_addReading ab_hcm ab_xk bz_X5_addReading
theorem bw_X5_addCalibration : ec_cw yX5_addCalibration cX5_addCalibration 4 (some .int) := ⟨ec_in (i := 1016) (by decide +kernel) rfl, ec_in (i := 67) (by decide +kernel) rfl, by decide, by decide⟩
theorem bv_X5_addCalibration : Cond.instanceMethod yX5_addCalibration ∈ ec_tb ∧ Cond.selects yX5_addCalibration.cls yX5_addCalibration yX5_addCalibration ∈ ec_tb := ⟨ec_in (i := 1014) (by decide +kernel) rfl, ec_in (i := 1015) (by decide +kernel) rfl⟩
theorem bk_X5_addCalibration (l : Launch) : ∀ (ix n : Nat) (rc : Option Nat) (sp : ex_S), (be_X5_addCalibration ix).map (fun q => (q.1, q.2.1, ab_sp ab_hd q.2.2)) = some (n, rc, sp) → ex_cok l RX5 1 20 ix n rc sp := by
  intro ix n rc sp h
  obtain ⟨l0, h2, rfl⟩ := ab_dmk h
  clear h
  unfold be_X5_addCalibration at h2
  split at h2
  · cases h2; exact ec_cS (bm_X5_isSensor l) bw_X5_isSensor bv_X5_isSensor (by decide) (by decide) (Or.inl (ec_in (i := 1004) (by decide +kernel) rfl)) (by decide +kernel)
  · cases h2
theorem bj_X5_addCalibration (l : Launch) : ex_ok l 1 20 bx_X5_addCalibration := ⟨ec_fok fo_X5, ec_cok co_X5, so_X5, bk_X5_addCalibration l, fun _ h => (by cases h), fun _ h => (by cases h), fun _ h => (by cases h), fun _ _ h => (by cases h)⟩
theorem bm_X5_addCalibration (l : Launch) : ex_Met l yX5_addCalibration cX5_addCalibration 4 (some .int) 1 20 (ab_sp ab_hd bc_X5_addCalibration) := ab_met (by decide) (by decide) rfl (bj_X5_addCalibration l) bd_X5_addCalibration ab_hcm ab_xk bz_X5_addCalibration
theorem bw_X5_setDelay : ec_cw yX5_setDelay cX5_setDelay 3 (some .int) := ⟨ec_in (i := 1040) (by decide +kernel) rfl, ec_in (i := 67) (by decide +kernel) rfl, by decide, by decide⟩
theorem bv_X5_setDelay : Cond.instanceMethod yX5_setDelay ∈ ec_tb ∧ Cond.selects yX5_setDelay.cls yX5_setDelay yX5_setDelay ∈ ec_tb := ⟨ec_in (i := 1038) (by decide +kernel) rfl, ec_in (i := 1039) (by decide +kernel) rfl⟩
theorem bj_X5_setDelay (l : Launch) : ex_ok l 0 0 bx_X5_setDelay := ⟨ec_fok fo_X5, ec_cok co_X5, so_X5, fun _ _ _ _ h => (by cases h), fun _ h => (by cases h), fun _ h => (by cases h), fun _ h => (by cases h), fun _ _ h => (by cases h)⟩
theorem bm_X5_setDelay (l : Launch) : ex_Met l yX5_setDelay cX5_setDelay 3 (some .int) 0 0 (ab_sp ab_hd bc_X5_setDelay) := ab_met (by decide) (by decide) rfl (bj_X5_setDelay l) bd_X5_setDelay ab_hcm ab_xk bz_X5_setDelay
theorem bw_X5_latestHeard : ec_cw yX5_latestHeard cX5_latestHeard 4 (some .int) := ⟨ec_in (i := 1048) (by decide +kernel) rfl, ec_in (i := 67) (by decide +kernel) rfl, by decide, by decide⟩
theorem bv_X5_latestHeard : Cond.instanceMethod yX5_latestHeard ∈ ec_tb ∧ Cond.selects yX5_latestHeard.cls yX5_latestHeard yX5_latestHeard ∈ ec_tb := ⟨ec_in (i := 1046) (by decide +kernel) rfl, ec_in (i := 1047) (by decide +kernel) rfl⟩
theorem bk_X5_latestHeard (l : Launch) : ∀ (ix n : Nat) (rc : Option Nat) (sp : ex_S), (be_X5_latestHeard ix).map (fun q => (q.1, q.2.1, ab_sp ab_hd q.2.2)) = some (n, rc, sp) → ex_cok l RX5 1 20 ix n rc sp := by
  intro ix n rc sp h
  obtain ⟨l0, h2, rfl⟩ := ab_dmk h
  clear h
  unfold be_X5_latestHeard at h2
  split at h2
  · cases h2; exact ec_cS (bm_X5_isSensor l) bw_X5_isSensor bv_X5_isSensor (by decide) (by decide) (Or.inl (ec_in (i := 1004) (by decide +kernel) rfl)) (by decide +kernel)
  · cases h2
theorem bj_X5_latestHeard (l : Launch) : ex_ok l 1 20 bx_X5_latestHeard := ⟨ec_fok fo_X5, ec_cok co_X5, so_X5, bk_X5_latestHeard l, fun _ h => (by cases h), fun _ h => (by cases h), fun _ h => (by cases h), fun _ _ h => (by cases h)⟩
theorem bm_X5_latestHeard (l : Launch) : ex_Met l yX5_latestHeard cX5_latestHeard 4 (some .int) 1 20 (ab_sp ab_hd bc_X5_latestHeard) := ab_met (by decide) (by decide) rfl (bj_X5_latestHeard l) bd_X5_latestHeard ab_hcm ab_xk bz_X5_latestHeard
theorem bw_X5_between : ec_cw yX5_between cX5_between 6 (some .int) := ⟨ec_in (i := 1032) (by decide +kernel) rfl, ec_in (i := 67) (by decide +kernel) rfl, by decide, by decide⟩
theorem bv_X5_between : Cond.instanceMethod yX5_between ∈ ec_tb ∧ Cond.selects yX5_between.cls yX5_between yX5_between ∈ ec_tb := ⟨ec_in (i := 1031) (by decide +kernel) rfl, ec_in (i := 23) (by decide +kernel) rfl⟩
theorem bj_X5_between (l : Launch) : ex_ok l 0 0 bx_X5_between := ⟨ec_fok fo_X5, ec_cok co_X5, so_X5, fun _ _ _ _ h => (by cases h), fun _ h => (by cases h), fun _ h => (by cases h), fun _ h => (by cases h), fun _ _ h => (by cases h)⟩
theorem bm_X5_between (l : Launch) : ex_Met l yX5_between cX5_between 6 (some .int) 0 0 (ab_sp ab_hd bc_X5_between) := ab_met (by decide) (by decide) rfl (bj_X5_between l) bd_X5_between ab_hcm ab_xk bz_X5_between
theorem bw_X5_tooMuch : ec_cw yX5_tooMuch cX5_tooMuch 6 (some .int) := ⟨ec_in (i := 1028) (by decide +kernel) rfl, ec_in (i := 67) (by decide +kernel) rfl, by decide, by decide⟩
theorem bv_X5_tooMuch : Cond.instanceMethod yX5_tooMuch ∈ ec_tb ∧ Cond.selects yX5_tooMuch.cls yX5_tooMuch yX5_tooMuch ∈ ec_tb := ⟨ec_in (i := 1027) (by decide +kernel) rfl, ec_in (i := 22) (by decide +kernel) rfl⟩
theorem bk_X5_tooMuch (l : Launch) : ∀ (ix n : Nat) (rc : Option Nat) (sp : ex_S), (be_X5_tooMuch ix).map (fun q => (q.1, q.2.1, ab_sp ab_hd q.2.2)) = some (n, rc, sp) → ex_cok l RX5 1 25 ix n rc sp := by
  intro ix n rc sp h
  obtain ⟨l0, h2, rfl⟩ := ab_dmk h
  clear h
  unfold be_X5_tooMuch at h2
  split at h2
  · cases h2; exact ec_cV (bm_X5_between l) bw_X5_between bv_X5_between (by decide) (by decide) (Or.inl (ec_in (i := 1029) (by decide +kernel) rfl)) (T := TX5) (N := 10) rfl (by decide) (by decide +kernel)
  · cases h2
theorem bj_X5_tooMuch (l : Launch) : ex_ok l 1 25 bx_X5_tooMuch := ⟨ec_fok fo_X5, ec_cok co_X5, so_X5, bk_X5_tooMuch l, fun _ h => (by cases h), fun _ h => (by cases h), fun _ h => (by cases h), fun _ _ h => (by cases h)⟩
theorem bm_X5_tooMuch (l : Launch) : ex_Met l yX5_tooMuch cX5_tooMuch 6 (some .int) 1 25 (ab_sp ab_hd bc_X5_tooMuch) := ab_met (by decide) (by decide) rfl (bj_X5_tooMuch l) bd_X5_tooMuch ab_hcm ab_xk bz_X5_tooMuch
theorem bw_X5_workedBack : ec_cw yX5_workedBack cX5_workedBack 2 (some .int) := ⟨ec_in (i := 1024) (by decide +kernel) rfl, ec_in (i := 67) (by decide +kernel) rfl, by decide, by decide⟩
theorem bv_X5_workedBack : Cond.instanceMethod yX5_workedBack ∈ ec_tb ∧ Cond.selects yX5_workedBack.cls yX5_workedBack yX5_workedBack ∈ ec_tb := ⟨ec_in (i := 1022) (by decide +kernel) rfl, ec_in (i := 1023) (by decide +kernel) rfl⟩
theorem bk_X5_workedBack (l : Launch) : ∀ (ix n : Nat) (rc : Option Nat) (sp : ex_S), (be_X5_workedBack ix).map (fun q => (q.1, q.2.1, ab_sp ab_hd q.2.2)) = some (n, rc, sp) → ex_cok l RX5 2 50 ix n rc sp := by
  intro ix n rc sp h
  obtain ⟨l0, h2, rfl⟩ := ab_dmk h
  clear h
  unfold be_X5_workedBack at h2
  split at h2
  · cases h2; exact ec_cV (bm_X5_tooMuch l) bw_X5_tooMuch bv_X5_tooMuch (by decide) (by decide) (Or.inl (ec_in (i := 1025) (by decide +kernel) rfl)) (T := TX5) (N := 10) rfl (by decide) (by decide +kernel)
  · cases h2
theorem bj_X5_workedBack (l : Launch) : ex_ok l 2 50 bx_X5_workedBack := ⟨ec_fok fo_X5, ec_cok co_X5, so_X5, bk_X5_workedBack l, fun _ h => (by cases h), fun _ h => (by cases h), fun _ h => (by cases h), fun _ _ h => (by cases h)⟩
theorem bm_X5_workedBack (l : Launch) : ex_Met l yX5_workedBack cX5_workedBack 2 (some .int) 2 50 (ab_sp ab_hd bc_X5_workedBack) := ab_met (by decide) (by decide) rfl (bj_X5_workedBack l) bd_X5_workedBack ab_hcm ab_xk bz_X5_workedBack
theorem bw_X6_becomeLike : ec_cw yX6_becomeLike cX6_becomeLike 2 none := ⟨ec_in (i := 890) (by decide +kernel) rfl, ec_in (i := 63) (by decide +kernel) rfl, by decide, by decide⟩
theorem bv_X6_becomeLike : Cond.instanceMethod yX6_becomeLike ∈ ec_tb ∧ Cond.selects yX6_becomeLike.cls yX6_becomeLike yX6_becomeLike ∈ ec_tb := ⟨ec_in (i := 888) (by decide +kernel) rfl, ec_in (i := 889) (by decide +kernel) rfl⟩
theorem bk_X6_becomeLike (l : Launch) : ∀ (ix n : Nat) (rc : Option Nat) (sp : ex_S), (be_X6_becomeLike ix).map (fun q => (q.1, q.2.1, ab_sp ab_hd q.2.2)) = some (n, rc, sp) → ex_cok l RX6 2 47 ix n rc sp := by
  intro ix n rc sp h
  obtain ⟨l0, h2, rfl⟩ := ab_dmk h
  clear h
  unfold be_X6_becomeLike at h2
  split at h2
  · cases h2; exact ec_cS (bm_X9_copy l) bw_X9_copy bv_X9_copy (by decide) (by decide) (Or.inr ⟨"TinStation", by decide +kernel⟩) (by decide +kernel)
  · cases h2; exact ec_cS (bm_X9_copyFlags l) bw_X9_copyFlags bv_X9_copyFlags (by decide) (by decide) (Or.inr ⟨"TinStation", by decide +kernel⟩) (by decide +kernel)
  · cases h2
theorem bj_X6_becomeLike (l : Launch) : ex_ok l 2 47 bx_X6_becomeLike := ⟨ec_fok fo_X6, ec_cok co_X6, so_X6, bk_X6_becomeLike l, fun _ h => (by cases h), fun _ h => (by cases h), fun _ h => (by cases h), fun _ _ h => (by cases h)⟩
theorem bm_X6_becomeLike (l : Launch) : ex_Met l yX6_becomeLike cX6_becomeLike 2 none 2 47 (ab_sp ab_hd bc_X6_becomeLike) := ab_met (by decide) (by decide) rfl (bj_X6_becomeLike l) bd_X6_becomeLike ab_hcm ab_xk bz_X6_becomeLike
theorem bw_X6_isKind : ec_cw yX6_isKind cX6_isKind 1 (some .boolean) := ⟨ec_in (i := 562) (by decide +kernel) rfl, ec_in (i := 63) (by decide +kernel) rfl, by decide, by decide⟩
theorem bv_X6_isKind : Cond.static yX6_isKind ∈ ec_tb := ec_in (i := 561) (by decide +kernel) rfl
theorem bj_X6_isKind (l : Launch) : ex_ok l 0 0 bx_X6_isKind := ⟨ec_fok fo_X6, ec_cok co_X6, so_X6, fun _ _ _ _ h => (by cases h), fun _ h => (by cases h), fun _ h => (by cases h), fun _ h => (by cases h), fun _ _ h => (by cases h)⟩
theorem bm_X6_isKind (l : Launch) : ex_Met l yX6_isKind cX6_isKind 1 (some .boolean) 0 0 (ab_sp ab_hd bc_X6_isKind) := ab_met (by decide) (by decide) rfl (bj_X6_isKind l) bd_X6_isKind ab_hcm ab_xk bz_X6_isKind
theorem bw_X6_isUse : ec_cw yX6_isUse cX6_isUse 1 (some .boolean) := ⟨ec_in (i := 565) (by decide +kernel) rfl, ec_in (i := 63) (by decide +kernel) rfl, by decide, by decide⟩
theorem bv_X6_isUse : Cond.static yX6_isUse ∈ ec_tb := ec_in (i := 564) (by decide +kernel) rfl
theorem bj_X6_isUse (l : Launch) : ex_ok l 0 0 bx_X6_isUse := ⟨ec_fok fo_X6, ec_cok co_X6, so_X6, fun _ _ _ _ h => (by cases h), fun _ h => (by cases h), fun _ h => (by cases h), fun _ h => (by cases h), fun _ _ h => (by cases h)⟩
theorem bm_X6_isUse (l : Launch) : ex_Met l yX6_isUse cX6_isUse 1 (some .boolean) 0 0 (ab_sp ab_hd bc_X6_isUse) := ab_met (by decide) (by decide) rfl (bj_X6_isUse l) bd_X6_isUse ab_hcm ab_xk bz_X6_isUse
theorem bw_X6_addMachine : ec_cw yX6_addMachine cX6_addMachine 6 (some .int) := ⟨ec_in (i := 559) (by decide +kernel) rfl, ec_in (i := 63) (by decide +kernel) rfl, by decide, by decide⟩
theorem bv_X6_addMachine : Cond.instanceMethod yX6_addMachine ∈ ec_tb ∧ Cond.selects yX6_addMachine.cls yX6_addMachine yX6_addMachine ∈ ec_tb := ⟨ec_in (i := 557) (by decide +kernel) rfl, ec_in (i := 558) (by decide +kernel) rfl⟩
theorem bk_X6_addMachine (l : Launch) : ∀ (ix n : Nat) (rc : Option Nat) (sp : ex_S), (be_X6_addMachine ix).map (fun q => (q.1, q.2.1, ab_sp ab_hd q.2.2)) = some (n, rc, sp) → ex_cok l RX6 1 20 ix n rc sp := by
  intro ix n rc sp h
  obtain ⟨l0, h2, rfl⟩ := ab_dmk h
  clear h
  unfold be_X6_addMachine at h2
  split at h2
  · cases h2; exact ec_cS (bm_X6_isKind l) bw_X6_isKind bv_X6_isKind (by decide) (by decide) (Or.inl (ec_in (i := 560) (by decide +kernel) rfl)) (by decide +kernel)
  · cases h2; exact ec_cS (bm_X6_isUse l) bw_X6_isUse bv_X6_isUse (by decide) (by decide) (Or.inl (ec_in (i := 563) (by decide +kernel) rfl)) (by decide +kernel)
  · cases h2
theorem bj_X6_addMachine (l : Launch) : ex_ok l 1 20 bx_X6_addMachine := ⟨ec_fok fo_X6, ec_cok co_X6, so_X6, bk_X6_addMachine l, fun _ h => (by cases h), fun _ h => (by cases h), fun _ h => (by cases h), fun _ _ h => (by cases h)⟩
theorem bm_X6_addMachine (l : Launch) : ex_Met l yX6_addMachine cX6_addMachine 6 (some .int) 1 20 (ab_sp ab_hd bc_X6_addMachine) := ab_met (by decide) (by decide) rfl (bj_X6_addMachine l) bd_X6_addMachine ab_hcm ab_xk bz_X6_addMachine
theorem bw_X6_isUnder : ec_cw yX6_isUnder cX6_isUnder 4 (some .boolean) := ⟨ec_in (i := 583) (by decide +kernel) rfl, ec_in (i := 63) (by decide +kernel) rfl, by decide, by decide⟩
theorem bv_X6_isUnder : Cond.static yX6_isUnder ∈ ec_tb := ec_in (i := 582) (by decide +kernel) rfl
theorem bk_X6_isUnder (l : Launch) : ∀ (ix n : Nat) (rc : Option Nat) (sp : ex_S), (be_X6_isUnder ix).map (fun q => (q.1, q.2.1, ab_sp ab_hd q.2.2)) = some (n, rc, sp) → ex_cok l RX6 1 20 ix n rc sp := by
  intro ix n rc sp h
  obtain ⟨l0, h2, rfl⟩ := ab_dmk h
  clear h
  unfold be_X6_isUnder at h2
  split at h2
  · cases h2; exact ec_cS (bm_X6_isKind l) bw_X6_isKind bv_X6_isKind (by decide) (by decide) (Or.inl (ec_in (i := 560) (by decide +kernel) rfl)) (by decide +kernel)
  · cases h2
theorem bj_X6_isUnder (l : Launch) : ex_ok l 1 20 bx_X6_isUnder := ⟨ec_fok fo_X6, ec_cok co_X6, so_X6, bk_X6_isUnder l, fun _ h => (by cases h), fun _ h => (by cases h), fun _ h => (by cases h), fun _ _ h => (by cases h)⟩
theorem bm_X6_isUnder (l : Launch) : ex_Met l yX6_isUnder cX6_isUnder 4 (some .boolean) 1 20 (ab_sp ab_hd bc_X6_isUnder) := ab_met (by decide) (by decide) rfl (bj_X6_isUnder l) bd_X6_isUnder ab_hcm ab_xk bz_X6_isUnder
theorem bw_X6_rateAs : ec_cw yX6_rateAs cX6_rateAs 3 (some .int) := ⟨ec_in (i := 576) (by decide +kernel) rfl, ec_in (i := 63) (by decide +kernel) rfl, by decide, by decide⟩
theorem bv_X6_rateAs : Cond.instanceMethod yX6_rateAs ∈ ec_tb ∧ Cond.selects yX6_rateAs.cls yX6_rateAs yX6_rateAs ∈ ec_tb := ⟨ec_in (i := 574) (by decide +kernel) rfl, ec_in (i := 575) (by decide +kernel) rfl⟩
theorem bk_X6_rateAs (l : Launch) : ∀ (ix n : Nat) (rc : Option Nat) (sp : ex_S), (be_X6_rateAs ix).map (fun q => (q.1, q.2.1, ab_sp ab_hd q.2.2)) = some (n, rc, sp) → ex_cok l RX6 2 43 ix n rc sp := by
  intro ix n rc sp h
  obtain ⟨l0, h2, rfl⟩ := ab_dmk h
  clear h
  unfold be_X6_rateAs at h2
  split at h2
  · cases h2; exact ec_cV (bm_X6_has l) bw_X6_has bv_X6_has (by decide) (by decide) (Or.inl (ec_in (i := 577) (by decide +kernel) rfl)) (T := TX6) (N := 15) rfl (by decide) (by decide +kernel)
  · cases h2; exact ec_cS (bm_X6_isKind l) bw_X6_isKind bv_X6_isKind (by decide) (by decide) (Or.inl (ec_in (i := 560) (by decide +kernel) rfl)) (by decide +kernel)
  · cases h2; exact ec_cS (bm_X6_isUnder l) bw_X6_isUnder bv_X6_isUnder (by decide) (by decide) (Or.inl (ec_in (i := 581) (by decide +kernel) rfl)) (by decide +kernel)
  · cases h2
theorem bj_X6_rateAs (l : Launch) : ex_ok l 2 43 bx_X6_rateAs := ⟨ec_fok fo_X6, ec_cok co_X6, so_X6, bk_X6_rateAs l, fun _ h => (by cases h), fun _ h => (by cases h), fun _ h => (by cases h), fun _ _ h => (by cases h)⟩
theorem bm_X6_rateAs (l : Launch) : ex_Met l yX6_rateAs cX6_rateAs 3 (some .int) 2 43 (ab_sp ab_hd bc_X6_rateAs) := ab_met (by decide) (by decide) rfl (bj_X6_rateAs l) bd_X6_rateAs ab_hcm ab_xk bz_X6_rateAs
theorem bw_X6_setOn : ec_cw yX6_setOn cX6_setOn 4 (some .int) := ⟨ec_in (i := 594) (by decide +kernel) rfl, ec_in (i := 63) (by decide +kernel) rfl, by decide, by decide⟩
theorem bv_X6_setOn : Cond.instanceMethod yX6_setOn ∈ ec_tb ∧ Cond.selects yX6_setOn.cls yX6_setOn yX6_setOn ∈ ec_tb := ⟨ec_in (i := 592) (by decide +kernel) rfl, ec_in (i := 593) (by decide +kernel) rfl⟩
theorem bk_X6_setOn (l : Launch) : ∀ (ix n : Nat) (rc : Option Nat) (sp : ex_S), (be_X6_setOn ix).map (fun q => (q.1, q.2.1, ab_sp ab_hd q.2.2)) = some (n, rc, sp) → ex_cok l RX6 1 21 ix n rc sp := by
  intro ix n rc sp h
  obtain ⟨l0, h2, rfl⟩ := ab_dmk h
  clear h
  unfold be_X6_setOn at h2
  split at h2
  · cases h2; exact ec_cV (bm_X6_has l) bw_X6_has bv_X6_has (by decide) (by decide) (Or.inl (ec_in (i := 577) (by decide +kernel) rfl)) (T := TX6) (N := 15) rfl (by decide) (by decide +kernel)
  · cases h2; exact ec_cS (bm_X9_isSwitch l) bw_X9_isSwitch bv_X9_isSwitch (by decide) (by decide) (Or.inr ⟨"TinStation", by decide +kernel⟩) (by decide +kernel)
  · cases h2; exact ec_cS (bm_X9_one l) bw_X9_one bv_X9_one (by decide) (by decide) (Or.inr ⟨"TinStation", by decide +kernel⟩) (by decide +kernel)
  · cases h2
theorem bj_X6_setOn (l : Launch) : ex_ok l 1 21 bx_X6_setOn := ⟨ec_fok fo_X6, ec_cok co_X6, so_X6, bk_X6_setOn l, fun _ h => (by cases h), fun _ h => (by cases h), fun _ h => (by cases h), fun _ _ h => (by cases h)⟩
theorem bm_X6_setOn (l : Launch) : ex_Met l yX6_setOn cX6_setOn 4 (some .int) 1 21 (ab_sp ab_hd bc_X6_setOn) := ab_met (by decide) (by decide) rfl (bj_X6_setOn l) bd_X6_setOn ab_hcm ab_xk bz_X6_setOn
theorem bw_X6_tellOf : ec_cw yX6_tellOf cX6_tellOf 3 (some .int) := ⟨ec_in (i := 604) (by decide +kernel) rfl, ec_in (i := 63) (by decide +kernel) rfl, by decide, by decide⟩
theorem bv_X6_tellOf : Cond.instanceMethod yX6_tellOf ∈ ec_tb ∧ Cond.selects yX6_tellOf.cls yX6_tellOf yX6_tellOf ∈ ec_tb := ⟨ec_in (i := 602) (by decide +kernel) rfl, ec_in (i := 603) (by decide +kernel) rfl⟩
theorem bk_X6_tellOf (l : Launch) : ∀ (ix n : Nat) (rc : Option Nat) (sp : ex_S), (be_X6_tellOf ix).map (fun q => (q.1, q.2.1, ab_sp ab_hd q.2.2)) = some (n, rc, sp) → ex_cok l RX6 1 21 ix n rc sp := by
  intro ix n rc sp h
  obtain ⟨l0, h2, rfl⟩ := ab_dmk h
  clear h
  unfold be_X6_tellOf at h2
  split at h2
  · cases h2; exact ec_cV (bm_X6_has l) bw_X6_has bv_X6_has (by decide) (by decide) (Or.inl (ec_in (i := 577) (by decide +kernel) rfl)) (T := TX6) (N := 15) rfl (by decide) (by decide +kernel)
  · cases h2; exact ec_cS (bm_X9_one l) bw_X9_one bv_X9_one (by decide) (by decide) (Or.inr ⟨"TinStation", by decide +kernel⟩) (by decide +kernel)
  · cases h2
theorem bj_X6_tellOf (l : Launch) : ex_ok l 1 21 bx_X6_tellOf := ⟨ec_fok fo_X6, ec_cok co_X6, so_X6, bk_X6_tellOf l, fun _ h => (by cases h), fun _ h => (by cases h), fun _ h => (by cases h), fun _ _ h => (by cases h)⟩
theorem bm_X6_tellOf (l : Launch) : ex_Met l yX6_tellOf cX6_tellOf 3 (some .int) 1 21 (ab_sp ab_hd bc_X6_tellOf) := ab_met (by decide) (by decide) rfl (bj_X6_tellOf l) bd_X6_tellOf ab_hcm ab_xk bz_X6_tellOf
theorem bw_X6_setSpares : ec_cw yX6_setSpares cX6_setSpares 4 (some .int) := ⟨ec_in (i := 612) (by decide +kernel) rfl, ec_in (i := 63) (by decide +kernel) rfl, by decide, by decide⟩
theorem bv_X6_setSpares : Cond.instanceMethod yX6_setSpares ∈ ec_tb ∧ Cond.selects yX6_setSpares.cls yX6_setSpares yX6_setSpares ∈ ec_tb := ⟨ec_in (i := 610) (by decide +kernel) rfl, ec_in (i := 611) (by decide +kernel) rfl⟩
theorem bk_X6_setSpares (l : Launch) : ∀ (ix n : Nat) (rc : Option Nat) (sp : ex_S), (be_X6_setSpares ix).map (fun q => (q.1, q.2.1, ab_sp ab_hd q.2.2)) = some (n, rc, sp) → ex_cok l RX6 1 20 ix n rc sp := by
  intro ix n rc sp h
  obtain ⟨l0, h2, rfl⟩ := ab_dmk h
  clear h
  unfold be_X6_setSpares at h2
  split at h2
  · cases h2; exact ec_cS (bm_X6_isKind l) bw_X6_isKind bv_X6_isKind (by decide) (by decide) (Or.inl (ec_in (i := 560) (by decide +kernel) rfl)) (by decide +kernel)
  · cases h2
theorem bj_X6_setSpares (l : Launch) : ex_ok l 1 20 bx_X6_setSpares := ⟨ec_fok fo_X6, ec_cok co_X6, so_X6, bk_X6_setSpares l, fun _ h => (by cases h), fun _ h => (by cases h), fun _ h => (by cases h), fun _ _ h => (by cases h)⟩
theorem bm_X6_setSpares (l : Launch) : ex_Met l yX6_setSpares cX6_setSpares 4 (some .int) 1 20 (ab_sp ab_hd bc_X6_setSpares) := ab_met (by decide) (by decide) rfl (bj_X6_setSpares l) bd_X6_setSpares ab_hcm ab_xk bz_X6_setSpares
theorem bw_X6_setSun : ec_cw yX6_setSun cX6_setSun 3 (some .int) := ⟨ec_in (i := 668) (by decide +kernel) rfl, ec_in (i := 63) (by decide +kernel) rfl, by decide, by decide⟩
theorem bv_X6_setSun : Cond.instanceMethod yX6_setSun ∈ ec_tb ∧ Cond.selects yX6_setSun.cls yX6_setSun yX6_setSun ∈ ec_tb := ⟨ec_in (i := 666) (by decide +kernel) rfl, ec_in (i := 667) (by decide +kernel) rfl⟩
theorem bj_X6_setSun (l : Launch) : ex_ok l 1 21 bx_X6_setSun := ⟨ec_fok fo_X6, ec_cok co_X6, so_X6, fun _ _ _ _ h => (by cases h), am_X6 (by decide) (by decide), ax_X6, ao_X6, fun _ _ h => (by cases h)⟩
theorem bm_X6_setSun (l : Launch) : ex_Met l yX6_setSun cX6_setSun 3 (some .int) 1 21 (ab_sp ab_hd bc_X6_setSun) := ab_met (by decide) (by decide) rfl (bj_X6_setSun l) bd_X6_setSun ab_hcm ab_xk bz_X6_setSun
theorem bw_X6_setBattery : ec_cw yX6_setBattery cX6_setBattery 3 (some .int) := ⟨ec_in (i := 679) (by decide +kernel) rfl, ec_in (i := 63) (by decide +kernel) rfl, by decide, by decide⟩
theorem bv_X6_setBattery : Cond.instanceMethod yX6_setBattery ∈ ec_tb ∧ Cond.selects yX6_setBattery.cls yX6_setBattery yX6_setBattery ∈ ec_tb := ⟨ec_in (i := 677) (by decide +kernel) rfl, ec_in (i := 678) (by decide +kernel) rfl⟩
theorem bj_X6_setBattery (l : Launch) : ex_ok l 0 0 bx_X6_setBattery := ⟨ec_fok fo_X6, ec_cok co_X6, so_X6, fun _ _ _ _ h => (by cases h), fun _ h => (by cases h), fun _ h => (by cases h), fun _ h => (by cases h), fun _ _ h => (by cases h)⟩
theorem bm_X6_setBattery (l : Launch) : ex_Met l yX6_setBattery cX6_setBattery 3 (some .int) 0 0 (ab_sp ab_hd bc_X6_setBattery) := ab_met (by decide) (by decide) rfl (bj_X6_setBattery l) bd_X6_setBattery ab_hcm ab_xk bz_X6_setBattery
theorem bw_X6_isReady : ec_cw yX6_isReady cX6_isReady 2 (some .boolean) := ⟨ec_in (i := 650) (by decide +kernel) rfl, ec_in (i := 63) (by decide +kernel) rfl, by decide, by decide⟩
theorem bv_X6_isReady : Cond.instanceMethod yX6_isReady ∈ ec_tb ∧ Cond.selects yX6_isReady.cls yX6_isReady yX6_isReady ∈ ec_tb := ⟨ec_in (i := 649) (by decide +kernel) rfl, ec_in (i := 3) (by decide +kernel) rfl⟩
theorem bj_X6_isReady (l : Launch) : ex_ok l 0 0 bx_X6_isReady := ⟨ec_fok fo_X6, ec_cok co_X6, so_X6, fun _ _ _ _ h => (by cases h), fun _ h => (by cases h), fun _ h => (by cases h), fun _ h => (by cases h), fun _ _ h => (by cases h)⟩
theorem bm_X6_isReady (l : Launch) : ex_Met l yX6_isReady cX6_isReady 2 (some .boolean) 0 0 (ab_sp ab_hd bc_X6_isReady) := ab_met (by decide) (by decide) rfl (bj_X6_isReady l) bd_X6_isReady ab_hcm ab_xk bz_X6_isReady
theorem bw_X6_sharePower : ec_cw yX6_sharePower cX6_sharePower 5 none := ⟨ec_in (i := 764) (by decide +kernel) rfl, ec_in (i := 63) (by decide +kernel) rfl, by decide, by decide⟩
theorem bv_X6_sharePower : Cond.instanceMethod yX6_sharePower ∈ ec_tb ∧ Cond.selects yX6_sharePower.cls yX6_sharePower yX6_sharePower ∈ ec_tb := ⟨ec_in (i := 762) (by decide +kernel) rfl, ec_in (i := 763) (by decide +kernel) rfl⟩
theorem bk_X6_sharePower (l : Launch) : ∀ (ix n : Nat) (rc : Option Nat) (sp : ex_S), (be_X6_sharePower ix).map (fun q => (q.1, q.2.1, ab_sp ab_hd q.2.2)) = some (n, rc, sp) → ex_cok l RX6 1 21 ix n rc sp := by
  intro ix n rc sp h
  obtain ⟨l0, h2, rfl⟩ := ab_dmk h
  clear h
  unfold be_X6_sharePower at h2
  split at h2
  · cases h2; exact ec_cV (bm_X6_isReady l) bw_X6_isReady bv_X6_isReady (by decide) (by decide) (Or.inl (ec_in (i := 647) (by decide +kernel) rfl)) (T := TX6) (N := 15) rfl (by decide) (by decide +kernel)
  · cases h2
theorem bj_X6_sharePower (l : Launch) : ex_ok l 1 21 bx_X6_sharePower := ⟨ec_fok fo_X6, ec_cok co_X6, so_X6, bk_X6_sharePower l, am_X6 (by decide) (by decide), ax_X6, ao_X6, fun _ _ h => (by cases h)⟩
theorem bm_X6_sharePower (l : Launch) : ex_Met l yX6_sharePower cX6_sharePower 5 none 1 21 (ab_sp ab_hd bc_X6_sharePower) := ab_met (by decide) (by decide) rfl (bj_X6_sharePower l) bd_X6_sharePower ab_hcm ab_xk bz_X6_sharePower
theorem bw_X6_split : ec_cw yX6_split cX6_split 5 none := ⟨ec_in (i := 785) (by decide +kernel) rfl, ec_in (i := 63) (by decide +kernel) rfl, by decide, by decide⟩
theorem bv_X6_split : Cond.instanceMethod yX6_split ∈ ec_tb ∧ Cond.selects yX6_split.cls yX6_split yX6_split ∈ ec_tb := ⟨ec_in (i := 784) (by decide +kernel) rfl, ec_in (i := 12) (by decide +kernel) rfl⟩
theorem bk_X6_split (l : Launch) : ∀ (ix n : Nat) (rc : Option Nat) (sp : ex_S), (be_X6_split ix).map (fun q => (q.1, q.2.1, ab_sp ab_hd q.2.2)) = some (n, rc, sp) → ex_cok l RX6 2 44 ix n rc sp := by
  intro ix n rc sp h
  obtain ⟨l0, h2, rfl⟩ := ab_dmk h
  clear h
  unfold be_X6_split at h2
  split at h2
  · cases h2; exact ec_cV (bm_X0_draw l) bw_X0_draw bv_X0_draw (by decide) (by decide) (Or.inl (ec_in (i := 786) (by decide +kernel) rfl)) (T := TX0) (N := 8) rfl (by decide) (by decide +kernel)
  · cases h2; exact ec_cV (bm_X0_give l) bw_X0_give bv_X0_give (by decide) (by decide) (Or.inl (ec_in (i := 790) (by decide +kernel) rfl)) (T := TX0) (N := 8) rfl (by decide) (by decide +kernel)
  · cases h2; exact ec_cV (bm_X0_fill l) bw_X0_fill bv_X0_fill (by decide) (by decide) (Or.inl (ec_in (i := 778) (by decide +kernel) rfl)) (T := TX0) (N := 8) rfl (by decide) (by decide +kernel)
  · cases h2
theorem bj_X6_split (l : Launch) : ex_ok l 2 44 bx_X6_split := ⟨ec_fok fo_X6, ec_cok co_X6, so_X6, bk_X6_split l, fun _ h => (by cases h), fun _ h => (by cases h), fun _ h => (by cases h), fun _ _ h => (by cases h)⟩
theorem bm_X6_split (l : Launch) : ex_Met l yX6_split cX6_split 5 none 2 44 (ab_sp ab_hd bc_X6_split) := ab_met (by decide) (by decide) rfl (bj_X6_split l) bd_X6_split ab_hcm ab_xk bz_X6_split
theorem bw_X6_distil : ec_cw yX6_distil cX6_distil 5 none := ⟨ec_in (i := 797) (by decide +kernel) rfl, ec_in (i := 63) (by decide +kernel) rfl, by decide, by decide⟩
theorem bv_X6_distil : Cond.instanceMethod yX6_distil ∈ ec_tb ∧ Cond.selects yX6_distil.cls yX6_distil yX6_distil ∈ ec_tb := ⟨ec_in (i := 796) (by decide +kernel) rfl, ec_in (i := 13) (by decide +kernel) rfl⟩
theorem bk_X6_distil (l : Launch) : ∀ (ix n : Nat) (rc : Option Nat) (sp : ex_S), (be_X6_distil ix).map (fun q => (q.1, q.2.1, ab_sp ab_hd q.2.2)) = some (n, rc, sp) → ex_cok l RX6 2 44 ix n rc sp := by
  intro ix n rc sp h
  obtain ⟨l0, h2, rfl⟩ := ab_dmk h
  clear h
  unfold be_X6_distil at h2
  split at h2
  · cases h2; exact ec_cV (bm_X0_draw l) bw_X0_draw bv_X0_draw (by decide) (by decide) (Or.inl (ec_in (i := 786) (by decide +kernel) rfl)) (T := TX0) (N := 8) rfl (by decide) (by decide +kernel)
  · cases h2; exact ec_cV (bm_X0_fill l) bw_X0_fill bv_X0_fill (by decide) (by decide) (Or.inl (ec_in (i := 778) (by decide +kernel) rfl)) (T := TX0) (N := 8) rfl (by decide) (by decide +kernel)
  · cases h2
theorem bj_X6_distil (l : Launch) : ex_ok l 2 44 bx_X6_distil := ⟨ec_fok fo_X6, ec_cok co_X6, so_X6, bk_X6_distil l, fun _ h => (by cases h), fun _ h => (by cases h), fun _ h => (by cases h), fun _ _ h => (by cases h)⟩
theorem bm_X6_distil (l : Launch) : ex_Met l yX6_distil cX6_distil 5 none 2 44 (ab_sp ab_hd bc_X6_distil) := ab_met (by decide) (by decide) rfl (bj_X6_distil l) bd_X6_distil ab_hcm ab_xk bz_X6_distil
theorem bw_X6_work : ec_cw yX6_work cX6_work 3 none := ⟨ec_in (i := 772) (by decide +kernel) rfl, ec_in (i := 63) (by decide +kernel) rfl, by decide, by decide⟩
theorem bv_X6_work : Cond.instanceMethod yX6_work ∈ ec_tb ∧ Cond.selects yX6_work.cls yX6_work yX6_work ∈ ec_tb := ⟨ec_in (i := 771) (by decide +kernel) rfl, ec_in (i := 11) (by decide +kernel) rfl⟩
theorem bk_X6_work (l : Launch) : ∀ (ix n : Nat) (rc : Option Nat) (sp : ex_S), (be_X6_work ix).map (fun q => (q.1, q.2.1, ab_sp ab_hd q.2.2)) = some (n, rc, sp) → ex_cok l RX6 3 68 ix n rc sp := by
  intro ix n rc sp h
  obtain ⟨l0, h2, rfl⟩ := ab_dmk h
  clear h
  unfold be_X6_work at h2
  split at h2
  · cases h2; exact ec_cV (bm_X0_take l) bw_X0_take bv_X0_take (by decide) (by decide) (Or.inl (ec_in (i := 773) (by decide +kernel) rfl)) (T := TX0) (N := 8) rfl (by decide) (by decide +kernel)
  · cases h2; exact ec_cV (bm_X0_fill l) bw_X0_fill bv_X0_fill (by decide) (by decide) (Or.inl (ec_in (i := 778) (by decide +kernel) rfl)) (T := TX0) (N := 8) rfl (by decide) (by decide +kernel)
  · cases h2; exact ec_cV (bm_X6_split l) bw_X6_split bv_X6_split (by decide) (by decide) (Or.inl (ec_in (i := 782) (by decide +kernel) rfl)) (T := TX6) (N := 15) rfl (by decide) (by decide +kernel)
  · cases h2; exact ec_cV (bm_X6_distil l) bw_X6_distil bv_X6_distil (by decide) (by decide) (Or.inl (ec_in (i := 794) (by decide +kernel) rfl)) (T := TX6) (N := 15) rfl (by decide) (by decide +kernel)
  · cases h2
theorem bj_X6_work (l : Launch) : ex_ok l 3 68 bx_X6_work := ⟨ec_fok fo_X6, ec_cok co_X6, so_X6, bk_X6_work l, fun _ h => (by cases h), fun _ h => (by cases h), fun _ h => (by cases h), fun _ _ h => (by cases h)⟩
theorem bm_X6_work (l : Launch) : ex_Met l yX6_work cX6_work 3 none 3 68 (ab_sp ab_hd bc_X6_work) := ab_met (by decide) (by decide) rfl (bj_X6_work l) bd_X6_work ab_hcm ab_xk bz_X6_work
theorem bw_X6_workAll : ec_cw yX6_workAll cX6_workAll 3 none := ⟨ec_in (i := 768) (by decide +kernel) rfl, ec_in (i := 63) (by decide +kernel) rfl, by decide, by decide⟩
theorem bv_X6_workAll : Cond.instanceMethod yX6_workAll ∈ ec_tb ∧ Cond.selects yX6_workAll.cls yX6_workAll yX6_workAll ∈ ec_tb := ⟨ec_in (i := 766) (by decide +kernel) rfl, ec_in (i := 767) (by decide +kernel) rfl⟩
theorem bk_X6_workAll (l : Launch) : ∀ (ix n : Nat) (rc : Option Nat) (sp : ex_S), (be_X6_workAll ix).map (fun q => (q.1, q.2.1, ab_sp ab_hd q.2.2)) = some (n, rc, sp) → ex_cok l RX6 4 90 ix n rc sp := by
  intro ix n rc sp h
  obtain ⟨l0, h2, rfl⟩ := ab_dmk h
  clear h
  unfold be_X6_workAll at h2
  split at h2
  · cases h2; exact ec_cV (bm_X6_work l) bw_X6_work bv_X6_work (by decide) (by decide) (Or.inl (ec_in (i := 769) (by decide +kernel) rfl)) (T := TX6) (N := 15) rfl (by decide) (by decide +kernel)
  · cases h2; exact ec_cV (bm_X0_give l) bw_X0_give bv_X0_give (by decide) (by decide) (Or.inl (ec_in (i := 790) (by decide +kernel) rfl)) (T := TX0) (N := 8) rfl (by decide) (by decide +kernel)
  · cases h2
theorem bj_X6_workAll (l : Launch) : ex_ok l 4 90 bx_X6_workAll := ⟨ec_fok fo_X6, ec_cok co_X6, so_X6, bk_X6_workAll l, fun _ h => (by cases h), fun _ h => (by cases h), fun _ h => (by cases h), fun _ _ h => (by cases h)⟩
theorem bm_X6_workAll (l : Launch) : ex_Met l yX6_workAll cX6_workAll 3 none 4 90 (ab_sp ab_hd bc_X6_workAll) := ab_met (by decide) (by decide) rfl (bj_X6_workAll l) bd_X6_workAll ab_hcm ab_xk bz_X6_workAll
