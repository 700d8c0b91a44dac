theorem bw_X9_found : ec_cw yX9_found cX9_found 2 (some .int) := ⟨ec_in (i := 1098) (by decide +kernel) rfl, ec_in (i := 58) (by decide +kernel) rfl, by decide, by decide⟩
theorem bv_X9_found : Cond.instanceMethod yX9_found ∈ ec_tb ∧ Cond.selects yX9_found.cls yX9_found yX9_found ∈ ec_tb := ⟨ec_in (i := 1096) (by decide +kernel) rfl, ec_in (i := 1097) (by decide +kernel) rfl⟩
theorem bk_X9_found (l : Launch) : ∀ (ix n : Nat) (rc : Option Nat) (sp : ex_S), (be_X9_found ix).map (fun q => (q.1, q.2.1, ab_sp ab_hd q.2.2)) = some (n, rc, sp) → ex_cok l RX9 1 21 ix n rc sp := by
  intro ix n rc sp h
  obtain ⟨l0, h2, rfl⟩ := ab_dmk h
  clear h
  unfold be_X9_found at h2
  split at h2
  · cases h2; exact ec_cV (bm_X9_counted l) bw_X9_counted bv_X9_counted (by decide) (by decide) (Or.inl (ec_in (i := 424) (by decide +kernel) rfl)) (T := TX9) (N := 10) rfl (by decide) (by decide +kernel)
  · cases h2
theorem bj_X9_found (l : Launch) : ex_ok l 1 21 bx_X9_found := ⟨ec_fok fo_X9, ec_cok co_X9, so_X9, bk_X9_found l, fun _ h => (by cases h), fun _ h => (by cases h), fun _ h => (by cases h), fun _ _ h => (by cases h)⟩
theorem bm_X9_found (l : Launch) : ex_Met l yX9_found cX9_found 2 (some .int) 1 21 (ab_sp ab_hd bc_X9_found) := ab_met (by decide) (by decide) rfl (bj_X9_found l) bd_X9_found ab_hcm ab_xk bz_X9_found
theorem bw_X10_finding : ec_cw yX10_finding cX10_finding 2 (some .int) := ⟨ec_in (i := 1285) (by decide +kernel) rfl, ec_in (i := 68) (by decide +kernel) rfl, by decide, by decide⟩
theorem bv_X10_finding : Cond.instanceMethod yX10_finding ∈ ec_tb ∧ Cond.selects yX10_finding.cls yX10_finding yX10_finding ∈ ec_tb := ⟨ec_in (i := 1284) (by decide +kernel) rfl, ec_in (i := 26) (by decide +kernel) rfl⟩
theorem bj_X10_finding (l : Launch) : ex_ok l 0 0 bx_X10_finding := ⟨ec_fok fo_X10, ec_cok co_X10, so_X10, fun _ _ _ _ h => (by cases h), fun _ h => (by cases h), fun _ h => (by cases h), fun _ h => (by cases h), fun _ _ h => (by cases h)⟩
theorem bm_X10_finding (l : Launch) : ex_Met l yX10_finding cX10_finding 2 (some .int) 0 0 (ab_sp ab_hd bc_X10_finding) := ab_met (by decide) (by decide) rfl (bj_X10_finding l) bd_X10_finding ab_hcm ab_xk bz_X10_finding
theorem bw_X10_isIn : ec_cw yX10_isIn cX10_isIn 3 (some .boolean) := ⟨ec_in (i := 1305) (by decide +kernel) rfl, ec_in (i := 68) (by decide +kernel) rfl, by decide, by decide⟩
theorem bv_X10_isIn : Cond.static yX10_isIn ∈ ec_tb := ec_in (i := 1304) (by decide +kernel) rfl
theorem bj_X10_isIn (l : Launch) : ex_ok l 0 0 bx_X10_isIn := ⟨ec_fok fo_X10, ec_cok co_X10, so_X10, fun _ _ _ _ h => (by cases h), fun _ h => (by cases h), fun _ h => (by cases h), fun _ h => (by cases h), fun _ _ h => (by cases h)⟩
theorem bm_X10_isIn (l : Launch) : ex_Met l yX10_isIn cX10_isIn 3 (some .boolean) 0 0 (ab_sp ab_hd bc_X10_isIn) := ab_met (by decide) (by decide) rfl (bj_X10_isIn l) bd_X10_isIn ab_hcm ab_xk bz_X10_isIn
theorem bw_X10_isModule : ec_cw yX10_isModule cX10_isModule 2 (some .boolean) := ⟨ec_in (i := 1294) (by decide +kernel) rfl, ec_in (i := 68) (by decide +kernel) rfl, by decide, by decide⟩
theorem bv_X10_isModule : Cond.instanceMethod yX10_isModule ∈ ec_tb ∧ Cond.selects yX10_isModule.cls yX10_isModule yX10_isModule ∈ ec_tb := ⟨ec_in (i := 1293) (by decide +kernel) rfl, ec_in (i := 27) (by decide +kernel) rfl⟩
theorem bj_X10_isModule (l : Launch) : ex_ok l 0 0 bx_X10_isModule := ⟨ec_fok fo_X10, ec_cok co_X10, so_X10, fun _ _ _ _ h => (by cases h), fun _ h => (by cases h), fun _ h => (by cases h), fun _ h => (by cases h), fun _ _ h => (by cases h)⟩
theorem bm_X10_isModule (l : Launch) : ex_Met l yX10_isModule cX10_isModule 2 (some .boolean) 0 0 (ab_sp ab_hd bc_X10_isModule) := ab_met (by decide) (by decide) rfl (bj_X10_isModule l) bd_X10_isModule ab_hcm ab_xk bz_X10_isModule
theorem bw_X10_isHatch : ec_cw yX10_isHatch cX10_isHatch 2 (some .boolean) := ⟨ec_in (i := 1302) (by decide +kernel) rfl, ec_in (i := 68) (by decide +kernel) rfl, by decide, by decide⟩
theorem bv_X10_isHatch : Cond.instanceMethod yX10_isHatch ∈ ec_tb ∧ Cond.selects yX10_isHatch.cls yX10_isHatch yX10_isHatch ∈ ec_tb := ⟨ec_in (i := 1301) (by decide +kernel) rfl, ec_in (i := 28) (by decide +kernel) rfl⟩
theorem bj_X10_isHatch (l : Launch) : ex_ok l 0 0 bx_X10_isHatch := ⟨ec_fok fo_X10, ec_cok co_X10, so_X10, fun _ _ _ _ h => (by cases h), fun _ h => (by cases h), fun _ h => (by cases h), fun _ h => (by cases h), fun _ _ h => (by cases h)⟩
theorem bm_X10_isHatch (l : Launch) : ex_Met l yX10_isHatch cX10_isHatch 2 (some .boolean) 0 0 (ab_sp ab_hd bc_X10_isHatch) := ab_met (by decide) (by decide) rfl (bj_X10_isHatch l) bd_X10_isHatch ab_hcm ab_xk bz_X10_isHatch
theorem bw_X10_isPerson : ec_cw yX10_isPerson cX10_isPerson 2 (some .boolean) := ⟨ec_in (i := 1335) (by decide +kernel) rfl, ec_in (i := 68) (by decide +kernel) rfl, by decide, by decide⟩
theorem bv_X10_isPerson : Cond.instanceMethod yX10_isPerson ∈ ec_tb ∧ Cond.selects yX10_isPerson.cls yX10_isPerson yX10_isPerson ∈ ec_tb := ⟨ec_in (i := 1334) (by decide +kernel) rfl, ec_in (i := 29) (by decide +kernel) rfl⟩
theorem bj_X10_isPerson (l : Launch) : ex_ok l 0 0 bx_X10_isPerson := ⟨ec_fok fo_X10, ec_cok co_X10, so_X10, fun _ _ _ _ h => (by cases h), fun _ h => (by cases h), fun _ h => (by cases h), fun _ h => (by cases h), fun _ _ h => (by cases h)⟩
theorem bm_X10_isPerson (l : Launch) : ex_Met l yX10_isPerson cX10_isPerson 2 (some .boolean) 0 0 (ab_sp ab_hd bc_X10_isPerson) := ab_met (by decide) (by decide) rfl (bj_X10_isPerson l) bd_X10_isPerson ab_hcm ab_xk bz_X10_isPerson
theorem bw_X10_isMachine : ec_cw yX10_isMachine cX10_isMachine 2 (some .boolean) := ⟨ec_in (i := 1359) (by decide +kernel) rfl, ec_in (i := 68) (by decide +kernel) rfl, by decide, by decide⟩
theorem bv_X10_isMachine : Cond.instanceMethod yX10_isMachine ∈ ec_tb ∧ Cond.selects yX10_isMachine.cls yX10_isMachine yX10_isMachine ∈ ec_tb := ⟨ec_in (i := 1358) (by decide +kernel) rfl, ec_in (i := 31) (by decide +kernel) rfl⟩
theorem bj_X10_isMachine (l : Launch) : ex_ok l 0 0 bx_X10_isMachine := ⟨ec_fok fo_X10, ec_cok co_X10, so_X10, fun _ _ _ _ h => (by cases h), fun _ h => (by cases h), fun _ h => (by cases h), fun _ h => (by cases h), fun _ _ h => (by cases h)⟩
theorem bm_X10_isMachine (l : Launch) : ex_Met l yX10_isMachine cX10_isMachine 2 (some .boolean) 0 0 (ab_sp ab_hd bc_X10_isMachine) := ab_met (by decide) (by decide) rfl (bj_X10_isMachine l) bd_X10_isMachine ab_hcm ab_xk bz_X10_isMachine
theorem bw_X10_module : ec_cw yX10_module cX10_module 1 (some .int) := ⟨ec_in (i := 1281) (by decide +kernel) rfl, ec_in (i := 68) (by decide +kernel) rfl, by decide, by decide⟩
theorem bv_X10_module : Cond.instanceMethod yX10_module ∈ ec_tb ∧ Cond.selects yX10_module.cls yX10_module yX10_module ∈ ec_tb := ⟨ec_in (i := 1279) (by decide +kernel) rfl, ec_in (i := 1280) (by decide +kernel) rfl⟩
theorem bk_X10_module (l : Launch) : ∀ (ix n : Nat) (rc : Option Nat) (sp : ex_S), (be_X10_module ix).map (fun q => (q.1, q.2.1, ab_sp ab_hd q.2.2)) = some (n, rc, sp) → ex_cok l RX10 1 21 ix n rc sp := by
  intro ix n rc sp h
  obtain ⟨l0, h2, rfl⟩ := ab_dmk h
  clear h
  unfold be_X10_module at h2
  split at h2
  · cases h2; exact ec_cV (bm_X10_finding l) bw_X10_finding bv_X10_finding (by decide) (by decide) (Or.inl (ec_in (i := 1282) (by decide +kernel) rfl)) (T := TX10) (N := 57) rfl (by decide) (by decide +kernel)
  · cases h2
theorem bj_X10_module (l : Launch) : ex_ok l 1 21 bx_X10_module := ⟨ec_fok fo_X10, ec_cok co_X10, so_X10, bk_X10_module l, fun _ h => (by cases h), fun _ h => (by cases h), fun _ h => (by cases h), fun _ _ h => (by cases h)⟩
theorem bm_X10_module (l : Launch) : ex_Met l yX10_module cX10_module 1 (some .int) 1 21 (ab_sp ab_hd bc_X10_module) := ab_met (by decide) (by decide) rfl (bj_X10_module l) bd_X10_module ab_hcm ab_xk bz_X10_module
theorem bw_X10_hatch : ec_cw yX10_hatch cX10_hatch 3 (some .int) := ⟨ec_in (i := 1290) (by decide +kernel) rfl, ec_in (i := 68) (by decide +kernel) rfl, by decide, by decide⟩
theorem bv_X10_hatch : Cond.instanceMethod yX10_hatch ∈ ec_tb ∧ Cond.selects yX10_hatch.cls yX10_hatch yX10_hatch ∈ ec_tb := ⟨ec_in (i := 1288) (by decide +kernel) rfl, ec_in (i := 1289) (by decide +kernel) rfl⟩
theorem bk_X10_hatch (l : Launch) : ∀ (ix n : Nat) (rc : Option Nat) (sp : ex_S), (be_X10_hatch ix).map (fun q => (q.1, q.2.1, ab_sp ab_hd q.2.2)) = some (n, rc, sp) → ex_cok l RX10 1 21 ix n rc sp := by
  intro ix n rc sp h
  obtain ⟨l0, h2, rfl⟩ := ab_dmk h
  clear h
  unfold be_X10_hatch at h2
  split at h2
  · cases h2; exact ec_cV (bm_X10_isModule l) bw_X10_isModule bv_X10_isModule (by decide) (by decide) (Or.inl (ec_in (i := 1291) (by decide +kernel) rfl)) (T := TX10) (N := 57) rfl (by decide) (by decide +kernel)
  · cases h2; exact ec_cV (bm_X10_finding l) bw_X10_finding bv_X10_finding (by decide) (by decide) (Or.inl (ec_in (i := 1282) (by decide +kernel) rfl)) (T := TX10) (N := 57) rfl (by decide) (by decide +kernel)
  · cases h2
theorem bj_X10_hatch (l : Launch) : ex_ok l 1 21 bx_X10_hatch := ⟨ec_fok fo_X10, ec_cok co_X10, so_X10, bk_X10_hatch l, fun _ h => (by cases h), fun _ h => (by cases h), fun _ h => (by cases h), fun _ _ h => (by cases h)⟩
theorem bm_X10_hatch (l : Launch) : ex_Met l yX10_hatch cX10_hatch 3 (some .int) 1 21 (ab_sp ab_hd bc_X10_hatch) := ab_met (by decide) (by decide) rfl (bj_X10_hatch l) bd_X10_hatch ab_hcm ab_xk bz_X10_hatch
theorem bw_X10_shut : ec_cw yX10_shut cX10_shut 4 (some .int) := ⟨ec_in (i := 1298) (by decide +kernel) rfl, ec_in (i := 68) (by decide +kernel) rfl, by decide, by decide⟩
theorem bv_X10_shut : Cond.instanceMethod yX10_shut ∈ ec_tb ∧ Cond.selects yX10_shut.cls yX10_shut yX10_shut ∈ ec_tb := ⟨ec_in (i := 1296) (by decide +kernel) rfl, ec_in (i := 1297) (by decide +kernel) rfl⟩
theorem bk_X10_shut (l : Launch) : ∀ (ix n : Nat) (rc : Option Nat) (sp : ex_S), (be_X10_shut ix).map (fun q => (q.1, q.2.1, ab_sp ab_hd q.2.2)) = some (n, rc, sp) → ex_cok l RX10 1 22 ix n rc sp := by
  intro ix n rc sp h
  obtain ⟨l0, h2, rfl⟩ := ab_dmk h
  clear h
  unfold be_X10_shut at h2
  split at h2
  · cases h2; exact ec_cV (bm_X10_isHatch l) bw_X10_isHatch bv_X10_isHatch (by decide) (by decide) (Or.inl (ec_in (i := 1299) (by decide +kernel) rfl)) (T := TX10) (N := 57) rfl (by decide) (by decide +kernel)
  · cases h2; exact ec_cS (bm_X10_isIn l) bw_X10_isIn bv_X10_isIn (by decide) (by decide) (Or.inl (ec_in (i := 1303) (by decide +kernel) rfl)) (by decide +kernel)
  · cases h2; exact ec_cV (bm_X10_finding l) bw_X10_finding bv_X10_finding (by decide) (by decide) (Or.inl (ec_in (i := 1282) (by decide +kernel) rfl)) (T := TX10) (N := 57) rfl (by decide) (by decide +kernel)
  · cases h2
theorem bj_X10_shut (l : Launch) : ex_ok l 1 22 bx_X10_shut := ⟨ec_fok fo_X10, ec_cok co_X10, so_X10, bk_X10_shut l, fun _ h => (by cases h), fun _ h => (by cases h), fun _ h => (by cases h), fun _ _ h => (by cases h)⟩
theorem bm_X10_shut (l : Launch) : ex_Met l yX10_shut cX10_shut 4 (some .int) 1 22 (ab_sp ab_hd bc_X10_shut) := ab_met (by decide) (by decide) rfl (bj_X10_shut l) bd_X10_shut ab_hcm ab_xk bz_X10_shut
theorem bw_X10_gas : ec_cw yX10_gas cX10_gas 5 (some .int) := ⟨ec_in (i := 1309) (by decide +kernel) rfl, ec_in (i := 68) (by decide +kernel) rfl, by decide, by decide⟩
theorem bv_X10_gas : Cond.instanceMethod yX10_gas ∈ ec_tb ∧ Cond.selects yX10_gas.cls yX10_gas yX10_gas ∈ ec_tb := ⟨ec_in (i := 1307) (by decide +kernel) rfl, ec_in (i := 1308) (by decide +kernel) rfl⟩
theorem bk_X10_gas (l : Launch) : ∀ (ix n : Nat) (rc : Option Nat) (sp : ex_S), (be_X10_gas ix).map (fun q => (q.1, q.2.1, ab_sp ab_hd q.2.2)) = some (n, rc, sp) → ex_cok l RX10 1 22 ix n rc sp := by
  intro ix n rc sp h
  obtain ⟨l0, h2, rfl⟩ := ab_dmk h
  clear h
  unfold be_X10_gas at h2
  split at h2
  · cases h2; exact ec_cV (bm_X10_isModule l) bw_X10_isModule bv_X10_isModule (by decide) (by decide) (Or.inl (ec_in (i := 1291) (by decide +kernel) rfl)) (T := TX10) (N := 57) rfl (by decide) (by decide +kernel)
  · cases h2; exact ec_cS (bm_X10_isIn l) bw_X10_isIn bv_X10_isIn (by decide) (by decide) (Or.inl (ec_in (i := 1303) (by decide +kernel) rfl)) (by decide +kernel)
  · cases h2; exact ec_cV (bm_X10_finding l) bw_X10_finding bv_X10_finding (by decide) (by decide) (Or.inl (ec_in (i := 1282) (by decide +kernel) rfl)) (T := TX10) (N := 57) rfl (by decide) (by decide +kernel)
  · cases h2
theorem bj_X10_gas (l : Launch) : ex_ok l 1 22 bx_X10_gas := ⟨ec_fok fo_X10, ec_cok co_X10, so_X10, bk_X10_gas l, fun _ h => (by cases h), fun _ h => (by cases h), fun _ h => (by cases h), fun _ _ h => (by cases h)⟩
theorem bm_X10_gas (l : Launch) : ex_Met l yX10_gas cX10_gas 5 (some .int) 1 22 (ab_sp ab_hd bc_X10_gas) := ab_met (by decide) (by decide) rfl (bj_X10_gas l) bd_X10_gas ab_hcm ab_xk bz_X10_gas
theorem bw_X10_leak : ec_cw yX10_leak cX10_leak 4 (some .int) := ⟨ec_in (i := 1314) (by decide +kernel) rfl, ec_in (i := 68) (by decide +kernel) rfl, by decide, by decide⟩
theorem bv_X10_leak : Cond.instanceMethod yX10_leak ∈ ec_tb ∧ Cond.selects yX10_leak.cls yX10_leak yX10_leak ∈ ec_tb := ⟨ec_in (i := 1312) (by decide +kernel) rfl, ec_in (i := 1313) (by decide +kernel) rfl⟩
theorem bk_X10_leak (l : Launch) : ∀ (ix n : Nat) (rc : Option Nat) (sp : ex_S), (be_X10_leak ix).map (fun q => (q.1, q.2.1, ab_sp ab_hd q.2.2)) = some (n, rc, sp) → ex_cok l RX10 1 22 ix n rc sp := by
  intro ix n rc sp h
  obtain ⟨l0, h2, rfl⟩ := ab_dmk h
  clear h
  unfold be_X10_leak at h2
  split at h2
  · cases h2; exact ec_cV (bm_X10_isModule l) bw_X10_isModule bv_X10_isModule (by decide) (by decide) (Or.inl (ec_in (i := 1291) (by decide +kernel) rfl)) (T := TX10) (N := 57) rfl (by decide) (by decide +kernel)
  · cases h2; exact ec_cS (bm_X10_isIn l) bw_X10_isIn bv_X10_isIn (by decide) (by decide) (Or.inl (ec_in (i := 1303) (by decide +kernel) rfl)) (by decide +kernel)
  · cases h2; exact ec_cV (bm_X10_finding l) bw_X10_finding bv_X10_finding (by decide) (by decide) (Or.inl (ec_in (i := 1282) (by decide +kernel) rfl)) (T := TX10) (N := 57) rfl (by decide) (by decide +kernel)
  · cases h2
theorem bj_X10_leak (l : Launch) : ex_ok l 1 22 bx_X10_leak := ⟨ec_fok fo_X10, ec_cok co_X10, so_X10, bk_X10_leak l, fun _ h => (by cases h), fun _ h => (by cases h), fun _ h => (by cases h), fun _ _ h => (by cases h)⟩
theorem bm_X10_leak (l : Launch) : ex_Met l yX10_leak cX10_leak 4 (some .int) 1 22 (ab_sp ab_hd bc_X10_leak) := ab_met (by decide) (by decide) rfl (bj_X10_leak l) bd_X10_leak ab_hcm ab_xk bz_X10_leak
theorem bw_X10_tank : ec_cw yX10_tank cX10_tank 4 (some .int) := ⟨ec_in (i := 1318) (by decide +kernel) rfl, ec_in (i := 68) (by decide +kernel) rfl, by decide, by decide⟩
theorem bv_X10_tank : Cond.instanceMethod yX10_tank ∈ ec_tb ∧ Cond.selects yX10_tank.cls yX10_tank yX10_tank ∈ ec_tb := ⟨ec_in (i := 1316) (by decide +kernel) rfl, ec_in (i := 1317) (by decide +kernel) rfl⟩
theorem bk_X10_tank (l : Launch) : ∀ (ix n : Nat) (rc : Option Nat) (sp : ex_S), (be_X10_tank ix).map (fun q => (q.1, q.2.1, ab_sp ab_hd q.2.2)) = some (n, rc, sp) → ex_cok l RX10 1 22 ix n rc sp := by
  intro ix n rc sp h
  obtain ⟨l0, h2, rfl⟩ := ab_dmk h
  clear h
  unfold be_X10_tank at h2
  split at h2
  · cases h2; exact ec_cS (bm_X10_isIn l) bw_X10_isIn bv_X10_isIn (by decide) (by decide) (Or.inl (ec_in (i := 1303) (by decide +kernel) rfl)) (by decide +kernel)
  · cases h2; exact ec_cV (bm_X10_finding l) bw_X10_finding bv_X10_finding (by decide) (by decide) (Or.inl (ec_in (i := 1282) (by decide +kernel) rfl)) (T := TX10) (N := 57) rfl (by decide) (by decide +kernel)
  · cases h2
theorem bj_X10_tank (l : Launch) : ex_ok l 1 22 bx_X10_tank := ⟨ec_fok fo_X10, ec_cok co_X10, so_X10, bk_X10_tank l, fun _ h => (by cases h), fun _ h => (by cases h), fun _ h => (by cases h), fun _ _ h => (by cases h)⟩
theorem bm_X10_tank (l : Launch) : ex_Met l yX10_tank cX10_tank 4 (some .int) 1 22 (ab_sp ab_hd bc_X10_tank) := ab_met (by decide) (by decide) rfl (bj_X10_tank l) bd_X10_tank ab_hcm ab_xk bz_X10_tank
theorem bw_X10_grams : ec_cw yX10_grams cX10_grams 3 (some .int) := ⟨ec_in (i := 1323) (by decide +kernel) rfl, ec_in (i := 68) (by decide +kernel) rfl, by decide, by decide⟩
theorem bv_X10_grams : Cond.instanceMethod yX10_grams ∈ ec_tb ∧ Cond.selects yX10_grams.cls yX10_grams yX10_grams ∈ ec_tb := ⟨ec_in (i := 1321) (by decide +kernel) rfl, ec_in (i := 1322) (by decide +kernel) rfl⟩
theorem bj_X10_grams (l : Launch) : ex_ok l 0 0 bx_X10_grams := ⟨ec_fok fo_X10, ec_cok co_X10, so_X10, fun _ _ _ _ h => (by cases h), fun _ h => (by cases h), fun _ h => (by cases h), fun _ h => (by cases h), fun _ _ h => (by cases h)⟩
theorem bm_X10_grams (l : Launch) : ex_Met l yX10_grams cX10_grams 3 (some .int) 0 0 (ab_sp ab_hd bc_X10_grams) := ab_met (by decide) (by decide) rfl (bj_X10_grams l) bd_X10_grams ab_hcm ab_xk bz_X10_grams
theorem bw_X10_person : ec_cw yX10_person cX10_person 2 (some .int) := ⟨ec_in (i := 1327) (by decide +kernel) rfl, ec_in (i := 68) (by decide +kernel) rfl, by decide, by decide⟩
theorem bv_X10_person : Cond.instanceMethod yX10_person ∈ ec_tb ∧ Cond.selects yX10_person.cls yX10_person yX10_person ∈ ec_tb := ⟨ec_in (i := 1325) (by decide +kernel) rfl, ec_in (i := 1326) (by decide +kernel) rfl⟩
theorem bk_X10_person (l : Launch) : ∀ (ix n : Nat) (rc : Option Nat) (sp : ex_S), (be_X10_person ix).map (fun q => (q.1, q.2.1, ab_sp ab_hd q.2.2)) = some (n, rc, sp) → ex_cok l RX10 1 21 ix n rc sp := by
  intro ix n rc sp h
  obtain ⟨l0, h2, rfl⟩ := ab_dmk h
  clear h
  unfold be_X10_person at h2
  split at h2
  · cases h2; exact ec_cV (bm_X10_isModule l) bw_X10_isModule bv_X10_isModule (by decide) (by decide) (Or.inl (ec_in (i := 1291) (by decide +kernel) rfl)) (T := TX10) (N := 57) rfl (by decide) (by decide +kernel)
  · cases h2; exact ec_cV (bm_X10_finding l) bw_X10_finding bv_X10_finding (by decide) (by decide) (Or.inl (ec_in (i := 1282) (by decide +kernel) rfl)) (T := TX10) (N := 57) rfl (by decide) (by decide +kernel)
  · cases h2
theorem bj_X10_person (l : Launch) : ex_ok l 1 21 bx_X10_person := ⟨ec_fok fo_X10, ec_cok co_X10, so_X10, bk_X10_person l, fun _ h => (by cases h), fun _ h => (by cases h), fun _ h => (by cases h), fun _ _ h => (by cases h)⟩
theorem bm_X10_person (l : Launch) : ex_Met l yX10_person cX10_person 2 (some .int) 1 21 (ab_sp ab_hd bc_X10_person) := ab_met (by decide) (by decide) rfl (bj_X10_person l) bd_X10_person ab_hcm ab_xk bz_X10_person
theorem bw_X10_canGo : ec_cw yX10_canGo cX10_canGo 5 (some .boolean) := ⟨ec_in (i := 1339) (by decide +kernel) rfl, ec_in (i := 68) (by decide +kernel) rfl, by decide, by decide⟩
theorem bv_X10_canGo : Cond.instanceMethod yX10_canGo ∈ ec_tb ∧ Cond.selects yX10_canGo.cls yX10_canGo yX10_canGo ∈ ec_tb := ⟨ec_in (i := 1338) (by decide +kernel) rfl, ec_in (i := 30) (by decide +kernel) rfl⟩
theorem bj_X10_canGo (l : Launch) : ex_ok l 0 0 bx_X10_canGo := ⟨ec_fok fo_X10, ec_cok co_X10, so_X10, fun _ _ _ _ h => (by cases h), fun _ h => (by cases h), fun _ h => (by cases h), fun _ h => (by cases h), fun _ _ h => (by cases h)⟩
theorem bm_X10_canGo (l : Launch) : ex_Met l yX10_canGo cX10_canGo 5 (some .boolean) 0 0 (ab_sp ab_hd bc_X10_canGo) := ab_met (by decide) (by decide) rfl (bj_X10_canGo l) bd_X10_canGo ab_hcm ab_xk bz_X10_canGo
theorem bw_X10_go : ec_cw yX10_go cX10_go 3 (some .int) := ⟨ec_in (i := 1331) (by decide +kernel) rfl, ec_in (i := 68) (by decide +kernel) rfl, by decide, by decide⟩
theorem bv_X10_go : Cond.instanceMethod yX10_go ∈ ec_tb ∧ Cond.selects yX10_go.cls yX10_go yX10_go ∈ ec_tb := ⟨ec_in (i := 1329) (by decide +kernel) rfl, ec_in (i := 1330) (by decide +kernel) rfl⟩
theorem bk_X10_go (l : Launch) : ∀ (ix n : Nat) (rc : Option Nat) (sp : ex_S), (be_X10_go ix).map (fun q => (q.1, q.2.1, ab_sp ab_hd q.2.2)) = some (n, rc, sp) → ex_cok l RX10 1 24 ix n rc sp := by
  intro ix n rc sp h
  obtain ⟨l0, h2, rfl⟩ := ab_dmk h
  clear h
  unfold be_X10_go at h2
  split at h2
  · cases h2; exact ec_cV (bm_X10_isPerson l) bw_X10_isPerson bv_X10_isPerson (by decide) (by decide) (Or.inl (ec_in (i := 1332) (by decide +kernel) rfl)) (T := TX10) (N := 57) rfl (by decide) (by decide +kernel)
  · cases h2; exact ec_cV (bm_X10_isModule l) bw_X10_isModule bv_X10_isModule (by decide) (by decide) (Or.inl (ec_in (i := 1291) (by decide +kernel) rfl)) (T := TX10) (N := 57) rfl (by decide) (by decide +kernel)
  · cases h2; exact ec_cV (bm_X10_finding l) bw_X10_finding bv_X10_finding (by decide) (by decide) (Or.inl (ec_in (i := 1282) (by decide +kernel) rfl)) (T := TX10) (N := 57) rfl (by decide) (by decide +kernel)
  · cases h2; exact ec_cV (bm_X10_canGo l) bw_X10_canGo bv_X10_canGo (by decide) (by decide) (Or.inl (ec_in (i := 1336) (by decide +kernel) rfl)) (T := TX10) (N := 57) rfl (by decide) (by decide +kernel)
  · cases h2
theorem bj_X10_go (l : Launch) : ex_ok l 1 24 bx_X10_go := ⟨ec_fok fo_X10, ec_cok co_X10, so_X10, bk_X10_go l, fun _ h => (by cases h), fun _ h => (by cases h), fun _ h => (by cases h), fun _ _ h => (by cases h)⟩
theorem bm_X10_go (l : Launch) : ex_Met l yX10_go cX10_go 3 (some .int) 1 24 (ab_sp ab_hd bc_X10_go) := ab_met (by decide) (by decide) rfl (bj_X10_go l) bd_X10_go ab_hcm ab_xk bz_X10_go
theorem bw_X10_doing : ec_cw yX10_doing cX10_doing 4 (some .int) := ⟨ec_in (i := 1343) (by decide +kernel) rfl, ec_in (i := 68) (by decide +kernel) rfl, by decide, by decide⟩
theorem bv_X10_doing : Cond.instanceMethod yX10_doing ∈ ec_tb ∧ Cond.selects yX10_doing.cls yX10_doing yX10_doing ∈ ec_tb := ⟨ec_in (i := 1341) (by decide +kernel) rfl, ec_in (i := 1342) (by decide +kernel) rfl⟩
theorem bk_X10_doing (l : Launch) : ∀ (ix n : Nat) (rc : Option Nat) (sp : ex_S), (be_X10_doing ix).map (fun q => (q.1, q.2.1, ab_sp ab_hd q.2.2)) = some (n, rc, sp) → ex_cok l RX10 1 22 ix n rc sp := by
  intro ix n rc sp h
  obtain ⟨l0, h2, rfl⟩ := ab_dmk h
  clear h
  unfold be_X10_doing at h2
  split at h2
  · cases h2; exact ec_cV (bm_X10_isPerson l) bw_X10_isPerson bv_X10_isPerson (by decide) (by decide) (Or.inl (ec_in (i := 1332) (by decide +kernel) rfl)) (T := TX10) (N := 57) rfl (by decide) (by decide +kernel)
  · cases h2; exact ec_cS (bm_X10_isIn l) bw_X10_isIn bv_X10_isIn (by decide) (by decide) (Or.inl (ec_in (i := 1303) (by decide +kernel) rfl)) (by decide +kernel)
  · cases h2; exact ec_cV (bm_X10_finding l) bw_X10_finding bv_X10_finding (by decide) (by decide) (Or.inl (ec_in (i := 1282) (by decide +kernel) rfl)) (T := TX10) (N := 57) rfl (by decide) (by decide +kernel)
  · cases h2
theorem bj_X10_doing (l : Launch) : ex_ok l 1 22 bx_X10_doing := ⟨ec_fok fo_X10, ec_cok co_X10, so_X10, bk_X10_doing l, fun _ h => (by cases h), fun _ h => (by cases h), fun _ h => (by cases h), fun _ _ h => (by cases h)⟩
theorem bm_X10_doing (l : Launch) : ex_Met l yX10_doing cX10_doing 4 (some .int) 1 22 (ab_sp ab_hd bc_X10_doing) := ab_met (by decide) (by decide) rfl (bj_X10_doing l) bd_X10_doing ab_hcm ab_xk bz_X10_doing
theorem bw_X10_about : ec_cw yX10_about cX10_about 3 (some .int) := ⟨ec_in (i := 1347) (by decide +kernel) rfl, ec_in (i := 68) (by decide +kernel) rfl, by decide, by decide⟩
theorem bv_X10_about : Cond.instanceMethod yX10_about ∈ ec_tb ∧ Cond.selects yX10_about.cls yX10_about yX10_about ∈ ec_tb := ⟨ec_in (i := 1345) (by decide +kernel) rfl, ec_in (i := 1346) (by decide +kernel) rfl⟩
theorem bk_X10_about (l : Launch) : ∀ (ix n : Nat) (rc : Option Nat) (sp : ex_S), (be_X10_about ix).map (fun q => (q.1, q.2.1, ab_sp ab_hd q.2.2)) = some (n, rc, sp) → ex_cok l RX10 1 22 ix n rc sp := by
  intro ix n rc sp h
  obtain ⟨l0, h2, rfl⟩ := ab_dmk h
  clear h
  unfold be_X10_about at h2
  split at h2
  · cases h2; exact ec_cV (bm_X10_isPerson l) bw_X10_isPerson bv_X10_isPerson (by decide) (by decide) (Or.inl (ec_in (i := 1332) (by decide +kernel) rfl)) (T := TX10) (N := 57) rfl (by decide) (by decide +kernel)
  · cases h2; exact ec_cS (bm_X10_isIn l) bw_X10_isIn bv_X10_isIn (by decide) (by decide) (Or.inl (ec_in (i := 1303) (by decide +kernel) rfl)) (by decide +kernel)
  · cases h2; exact ec_cV (bm_X10_finding l) bw_X10_finding bv_X10_finding (by decide) (by decide) (Or.inl (ec_in (i := 1282) (by decide +kernel) rfl)) (T := TX10) (N := 57) rfl (by decide) (by decide +kernel)
  · cases h2
theorem bj_X10_about (l : Launch) : ex_ok l 1 22 bx_X10_about := ⟨ec_fok fo_X10, ec_cok co_X10, so_X10, bk_X10_about l, fun _ h => (by cases h), fun _ h => (by cases h), fun _ h => (by cases h), fun _ _ h => (by cases h)⟩
theorem bm_X10_about (l : Launch) : ex_Met l yX10_about cX10_about 3 (some .int) 1 22 (ab_sp ab_hd bc_X10_about) := ab_met (by decide) (by decide) rfl (bj_X10_about l) bd_X10_about ab_hcm ab_xk bz_X10_about
theorem bw_X10_machine : ec_cw yX10_machine cX10_machine 6 (some .int) := ⟨ec_in (i := 1351) (by decide +kernel) rfl, ec_in (i := 68) (by decide +kernel) rfl, by decide, by decide⟩
theorem bv_X10_machine : Cond.instanceMethod yX10_machine ∈ ec_tb ∧ Cond.selects yX10_machine.cls yX10_machine yX10_machine ∈ ec_tb := ⟨ec_in (i := 1349) (by decide +kernel) rfl, ec_in (i := 1350) (by decide +kernel) rfl⟩
theorem bk_X10_machine (l : Launch) : ∀ (ix n : Nat) (rc : Option Nat) (sp : ex_S), (be_X10_machine ix).map (fun q => (q.1, q.2.1, ab_sp ab_hd q.2.2)) = some (n, rc, sp) → ex_cok l RX10 1 22 ix n rc sp := by
  intro ix n rc sp h
  obtain ⟨l0, h2, rfl⟩ := ab_dmk h
  clear h
  unfold be_X10_machine at h2
  split at h2
  · cases h2; exact ec_cS (bm_X10_isIn l) bw_X10_isIn bv_X10_isIn (by decide) (by decide) (Or.inl (ec_in (i := 1303) (by decide +kernel) rfl)) (by decide +kernel)
  · cases h2; exact ec_cV (bm_X10_isModule l) bw_X10_isModule bv_X10_isModule (by decide) (by decide) (Or.inl (ec_in (i := 1291) (by decide +kernel) rfl)) (T := TX10) (N := 57) rfl (by decide) (by decide +kernel)
  · cases h2; exact ec_cV (bm_X10_finding l) bw_X10_finding bv_X10_finding (by decide) (by decide) (Or.inl (ec_in (i := 1282) (by decide +kernel) rfl)) (T := TX10) (N := 57) rfl (by decide) (by decide +kernel)
  · cases h2
theorem bj_X10_machine (l : Launch) : ex_ok l 1 22 bx_X10_machine := ⟨ec_fok fo_X10, ec_cok co_X10, so_X10, bk_X10_machine l, fun _ h => (by cases h), fun _ h => (by cases h), fun _ h => (by cases h), fun _ _ h => (by cases h)⟩
theorem bm_X10_machine (l : Launch) : ex_Met l yX10_machine cX10_machine 6 (some .int) 1 22 (ab_sp ab_hd bc_X10_machine) := ab_met (by decide) (by decide) rfl (bj_X10_machine l) bd_X10_machine ab_hcm ab_xk bz_X10_machine
theorem bw_X10_as : ec_cw yX10_as cX10_as 3 (some .int) := ⟨ec_in (i := 1355) (by decide +kernel) rfl, ec_in (i := 68) (by decide +kernel) rfl, by decide, by decide⟩
theorem bv_X10_as : Cond.instanceMethod yX10_as ∈ ec_tb ∧ Cond.selects yX10_as.cls yX10_as yX10_as ∈ ec_tb := ⟨ec_in (i := 1353) (by decide +kernel) rfl, ec_in (i := 1354) (by decide +kernel) rfl⟩
theorem bk_X10_as (l : Launch) : ∀ (ix n : Nat) (rc : Option Nat) (sp : ex_S), (be_X10_as ix).map (fun q => (q.1, q.2.1, ab_sp ab_hd q.2.2)) = some (n, rc, sp) → ex_cok l RX10 1 22 ix n rc sp := by
  intro ix n rc sp h
  obtain ⟨l0, h2, rfl⟩ := ab_dmk h
  clear h
  unfold be_X10_as at h2
  split at h2
  · cases h2; exact ec_cV (bm_X10_isMachine l) bw_X10_isMachine bv_X10_isMachine (by decide) (by decide) (Or.inl (ec_in (i := 1356) (by decide +kernel) rfl)) (T := TX10) (N := 57) rfl (by decide) (by decide +kernel)
  · cases h2; exact ec_cS (bm_X10_isIn l) bw_X10_isIn bv_X10_isIn (by decide) (by decide) (Or.inl (ec_in (i := 1303) (by decide +kernel) rfl)) (by decide +kernel)
  · cases h2; exact ec_cV (bm_X10_finding l) bw_X10_finding bv_X10_finding (by decide) (by decide) (Or.inl (ec_in (i := 1282) (by decide +kernel) rfl)) (T := TX10) (N := 57) rfl (by decide) (by decide +kernel)
  · cases h2
theorem bj_X10_as (l : Launch) : ex_ok l 1 22 bx_X10_as := ⟨ec_fok fo_X10, ec_cok co_X10, so_X10, bk_X10_as l, fun _ h => (by cases h), fun _ h => (by cases h), fun _ h => (by cases h), fun _ _ h => (by cases h)⟩
theorem bm_X10_as (l : Launch) : ex_Met l yX10_as cX10_as 3 (some .int) 1 22 (ab_sp ab_hd bc_X10_as) := ab_met (by decide) (by decide) rfl (bj_X10_as l) bd_X10_as ab_hcm ab_xk bz_X10_as
theorem bw_X10_turn : ec_cw yX10_turn cX10_turn 4 (some .int) := ⟨ec_in (i := 1363) (by decide +kernel) rfl, ec_in (i := 68) (by decide +kernel) rfl, by decide, by decide⟩
theorem bv_X10_turn : Cond.instanceMethod yX10_turn ∈ ec_tb ∧ Cond.selects yX10_turn.cls yX10_turn yX10_turn ∈ ec_tb := ⟨ec_in (i := 1361) (by decide +kernel) rfl, ec_in (i := 1362) (by decide +kernel) rfl⟩
theorem bk_X10_turn (l : Launch) : ∀ (ix n : Nat) (rc : Option Nat) (sp : ex_S), (be_X10_turn ix).map (fun q => (q.1, q.2.1, ab_sp ab_hd q.2.2)) = some (n, rc, sp) → ex_cok l RX10 1 22 ix n rc sp := by
  intro ix n rc sp h
  obtain ⟨l0, h2, rfl⟩ := ab_dmk h
  clear h
  unfold be_X10_turn at h2
  split at h2
  · cases h2; exact ec_cV (bm_X10_isMachine l) bw_X10_isMachine bv_X10_isMachine (by decide) (by decide) (Or.inl (ec_in (i := 1356) (by decide +kernel) rfl)) (T := TX10) (N := 57) rfl (by decide) (by decide +kernel)
  · cases h2; exact ec_cS (bm_X10_isIn l) bw_X10_isIn bv_X10_isIn (by decide) (by decide) (Or.inl (ec_in (i := 1303) (by decide +kernel) rfl)) (by decide +kernel)
  · cases h2; exact ec_cV (bm_X10_finding l) bw_X10_finding bv_X10_finding (by decide) (by decide) (Or.inl (ec_in (i := 1282) (by decide +kernel) rfl)) (T := TX10) (N := 57) rfl (by decide) (by decide +kernel)
  · cases h2
theorem bj_X10_turn (l : Launch) : ex_ok l 1 22 bx_X10_turn := ⟨ec_fok fo_X10, ec_cok co_X10, so_X10, bk_X10_turn l, fun _ h => (by cases h), fun _ h => (by cases h), fun _ h => (by cases h), fun _ _ h => (by cases h)⟩
theorem bm_X10_turn (l : Launch) : ex_Met l yX10_turn cX10_turn 4 (some .int) 1 22 (ab_sp ab_hd bc_X10_turn) := ab_met (by decide) (by decide) rfl (bj_X10_turn l) bd_X10_turn ab_hcm ab_xk bz_X10_turn
theorem bw_X10_of : ec_cw yX10_of cX10_of 3 (some .int) := ⟨ec_in (i := 1367) (by decide +kernel) rfl, ec_in (i := 68) (by decide +kernel) rfl, by decide, by decide⟩
theorem bv_X10_of : Cond.instanceMethod yX10_of ∈ ec_tb ∧ Cond.selects yX10_of.cls yX10_of yX10_of ∈ ec_tb := ⟨ec_in (i := 1365) (by decide +kernel) rfl, ec_in (i := 1366) (by decide +kernel) rfl⟩
theorem bk_X10_of (l : Launch) : ∀ (ix n : Nat) (rc : Option Nat) (sp : ex_S), (be_X10_of ix).map (fun q => (q.1, q.2.1, ab_sp ab_hd q.2.2)) = some (n, rc, sp) → ex_cok l RX10 1 22 ix n rc sp := by
  intro ix n rc sp h
  obtain ⟨l0, h2, rfl⟩ := ab_dmk h
  clear h
  unfold be_X10_of at h2
  split at h2
  · cases h2; exact ec_cV (bm_X10_isMachine l) bw_X10_isMachine bv_X10_isMachine (by decide) (by decide) (Or.inl (ec_in (i := 1356) (by decide +kernel) rfl)) (T := TX10) (N := 57) rfl (by decide) (by decide +kernel)
  · cases h2; exact ec_cS (bm_X10_isIn l) bw_X10_isIn bv_X10_isIn (by decide) (by decide) (Or.inl (ec_in (i := 1303) (by decide +kernel) rfl)) (by decide +kernel)
  · cases h2; exact ec_cV (bm_X10_finding l) bw_X10_finding bv_X10_finding (by decide) (by decide) (Or.inl (ec_in (i := 1282) (by decide +kernel) rfl)) (T := TX10) (N := 57) rfl (by decide) (by decide +kernel)
  · cases h2
theorem bj_X10_of (l : Launch) : ex_ok l 1 22 bx_X10_of := ⟨ec_fok fo_X10, ec_cok co_X10, so_X10, bk_X10_of l, fun _ h => (by cases h), fun _ h => (by cases h), fun _ h => (by cases h), fun _ _ h => (by cases h)⟩
theorem bm_X10_of (l : Launch) : ex_Met l yX10_of cX10_of 3 (some .int) 1 22 (ab_sp ab_hd bc_X10_of) := ab_met (by decide) (by decide) rfl (bj_X10_of l) bd_X10_of ab_hcm ab_xk bz_X10_of
theorem bw_X10_spares : ec_cw yX10_spares cX10_spares 4 (some .int) := ⟨ec_in (i := 1371) (by decide +kernel) rfl, ec_in (i := 68) (by decide +kernel) rfl, by decide, by decide⟩
theorem bv_X10_spares : Cond.instanceMethod yX10_spares ∈ ec_tb ∧ Cond.selects yX10_spares.cls yX10_spares yX10_spares ∈ ec_tb := ⟨ec_in (i := 1369) (by decide +kernel) rfl, ec_in (i := 1370) (by decide +kernel) rfl⟩
theorem bk_X10_spares (l : Launch) : ∀ (ix n : Nat) (rc : Option Nat) (sp : ex_S), (be_X10_spares ix).map (fun q => (q.1, q.2.1, ab_sp ab_hd q.2.2)) = some (n, rc, sp) → ex_cok l RX10 1 22 ix n rc sp := by
  intro ix n rc sp h
  obtain ⟨l0, h2, rfl⟩ := ab_dmk h
  clear h
  unfold be_X10_spares at h2
  split at h2
  · cases h2; exact ec_cS (bm_X10_isIn l) bw_X10_isIn bv_X10_isIn (by decide) (by decide) (Or.inl (ec_in (i := 1303) (by decide +kernel) rfl)) (by decide +kernel)
  · cases h2; exact ec_cV (bm_X10_finding l) bw_X10_finding bv_X10_finding (by decide) (by decide) (Or.inl (ec_in (i := 1282) (by decide +kernel) rfl)) (T := TX10) (N := 57) rfl (by decide) (by decide +kernel)
  · cases h2
theorem bj_X10_spares (l : Launch) : ex_ok l 1 22 bx_X10_spares := ⟨ec_fok fo_X10, ec_cok co_X10, so_X10, bk_X10_spares l, fun _ h => (by cases h), fun _ h => (by cases h), fun _ h => (by cases h), fun _ _ h => (by cases h)⟩
theorem bm_X10_spares (l : Launch) : ex_Met l yX10_spares cX10_spares 4 (some .int) 1 22 (ab_sp ab_hd bc_X10_spares) := ab_met (by decide) (by decide) rfl (bj_X10_spares l) bd_X10_spares ab_hcm ab_xk bz_X10_spares
theorem bw_X10_isMended : ec_cw yX10_isMended cX10_isMended 4 (some .boolean) := ⟨ec_in (i := 1383) (by decide +kernel) rfl, ec_in (i := 68) (by decide +kernel) rfl, by decide, by decide⟩
theorem bv_X10_isMended : Cond.instanceMethod yX10_isMended ∈ ec_tb ∧ Cond.selects yX10_isMended.cls yX10_isMended yX10_isMended ∈ ec_tb := ⟨ec_in (i := 1382) (by decide +kernel) rfl, ec_in (i := 33) (by decide +kernel) rfl⟩
theorem bj_X10_isMended (l : Launch) : ex_ok l 0 0 bx_X10_isMended := ⟨ec_fok fo_X10, ec_cok co_X10, so_X10, fun _ _ _ _ h => (by cases h), fun _ h => (by cases h), fun _ h => (by cases h), fun _ h => (by cases h), fun _ _ h => (by cases h)⟩
theorem bm_X10_isMended (l : Launch) : ex_Met l yX10_isMended cX10_isMended 4 (some .boolean) 0 0 (ab_sp ab_hd bc_X10_isMended) := ab_met (by decide) (by decide) rfl (bj_X10_isMended l) bd_X10_isMended ab_hcm ab_xk bz_X10_isMended
theorem bw_X10_refusesMend : ec_cw yX10_refusesMend cX10_refusesMend 4 (some .int) := ⟨ec_in (i := 1379) (by decide +kernel) rfl, ec_in (i := 68) (by decide +kernel) rfl, by decide, by decide⟩
theorem bv_X10_refusesMend : Cond.instanceMethod yX10_refusesMend ∈ ec_tb ∧ Cond.selects yX10_refusesMend.cls yX10_refusesMend yX10_refusesMend ∈ ec_tb := ⟨ec_in (i := 1378) (by decide +kernel) rfl, ec_in (i := 32) (by decide +kernel) rfl⟩
theorem bk_X10_refusesMend (l : Launch) : ∀ (ix n : Nat) (rc : Option Nat) (sp : ex_S), (be_X10_refusesMend ix).map (fun q => (q.1, q.2.1, ab_sp ab_hd q.2.2)) = some (n, rc, sp) → ex_cok l RX10 1 23 ix n rc sp := by
  intro ix n rc sp h
  obtain ⟨l0, h2, rfl⟩ := ab_dmk h
  clear h
  unfold be_X10_refusesMend at h2
  split at h2
  · cases h2; exact ec_cV (bm_X10_isPerson l) bw_X10_isPerson bv_X10_isPerson (by decide) (by decide) (Or.inl (ec_in (i := 1332) (by decide +kernel) rfl)) (T := TX10) (N := 57) rfl (by decide) (by decide +kernel)
  · cases h2; exact ec_cV (bm_X10_isMachine l) bw_X10_isMachine bv_X10_isMachine (by decide) (by decide) (Or.inl (ec_in (i := 1356) (by decide +kernel) rfl)) (T := TX10) (N := 57) rfl (by decide) (by decide +kernel)
  · cases h2; exact ec_cS (bm_X10_isIn l) bw_X10_isIn bv_X10_isIn (by decide) (by decide) (Or.inl (ec_in (i := 1303) (by decide +kernel) rfl)) (by decide +kernel)
  · cases h2; exact ec_cV (bm_X10_isMended l) bw_X10_isMended bv_X10_isMended (by decide) (by decide) (Or.inl (ec_in (i := 1380) (by decide +kernel) rfl)) (T := TX10) (N := 57) rfl (by decide) (by decide +kernel)
  · cases h2
theorem bj_X10_refusesMend (l : Launch) : ex_ok l 1 23 bx_X10_refusesMend := ⟨ec_fok fo_X10, ec_cok co_X10, so_X10, bk_X10_refusesMend l, fun _ h => (by cases h), fun _ h => (by cases h), fun _ h => (by cases h), fun _ _ h => (by cases h)⟩
theorem bm_X10_refusesMend (l : Launch) : ex_Met l yX10_refusesMend cX10_refusesMend 4 (some .int) 1 23 (ab_sp ab_hd bc_X10_refusesMend) := ab_met (by decide) (by decide) rfl (bj_X10_refusesMend l) bd_X10_refusesMend ab_hcm ab_xk bz_X10_refusesMend
theorem bw_X10_beginMend : ec_cw yX10_beginMend cX10_beginMend 4 none := ⟨ec_in (i := 1387) (by decide +kernel) rfl, ec_in (i := 68) (by decide +kernel) rfl, by decide, by decide⟩
theorem bv_X10_beginMend : Cond.instanceMethod yX10_beginMend ∈ ec_tb ∧ Cond.selects yX10_beginMend.cls yX10_beginMend yX10_beginMend ∈ ec_tb := ⟨ec_in (i := 1386) (by decide +kernel) rfl, ec_in (i := 34) (by decide +kernel) rfl⟩
theorem bj_X10_beginMend (l : Launch) : ex_ok l 0 0 bx_X10_beginMend := ⟨ec_fok fo_X10, ec_cok co_X10, so_X10, fun _ _ _ _ h => (by cases h), fun _ h => (by cases h), fun _ h => (by cases h), fun _ h => (by cases h), fun _ _ h => (by cases h)⟩
theorem bm_X10_beginMend (l : Launch) : ex_Met l yX10_beginMend cX10_beginMend 4 none 0 0 (ab_sp ab_hd bc_X10_beginMend) := ab_met (by decide) (by decide) rfl (bj_X10_beginMend l) bd_X10_beginMend ab_hcm ab_xk bz_X10_beginMend
theorem bw_X10_repair : ec_cw yX10_repair cX10_repair 5 (some .int) := ⟨ec_in (i := 1375) (by decide +kernel) rfl, ec_in (i := 68) (by decide +kernel) rfl, by decide, by decide⟩
theorem bv_X10_repair : Cond.instanceMethod yX10_repair ∈ ec_tb ∧ Cond.selects yX10_repair.cls yX10_repair yX10_repair ∈ ec_tb := ⟨ec_in (i := 1373) (by decide +kernel) rfl, ec_in (i := 1374) (by decide +kernel) rfl⟩
theorem bk_X10_repair (l : Launch) : ∀ (ix n : Nat) (rc : Option Nat) (sp : ex_S), (be_X10_repair ix).map (fun q => (q.1, q.2.1, ab_sp ab_hd q.2.2)) = some (n, rc, sp) → ex_cok l RX10 2 46 ix n rc sp := by
  intro ix n rc sp h
  obtain ⟨l0, h2, rfl⟩ := ab_dmk h
  clear h
  unfold be_X10_repair at h2
  split at h2
  · cases h2; exact ec_cV (bm_X10_refusesMend l) bw_X10_refusesMend bv_X10_refusesMend (by decide) (by decide) (Or.inl (ec_in (i := 1376) (by decide +kernel) rfl)) (T := TX10) (N := 57) rfl (by decide) (by decide +kernel)
  · cases h2; exact ec_cV (bm_X10_finding l) bw_X10_finding bv_X10_finding (by decide) (by decide) (Or.inl (ec_in (i := 1282) (by decide +kernel) rfl)) (T := TX10) (N := 57) rfl (by decide) (by decide +kernel)
  · cases h2; exact ec_cV (bm_X10_beginMend l) bw_X10_beginMend bv_X10_beginMend (by decide) (by decide) (Or.inl (ec_in (i := 1384) (by decide +kernel) rfl)) (T := TX10) (N := 57) rfl (by decide) (by decide +kernel)
  · cases h2
theorem bj_X10_repair (l : Launch) : ex_ok l 2 46 bx_X10_repair := ⟨ec_fok fo_X10, ec_cok co_X10, so_X10, bk_X10_repair l, fun _ h => (by cases h), fun _ h => (by cases h), fun _ h => (by cases h), fun _ _ h => (by cases h)⟩
theorem bm_X10_repair (l : Launch) : ex_Met l yX10_repair cX10_repair 5 (some .int) 2 46 (ab_sp ab_hd bc_X10_repair) := ab_met (by decide) (by decide) rfl (bj_X10_repair l) bd_X10_repair ab_hcm ab_xk bz_X10_repair
theorem bw_X10_canShed : ec_cw yX10_canShed cX10_canShed 2 (some .boolean) := ⟨ec_in (i := 1395) (by decide +kernel) rfl, ec_in (i := 68) (by decide +kernel) rfl, by decide, by decide⟩
theorem bv_X10_canShed : Cond.instanceMethod yX10_canShed ∈ ec_tb ∧ Cond.selects yX10_canShed.cls yX10_canShed yX10_canShed ∈ ec_tb := ⟨ec_in (i := 1394) (by decide +kernel) rfl, ec_in (i := 35) (by decide +kernel) rfl⟩
theorem bj_X10_canShed (l : Launch) : ex_ok l 0 0 bx_X10_canShed := ⟨ec_fok fo_X10, ec_cok co_X10, so_X10, fun _ _ _ _ h => (by cases h), fun _ h => (by cases h), fun _ h => (by cases h), fun _ h => (by cases h), fun _ _ h => (by cases h)⟩
theorem bm_X10_canShed (l : Launch) : ex_Met l yX10_canShed cX10_canShed 2 (some .boolean) 0 0 (ab_sp ab_hd bc_X10_canShed) := ab_met (by decide) (by decide) rfl (bj_X10_canShed l) bd_X10_canShed ab_hcm ab_xk bz_X10_canShed
theorem bw_X10_together : ec_cw yX10_together cX10_together 7 (some .int) := ⟨ec_in (i := 1399) (by decide +kernel) rfl, ec_in (i := 68) (by decide +kernel) rfl, by decide, by decide⟩
theorem bv_X10_together : Cond.instanceMethod yX10_together ∈ ec_tb ∧ Cond.selects yX10_together.cls yX10_together yX10_together ∈ ec_tb := ⟨ec_in (i := 1398) (by decide +kernel) rfl, ec_in (i := 36) (by decide +kernel) rfl⟩
theorem bk_X10_together (l : Launch) : ∀ (ix n : Nat) (rc : Option Nat) (sp : ex_S), (be_X10_together ix).map (fun q => (q.1, q.2.1, ab_sp ab_hd q.2.2)) = some (n, rc, sp) → ex_cok l RX10 1 21 ix n rc sp := by
  intro ix n rc sp h
  obtain ⟨l0, h2, rfl⟩ := ab_dmk h
  clear h
  unfold be_X10_together at h2
  split at h2
  · cases h2; exact ec_cV (bm_X10_canShed l) bw_X10_canShed bv_X10_canShed (by decide) (by decide) (Or.inl (ec_in (i := 1392) (by decide +kernel) rfl)) (T := TX10) (N := 57) rfl (by decide) (by decide +kernel)
  · cases h2
theorem bj_X10_together (l : Launch) : ex_ok l 1 21 bx_X10_together := ⟨ec_fok fo_X10, ec_cok co_X10, so_X10, bk_X10_together l, fun _ h => (by cases h), fun _ h => (by cases h), fun _ h => (by cases h), fun _ _ h => (by cases h)⟩
theorem bm_X10_together (l : Launch) : ex_Met l yX10_together cX10_together 7 (some .int) 1 21 (ab_sp ab_hd bc_X10_together) := ab_met (by decide) (by decide) rfl (bj_X10_together l) bd_X10_together ab_hcm ab_xk bz_X10_together
theorem bw_X10_shed : ec_cw yX10_shed cX10_shed 8 (some .int) := ⟨ec_in (i := 1391) (by decide +kernel) rfl, ec_in (i := 68) (by decide +kernel) rfl, by decide, by decide⟩
theorem bv_X10_shed : Cond.instanceMethod yX10_shed ∈ ec_tb ∧ Cond.selects yX10_shed.cls yX10_shed yX10_shed ∈ ec_tb := ⟨ec_in (i := 1389) (by decide +kernel) rfl, ec_in (i := 1390) (by decide +kernel) rfl⟩
theorem bk_X10_shed (l : Launch) : ∀ (ix n : Nat) (rc : Option Nat) (sp : ex_S), (be_X10_shed ix).map (fun q => (q.1, q.2.1, ab_sp ab_hd q.2.2)) = some (n, rc, sp) → ex_cok l RX10 2 47 ix n rc sp := by
  intro ix n rc sp h
  obtain ⟨l0, h2, rfl⟩ := ab_dmk h
  clear h
  unfold be_X10_shed at h2
  split at h2
  · cases h2; exact ec_cS (bm_X10_isIn l) bw_X10_isIn bv_X10_isIn (by decide) (by decide) (Or.inl (ec_in (i := 1303) (by decide +kernel) rfl)) (by decide +kernel)
  · cases h2; exact ec_cV (bm_X10_finding l) bw_X10_finding bv_X10_finding (by decide) (by decide) (Or.inl (ec_in (i := 1282) (by decide +kernel) rfl)) (T := TX10) (N := 57) rfl (by decide) (by decide +kernel)
  · cases h2; exact ec_cV (bm_X10_canShed l) bw_X10_canShed bv_X10_canShed (by decide) (by decide) (Or.inl (ec_in (i := 1392) (by decide +kernel) rfl)) (T := TX10) (N := 57) rfl (by decide) (by decide +kernel)
  · cases h2; exact ec_cV (bm_X10_together l) bw_X10_together bv_X10_together (by decide) (by decide) (Or.inl (ec_in (i := 1396) (by decide +kernel) rfl)) (T := TX10) (N := 57) rfl (by decide) (by decide +kernel)
  · cases h2
theorem bj_X10_shed (l : Launch) : ex_ok l 2 47 bx_X10_shed := ⟨ec_fok fo_X10, ec_cok co_X10, so_X10, bk_X10_shed l, fun _ h => (by cases h), fun _ h => (by cases h), fun _ h => (by cases h), fun _ _ h => (by cases h)⟩
theorem bm_X10_shed (l : Launch) : ex_Met l yX10_shed cX10_shed 8 (some .int) 2 47 (ab_sp ab_hd bc_X10_shed) := ab_met (by decide) (by decide) rfl (bj_X10_shed l) bd_X10_shed ab_hcm ab_xk bz_X10_shed
theorem bw_X10_endText : ec_cw yX10_endText cX10_endText 2 none := ⟨ec_in (i := 1427) (by decide +kernel) rfl, ec_in (i := 68) (by decide +kernel) rfl, by decide, by decide⟩
theorem bv_X10_endText : Cond.instanceMethod yX10_endText ∈ ec_tb ∧ Cond.selects yX10_endText.cls yX10_endText yX10_endText ∈ ec_tb := ⟨ec_in (i := 1426) (by decide +kernel) rfl, ec_in (i := 38) (by decide +kernel) rfl⟩
theorem bj_X10_endText (l : Launch) : ex_ok l 0 0 bx_X10_endText := ⟨ec_fok fo_X10, ec_cok co_X10, so_X10, fun _ _ _ _ h => (by cases h), fun _ h => (by cases h), fun _ h => (by cases h), fun _ h => (by cases h), fun _ _ h => (by cases h)⟩
theorem bm_X10_endText (l : Launch) : ex_Met l yX10_endText cX10_endText 2 none 0 0 (ab_sp ab_hd bc_X10_endText) := ab_met (by decide) (by decide) rfl (bj_X10_endText l) bd_X10_endText ab_hcm ab_xk bz_X10_endText
theorem bw_X10_abortText : ec_cw yX10_abortText cX10_abortText 1 none := ⟨ec_in (i := 1423) (by decide +kernel) rfl, ec_in (i := 68) (by decide +kernel) rfl, by decide, by decide⟩
theorem bv_X10_abortText : Cond.instanceMethod yX10_abortText ∈ ec_tb ∧ Cond.selects yX10_abortText.cls yX10_abortText yX10_abortText ∈ ec_tb := ⟨ec_in (i := 1422) (by decide +kernel) rfl, ec_in (i := 37) (by decide +kernel) rfl⟩
theorem bk_X10_abortText (l : Launch) : ∀ (ix n : Nat) (rc : Option Nat) (sp : ex_S), (be_X10_abortText ix).map (fun q => (q.1, q.2.1, ab_sp ab_hd q.2.2)) = some (n, rc, sp) → ex_cok l RX10 1 21 ix n rc sp := by
  intro ix n rc sp h
  obtain ⟨l0, h2, rfl⟩ := ab_dmk h
  clear h
  unfold be_X10_abortText at h2
  split at h2
  · cases h2; exact ec_cV (bm_X10_endText l) bw_X10_endText bv_X10_endText (by decide) (by decide) (Or.inl (ec_in (i := 1424) (by decide +kernel) rfl)) (T := TX10) (N := 57) rfl (by decide) (by decide +kernel)
  · cases h2
theorem bj_X10_abortText (l : Launch) : ex_ok l 1 21 bx_X10_abortText := ⟨ec_fok fo_X10, ec_cok co_X10, so_X10, bk_X10_abortText l, fun _ h => (by cases h), fun _ h => (by cases h), fun _ h => (by cases h), fun _ _ h => (by cases h)⟩
theorem bm_X10_abortText (l : Launch) : ex_Met l yX10_abortText cX10_abortText 1 none 1 21 (ab_sp ab_hd bc_X10_abortText) := ab_met (by decide) (by decide) rfl (bj_X10_abortText l) bd_X10_abortText ab_hcm ab_xk bz_X10_abortText
theorem bw_X10_isLine : ec_cw yX10_isLine cX10_isLine 2 (some .boolean) := ⟨ec_in (i := 1462) (by decide +kernel) rfl, ec_in (i := 68) (by decide +kernel) rfl, by decide, by decide⟩
theorem bv_X10_isLine : Cond.instanceMethod yX10_isLine ∈ ec_tb ∧ Cond.selects yX10_isLine.cls yX10_isLine yX10_isLine ∈ ec_tb := ⟨ec_in (i := 1461) (by decide +kernel) rfl, ec_in (i := 41) (by decide +kernel) rfl⟩
theorem bj_X10_isLine (l : Launch) : ex_ok l 0 0 bx_X10_isLine := ⟨ec_fok fo_X10, ec_cok co_X10, so_X10, fun _ _ _ _ h => (by cases h), fun _ h => (by cases h), fun _ h => (by cases h), fun _ h => (by cases h), fun _ _ h => (by cases h)⟩
theorem bm_X10_isLine (l : Launch) : ex_Met l yX10_isLine cX10_isLine 2 (some .boolean) 0 0 (ab_sp ab_hd bc_X10_isLine) := ab_met (by decide) (by decide) rfl (bj_X10_isLine l) bd_X10_isLine ab_hcm ab_xk bz_X10_isLine
theorem bw_X10_canCheck : ec_cw yX10_canCheck cX10_canCheck 4 (some .boolean) := ⟨ec_in (i := 1470) (by decide +kernel) rfl, ec_in (i := 68) (by decide +kernel) rfl, by decide, by decide⟩
theorem bv_X10_canCheck : Cond.instanceMethod yX10_canCheck ∈ ec_tb ∧ Cond.selects yX10_canCheck.cls yX10_canCheck yX10_canCheck ∈ ec_tb := ⟨ec_in (i := 1469) (by decide +kernel) rfl, ec_in (i := 43) (by decide +kernel) rfl⟩
theorem bk_X10_canCheck (l : Launch) : ∀ (ix n : Nat) (rc : Option Nat) (sp : ex_S), (be_X10_canCheck ix).map (fun q => (q.1, q.2.1, ab_sp ab_hd q.2.2)) = some (n, rc, sp) → ex_cok l RX10 1 22 ix n rc sp := by
  intro ix n rc sp h
  obtain ⟨l0, h2, rfl⟩ := ab_dmk h
  clear h
  unfold be_X10_canCheck at h2
  split at h2
  · cases h2; exact ec_cV (bm_X10_isLine l) bw_X10_isLine bv_X10_isLine (by decide) (by decide) (Or.inl (ec_in (i := 1459) (by decide +kernel) rfl)) (T := TX10) (N := 57) rfl (by decide) (by decide +kernel)
  · cases h2; exact ec_cS (bm_X10_isIn l) bw_X10_isIn bv_X10_isIn (by decide) (by decide) (Or.inl (ec_in (i := 1303) (by decide +kernel) rfl)) (by decide +kernel)
  · cases h2; exact ec_cV (bm_X10_isModule l) bw_X10_isModule bv_X10_isModule (by decide) (by decide) (Or.inl (ec_in (i := 1291) (by decide +kernel) rfl)) (T := TX10) (N := 57) rfl (by decide) (by decide +kernel)
  · cases h2; exact ec_cV (bm_X10_isMachine l) bw_X10_isMachine bv_X10_isMachine (by decide) (by decide) (Or.inl (ec_in (i := 1356) (by decide +kernel) rfl)) (T := TX10) (N := 57) rfl (by decide) (by decide +kernel)
  · cases h2
theorem bj_X10_canCheck (l : Launch) : ex_ok l 1 22 bx_X10_canCheck := ⟨ec_fok fo_X10, ec_cok co_X10, so_X10, bk_X10_canCheck l, fun _ h => (by cases h), fun _ h => (by cases h), fun _ h => (by cases h), fun _ _ h => (by cases h)⟩
theorem bm_X10_canCheck (l : Launch) : ex_Met l yX10_canCheck cX10_canCheck 4 (some .boolean) 1 22 (ab_sp ab_hd bc_X10_canCheck) := ab_met (by decide) (by decide) rfl (bj_X10_canCheck l) bd_X10_canCheck ab_hcm ab_xk bz_X10_canCheck
theorem bw_X10_isSo : ec_cw yX10_isSo cX10_isSo 3 (some .boolean) := ⟨ec_in (i := 1474) (by decide +kernel) rfl, ec_in (i := 68) (by decide +kernel) rfl, by decide, by decide⟩
theorem bv_X10_isSo : Cond.instanceMethod yX10_isSo ∈ ec_tb ∧ Cond.selects yX10_isSo.cls yX10_isSo yX10_isSo ∈ ec_tb := ⟨ec_in (i := 1473) (by decide +kernel) rfl, ec_in (i := 44) (by decide +kernel) rfl⟩
theorem bj_X10_isSo (l : Launch) : ex_ok l 0 0 bx_X10_isSo := ⟨ec_fok fo_X10, ec_cok co_X10, so_X10, fun _ _ _ _ h => (by cases h), fun _ h => (by cases h), fun _ h => (by cases h), fun _ h => (by cases h), fun _ _ h => (by cases h)⟩
theorem bm_X10_isSo (l : Launch) : ex_Met l yX10_isSo cX10_isSo 3 (some .boolean) 0 0 (ab_sp ab_hd bc_X10_isSo) := ab_met (by decide) (by decide) rfl (bj_X10_isSo l) bd_X10_isSo ab_hcm ab_xk bz_X10_isSo
theorem bw_X10_doLine : ec_cw yX10_doLine cX10_doLine 5 (some .boolean) := ⟨ec_in (i := 1466) (by decide +kernel) rfl, ec_in (i := 68) (by decide +kernel) rfl, by decide, by decide⟩
theorem bv_X10_doLine : Cond.instanceMethod yX10_doLine ∈ ec_tb ∧ Cond.selects yX10_doLine.cls yX10_doLine yX10_doLine ∈ ec_tb := ⟨ec_in (i := 1465) (by decide +kernel) rfl, ec_in (i := 42) (by decide +kernel) rfl⟩
theorem bk_X10_doLine (l : Launch) : ∀ (ix n : Nat) (rc : Option Nat) (sp : ex_S), (be_X10_doLine ix).map (fun q => (q.1, q.2.1, ab_sp ab_hd q.2.2)) = some (n, rc, sp) → ex_cok l RX10 2 46 ix n rc sp := by
  intro ix n rc sp h
  obtain ⟨l0, h2, rfl⟩ := ab_dmk h
  clear h
  unfold be_X10_doLine at h2
  split at h2
  · cases h2; exact ec_cV (bm_X10_canCheck l) bw_X10_canCheck bv_X10_canCheck (by decide) (by decide) (Or.inl (ec_in (i := 1467) (by decide +kernel) rfl)) (T := TX10) (N := 57) rfl (by decide) (by decide +kernel)
  · cases h2; exact ec_cV (bm_X10_isSo l) bw_X10_isSo bv_X10_isSo (by decide) (by decide) (Or.inl (ec_in (i := 1471) (by decide +kernel) rfl)) (T := TX10) (N := 57) rfl (by decide) (by decide +kernel)
  · cases h2; exact ec_cV (bm_X10_isMachine l) bw_X10_isMachine bv_X10_isMachine (by decide) (by decide) (Or.inl (ec_in (i := 1356) (by decide +kernel) rfl)) (T := TX10) (N := 57) rfl (by decide) (by decide +kernel)
  · cases h2; exact ec_cV (bm_X10_isHatch l) bw_X10_isHatch bv_X10_isHatch (by decide) (by decide) (Or.inl (ec_in (i := 1299) (by decide +kernel) rfl)) (T := TX10) (N := 57) rfl (by decide) (by decide +kernel)
  · cases h2; exact ec_cS (bm_X10_isIn l) bw_X10_isIn bv_X10_isIn (by decide) (by decide) (Or.inl (ec_in (i := 1303) (by decide +kernel) rfl)) (by decide +kernel)
  · cases h2; exact ec_cV (bm_X10_isPerson l) bw_X10_isPerson bv_X10_isPerson (by decide) (by decide) (Or.inl (ec_in (i := 1332) (by decide +kernel) rfl)) (T := TX10) (N := 57) rfl (by decide) (by decide +kernel)
  · cases h2; exact ec_cV (bm_X10_isModule l) bw_X10_isModule bv_X10_isModule (by decide) (by decide) (Or.inl (ec_in (i := 1291) (by decide +kernel) rfl)) (T := TX10) (N := 57) rfl (by decide) (by decide +kernel)
  · cases h2; exact ec_cV (bm_X10_canGo l) bw_X10_canGo bv_X10_canGo (by decide) (by decide) (Or.inl (ec_in (i := 1336) (by decide +kernel) rfl)) (T := TX10) (N := 57) rfl (by decide) (by decide +kernel)
  · cases h2; exact ec_cV (bm_X10_isLine l) bw_X10_isLine bv_X10_isLine (by decide) (by decide) (Or.inl (ec_in (i := 1459) (by decide +kernel) rfl)) (T := TX10) (N := 57) rfl (by decide) (by decide +kernel)
  · cases h2; exact ec_cV (bm_X10_refusesMend l) bw_X10_refusesMend bv_X10_refusesMend (by decide) (by decide) (Or.inl (ec_in (i := 1376) (by decide +kernel) rfl)) (T := TX10) (N := 57) rfl (by decide) (by decide +kernel)
  · cases h2; exact ec_cV (bm_X10_beginMend l) bw_X10_beginMend bv_X10_beginMend (by decide) (by decide) (Or.inl (ec_in (i := 1384) (by decide +kernel) rfl)) (T := TX10) (N := 57) rfl (by decide) (by decide +kernel)
  · cases h2
theorem bj_X10_doLine (l : Launch) : ex_ok l 2 46 bx_X10_doLine := ⟨ec_fok fo_X10, ec_cok co_X10, so_X10, bk_X10_doLine l, fun _ h => (by cases h), fun _ h => (by cases h), fun _ h => (by cases h), fun _ _ h => (by cases h)⟩
theorem bm_X10_doLine (l : Launch) : ex_Met l yX10_doLine cX10_doLine 5 (some .boolean) 2 46 (ab_sp ab_hd bc_X10_doLine) := ab_met (by decide) (by decide) rfl (bj_X10_doLine l) bd_X10_doLine ab_hcm ab_xk bz_X10_doLine
theorem bw_X10_runText : ec_cw yX10_runText cX10_runText 2 none := ⟨ec_in (i := 1458) (by decide +kernel) rfl, ec_in (i := 68) (by decide +kernel) rfl, by decide, by decide⟩
theorem bv_X10_runText : Cond.instanceMethod yX10_runText ∈ ec_tb ∧ Cond.selects yX10_runText.cls yX10_runText yX10_runText ∈ ec_tb := ⟨ec_in (i := 1457) (by decide +kernel) rfl, ec_in (i := 40) (by decide +kernel) rfl⟩
theorem bk_X10_runText (l : Launch) : ∀ (ix n : Nat) (rc : Option Nat) (sp : ex_S), (be_X10_runText ix).map (fun q => (q.1, q.2.1, ab_sp ab_hd q.2.2)) = some (n, rc, sp) → ex_cok l RX10 3 70 ix n rc sp := by
  intro ix n rc sp h
  obtain ⟨l0, h2, rfl⟩ := ab_dmk h
  clear h
  unfold be_X10_runText at h2
  split at h2
  · cases h2; exact ec_cV (bm_X10_isLine l) bw_X10_isLine bv_X10_isLine (by decide) (by decide) (Or.inl (ec_in (i := 1459) (by decide +kernel) rfl)) (T := TX10) (N := 57) rfl (by decide) (by decide +kernel)
  · cases h2; exact ec_cV (bm_X10_endText l) bw_X10_endText bv_X10_endText (by decide) (by decide) (Or.inl (ec_in (i := 1424) (by decide +kernel) rfl)) (T := TX10) (N := 57) rfl (by decide) (by decide +kernel)
  · cases h2; exact ec_cV (bm_X10_doLine l) bw_X10_doLine bv_X10_doLine (by decide) (by decide) (Or.inl (ec_in (i := 1463) (by decide +kernel) rfl)) (T := TX10) (N := 57) rfl (by decide) (by decide +kernel)
  · cases h2; exact ec_cV (bm_X10_abortText l) bw_X10_abortText bv_X10_abortText (by decide) (by decide) (Or.inl (ec_in (i := 1420) (by decide +kernel) rfl)) (T := TX10) (N := 57) rfl (by decide) (by decide +kernel)
  · cases h2
theorem bj_X10_runText (l : Launch) : ex_ok l 3 70 bx_X10_runText := ⟨ec_fok fo_X10, ec_cok co_X10, so_X10, bk_X10_runText l, fun _ h => (by cases h), fun _ h => (by cases h), fun _ h => (by cases h), fun _ _ h => (by cases h)⟩
theorem bm_X10_runText (l : Launch) : ex_Met l yX10_runText cX10_runText 2 none 3 70 (ab_sp ab_hd bc_X10_runText) := ab_met (by decide) (by decide) rfl (bj_X10_runText l) bd_X10_runText ab_hcm ab_xk bz_X10_runText
theorem bw_X10_line : ec_cw yX10_line cX10_line 5 (some .int) := ⟨ec_in (i := 1403) (by decide +kernel) rfl, ec_in (i := 68) (by decide +kernel) rfl, by decide, by decide⟩
theorem bv_X10_line : Cond.instanceMethod yX10_line ∈ ec_tb ∧ Cond.selects yX10_line.cls yX10_line yX10_line ∈ ec_tb := ⟨ec_in (i := 1401) (by decide +kernel) rfl, ec_in (i := 1402) (by decide +kernel) rfl⟩
theorem bk_X10_line (l : Launch) : ∀ (ix n : Nat) (rc : Option Nat) (sp : ex_S), (be_X10_line ix).map (fun q => (q.1, q.2.1, ab_sp ab_hd q.2.2)) = some (n, rc, sp) → ex_cok l RX10 1 22 ix n rc sp := by
  intro ix n rc sp h
  obtain ⟨l0, h2, rfl⟩ := ab_dmk h
  clear h
  unfold be_X10_line at h2
  split at h2
  · cases h2; exact ec_cS (bm_X10_isIn l) bw_X10_isIn bv_X10_isIn (by decide) (by decide) (Or.inl (ec_in (i := 1303) (by decide +kernel) rfl)) (by decide +kernel)
  · cases h2; exact ec_cV (bm_X10_finding l) bw_X10_finding bv_X10_finding (by decide) (by decide) (Or.inl (ec_in (i := 1282) (by decide +kernel) rfl)) (T := TX10) (N := 57) rfl (by decide) (by decide +kernel)
  · cases h2
theorem bj_X10_line (l : Launch) : ex_ok l 1 22 bx_X10_line := ⟨ec_fok fo_X10, ec_cok co_X10, so_X10, bk_X10_line l, fun _ h => (by cases h), fun _ h => (by cases h), fun _ h => (by cases h), fun _ _ h => (by cases h)⟩
theorem bm_X10_line (l : Launch) : ex_Met l yX10_line cX10_line 5 (some .int) 1 22 (ab_sp ab_hd bc_X10_line) := ab_met (by decide) (by decide) rfl (bj_X10_line l) bd_X10_line ab_hcm ab_xk bz_X10_line
theorem bw_X10_erase : ec_cw yX10_erase cX10_erase 2 (some .int) := ⟨ec_in (i := 1407) (by decide +kernel) rfl, ec_in (i := 68) (by decide +kernel) rfl, by decide, by decide⟩
theorem bv_X10_erase : Cond.instanceMethod yX10_erase ∈ ec_tb ∧ Cond.selects yX10_erase.cls yX10_erase yX10_erase ∈ ec_tb := ⟨ec_in (i := 1405) (by decide +kernel) rfl, ec_in (i := 1406) (by decide +kernel) rfl⟩
theorem bk_X10_erase (l : Launch) : ∀ (ix n : Nat) (rc : Option Nat) (sp : ex_S), (be_X10_erase ix).map (fun q => (q.1, q.2.1, ab_sp ab_hd q.2.2)) = some (n, rc, sp) → ex_cok l RX10 1 21 ix n rc sp := by
  intro ix n rc sp h
  obtain ⟨l0, h2, rfl⟩ := ab_dmk h
  clear h
  unfold be_X10_erase at h2
  split at h2
  · cases h2; exact ec_cV (bm_X10_finding l) bw_X10_finding bv_X10_finding (by decide) (by decide) (Or.inl (ec_in (i := 1282) (by decide +kernel) rfl)) (T := TX10) (N := 57) rfl (by decide) (by decide +kernel)
  · cases h2
theorem bj_X10_erase (l : Launch) : ex_ok l 1 21 bx_X10_erase := ⟨ec_fok fo_X10, ec_cok co_X10, so_X10, bk_X10_erase l, fun _ h => (by cases h), fun _ h => (by cases h), fun _ h => (by cases h), fun _ _ h => (by cases h)⟩
theorem bm_X10_erase (l : Launch) : ex_Met l yX10_erase cX10_erase 2 (some .int) 1 21 (ab_sp ab_hd bc_X10_erase) := ab_met (by decide) (by decide) rfl (bj_X10_erase l) bd_X10_erase ab_hcm ab_xk bz_X10_erase
theorem bw_X10_begin : ec_cw yX10_begin cX10_begin 1 (some .int) := ⟨ec_in (i := 1411) (by decide +kernel) rfl, ec_in (i := 68) (by decide +kernel) rfl, by decide, by decide⟩
theorem bv_X10_begin : Cond.instanceMethod yX10_begin ∈ ec_tb ∧ Cond.selects yX10_begin.cls yX10_begin yX10_begin ∈ ec_tb := ⟨ec_in (i := 1409) (by decide +kernel) rfl, ec_in (i := 1410) (by decide +kernel) rfl⟩
theorem bk_X10_begin (l : Launch) : ∀ (ix n : Nat) (rc : Option Nat) (sp : ex_S), (be_X10_begin ix).map (fun q => (q.1, q.2.1, ab_sp ab_hd q.2.2)) = some (n, rc, sp) → ex_cok l RX10 1 21 ix n rc sp := by
  intro ix n rc sp h
  obtain ⟨l0, h2, rfl⟩ := ab_dmk h
  clear h
  unfold be_X10_begin at h2
  split at h2
  · cases h2; exact ec_cV (bm_X10_finding l) bw_X10_finding bv_X10_finding (by decide) (by decide) (Or.inl (ec_in (i := 1282) (by decide +kernel) rfl)) (T := TX10) (N := 57) rfl (by decide) (by decide +kernel)
  · cases h2
theorem bj_X10_begin (l : Launch) : ex_ok l 1 21 bx_X10_begin := ⟨ec_fok fo_X10, ec_cok co_X10, so_X10, bk_X10_begin l, fun _ h => (by cases h), fun _ h => (by cases h), fun _ h => (by cases h), fun _ _ h => (by cases h)⟩
theorem bm_X10_begin (l : Launch) : ex_Met l yX10_begin cX10_begin 1 (some .int) 1 21 (ab_sp ab_hd bc_X10_begin) := ab_met (by decide) (by decide) rfl (bj_X10_begin l) bd_X10_begin ab_hcm ab_xk bz_X10_begin
theorem bw_X10_halt : ec_cw yX10_halt cX10_halt 2 (some .int) := ⟨ec_in (i := 1415) (by decide +kernel) rfl, ec_in (i := 68) (by decide +kernel) rfl, by decide, by decide⟩
theorem bv_X10_halt : Cond.instanceMethod yX10_halt ∈ ec_tb ∧ Cond.selects yX10_halt.cls yX10_halt yX10_halt ∈ ec_tb := ⟨ec_in (i := 1413) (by decide +kernel) rfl, ec_in (i := 1414) (by decide +kernel) rfl⟩
theorem bk_X10_halt (l : Launch) : ∀ (ix n : Nat) (rc : Option Nat) (sp : ex_S), (be_X10_halt ix).map (fun q => (q.1, q.2.1, ab_sp ab_hd q.2.2)) = some (n, rc, sp) → ex_cok l RX10 1 22 ix n rc sp := by
  intro ix n rc sp h
  obtain ⟨l0, h2, rfl⟩ := ab_dmk h
  clear h
  unfold be_X10_halt at h2
  split at h2
  · cases h2; exact ec_cS (bm_X10_isIn l) bw_X10_isIn bv_X10_isIn (by decide) (by decide) (Or.inl (ec_in (i := 1303) (by decide +kernel) rfl)) (by decide +kernel)
  · cases h2; exact ec_cV (bm_X10_finding l) bw_X10_finding bv_X10_finding (by decide) (by decide) (Or.inl (ec_in (i := 1282) (by decide +kernel) rfl)) (T := TX10) (N := 57) rfl (by decide) (by decide +kernel)
  · cases h2
theorem bj_X10_halt (l : Launch) : ex_ok l 1 22 bx_X10_halt := ⟨ec_fok fo_X10, ec_cok co_X10, so_X10, bk_X10_halt l, fun _ h => (by cases h), fun _ h => (by cases h), fun _ h => (by cases h), fun _ _ h => (by cases h)⟩
theorem bm_X10_halt (l : Launch) : ex_Met l yX10_halt cX10_halt 2 (some .int) 1 22 (ab_sp ab_hd bc_X10_halt) := ab_met (by decide) (by decide) rfl (bj_X10_halt l) bd_X10_halt ab_hcm ab_xk bz_X10_halt
theorem bw_X10_abort : ec_cw yX10_abort cX10_abort 1 (some .int) := ⟨ec_in (i := 1419) (by decide +kernel) rfl, ec_in (i := 68) (by decide +kernel) rfl, by decide, by decide⟩
theorem bv_X10_abort : Cond.instanceMethod yX10_abort ∈ ec_tb ∧ Cond.selects yX10_abort.cls yX10_abort yX10_abort ∈ ec_tb := ⟨ec_in (i := 1417) (by decide +kernel) rfl, ec_in (i := 1418) (by decide +kernel) rfl⟩
theorem bk_X10_abort (l : Launch) : ∀ (ix n : Nat) (rc : Option Nat) (sp : ex_S), (be_X10_abort ix).map (fun q => (q.1, q.2.1, ab_sp ab_hd q.2.2)) = some (n, rc, sp) → ex_cok l RX10 2 41 ix n rc sp := by
  intro ix n rc sp h
  obtain ⟨l0, h2, rfl⟩ := ab_dmk h
  clear h
  unfold be_X10_abort at h2
  split at h2
  · cases h2; exact ec_cV (bm_X10_finding l) bw_X10_finding bv_X10_finding (by decide) (by decide) (Or.inl (ec_in (i := 1282) (by decide +kernel) rfl)) (T := TX10) (N := 57) rfl (by decide) (by decide +kernel)
  · cases h2; exact ec_cV (bm_X10_abortText l) bw_X10_abortText bv_X10_abortText (by decide) (by decide) (Or.inl (ec_in (i := 1420) (by decide +kernel) rfl)) (T := TX10) (N := 57) rfl (by decide) (by decide +kernel)
  · cases h2
theorem bj_X10_abort (l : Launch) : ex_ok l 2 41 bx_X10_abort := ⟨ec_fok fo_X10, ec_cok co_X10, so_X10, bk_X10_abort l, fun _ h => (by cases h), fun _ h => (by cases h), fun _ h => (by cases h), fun _ _ h => (by cases h)⟩
theorem bm_X10_abort (l : Launch) : ex_Met l yX10_abort cX10_abort 1 (some .int) 2 41 (ab_sp ab_hd bc_X10_abort) := ab_met (by decide) (by decide) rfl (bj_X10_abort l) bd_X10_abort ab_hcm ab_xk bz_X10_abort
theorem bw_X10_text : ec_cw yX10_text cX10_text 2 (some .int) := ⟨ec_in (i := 1431) (by decide +kernel) rfl, ec_in (i := 68) (by decide +kernel) rfl, by decide, by decide⟩
theorem bv_X10_text : Cond.instanceMethod yX10_text ∈ ec_tb ∧ Cond.selects yX10_text.cls yX10_text yX10_text ∈ ec_tb := ⟨ec_in (i := 1429) (by decide +kernel) rfl, ec_in (i := 1430) (by decide +kernel) rfl⟩
theorem bk_X10_text (l : Launch) : ∀ (ix n : Nat) (rc : Option Nat) (sp : ex_S), (be_X10_text ix).map (fun q => (q.1, q.2.1, ab_sp ab_hd q.2.2)) = some (n, rc, sp) → ex_cok l RX10 1 22 ix n rc sp := by
  intro ix n rc sp h
  obtain ⟨l0, h2, rfl⟩ := ab_dmk h
  clear h
  unfold be_X10_text at h2
  split at h2
  · cases h2; exact ec_cS (bm_X10_isIn l) bw_X10_isIn bv_X10_isIn (by decide) (by decide) (Or.inl (ec_in (i := 1303) (by decide +kernel) rfl)) (by decide +kernel)
  · cases h2; exact ec_cV (bm_X10_finding l) bw_X10_finding bv_X10_finding (by decide) (by decide) (Or.inl (ec_in (i := 1282) (by decide +kernel) rfl)) (T := TX10) (N := 57) rfl (by decide) (by decide +kernel)
  · cases h2
theorem bj_X10_text (l : Launch) : ex_ok l 1 22 bx_X10_text := ⟨ec_fok fo_X10, ec_cok co_X10, so_X10, bk_X10_text l, fun _ h => (by cases h), fun _ h => (by cases h), fun _ h => (by cases h), fun _ _ h => (by cases h)⟩
theorem bm_X10_text (l : Launch) : ex_Met l yX10_text cX10_text 2 (some .int) 1 22 (ab_sp ab_hd bc_X10_text) := ab_met (by decide) (by decide) rfl (bj_X10_text l) bd_X10_text ab_hcm ab_xk bz_X10_text
theorem bw_X10_mendAll : ec_cw yX10_mendAll cX10_mendAll 2 none := ⟨ec_in (i := 1478) (by decide +kernel) rfl, ec_in (i := 68) (by decide +kernel) rfl, by decide, by decide⟩
theorem bv_X10_mendAll : Cond.instanceMethod yX10_mendAll ∈ ec_tb ∧ Cond.selects yX10_mendAll.cls yX10_mendAll yX10_mendAll ∈ ec_tb := ⟨ec_in (i := 1477) (by decide +kernel) rfl, ec_in (i := 45) (by decide +kernel) rfl⟩
theorem bj_X10_mendAll (l : Launch) : ex_ok l 0 0 bx_X10_mendAll := ⟨ec_fok fo_X10, ec_cok co_X10, so_X10, fun _ _ _ _ h => (by cases h), fun _ h => (by cases h), fun _ h => (by cases h), fun _ h => (by cases h), fun _ _ h => (by cases h)⟩
theorem bm_X10_mendAll (l : Launch) : ex_Met l yX10_mendAll cX10_mendAll 2 none 0 0 (ab_sp ab_hd bc_X10_mendAll) := ab_met (by decide) (by decide) rfl (bj_X10_mendAll l) bd_X10_mendAll ab_hcm ab_xk bz_X10_mendAll
theorem bw_X10_feedAll : ec_cw yX10_feedAll cX10_feedAll 4 none := ⟨ec_in (i := 1482) (by decide +kernel) rfl, ec_in (i := 68) (by decide +kernel) rfl, by decide, by decide⟩
theorem bv_X10_feedAll : Cond.instanceMethod yX10_feedAll ∈ ec_tb ∧ Cond.selects yX10_feedAll.cls yX10_feedAll yX10_feedAll ∈ ec_tb := ⟨ec_in (i := 1481) (by decide +kernel) rfl, ec_in (i := 46) (by decide +kernel) rfl⟩
theorem bk_X10_feedAll (l : Launch) : ∀ (ix n : Nat) (rc : Option Nat) (sp : ex_S), (be_X10_feedAll ix).map (fun q => (q.1, q.2.1, ab_sp ab_hd q.2.2)) = some (n, rc, sp) → ex_cok l RX10 1 21 ix n rc sp := by
  intro ix n rc sp h
  obtain ⟨l0, h2, rfl⟩ := ab_dmk h
  clear h
  unfold be_X10_feedAll at h2
  split at h2
  · cases h2; exact ec_cV (bm_X10_canShed l) bw_X10_canShed bv_X10_canShed (by decide) (by decide) (Or.inl (ec_in (i := 1392) (by decide +kernel) rfl)) (T := TX10) (N := 57) rfl (by decide) (by decide +kernel)
  · cases h2
theorem bj_X10_feedAll (l : Launch) : ex_ok l 1 21 bx_X10_feedAll := ⟨ec_fok fo_X10, ec_cok co_X10, so_X10, bk_X10_feedAll l, fun _ h => (by cases h), fun _ h => (by cases h), fun _ h => (by cases h), fun _ _ h => (by cases h)⟩
theorem bm_X10_feedAll (l : Launch) : ex_Met l yX10_feedAll cX10_feedAll 4 none 1 21 (ab_sp ab_hd bc_X10_feedAll) := ab_met (by decide) (by decide) rfl (bj_X10_feedAll l) bd_X10_feedAll ab_hcm ab_xk bz_X10_feedAll
theorem bw_X10_lesser : ec_cw yX10_lesser cX10_lesser 2 (some .int) := ⟨ec_in (i := 1438) (by decide +kernel) rfl, ec_in (i := 68) (by decide +kernel) rfl, by decide, by decide⟩
theorem bv_X10_lesser : Cond.static yX10_lesser ∈ ec_tb := ec_in (i := 1437) (by decide +kernel) rfl
theorem bj_X10_lesser (l : Launch) : ex_ok l 0 0 bx_X10_lesser := ⟨ec_fok fo_X10, ec_cok co_X10, so_X10, fun _ _ _ _ h => (by cases h), fun _ h => (by cases h), fun _ h => (by cases h), fun _ h => (by cases h), fun _ _ h => (by cases h)⟩
theorem bm_X10_lesser (l : Launch) : ex_Met l yX10_lesser cX10_lesser 2 (some .int) 0 0 (ab_sp ab_hd bc_X10_lesser) := ab_met (by decide) (by decide) rfl (bj_X10_lesser l) bd_X10_lesser ab_hcm ab_xk bz_X10_lesser
theorem bw_X10_workOf : ec_cw yX10_workOf cX10_workOf 4 none := ⟨ec_in (i := 1486) (by decide +kernel) rfl, ec_in (i := 68) (by decide +kernel) rfl, by decide, by decide⟩
theorem bv_X10_workOf : Cond.instanceMethod yX10_workOf ∈ ec_tb ∧ Cond.selects yX10_workOf.cls yX10_workOf yX10_workOf ∈ ec_tb := ⟨ec_in (i := 1485) (by decide +kernel) rfl, ec_in (i := 47) (by decide +kernel) rfl⟩
theorem bk_X10_workOf (l : Launch) : ∀ (ix n : Nat) (rc : Option Nat) (sp : ex_S), (be_X10_workOf ix).map (fun q => (q.1, q.2.1, ab_sp ab_hd q.2.2)) = some (n, rc, sp) → ex_cok l RX10 1 21 ix n rc sp := by
  intro ix n rc sp h
  obtain ⟨l0, h2, rfl⟩ := ab_dmk h
  clear h
  unfold be_X10_workOf at h2
  split at h2
  · cases h2; exact ec_cS (bm_X10_lesser l) bw_X10_lesser bv_X10_lesser (by decide) (by decide) (Or.inl (ec_in (i := 1436) (by decide +kernel) rfl)) (by decide +kernel)
  · cases h2
theorem bj_X10_workOf (l : Launch) : ex_ok l 1 21 bx_X10_workOf := ⟨ec_fok fo_X10, ec_cok co_X10, so_X10, bk_X10_workOf l, fun _ h => (by cases h), fun _ h => (by cases h), fun _ h => (by cases h), fun _ _ h => (by cases h)⟩
theorem bm_X10_workOf (l : Launch) : ex_Met l yX10_workOf cX10_workOf 4 none 1 21 (ab_sp ab_hd bc_X10_workOf) := ab_met (by decide) (by decide) rfl (bj_X10_workOf l) bd_X10_workOf ab_hcm ab_xk bz_X10_workOf
theorem bw_X10_breathe : ec_cw yX10_breathe cX10_breathe 5 none := ⟨ec_in (i := 1490) (by decide +kernel) rfl, ec_in (i := 68) (by decide +kernel) rfl, by decide, by decide⟩
theorem bv_X10_breathe : Cond.instanceMethod yX10_breathe ∈ ec_tb ∧ Cond.selects yX10_breathe.cls yX10_breathe yX10_breathe ∈ ec_tb := ⟨ec_in (i := 1489) (by decide +kernel) rfl, ec_in (i := 48) (by decide +kernel) rfl⟩
theorem bk_X10_breathe (l : Launch) : ∀ (ix n : Nat) (rc : Option Nat) (sp : ex_S), (be_X10_breathe ix).map (fun q => (q.1, q.2.1, ab_sp ab_hd q.2.2)) = some (n, rc, sp) → ex_cok l RX10 1 21 ix n rc sp := by
  intro ix n rc sp h
  obtain ⟨l0, h2, rfl⟩ := ab_dmk h
  clear h
  unfold be_X10_breathe at h2
  split at h2
  · cases h2; exact ec_cS (bm_X10_lesser l) bw_X10_lesser bv_X10_lesser (by decide) (by decide) (Or.inl (ec_in (i := 1436) (by decide +kernel) rfl)) (by decide +kernel)
  · cases h2
theorem bj_X10_breathe (l : Launch) : ex_ok l 1 21 bx_X10_breathe := ⟨ec_fok fo_X10, ec_cok co_X10, so_X10, bk_X10_breathe l, fun _ h => (by cases h), fun _ h => (by cases h), fun _ h => (by cases h), fun _ _ h => (by cases h)⟩
theorem bm_X10_breathe (l : Launch) : ex_Met l yX10_breathe cX10_breathe 5 none 1 21 (ab_sp ab_hd bc_X10_breathe) := ab_met (by decide) (by decide) rfl (bj_X10_breathe l) bd_X10_breathe ab_hcm ab_xk bz_X10_breathe
theorem bw_X10_leakAll : ec_cw yX10_leakAll cX10_leakAll 3 none := ⟨ec_in (i := 1494) (by decide +kernel) rfl, ec_in (i := 68) (by decide +kernel) rfl, by decide, by decide⟩
theorem bv_X10_leakAll : Cond.instanceMethod yX10_leakAll ∈ ec_tb ∧ Cond.selects yX10_leakAll.cls yX10_leakAll yX10_leakAll ∈ ec_tb := ⟨ec_in (i := 1493) (by decide +kernel) rfl, ec_in (i := 49) (by decide +kernel) rfl⟩
theorem bj_X10_leakAll (l : Launch) : ex_ok l 0 0 bx_X10_leakAll := ⟨ec_fok fo_X10, ec_cok co_X10, so_X10, fun _ _ _ _ h => (by cases h), fun _ h => (by cases h), fun _ h => (by cases h), fun _ h => (by cases h), lo_X10⟩
theorem bm_X10_leakAll (l : Launch) : ex_Met l yX10_leakAll cX10_leakAll 3 none 0 0 (ab_sp ab_hd bc_X10_leakAll) := ab_met (by decide) (by decide) rfl (bj_X10_leakAll l) bd_X10_leakAll ab_hcm ab_xk bz_X10_leakAll
theorem bw_X10_mixAll : ec_cw yX10_mixAll cX10_mixAll 4 none := ⟨ec_in (i := 1499) (by decide +kernel) rfl, ec_in (i := 68) (by decide +kernel) rfl, by decide, by decide⟩
theorem bv_X10_mixAll : Cond.instanceMethod yX10_mixAll ∈ ec_tb ∧ Cond.selects yX10_mixAll.cls yX10_mixAll yX10_mixAll ∈ ec_tb := ⟨ec_in (i := 1498) (by decide +kernel) rfl, ec_in (i := 50) (by decide +kernel) rfl⟩
theorem bj_X10_mixAll (l : Launch) : ex_ok l 0 0 bx_X10_mixAll := ⟨ec_fok fo_X10, ec_cok co_X10, so_X10, fun _ _ _ _ h => (by cases h), fun _ h => (by cases h), fun _ h => (by cases h), fun _ h => (by cases h), fun _ _ h => (by cases h)⟩
theorem bm_X10_mixAll (l : Launch) : ex_Met l yX10_mixAll cX10_mixAll 4 none 0 0 (ab_sp ab_hd bc_X10_mixAll) := ab_met (by decide) (by decide) rfl (bj_X10_mixAll l) bd_X10_mixAll ab_hcm ab_xk bz_X10_mixAll
theorem bw_X10_brokenAt : ec_cw yX10_brokenAt cX10_brokenAt 4 (some .int) := ⟨ec_in (i := 1503) (by decide +kernel) rfl, ec_in (i := 68) (by decide +kernel) rfl, by decide, by decide⟩
theorem bv_X10_brokenAt : Cond.instanceMethod yX10_brokenAt ∈ ec_tb ∧ Cond.selects yX10_brokenAt.cls yX10_brokenAt yX10_brokenAt ∈ ec_tb := ⟨ec_in (i := 1502) (by decide +kernel) rfl, ec_in (i := 51) (by decide +kernel) rfl⟩
theorem bj_X10_brokenAt (l : Launch) : ex_ok l 0 0 bx_X10_brokenAt := ⟨ec_fok fo_X10, ec_cok co_X10, so_X10, fun _ _ _ _ h => (by cases h), fun _ h => (by cases h), fun _ h => (by cases h), fun _ h => (by cases h), fun _ _ h => (by cases h)⟩
theorem bm_X10_brokenAt (l : Launch) : ex_Met l yX10_brokenAt cX10_brokenAt 4 (some .int) 0 0 (ab_sp ab_hd bc_X10_brokenAt) := ab_met (by decide) (by decide) rfl (bj_X10_brokenAt l) bd_X10_brokenAt ab_hcm ab_xk bz_X10_brokenAt
theorem bw_X10_tick : ec_cw yX10_tick cX10_tick 2 (some .boolean) := ⟨ec_in (i := 1454) (by decide +kernel) rfl, ec_in (i := 68) (by decide +kernel) rfl, by decide, by decide⟩
theorem bv_X10_tick : Cond.instanceMethod yX10_tick ∈ ec_tb ∧ Cond.selects yX10_tick.cls yX10_tick yX10_tick ∈ ec_tb := ⟨ec_in (i := 1453) (by decide +kernel) rfl, ec_in (i := 39) (by decide +kernel) rfl⟩
theorem bk_X10_tick (l : Launch) : ∀ (ix n : Nat) (rc : Option Nat) (sp : ex_S), (be_X10_tick ix).map (fun q => (q.1, q.2.1, ab_sp ab_hd q.2.2)) = some (n, rc, sp) → ex_cok l RX10 4 91 ix n rc sp := by
  intro ix n rc sp h
  obtain ⟨l0, h2, rfl⟩ := ab_dmk h
  clear h
  unfold be_X10_tick at h2
  split at h2
  · cases h2; exact ec_cV (bm_X10_runText l) bw_X10_runText bv_X10_runText (by decide) (by decide) (Or.inl (ec_in (i := 1455) (by decide +kernel) rfl)) (T := TX10) (N := 57) rfl (by decide) (by decide +kernel)
  · cases h2; exact ec_cV (bm_X10_mendAll l) bw_X10_mendAll bv_X10_mendAll (by decide) (by decide) (Or.inl (ec_in (i := 1475) (by decide +kernel) rfl)) (T := TX10) (N := 57) rfl (by decide) (by decide +kernel)
  · cases h2; exact ec_cV (bm_X10_feedAll l) bw_X10_feedAll bv_X10_feedAll (by decide) (by decide) (Or.inl (ec_in (i := 1479) (by decide +kernel) rfl)) (T := TX10) (N := 57) rfl (by decide) (by decide +kernel)
  · cases h2; exact ec_cV (bm_X10_workOf l) bw_X10_workOf bv_X10_workOf (by decide) (by decide) (Or.inl (ec_in (i := 1483) (by decide +kernel) rfl)) (T := TX10) (N := 57) rfl (by decide) (by decide +kernel)
  · cases h2; exact ec_cV (bm_X10_breathe l) bw_X10_breathe bv_X10_breathe (by decide) (by decide) (Or.inl (ec_in (i := 1487) (by decide +kernel) rfl)) (T := TX10) (N := 57) rfl (by decide) (by decide +kernel)
  · cases h2; exact ec_cV (bm_X10_leakAll l) bw_X10_leakAll bv_X10_leakAll (by decide) (by decide) (Or.inl (ec_in (i := 1491) (by decide +kernel) rfl)) (T := TX10) (N := 57) rfl (by decide) (by decide +kernel)
  · cases h2; exact ec_cV (bm_X10_mixAll l) bw_X10_mixAll bv_X10_mixAll (by decide) (by decide) (Or.inl (ec_in (i := 1496) (by decide +kernel) rfl)) (T := TX10) (N := 57) rfl (by decide) (by decide +kernel)
  · cases h2; exact ec_cV (bm_X10_brokenAt l) bw_X10_brokenAt bv_X10_brokenAt (by decide) (by decide) (Or.inl (ec_in (i := 1500) (by decide +kernel) rfl)) (T := TX10) (N := 57) rfl (by decide) (by decide +kernel)
  · cases h2
theorem bj_X10_tick (l : Launch) : ex_ok l 4 91 bx_X10_tick := ⟨ec_fok fo_X10, ec_cok co_X10, so_X10, bk_X10_tick l, fun _ h => (by cases h), fun _ h => (by cases h), fun _ h => (by cases h), fun _ _ h => (by cases h)⟩
theorem bm_X10_tick (l : Launch) : ex_Met l yX10_tick cX10_tick 2 (some .boolean) 4 91 (ab_sp ab_hd bc_X10_tick) := ab_met (by decide) (by decide) rfl (bj_X10_tick l) bd_X10_tick ab_hcm ab_xk bz_X10_tick
theorem bw_X10_sun : ec_cw yX10_sun cX10_sun 3 (some .int) := ⟨ec_in (i := 1435) (by decide +kernel) rfl, ec_in (i := 68) (by decide +kernel) rfl, by decide, by decide⟩
theorem bv_X10_sun : Cond.instanceMethod yX10_sun ∈ ec_tb ∧ Cond.selects yX10_sun.cls yX10_sun yX10_sun ∈ ec_tb := ⟨ec_in (i := 1433) (by decide +kernel) rfl, ec_in (i := 1434) (by decide +kernel) rfl⟩
theorem bk_X10_sun (l : Launch) : ∀ (ix n : Nat) (rc : Option Nat) (sp : ex_S), (be_X10_sun ix).map (fun q => (q.1, q.2.1, ab_sp ab_hd q.2.2)) = some (n, rc, sp) → ex_cok l RX10 1 22 ix n rc sp := by
  intro ix n rc sp h
  obtain ⟨l0, h2, rfl⟩ := ab_dmk h
  clear h
  unfold be_X10_sun at h2
  split at h2
  · cases h2; exact ec_cS (bm_X10_isIn l) bw_X10_isIn bv_X10_isIn (by decide) (by decide) (Or.inl (ec_in (i := 1303) (by decide +kernel) rfl)) (by decide +kernel)
  · cases h2; exact ec_cV (bm_X10_finding l) bw_X10_finding bv_X10_finding (by decide) (by decide) (Or.inl (ec_in (i := 1282) (by decide +kernel) rfl)) (T := TX10) (N := 57) rfl (by decide) (by decide +kernel)
  · cases h2; exact ec_cS (bm_X10_lesser l) bw_X10_lesser bv_X10_lesser (by decide) (by decide) (Or.inl (ec_in (i := 1436) (by decide +kernel) rfl)) (by decide +kernel)
  · cases h2
theorem bj_X10_sun (l : Launch) : ex_ok l 1 22 bx_X10_sun := ⟨ec_fok fo_X10, ec_cok co_X10, so_X10, bk_X10_sun l, fun _ h => (by cases h), fun _ h => (by cases h), fun _ h => (by cases h), fun _ _ h => (by cases h)⟩
theorem bm_X10_sun (l : Launch) : ex_Met l yX10_sun cX10_sun 3 (some .int) 1 22 (ab_sp ab_hd bc_X10_sun) := ab_met (by decide) (by decide) rfl (bj_X10_sun l) bd_X10_sun ab_hcm ab_xk bz_X10_sun
theorem bw_X10_battery : ec_cw yX10_battery cX10_battery 3 (some .int) := ⟨ec_in (i := 1442) (by decide +kernel) rfl, ec_in (i := 68) (by decide +kernel) rfl, by decide, by decide⟩
theorem bv_X10_battery : Cond.instanceMethod yX10_battery ∈ ec_tb ∧ Cond.selects yX10_battery.cls yX10_battery yX10_battery ∈ ec_tb := ⟨ec_in (i := 1440) (by decide +kernel) rfl, ec_in (i := 1441) (by decide +kernel) rfl⟩
theorem bk_X10_battery (l : Launch) : ∀ (ix n : Nat) (rc : Option Nat) (sp : ex_S), (be_X10_battery ix).map (fun q => (q.1, q.2.1, ab_sp ab_hd q.2.2)) = some (n, rc, sp) → ex_cok l RX10 1 22 ix n rc sp := by
  intro ix n rc sp h
  obtain ⟨l0, h2, rfl⟩ := ab_dmk h
  clear h
  unfold be_X10_battery at h2
  split at h2
  · cases h2; exact ec_cS (bm_X10_isIn l) bw_X10_isIn bv_X10_isIn (by decide) (by decide) (Or.inl (ec_in (i := 1303) (by decide +kernel) rfl)) (by decide +kernel)
  · cases h2; exact ec_cV (bm_X10_finding l) bw_X10_finding bv_X10_finding (by decide) (by decide) (Or.inl (ec_in (i := 1282) (by decide +kernel) rfl)) (T := TX10) (N := 57) rfl (by decide) (by decide +kernel)
  · cases h2
theorem bj_X10_battery (l : Launch) : ex_ok l 1 22 bx_X10_battery := ⟨ec_fok fo_X10, ec_cok co_X10, so_X10, bk_X10_battery l, fun _ h => (by cases h), fun _ h => (by cases h), fun _ h => (by cases h), fun _ _ h => (by cases h)⟩
theorem bm_X10_battery (l : Launch) : ex_Met l yX10_battery cX10_battery 3 (some .int) 1 22 (ab_sp ab_hd bc_X10_battery) := ab_met (by decide) (by decide) rfl (bj_X10_battery l) bd_X10_battery ab_hcm ab_xk bz_X10_battery
theorem bw_X10_bounds : ec_cw yX10_bounds cX10_bounds 4 (some .int) := ⟨ec_in (i := 1446) (by decide +kernel) rfl, ec_in (i := 68) (by decide +kernel) rfl, by decide, by decide⟩
theorem bv_X10_bounds : Cond.instanceMethod yX10_bounds ∈ ec_tb ∧ Cond.selects yX10_bounds.cls yX10_bounds yX10_bounds ∈ ec_tb := ⟨ec_in (i := 1444) (by decide +kernel) rfl, ec_in (i := 1445) (by decide +kernel) rfl⟩
theorem bk_X10_bounds (l : Launch) : ∀ (ix n : Nat) (rc : Option Nat) (sp : ex_S), (be_X10_bounds ix).map (fun q => (q.1, q.2.1, ab_sp ab_hd q.2.2)) = some (n, rc, sp) → ex_cok l RX10 1 22 ix n rc sp := by
  intro ix n rc sp h
  obtain ⟨l0, h2, rfl⟩ := ab_dmk h
  clear h
  unfold be_X10_bounds at h2
  split at h2
  · cases h2; exact ec_cS (bm_X10_isIn l) bw_X10_isIn bv_X10_isIn (by decide) (by decide) (Or.inl (ec_in (i := 1303) (by decide +kernel) rfl)) (by decide +kernel)
  · cases h2; exact ec_cV (bm_X10_finding l) bw_X10_finding bv_X10_finding (by decide) (by decide) (Or.inl (ec_in (i := 1282) (by decide +kernel) rfl)) (T := TX10) (N := 57) rfl (by decide) (by decide +kernel)
  · cases h2
theorem bj_X10_bounds (l : Launch) : ex_ok l 1 22 bx_X10_bounds := ⟨ec_fok fo_X10, ec_cok co_X10, so_X10, bk_X10_bounds l, fun _ h => (by cases h), fun _ h => (by cases h), fun _ h => (by cases h), fun _ _ h => (by cases h)⟩
theorem bm_X10_bounds (l : Launch) : ex_Met l yX10_bounds cX10_bounds 4 (some .int) 1 22 (ab_sp ab_hd bc_X10_bounds) := ab_met (by decide) (by decide) rfl (bj_X10_bounds l) bd_X10_bounds ab_hcm ab_xk bz_X10_bounds
theorem bw_X10_ticks : ec_cw yX10_ticks cX10_ticks 4 (some .int) := ⟨ec_in (i := 1450) (by decide +kernel) rfl, ec_in (i := 68) (by decide +kernel) rfl, by decide, by decide⟩
theorem bv_X10_ticks : Cond.instanceMethod yX10_ticks ∈ ec_tb ∧ Cond.selects yX10_ticks.cls yX10_ticks yX10_ticks ∈ ec_tb := ⟨ec_in (i := 1448) (by decide +kernel) rfl, ec_in (i := 1449) (by decide +kernel) rfl⟩
theorem bk_X10_ticks (l : Launch) : ∀ (ix n : Nat) (rc : Option Nat) (sp : ex_S), (be_X10_ticks ix).map (fun q => (q.1, q.2.1, ab_sp ab_hd q.2.2)) = some (n, rc, sp) → ex_cok l RX10 5 112 ix n rc sp := by
  intro ix n rc sp h
  obtain ⟨l0, h2, rfl⟩ := ab_dmk h
  clear h
  unfold be_X10_ticks at h2
  split at h2
  · cases h2; exact ec_cS (bm_X10_isIn l) bw_X10_isIn bv_X10_isIn (by decide) (by decide) (Or.inl (ec_in (i := 1303) (by decide +kernel) rfl)) (by decide +kernel)
  · cases h2; exact ec_cV (bm_X10_finding l) bw_X10_finding bv_X10_finding (by decide) (by decide) (Or.inl (ec_in (i := 1282) (by decide +kernel) rfl)) (T := TX10) (N := 57) rfl (by decide) (by decide +kernel)
  · cases h2; exact ec_cV (bm_X10_tick l) bw_X10_tick bv_X10_tick (by decide) (by decide) (Or.inl (ec_in (i := 1451) (by decide +kernel) rfl)) (T := TX10) (N := 57) rfl (by decide) (by decide +kernel)
  · cases h2
theorem bj_X10_ticks (l : Launch) : ex_ok l 5 112 bx_X10_ticks := ⟨ec_fok fo_X10, ec_cok co_X10, so_X10, bk_X10_ticks l, fun _ h => (by cases h), fun _ h => (by cases h), fun _ h => (by cases h), fun _ _ h => (by cases h)⟩
theorem bm_X10_ticks (l : Launch) : ex_Met l yX10_ticks cX10_ticks 4 (some .int) 5 112 (ab_sp ab_hd bc_X10_ticks) := ab_met (by decide) (by decide) rfl (bj_X10_ticks l) bd_X10_ticks ab_hcm ab_xk bz_X10_ticks
theorem bw_X10_broke : ec_cw yX10_broke cX10_broke 2 (some .int) := ⟨ec_in (i := 1507) (by decide +kernel) rfl, ec_in (i := 68) (by decide +kernel) rfl, by decide, by decide⟩
theorem bv_X10_broke : Cond.instanceMethod yX10_broke ∈ ec_tb ∧ Cond.selects yX10_broke.cls yX10_broke yX10_broke ∈ ec_tb := ⟨ec_in (i := 1505) (by decide +kernel) rfl, ec_in (i := 1506) (by decide +kernel) rfl⟩
theorem bk_X10_broke (l : Launch) : ∀ (ix n : Nat) (rc : Option Nat) (sp : ex_S), (be_X10_broke ix).map (fun q => (q.1, q.2.1, ab_sp ab_hd q.2.2)) = some (n, rc, sp) → ex_cok l RX10 1 22 ix n rc sp := by
  intro ix n rc sp h
  obtain ⟨l0, h2, rfl⟩ := ab_dmk h
  clear h
  unfold be_X10_broke at h2
  split at h2
  · cases h2; exact ec_cS (bm_X10_isIn l) bw_X10_isIn bv_X10_isIn (by decide) (by decide) (Or.inl (ec_in (i := 1303) (by decide +kernel) rfl)) (by decide +kernel)
  · cases h2; exact ec_cV (bm_X10_finding l) bw_X10_finding bv_X10_finding (by decide) (by decide) (Or.inl (ec_in (i := 1282) (by decide +kernel) rfl)) (T := TX10) (N := 57) rfl (by decide) (by decide +kernel)
  · cases h2
theorem bj_X10_broke (l : Launch) : ex_ok l 1 22 bx_X10_broke := ⟨ec_fok fo_X10, ec_cok co_X10, so_X10, bk_X10_broke l, fun _ h => (by cases h), fun _ h => (by cases h), fun _ h => (by cases h), fun _ _ h => (by cases h)⟩
theorem bm_X10_broke (l : Launch) : ex_Met l yX10_broke cX10_broke 2 (some .int) 1 22 (ab_sp ab_hd bc_X10_broke) := ab_met (by decide) (by decide) rfl (bj_X10_broke l) bd_X10_broke ab_hcm ab_xk bz_X10_broke
theorem bw_X10_lays : ec_cw yX10_lays cX10_lays 4 none := ⟨ec_in (i := 1519) (by decide +kernel) rfl, ec_in (i := 68) (by decide +kernel) rfl, by decide, by decide⟩
theorem bv_X10_lays : Cond.instanceMethod yX10_lays ∈ ec_tb ∧ Cond.selects yX10_lays.cls yX10_lays yX10_lays ∈ ec_tb := ⟨ec_in (i := 1518) (by decide +kernel) rfl, ec_in (i := 53) (by decide +kernel) rfl⟩
theorem bj_X10_lays (l : Launch) : ex_ok l 0 0 bx_X10_lays := ⟨ec_fok fo_X10, ec_cok co_X10, so_X10, fun _ _ _ _ h => (by cases h), fun _ h => (by cases h), fun _ h => (by cases h), fun _ h => (by cases h), fun _ _ h => (by cases h)⟩
theorem bm_X10_lays (l : Launch) : ex_Met l yX10_lays cX10_lays 4 none 0 0 (ab_sp ab_hd bc_X10_lays) := ab_met (by decide) (by decide) rfl (bj_X10_lays l) bd_X10_lays ab_hcm ab_xk bz_X10_lays
theorem bw_X10_layAside : ec_cw yX10_layAside cX10_layAside 2 none := ⟨ec_in (i := 1515) (by decide +kernel) rfl, ec_in (i := 68) (by decide +kernel) rfl, by decide, by decide⟩
theorem bv_X10_layAside : Cond.instanceMethod yX10_layAside ∈ ec_tb ∧ Cond.selects yX10_layAside.cls yX10_layAside yX10_layAside ∈ ec_tb := ⟨ec_in (i := 1514) (by decide +kernel) rfl, ec_in (i := 52) (by decide +kernel) rfl⟩
theorem bk_X10_layAside (l : Launch) : ∀ (ix n : Nat) (rc : Option Nat) (sp : ex_S), (be_X10_layAside ix).map (fun q => (q.1, q.2.1, ab_sp ab_hd q.2.2)) = some (n, rc, sp) → ex_cok l RX10 1 23 ix n rc sp := by
  intro ix n rc sp h
  obtain ⟨l0, h2, rfl⟩ := ab_dmk h
  clear h
  unfold be_X10_layAside at h2
  split at h2
  · cases h2; exact ec_cV (bm_X10_lays l) bw_X10_lays bv_X10_lays (by decide) (by decide) (Or.inl (ec_in (i := 1516) (by decide +kernel) rfl)) (T := TX10) (N := 57) rfl (by decide) (by decide +kernel)
  · cases h2
theorem bj_X10_layAside (l : Launch) : ex_ok l 1 23 bx_X10_layAside := ⟨ec_fok fo_X10, ec_cok co_X10, so_X10, bk_X10_layAside l, fun _ h => (by cases h), fun _ h => (by cases h), fun _ h => (by cases h), fun _ _ h => (by cases h)⟩
theorem bm_X10_layAside (l : Launch) : ex_Met l yX10_layAside cX10_layAside 2 none 1 23 (ab_sp ab_hd bc_X10_layAside) := ab_met (by decide) (by decide) rfl (bj_X10_layAside l) bd_X10_layAside ab_hcm ab_xk bz_X10_layAside
theorem bw_X10_ahead : ec_cw yX10_ahead cX10_ahead 4 (some .int) := ⟨ec_in (i := 1511) (by decide +kernel) rfl, ec_in (i := 68) (by decide +kernel) rfl, by decide, by decide⟩
theorem bv_X10_ahead : Cond.instanceMethod yX10_ahead ∈ ec_tb ∧ Cond.selects yX10_ahead.cls yX10_ahead yX10_ahead ∈ ec_tb := ⟨ec_in (i := 1509) (by decide +kernel) rfl, ec_in (i := 1510) (by decide +kernel) rfl⟩
theorem bk_X10_ahead (l : Launch) : ∀ (ix n : Nat) (rc : Option Nat) (sp : ex_S), (be_X10_ahead ix).map (fun q => (q.1, q.2.1, ab_sp ab_hd q.2.2)) = some (n, rc, sp) → ex_cok l RX10 5 112 ix n rc sp := by
  intro ix n rc sp h
  obtain ⟨l0, h2, rfl⟩ := ab_dmk h
  clear h
  unfold be_X10_ahead at h2
  split at h2
  · cases h2; exact ec_cS (bm_X10_isIn l) bw_X10_isIn bv_X10_isIn (by decide) (by decide) (Or.inl (ec_in (i := 1303) (by decide +kernel) rfl)) (by decide +kernel)
  · cases h2; exact ec_cV (bm_X10_finding l) bw_X10_finding bv_X10_finding (by decide) (by decide) (Or.inl (ec_in (i := 1282) (by decide +kernel) rfl)) (T := TX10) (N := 57) rfl (by decide) (by decide +kernel)
  · cases h2; exact ec_cV (bm_X10_layAside l) bw_X10_layAside bv_X10_layAside (by decide) (by decide) (Or.inl (ec_in (i := 1512) (by decide +kernel) rfl)) (T := TX10) (N := 57) rfl (by decide) (by decide +kernel)
  · cases h2; exact ec_cV (bm_X10_tick l) bw_X10_tick bv_X10_tick (by decide) (by decide) (Or.inl (ec_in (i := 1451) (by decide +kernel) rfl)) (T := TX10) (N := 57) rfl (by decide) (by decide +kernel)
  · cases h2
theorem bj_X10_ahead (l : Launch) : ex_ok l 5 112 bx_X10_ahead := ⟨ec_fok fo_X10, ec_cok co_X10, so_X10, bk_X10_ahead l, fun _ h => (by cases h), fun _ h => (by cases h), fun _ h => (by cases h), fun _ _ h => (by cases h)⟩
theorem bm_X10_ahead (l : Launch) : ex_Met l yX10_ahead cX10_ahead 4 (some .int) 5 112 (ab_sp ab_hd bc_X10_ahead) := ab_met (by decide) (by decide) rfl (bj_X10_ahead l) bd_X10_ahead ab_hcm ab_xk bz_X10_ahead
theorem bw_X10_partOf : ec_cw yX10_partOf cX10_partOf 7 (some .int) := ⟨ec_in (i := 1531) (by decide +kernel) rfl, ec_in (i := 68) (by decide +kernel) rfl, by decide, by decide⟩
theorem bv_X10_partOf : Cond.instanceMethod yX10_partOf ∈ ec_tb ∧ Cond.selects yX10_partOf.cls yX10_partOf yX10_partOf ∈ ec_tb := ⟨ec_in (i := 1530) (by decide +kernel) rfl, ec_in (i := 54) (by decide +kernel) rfl⟩
theorem bj_X10_partOf (l : Launch) : ex_ok l 0 0 bx_X10_partOf := ⟨ec_fok fo_X10, ec_cok co_X10, so_X10, fun _ _ _ _ h => (by cases h), fun _ h => (by cases h), fun _ h => (by cases h), fun _ h => (by cases h), fun _ _ h => (by cases h)⟩
theorem dX10_partOf_0 : decode cX10_partOf 0 = .ok (.iconst 1, 1) := by decide +kernel
theorem dX10_partOf_1 : decode cX10_partOf 1 = .ok (.iload_n 1, 1) := by decide +kernel
theorem dX10_partOf_2 : decode cX10_partOf 2 = .ok (.ishl, 1) := by decide +kernel
theorem dX10_partOf_3 : decode cX10_partOf 3 = .ok (.istore_n 3, 1) := by decide +kernel
theorem dX10_partOf_4 : decode cX10_partOf 4 = .ok (.iconst 0, 1) := by decide +kernel
theorem dX10_partOf_5 : decode cX10_partOf 5 = .ok (.istore 4, 2) := by decide +kernel
theorem dX10_partOf_7 : decode cX10_partOf 7 = .ok (.iload_n 3, 1) := by decide +kernel
theorem dX10_partOf_8 : decode cX10_partOf 8 = .ok (.iload 4, 2) := by decide +kernel
theorem dX10_partOf_10 : decode cX10_partOf 10 = .ok (.if_icmp .eq 104, 3) := by decide +kernel
theorem dX10_partOf_13 : decode cX10_partOf 13 = .ok (.iload_n 3, 1) := by decide +kernel
theorem dX10_partOf_14 : decode cX10_partOf 14 = .ok (.istore 4, 2) := by decide +kernel
theorem dX10_partOf_16 : decode cX10_partOf 16 = .ok (.iconst 0, 1) := by decide +kernel
theorem dX10_partOf_17 : decode cX10_partOf 17 = .ok (.istore 5, 2) := by decide +kernel
theorem dX10_partOf_19 : decode cX10_partOf 19 = .ok (.iload 5, 2) := by decide +kernel
theorem dX10_partOf_21 : decode cX10_partOf 21 = .ok (.aload_n 0, 1) := by decide +kernel
theorem dX10_partOf_22 : decode cX10_partOf 22 = .ok (.getfield 151, 3) := by decide +kernel
theorem dX10_partOf_25 : decode cX10_partOf 25 = .ok (.if_icmp .ge 86, 3) := by decide +kernel
theorem dX10_partOf_28 : decode cX10_partOf 28 = .ok (.iload_n 3, 1) := by decide +kernel
theorem dX10_partOf_29 : decode cX10_partOf 29 = .ok (.aload_n 0, 1) := by decide +kernel
theorem dX10_partOf_30 : decode cX10_partOf 30 = .ok (.getfield 19, 3) := by decide +kernel
theorem dX10_partOf_33 : decode cX10_partOf 33 = .ok (.iload 5, 2) := by decide +kernel
theorem dX10_partOf_35 : decode cX10_partOf 35 = .ok (.iaload, 1) := by decide +kernel
theorem dX10_partOf_36 : decode cX10_partOf 36 = .ok (.ishr, 1) := by decide +kernel
theorem dX10_partOf_37 : decode cX10_partOf 37 = .ok (.iconst 1, 1) := by decide +kernel
theorem dX10_partOf_38 : decode cX10_partOf 38 = .ok (.iand, 1) := by decide +kernel
theorem dX10_partOf_39 : decode cX10_partOf 39 = .ok (.iconst 1, 1) := by decide +kernel
theorem dX10_partOf_40 : decode cX10_partOf 40 = .ok (.if_icmp .eq 18, 3) := by decide +kernel
theorem dX10_partOf_43 : decode cX10_partOf 43 = .ok (.iload_n 3, 1) := by decide +kernel
theorem dX10_partOf_44 : decode cX10_partOf 44 = .ok (.aload_n 0, 1) := by decide +kernel
theorem dX10_partOf_45 : decode cX10_partOf 45 = .ok (.getfield 22, 3) := by decide +kernel
theorem dX10_partOf_48 : decode cX10_partOf 48 = .ok (.iload 5, 2) := by decide +kernel
theorem dX10_partOf_50 : decode cX10_partOf 50 = .ok (.iaload, 1) := by decide +kernel
theorem dX10_partOf_51 : decode cX10_partOf 51 = .ok (.ishr, 1) := by decide +kernel
theorem dX10_partOf_52 : decode cX10_partOf 52 = .ok (.iconst 1, 1) := by decide +kernel
theorem dX10_partOf_53 : decode cX10_partOf 53 = .ok (.iand, 1) := by decide +kernel
theorem dX10_partOf_54 : decode cX10_partOf 54 = .ok (.iconst 1, 1) := by decide +kernel
theorem dX10_partOf_55 : decode cX10_partOf 55 = .ok (.if_icmp .ne 7, 3) := by decide +kernel
theorem dX10_partOf_58 : decode cX10_partOf 58 = .ok (.iconst 1, 1) := by decide +kernel
theorem dX10_partOf_59 : decode cX10_partOf 59 = .ok (.goto 4, 3) := by decide +kernel
theorem dX10_partOf_62 : decode cX10_partOf 62 = .ok (.iconst 0, 1) := by decide +kernel
theorem dX10_partOf_63 : decode cX10_partOf 63 = .ok (.istore 6, 2) := by decide +kernel
theorem dX10_partOf_65 : decode cX10_partOf 65 = .ok (.iload_n 3, 1) := by decide +kernel
theorem dX10_partOf_66 : decode cX10_partOf 66 = .ok (.iload_n 2, 1) := by decide +kernel
theorem dX10_partOf_67 : decode cX10_partOf 67 = .ok (.iload 5, 2) := by decide +kernel
theorem dX10_partOf_69 : decode cX10_partOf 69 = .ok (.ishr, 1) := by decide +kernel
theorem dX10_partOf_70 : decode cX10_partOf 70 = .ok (.iconst 1, 1) := by decide +kernel
theorem dX10_partOf_71 : decode cX10_partOf 71 = .ok (.iand, 1) := by decide +kernel
theorem dX10_partOf_72 : decode cX10_partOf 72 = .ok (.ifCond .ne 30, 3) := by decide +kernel
theorem dX10_partOf_75 : decode cX10_partOf 75 = .ok (.iload 6, 2) := by decide +kernel
theorem dX10_partOf_77 : decode cX10_partOf 77 = .ok (.ifCond .eq 25, 3) := by decide +kernel
theorem dX10_partOf_80 : decode cX10_partOf 80 = .ok (.iconst 1, 1) := by decide +kernel
theorem dX10_partOf_81 : decode cX10_partOf 81 = .ok (.aload_n 0, 1) := by decide +kernel
theorem dX10_partOf_82 : decode cX10_partOf 82 = .ok (.getfield 19, 3) := by decide +kernel
theorem dX10_partOf_85 : decode cX10_partOf 85 = .ok (.iload 5, 2) := by decide +kernel
theorem dX10_partOf_87 : decode cX10_partOf 87 = .ok (.iaload, 1) := by decide +kernel
theorem dX10_partOf_88 : decode cX10_partOf 88 = .ok (.ishl, 1) := by decide +kernel
theorem dX10_partOf_89 : decode cX10_partOf 89 = .ok (.iconst 1, 1) := by decide +kernel
theorem dX10_partOf_90 : decode cX10_partOf 90 = .ok (.aload_n 0, 1) := by decide +kernel
theorem dX10_partOf_91 : decode cX10_partOf 91 = .ok (.getfield 22, 3) := by decide +kernel
theorem dX10_partOf_94 : decode cX10_partOf 94 = .ok (.iload 5, 2) := by decide +kernel
theorem dX10_partOf_96 : decode cX10_partOf 96 = .ok (.iaload, 1) := by decide +kernel
theorem dX10_partOf_97 : decode cX10_partOf 97 = .ok (.ishl, 1) := by decide +kernel
theorem dX10_partOf_98 : decode cX10_partOf 98 = .ok (.ior, 1) := by decide +kernel
theorem dX10_partOf_99 : decode cX10_partOf 99 = .ok (.goto 4, 3) := by decide +kernel
theorem dX10_partOf_102 : decode cX10_partOf 102 = .ok (.iconst 0, 1) := by decide +kernel
theorem dX10_partOf_103 : decode cX10_partOf 103 = .ok (.ior, 1) := by decide +kernel
theorem dX10_partOf_104 : decode cX10_partOf 104 = .ok (.istore_n 3, 1) := by decide +kernel
theorem dX10_partOf_105 : decode cX10_partOf 105 = .ok (.iinc 5 1, 3) := by decide +kernel
theorem dX10_partOf_108 : decode cX10_partOf 108 = .ok (.goto (-89), 3) := by decide +kernel
theorem dX10_partOf_111 : decode cX10_partOf 111 = .ok (.goto (-104), 3) := by decide +kernel
theorem dX10_partOf_114 : decode cX10_partOf 114 = .ok (.iload_n 3, 1) := by decide +kernel
theorem dX10_partOf_115 : decode cX10_partOf 115 = .ok (.ireturn, 1) := by decide +kernel
theorem vp_mk {i : Int32} {n : Nat} (h1 : 0 ≤ i.toInt) (h2 : i.toInt < (n : Int)) : vp_in i n := by
  intro h
  rcases h with h | h
  · rw [Int32.lt_iff_toInt_lt] at h
    have h0 : (0 : Int32).toInt = 0 := by decide
    omega
  · have e : i.toNatClampNeg = i.toInt.toNat := rfl
    omega
theorem ab_inc {x : Int32} (h1 : -1000 ≤ x.toInt) (h2 : x.toInt ≤ 1000) : (x + Int32.ofInt 1).toInt = x.toInt + 1 := by
  rw [Int32.toInt_add]
  have : (Int32.ofInt 1).toInt = 1 := by decide
  rw [this, ab_bm (by omega) (by omega)]
theorem ab_z0 : (0 : Int32).toInt = 0 := by decide
theorem ab_z1 : (1 : Int32).toInt = 1 := by decide
theorem ab_zm : (-1 : Int32).toInt = -1 := by decide
theorem ab_sub0 {x y : Int32} (h : ¬ x.toInt = y.toInt) : ¬ x - y = 0 := by
  intro e
  apply h
  have h2 := congrArg Int32.toInt e
  rw [Int32.toInt_sub, ab_z0, Int.bmod_def] at h2
  have := ab_ge x
  have := ab_lt' x
  have := ab_ge y
  have := ab_lt' y
  have e32 : ((2 ^ 32 : Nat) : Int) = 4294967296 := by decide
  rw [e32] at h2
  omega
theorem po_or : ∀ i j : Fin 64, (Int32.ofNat i.val).toInt ≤ (Int32.ofNat i.val ||| Int32.ofNat j.val).toInt ∧ (Int32.ofNat i.val ||| Int32.ofNat j.val).toInt ≤ 63 := by decide +kernel
theorem po_nat {x : Int32} (h1 : 0 ≤ x.toInt) (h2 : x.toInt ≤ 63) : ∃ i : Fin 64, x = Int32.ofNat i.val := by
  refine ⟨⟨x.toInt.toNat, by omega⟩, Int32.toInt_inj.mp ?_⟩
  rw [Int32.toInt_ofNat_of_lt (by show x.toInt.toNat < _; omega)]
  show x.toInt = (x.toInt.toNat : Int)
  omega
theorem po_or2 {x y : Int32} (h1 : 0 ≤ x.toInt) (h2 : x.toInt ≤ 63) (h3 : 0 ≤ y.toInt) (h4 : y.toInt ≤ 63) : x.toInt ≤ (x ||| y).toInt ∧ (x ||| y).toInt ≤ 63 := by
  obtain ⟨i, rfl⟩ := po_nat h1 h2
  obtain ⟨j, rfl⟩ := po_nat h3 h4
  exact po_or i j
theorem po_sh {k : Int32} (h1 : 0 ≤ k.toInt) (h2 : k.toInt ≤ 5) : 0 ≤ ((1 : Int32) <<< (k &&& 31)).toInt ∧ ((1 : Int32) <<< (k &&& 31)).toInt ≤ 63 := by
  obtain ⟨i, rfl⟩ := po_nat h1 (by omega)
  have : ∀ i : Fin 64, (Int32.ofNat i.val).toInt ≤ 5 → 0 ≤ ((1 : Int32) <<< (Int32.ofNat i.val &&& 31)).toInt ∧ ((1 : Int32) <<< (Int32.ofNat i.val &&& 31)).toInt ≤ 63 := by decide +kernel
  exact this i h2
def po_J7 (m c : Int32) (cs0 : ex_C) : Nat → ex_L → ex_V → ex_C → Prop := fun n lv st cs => st = [] ∧ cs = cs0 ∧ ∃ (set was : Int32) (x5 x6 : Option Value), lv = [some (.ref 76), some (.int m), some (.int c), some (.int set), some (.int was), x5, x6] ∧ 0 ≤ was.toInt ∧ was.toInt ≤ set.toInt ∧ set.toInt ≤ 63 ∧ (n : Int) = 20 * (64 - was.toInt)
def po_J19 (m c : Int32) (cs0 : ex_C) : Nat → ex_L → ex_V → ex_C → Prop := fun n lv st cs => st = [] ∧ cs = cs0 ∧ ∃ (set was h : Int32) (x6 : Option Value), lv = [some (.ref 76), some (.int m), some (.int c), some (.int set), some (.int was), some (.int h), x6] ∧ 0 ≤ was.toInt ∧ was.toInt ≤ set.toInt ∧ set.toInt ≤ 63 ∧ 0 ≤ h.toInt ∧ h.toInt ≤ 8 ∧ (n : Int) = 20 * (64 - was.toInt) + 10 - h.toInt
def po_I (m c : Int32) (cs0 : ex_C) (pc : Nat) : Option (Nat → ex_L → ex_V → ex_C → Prop) := if pc = 7 then some (po_J7 m c cs0) else if pc = 19 then some (po_J19 m c cs0) else none
def po_B (m c : Int32) (cs0 : ex_C) (n : Nat) : Nat → Option (ex_L → ex_V → ex_C → Prop) := fun pc => (po_I m c cs0 pc).map (fun J' lv st cs => ∃ n', n' < n ∧ J' n' lv st cs)
def po_A (m c : Int32) (cs0 : ex_C) : Nat → Option (ex_L → ex_V → ex_C → Prop) := fun pc => (po_I m c cs0 pc).map (fun J' lv st cs => ∃ n', J' n' lv st cs)
set_option maxRecDepth 100000 in
set_option maxHeartbeats 4000000 in
theorem po_w7 {m c hat : Int32} {f g : Nat → Int32} {cs : ex_C} {fs : List Value} {Q : ex_Q} (h76 : cs[76]? = some (.inr (10, fs))) (hs_hatches : fs[4]? = some (.int hat)) (hs_from : fs[5]? = some (.ref 80)) (hs_to : fs[6]? = some (.ref 81)) (hf : cs[80]? = some (.inl (0, 8, .inl f))) (hg : cs[81]? = some (.inl (0, 8, .inl g))) (hh1 : 0 ≤ hat.toInt) (hh2 : hat.toInt ≤ 8) (hf5 : ∀ j, j < 8 → 0 ≤ (f j).toInt ∧ (f j).toInt ≤ 5) (hg5 : ∀ j, j < 8 → 0 ≤ (g j).toInt ∧ (g j).toInt ≤ 5) (hQ : ∀ r, Q (some (.int r)) cs) {n : Nat} {set was : Int32} {x5 x6 : Option Value} (b1 : 0 ≤ was.toInt) (b2 : was.toInt ≤ set.toInt) (b3 : set.toInt ≤ 63) (hn : (n : Int) = 20 * (64 - was.toInt)) : ex_wp ec_xt bx_X10_partOf cX10_partOf (some .int) (po_B m c cs n) Q 60 7 [some (.ref 76), some (.int m), some (.int c), some (.int set), some (.int was), x5, x6] [] cs := by
  have z0 := ab_z0
  refine wq_iload_n dX10_partOf_7 rfl rfl ?_
  refine go_wp rfl (wq_iload dX10_partOf_8 rfl rfl ?_)
  refine go_wp rfl (wq_icmp_eq (t := 114) dX10_partOf_10 (by decide) rfl (fun q1 => ?_) (fun q1 => ?_))
  · have q1' : Int32.toInt set = Int32.toInt was := (ab_ieq (x := set) (y := was)).1 q1
    refine go_wp rfl (wq_iload_n dX10_partOf_114 rfl rfl ?_)
    refine go_wp rfl (wq_ireturn dX10_partOf_115 trivial (hQ _))
  · have q1' : Int32.toInt set ≠ Int32.toInt was := (ab_ieq (x := set) (y := was)).2 q1
    refine go_wp rfl (wq_iload_n dX10_partOf_13 rfl rfl ?_)
    refine go_wp rfl (wq_istore (lv' := [some (.ref 76), some (.int m), some (.int c), some (.int set), some (.int set), x5, x6]) dX10_partOf_14 ⟨Nat.le_of_ble_eq_true rfl, rfl⟩ rfl rfl ?_)
    refine go_wp rfl (wq_iconst (v := 0) dX10_partOf_16 (by decide) rfl ?_)
    refine go_wp rfl (wq_istore (lv' := [some (.ref 76), some (.int m), some (.int c), some (.int set), some (.int set), some (.int 0), x6]) dX10_partOf_17 ⟨Nat.le_of_ble_eq_true rfl, rfl⟩ rfl rfl ?_)
    exact go_cut rfl ⟨_, (show 20 * (64 - set.toInt.toNat) + 10 < n by omega), rfl, rfl, _, _, _, _, rfl, (by omega), (by omega), (by omega), (by rw [ab_z0]; omega), (by rw [ab_z0]; omega), (by rw [ab_z0]; omega)⟩
set_option maxRecDepth 100000 in
set_option maxHeartbeats 4000000 in
theorem po_w19 {m c hat : Int32} {f g : Nat → Int32} {cs : ex_C} {fs : List Value} {Q : ex_Q} (h76 : cs[76]? = some (.inr (10, fs))) (hs_hatches : fs[4]? = some (.int hat)) (hs_from : fs[5]? = some (.ref 80)) (hs_to : fs[6]? = some (.ref 81)) (hf : cs[80]? = some (.inl (0, 8, .inl f))) (hg : cs[81]? = some (.inl (0, 8, .inl g))) (hh1 : 0 ≤ hat.toInt) (hh2 : hat.toInt ≤ 8) (hf5 : ∀ j, j < 8 → 0 ≤ (f j).toInt ∧ (f j).toInt ≤ 5) (hg5 : ∀ j, j < 8 → 0 ≤ (g j).toInt ∧ (g j).toInt ≤ 5) (hQ : ∀ r, Q (some (.int r)) cs) {n : Nat} {set was h : Int32} {x6 : Option Value} (b1 : 0 ≤ was.toInt) (b2 : was.toInt ≤ set.toInt) (b3 : set.toInt ≤ 63) (b4 : 0 ≤ h.toInt) (b5 : h.toInt ≤ 8) (hn : (n : Int) = 20 * (64 - was.toInt) + 10 - h.toInt) : ex_wp ec_xt bx_X10_partOf cX10_partOf (some .int) (po_B m c cs n) Q 60 19 [some (.ref 76), some (.int m), some (.int c), some (.int set), some (.int was), some (.int h), x6] [] cs := by
  have z0 := ab_z0
  refine wq_iload dX10_partOf_19 rfl rfl ?_
  refine go_wp rfl (wq_aload_n dX10_partOf_21 rfl rfl ?_)
  refine go_wp rfl (wq_getfield dX10_partOf_22 fe_X10_151 h76 hs_hatches rfl ?_)
  refine go_wp rfl (wq_icmp_ge (t := 111) dX10_partOf_25 (by decide) rfl (fun q1 => ?_) (fun q1 => ?_))
  · have q1' : Int32.toInt h ≥ Int32.toInt hat := (ab_ige (x := h) (y := hat)).1 q1
    refine go_wp rfl (wq_goto (t := 7) dX10_partOf_111 (by decide) ?_)
    exact go_cut rfl ⟨_, (show 20 * (64 - was.toInt.toNat) < n by omega), rfl, rfl, _, _, _, _, rfl, (by omega), (by omega), (by omega), (by omega)⟩
  · have q1' : Int32.toInt h < Int32.toInt hat := (ab_ige (x := h) (y := hat)).2 q1
    refine go_wp rfl (wq_iload_n dX10_partOf_28 rfl rfl ?_)
    refine go_wp rfl (wq_aload_n dX10_partOf_29 rfl rfl ?_)
    refine go_wp rfl (wq_getfield dX10_partOf_30 fe_X10_19 h76 hs_from rfl ?_)
    refine go_wp rfl (wq_iload dX10_partOf_33 rfl rfl ?_)
    refine go_wp rfl (wq_iaload (v := (f h.toNatClampNeg)) dX10_partOf_35 (by decide) hf (vp_mk (by omega) (by omega)) rfl rfl ?_)
    refine go_wp rfl (wq_ishr (v := (set >>> ((f h.toNatClampNeg) &&& 31))) dX10_partOf_36 rfl rfl ?_)
    refine go_wp rfl (wq_iconst (v := 1) dX10_partOf_37 (by decide) rfl ?_)
    refine go_wp rfl (wq_iand (v := ((set >>> ((f h.toNatClampNeg) &&& 31)) &&& 1)) dX10_partOf_38 rfl rfl ?_)
    refine go_wp rfl (wq_iconst (v := 1) dX10_partOf_39 (by decide) rfl ?_)
    refine go_wp rfl (wq_icmp_eq (t := 58) dX10_partOf_40 (by decide) rfl (fun q2 => ?_) (fun q2 => ?_))
    · have q2' : Int32.toInt ((set >>> ((f h.toNatClampNeg) &&& 31)) &&& 1) = Int32.toInt 1 := (ab_ieq (x := ((set >>> ((f h.toNatClampNeg) &&& 31)) &&& 1)) (y := 1)).1 q2
      refine go_wp rfl (wq_iconst (v := 1) dX10_partOf_58 (by decide) rfl ?_)
      refine go_wp rfl (wq_goto (t := 63) dX10_partOf_59 (by decide) ?_)
      refine go_wp rfl (wq_istore (lv' := [some (.ref 76), some (.int m), some (.int c), some (.int set), some (.int was), some (.int h), some (.int 1)]) dX10_partOf_63 ⟨Nat.le_of_ble_eq_true rfl, rfl⟩ rfl rfl ?_)
      refine go_wp rfl (wq_iload_n dX10_partOf_65 rfl rfl ?_)
      refine go_wp rfl (wq_iload_n dX10_partOf_66 rfl rfl ?_)
      refine go_wp rfl (wq_iload dX10_partOf_67 rfl rfl ?_)
      refine go_wp rfl (wq_ishr (v := (c >>> (h &&& 31))) dX10_partOf_69 rfl rfl ?_)
      refine go_wp rfl (wq_iconst (v := 1) dX10_partOf_70 (by decide) rfl ?_)
      refine go_wp rfl (wq_iand (v := ((c >>> (h &&& 31)) &&& 1)) dX10_partOf_71 rfl rfl ?_)
      refine go_wp rfl (wq_if_ne (t := 102) dX10_partOf_72 (by decide) rfl (fun q3 => ?_) (fun q3 => ?_))
      · have q3' : Int32.toInt ((c >>> (h &&& 31)) &&& 1) ≠ Int32.toInt 0 := (ab_ieq (x := ((c >>> (h &&& 31)) &&& 1)) (y := 0)).2 q3
        refine go_wp rfl (wq_iconst (v := 0) dX10_partOf_102 (by decide) rfl ?_)
        refine go_wp rfl (wq_ior (v := (set ||| 0)) dX10_partOf_103 rfl rfl ?_)
        refine go_wp rfl (wq_istore_n (lv' := [some (.ref 76), some (.int m), some (.int c), some (.int (set ||| 0)), some (.int was), some (.int h), some (.int 1)]) dX10_partOf_104 ⟨Nat.le_of_ble_eq_true rfl, rfl⟩ rfl rfl ?_)
        refine go_wp rfl (wq_iinc (v := (h + Int32.ofInt 1)) (lv' := [some (.ref 76), some (.int m), some (.int c), some (.int (set ||| 0)), some (.int was), some (.int (h + Int32.ofInt 1)), some (.int 1)]) dX10_partOf_105 rfl ⟨Nat.le_of_ble_eq_true rfl, rfl⟩ rfl rfl rfl ?_)
        refine go_wp rfl (wq_goto (t := 19) dX10_partOf_108 (by decide) ?_)
        have hi := ab_inc (x := h) (by omega) (by omega)
        have ho := po_or2 (x := set) (y := 0) (by omega) (by omega) (by rw [ab_z0]; omega) (by rw [ab_z0]; omega)
        exact go_cut rfl ⟨_, (show 20 * (64 - was.toInt.toNat) + 10 - (h.toInt.toNat + 1) < n by omega), rfl, rfl, _, _, _, _, rfl, (by omega), (by omega), ho.2, (by omega), (by omega), (by omega)⟩
      · have q3' : Int32.toInt ((c >>> (h &&& 31)) &&& 1) = Int32.toInt 0 := (ab_ieq (x := ((c >>> (h &&& 31)) &&& 1)) (y := 0)).1 q3
        refine go_wp rfl (wq_iload dX10_partOf_75 rfl rfl ?_)
        refine go_wp rfl (wq_if_eq (t := 102) dX10_partOf_77 (by decide) rfl (fun q4 => ?_) (fun q4 => ?_))
        · have q4' : Int32.toInt 1 = Int32.toInt 0 := (ab_ieq (x := 1) (y := 0)).1 q4
          refine go_wp rfl (wq_iconst (v := 0) dX10_partOf_102 (by decide) rfl ?_)
          refine go_wp rfl (wq_ior (v := (set ||| 0)) dX10_partOf_103 rfl rfl ?_)
          refine go_wp rfl (wq_istore_n (lv' := [some (.ref 76), some (.int m), some (.int c), some (.int (set ||| 0)), some (.int was), some (.int h), some (.int 1)]) dX10_partOf_104 ⟨Nat.le_of_ble_eq_true rfl, rfl⟩ rfl rfl ?_)
          refine go_wp rfl (wq_iinc (v := (h + Int32.ofInt 1)) (lv' := [some (.ref 76), some (.int m), some (.int c), some (.int (set ||| 0)), some (.int was), some (.int (h + Int32.ofInt 1)), some (.int 1)]) dX10_partOf_105 rfl ⟨Nat.le_of_ble_eq_true rfl, rfl⟩ rfl rfl rfl ?_)
          refine go_wp rfl (wq_goto (t := 19) dX10_partOf_108 (by decide) ?_)
          have hi := ab_inc (x := h) (by omega) (by omega)
          have ho := po_or2 (x := set) (y := 0) (by omega) (by omega) (by rw [ab_z0]; omega) (by rw [ab_z0]; omega)
          exact go_cut rfl ⟨_, (show 20 * (64 - was.toInt.toNat) + 10 - (h.toInt.toNat + 1) < n by omega), rfl, rfl, _, _, _, _, rfl, (by omega), (by omega), ho.2, (by omega), (by omega), (by omega)⟩
        · have q4' : Int32.toInt 1 ≠ Int32.toInt 0 := (ab_ieq (x := 1) (y := 0)).2 q4
          refine go_wp rfl (wq_iconst (v := 1) dX10_partOf_80 (by decide) rfl ?_)
          refine go_wp rfl (wq_aload_n dX10_partOf_81 rfl rfl ?_)
          refine go_wp rfl (wq_getfield dX10_partOf_82 fe_X10_19 h76 hs_from rfl ?_)
          refine go_wp rfl (wq_iload dX10_partOf_85 rfl rfl ?_)
          refine go_wp rfl (wq_iaload (v := (f h.toNatClampNeg)) dX10_partOf_87 (by decide) hf (vp_mk (by omega) (by omega)) rfl rfl ?_)
          refine go_wp rfl (wq_ishl (v := (1 <<< ((f h.toNatClampNeg) &&& 31))) dX10_partOf_88 rfl rfl ?_)
          refine go_wp rfl (wq_iconst (v := 1) dX10_partOf_89 (by decide) rfl ?_)
          refine go_wp rfl (wq_aload_n dX10_partOf_90 rfl rfl ?_)
          refine go_wp rfl (wq_getfield dX10_partOf_91 fe_X10_22 h76 hs_to rfl ?_)
          refine go_wp rfl (wq_iload dX10_partOf_94 rfl rfl ?_)
          refine go_wp rfl (wq_iaload (v := (g h.toNatClampNeg)) dX10_partOf_96 (by decide) hg (vp_mk (by omega) (by omega)) rfl rfl ?_)
          refine go_wp rfl (wq_ishl (v := (1 <<< ((g h.toNatClampNeg) &&& 31))) dX10_partOf_97 rfl rfl ?_)
          refine go_wp rfl (wq_ior (v := ((1 <<< ((f h.toNatClampNeg) &&& 31)) ||| (1 <<< ((g h.toNatClampNeg) &&& 31)))) dX10_partOf_98 rfl rfl ?_)
          refine go_wp rfl (wq_goto (t := 103) dX10_partOf_99 (by decide) ?_)
          refine go_wp rfl (wq_ior (v := (set ||| ((1 <<< ((f h.toNatClampNeg) &&& 31)) ||| (1 <<< ((g h.toNatClampNeg) &&& 31))))) dX10_partOf_103 rfl rfl ?_)
          refine go_wp rfl (wq_istore_n (lv' := [some (.ref 76), some (.int m), some (.int c), some (.int (set ||| ((1 <<< ((f h.toNatClampNeg) &&& 31)) ||| (1 <<< ((g h.toNatClampNeg) &&& 31))))), some (.int was), some (.int h), some (.int 1)]) dX10_partOf_104 ⟨Nat.le_of_ble_eq_true rfl, rfl⟩ rfl rfl ?_)
          refine go_wp rfl (wq_iinc (v := (h + Int32.ofInt 1)) (lv' := [some (.ref 76), some (.int m), some (.int c), some (.int (set ||| ((1 <<< ((f h.toNatClampNeg) &&& 31)) ||| (1 <<< ((g h.toNatClampNeg) &&& 31))))), some (.int was), some (.int (h + Int32.ofInt 1)), some (.int 1)]) dX10_partOf_105 rfl ⟨Nat.le_of_ble_eq_true rfl, rfl⟩ rfl rfl rfl ?_)
          refine go_wp rfl (wq_goto (t := 19) dX10_partOf_108 (by decide) ?_)
          have hi := ab_inc (x := h) (by omega) (by omega)
          have hfh := hf5 h.toNatClampNeg (by have e : h.toNatClampNeg = h.toInt.toNat := rfl; omega)
          have hgh := hg5 h.toNatClampNeg (by have e : h.toNatClampNeg = h.toInt.toNat := rfl; omega)
          have s1 := po_sh hfh.1 hfh.2
          have s2 := po_sh hgh.1 hgh.2
          have s3 := po_or2 s1.1 s1.2 s2.1 s2.2
          have ho := po_or2 (x := set) (y := ((1 <<< ((f h.toNatClampNeg) &&& 31)) ||| (1 <<< ((g h.toNatClampNeg) &&& 31)))) (by omega) (by omega) (by omega) s3.2
          exact go_cut rfl ⟨_, (show 20 * (64 - was.toInt.toNat) + 10 - (h.toInt.toNat + 1) < n by omega), rfl, rfl, _, _, _, _, rfl, (by omega), (by omega), ho.2, (by omega), (by omega), (by omega)⟩
    · have q2' : Int32.toInt ((set >>> ((f h.toNatClampNeg) &&& 31)) &&& 1) ≠ Int32.toInt 1 := (ab_ieq (x := ((set >>> ((f h.toNatClampNeg) &&& 31)) &&& 1)) (y := 1)).2 q2
      refine go_wp rfl (wq_iload_n dX10_partOf_43 rfl rfl ?_)
      refine go_wp rfl (wq_aload_n dX10_partOf_44 rfl rfl ?_)
      refine go_wp rfl (wq_getfield dX10_partOf_45 fe_X10_22 h76 hs_to rfl ?_)
      refine go_wp rfl (wq_iload dX10_partOf_48 rfl rfl ?_)
      refine go_wp rfl (wq_iaload (v := (g h.toNatClampNeg)) dX10_partOf_50 (by decide) hg (vp_mk (by omega) (by omega)) rfl rfl ?_)
      refine go_wp rfl (wq_ishr (v := (set >>> ((g h.toNatClampNeg) &&& 31))) dX10_partOf_51 rfl rfl ?_)
      refine go_wp rfl (wq_iconst (v := 1) dX10_partOf_52 (by decide) rfl ?_)
      refine go_wp rfl (wq_iand (v := ((set >>> ((g h.toNatClampNeg) &&& 31)) &&& 1)) dX10_partOf_53 rfl rfl ?_)
      refine go_wp rfl (wq_iconst (v := 1) dX10_partOf_54 (by decide) rfl ?_)
      refine go_wp rfl (wq_icmp_ne (t := 62) dX10_partOf_55 (by decide) rfl (fun q5 => ?_) (fun q5 => ?_))
      · have q5' : Int32.toInt ((set >>> ((g h.toNatClampNeg) &&& 31)) &&& 1) ≠ Int32.toInt 1 := (ab_ieq (x := ((set >>> ((g h.toNatClampNeg) &&& 31)) &&& 1)) (y := 1)).2 q5
        refine go_wp rfl (wq_iconst (v := 0) dX10_partOf_62 (by decide) rfl ?_)
        refine go_wp rfl (wq_istore (lv' := [some (.ref 76), some (.int m), some (.int c), some (.int set), some (.int was), some (.int h), some (.int 0)]) dX10_partOf_63 ⟨Nat.le_of_ble_eq_true rfl, rfl⟩ rfl rfl ?_)
        refine go_wp rfl (wq_iload_n dX10_partOf_65 rfl rfl ?_)
        refine go_wp rfl (wq_iload_n dX10_partOf_66 rfl rfl ?_)
        refine go_wp rfl (wq_iload dX10_partOf_67 rfl rfl ?_)
        refine go_wp rfl (wq_ishr (v := (c >>> (h &&& 31))) dX10_partOf_69 rfl rfl ?_)
        refine go_wp rfl (wq_iconst (v := 1) dX10_partOf_70 (by decide) rfl ?_)
        refine go_wp rfl (wq_iand (v := ((c >>> (h &&& 31)) &&& 1)) dX10_partOf_71 rfl rfl ?_)
        refine go_wp rfl (wq_if_ne (t := 102) dX10_partOf_72 (by decide) rfl (fun q6 => ?_) (fun q6 => ?_))
        · have q6' : Int32.toInt ((c >>> (h &&& 31)) &&& 1) ≠ Int32.toInt 0 := (ab_ieq (x := ((c >>> (h &&& 31)) &&& 1)) (y := 0)).2 q6
          refine go_wp rfl (wq_iconst (v := 0) dX10_partOf_102 (by decide) rfl ?_)
          refine go_wp rfl (wq_ior (v := (set ||| 0)) dX10_partOf_103 rfl rfl ?_)
          refine go_wp rfl (wq_istore_n (lv' := [some (.ref 76), some (.int m), some (.int c), some (.int (set ||| 0)), some (.int was), some (.int h), some (.int 0)]) dX10_partOf_104 ⟨Nat.le_of_ble_eq_true rfl, rfl⟩ rfl rfl ?_)
          refine go_wp rfl (wq_iinc (v := (h + Int32.ofInt 1)) (lv' := [some (.ref 76), some (.int m), some (.int c), some (.int (set ||| 0)), some (.int was), some (.int (h + Int32.ofInt 1)), some (.int 0)]) dX10_partOf_105 rfl ⟨Nat.le_of_ble_eq_true rfl, rfl⟩ rfl rfl rfl ?_)
          refine go_wp rfl (wq_goto (t := 19) dX10_partOf_108 (by decide) ?_)
          have hi := ab_inc (x := h) (by omega) (by omega)
          have ho := po_or2 (x := set) (y := 0) (by omega) (by omega) (by rw [ab_z0]; omega) (by rw [ab_z0]; omega)
          exact go_cut rfl ⟨_, (show 20 * (64 - was.toInt.toNat) + 10 - (h.toInt.toNat + 1) < n by omega), rfl, rfl, _, _, _, _, rfl, (by omega), (by omega), ho.2, (by omega), (by omega), (by omega)⟩
        · have q6' : Int32.toInt ((c >>> (h &&& 31)) &&& 1) = Int32.toInt 0 := (ab_ieq (x := ((c >>> (h &&& 31)) &&& 1)) (y := 0)).1 q6
          refine go_wp rfl (wq_iload dX10_partOf_75 rfl rfl ?_)
          refine go_wp rfl (wq_if_eq (t := 102) dX10_partOf_77 (by decide) rfl (fun q7 => ?_) (fun q7 => ?_))
          · have q7' : Int32.toInt 0 = Int32.toInt 0 := (ab_ieq (x := 0) (y := 0)).1 q7
            refine go_wp rfl (wq_iconst (v := 0) dX10_partOf_102 (by decide) rfl ?_)
            refine go_wp rfl (wq_ior (v := (set ||| 0)) dX10_partOf_103 rfl rfl ?_)
            refine go_wp rfl (wq_istore_n (lv' := [some (.ref 76), some (.int m), some (.int c), some (.int (set ||| 0)), some (.int was), some (.int h), some (.int 0)]) dX10_partOf_104 ⟨Nat.le_of_ble_eq_true rfl, rfl⟩ rfl rfl ?_)
            refine go_wp rfl (wq_iinc (v := (h + Int32.ofInt 1)) (lv' := [some (.ref 76), some (.int m), some (.int c), some (.int (set ||| 0)), some (.int was), some (.int (h + Int32.ofInt 1)), some (.int 0)]) dX10_partOf_105 rfl ⟨Nat.le_of_ble_eq_true rfl, rfl⟩ rfl rfl rfl ?_)
            refine go_wp rfl (wq_goto (t := 19) dX10_partOf_108 (by decide) ?_)
            have hi := ab_inc (x := h) (by omega) (by omega)
            have ho := po_or2 (x := set) (y := 0) (by omega) (by omega) (by rw [ab_z0]; omega) (by rw [ab_z0]; omega)
            exact go_cut rfl ⟨_, (show 20 * (64 - was.toInt.toNat) + 10 - (h.toInt.toNat + 1) < n by omega), rfl, rfl, _, _, _, _, rfl, (by omega), (by omega), ho.2, (by omega), (by omega), (by omega)⟩
          · have q7' : Int32.toInt 0 ≠ Int32.toInt 0 := (ab_ieq (x := 0) (y := 0)).2 q7
            refine go_wp rfl (wq_iconst (v := 1) dX10_partOf_80 (by decide) rfl ?_)
            refine go_wp rfl (wq_aload_n dX10_partOf_81 rfl rfl ?_)
            refine go_wp rfl (wq_getfield dX10_partOf_82 fe_X10_19 h76 hs_from rfl ?_)
            refine go_wp rfl (wq_iload dX10_partOf_85 rfl rfl ?_)
            refine go_wp rfl (wq_iaload (v := (f h.toNatClampNeg)) dX10_partOf_87 (by decide) hf (vp_mk (by omega) (by omega)) rfl rfl ?_)
            refine go_wp rfl (wq_ishl (v := (1 <<< ((f h.toNatClampNeg) &&& 31))) dX10_partOf_88 rfl rfl ?_)
            refine go_wp rfl (wq_iconst (v := 1) dX10_partOf_89 (by decide) rfl ?_)
            refine go_wp rfl (wq_aload_n dX10_partOf_90 rfl rfl ?_)
            refine go_wp rfl (wq_getfield dX10_partOf_91 fe_X10_22 h76 hs_to rfl ?_)
            refine go_wp rfl (wq_iload dX10_partOf_94 rfl rfl ?_)
            refine go_wp rfl (wq_iaload (v := (g h.toNatClampNeg)) dX10_partOf_96 (by decide) hg (vp_mk (by omega) (by omega)) rfl rfl ?_)
            refine go_wp rfl (wq_ishl (v := (1 <<< ((g h.toNatClampNeg) &&& 31))) dX10_partOf_97 rfl rfl ?_)
            refine go_wp rfl (wq_ior (v := ((1 <<< ((f h.toNatClampNeg) &&& 31)) ||| (1 <<< ((g h.toNatClampNeg) &&& 31)))) dX10_partOf_98 rfl rfl ?_)
            refine go_wp rfl (wq_goto (t := 103) dX10_partOf_99 (by decide) ?_)
            refine go_wp rfl (wq_ior (v := (set ||| ((1 <<< ((f h.toNatClampNeg) &&& 31)) ||| (1 <<< ((g h.toNatClampNeg) &&& 31))))) dX10_partOf_103 rfl rfl ?_)
            refine go_wp rfl (wq_istore_n (lv' := [some (.ref 76), some (.int m), some (.int c), some (.int (set ||| ((1 <<< ((f h.toNatClampNeg) &&& 31)) ||| (1 <<< ((g h.toNatClampNeg) &&& 31))))), some (.int was), some (.int h), some (.int 0)]) dX10_partOf_104 ⟨Nat.le_of_ble_eq_true rfl, rfl⟩ rfl rfl ?_)
            refine go_wp rfl (wq_iinc (v := (h + Int32.ofInt 1)) (lv' := [some (.ref 76), some (.int m), some (.int c), some (.int (set ||| ((1 <<< ((f h.toNatClampNeg) &&& 31)) ||| (1 <<< ((g h.toNatClampNeg) &&& 31))))), some (.int was), some (.int (h + Int32.ofInt 1)), some (.int 0)]) dX10_partOf_105 rfl ⟨Nat.le_of_ble_eq_true rfl, rfl⟩ rfl rfl rfl ?_)
            refine go_wp rfl (wq_goto (t := 19) dX10_partOf_108 (by decide) ?_)
            have hi := ab_inc (x := h) (by omega) (by omega)
            have hfh := hf5 h.toNatClampNeg (by have e : h.toNatClampNeg = h.toInt.toNat := rfl; omega)
            have hgh := hg5 h.toNatClampNeg (by have e : h.toNatClampNeg = h.toInt.toNat := rfl; omega)
            have s1 := po_sh hfh.1 hfh.2
            have s2 := po_sh hgh.1 hgh.2
            have s3 := po_or2 s1.1 s1.2 s2.1 s2.2
            have ho := po_or2 (x := set) (y := ((1 <<< ((f h.toNatClampNeg) &&& 31)) ||| (1 <<< ((g h.toNatClampNeg) &&& 31)))) (by omega) (by omega) (by omega) s3.2
            exact go_cut rfl ⟨_, (show 20 * (64 - was.toInt.toNat) + 10 - (h.toInt.toNat + 1) < n by omega), rfl, rfl, _, _, _, _, rfl, (by omega), (by omega), ho.2, (by omega), (by omega), (by omega)⟩
      · have q5' : Int32.toInt ((set >>> ((g h.toNatClampNeg) &&& 31)) &&& 1) = Int32.toInt 1 := (ab_ieq (x := ((set >>> ((g h.toNatClampNeg) &&& 31)) &&& 1)) (y := 1)).1 q5
        refine go_wp rfl (wq_iconst (v := 1) dX10_partOf_58 (by decide) rfl ?_)
        refine go_wp rfl (wq_goto (t := 63) dX10_partOf_59 (by decide) ?_)
        refine go_wp rfl (wq_istore (lv' := [some (.ref 76), some (.int m), some (.int c), some (.int set), some (.int was), some (.int h), some (.int 1)]) dX10_partOf_63 ⟨Nat.le_of_ble_eq_true rfl, rfl⟩ rfl rfl ?_)
        refine go_wp rfl (wq_iload_n dX10_partOf_65 rfl rfl ?_)
        refine go_wp rfl (wq_iload_n dX10_partOf_66 rfl rfl ?_)
        refine go_wp rfl (wq_iload dX10_partOf_67 rfl rfl ?_)
        refine go_wp rfl (wq_ishr (v := (c >>> (h &&& 31))) dX10_partOf_69 rfl rfl ?_)
        refine go_wp rfl (wq_iconst (v := 1) dX10_partOf_70 (by decide) rfl ?_)
        refine go_wp rfl (wq_iand (v := ((c >>> (h &&& 31)) &&& 1)) dX10_partOf_71 rfl rfl ?_)
        refine go_wp rfl (wq_if_ne (t := 102) dX10_partOf_72 (by decide) rfl (fun q8 => ?_) (fun q8 => ?_))
        · have q8' : Int32.toInt ((c >>> (h &&& 31)) &&& 1) ≠ Int32.toInt 0 := (ab_ieq (x := ((c >>> (h &&& 31)) &&& 1)) (y := 0)).2 q8
          refine go_wp rfl (wq_iconst (v := 0) dX10_partOf_102 (by decide) rfl ?_)
          refine go_wp rfl (wq_ior (v := (set ||| 0)) dX10_partOf_103 rfl rfl ?_)
          refine go_wp rfl (wq_istore_n (lv' := [some (.ref 76), some (.int m), some (.int c), some (.int (set ||| 0)), some (.int was), some (.int h), some (.int 1)]) dX10_partOf_104 ⟨Nat.le_of_ble_eq_true rfl, rfl⟩ rfl rfl ?_)
          refine go_wp rfl (wq_iinc (v := (h + Int32.ofInt 1)) (lv' := [some (.ref 76), some (.int m), some (.int c), some (.int (set ||| 0)), some (.int was), some (.int (h + Int32.ofInt 1)), some (.int 1)]) dX10_partOf_105 rfl ⟨Nat.le_of_ble_eq_true rfl, rfl⟩ rfl rfl rfl ?_)
          refine go_wp rfl (wq_goto (t := 19) dX10_partOf_108 (by decide) ?_)
          have hi := ab_inc (x := h) (by omega) (by omega)
          have ho := po_or2 (x := set) (y := 0) (by omega) (by omega) (by rw [ab_z0]; omega) (by rw [ab_z0]; omega)
          exact go_cut rfl ⟨_, (show 20 * (64 - was.toInt.toNat) + 10 - (h.toInt.toNat + 1) < n by omega), rfl, rfl, _, _, _, _, rfl, (by omega), (by omega), ho.2, (by omega), (by omega), (by omega)⟩
        · have q8' : Int32.toInt ((c >>> (h &&& 31)) &&& 1) = Int32.toInt 0 := (ab_ieq (x := ((c >>> (h &&& 31)) &&& 1)) (y := 0)).1 q8
          refine go_wp rfl (wq_iload dX10_partOf_75 rfl rfl ?_)
          refine go_wp rfl (wq_if_eq (t := 102) dX10_partOf_77 (by decide) rfl (fun q9 => ?_) (fun q9 => ?_))
          · have q9' : Int32.toInt 1 = Int32.toInt 0 := (ab_ieq (x := 1) (y := 0)).1 q9
            refine go_wp rfl (wq_iconst (v := 0) dX10_partOf_102 (by decide) rfl ?_)
            refine go_wp rfl (wq_ior (v := (set ||| 0)) dX10_partOf_103 rfl rfl ?_)
            refine go_wp rfl (wq_istore_n (lv' := [some (.ref 76), some (.int m), some (.int c), some (.int (set ||| 0)), some (.int was), some (.int h), some (.int 1)]) dX10_partOf_104 ⟨Nat.le_of_ble_eq_true rfl, rfl⟩ rfl rfl ?_)
            refine go_wp rfl (wq_iinc (v := (h + Int32.ofInt 1)) (lv' := [some (.ref 76), some (.int m), some (.int c), some (.int (set ||| 0)), some (.int was), some (.int (h + Int32.ofInt 1)), some (.int 1)]) dX10_partOf_105 rfl ⟨Nat.le_of_ble_eq_true rfl, rfl⟩ rfl rfl rfl ?_)
            refine go_wp rfl (wq_goto (t := 19) dX10_partOf_108 (by decide) ?_)
            have hi := ab_inc (x := h) (by omega) (by omega)
            have ho := po_or2 (x := set) (y := 0) (by omega) (by omega) (by rw [ab_z0]; omega) (by rw [ab_z0]; omega)
            exact go_cut rfl ⟨_, (show 20 * (64 - was.toInt.toNat) + 10 - (h.toInt.toNat + 1) < n by omega), rfl, rfl, _, _, _, _, rfl, (by omega), (by omega), ho.2, (by omega), (by omega), (by omega)⟩
          · have q9' : Int32.toInt 1 ≠ Int32.toInt 0 := (ab_ieq (x := 1) (y := 0)).2 q9
            refine go_wp rfl (wq_iconst (v := 1) dX10_partOf_80 (by decide) rfl ?_)
            refine go_wp rfl (wq_aload_n dX10_partOf_81 rfl rfl ?_)
            refine go_wp rfl (wq_getfield dX10_partOf_82 fe_X10_19 h76 hs_from rfl ?_)
            refine go_wp rfl (wq_iload dX10_partOf_85 rfl rfl ?_)
            refine go_wp rfl (wq_iaload (v := (f h.toNatClampNeg)) dX10_partOf_87 (by decide) hf (vp_mk (by omega) (by omega)) rfl rfl ?_)
            refine go_wp rfl (wq_ishl (v := (1 <<< ((f h.toNatClampNeg) &&& 31))) dX10_partOf_88 rfl rfl ?_)
            refine go_wp rfl (wq_iconst (v := 1) dX10_partOf_89 (by decide) rfl ?_)
            refine go_wp rfl (wq_aload_n dX10_partOf_90 rfl rfl ?_)
            refine go_wp rfl (wq_getfield dX10_partOf_91 fe_X10_22 h76 hs_to rfl ?_)
            refine go_wp rfl (wq_iload dX10_partOf_94 rfl rfl ?_)
            refine go_wp rfl (wq_iaload (v := (g h.toNatClampNeg)) dX10_partOf_96 (by decide) hg (vp_mk (by omega) (by omega)) rfl rfl ?_)
            refine go_wp rfl (wq_ishl (v := (1 <<< ((g h.toNatClampNeg) &&& 31))) dX10_partOf_97 rfl rfl ?_)
            refine go_wp rfl (wq_ior (v := ((1 <<< ((f h.toNatClampNeg) &&& 31)) ||| (1 <<< ((g h.toNatClampNeg) &&& 31)))) dX10_partOf_98 rfl rfl ?_)
            refine go_wp rfl (wq_goto (t := 103) dX10_partOf_99 (by decide) ?_)
            refine go_wp rfl (wq_ior (v := (set ||| ((1 <<< ((f h.toNatClampNeg) &&& 31)) ||| (1 <<< ((g h.toNatClampNeg) &&& 31))))) dX10_partOf_103 rfl rfl ?_)
            refine go_wp rfl (wq_istore_n (lv' := [some (.ref 76), some (.int m), some (.int c), some (.int (set ||| ((1 <<< ((f h.toNatClampNeg) &&& 31)) ||| (1 <<< ((g h.toNatClampNeg) &&& 31))))), some (.int was), some (.int h), some (.int 1)]) dX10_partOf_104 ⟨Nat.le_of_ble_eq_true rfl, rfl⟩ rfl rfl ?_)
            refine go_wp rfl (wq_iinc (v := (h + Int32.ofInt 1)) (lv' := [some (.ref 76), some (.int m), some (.int c), some (.int (set ||| ((1 <<< ((f h.toNatClampNeg) &&& 31)) ||| (1 <<< ((g h.toNatClampNeg) &&& 31))))), some (.int was), some (.int (h + Int32.ofInt 1)), some (.int 1)]) dX10_partOf_105 rfl ⟨Nat.le_of_ble_eq_true rfl, rfl⟩ rfl rfl rfl ?_)
            refine go_wp rfl (wq_goto (t := 19) dX10_partOf_108 (by decide) ?_)
            have hi := ab_inc (x := h) (by omega) (by omega)
            have hfh := hf5 h.toNatClampNeg (by have e : h.toNatClampNeg = h.toInt.toNat := rfl; omega)
            have hgh := hg5 h.toNatClampNeg (by have e : h.toNatClampNeg = h.toInt.toNat := rfl; omega)
            have s1 := po_sh hfh.1 hfh.2
            have s2 := po_sh hgh.1 hgh.2
            have s3 := po_or2 s1.1 s1.2 s2.1 s2.2
            have ho := po_or2 (x := set) (y := ((1 <<< ((f h.toNatClampNeg) &&& 31)) ||| (1 <<< ((g h.toNatClampNeg) &&& 31)))) (by omega) (by omega) (by omega) s3.2
            exact go_cut rfl ⟨_, (show 20 * (64 - was.toInt.toNat) + 10 - (h.toInt.toNat + 1) < n by omega), rfl, rfl, _, _, _, _, rfl, (by omega), (by omega), ho.2, (by omega), (by omega), (by omega)⟩
set_option maxRecDepth 100000 in
set_option maxHeartbeats 4000000 in
theorem po_w0 {m c hat : Int32} {f g : Nat → Int32} {cs : ex_C} {fs : List Value} {Q : ex_Q} (h76 : cs[76]? = some (.inr (10, fs))) (hs_hatches : fs[4]? = some (.int hat)) (hs_from : fs[5]? = some (.ref 80)) (hs_to : fs[6]? = some (.ref 81)) (hf : cs[80]? = some (.inl (0, 8, .inl f))) (hg : cs[81]? = some (.inl (0, 8, .inl g))) (hh1 : 0 ≤ hat.toInt) (hh2 : hat.toInt ≤ 8) (hf5 : ∀ j, j < 8 → 0 ≤ (f j).toInt ∧ (f j).toInt ≤ 5) (hg5 : ∀ j, j < 8 → 0 ≤ (g j).toInt ∧ (g j).toInt ≤ 5) (hQ : ∀ r, Q (some (.int r)) cs) (hm1 : 0 ≤ m.toInt) (hm2 : m.toInt ≤ 5) : ex_wp ec_xt bx_X10_partOf cX10_partOf (some .int) (po_A m c cs) Q 60 0 [some (.ref 76), some (.int m), some (.int c), none, none, none, none] [] cs := by
  refine wq_iconst (v := 1) dX10_partOf_0 (by decide) rfl ?_
  refine go_wp rfl (wq_iload_n dX10_partOf_1 rfl rfl ?_)
  refine go_wp rfl (wq_ishl (v := (1 <<< (m &&& 31))) dX10_partOf_2 rfl rfl ?_)
  refine go_wp rfl (wq_istore_n (lv' := [some (.ref 76), some (.int m), some (.int c), some (.int (1 <<< (m &&& 31))), none, none, none]) dX10_partOf_3 ⟨Nat.le_of_ble_eq_true rfl, rfl⟩ rfl rfl ?_)
  refine go_wp rfl (wq_iconst (v := 0) dX10_partOf_4 (by decide) rfl ?_)
  refine go_wp rfl (wq_istore (lv' := [some (.ref 76), some (.int m), some (.int c), some (.int (1 <<< (m &&& 31))), some (.int 0), none, none]) dX10_partOf_5 ⟨Nat.le_of_ble_eq_true rfl, rfl⟩ rfl rfl ?_)
  have s1 := po_sh hm1 hm2
  exact go_cut rfl ⟨20 * 64, rfl, rfl, _, _, _, _, rfl, (by rw [ab_z0]; omega), (by rw [ab_z0]; exact s1.1), s1.2, (by rw [ab_z0]; omega)⟩
theorem po_ct {t : ab_T} {lo hi : Int} {v : Value} (h : ab_ct t v) (e : t = .inr (lo, hi)) : ∃ x : Int32, v = .int x ∧ lo ≤ x.toInt ∧ x.toInt ≤ hi := by
  subst e
  exact h
set_option maxRecDepth 100000 in
theorem bm_X10_partOf (l : Launch) : ex_Met l yX10_partOf cX10_partOf 7 (some .int) 0 0 (ab_sp ab_hd bc_X10_partOf) := by
  intro D ad ca n sz av cs Q h
  refine ex_lmet (by decide) rfl (bj_X10_partOf l) D ad ca n sz av cs Q ?_
  obtain ⟨c, hc, ⟨hp1, hp2, -⟩, hk, hQ⟩ := h
  have hc' : c = ([.inl 76, .inr (0, 5), .inr (-1, 2147483647)], [], [], [(some (-2147483648, 2147483647, none), [], [])]) := by
    unfold bc_X10_partOf bq_X10_partOf at hc
    simpa using hc
  subst hc'
  obtain ⟨v0, e0, h0⟩ := hp2 0 _ rfl
  obtain ⟨v1, e1, x1, rfl, m1, m2⟩ := hp2 1 _ rfl
  obtain ⟨v2, e2, x2, rfl, -, -⟩ := hp2 2 _ rfl
  cases h0
  have hav : av = [.ref 76, .int x1, .int x2] := by
    match av, hp1, e0, e1, e2 with
    | [a, b, c], _, e0, e1, e2 =>
      simp at e0 e1 e2
      subst e0 e1 e2
      rfl
  subst hav
  obtain ⟨fs, h76, -, hj⟩ := hk.obj (a := 76) (ci := 10) rfl
  obtain ⟨hv, hs_hatches, hat, rfl, hh1, hh2⟩ := hj 4 (.inr (0, 8)) rfl
  have hs_from : fs[5]? = some (.ref 80) := by
    obtain ⟨v, hv, hc⟩ := hj 5 (.inl 80) rfl
    cases hc
    exact hv
  have hs_to : fs[6]? = some (.ref 81) := by
    obtain ⟨v, hv, hc⟩ := hj 6 (.inl 81) rfl
    cases hc
    exact hv
  obtain ⟨f, hf, hf5⟩ := hk.arr (a := 80) (t := 0) (n := 8) (m := 8) (lo := 0) (hi := 5) rfl (by decide)
  obtain ⟨g, hg, hg5⟩ := hk.arr (a := 81) (t := 0) (n := 8) (m := 8) (lo := 0) (hi := 5) rfl (by decide)
  have hQ' : ∀ r, Q (some (.int r)) cs := fun r => hQ _ _ ⟨hk, ab_rf0, _, List.mem_cons_self, ⟨r, rfl, ⟨ab_ge r, ab_lt' r⟩, fun _ h => (by cases h)⟩, fun q hq => (by cases hq), fun q hq => (by cases hq)⟩
  refine sl_in 60 (po_I x1 x2 cs) rfl (Nat.le_of_ble_eq_true rfl) rfl (po_w0 h76 hs_hatches hs_from hs_to hf hg hh1 hh2 hf5 hg5 hQ' m1 m2) (fun pc J n lv st cs' hI hJ => ?_)
  unfold po_I at hI
  split at hI
  · rename_i e
    subst e
    cases hI
    obtain ⟨rfl, rfl, set, was, x5, x6, rfl, b1, b2, b3, hn⟩ := hJ
    exact po_w7 h76 hs_hatches hs_from hs_to hf hg hh1 hh2 hf5 hg5 hQ' b1 b2 b3 hn
  · split at hI
    · rename_i e
      subst e
      cases hI
      obtain ⟨rfl, rfl, set, was, hx, x6, rfl, b1, b2, b3, b4, b5, hn⟩ := hJ
      exact po_w19 h76 hs_hatches hs_from hs_to hf hg hh1 hh2 hf5 hg5 hQ' b1 b2 b3 b4 b5 hn
    · cases hI
