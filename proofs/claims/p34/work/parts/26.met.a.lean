theorem ba_X9_copy : ec_al [(874, Cond.code yX9_copy cX9_copy 2 none), (58, Cond.initialized yX9_copy.cls), (873, Cond.static yX9_copy)] := ec_alk (by decide +kernel)
theorem bw_X9_copy : ec_cw yX9_copy cX9_copy 2 none := ⟨ba_X9_copy.1, ba_X9_copy.2.1, nc_RX9⟩
theorem bv_X9_copy : Cond.static yX9_copy ∈ ec_tb := ba_X9_copy.2.2.1
theorem bp_X9_copy : (parseMethodDescriptor yX9_copy.desc).map (fun d => d.parameters.length) = some 2 := by decide +kernel
theorem bj_X9_copy (l : Launch) : ex_ok l 1 26 bx_X9_copy := ⟨ec_fok fo_X9, ec_cok co_X9, so_X9, ec_okn, am_X9 (by decide) (by decide), ax_X9, ao_X9 (by decide) (by decide), fun _ _ h => (by cases h)⟩
theorem bm_X9_copy (l : Launch) : ex_Met l yX9_copy cX9_copy 2 none 1 26 (ab_sp ab_hd bc_X9_copy) := ab_met (by decide) pn_RX9 rfl (bj_X9_copy l) bd_X9_copy ab_hcm ab_xk bz_X9_copy
theorem ba_X9_copyFlags : ec_al [(881, Cond.code yX9_copyFlags cX9_copyFlags 3 none), (58, Cond.initialized yX9_copyFlags.cls), (880, Cond.static yX9_copyFlags)] := ec_alk (by decide +kernel)
theorem bw_X9_copyFlags : ec_cw yX9_copyFlags cX9_copyFlags 3 none := ⟨ba_X9_copyFlags.1, ba_X9_copyFlags.2.1, nc_RX9⟩
theorem bv_X9_copyFlags : Cond.static yX9_copyFlags ∈ ec_tb := ba_X9_copyFlags.2.2.1
theorem bp_X9_copyFlags : (parseMethodDescriptor yX9_copyFlags.desc).map (fun d => d.parameters.length) = some 2 := by decide +kernel
theorem bj_X9_copyFlags (l : Launch) : ex_ok l 0 0 bx_X9_copyFlags := ec_okp fo_X9 co_X9 so_X9 (ec_okn)
theorem bm_X9_copyFlags (l : Launch) : ex_Met l yX9_copyFlags cX9_copyFlags 3 none 0 0 (ab_sp ab_hd bc_X9_copyFlags) := ab_met (by decide) pn_RX9 rfl (bj_X9_copyFlags l) bd_X9_copyFlags ab_hcm ab_xk bz_X9_copyFlags
theorem ba_X0_becomeLike : ec_al [(871, Cond.code yX0_becomeLike cX0_becomeLike 2 none), (61, Cond.initialized yX0_becomeLike.cls), (869, Cond.instanceMethod yX0_becomeLike), (870, Cond.selects yX0_becomeLike.cls yX0_becomeLike yX0_becomeLike)] := ec_alk (by decide +kernel)
theorem bw_X0_becomeLike : ec_cw yX0_becomeLike cX0_becomeLike 2 none := ⟨ba_X0_becomeLike.1, ba_X0_becomeLike.2.1, nc_RX0⟩
theorem bv_X0_becomeLike : Cond.instanceMethod yX0_becomeLike ∈ ec_tb ∧ Cond.selects yX0_becomeLike.cls yX0_becomeLike yX0_becomeLike ∈ ec_tb := ⟨ba_X0_becomeLike.2.2.1, ba_X0_becomeLike.2.2.2.1⟩
theorem bp_X0_becomeLike : (parseMethodDescriptor yX0_becomeLike.desc).map (fun d => d.parameters.length) = some 1 := by decide +kernel
theorem bk_X0_becomeLike (l : Launch) : ∀ (ix n : Nat) (rc : Option Nat) (sp : ex_S), (be_X0_becomeLike ix).map (fun q => (q.1, q.2.1, ab_sp ab_hd q.2.2)) = some (n, rc, sp) → ex_cok l RX0 2 47 ix n rc sp := by
  intro ix n rc sp h
  obtain ⟨l0, h2, rfl⟩ := ab_dmk h
  clear h
  unfold be_X0_becomeLike at h2
  split at h2
  · cases h2; exact ec_cS (bm_X9_copy l) bw_X9_copy bv_X9_copy (by decide) (by decide) (Or.inr ⟨"TinStation", List.mem_of_getElem? (i := 0) rfl⟩) bp_X9_copy
  · cases h2; exact ec_cS (bm_X9_copyFlags l) bw_X9_copyFlags bv_X9_copyFlags (by decide) (by decide) (Or.inr ⟨"TinStation", List.mem_of_getElem? (i := 1) rfl⟩) bp_X9_copyFlags
  · cases h2
theorem bj_X0_becomeLike (l : Launch) : ex_ok l 2 47 bx_X0_becomeLike := ec_okp fo_X0 co_X0 so_X0 (bk_X0_becomeLike l)
theorem bm_X0_becomeLike (l : Launch) : ex_Met l yX0_becomeLike cX0_becomeLike 2 none 2 47 (ab_sp ab_hd bc_X0_becomeLike) := ab_met (by decide) pn_RX0 rfl (bj_X0_becomeLike l) bd_X0_becomeLike ab_hcm ab_xk bz_X0_becomeLike
theorem ba_X0_isSort : ec_al [(471, Cond.code yX0_isSort cX0_isSort 1 (some .boolean)), (61, Cond.initialized yX0_isSort.cls), (470, Cond.static yX0_isSort)] := ec_alk (by decide +kernel)
theorem bw_X0_isSort : ec_cw yX0_isSort cX0_isSort 1 (some .boolean) := ⟨ba_X0_isSort.1, ba_X0_isSort.2.1, nc_RX0⟩
theorem bv_X0_isSort : Cond.static yX0_isSort ∈ ec_tb := ba_X0_isSort.2.2.1
theorem bp_X0_isSort : (parseMethodDescriptor yX0_isSort.desc).map (fun d => d.parameters.length) = some 1 := by decide +kernel
theorem bj_X0_isSort (l : Launch) : ex_ok l 0 0 bx_X0_isSort := ec_okp fo_X0 co_X0 so_X0 (ec_okn)
theorem bm_X0_isSort (l : Launch) : ex_Met l yX0_isSort cX0_isSort 1 (some .boolean) 0 0 (ab_sp ab_hd bc_X0_isSort) := ab_met (by decide) pn_RX0 rfl (bj_X0_isSort l) bd_X0_isSort ab_hcm ab_xk bz_X0_isSort
theorem ba_X0_hasModule : ec_al [(441, Cond.code yX0_hasModule cX0_hasModule 2 (some .boolean)), (61, Cond.initialized yX0_hasModule.cls), (439, Cond.instanceMethod yX0_hasModule), (440, Cond.selects yX0_hasModule.cls yX0_hasModule yX0_hasModule)] := ec_alk (by decide +kernel)
theorem bw_X0_hasModule : ec_cw yX0_hasModule cX0_hasModule 2 (some .boolean) := ⟨ba_X0_hasModule.1, ba_X0_hasModule.2.1, nc_RX0⟩
theorem bv_X0_hasModule : Cond.instanceMethod yX0_hasModule ∈ ec_tb ∧ Cond.selects yX0_hasModule.cls yX0_hasModule yX0_hasModule ∈ ec_tb := ⟨ba_X0_hasModule.2.2.1, ba_X0_hasModule.2.2.2.1⟩
theorem bp_X0_hasModule : (parseMethodDescriptor yX0_hasModule.desc).map (fun d => d.parameters.length) = some 1 := by decide +kernel
theorem bj_X0_hasModule (l : Launch) : ex_ok l 0 0 bx_X0_hasModule := ec_okp fo_X0 co_X0 so_X0 (ec_okn)
theorem bm_X0_hasModule (l : Launch) : ex_Met l yX0_hasModule cX0_hasModule 2 (some .boolean) 0 0 (ab_sp ab_hd bc_X0_hasModule) := ab_met (by decide) pn_RX0 rfl (bj_X0_hasModule l) bd_X0_hasModule ab_hcm ab_xk bz_X0_hasModule
theorem ba_X0_hasHatch : ec_al [(454, Cond.code yX0_hasHatch cX0_hasHatch 2 (some .boolean)), (61, Cond.initialized yX0_hasHatch.cls), (452, Cond.instanceMethod yX0_hasHatch), (453, Cond.selects yX0_hasHatch.cls yX0_hasHatch yX0_hasHatch)] := ec_alk (by decide +kernel)
theorem bw_X0_hasHatch : ec_cw yX0_hasHatch cX0_hasHatch 2 (some .boolean) := ⟨ba_X0_hasHatch.1, ba_X0_hasHatch.2.1, nc_RX0⟩
theorem bv_X0_hasHatch : Cond.instanceMethod yX0_hasHatch ∈ ec_tb ∧ Cond.selects yX0_hasHatch.cls yX0_hasHatch yX0_hasHatch ∈ ec_tb := ⟨ba_X0_hasHatch.2.2.1, ba_X0_hasHatch.2.2.2.1⟩
theorem bp_X0_hasHatch : (parseMethodDescriptor yX0_hasHatch.desc).map (fun d => d.parameters.length) = some 1 := by decide +kernel
theorem bj_X0_hasHatch (l : Launch) : ex_ok l 0 0 bx_X0_hasHatch := ec_okp fo_X0 co_X0 so_X0 (ec_okn)
theorem bm_X0_hasHatch (l : Launch) : ex_Met l yX0_hasHatch cX0_hasHatch 2 (some .boolean) 0 0 (ab_sp ab_hd bc_X0_hasHatch) := ab_met (by decide) pn_RX0 rfl (bj_X0_hasHatch l) bd_X0_hasHatch ab_hcm ab_xk bz_X0_hasHatch
theorem ba_X0_addModule : ec_al [(422, Cond.code yX0_addModule cX0_addModule 1 (some .int)), (61, Cond.initialized yX0_addModule.cls), (420, Cond.instanceMethod yX0_addModule), (421, Cond.selects yX0_addModule.cls yX0_addModule yX0_addModule)] := ec_alk (by decide +kernel)
theorem bw_X0_addModule : ec_cw yX0_addModule cX0_addModule 1 (some .int) := ⟨ba_X0_addModule.1, ba_X0_addModule.2.1, nc_RX0⟩
theorem bv_X0_addModule : Cond.instanceMethod yX0_addModule ∈ ec_tb ∧ Cond.selects yX0_addModule.cls yX0_addModule yX0_addModule ∈ ec_tb := ⟨ba_X0_addModule.2.2.1, ba_X0_addModule.2.2.2.1⟩
theorem bp_X0_addModule : (parseMethodDescriptor yX0_addModule.desc).map (fun d => d.parameters.length) = some 0 := by decide +kernel
theorem bj_X0_addModule (l : Launch) : ex_ok l 0 0 bx_X0_addModule := ec_okp fo_X0 co_X0 so_X0 (ec_okn)
theorem bm_X0_addModule (l : Launch) : ex_Met l yX0_addModule cX0_addModule 1 (some .int) 0 0 (ab_sp ab_hd bc_X0_addModule) := ab_met (by decide) pn_RX0 rfl (bj_X0_addModule l) bd_X0_addModule ab_hcm ab_xk bz_X0_addModule
theorem ba_X0_addHatch : ec_al [(437, Cond.code yX0_addHatch cX0_addHatch 3 (some .int)), (61, Cond.initialized yX0_addHatch.cls), (435, Cond.instanceMethod yX0_addHatch), (436, Cond.selects yX0_addHatch.cls yX0_addHatch yX0_addHatch), (438, Cond.methodLink RX0 47 yX0_hasModule)] := ec_alk (by decide +kernel)
theorem bw_X0_addHatch : ec_cw yX0_addHatch cX0_addHatch 3 (some .int) := ⟨ba_X0_addHatch.1, ba_X0_addHatch.2.1, nc_RX0⟩
theorem bv_X0_addHatch : Cond.instanceMethod yX0_addHatch ∈ ec_tb ∧ Cond.selects yX0_addHatch.cls yX0_addHatch yX0_addHatch ∈ ec_tb := ⟨ba_X0_addHatch.2.2.1, ba_X0_addHatch.2.2.2.1⟩
theorem bp_X0_addHatch : (parseMethodDescriptor yX0_addHatch.desc).map (fun d => d.parameters.length) = some 2 := by decide +kernel
theorem bk_X0_addHatch (l : Launch) : ∀ (ix n : Nat) (rc : Option Nat) (sp : ex_S), (be_X0_addHatch ix).map (fun q => (q.1, q.2.1, ab_sp ab_hd q.2.2)) = some (n, rc, sp) → ex_cok l RX0 1 21 ix n rc sp := by
  intro ix n rc sp h
  obtain ⟨l0, h2, rfl⟩ := ab_dmk h
  clear h
  unfold be_X0_addHatch at h2
  split at h2
  · cases h2; exact ec_cV (bm_X0_hasModule l) bw_X0_hasModule bv_X0_hasModule (by decide) (by decide) (Or.inl ba_X0_addHatch.2.2.2.2.1) (T := TX0) (N := 8) rfl (by decide) bp_X0_hasModule
  · cases h2
theorem bj_X0_addHatch (l : Launch) : ex_ok l 1 21 bx_X0_addHatch := ec_okp fo_X0 co_X0 so_X0 (bk_X0_addHatch l)
theorem bm_X0_addHatch (l : Launch) : ex_Met l yX0_addHatch cX0_addHatch 3 (some .int) 1 21 (ab_sp ab_hd bc_X0_addHatch) := ab_met (by decide) pn_RX0 rfl (bj_X0_addHatch l) bd_X0_addHatch ab_hcm ab_xk bz_X0_addHatch
theorem ba_X9_isSwitch : ec_al [(457, Cond.code yX9_isSwitch cX9_isSwitch 1 (some .boolean)), (58, Cond.initialized yX9_isSwitch.cls), (456, Cond.static yX9_isSwitch)] := ec_alk (by decide +kernel)
theorem bw_X9_isSwitch : ec_cw yX9_isSwitch cX9_isSwitch 1 (some .boolean) := ⟨ba_X9_isSwitch.1, ba_X9_isSwitch.2.1, nc_RX9⟩
theorem bv_X9_isSwitch : Cond.static yX9_isSwitch ∈ ec_tb := ba_X9_isSwitch.2.2.1
theorem bp_X9_isSwitch : (parseMethodDescriptor yX9_isSwitch.desc).map (fun d => d.parameters.length) = some 1 := by decide +kernel
theorem bj_X9_isSwitch (l : Launch) : ex_ok l 0 0 bx_X9_isSwitch := ec_okp fo_X9 co_X9 so_X9 (ec_okn)
theorem bm_X9_isSwitch (l : Launch) : ex_Met l yX9_isSwitch cX9_isSwitch 1 (some .boolean) 0 0 (ab_sp ab_hd bc_X9_isSwitch) := ab_met (by decide) pn_RX9 rfl (bj_X9_isSwitch l) bd_X9_isSwitch ab_hcm ab_xk bz_X9_isSwitch
theorem ba_X9_one : ec_al [(460, Cond.code yX9_one cX9_one 1 (some .int)), (58, Cond.initialized yX9_one.cls), (459, Cond.static yX9_one)] := ec_alk (by decide +kernel)
theorem bw_X9_one : ec_cw yX9_one cX9_one 1 (some .int) := ⟨ba_X9_one.1, ba_X9_one.2.1, nc_RX9⟩
theorem bv_X9_one : Cond.static yX9_one ∈ ec_tb := ba_X9_one.2.2.1
theorem bp_X9_one : (parseMethodDescriptor yX9_one.desc).map (fun d => d.parameters.length) = some 1 := by decide +kernel
theorem bj_X9_one (l : Launch) : ex_ok l 0 0 bx_X9_one := ec_okp fo_X9 co_X9 so_X9 (ec_okn)
theorem bm_X9_one (l : Launch) : ex_Met l yX9_one cX9_one 1 (some .int) 0 0 (ab_sp ab_hd bc_X9_one) := ab_met (by decide) pn_RX9 rfl (bj_X9_one l) bd_X9_one ab_hcm ab_xk bz_X9_one
theorem ba_X0_setOpen : ec_al [(450, Cond.code yX0_setOpen cX0_setOpen 4 (some .int)), (61, Cond.initialized yX0_setOpen.cls), (448, Cond.instanceMethod yX0_setOpen), (449, Cond.selects yX0_setOpen.cls yX0_setOpen yX0_setOpen), (451, Cond.methodLink RX0 52 yX0_hasHatch)] := ec_alk (by decide +kernel)
theorem bw_X0_setOpen : ec_cw yX0_setOpen cX0_setOpen 4 (some .int) := ⟨ba_X0_setOpen.1, ba_X0_setOpen.2.1, nc_RX0⟩
theorem bv_X0_setOpen : Cond.instanceMethod yX0_setOpen ∈ ec_tb ∧ Cond.selects yX0_setOpen.cls yX0_setOpen yX0_setOpen ∈ ec_tb := ⟨ba_X0_setOpen.2.2.1, ba_X0_setOpen.2.2.2.1⟩
theorem bp_X0_setOpen : (parseMethodDescriptor yX0_setOpen.desc).map (fun d => d.parameters.length) = some 2 := by decide +kernel
theorem bk_X0_setOpen (l : Launch) : ∀ (ix n : Nat) (rc : Option Nat) (sp : ex_S), (be_X0_setOpen ix).map (fun q => (q.1, q.2.1, ab_sp ab_hd q.2.2)) = some (n, rc, sp) → ex_cok l RX0 1 21 ix n rc sp := by
  intro ix n rc sp h
  obtain ⟨l0, h2, rfl⟩ := ab_dmk h
  clear h
  unfold be_X0_setOpen at h2
  split at h2
  · cases h2; exact ec_cV (bm_X0_hasHatch l) bw_X0_hasHatch bv_X0_hasHatch (by decide) (by decide) (Or.inl ba_X0_setOpen.2.2.2.2.1) (T := TX0) (N := 8) rfl (by decide) bp_X0_hasHatch
  · cases h2; exact ec_cS (bm_X9_isSwitch l) bw_X9_isSwitch bv_X9_isSwitch (by decide) (by decide) (Or.inr ⟨"TinStation", List.mem_of_getElem? (i := 2) rfl⟩) bp_X9_isSwitch
  · cases h2; exact ec_cS (bm_X9_one l) bw_X9_one bv_X9_one (by decide) (by decide) (Or.inr ⟨"TinStation", List.mem_of_getElem? (i := 3) rfl⟩) bp_X9_one
  · cases h2
theorem bj_X0_setOpen (l : Launch) : ex_ok l 1 21 bx_X0_setOpen := ec_okp fo_X0 co_X0 so_X0 (bk_X0_setOpen l)
theorem bm_X0_setOpen (l : Launch) : ex_Met l yX0_setOpen cX0_setOpen 4 (some .int) 1 21 (ab_sp ab_hd bc_X0_setOpen) := ab_met (by decide) pn_RX0 rfl (bj_X0_setOpen l) bd_X0_setOpen ab_hcm ab_xk bz_X0_setOpen
theorem ba_X0_setHeld : ec_al [(468, Cond.code yX0_setHeld cX0_setHeld 5 (some .int)), (61, Cond.initialized yX0_setHeld.cls), (466, Cond.instanceMethod yX0_setHeld), (467, Cond.selects yX0_setHeld.cls yX0_setHeld yX0_setHeld), (438, Cond.methodLink RX0 47 yX0_hasModule), (469, Cond.methodLink RX0 62 yX0_isSort)] := ec_alk (by decide +kernel)
theorem bw_X0_setHeld : ec_cw yX0_setHeld cX0_setHeld 5 (some .int) := ⟨ba_X0_setHeld.1, ba_X0_setHeld.2.1, nc_RX0⟩
theorem bv_X0_setHeld : Cond.instanceMethod yX0_setHeld ∈ ec_tb ∧ Cond.selects yX0_setHeld.cls yX0_setHeld yX0_setHeld ∈ ec_tb := ⟨ba_X0_setHeld.2.2.1, ba_X0_setHeld.2.2.2.1⟩
theorem bp_X0_setHeld : (parseMethodDescriptor yX0_setHeld.desc).map (fun d => d.parameters.length) = some 3 := by decide +kernel
theorem bk_X0_setHeld (l : Launch) : ∀ (ix n : Nat) (rc : Option Nat) (sp : ex_S), (be_X0_setHeld ix).map (fun q => (q.1, q.2.1, ab_sp ab_hd q.2.2)) = some (n, rc, sp) → ex_cok l RX0 1 21 ix n rc sp := by
  intro ix n rc sp h
  obtain ⟨l0, h2, rfl⟩ := ab_dmk h
  clear h
  unfold be_X0_setHeld at h2
  split at h2
  · cases h2; exact ec_cV (bm_X0_hasModule l) bw_X0_hasModule bv_X0_hasModule (by decide) (by decide) (Or.inl ba_X0_setHeld.2.2.2.2.1) (T := TX0) (N := 8) rfl (by decide) bp_X0_hasModule
  · cases h2; exact ec_cS (bm_X0_isSort l) bw_X0_isSort bv_X0_isSort (by decide) (by decide) (Or.inl ba_X0_setHeld.2.2.2.2.2.1) bp_X0_isSort
  · cases h2
theorem bj_X0_setHeld (l : Launch) : ex_ok l 1 21 bx_X0_setHeld := ec_okp fo_X0 co_X0 so_X0 (bk_X0_setHeld l)
theorem bm_X0_setHeld (l : Launch) : ex_Met l yX0_setHeld cX0_setHeld 5 (some .int) 1 21 (ab_sp ab_hd bc_X0_setHeld) := ab_met (by decide) pn_RX0 rfl (bj_X0_setHeld l) bd_X0_setHeld ab_hcm ab_xk bz_X0_setHeld
theorem ba_X0_setLeak : ec_al [(480, Cond.code yX0_setLeak cX0_setLeak 4 (some .int)), (61, Cond.initialized yX0_setLeak.cls), (478, Cond.instanceMethod yX0_setLeak), (479, Cond.selects yX0_setLeak.cls yX0_setLeak yX0_setLeak), (438, Cond.methodLink RX0 47 yX0_hasModule)] := ec_alk (by decide +kernel)
theorem bw_X0_setLeak : ec_cw yX0_setLeak cX0_setLeak 4 (some .int) := ⟨ba_X0_setLeak.1, ba_X0_setLeak.2.1, nc_RX0⟩
theorem bv_X0_setLeak : Cond.instanceMethod yX0_setLeak ∈ ec_tb ∧ Cond.selects yX0_setLeak.cls yX0_setLeak yX0_setLeak ∈ ec_tb := ⟨ba_X0_setLeak.2.2.1, ba_X0_setLeak.2.2.2.1⟩
theorem bp_X0_setLeak : (parseMethodDescriptor yX0_setLeak.desc).map (fun d => d.parameters.length) = some 2 := by decide +kernel
theorem bk_X0_setLeak (l : Launch) : ∀ (ix n : Nat) (rc : Option Nat) (sp : ex_S), (be_X0_setLeak ix).map (fun q => (q.1, q.2.1, ab_sp ab_hd q.2.2)) = some (n, rc, sp) → ex_cok l RX0 1 21 ix n rc sp := by
  intro ix n rc sp h
  obtain ⟨l0, h2, rfl⟩ := ab_dmk h
  clear h
  unfold be_X0_setLeak at h2
  split at h2
  · cases h2; exact ec_cV (bm_X0_hasModule l) bw_X0_hasModule bv_X0_hasModule (by decide) (by decide) (Or.inl ba_X0_setLeak.2.2.2.2.1) (T := TX0) (N := 8) rfl (by decide) bp_X0_hasModule
  · cases h2
theorem bj_X0_setLeak (l : Launch) : ex_ok l 1 21 bx_X0_setLeak := ec_okp fo_X0 co_X0 so_X0 (bk_X0_setLeak l)
theorem bm_X0_setLeak (l : Launch) : ex_Met l yX0_setLeak cX0_setLeak 4 (some .int) 1 21 (ab_sp ab_hd bc_X0_setLeak) := ab_met (by decide) pn_RX0 rfl (bj_X0_setLeak l) bd_X0_setLeak ab_hcm ab_xk bz_X0_setLeak
theorem ba_X0_setStored : ec_al [(488, Cond.code yX0_setStored cX0_setStored 4 (some .int)), (61, Cond.initialized yX0_setStored.cls), (486, Cond.instanceMethod yX0_setStored), (487, Cond.selects yX0_setStored.cls yX0_setStored yX0_setStored)] := ec_alk (by decide +kernel)
theorem bw_X0_setStored : ec_cw yX0_setStored cX0_setStored 4 (some .int) := ⟨ba_X0_setStored.1, ba_X0_setStored.2.1, nc_RX0⟩
theorem bv_X0_setStored : Cond.instanceMethod yX0_setStored ∈ ec_tb ∧ Cond.selects yX0_setStored.cls yX0_setStored yX0_setStored ∈ ec_tb := ⟨ba_X0_setStored.2.2.1, ba_X0_setStored.2.2.2.1⟩
theorem bp_X0_setStored : (parseMethodDescriptor yX0_setStored.desc).map (fun d => d.parameters.length) = some 2 := by decide +kernel
theorem bj_X0_setStored (l : Launch) : ex_ok l 0 0 bx_X0_setStored := ec_okp fo_X0 co_X0 so_X0 (ec_okn)
theorem bm_X0_setStored (l : Launch) : ex_Met l yX0_setStored cX0_setStored 4 (some .int) 0 0 (ab_sp ab_hd bc_X0_setStored) := ab_met (by decide) pn_RX0 rfl (bj_X0_setStored l) bd_X0_setStored ab_hcm ab_xk bz_X0_setStored
theorem ba_X0_allGrams : ec_al [(497, Cond.code yX0_allGrams cX0_allGrams 4 (some .int)), (61, Cond.initialized yX0_allGrams.cls), (495, Cond.instanceMethod yX0_allGrams), (496, Cond.selects yX0_allGrams.cls yX0_allGrams yX0_allGrams)] := ec_alk (by decide +kernel)
theorem bw_X0_allGrams : ec_cw yX0_allGrams cX0_allGrams 4 (some .int) := ⟨ba_X0_allGrams.1, ba_X0_allGrams.2.1, nc_RX0⟩
theorem bv_X0_allGrams : Cond.instanceMethod yX0_allGrams ∈ ec_tb ∧ Cond.selects yX0_allGrams.cls yX0_allGrams yX0_allGrams ∈ ec_tb := ⟨ba_X0_allGrams.2.2.1, ba_X0_allGrams.2.2.2.1⟩
theorem bp_X0_allGrams : (parseMethodDescriptor yX0_allGrams.desc).map (fun d => d.parameters.length) = some 0 := by decide +kernel
theorem bj_X0_allGrams (l : Launch) : ex_ok l 0 0 bx_X0_allGrams := ec_okp fo_X0 co_X0 so_X0 (ec_okn)
theorem bm_X0_allGrams (l : Launch) : ex_Met l yX0_allGrams cX0_allGrams 4 (some .int) 0 0 (ab_sp ab_hd bc_X0_allGrams) := ab_met (by decide) pn_RX0 rfl (bj_X0_allGrams l) bd_X0_allGrams ab_hcm ab_xk bz_X0_allGrams
theorem ba_X0_amount : ec_al [(734, Cond.code yX0_amount cX0_amount 3 (some .int)), (61, Cond.initialized yX0_amount.cls), (732, Cond.instanceMethod yX0_amount), (733, Cond.selects yX0_amount.cls yX0_amount yX0_amount)] := ec_alk (by decide +kernel)
theorem bw_X0_amount : ec_cw yX0_amount cX0_amount 3 (some .int) := ⟨ba_X0_amount.1, ba_X0_amount.2.1, nc_RX0⟩
theorem bv_X0_amount : Cond.instanceMethod yX0_amount ∈ ec_tb ∧ Cond.selects yX0_amount.cls yX0_amount yX0_amount ∈ ec_tb := ⟨ba_X0_amount.2.2.1, ba_X0_amount.2.2.2.1⟩
theorem bp_X0_amount : (parseMethodDescriptor yX0_amount.desc).map (fun d => d.parameters.length) = some 2 := by decide +kernel
theorem bj_X0_amount (l : Launch) : ex_ok l 0 0 bx_X0_amount := ec_okp fo_X0 co_X0 so_X0 (ec_okn)
theorem bm_X0_amount (l : Launch) : ex_Met l yX0_amount cX0_amount 3 (some .int) 0 0 (ab_sp ab_hd bc_X0_amount) := ab_met (by decide) pn_RX0 rfl (bj_X0_amount l) bd_X0_amount ab_hcm ab_xk bz_X0_amount
theorem ba_X0_give : ec_al [(793, Cond.code yX0_give cX0_give 4 none), (61, Cond.initialized yX0_give.cls), (791, Cond.instanceMethod yX0_give), (792, Cond.selects yX0_give.cls yX0_give yX0_give)] := ec_alk (by decide +kernel)
theorem bw_X0_give : ec_cw yX0_give cX0_give 4 none := ⟨ba_X0_give.1, ba_X0_give.2.1, nc_RX0⟩
theorem bv_X0_give : Cond.instanceMethod yX0_give ∈ ec_tb ∧ Cond.selects yX0_give.cls yX0_give yX0_give ∈ ec_tb := ⟨ba_X0_give.2.2.1, ba_X0_give.2.2.2.1⟩
theorem bp_X0_give : (parseMethodDescriptor yX0_give.desc).map (fun d => d.parameters.length) = some 3 := by decide +kernel
theorem bj_X0_give (l : Launch) : ex_ok l 0 0 bx_X0_give := ec_okp fo_X0 co_X0 so_X0 (ec_okn)
theorem bm_X0_give (l : Launch) : ex_Met l yX0_give cX0_give 4 none 0 0 (ab_sp ab_hd bc_X0_give) := ab_met (by decide) pn_RX0 rfl (bj_X0_give l) bd_X0_give ab_hcm ab_xk bz_X0_give
theorem ba_X0_take : ec_al [(776, Cond.code yX0_take cX0_take 5 (some .int)), (61, Cond.initialized yX0_take.cls), (774, Cond.instanceMethod yX0_take), (775, Cond.selects yX0_take.cls yX0_take yX0_take)] := ec_alk (by decide +kernel)
theorem bw_X0_take : ec_cw yX0_take cX0_take 5 (some .int) := ⟨ba_X0_take.1, ba_X0_take.2.1, nc_RX0⟩
theorem bv_X0_take : Cond.instanceMethod yX0_take ∈ ec_tb ∧ Cond.selects yX0_take.cls yX0_take yX0_take ∈ ec_tb := ⟨ba_X0_take.2.2.1, ba_X0_take.2.2.2.1⟩
theorem bp_X0_take : (parseMethodDescriptor yX0_take.desc).map (fun d => d.parameters.length) = some 3 := by decide +kernel
theorem bj_X0_take (l : Launch) : ex_ok l 1 21 bx_X0_take := ⟨ec_fok fo_X0, ec_cok co_X0, so_X0, ec_okn, am_X0 (by decide) (by decide), ax_X0, ao_X0, fun _ _ h => (by cases h)⟩
theorem bm_X0_take (l : Launch) : ex_Met l yX0_take cX0_take 5 (some .int) 1 21 (ab_sp ab_hd bc_X0_take) := ab_met (by decide) pn_RX0 rfl (bj_X0_take l) bd_X0_take ab_hcm ab_xk bz_X0_take
theorem ba_X0_fill : ec_al [(781, Cond.code yX0_fill cX0_fill 3 none), (61, Cond.initialized yX0_fill.cls), (779, Cond.instanceMethod yX0_fill), (780, Cond.selects yX0_fill.cls yX0_fill yX0_fill)] := ec_alk (by decide +kernel)
theorem bw_X0_fill : ec_cw yX0_fill cX0_fill 3 none := ⟨ba_X0_fill.1, ba_X0_fill.2.1, nc_RX0⟩
theorem bv_X0_fill : Cond.instanceMethod yX0_fill ∈ ec_tb ∧ Cond.selects yX0_fill.cls yX0_fill yX0_fill ∈ ec_tb := ⟨ba_X0_fill.2.2.1, ba_X0_fill.2.2.2.1⟩
theorem bp_X0_fill : (parseMethodDescriptor yX0_fill.desc).map (fun d => d.parameters.length) = some 2 := by decide +kernel
theorem bj_X0_fill (l : Launch) : ex_ok l 0 0 bx_X0_fill := ec_okp fo_X0 co_X0 so_X0 (ec_okn)
theorem bm_X0_fill (l : Launch) : ex_Met l yX0_fill cX0_fill 3 none 0 0 (ab_sp ab_hd bc_X0_fill) := ab_met (by decide) pn_RX0 rfl (bj_X0_fill l) bd_X0_fill ab_hcm ab_xk bz_X0_fill
theorem ba_X0_draw : ec_al [(789, Cond.code yX0_draw cX0_draw 4 (some .int)), (61, Cond.initialized yX0_draw.cls), (787, Cond.instanceMethod yX0_draw), (788, Cond.selects yX0_draw.cls yX0_draw yX0_draw)] := ec_alk (by decide +kernel)
theorem bw_X0_draw : ec_cw yX0_draw cX0_draw 4 (some .int) := ⟨ba_X0_draw.1, ba_X0_draw.2.1, nc_RX0⟩
theorem bv_X0_draw : Cond.instanceMethod yX0_draw ∈ ec_tb ∧ Cond.selects yX0_draw.cls yX0_draw yX0_draw ∈ ec_tb := ⟨ba_X0_draw.2.2.1, ba_X0_draw.2.2.2.1⟩
theorem bp_X0_draw : (parseMethodDescriptor yX0_draw.desc).map (fun d => d.parameters.length) = some 2 := by decide +kernel
theorem bj_X0_draw (l : Launch) : ex_ok l 1 21 bx_X0_draw := ⟨ec_fok fo_X0, ec_cok co_X0, so_X0, ec_okn, am_X0 (by decide) (by decide), ax_X0, ao_X0, fun _ _ h => (by cases h)⟩
theorem bm_X0_draw (l : Launch) : ex_Met l yX0_draw cX0_draw 4 (some .int) 1 21 (ab_sp ab_hd bc_X0_draw) := ab_met (by decide) pn_RX0 rfl (bj_X0_draw l) bd_X0_draw ab_hcm ab_xk bz_X0_draw
theorem ba_X0_openBetween : ec_al [(530, Cond.code yX0_openBetween cX0_openBetween 5 (some .boolean)), (61, Cond.initialized yX0_openBetween.cls), (528, Cond.instanceMethod yX0_openBetween), (529, Cond.selects yX0_openBetween.cls yX0_openBetween yX0_openBetween)] := ec_alk (by decide +kernel)
theorem bw_X0_openBetween : ec_cw yX0_openBetween cX0_openBetween 5 (some .boolean) := ⟨ba_X0_openBetween.1, ba_X0_openBetween.2.1, nc_RX0⟩
theorem bv_X0_openBetween : Cond.instanceMethod yX0_openBetween ∈ ec_tb ∧ Cond.selects yX0_openBetween.cls yX0_openBetween yX0_openBetween ∈ ec_tb := ⟨ba_X0_openBetween.2.2.1, ba_X0_openBetween.2.2.2.1⟩
theorem bp_X0_openBetween : (parseMethodDescriptor yX0_openBetween.desc).map (fun d => d.parameters.length) = some 2 := by decide +kernel
theorem bj_X0_openBetween (l : Launch) : ex_ok l 0 0 bx_X0_openBetween := ec_okp fo_X0 co_X0 so_X0 (ec_okn)
theorem bm_X0_openBetween (l : Launch) : ex_Met l yX0_openBetween cX0_openBetween 5 (some .boolean) 0 0 (ab_sp ab_hd bc_X0_openBetween) := ab_met (by decide) pn_RX0 rfl (bj_X0_openBetween l) bd_X0_openBetween ab_hcm ab_xk bz_X0_openBetween
theorem ba_X0_leakOut : ec_al [(822, Cond.code yX0_leakOut cX0_leakOut 4 none), (61, Cond.initialized yX0_leakOut.cls), (820, Cond.instanceMethod yX0_leakOut), (821, Cond.selects yX0_leakOut.cls yX0_leakOut yX0_leakOut), (823, Cond.methodLink RX0 73 yX0_amount), (824, Cond.methodLink RX0 76 yX0_give), (825, Cond.methodLink RX0 80 yX0_fill)] := ec_alk (by decide +kernel)
theorem bw_X0_leakOut : ec_cw yX0_leakOut cX0_leakOut 4 none := ⟨ba_X0_leakOut.1, ba_X0_leakOut.2.1, nc_RX0⟩
theorem bv_X0_leakOut : Cond.instanceMethod yX0_leakOut ∈ ec_tb ∧ Cond.selects yX0_leakOut.cls yX0_leakOut yX0_leakOut ∈ ec_tb := ⟨ba_X0_leakOut.2.2.1, ba_X0_leakOut.2.2.2.1⟩
theorem bp_X0_leakOut : (parseMethodDescriptor yX0_leakOut.desc).map (fun d => d.parameters.length) = some 0 := by decide +kernel
theorem bk_X0_leakOut (l : Launch) : ∀ (ix n : Nat) (rc : Option Nat) (sp : ex_S), (be_X0_leakOut ix).map (fun q => (q.1, q.2.1, ab_sp ab_hd q.2.2)) = some (n, rc, sp) → ex_cok l RX0 1 23 ix n rc sp := by
  intro ix n rc sp h
  obtain ⟨l0, h2, rfl⟩ := ab_dmk h
  clear h
  unfold be_X0_leakOut at h2
  split at h2
  · cases h2; exact ec_cV (bm_X0_amount l) bw_X0_amount bv_X0_amount (by decide) (by decide) (Or.inl ba_X0_leakOut.2.2.2.2.1) (T := TX0) (N := 8) rfl (by decide) bp_X0_amount
  · cases h2; exact ec_cV (bm_X0_give l) bw_X0_give bv_X0_give (by decide) (by decide) (Or.inl ba_X0_leakOut.2.2.2.2.2.1) (T := TX0) (N := 8) rfl (by decide) bp_X0_give
  · cases h2; exact ec_cV (bm_X0_fill l) bw_X0_fill bv_X0_fill (by decide) (by decide) (Or.inl ba_X0_leakOut.2.2.2.2.2.2.1) (T := TX0) (N := 8) rfl (by decide) bp_X0_fill
  · cases h2
theorem bj_X0_leakOut (l : Launch) : ex_ok l 1 23 bx_X0_leakOut := ec_okp fo_X0 co_X0 so_X0 (bk_X0_leakOut l)
theorem bm_X0_leakOut (l : Launch) : ex_Met l yX0_leakOut cX0_leakOut 4 none 1 23 (ab_sp ab_hd bc_X0_leakOut) := ab_met (by decide) pn_RX0 rfl (bj_X0_leakOut l) bd_X0_leakOut ab_hcm ab_xk bz_X0_leakOut
theorem ba_X0_mix : ec_al [(833, Cond.code yX0_mix cX0_mix 5 none), (61, Cond.initialized yX0_mix.cls), (832, Cond.instanceMethod yX0_mix), (16, Cond.selects yX0_mix.cls yX0_mix yX0_mix), (823, Cond.methodLink RX0 73 yX0_amount), (824, Cond.methodLink RX0 76 yX0_give)] := ec_alk (by decide +kernel)
theorem bw_X0_mix : ec_cw yX0_mix cX0_mix 5 none := ⟨ba_X0_mix.1, ba_X0_mix.2.1, nc_RX0⟩
theorem bv_X0_mix : Cond.instanceMethod yX0_mix ∈ ec_tb ∧ Cond.selects yX0_mix.cls yX0_mix yX0_mix ∈ ec_tb := ⟨ba_X0_mix.2.2.1, ba_X0_mix.2.2.2.1⟩
theorem bp_X0_mix : (parseMethodDescriptor yX0_mix.desc).map (fun d => d.parameters.length) = some 2 := by decide +kernel
theorem bk_X0_mix (l : Launch) : ∀ (ix n : Nat) (rc : Option Nat) (sp : ex_S), (be_X0_mix ix).map (fun q => (q.1, q.2.1, ab_sp ab_hd q.2.2)) = some (n, rc, sp) → ex_cok l RX0 1 23 ix n rc sp := by
  intro ix n rc sp h
  obtain ⟨l0, h2, rfl⟩ := ab_dmk h
  clear h
  unfold be_X0_mix at h2
  split at h2
  · cases h2; exact ec_cV (bm_X0_amount l) bw_X0_amount bv_X0_amount (by decide) (by decide) (Or.inl ba_X0_mix.2.2.2.2.1) (T := TX0) (N := 8) rfl (by decide) bp_X0_amount
  · cases h2; exact ec_cV (bm_X0_give l) bw_X0_give bv_X0_give (by decide) (by decide) (Or.inl ba_X0_mix.2.2.2.2.2.1) (T := TX0) (N := 8) rfl (by decide) bp_X0_give
  · cases h2
theorem bj_X0_mix (l : Launch) : ex_ok l 1 23 bx_X0_mix := ec_okp fo_X0 co_X0 so_X0 (bk_X0_mix l)
theorem bm_X0_mix (l : Launch) : ex_Met l yX0_mix cX0_mix 5 none 1 23 (ab_sp ab_hd bc_X0_mix) := ab_met (by decide) pn_RX0 rfl (bj_X0_mix l) bd_X0_mix ab_hcm ab_xk bz_X0_mix
theorem ba_X0_mixThroughHatches : ec_al [(829, Cond.code yX0_mixThroughHatches cX0_mixThroughHatches 2 none), (61, Cond.initialized yX0_mixThroughHatches.cls), (827, Cond.instanceMethod yX0_mixThroughHatches), (828, Cond.selects yX0_mixThroughHatches.cls yX0_mixThroughHatches yX0_mixThroughHatches), (830, Cond.methodLink RX0 84 yX0_mix)] := ec_alk (by decide +kernel)
theorem bw_X0_mixThroughHatches : ec_cw yX0_mixThroughHatches cX0_mixThroughHatches 2 none := ⟨ba_X0_mixThroughHatches.1, ba_X0_mixThroughHatches.2.1, nc_RX0⟩
theorem bv_X0_mixThroughHatches : Cond.instanceMethod yX0_mixThroughHatches ∈ ec_tb ∧ Cond.selects yX0_mixThroughHatches.cls yX0_mixThroughHatches yX0_mixThroughHatches ∈ ec_tb := ⟨ba_X0_mixThroughHatches.2.2.1, ba_X0_mixThroughHatches.2.2.2.1⟩
theorem bp_X0_mixThroughHatches : (parseMethodDescriptor yX0_mixThroughHatches.desc).map (fun d => d.parameters.length) = some 0 := by decide +kernel
theorem bk_X0_mixThroughHatches (l : Launch) : ∀ (ix n : Nat) (rc : Option Nat) (sp : ex_S), (be_X0_mixThroughHatches ix).map (fun q => (q.1, q.2.1, ab_sp ab_hd q.2.2)) = some (n, rc, sp) → ex_cok l RX0 2 47 ix n rc sp := by
  intro ix n rc sp h
  obtain ⟨l0, h2, rfl⟩ := ab_dmk h
  clear h
  unfold be_X0_mixThroughHatches at h2
  split at h2
  · cases h2; exact ec_cV (bm_X0_mix l) bw_X0_mix bv_X0_mix (by decide) (by decide) (Or.inl ba_X0_mixThroughHatches.2.2.2.2.1) (T := TX0) (N := 8) rfl (by decide) bp_X0_mix
  · cases h2
theorem bj_X0_mixThroughHatches (l : Launch) : ex_ok l 2 47 bx_X0_mixThroughHatches := ec_okp fo_X0 co_X0 so_X0 (bk_X0_mixThroughHatches l)
theorem bm_X0_mixThroughHatches (l : Launch) : ex_Met l yX0_mixThroughHatches cX0_mixThroughHatches 2 none 2 47 (ab_sp ab_hd bc_X0_mixThroughHatches) := ab_met (by decide) pn_RX0 rfl (bj_X0_mixThroughHatches l) bd_X0_mixThroughHatches ab_hcm ab_xk bz_X0_mixThroughHatches
theorem ba_X1_becomeLike : ec_al [(896, Cond.code yX1_becomeLike cX1_becomeLike 2 none), (64, Cond.initialized yX1_becomeLike.cls), (894, Cond.instanceMethod yX1_becomeLike), (895, Cond.selects yX1_becomeLike.cls yX1_becomeLike yX1_becomeLike)] := ec_alk (by decide +kernel)
theorem bw_X1_becomeLike : ec_cw yX1_becomeLike cX1_becomeLike 2 none := ⟨ba_X1_becomeLike.1, ba_X1_becomeLike.2.1, nc_RX1⟩
theorem bv_X1_becomeLike : Cond.instanceMethod yX1_becomeLike ∈ ec_tb ∧ Cond.selects yX1_becomeLike.cls yX1_becomeLike yX1_becomeLike ∈ ec_tb := ⟨ba_X1_becomeLike.2.2.1, ba_X1_becomeLike.2.2.2.1⟩
theorem bp_X1_becomeLike : (parseMethodDescriptor yX1_becomeLike.desc).map (fun d => d.parameters.length) = some 1 := by decide +kernel
theorem bj_X1_becomeLike (l : Launch) : ex_ok l 0 0 bx_X1_becomeLike := ec_okp fo_X1 co_X1 so_X1 (ec_okn)
theorem bm_X1_becomeLike (l : Launch) : ex_Met l yX1_becomeLike cX1_becomeLike 2 none 0 0 (ab_sp ab_hd bc_X1_becomeLike) := ab_met (by decide) pn_RX1 rfl (bj_X1_becomeLike l) bd_X1_becomeLike ab_hcm ab_xk bz_X1_becomeLike
theorem ba_X1_isBound : ec_al [(690, Cond.code yX1_isBound cX1_isBound 1 (some .boolean)), (64, Cond.initialized yX1_isBound.cls), (689, Cond.static yX1_isBound)] := ec_alk (by decide +kernel)
theorem bw_X1_isBound : ec_cw yX1_isBound cX1_isBound 1 (some .boolean) := ⟨ba_X1_isBound.1, ba_X1_isBound.2.1, nc_RX1⟩
theorem bv_X1_isBound : Cond.static yX1_isBound ∈ ec_tb := ba_X1_isBound.2.2.1
theorem bp_X1_isBound : (parseMethodDescriptor yX1_isBound.desc).map (fun d => d.parameters.length) = some 1 := by decide +kernel
theorem bj_X1_isBound (l : Launch) : ex_ok l 0 0 bx_X1_isBound := ec_okp fo_X1 co_X1 so_X1 (ec_okn)
theorem bm_X1_isBound (l : Launch) : ex_Met l yX1_isBound cX1_isBound 1 (some .boolean) 0 0 (ab_sp ab_hd bc_X1_isBound) := ab_met (by decide) pn_RX1 rfl (bj_X1_isBound l) bd_X1_isBound ab_hcm ab_xk bz_X1_isBound
theorem ba_X1_setAll : ec_al [(687, Cond.code yX1_setAll cX1_setAll 4 (some .int)), (64, Cond.initialized yX1_setAll.cls), (685, Cond.instanceMethod yX1_setAll), (686, Cond.selects yX1_setAll.cls yX1_setAll yX1_setAll), (688, Cond.methodLink RX1 31 yX1_isBound)] := ec_alk (by decide +kernel)
theorem bw_X1_setAll : ec_cw yX1_setAll cX1_setAll 4 (some .int) := ⟨ba_X1_setAll.1, ba_X1_setAll.2.1, nc_RX1⟩
theorem bv_X1_setAll : Cond.instanceMethod yX1_setAll ∈ ec_tb ∧ Cond.selects yX1_setAll.cls yX1_setAll yX1_setAll ∈ ec_tb := ⟨ba_X1_setAll.2.2.1, ba_X1_setAll.2.2.2.1⟩
theorem bp_X1_setAll : (parseMethodDescriptor yX1_setAll.desc).map (fun d => d.parameters.length) = some 3 := by decide +kernel
theorem bk_X1_setAll (l : Launch) : ∀ (ix n : Nat) (rc : Option Nat) (sp : ex_S), (be_X1_setAll ix).map (fun q => (q.1, q.2.1, ab_sp ab_hd q.2.2)) = some (n, rc, sp) → ex_cok l RX1 1 20 ix n rc sp := by
  intro ix n rc sp h
  obtain ⟨l0, h2, rfl⟩ := ab_dmk h
  clear h
  unfold be_X1_setAll at h2
  split at h2
  · cases h2; exact ec_cS (bm_X1_isBound l) bw_X1_isBound bv_X1_isBound (by decide) (by decide) (Or.inl ba_X1_setAll.2.2.2.2.1) bp_X1_isBound
  · cases h2
theorem bj_X1_setAll (l : Launch) : ex_ok l 1 20 bx_X1_setAll := ec_okp fo_X1 co_X1 so_X1 (bk_X1_setAll l)
theorem bm_X1_setAll (l : Launch) : ex_Met l yX1_setAll cX1_setAll 4 (some .int) 1 20 (ab_sp ab_hd bc_X1_setAll) := ab_met (by decide) pn_RX1 rfl (bj_X1_setAll l) bd_X1_setAll ab_hcm ab_xk bz_X1_setAll
theorem ba_X1_tellFirstBreak : ec_al [(858, Cond.code yX1_tellFirstBreak cX1_tellFirstBreak 2 (some .int)), (64, Cond.initialized yX1_tellFirstBreak.cls), (856, Cond.instanceMethod yX1_tellFirstBreak), (857, Cond.selects yX1_tellFirstBreak.cls yX1_tellFirstBreak yX1_tellFirstBreak)] := ec_alk (by decide +kernel)
theorem bw_X1_tellFirstBreak : ec_cw yX1_tellFirstBreak cX1_tellFirstBreak 2 (some .int) := ⟨ba_X1_tellFirstBreak.1, ba_X1_tellFirstBreak.2.1, nc_RX1⟩
theorem bv_X1_tellFirstBreak : Cond.instanceMethod yX1_tellFirstBreak ∈ ec_tb ∧ Cond.selects yX1_tellFirstBreak.cls yX1_tellFirstBreak yX1_tellFirstBreak ∈ ec_tb := ⟨ba_X1_tellFirstBreak.2.2.1, ba_X1_tellFirstBreak.2.2.2.1⟩
theorem bp_X1_tellFirstBreak : (parseMethodDescriptor yX1_tellFirstBreak.desc).map (fun d => d.parameters.length) = some 1 := by decide +kernel
theorem bj_X1_tellFirstBreak (l : Launch) : ex_ok l 0 0 bx_X1_tellFirstBreak := ec_okp fo_X1 co_X1 so_X1 (ec_okn)
theorem bm_X1_tellFirstBreak (l : Launch) : ex_Met l yX1_tellFirstBreak cX1_tellFirstBreak 2 (some .int) 0 0 (ab_sp ab_hd bc_X1_tellFirstBreak) := ab_met (by decide) pn_RX1 rfl (bj_X1_tellFirstBreak l) bd_X1_tellFirstBreak ab_hcm ab_xk bz_X1_tellFirstBreak
theorem ba_X3_anyoneIn : ec_al [(841, Cond.code yX3_anyoneIn cX3_anyoneIn 3 (some .boolean)), (62, Cond.initialized yX3_anyoneIn.cls), (839, Cond.instanceMethod yX3_anyoneIn), (840, Cond.selects yX3_anyoneIn.cls yX3_anyoneIn yX3_anyoneIn)] := ec_alk (by decide +kernel)
theorem bw_X3_anyoneIn : ec_cw yX3_anyoneIn cX3_anyoneIn 3 (some .boolean) := ⟨ba_X3_anyoneIn.1, ba_X3_anyoneIn.2.1, nc_RX3⟩
theorem bv_X3_anyoneIn : Cond.instanceMethod yX3_anyoneIn ∈ ec_tb ∧ Cond.selects yX3_anyoneIn.cls yX3_anyoneIn yX3_anyoneIn ∈ ec_tb := ⟨ba_X3_anyoneIn.2.2.1, ba_X3_anyoneIn.2.2.2.1⟩
theorem bp_X3_anyoneIn : (parseMethodDescriptor yX3_anyoneIn.desc).map (fun d => d.parameters.length) = some 1 := by decide +kernel
theorem bj_X3_anyoneIn (l : Launch) : ex_ok l 0 0 bx_X3_anyoneIn := ec_okp fo_X3 co_X3 so_X3 (ec_okn)
theorem bm_X3_anyoneIn (l : Launch) : ex_Met l yX3_anyoneIn cX3_anyoneIn 3 (some .boolean) 0 0 (ab_sp ab_hd bc_X3_anyoneIn) := ab_met (by decide) pn_RX3 rfl (bj_X3_anyoneIn l) bd_X3_anyoneIn ab_hcm ab_xk bz_X3_anyoneIn
theorem ba_X1_breaksIn : ec_al [(845, Cond.code yX1_breaksIn cX1_breaksIn 3 (some .boolean)), (64, Cond.initialized yX1_breaksIn.cls), (844, Cond.instanceMethod yX1_breaksIn), (17, Cond.selects yX1_breaksIn.cls yX1_breaksIn yX1_breaksIn), (846, Cond.methodLink RX1 56 yX0_amount)] := ec_alk (by decide +kernel)
theorem bw_X1_breaksIn : ec_cw yX1_breaksIn cX1_breaksIn 3 (some .boolean) := ⟨ba_X1_breaksIn.1, ba_X1_breaksIn.2.1, nc_RX1⟩
theorem bv_X1_breaksIn : Cond.instanceMethod yX1_breaksIn ∈ ec_tb ∧ Cond.selects yX1_breaksIn.cls yX1_breaksIn yX1_breaksIn ∈ ec_tb := ⟨ba_X1_breaksIn.2.2.1, ba_X1_breaksIn.2.2.2.1⟩
theorem bp_X1_breaksIn : (parseMethodDescriptor yX1_breaksIn.desc).map (fun d => d.parameters.length) = some 2 := by decide +kernel
theorem bk_X1_breaksIn (l : Launch) : ∀ (ix n : Nat) (rc : Option Nat) (sp : ex_S), (be_X1_breaksIn ix).map (fun q => (q.1, q.2.1, ab_sp ab_hd q.2.2)) = some (n, rc, sp) → ex_cok l RX1 1 22 ix n rc sp := by
  intro ix n rc sp h
  obtain ⟨l0, h2, rfl⟩ := ab_dmk h
  clear h
  unfold be_X1_breaksIn at h2
  split at h2
  · cases h2; exact ec_cV (bm_X0_amount l) bw_X0_amount bv_X0_amount (by decide) (by decide) (Or.inl ba_X1_breaksIn.2.2.2.2.1) (T := TX0) (N := 8) rfl (by decide) bp_X0_amount
  · cases h2
theorem bj_X1_breaksIn (l : Launch) : ex_ok l 1 22 bx_X1_breaksIn := ec_okp fo_X1 co_X1 so_X1 (bk_X1_breaksIn l)
theorem bm_X1_breaksIn (l : Launch) : ex_Met l yX1_breaksIn cX1_breaksIn 3 (some .boolean) 1 22 (ab_sp ab_hd bc_X1_breaksIn) := ab_met (by decide) pn_RX1 rfl (bj_X1_breaksIn l) bd_X1_breaksIn ab_hcm ab_xk bz_X1_breaksIn
theorem ba_X1_keepFirst : ec_al [(850, Cond.code yX1_keepFirst cX1_keepFirst 3 none), (64, Cond.initialized yX1_keepFirst.cls), (849, Cond.instanceMethod yX1_keepFirst), (18, Cond.selects yX1_keepFirst.cls yX1_keepFirst yX1_keepFirst)] := ec_alk (by decide +kernel)
theorem bw_X1_keepFirst : ec_cw yX1_keepFirst cX1_keepFirst 3 none := ⟨ba_X1_keepFirst.1, ba_X1_keepFirst.2.1, nc_RX1⟩
theorem bv_X1_keepFirst : Cond.instanceMethod yX1_keepFirst ∈ ec_tb ∧ Cond.selects yX1_keepFirst.cls yX1_keepFirst yX1_keepFirst ∈ ec_tb := ⟨ba_X1_keepFirst.2.2.1, ba_X1_keepFirst.2.2.2.1⟩
theorem bp_X1_keepFirst : (parseMethodDescriptor yX1_keepFirst.desc).map (fun d => d.parameters.length) = some 2 := by decide +kernel
theorem bj_X1_keepFirst (l : Launch) : ex_ok l 0 0 bx_X1_keepFirst := ec_okp fo_X1 co_X1 so_X1 (ec_okn)
theorem bm_X1_keepFirst (l : Launch) : ex_Met l yX1_keepFirst cX1_keepFirst 3 none 0 0 (ab_sp ab_hd bc_X1_keepFirst) := ab_met (by decide) pn_RX1 rfl (bj_X1_keepFirst l) bd_X1_keepFirst ab_hcm ab_xk bz_X1_keepFirst
theorem ba_X1_look : ec_al [(837, Cond.code yX1_look cX1_look 5 (some .boolean)), (64, Cond.initialized yX1_look.cls), (835, Cond.instanceMethod yX1_look), (836, Cond.selects yX1_look.cls yX1_look yX1_look), (838, Cond.methodLink RX1 43 yX3_anyoneIn), (842, Cond.methodLink RX1 48 yX1_breaksIn), (847, Cond.methodLink RX1 52 yX1_keepFirst)] := ec_alk (by decide +kernel)
theorem bw_X1_look : ec_cw yX1_look cX1_look 5 (some .boolean) := ⟨ba_X1_look.1, ba_X1_look.2.1, nc_RX1⟩
theorem bv_X1_look : Cond.instanceMethod yX1_look ∈ ec_tb ∧ Cond.selects yX1_look.cls yX1_look yX1_look ∈ ec_tb := ⟨ba_X1_look.2.2.1, ba_X1_look.2.2.2.1⟩
theorem bp_X1_look : (parseMethodDescriptor yX1_look.desc).map (fun d => d.parameters.length) = some 3 := by decide +kernel
theorem bk_X1_look (l : Launch) : ∀ (ix n : Nat) (rc : Option Nat) (sp : ex_S), (be_X1_look ix).map (fun q => (q.1, q.2.1, ab_sp ab_hd q.2.2)) = some (n, rc, sp) → ex_cok l RX1 2 44 ix n rc sp := by
  intro ix n rc sp h
  obtain ⟨l0, h2, rfl⟩ := ab_dmk h
  clear h
  unfold be_X1_look at h2
  split at h2
  · cases h2; exact ec_cV (bm_X3_anyoneIn l) bw_X3_anyoneIn bv_X3_anyoneIn (by decide) (by decide) (Or.inl ba_X1_look.2.2.2.2.1) (T := TX3) (N := 7) rfl (by decide) bp_X3_anyoneIn
  · cases h2; exact ec_cV (bm_X1_breaksIn l) bw_X1_breaksIn bv_X1_breaksIn (by decide) (by decide) (Or.inl ba_X1_look.2.2.2.2.2.1) (T := TX1) (N := 6) rfl (by decide) bp_X1_breaksIn
  · cases h2; exact ec_cV (bm_X1_keepFirst l) bw_X1_keepFirst bv_X1_keepFirst (by decide) (by decide) (Or.inl ba_X1_look.2.2.2.2.2.2.1) (T := TX1) (N := 6) rfl (by decide) bp_X1_keepFirst
  · cases h2
theorem bj_X1_look (l : Launch) : ex_ok l 2 44 bx_X1_look := ec_okp fo_X1 co_X1 so_X1 (bk_X1_look l)
theorem bm_X1_look (l : Launch) : ex_Met l yX1_look cX1_look 5 (some .boolean) 2 44 (ab_sp ab_hd bc_X1_look) := ab_met (by decide) pn_RX1 rfl (bj_X1_look l) bd_X1_look ab_hcm ab_xk bz_X1_look
theorem ba_X2_becomeLike : ec_al [(900, Cond.code yX2_becomeLike cX2_becomeLike 2 none), (65, Cond.initialized yX2_becomeLike.cls), (898, Cond.instanceMethod yX2_becomeLike), (899, Cond.selects yX2_becomeLike.cls yX2_becomeLike yX2_becomeLike)] := ec_alk (by decide +kernel)
theorem bw_X2_becomeLike : ec_cw yX2_becomeLike cX2_becomeLike 2 none := ⟨ba_X2_becomeLike.1, ba_X2_becomeLike.2.1, nc_RX2⟩
theorem bv_X2_becomeLike : Cond.instanceMethod yX2_becomeLike ∈ ec_tb ∧ Cond.selects yX2_becomeLike.cls yX2_becomeLike yX2_becomeLike ∈ ec_tb := ⟨ba_X2_becomeLike.2.2.1, ba_X2_becomeLike.2.2.2.1⟩
theorem bp_X2_becomeLike : (parseMethodDescriptor yX2_becomeLike.desc).map (fun d => d.parameters.length) = some 1 := by decide +kernel
theorem bj_X2_becomeLike (l : Launch) : ex_ok l 0 0 bx_X2_becomeLike := ec_okp fo_X2 co_X2 so_X2 (ec_okn)
theorem bm_X2_becomeLike (l : Launch) : ex_Met l yX2_becomeLike cX2_becomeLike 2 none 0 0 (ab_sp ab_hd bc_X2_becomeLike) := ab_met (by decide) pn_RX2 rfl (bj_X2_becomeLike l) bd_X2_becomeLike ab_hcm ab_xk bz_X2_becomeLike
theorem ba_X2_start : ec_al [(922, Cond.code yX2_start cX2_start 1 none), (65, Cond.initialized yX2_start.cls), (920, Cond.instanceMethod yX2_start), (921, Cond.selects yX2_start.cls yX2_start yX2_start)] := ec_alk (by decide +kernel)
theorem bw_X2_start : ec_cw yX2_start cX2_start 1 none := ⟨ba_X2_start.1, ba_X2_start.2.1, nc_RX2⟩
theorem bv_X2_start : Cond.instanceMethod yX2_start ∈ ec_tb ∧ Cond.selects yX2_start.cls yX2_start yX2_start ∈ ec_tb := ⟨ba_X2_start.2.2.1, ba_X2_start.2.2.2.1⟩
theorem bp_X2_start : (parseMethodDescriptor yX2_start.desc).map (fun d => d.parameters.length) = some 0 := by decide +kernel
theorem bj_X2_start (l : Launch) : ex_ok l 0 0 bx_X2_start := ec_okp fo_X2 co_X2 so_X2 (ec_okn)
theorem bm_X2_start (l : Launch) : ex_Met l yX2_start cX2_start 1 none 0 0 (ab_sp ab_hd bc_X2_start) := ab_met (by decide) pn_RX2 rfl (bj_X2_start l) bd_X2_start ab_hcm ab_xk bz_X2_start
theorem ba_X2_finish : ec_al [(713, Cond.code yX2_finish cX2_finish 2 none), (65, Cond.initialized yX2_finish.cls), (711, Cond.instanceMethod yX2_finish), (712, Cond.selects yX2_finish.cls yX2_finish yX2_finish)] := ec_alk (by decide +kernel)
theorem bw_X2_finish : ec_cw yX2_finish cX2_finish 2 none := ⟨ba_X2_finish.1, ba_X2_finish.2.1, nc_RX2⟩
theorem bv_X2_finish : Cond.instanceMethod yX2_finish ∈ ec_tb ∧ Cond.selects yX2_finish.cls yX2_finish yX2_finish ∈ ec_tb := ⟨ba_X2_finish.2.2.1, ba_X2_finish.2.2.2.1⟩
theorem bp_X2_finish : (parseMethodDescriptor yX2_finish.desc).map (fun d => d.parameters.length) = some 1 := by decide +kernel
theorem bj_X2_finish (l : Launch) : ex_ok l 0 0 bx_X2_finish := ec_okp fo_X2 co_X2 so_X2 (ec_okn)
theorem bm_X2_finish (l : Launch) : ex_Met l yX2_finish cX2_finish 2 none 0 0 (ab_sp ab_hd bc_X2_finish) := ab_met (by decide) pn_RX2 rfl (bj_X2_finish l) bd_X2_finish ab_hcm ab_xk bz_X2_finish
theorem ba_X2_giveUp : ec_al [(751, Cond.code yX2_giveUp cX2_giveUp 1 none), (65, Cond.initialized yX2_giveUp.cls), (749, Cond.instanceMethod yX2_giveUp), (750, Cond.selects yX2_giveUp.cls yX2_giveUp yX2_giveUp), (752, Cond.methodLink RX2 37 yX2_finish)] := ec_alk (by decide +kernel)
theorem bw_X2_giveUp : ec_cw yX2_giveUp cX2_giveUp 1 none := ⟨ba_X2_giveUp.1, ba_X2_giveUp.2.1, nc_RX2⟩
theorem bv_X2_giveUp : Cond.instanceMethod yX2_giveUp ∈ ec_tb ∧ Cond.selects yX2_giveUp.cls yX2_giveUp yX2_giveUp ∈ ec_tb := ⟨ba_X2_giveUp.2.2.1, ba_X2_giveUp.2.2.2.1⟩
theorem bp_X2_giveUp : (parseMethodDescriptor yX2_giveUp.desc).map (fun d => d.parameters.length) = some 0 := by decide +kernel
theorem bk_X2_giveUp (l : Launch) : ∀ (ix n : Nat) (rc : Option Nat) (sp : ex_S), (be_X2_giveUp ix).map (fun q => (q.1, q.2.1, ab_sp ab_hd q.2.2)) = some (n, rc, sp) → ex_cok l RX2 1 21 ix n rc sp := by
  intro ix n rc sp h
  obtain ⟨l0, h2, rfl⟩ := ab_dmk h
  clear h
  unfold be_X2_giveUp at h2
  split at h2
  · cases h2; exact ec_cV (bm_X2_finish l) bw_X2_finish bv_X2_finish (by decide) (by decide) (Or.inl ba_X2_giveUp.2.2.2.2.1) (T := TX2) (N := 7) rfl (by decide) bp_X2_finish
  · cases h2
theorem bj_X2_giveUp (l : Launch) : ex_ok l 1 21 bx_X2_giveUp := ec_okp fo_X2 co_X2 so_X2 (bk_X2_giveUp l)
theorem bm_X2_giveUp (l : Launch) : ex_Met l yX2_giveUp cX2_giveUp 1 none 1 21 (ab_sp ab_hd bc_X2_giveUp) := ab_met (by decide) pn_RX2 rfl (bj_X2_giveUp l) bd_X2_giveUp ab_hcm ab_xk bz_X2_giveUp
theorem ba_X2_goOnAt : ec_al [(747, Cond.code yX2_goOnAt cX2_goOnAt 2 none), (65, Cond.initialized yX2_goOnAt.cls), (745, Cond.instanceMethod yX2_goOnAt), (746, Cond.selects yX2_goOnAt.cls yX2_goOnAt yX2_goOnAt), (748, Cond.methodLink RX2 34 yX2_giveUp)] := ec_alk (by decide +kernel)
theorem bw_X2_goOnAt : ec_cw yX2_goOnAt cX2_goOnAt 2 none := ⟨ba_X2_goOnAt.1, ba_X2_goOnAt.2.1, nc_RX2⟩
theorem bv_X2_goOnAt : Cond.instanceMethod yX2_goOnAt ∈ ec_tb ∧ Cond.selects yX2_goOnAt.cls yX2_goOnAt yX2_goOnAt ∈ ec_tb := ⟨ba_X2_goOnAt.2.2.1, ba_X2_goOnAt.2.2.2.1⟩
theorem bp_X2_goOnAt : (parseMethodDescriptor yX2_goOnAt.desc).map (fun d => d.parameters.length) = some 1 := by decide +kernel
theorem bk_X2_goOnAt (l : Launch) : ∀ (ix n : Nat) (rc : Option Nat) (sp : ex_S), (be_X2_goOnAt ix).map (fun q => (q.1, q.2.1, ab_sp ab_hd q.2.2)) = some (n, rc, sp) → ex_cok l RX2 2 41 ix n rc sp := by
  intro ix n rc sp h
  obtain ⟨l0, h2, rfl⟩ := ab_dmk h
  clear h
  unfold be_X2_goOnAt at h2
  split at h2
  · cases h2; exact ec_cV (bm_X2_giveUp l) bw_X2_giveUp bv_X2_giveUp (by decide) (by decide) (Or.inl ba_X2_goOnAt.2.2.2.2.1) (T := TX2) (N := 7) rfl (by decide) bp_X2_giveUp
  · cases h2
theorem bj_X2_goOnAt (l : Launch) : ex_ok l 2 41 bx_X2_goOnAt := ec_okp fo_X2 co_X2 so_X2 (bk_X2_goOnAt l)
theorem bm_X2_goOnAt (l : Launch) : ex_Met l yX2_goOnAt cX2_goOnAt 2 none 2 41 (ab_sp ab_hd bc_X2_goOnAt) := ab_met (by decide) pn_RX2 rfl (bj_X2_goOnAt l) bd_X2_goOnAt ab_hcm ab_xk bz_X2_goOnAt
theorem ba_X2_setHalted : ec_al [(930, Cond.code yX2_setHalted cX2_setHalted 2 (some .int)), (65, Cond.initialized yX2_setHalted.cls), (928, Cond.instanceMethod yX2_setHalted), (929, Cond.selects yX2_setHalted.cls yX2_setHalted yX2_setHalted)] := ec_alk (by decide +kernel)
theorem bw_X2_setHalted : ec_cw yX2_setHalted cX2_setHalted 2 (some .int) := ⟨ba_X2_setHalted.1, ba_X2_setHalted.2.1, nc_RX2⟩
theorem bv_X2_setHalted : Cond.instanceMethod yX2_setHalted ∈ ec_tb ∧ Cond.selects yX2_setHalted.cls yX2_setHalted yX2_setHalted ∈ ec_tb := ⟨ba_X2_setHalted.2.2.1, ba_X2_setHalted.2.2.2.1⟩
theorem bp_X2_setHalted : (parseMethodDescriptor yX2_setHalted.desc).map (fun d => d.parameters.length) = some 1 := by decide +kernel
theorem bk_X2_setHalted (l : Launch) : ∀ (ix n : Nat) (rc : Option Nat) (sp : ex_S), (be_X2_setHalted ix).map (fun q => (q.1, q.2.1, ab_sp ab_hd q.2.2)) = some (n, rc, sp) → ex_cok l RX2 1 20 ix n rc sp := by
  intro ix n rc sp h
  obtain ⟨l0, h2, rfl⟩ := ab_dmk h
  clear h
  unfold be_X2_setHalted at h2
  split at h2
  · cases h2; exact ec_cS (bm_X9_isSwitch l) bw_X9_isSwitch bv_X9_isSwitch (by decide) (by decide) (Or.inr ⟨"TinStation", List.mem_of_getElem? (i := 4) rfl⟩) bp_X9_isSwitch
  · cases h2
theorem bj_X2_setHalted (l : Launch) : ex_ok l 1 20 bx_X2_setHalted := ec_okp fo_X2 co_X2 so_X2 (bk_X2_setHalted l)
theorem bm_X2_setHalted (l : Launch) : ex_Met l yX2_setHalted cX2_setHalted 2 (some .int) 1 20 (ab_sp ab_hd bc_X2_setHalted) := ab_met (by decide) pn_RX2 rfl (bj_X2_setHalted l) bd_X2_setHalted ab_hcm ab_xk bz_X2_setHalted
theorem ba_X2_tellOf : ec_al [(947, Cond.code yX2_tellOf cX2_tellOf 2 (some .int)), (65, Cond.initialized yX2_tellOf.cls), (945, Cond.instanceMethod yX2_tellOf), (946, Cond.selects yX2_tellOf.cls yX2_tellOf yX2_tellOf)] := ec_alk (by decide +kernel)
theorem bw_X2_tellOf : ec_cw yX2_tellOf cX2_tellOf 2 (some .int) := ⟨ba_X2_tellOf.1, ba_X2_tellOf.2.1, nc_RX2⟩
theorem bv_X2_tellOf : Cond.instanceMethod yX2_tellOf ∈ ec_tb ∧ Cond.selects yX2_tellOf.cls yX2_tellOf yX2_tellOf ∈ ec_tb := ⟨ba_X2_tellOf.2.2.1, ba_X2_tellOf.2.2.2.1⟩
theorem bp_X2_tellOf : (parseMethodDescriptor yX2_tellOf.desc).map (fun d => d.parameters.length) = some 1 := by decide +kernel
theorem bk_X2_tellOf (l : Launch) : ∀ (ix n : Nat) (rc : Option Nat) (sp : ex_S), (be_X2_tellOf ix).map (fun q => (q.1, q.2.1, ab_sp ab_hd q.2.2)) = some (n, rc, sp) → ex_cok l RX2 1 20 ix n rc sp := by
  intro ix n rc sp h
  obtain ⟨l0, h2, rfl⟩ := ab_dmk h
  clear h
  unfold be_X2_tellOf at h2
  split at h2
  · cases h2; exact ec_cS (bm_X9_one l) bw_X9_one bv_X9_one (by decide) (by decide) (Or.inr ⟨"TinStation", List.mem_of_getElem? (i := 5) rfl⟩) bp_X9_one
  · cases h2
theorem bj_X2_tellOf (l : Launch) : ex_ok l 1 20 bx_X2_tellOf := ec_okp fo_X2 co_X2 so_X2 (bk_X2_tellOf l)
theorem bm_X2_tellOf (l : Launch) : ex_Met l yX2_tellOf cX2_tellOf 2 (some .int) 1 20 (ab_sp ab_hd bc_X2_tellOf) := ab_met (by decide) pn_RX2 rfl (bj_X2_tellOf l) bd_X2_tellOf ab_hcm ab_xk bz_X2_tellOf
theorem ba_X3_becomeLike : ec_al [(885, Cond.code yX3_becomeLike cX3_becomeLike 2 none), (62, Cond.initialized yX3_becomeLike.cls), (883, Cond.instanceMethod yX3_becomeLike), (884, Cond.selects yX3_becomeLike.cls yX3_becomeLike yX3_becomeLike)] := ec_alk (by decide +kernel)
theorem bw_X3_becomeLike : ec_cw yX3_becomeLike cX3_becomeLike 2 none := ⟨ba_X3_becomeLike.1, ba_X3_becomeLike.2.1, nc_RX3⟩
theorem bv_X3_becomeLike : Cond.instanceMethod yX3_becomeLike ∈ ec_tb ∧ Cond.selects yX3_becomeLike.cls yX3_becomeLike yX3_becomeLike ∈ ec_tb := ⟨ba_X3_becomeLike.2.2.1, ba_X3_becomeLike.2.2.2.1⟩
theorem bp_X3_becomeLike : (parseMethodDescriptor yX3_becomeLike.desc).map (fun d => d.parameters.length) = some 1 := by decide +kernel
theorem bk_X3_becomeLike (l : Launch) : ∀ (ix n : Nat) (rc : Option Nat) (sp : ex_S), (be_X3_becomeLike ix).map (fun q => (q.1, q.2.1, ab_sp ab_hd q.2.2)) = some (n, rc, sp) → ex_cok l RX3 2 47 ix n rc sp := by
  intro ix n rc sp h
  obtain ⟨l0, h2, rfl⟩ := ab_dmk h
  clear h
  unfold be_X3_becomeLike at h2
  split at h2
  · cases h2; exact ec_cS (bm_X9_copy l) bw_X9_copy bv_X9_copy (by decide) (by decide) (Or.inr ⟨"TinStation", List.mem_of_getElem? (i := 6) rfl⟩) bp_X9_copy
  · cases h2
theorem bj_X3_becomeLike (l : Launch) : ex_ok l 2 47 bx_X3_becomeLike := ec_okp fo_X3 co_X3 so_X3 (bk_X3_becomeLike l)
theorem bm_X3_becomeLike (l : Launch) : ex_Met l yX3_becomeLike cX3_becomeLike 2 none 2 47 (ab_sp ab_hd bc_X3_becomeLike) := ab_met (by decide) pn_RX3 rfl (bj_X3_becomeLike l) bd_X3_becomeLike ab_hcm ab_xk bz_X3_becomeLike
theorem ba_X3_has : ec_al [(520, Cond.code yX3_has cX3_has 2 (some .boolean)), (62, Cond.initialized yX3_has.cls), (518, Cond.instanceMethod yX3_has), (519, Cond.selects yX3_has.cls yX3_has yX3_has)] := ec_alk (by decide +kernel)
theorem bw_X3_has : ec_cw yX3_has cX3_has 2 (some .boolean) := ⟨ba_X3_has.1, ba_X3_has.2.1, nc_RX3⟩
theorem bv_X3_has : Cond.instanceMethod yX3_has ∈ ec_tb ∧ Cond.selects yX3_has.cls yX3_has yX3_has ∈ ec_tb := ⟨ba_X3_has.2.2.1, ba_X3_has.2.2.2.1⟩
theorem bp_X3_has : (parseMethodDescriptor yX3_has.desc).map (fun d => d.parameters.length) = some 1 := by decide +kernel
theorem bj_X3_has (l : Launch) : ex_ok l 0 0 bx_X3_has := ec_okp fo_X3 co_X3 so_X3 (ec_okn)
theorem bm_X3_has (l : Launch) : ex_Met l yX3_has cX3_has 2 (some .boolean) 0 0 (ab_sp ab_hd bc_X3_has) := ab_met (by decide) pn_RX3 rfl (bj_X3_has l) bd_X3_has ab_hcm ab_xk bz_X3_has
theorem ba_X3_mends : ec_al [(526, Cond.code yX3_mends cX3_mends 2 (some .boolean)), (62, Cond.initialized yX3_mends.cls), (524, Cond.instanceMethod yX3_mends), (525, Cond.selects yX3_mends.cls yX3_mends yX3_mends)] := ec_alk (by decide +kernel)
theorem bw_X3_mends : ec_cw yX3_mends cX3_mends 2 (some .boolean) := ⟨ba_X3_mends.1, ba_X3_mends.2.1, nc_RX3⟩
theorem bv_X3_mends : Cond.instanceMethod yX3_mends ∈ ec_tb ∧ Cond.selects yX3_mends.cls yX3_mends yX3_mends ∈ ec_tb := ⟨ba_X3_mends.2.2.1, ba_X3_mends.2.2.2.1⟩
theorem bp_X3_mends : (parseMethodDescriptor yX3_mends.desc).map (fun d => d.parameters.length) = some 1 := by decide +kernel
theorem bj_X3_mends (l : Launch) : ex_ok l 0 0 bx_X3_mends := ec_okp fo_X3 co_X3 so_X3 (ec_okn)
theorem bm_X3_mends (l : Launch) : ex_Met l yX3_mends cX3_mends 2 (some .boolean) 0 0 (ab_sp ab_hd bc_X3_mends) := ab_met (by decide) pn_RX3 rfl (bj_X3_mends l) bd_X3_mends ab_hcm ab_xk bz_X3_mends
theorem ba_X3_addPerson : ec_al [(507, Cond.code yX3_addPerson cX3_addPerson 2 (some .int)), (62, Cond.initialized yX3_addPerson.cls), (505, Cond.instanceMethod yX3_addPerson), (506, Cond.selects yX3_addPerson.cls yX3_addPerson yX3_addPerson)] := ec_alk (by decide +kernel)
theorem bw_X3_addPerson : ec_cw yX3_addPerson cX3_addPerson 2 (some .int) := ⟨ba_X3_addPerson.1, ba_X3_addPerson.2.1, nc_RX3⟩
theorem bv_X3_addPerson : Cond.instanceMethod yX3_addPerson ∈ ec_tb ∧ Cond.selects yX3_addPerson.cls yX3_addPerson yX3_addPerson ∈ ec_tb := ⟨ba_X3_addPerson.2.2.1, ba_X3_addPerson.2.2.2.1⟩
theorem bp_X3_addPerson : (parseMethodDescriptor yX3_addPerson.desc).map (fun d => d.parameters.length) = some 1 := by decide +kernel
theorem bj_X3_addPerson (l : Launch) : ex_ok l 0 0 bx_X3_addPerson := ec_okp fo_X3 co_X3 so_X3 (ec_okn)
theorem bm_X3_addPerson (l : Launch) : ex_Met l yX3_addPerson cX3_addPerson 2 (some .int) 0 0 (ab_sp ab_hd bc_X3_addPerson) := ab_met (by decide) pn_RX3 rfl (bj_X3_addPerson l) bd_X3_addPerson ab_hcm ab_xk bz_X3_addPerson
theorem ba_X3_setDoing : ec_al [(539, Cond.code yX3_setDoing cX3_setDoing 4 (some .int)), (62, Cond.initialized yX3_setDoing.cls), (537, Cond.instanceMethod yX3_setDoing), (538, Cond.selects yX3_setDoing.cls yX3_setDoing yX3_setDoing), (540, Cond.methodLink RX3 39 yX3_has), (542, Cond.methodLink RX3 44 yX3_mends)] := ec_alk (by decide +kernel)
theorem bw_X3_setDoing : ec_cw yX3_setDoing cX3_setDoing 4 (some .int) := ⟨ba_X3_setDoing.1, ba_X3_setDoing.2.1, nc_RX3⟩
theorem bv_X3_setDoing : Cond.instanceMethod yX3_setDoing ∈ ec_tb ∧ Cond.selects yX3_setDoing.cls yX3_setDoing yX3_setDoing ∈ ec_tb := ⟨ba_X3_setDoing.2.2.1, ba_X3_setDoing.2.2.2.1⟩
theorem bp_X3_setDoing : (parseMethodDescriptor yX3_setDoing.desc).map (fun d => d.parameters.length) = some 2 := by decide +kernel
theorem bk_X3_setDoing (l : Launch) : ∀ (ix n : Nat) (rc : Option Nat) (sp : ex_S), (be_X3_setDoing ix).map (fun q => (q.1, q.2.1, ab_sp ab_hd q.2.2)) = some (n, rc, sp) → ex_cok l RX3 1 21 ix n rc sp := by
  intro ix n rc sp h
  obtain ⟨l0, h2, rfl⟩ := ab_dmk h
  clear h
  unfold be_X3_setDoing at h2
  split at h2
  · cases h2; exact ec_cV (bm_X3_has l) bw_X3_has bv_X3_has (by decide) (by decide) (Or.inl ba_X3_setDoing.2.2.2.2.1) (T := TX3) (N := 7) rfl (by decide) bp_X3_has
  · cases h2; exact ec_cV (bm_X3_mends l) bw_X3_mends bv_X3_mends (by decide) (by decide) (Or.inl ba_X3_setDoing.2.2.2.2.2.1) (T := TX3) (N := 7) rfl (by decide) bp_X3_mends
  · cases h2
theorem bj_X3_setDoing (l : Launch) : ex_ok l 1 21 bx_X3_setDoing := ec_okp fo_X3 co_X3 so_X3 (bk_X3_setDoing l)
theorem bm_X3_setDoing (l : Launch) : ex_Met l yX3_setDoing cX3_setDoing 4 (some .int) 1 21 (ab_sp ab_hd bc_X3_setDoing) := ab_met (by decide) pn_RX3 rfl (bj_X3_setDoing l) bd_X3_setDoing ab_hcm ab_xk bz_X3_setDoing
theorem ba_X3_tellOf : ec_al [(551, Cond.code yX3_tellOf cX3_tellOf 3 (some .int)), (62, Cond.initialized yX3_tellOf.cls), (549, Cond.instanceMethod yX3_tellOf), (550, Cond.selects yX3_tellOf.cls yX3_tellOf yX3_tellOf), (540, Cond.methodLink RX3 39 yX3_has)] := ec_alk (by decide +kernel)
theorem bw_X3_tellOf : ec_cw yX3_tellOf cX3_tellOf 3 (some .int) := ⟨ba_X3_tellOf.1, ba_X3_tellOf.2.1, nc_RX3⟩
theorem bv_X3_tellOf : Cond.instanceMethod yX3_tellOf ∈ ec_tb ∧ Cond.selects yX3_tellOf.cls yX3_tellOf yX3_tellOf ∈ ec_tb := ⟨ba_X3_tellOf.2.2.1, ba_X3_tellOf.2.2.2.1⟩
theorem bp_X3_tellOf : (parseMethodDescriptor yX3_tellOf.desc).map (fun d => d.parameters.length) = some 2 := by decide +kernel
theorem bk_X3_tellOf (l : Launch) : ∀ (ix n : Nat) (rc : Option Nat) (sp : ex_S), (be_X3_tellOf ix).map (fun q => (q.1, q.2.1, ab_sp ab_hd q.2.2)) = some (n, rc, sp) → ex_cok l RX3 1 21 ix n rc sp := by
  intro ix n rc sp h
  obtain ⟨l0, h2, rfl⟩ := ab_dmk h
  clear h
  unfold be_X3_tellOf at h2
  split at h2
  · cases h2; exact ec_cV (bm_X3_has l) bw_X3_has bv_X3_has (by decide) (by decide) (Or.inl ba_X3_tellOf.2.2.2.2.1) (T := TX3) (N := 7) rfl (by decide) bp_X3_has
  · cases h2
theorem bj_X3_tellOf (l : Launch) : ex_ok l 1 21 bx_X3_tellOf := ec_okp fo_X3 co_X3 so_X3 (bk_X3_tellOf l)
theorem bm_X3_tellOf (l : Launch) : ex_Met l yX3_tellOf cX3_tellOf 3 (some .int) 1 21 (ab_sp ab_hd bc_X3_tellOf) := ab_met (by decide) pn_RX3 rfl (bj_X3_tellOf l) bd_X3_tellOf ab_hcm ab_xk bz_X3_tellOf
theorem ba_X3_startMending : ec_al [(630, Cond.code yX3_startMending cX3_startMending 4 none), (62, Cond.initialized yX3_startMending.cls), (628, Cond.instanceMethod yX3_startMending), (629, Cond.selects yX3_startMending.cls yX3_startMending yX3_startMending)] := ec_alk (by decide +kernel)
theorem bw_X3_startMending : ec_cw yX3_startMending cX3_startMending 4 none := ⟨ba_X3_startMending.1, ba_X3_startMending.2.1, nc_RX3⟩
theorem bv_X3_startMending : Cond.instanceMethod yX3_startMending ∈ ec_tb ∧ Cond.selects yX3_startMending.cls yX3_startMending yX3_startMending ∈ ec_tb := ⟨ba_X3_startMending.2.2.1, ba_X3_startMending.2.2.2.1⟩
theorem bp_X3_startMending : (parseMethodDescriptor yX3_startMending.desc).map (fun d => d.parameters.length) = some 3 := by decide +kernel
theorem bj_X3_startMending (l : Launch) : ex_ok l 0 0 bx_X3_startMending := ec_okp fo_X3 co_X3 so_X3 (ec_okn)
theorem bm_X3_startMending (l : Launch) : ex_Met l yX3_startMending cX3_startMending 4 none 0 0 (ab_sp ab_hd bc_X3_startMending) := ab_met (by decide) pn_RX3 rfl (bj_X3_startMending l) bd_X3_startMending ab_hcm ab_xk bz_X3_startMending
theorem ba_X3_isMended : ec_al [(625, Cond.code yX3_isMended cX3_isMended 3 (some .boolean)), (62, Cond.initialized yX3_isMended.cls), (623, Cond.instanceMethod yX3_isMended), (624, Cond.selects yX3_isMended.cls yX3_isMended yX3_isMended)] := ec_alk (by decide +kernel)
theorem bw_X3_isMended : ec_cw yX3_isMended cX3_isMended 3 (some .boolean) := ⟨ba_X3_isMended.1, ba_X3_isMended.2.1, nc_RX3⟩
theorem bv_X3_isMended : Cond.instanceMethod yX3_isMended ∈ ec_tb ∧ Cond.selects yX3_isMended.cls yX3_isMended yX3_isMended ∈ ec_tb := ⟨ba_X3_isMended.2.2.1, ba_X3_isMended.2.2.2.1⟩
theorem bp_X3_isMended : (parseMethodDescriptor yX3_isMended.desc).map (fun d => d.parameters.length) = some 1 := by decide +kernel
theorem bj_X3_isMended (l : Launch) : ex_ok l 0 0 bx_X3_isMended := ec_okp fo_X3 co_X3 so_X3 (ec_okn)
theorem bm_X3_isMended (l : Launch) : ex_Met l yX3_isMended cX3_isMended 3 (some .boolean) 0 0 (ab_sp ab_hd bc_X3_isMended) := ab_met (by decide) pn_RX3 rfl (bj_X3_isMended l) bd_X3_isMended ab_hcm ab_xk bz_X3_isMended
theorem ba_X3_menders : ec_al [(1094, Cond.code yX3_menders cX3_menders 3 (some .int)), (62, Cond.initialized yX3_menders.cls), (1092, Cond.instanceMethod yX3_menders), (1093, Cond.selects yX3_menders.cls yX3_menders yX3_menders), (542, Cond.methodLink RX3 44 yX3_mends)] := ec_alk (by decide +kernel)
theorem bw_X3_menders : ec_cw yX3_menders cX3_menders 3 (some .int) := ⟨ba_X3_menders.1, ba_X3_menders.2.1, nc_RX3⟩
theorem bv_X3_menders : Cond.instanceMethod yX3_menders ∈ ec_tb ∧ Cond.selects yX3_menders.cls yX3_menders yX3_menders ∈ ec_tb := ⟨ba_X3_menders.2.2.1, ba_X3_menders.2.2.2.1⟩
theorem bp_X3_menders : (parseMethodDescriptor yX3_menders.desc).map (fun d => d.parameters.length) = some 0 := by decide +kernel
theorem bk_X3_menders (l : Launch) : ∀ (ix n : Nat) (rc : Option Nat) (sp : ex_S), (be_X3_menders ix).map (fun q => (q.1, q.2.1, ab_sp ab_hd q.2.2)) = some (n, rc, sp) → ex_cok l RX3 1 21 ix n rc sp := by
  intro ix n rc sp h
  obtain ⟨l0, h2, rfl⟩ := ab_dmk h
  clear h
  unfold be_X3_menders at h2
  split at h2
  · cases h2; exact ec_cV (bm_X3_mends l) bw_X3_mends bv_X3_mends (by decide) (by decide) (Or.inl ba_X3_menders.2.2.2.2.1) (T := TX3) (N := 7) rfl (by decide) bp_X3_mends
  · cases h2; exact ec_cS (bm_X9_one l) bw_X9_one bv_X9_one (by decide) (by decide) (Or.inr ⟨"TinStation", List.mem_of_getElem? (i := 7) rfl⟩) bp_X9_one
  · cases h2
theorem bj_X3_menders (l : Launch) : ex_ok l 1 21 bx_X3_menders := ec_okp fo_X3 co_X3 so_X3 (bk_X3_menders l)
theorem bm_X3_menders (l : Launch) : ex_Met l yX3_menders cX3_menders 3 (some .int) 1 21 (ab_sp ab_hd bc_X3_menders) := ab_met (by decide) pn_RX3 rfl (bj_X3_menders l) bd_X3_menders ab_hcm ab_xk bz_X3_menders
theorem ba_X6_has : ec_al [(580, Cond.code yX6_has cX6_has 2 (some .boolean)), (63, Cond.initialized yX6_has.cls), (578, Cond.instanceMethod yX6_has), (579, Cond.selects yX6_has.cls yX6_has yX6_has)] := ec_alk (by decide +kernel)
theorem bw_X6_has : ec_cw yX6_has cX6_has 2 (some .boolean) := ⟨ba_X6_has.1, ba_X6_has.2.1, nc_RX6⟩
theorem bv_X6_has : Cond.instanceMethod yX6_has ∈ ec_tb ∧ Cond.selects yX6_has.cls yX6_has yX6_has ∈ ec_tb := ⟨ba_X6_has.2.2.1, ba_X6_has.2.2.2.1⟩
theorem bp_X6_has : (parseMethodDescriptor yX6_has.desc).map (fun d => d.parameters.length) = some 1 := by decide +kernel
theorem bj_X6_has (l : Launch) : ex_ok l 0 0 bx_X6_has := ec_okp fo_X6 co_X6 so_X6 (ec_okn)
theorem bm_X6_has (l : Launch) : ex_Met l yX6_has cX6_has 2 (some .boolean) 0 0 (ab_sp ab_hd bc_X6_has) := ab_met (by decide) pn_RX6 rfl (bj_X6_has l) bd_X6_has ab_hcm ab_xk bz_X6_has
theorem ba_X6_makeNew : ec_al [(760, Cond.code yX6_makeNew cX6_makeNew 2 none), (63, Cond.initialized yX6_makeNew.cls), (758, Cond.instanceMethod yX6_makeNew), (759, Cond.selects yX6_makeNew.cls yX6_makeNew yX6_makeNew), (577, Cond.methodLink RX6 77 yX6_has)] := ec_alk (by decide +kernel)
theorem bw_X6_makeNew : ec_cw yX6_makeNew cX6_makeNew 2 none := ⟨ba_X6_makeNew.1, ba_X6_makeNew.2.1, nc_RX6⟩
theorem bv_X6_makeNew : Cond.instanceMethod yX6_makeNew ∈ ec_tb ∧ Cond.selects yX6_makeNew.cls yX6_makeNew yX6_makeNew ∈ ec_tb := ⟨ba_X6_makeNew.2.2.1, ba_X6_makeNew.2.2.2.1⟩
theorem bp_X6_makeNew : (parseMethodDescriptor yX6_makeNew.desc).map (fun d => d.parameters.length) = some 1 := by decide +kernel
theorem bk_X6_makeNew (l : Launch) : ∀ (ix n : Nat) (rc : Option Nat) (sp : ex_S), (be_X6_makeNew ix).map (fun q => (q.1, q.2.1, ab_sp ab_hd q.2.2)) = some (n, rc, sp) → ex_cok l RX6 1 21 ix n rc sp := by
  intro ix n rc sp h
  obtain ⟨l0, h2, rfl⟩ := ab_dmk h
  clear h
  unfold be_X6_makeNew at h2
  split at h2
  · cases h2; exact ec_cV (bm_X6_has l) bw_X6_has bv_X6_has (by decide) (by decide) (Or.inl ba_X6_makeNew.2.2.2.2.1) (T := TX6) (N := 15) rfl (by decide) bp_X6_has
  · cases h2
theorem bj_X6_makeNew (l : Launch) : ex_ok l 1 21 bx_X6_makeNew := ec_okp fo_X6 co_X6 so_X6 (bk_X6_makeNew l)
theorem bm_X6_makeNew (l : Launch) : ex_Met l yX6_makeNew cX6_makeNew 2 none 1 21 (ab_sp ab_hd bc_X6_makeNew) := ab_met (by decide) pn_RX6 rfl (bj_X6_makeNew l) bd_X6_makeNew ab_hcm ab_xk bz_X6_makeNew
theorem ba_X3_mendOn : ec_al [(756, Cond.code yX3_mendOn cX3_mendOn 3 none), (62, Cond.initialized yX3_mendOn.cls), (754, Cond.instanceMethod yX3_mendOn), (755, Cond.selects yX3_mendOn.cls yX3_mendOn yX3_mendOn), (542, Cond.methodLink RX3 44 yX3_mends), (757, Cond.methodLink RX3 52 yX6_makeNew)] := ec_alk (by decide +kernel)
theorem bw_X3_mendOn : ec_cw yX3_mendOn cX3_mendOn 3 none := ⟨ba_X3_mendOn.1, ba_X3_mendOn.2.1, nc_RX3⟩
theorem bv_X3_mendOn : Cond.instanceMethod yX3_mendOn ∈ ec_tb ∧ Cond.selects yX3_mendOn.cls yX3_mendOn yX3_mendOn ∈ ec_tb := ⟨ba_X3_mendOn.2.2.1, ba_X3_mendOn.2.2.2.1⟩
theorem bp_X3_mendOn : (parseMethodDescriptor yX3_mendOn.desc).map (fun d => d.parameters.length) = some 1 := by decide +kernel
theorem bk_X3_mendOn (l : Launch) : ∀ (ix n : Nat) (rc : Option Nat) (sp : ex_S), (be_X3_mendOn ix).map (fun q => (q.1, q.2.1, ab_sp ab_hd q.2.2)) = some (n, rc, sp) → ex_cok l RX3 2 42 ix n rc sp := by
  intro ix n rc sp h
  obtain ⟨l0, h2, rfl⟩ := ab_dmk h
  clear h
  unfold be_X3_mendOn at h2
  split at h2
  · cases h2; exact ec_cV (bm_X3_mends l) bw_X3_mends bv_X3_mends (by decide) (by decide) (Or.inl ba_X3_mendOn.2.2.2.2.1) (T := TX3) (N := 7) rfl (by decide) bp_X3_mends
  · cases h2; exact ec_cV (bm_X6_makeNew l) bw_X6_makeNew bv_X6_makeNew (by decide) (by decide) (Or.inl ba_X3_mendOn.2.2.2.2.2.1) (T := TX6) (N := 15) rfl (by decide) bp_X6_makeNew
  · cases h2
theorem bj_X3_mendOn (l : Launch) : ex_ok l 2 42 bx_X3_mendOn := ec_okp fo_X3 co_X3 so_X3 (bk_X3_mendOn l)
theorem bm_X3_mendOn (l : Launch) : ex_Met l yX3_mendOn cX3_mendOn 3 none 2 42 (ab_sp ab_hd bc_X3_mendOn) := ab_met (by decide) pn_RX3 rfl (bj_X3_mendOn l) bd_X3_mendOn ab_hcm ab_xk bz_X3_mendOn
theorem ba_X3_breathe : ec_al [(805, Cond.code yX3_breathe cX3_breathe 5 none), (62, Cond.initialized yX3_breathe.cls), (804, Cond.instanceMethod yX3_breathe), (14, Cond.selects yX3_breathe.cls yX3_breathe yX3_breathe), (808, Cond.methodLink RX3 77 yX0_take), (809, Cond.methodLink RX3 68 yX0_give)] := ec_alk (by decide +kernel)
theorem bw_X3_breathe : ec_cw yX3_breathe cX3_breathe 5 none := ⟨ba_X3_breathe.1, ba_X3_breathe.2.1, nc_RX3⟩
theorem bv_X3_breathe : Cond.instanceMethod yX3_breathe ∈ ec_tb ∧ Cond.selects yX3_breathe.cls yX3_breathe yX3_breathe ∈ ec_tb := ⟨ba_X3_breathe.2.2.1, ba_X3_breathe.2.2.2.1⟩
theorem bp_X3_breathe : (parseMethodDescriptor yX3_breathe.desc).map (fun d => d.parameters.length) = some 2 := by decide +kernel
theorem bk_X3_breathe (l : Launch) : ∀ (ix n : Nat) (rc : Option Nat) (sp : ex_S), (be_X3_breathe ix).map (fun q => (q.1, q.2.1, ab_sp ab_hd q.2.2)) = some (n, rc, sp) → ex_cok l RX3 2 45 ix n rc sp := by
  intro ix n rc sp h
  obtain ⟨l0, h2, rfl⟩ := ab_dmk h
  clear h
  unfold be_X3_breathe at h2
  split at h2
  · cases h2; exact ec_cV (bm_X0_take l) bw_X0_take bv_X0_take (by decide) (by decide) (Or.inl ba_X3_breathe.2.2.2.2.1) (T := TX0) (N := 8) rfl (by decide) bp_X0_take
  · cases h2; exact ec_cV (bm_X0_give l) bw_X0_give bv_X0_give (by decide) (by decide) (Or.inl ba_X3_breathe.2.2.2.2.2.1) (T := TX0) (N := 8) rfl (by decide) bp_X0_give
  · cases h2; exact ec_cS (bm_X9_one l) bw_X9_one bv_X9_one (by decide) (by decide) (Or.inr ⟨"TinStation", List.mem_of_getElem? (i := 7) rfl⟩) bp_X9_one
  · cases h2
theorem bj_X3_breathe (l : Launch) : ex_ok l 2 45 bx_X3_breathe := ec_okp fo_X3 co_X3 so_X3 (bk_X3_breathe l)
theorem bm_X3_breathe (l : Launch) : ex_Met l yX3_breathe cX3_breathe 5 none 2 45 (ab_sp ab_hd bc_X3_breathe) := ab_met (by decide) pn_RX3 rfl (bj_X3_breathe l) bd_X3_breathe ab_hcm ab_xk bz_X3_breathe
theorem ba_X3_drink : ec_al [(814, Cond.code yX3_drink cX3_drink 5 none), (62, Cond.initialized yX3_drink.cls), (813, Cond.instanceMethod yX3_drink), (15, Cond.selects yX3_drink.cls yX3_drink yX3_drink), (815, Cond.methodLink RX3 81 yX0_draw), (809, Cond.methodLink RX3 68 yX0_give), (816, Cond.methodLink RX3 85 yX0_fill)] := ec_alk (by decide +kernel)
theorem bw_X3_drink : ec_cw yX3_drink cX3_drink 5 none := ⟨ba_X3_drink.1, ba_X3_drink.2.1, nc_RX3⟩
theorem bv_X3_drink : Cond.instanceMethod yX3_drink ∈ ec_tb ∧ Cond.selects yX3_drink.cls yX3_drink yX3_drink ∈ ec_tb := ⟨ba_X3_drink.2.2.1, ba_X3_drink.2.2.2.1⟩
theorem bp_X3_drink : (parseMethodDescriptor yX3_drink.desc).map (fun d => d.parameters.length) = some 2 := by decide +kernel
theorem bk_X3_drink (l : Launch) : ∀ (ix n : Nat) (rc : Option Nat) (sp : ex_S), (be_X3_drink ix).map (fun q => (q.1, q.2.1, ab_sp ab_hd q.2.2)) = some (n, rc, sp) → ex_cok l RX3 2 44 ix n rc sp := by
  intro ix n rc sp h
  obtain ⟨l0, h2, rfl⟩ := ab_dmk h
  clear h
  unfold be_X3_drink at h2
  split at h2
  · cases h2; exact ec_cV (bm_X0_draw l) bw_X0_draw bv_X0_draw (by decide) (by decide) (Or.inl ba_X3_drink.2.2.2.2.1) (T := TX0) (N := 8) rfl (by decide) bp_X0_draw
  · cases h2; exact ec_cV (bm_X0_give l) bw_X0_give bv_X0_give (by decide) (by decide) (Or.inl ba_X3_drink.2.2.2.2.2.1) (T := TX0) (N := 8) rfl (by decide) bp_X0_give
  · cases h2; exact ec_cV (bm_X0_fill l) bw_X0_fill bv_X0_fill (by decide) (by decide) (Or.inl ba_X3_drink.2.2.2.2.2.2.1) (T := TX0) (N := 8) rfl (by decide) bp_X0_fill
  · cases h2; exact ec_cS (bm_X9_one l) bw_X9_one bv_X9_one (by decide) (by decide) (Or.inr ⟨"TinStation", List.mem_of_getElem? (i := 7) rfl⟩) bp_X9_one
  · cases h2
theorem bj_X3_drink (l : Launch) : ex_ok l 2 44 bx_X3_drink := ec_okp fo_X3 co_X3 so_X3 (bk_X3_drink l)
theorem bm_X3_drink (l : Launch) : ex_Met l yX3_drink cX3_drink 5 none 2 44 (ab_sp ab_hd bc_X3_drink) := ab_met (by decide) pn_RX3 rfl (bj_X3_drink l) bd_X3_drink ab_hcm ab_xk bz_X3_drink
theorem ba_X3_live : ec_al [(801, Cond.code yX3_live cX3_live 3 none), (62, Cond.initialized yX3_live.cls), (799, Cond.instanceMethod yX3_live), (800, Cond.selects yX3_live.cls yX3_live yX3_live), (802, Cond.methodLink RX3 58 yX3_breathe), (811, Cond.methodLink RX3 62 yX3_drink), (809, Cond.methodLink RX3 68 yX0_give)] := ec_alk (by decide +kernel)
theorem bw_X3_live : ec_cw yX3_live cX3_live 3 none := ⟨ba_X3_live.1, ba_X3_live.2.1, nc_RX3⟩
theorem bv_X3_live : Cond.instanceMethod yX3_live ∈ ec_tb ∧ Cond.selects yX3_live.cls yX3_live yX3_live ∈ ec_tb := ⟨ba_X3_live.2.2.1, ba_X3_live.2.2.2.1⟩
theorem bp_X3_live : (parseMethodDescriptor yX3_live.desc).map (fun d => d.parameters.length) = some 1 := by decide +kernel
theorem bk_X3_live (l : Launch) : ∀ (ix n : Nat) (rc : Option Nat) (sp : ex_S), (be_X3_live ix).map (fun q => (q.1, q.2.1, ab_sp ab_hd q.2.2)) = some (n, rc, sp) → ex_cok l RX3 3 69 ix n rc sp := by
  intro ix n rc sp h
  obtain ⟨l0, h2, rfl⟩ := ab_dmk h
  clear h
  unfold be_X3_live at h2
  split at h2
  · cases h2; exact ec_cV (bm_X3_breathe l) bw_X3_breathe bv_X3_breathe (by decide) (by decide) (Or.inl ba_X3_live.2.2.2.2.1) (T := TX3) (N := 7) rfl (by decide) bp_X3_breathe
  · cases h2; exact ec_cV (bm_X3_drink l) bw_X3_drink bv_X3_drink (by decide) (by decide) (Or.inl ba_X3_live.2.2.2.2.2.1) (T := TX3) (N := 7) rfl (by decide) bp_X3_drink
  · cases h2; exact ec_cV (bm_X0_give l) bw_X0_give bv_X0_give (by decide) (by decide) (Or.inl ba_X3_live.2.2.2.2.2.2.1) (T := TX0) (N := 8) rfl (by decide) bp_X0_give
  · cases h2
theorem bj_X3_live (l : Launch) : ex_ok l 3 69 bx_X3_live := ec_okp fo_X3 co_X3 so_X3 (bk_X3_live l)
theorem bm_X3_live (l : Launch) : ex_Met l yX3_live cX3_live 3 none 3 69 (ab_sp ab_hd bc_X3_live) := ab_met (by decide) pn_RX3 rfl (bj_X3_live l) bd_X3_live ab_hcm ab_xk bz_X3_live
theorem ba_X4_startOver : ec_al [(956, Cond.code yX4_startOver cX4_startOver 2 (some .int)), (66, Cond.initialized yX4_startOver.cls), (954, Cond.instanceMethod yX4_startOver), (955, Cond.selects yX4_startOver.cls yX4_startOver yX4_startOver)] := ec_alk (by decide +kernel)
theorem bw_X4_startOver : ec_cw yX4_startOver cX4_startOver 2 (some .int) := ⟨ba_X4_startOver.1, ba_X4_startOver.2.1, nc_RX4⟩
theorem bv_X4_startOver : Cond.instanceMethod yX4_startOver ∈ ec_tb ∧ Cond.selects yX4_startOver.cls yX4_startOver yX4_startOver ∈ ec_tb := ⟨ba_X4_startOver.2.2.1, ba_X4_startOver.2.2.2.1⟩
theorem bp_X4_startOver : (parseMethodDescriptor yX4_startOver.desc).map (fun d => d.parameters.length) = some 1 := by decide +kernel
theorem bj_X4_startOver (l : Launch) : ex_ok l 0 0 bx_X4_startOver := ec_okp fo_X4 co_X4 so_X4 (ec_okn)
theorem dX4_startOver_0 : decode cX4_startOver 0 = .ok (.aload_n 0, 1) := by decide +kernel
theorem dX4_startOver_1 : decode cX4_startOver 1 = .ok (.iconst 1, 1) := by decide +kernel
theorem dX4_startOver_2 : decode cX4_startOver 2 = .ok (.aload_n 1, 1) := by decide +kernel
theorem dX4_startOver_3 : decode cX4_startOver 3 = .ok (.getfield 15, 3) := by decide +kernel
theorem dX4_startOver_6 : decode cX4_startOver 6 = .ok (.ishl, 1) := by decide +kernel
theorem dX4_startOver_7 : decode cX4_startOver 7 = .ok (.iconst 1, 1) := by decide +kernel
theorem dX4_startOver_8 : decode cX4_startOver 8 = .ok (.isub, 1) := by decide +kernel
theorem dX4_startOver_9 : decode cX4_startOver 9 = .ok (.putfield 21, 3) := by decide +kernel
theorem dX4_startOver_12 : decode cX4_startOver 12 = .ok (.aload_n 1, 1) := by decide +kernel
theorem dX4_startOver_13 : decode cX4_startOver 13 = .ok (.getfield 15, 3) := by decide +kernel
theorem dX4_startOver_16 : decode cX4_startOver 16 = .ok (.ireturn, 1) := by decide +kernel
set_option maxRecDepth 100000 in
set_option maxHeartbeats 4000000 in
theorem so_w0 {cs : ex_C} {Q : ex_Q} {I : Nat → Option (ex_L → ex_V → ex_C → Prop)} (hI : ∀ pc, I pc = none) (hk1 : ab_hk ab_hd cs) (hQ : ∀ cs', ab_hk ab_hd cs' → ab_fr [(64, some 1)] cs cs' → (gi cs' 64 1).toInt = hu_u (gi cs 7 6) → Q (some (.int (gi cs 7 6))) cs') : ex_wp ec_xt bx_X4_startOver cX4_startOver (some .int) I Q 60 0 [some (.ref 64), some (.ref 7)] [] cs := by
  have z0 := ab_z0
  obtain ⟨fs, h7, a6, a7, a2, a3, h10, h11, ⟨M1, M2⟩, ⟨H1, H2⟩, E10, E11⟩ := hu_air (cs := cs) hk1 (rfl) (rfl) (rfl)
  obtain ⟨gs, h64, ul, u0, u1, h65⟩ := hu_hun hk1
  refine wq_aload_n dX4_startOver_0 rfl rfl ?_
  refine go_wp (hI _) (wq_iconst (v := 1) dX4_startOver_1 (by decide) rfl ?_)
  refine go_wp (hI _) (wq_aload_n dX4_startOver_2 rfl rfl ?_)
  refine go_wp (hI _) (wq_getfield dX4_startOver_3 fe_X4_15 h7 a6 rfl ?_)
  refine go_wp (hI _) (wq_ishl (v := ((1 : Int32) <<< ((gi cs 7 6) &&& 31))) dX4_startOver_6 rfl rfl ?_)
  refine go_wp (hI _) (wq_iconst (v := 1) dX4_startOver_7 (by decide) rfl ?_)
  refine go_wp (hI _) (wq_isub (v := (((1 : Int32) <<< ((gi cs 7 6) &&& 31)) - 1)) dX4_startOver_8 rfl rfl ?_)
  refine go_wp (hI _) (wq_putfield (fs' := (gs.set 1 (.int (((1 : Int32) <<< ((gi cs 7 6) &&& 31)) - 1)))) (cs' := (cs.set 64 (.inr (4, (gs.set 1 (.int (((1 : Int32) <<< ((gi cs 7 6) &&& 31)) - 1))))))) dX4_startOver_9 fe_X4_21 h64 (by omega) trivial rfl rfl rfl ?_)
  obtain ⟨hk3, hf3, hr3⟩ := hu_put (j := 1) (v := (((1 : Int32) <<< ((gi cs 7 6) &&& 31)) - 1)) hk1 rfl h64 rfl
  have h7' : (cs.set 64 (.inr (4, (gs.set 1 (.int (((1 : Int32) <<< ((gi cs 7 6) &&& 31)) - 1))))))[7]? = some (.inr (0, fs)) := (List.getElem?_set_ne (by decide)).trans h7
  refine go_wp (hI _) (wq_aload_n dX4_startOver_12 rfl rfl ?_)
  refine go_wp (hI _) (wq_getfield dX4_startOver_13 fe_X4_15 h7' a6 rfl ?_)
  refine go_wp (hI _) (wq_ireturn dX4_startOver_16 trivial (hQ _ hk3 hf3 (congrArg Int32.toInt (gi_ri hr3).1)))
set_option maxRecDepth 100000 in
theorem bm_X4_startOver (l : Launch) : ex_Met l yX4_startOver cX4_startOver 2 (some .int) 0 0 (ab_sp ab_hd bc_X4_startOver) := by
  intro D ad ca n sz av cs Q h
  refine ex_lmet (by decide) rfl (bj_X4_startOver l) D ad ca n sz av cs Q ?_
  obtain ⟨c0, hc0, ⟨hp1, hp2, -⟩, hk, hQ⟩ := h
  have hc' : c0 = ([.inl 64, .inl 7], [], [(64, some 1)], [(some (0, 6, some (8006, 0)), [], [((1, 64, 1), -2147483648, 2147483647, some (900000007, 0))])]) := by
    unfold bc_X4_startOver bq_X4_startOver at hc0
    simpa using hc0
  subst hc'
  obtain ⟨v0, e0, pz0⟩ := hp2 0 _ rfl
  obtain ⟨v1, e1, pz1⟩ := hp2 1 _ rfl
  cases pz0
  cases pz1
  have hav : av = [.ref 64, .ref 7] := hx_av2 hp1 e0 e1
  subst hav
  have hM : 0 ≤ (gi cs 7 6).toInt ∧ (gi cs 7 6).toInt ≤ 6 := by
    obtain ⟨fs, h7, a6, a7, a2, a3, h10, h11, hM, -⟩ := hu_air (cs := cs) hk rfl rfl rfl
    exact hM
  refine sl_in 60 (fun _ => none) rfl (Nat.le_of_ble_eq_true rfl) rfl (so_w0 (fun _ => rfl) hk (fun cs' hk' hf' hs => ?_)) (fun pc J n lv st cs' hI hJ => (by cases hI))
  refine hQ _ _ ⟨hk', hf', _, List.mem_cons_self, ⟨_, rfl, hM, fun d hd => ?_⟩, fun q hq => (by cases hq), fun q hq => ?_⟩
  · cases hd
    obtain ⟨z, hz⟩ := hu_r7 hk
    have e : ab_oo (([.ref 64, .ref 7] : List Value).map some) cs 8006 = z := am_onc (k := 7) (j := 6) (by decide) (by decide) hz
    have e2 := gi_t hz
    show _ = ab_oo (([.ref 64, .ref 7] : List Value).map some) cs 8006 + (0 : Int)
    omega
  · rcases List.mem_singleton.mp hq with rfl
    exact hu_ff (hu_r64 hk') (by rw [hg_7]; exact hs)
theorem ba_X4_join : ec_al [(974, Cond.code yX4_join cX4_join 4 none), (66, Cond.initialized yX4_join.cls), (973, Cond.instanceMethod yX4_join), (20, Cond.selects yX4_join.cls yX4_join yX4_join)] := ec_alk (by decide +kernel)
theorem bw_X4_join : ec_cw yX4_join cX4_join 4 none := ⟨ba_X4_join.1, ba_X4_join.2.1, nc_RX4⟩
theorem bv_X4_join : Cond.instanceMethod yX4_join ∈ ec_tb ∧ Cond.selects yX4_join.cls yX4_join yX4_join ∈ ec_tb := ⟨ba_X4_join.2.2.1, ba_X4_join.2.2.2.1⟩
theorem bp_X4_join : (parseMethodDescriptor yX4_join.desc).map (fun d => d.parameters.length) = some 2 := by decide +kernel
theorem bj_X4_join (l : Launch) : ex_ok l 0 0 bx_X4_join := ec_okp fo_X4 co_X4 so_X4 (ec_okn)
theorem dX4_join_0 : decode cX4_join 0 = .ok (.iconst 0, 1) := by decide +kernel
theorem dX4_join_1 : decode cX4_join 1 = .ok (.istore_n 3, 1) := by decide +kernel
theorem dX4_join_2 : decode cX4_join 2 = .ok (.iload_n 3, 1) := by decide +kernel
theorem dX4_join_3 : decode cX4_join 3 = .ok (.aload_n 1, 1) := by decide +kernel
theorem dX4_join_4 : decode cX4_join 4 = .ok (.getfield 15, 3) := by decide +kernel
theorem dX4_join_7 : decode cX4_join 7 = .ok (.if_icmp .ge 25, 3) := by decide +kernel
theorem dX4_join_10 : decode cX4_join 10 = .ok (.iload_n 2, 1) := by decide +kernel
theorem dX4_join_11 : decode cX4_join 11 = .ok (.iload_n 3, 1) := by decide +kernel
theorem dX4_join_12 : decode cX4_join 12 = .ok (.ishr, 1) := by decide +kernel
theorem dX4_join_13 : decode cX4_join 13 = .ok (.iconst 1, 1) := by decide +kernel
theorem dX4_join_14 : decode cX4_join 14 = .ok (.iand, 1) := by decide +kernel
theorem dX4_join_15 : decode cX4_join 15 = .ok (.iconst 1, 1) := by decide +kernel
theorem dX4_join_16 : decode cX4_join 16 = .ok (.if_icmp .ne 10, 3) := by decide +kernel
theorem dX4_join_19 : decode cX4_join 19 = .ok (.aload_n 0, 1) := by decide +kernel
theorem dX4_join_20 : decode cX4_join 20 = .ok (.getfield 9, 3) := by decide +kernel
theorem dX4_join_23 : decode cX4_join 23 = .ok (.iload_n 3, 1) := by decide +kernel
theorem dX4_join_24 : decode cX4_join 24 = .ok (.iload_n 2, 1) := by decide +kernel
theorem dX4_join_25 : decode cX4_join 25 = .ok (.iastore, 1) := by decide +kernel
theorem dX4_join_26 : decode cX4_join 26 = .ok (.iinc 3 1, 3) := by decide +kernel
theorem dX4_join_29 : decode cX4_join 29 = .ok (.goto (-27), 3) := by decide +kernel
theorem dX4_join_32 : decode cX4_join 32 = .ok (.return_, 1) := by decide +kernel
def jn_J (t : Int32) (cs0 : ex_C) : Nat → ex_L → ex_V → ex_C → Prop := fun n lv st cs => st = [] ∧ ab_hk ab_hd cs ∧ ab_fr [(65, none)] cs0 cs ∧ ∃ i : Int32, lv = [some (.ref 64), some (.ref 7), some (.int t), some (.int i)] ∧ gi cs 65 = pt_j t (gi cs0 65) i.toNatClampNeg ∧ 0 ≤ i.toInt ∧ i.toInt ≤ (gi cs0 7 6).toInt ∧ (n : Int) = 20 - i.toInt
def jn_I (t : Int32) (cs0 : ex_C) (pc : Nat) : Option (Nat → ex_L → ex_V → ex_C → Prop) := if pc = 2 then some (jn_J t cs0) else none
def jn_B (t : Int32) (cs0 : ex_C) (n : Nat) : Nat → Option (ex_L → ex_V → ex_C → Prop) := fun pc => (jn_I t cs0 pc).map (fun J' lv st cs => ∃ n', n' < n ∧ J' n' lv st cs)
def jn_A (t : Int32) (cs0 : ex_C) : Nat → Option (ex_L → ex_V → ex_C → Prop) := fun pc => (jn_I t cs0 pc).map (fun J' lv st cs => ∃ n', J' n' lv st cs)
set_option maxRecDepth 100000 in
set_option maxHeartbeats 4000000 in
theorem jn_w2 {cs cs1 : ex_C} {Q : ex_Q} {t : Int32} (hk1 : ab_hk ab_hd cs1) (hf : ab_fr [(65, none)] cs cs1) (hQ : ∀ cs', ab_hk ab_hd cs' → ab_fr [(65, none)] cs cs' → gi cs' 65 = pt_j t (gi cs 65) (gi cs 7 6).toNatClampNeg → Q none cs') {n : Nat} {i : Int32} (hg : gi cs1 65 = pt_j t (gi cs 65) i.toNatClampNeg) (b3 : 0 ≤ i.toInt) (b4 : i.toInt ≤ (gi cs 7 6).toInt) (hn : (n : Int) = 20 - i.toInt) : ex_wp ec_xt bx_X4_join cX4_join none (jn_B t cs n) Q 60 2 [some (.ref 64), some (.ref 7), some (.int t), some (.int i)] [] cs1 := by
  have z0 := ab_z0
  obtain ⟨fs, h7, a6, a7, a2, a3, h10, h11, ⟨M1, M2⟩, ⟨H1, H2⟩, E10, E11⟩ := hu_air (cs := cs) hk1 (gi_fr hf (fun _ => rfl)) (gi_fr hf (fun _ => rfl)) (gi_fr hf (fun _ => rfl))
  obtain ⟨gs, h64, ul, u0, u1, h65⟩ := hu_hun hk1
  refine wq_iload_n dX4_join_2 rfl rfl ?_
  refine go_wp rfl (wq_aload_n dX4_join_3 rfl rfl ?_)
  refine go_wp rfl (wq_getfield dX4_join_4 fe_X4_15 h7 a6 rfl ?_)
  refine go_wp rfl (wq_icmp_ge (t := 32) dX4_join_7 (by decide) rfl (fun q1 => ?_) (fun q1 => ?_))
  · have q1' : Int32.toInt i ≥ Int32.toInt (gi cs 7 6) := (ab_ige (x := i) (y := (gi cs 7 6))).1 q1
    refine go_wp rfl (wq_return dX4_join_32 rfl (hQ _ hk1 hf (by rw [hg, show i = gi cs 7 6 from Int32.toInt_inj.mp (by omega)])))
  · have q1' : Int32.toInt i < Int32.toInt (gi cs 7 6) := (ab_ige (x := i) (y := (gi cs 7 6))).2 q1
    refine go_wp rfl (wq_iload_n dX4_join_10 rfl rfl ?_)
    refine go_wp rfl (wq_iload_n dX4_join_11 rfl rfl ?_)
    refine go_wp rfl (wq_ishr (v := (t >>> (i &&& 31))) dX4_join_12 rfl rfl ?_)
    refine go_wp rfl (wq_iconst (v := 1) dX4_join_13 (by decide) rfl ?_)
    refine go_wp rfl (wq_iand (v := ((t >>> (i &&& 31)) &&& 1)) dX4_join_14 rfl rfl ?_)
    refine go_wp rfl (wq_iconst (v := 1) dX4_join_15 (by decide) rfl ?_)
    refine go_wp rfl (wq_icmp_ne (t := 26) dX4_join_16 (by decide) rfl (fun q2 => ?_) (fun q2 => ?_))
    · have q2' : Int32.toInt ((t >>> (i &&& 31)) &&& 1) ≠ Int32.toInt 1 := (ab_ieq (x := ((t >>> (i &&& 31)) &&& 1)) (y := 1)).2 q2
      refine go_wp rfl (wq_iinc (v := (i + Int32.ofInt 1)) (lv' := [some (.ref 64), some (.ref 7), some (.int t), some (.int (i + Int32.ofInt 1))]) dX4_join_26 rfl ⟨Nat.le_of_ble_eq_true rfl, rfl⟩ rfl rfl rfl ?_)
      refine go_wp rfl (wq_goto (t := 2) dX4_join_29 (by decide) ?_)
      have hi := ab_inc (x := i) (by omega) (by omega)
      exact go_cut rfl ⟨(20 - (i.toInt + 1)).toNat, (by omega), rfl, hk1, hf, _, rfl, hg.trans (jn_0 b3 (by omega) q2'), (by omega), (by omega), (by omega)⟩
    · have q2' : Int32.toInt ((t >>> (i &&& 31)) &&& 1) = Int32.toInt 1 := (ab_ieq (x := ((t >>> (i &&& 31)) &&& 1)) (y := 1)).1 q2
      refine go_wp rfl (wq_aload_n dX4_join_19 rfl rfl ?_)
      refine go_wp rfl (wq_getfield dX4_join_20 fe_X4_9 h64 u0 rfl ?_)
      refine go_wp rfl (wq_iload_n dX4_join_23 rfl rfl ?_)
      refine go_wp rfl (wq_iload_n dX4_join_24 rfl rfl ?_)
      refine go_wp rfl (wq_iastore (f' := (upd (gi cs1 65) i.toNatClampNeg t)) (cs' := (cs1.set 65 (.inl (0, 6, .inl (upd (gi cs1 65) i.toNatClampNeg t))))) dX4_join_25 h65 (vp_mk (by omega) (by omega)) rfl rfl rfl ?_)
      refine go_wp rfl (wq_iinc (v := (i + Int32.ofInt 1)) (lv' := [some (.ref 64), some (.ref 7), some (.int t), some (.int (i + Int32.ofInt 1))]) dX4_join_26 rfl ⟨Nat.le_of_ble_eq_true rfl, rfl⟩ rfl rfl rfl ?_)
      refine go_wp rfl (wq_goto (t := 2) dX4_join_29 (by decide) ?_)
      have hi := ab_inc (x := i) (by omega) (by omega)
      have hs := hu_set (g := upd (gi cs1 65) i.toNatClampNeg t) hk1 hf h65
      exact go_cut rfl ⟨(20 - (i.toInt + 1)).toNat, (by omega), rfl, hs.1, hs.2.1, _, rfl, hs.2.2.trans (by rw [hg]; exact jn_1 b3 (by omega) q2'), (by omega), (by omega), (by omega)⟩
set_option maxRecDepth 100000 in
set_option maxHeartbeats 4000000 in
theorem jn_w0 {cs : ex_C} {Q : ex_Q} {t : Int32} (hk : ab_hk ab_hd cs) (M1 : 0 ≤ (gi cs 7 6).toInt) : ex_wp ec_xt bx_X4_join cX4_join none (jn_A t cs) Q 60 0 [some (.ref 64), some (.ref 7), some (.int t), none] [] cs := by
  refine wq_iconst (v := 0) dX4_join_0 (by decide) rfl ?_
  refine go_wp rfl (wq_istore_n (lv' := [some (.ref 64), some (.ref 7), some (.int t), some (.int 0)]) dX4_join_1 ⟨Nat.le_of_ble_eq_true rfl, rfl⟩ rfl rfl ?_)
  exact go_cut rfl ⟨20, rfl, hk, ab_rf0, _, rfl, pj_z.symm, (by rw [ab_z0]; omega), (by rw [ab_z0]; omega), (by rw [ab_z0]; omega)⟩
set_option maxRecDepth 100000 in
theorem bm_X4_join (l : Launch) : ex_Met l yX4_join cX4_join 4 none 0 0 (ab_sp ab_hd bc_X4_join) := by
  intro D ad ca n sz av cs Q h
  refine ex_lmet (by decide) rfl (bj_X4_join l) D ad ca n sz av cs Q ?_
  obtain ⟨c0, hc0, ⟨hp1, hp2, -⟩, hk, hQ⟩ := h
  have hc' : c0 = ([.inl 64, .inl 7, .inr (-2147483648, 2147483647)], [], [(65, none)], [(none, [], [((1, 65, 0), -2147483648, 2147483647, some (900000010, 0)), ((1, 65, 1), -2147483648, 2147483647, some (900000011, 0)), ((1, 65, 2), -2147483648, 2147483647, some (900000012, 0)), ((1, 65, 3), -2147483648, 2147483647, some (900000013, 0)), ((1, 65, 4), -2147483648, 2147483647, some (900000014, 0)), ((1, 65, 5), -2147483648, 2147483647, some (900000015, 0))])]) := by
    unfold bc_X4_join bq_X4_join at hc0
    simpa using hc0
  subst hc'
  obtain ⟨v0, e0, pz0⟩ := hp2 0 _ rfl
  obtain ⟨v1, e1, pz1⟩ := hp2 1 _ rfl
  obtain ⟨v2, e2, t, rfl, t1, t2⟩ := hp2 2 _ rfl
  cases pz0
  cases pz1
  have hav : av = [.ref 64, .ref 7, .int t] := hx_av3 hp1 e0 e1 e2
  subst hav
  have M1 : 0 ≤ (gi cs 7 6).toInt := by
    obtain ⟨fs, h7, a6, a7, a2, a3, h10, h11, ⟨M1, M2⟩, -⟩ := hu_air (cs := cs) hk rfl rfl rfl
    exact M1
  have hQ' : ∀ cs', ab_hk ab_hd cs' → ab_fr [(65, none)] cs cs' → gi cs' 65 = pt_j t (gi cs 65) (gi cs 7 6).toNatClampNeg → Q none cs' := by
    intro cs' hk' hf' hr
    refine hQ _ _ ⟨hk', hf', _, List.mem_cons_self, rfl, fun q hq => (by cases hq), fun q hq => ?_⟩
    obtain ⟨gs, h64, ul, u0, u1, h65⟩ := hu_hun hk'
    have ri : ∀ j, ab_ri cs' 65 j = some (gi cs' 65 j).toInt := fun j => (by
      unfold ab_ri ab_rd
      rw [h65])
    have hq' := hq
    simp only [List.mem_cons, List.not_mem_nil, or_false] at hq'
    rcases hq' with rfl | rfl | rfl | rfl | rfl | rfl
    · exact hu_ff (ri 0) (hg_j0.symm ▸ (by rw [hr]; rfl))
    · exact hu_ff (ri 1) (hg_j1.symm ▸ (by rw [hr]; rfl))
    · exact hu_ff (ri 2) (hg_j2.symm ▸ (by rw [hr]; rfl))
    · exact hu_ff (ri 3) (hg_j3.symm ▸ (by rw [hr]; rfl))
    · exact hu_ff (ri 4) (hg_j4.symm ▸ (by rw [hr]; rfl))
    · exact hu_ff (ri 5) (hg_j5.symm ▸ (by rw [hr]; rfl))
  refine sl_in 60 (jn_I t cs) rfl (Nat.le_of_ble_eq_true rfl) rfl (jn_w0 hk M1) (fun pc J n lv st cs1 hI hJ => ?_)
  unfold jn_I at hI
  split at hI
  · rename_i e'
    subst e'
    cases hI
    obtain ⟨rfl, hk1, hf, i, rfl, hg, b3, b4, hn⟩ := hJ
    exact jn_w2 hk1 hf hQ' hg b3 b4 hn
  · cases hI
theorem ba_X4_findParts : ec_al [(970, Cond.code yX4_findParts cX4_findParts 4 none), (66, Cond.initialized yX4_findParts.cls), (969, Cond.instanceMethod yX4_findParts), (19, Cond.selects yX4_findParts.cls yX4_findParts yX4_findParts), (971, Cond.methodLink RX4 59 yX4_join)] := ec_alk (by decide +kernel)
theorem bw_X4_findParts : ec_cw yX4_findParts cX4_findParts 4 none := ⟨ba_X4_findParts.1, ba_X4_findParts.2.1, nc_RX4⟩
theorem bv_X4_findParts : Cond.instanceMethod yX4_findParts ∈ ec_tb ∧ Cond.selects yX4_findParts.cls yX4_findParts yX4_findParts ∈ ec_tb := ⟨ba_X4_findParts.2.2.1, ba_X4_findParts.2.2.2.1⟩
theorem bp_X4_findParts : (parseMethodDescriptor yX4_findParts.desc).map (fun d => d.parameters.length) = some 2 := by decide +kernel
theorem bk_X4_findParts (l : Launch) : ∀ (ix n : Nat) (rc : Option Nat) (sp : ex_S), (be_X4_findParts ix).map (fun q => (q.1, q.2.1, ab_sp ab_hd q.2.2)) = some (n, rc, sp) → ex_cok l RX4 1 23 ix n rc sp := by
  intro ix n rc sp h
  obtain ⟨l0, h2, rfl⟩ := ab_dmk h
  clear h
  unfold be_X4_findParts at h2
  split at h2
  · cases h2; exact ec_cV (bm_X4_join l) bw_X4_join bv_X4_join (by decide) (by decide) (Or.inl ba_X4_findParts.2.2.2.2.1) (T := TX4) (N := 2) rfl (by decide) bp_X4_join
  · cases h2
theorem bj_X4_findParts (l : Launch) : ex_ok l 1 23 bx_X4_findParts := ec_okp fo_X4 co_X4 so_X4 (bk_X4_findParts l)
theorem dX4_findParts_0 : decode cX4_findParts 0 = .ok (.iconst 0, 1) := by decide +kernel
theorem dX4_findParts_1 : decode cX4_findParts 1 = .ok (.istore_n 3, 1) := by decide +kernel
theorem dX4_findParts_2 : decode cX4_findParts 2 = .ok (.iload_n 3, 1) := by decide +kernel
theorem dX4_findParts_3 : decode cX4_findParts 3 = .ok (.aload_n 1, 1) := by decide +kernel
theorem dX4_findParts_4 : decode cX4_findParts 4 = .ok (.getfield 15, 3) := by decide +kernel
theorem dX4_findParts_7 : decode cX4_findParts 7 = .ok (.if_icmp .ge 18, 3) := by decide +kernel
theorem dX4_findParts_10 : decode cX4_findParts 10 = .ok (.aload_n 0, 1) := by decide +kernel
theorem dX4_findParts_11 : decode cX4_findParts 11 = .ok (.getfield 9, 3) := by decide +kernel
theorem dX4_findParts_14 : decode cX4_findParts 14 = .ok (.iload_n 3, 1) := by decide +kernel
theorem dX4_findParts_15 : decode cX4_findParts 15 = .ok (.iconst 1, 1) := by decide +kernel
theorem dX4_findParts_16 : decode cX4_findParts 16 = .ok (.iload_n 3, 1) := by decide +kernel
theorem dX4_findParts_17 : decode cX4_findParts 17 = .ok (.ishl, 1) := by decide +kernel
theorem dX4_findParts_18 : decode cX4_findParts 18 = .ok (.iastore, 1) := by decide +kernel
theorem dX4_findParts_19 : decode cX4_findParts 19 = .ok (.iinc 3 1, 3) := by decide +kernel
theorem dX4_findParts_22 : decode cX4_findParts 22 = .ok (.goto (-20), 3) := by decide +kernel
theorem dX4_findParts_25 : decode cX4_findParts 25 = .ok (.iconst 0, 1) := by decide +kernel
theorem dX4_findParts_26 : decode cX4_findParts 26 = .ok (.istore_n 3, 1) := by decide +kernel
theorem dX4_findParts_27 : decode cX4_findParts 27 = .ok (.iload_n 3, 1) := by decide +kernel
theorem dX4_findParts_28 : decode cX4_findParts 28 = .ok (.aload_n 1, 1) := by decide +kernel
theorem dX4_findParts_29 : decode cX4_findParts 29 = .ok (.getfield 28, 3) := by decide +kernel
theorem dX4_findParts_32 : decode cX4_findParts 32 = .ok (.if_icmp .ge 45, 3) := by decide +kernel
theorem dX4_findParts_35 : decode cX4_findParts 35 = .ok (.iload_n 2, 1) := by decide +kernel
theorem dX4_findParts_36 : decode cX4_findParts 36 = .ok (.iload_n 3, 1) := by decide +kernel
theorem dX4_findParts_37 : decode cX4_findParts 37 = .ok (.ishr, 1) := by decide +kernel
theorem dX4_findParts_38 : decode cX4_findParts 38 = .ok (.iconst 1, 1) := by decide +kernel
theorem dX4_findParts_39 : decode cX4_findParts 39 = .ok (.iand, 1) := by decide +kernel
theorem dX4_findParts_40 : decode cX4_findParts 40 = .ok (.ifCond .ne 31, 3) := by decide +kernel
theorem dX4_findParts_43 : decode cX4_findParts 43 = .ok (.aload_n 0, 1) := by decide +kernel
theorem dX4_findParts_44 : decode cX4_findParts 44 = .ok (.aload_n 1, 1) := by decide +kernel
theorem dX4_findParts_45 : decode cX4_findParts 45 = .ok (.aload_n 0, 1) := by decide +kernel
theorem dX4_findParts_46 : decode cX4_findParts 46 = .ok (.getfield 9, 3) := by decide +kernel
theorem dX4_findParts_49 : decode cX4_findParts 49 = .ok (.aload_n 1, 1) := by decide +kernel
theorem dX4_findParts_50 : decode cX4_findParts 50 = .ok (.getfield 53, 3) := by decide +kernel
theorem dX4_findParts_53 : decode cX4_findParts 53 = .ok (.iload_n 3, 1) := by decide +kernel
theorem dX4_findParts_54 : decode cX4_findParts 54 = .ok (.iaload, 1) := by decide +kernel
theorem dX4_findParts_55 : decode cX4_findParts 55 = .ok (.iaload, 1) := by decide +kernel
theorem dX4_findParts_56 : decode cX4_findParts 56 = .ok (.aload_n 0, 1) := by decide +kernel
theorem dX4_findParts_57 : decode cX4_findParts 57 = .ok (.getfield 9, 3) := by decide +kernel
theorem dX4_findParts_60 : decode cX4_findParts 60 = .ok (.aload_n 1, 1) := by decide +kernel
theorem dX4_findParts_61 : decode cX4_findParts 61 = .ok (.getfield 56, 3) := by decide +kernel
theorem dX4_findParts_64 : decode cX4_findParts 64 = .ok (.iload_n 3, 1) := by decide +kernel
theorem dX4_findParts_65 : decode cX4_findParts 65 = .ok (.iaload, 1) := by decide +kernel
theorem dX4_findParts_66 : decode cX4_findParts 66 = .ok (.iaload, 1) := by decide +kernel
theorem dX4_findParts_67 : decode cX4_findParts 67 = .ok (.ior, 1) := by decide +kernel
theorem dX4_findParts_68 : decode cX4_findParts 68 = .ok (.invokevirtual 59, 3) := by decide +kernel
theorem dX4_findParts_71 : decode cX4_findParts 71 = .ok (.iinc 3 1, 3) := by decide +kernel
theorem dX4_findParts_74 : decode cX4_findParts 74 = .ok (.goto (-47), 3) := by decide +kernel
theorem dX4_findParts_77 : decode cX4_findParts 77 = .ok (.return_, 1) := by decide +kernel
def fp_J1 (c : Int32) (cs0 : ex_C) : Nat → ex_L → ex_V → ex_C → Prop := fun n lv st cs => st = [] ∧ ab_hk ab_hd cs ∧ ab_fr [(65, none)] cs0 cs ∧ ∃ i : Int32, lv = [some (.ref 64), some (.ref 7), some (.int c), some (.int i)] ∧ gi cs 65 = pt_0 (gi cs0 65) i.toNatClampNeg ∧ 0 ≤ i.toInt ∧ i.toInt ≤ (gi cs0 7 6).toInt ∧ (n : Int) = 100 - i.toInt
def fp_J2 (c : Int32) (cs0 : ex_C) : Nat → ex_L → ex_V → ex_C → Prop := fun n lv st cs => st = [] ∧ ab_hk ab_hd cs ∧ ab_fr [(65, none)] cs0 cs ∧ ∃ i : Int32, lv = [some (.ref 64), some (.ref 7), some (.int c), some (.int i)] ∧ (∀ j, j < 6 → gi cs 65 j = pt_h (gi cs0 7 6).toNatClampNeg c (gi cs0 10) (gi cs0 11) (gi cs0 65) i.toNatClampNeg j) ∧ 0 ≤ i.toInt ∧ i.toInt ≤ (gi cs0 7 7).toInt ∧ (n : Int) = 50 - i.toInt
def fp_I (c : Int32) (cs0 : ex_C) (pc : Nat) : Option (Nat → ex_L → ex_V → ex_C → Prop) := if pc = 2 then some (fp_J1 c cs0) else if pc = 27 then some (fp_J2 c cs0) else none
def fp_B (c : Int32) (cs0 : ex_C) (n : Nat) : Nat → Option (ex_L → ex_V → ex_C → Prop) := fun pc => (fp_I c cs0 pc).map (fun J' lv st cs => ∃ n', n' < n ∧ J' n' lv st cs)
def fp_A (c : Int32) (cs0 : ex_C) : Nat → Option (ex_L → ex_V → ex_C → Prop) := fun pc => (fp_I c cs0 pc).map (fun J' lv st cs => ∃ n', J' n' lv st cs)
set_option maxRecDepth 100000 in
set_option maxHeartbeats 4000000 in
theorem fp_w2 {cs cs1 : ex_C} {Q : ex_Q} {c : Int32} (hk1 : ab_hk ab_hd cs1) (hf : ab_fr [(65, none)] cs cs1) {n : Nat} {i : Int32} (hg : gi cs1 65 = pt_0 (gi cs 65) i.toNatClampNeg) (b3 : 0 ≤ i.toInt) (b4 : i.toInt ≤ (gi cs 7 6).toInt) (hn : (n : Int) = 100 - i.toInt) : ex_wp ec_xt bx_X4_findParts cX4_findParts none (fp_B c cs n) Q 60 2 [some (.ref 64), some (.ref 7), some (.int c), some (.int i)] [] cs1 := by
  have z0 := ab_z0
  obtain ⟨fs, h7, a6, a7, a2, a3, h10, h11, ⟨M1, M2⟩, ⟨H1, H2⟩, E10, E11⟩ := hu_air (cs := cs) hk1 (gi_fr hf (fun _ => rfl)) (gi_fr hf (fun _ => rfl)) (gi_fr hf (fun _ => rfl))
  obtain ⟨gs, h64, ul, u0, u1, h65⟩ := hu_hun hk1
  refine wq_iload_n dX4_findParts_2 rfl rfl ?_
  refine go_wp rfl (wq_aload_n dX4_findParts_3 rfl rfl ?_)
  refine go_wp rfl (wq_getfield dX4_findParts_4 fe_X4_15 h7 a6 rfl ?_)
  refine go_wp rfl (wq_icmp_ge (t := 25) dX4_findParts_7 (by decide) rfl (fun q1 => ?_) (fun q1 => ?_))
  · have q1' : Int32.toInt i ≥ Int32.toInt (gi cs 7 6) := (ab_ige (x := i) (y := (gi cs 7 6))).1 q1
    refine go_wp rfl (wq_iconst (v := 0) dX4_findParts_25 (by decide) rfl ?_)
    refine go_wp rfl (wq_istore_n (lv' := [some (.ref 64), some (.ref 7), some (.int c), some (.int 0)]) dX4_findParts_26 ⟨Nat.le_of_ble_eq_true rfl, rfl⟩ rfl rfl ?_)
    have ei : i = gi cs 7 6 := Int32.toInt_inj.mp (by omega)
    exact go_cut rfl ⟨50, (by omega), rfl, hk1, hf, _, rfl, (fun j hj => by rw [hg, ei]; rfl), (by rw [ab_z0]; omega), (by rw [ab_z0]; omega), (by rw [ab_z0]; omega)⟩
  · have q1' : Int32.toInt i < Int32.toInt (gi cs 7 6) := (ab_ige (x := i) (y := (gi cs 7 6))).2 q1
    refine go_wp rfl (wq_aload_n dX4_findParts_10 rfl rfl ?_)
    refine go_wp rfl (wq_getfield dX4_findParts_11 fe_X4_9 h64 u0 rfl ?_)
    refine go_wp rfl (wq_iload_n dX4_findParts_14 rfl rfl ?_)
    refine go_wp rfl (wq_iconst (v := 1) dX4_findParts_15 (by decide) rfl ?_)
    refine go_wp rfl (wq_iload_n dX4_findParts_16 rfl rfl ?_)
    refine go_wp rfl (wq_ishl (v := ((1 : Int32) <<< (i &&& 31))) dX4_findParts_17 rfl rfl ?_)
    refine go_wp rfl (wq_iastore (f' := (upd (gi cs1 65) i.toNatClampNeg ((1 : Int32) <<< (i &&& 31)))) (cs' := (cs1.set 65 (.inl (0, 6, .inl (upd (gi cs1 65) i.toNatClampNeg ((1 : Int32) <<< (i &&& 31))))))) dX4_findParts_18 h65 (vp_mk (by omega) (by omega)) rfl rfl rfl ?_)
    refine go_wp rfl (wq_iinc (v := (i + Int32.ofInt 1)) (lv' := [some (.ref 64), some (.ref 7), some (.int c), some (.int (i + Int32.ofInt 1))]) dX4_findParts_19 rfl ⟨Nat.le_of_ble_eq_true rfl, rfl⟩ rfl rfl rfl ?_)
    refine go_wp rfl (wq_goto (t := 2) dX4_findParts_22 (by decide) ?_)
    have hi := ab_inc (x := i) (by omega) (by omega)
    have hs := hu_set (g := upd (gi cs1 65) i.toNatClampNeg ((1 : Int32) <<< (i &&& 31))) hk1 hf h65
    exact go_cut rfl ⟨(100 - (i.toInt + 1)).toNat, (by omega), rfl, hs.1, hs.2.1, _, rfl, hs.2.2.trans (by rw [hg]; exact fp_s b3 (by omega)), (by omega), (by omega), (by omega)⟩
theorem hu_j6 {cs cs1 cs2 : ex_C} {t : Int32} (hn : ab_cf (ab_oo (([.ref 64, .ref 7, .int t] : List Value).map some) cs1) [] cs2 [((1, 65, 0), -2147483648, 2147483647, some (900000010, 0)), ((1, 65, 1), -2147483648, 2147483647, some (900000011, 0)), ((1, 65, 2), -2147483648, 2147483647, some (900000012, 0)), ((1, 65, 3), -2147483648, 2147483647, some (900000013, 0)), ((1, 65, 4), -2147483648, 2147483647, some (900000014, 0)), ((1, 65, 5), -2147483648, 2147483647, some (900000015, 0))]) (e : gi cs1 7 = gi cs 7) : ∀ j, j < 6 → gi cs2 65 j = pt_j t (gi cs1 65) (gi cs 7 6).toNatClampNeg j := by
  intro j hj
  refine Int32.toInt_inj.mp ?_
  rw [← e]
  match j, hj with
  | 0, _ => exact (hu_q hn 0 rfl).trans hg_j0
  | 1, _ => exact (hu_q hn 1 rfl).trans hg_j1
  | 2, _ => exact (hu_q hn 2 rfl).trans hg_j2
  | 3, _ => exact (hu_q hn 3 rfl).trans hg_j3
  | 4, _ => exact (hu_q hn 4 rfl).trans hg_j4
  | 5, _ => exact (hu_q hn 5 rfl).trans hg_j5
  | j + 6, hj => omega
set_option maxRecDepth 100000 in
set_option maxHeartbeats 4000000 in
theorem fp_w27 {cs cs1 : ex_C} {Q : ex_Q} {c : Int32} (hk1 : ab_hk ab_hd cs1) (hf : ab_fr [(65, none)] cs cs1) (hQ : ∀ cs', ab_hk ab_hd cs' → ab_fr [(65, none)] cs cs' → (∀ j, j < 6 → gi cs' 65 j = pt_h (gi cs 7 6).toNatClampNeg c (gi cs 10) (gi cs 11) (gi cs 65) (gi cs 7 7).toNatClampNeg j) → Q none cs') {n : Nat} {i : Int32} (hg : ∀ j, j < 6 → gi cs1 65 j = pt_h (gi cs 7 6).toNatClampNeg c (gi cs 10) (gi cs 11) (gi cs 65) i.toNatClampNeg j) (b3 : 0 ≤ i.toInt) (b4 : i.toInt ≤ (gi cs 7 7).toInt) (hn : (n : Int) = 50 - i.toInt) : ex_wp ec_xt bx_X4_findParts cX4_findParts none (fp_B c cs n) Q 60 27 [some (.ref 64), some (.ref 7), some (.int c), some (.int i)] [] cs1 := by
  have z0 := ab_z0
  obtain ⟨fs, h7, a6, a7, a2, a3, h10, h11, ⟨M1, M2⟩, ⟨H1, H2⟩, E10, E11⟩ := hu_air (cs := cs) hk1 (gi_fr hf (fun _ => rfl)) (gi_fr hf (fun _ => rfl)) (gi_fr hf (fun _ => rfl))
  obtain ⟨gs, h64, ul, u0, u1, h65⟩ := hu_hun hk1
  have n1 : i.toNatClampNeg = i.toInt.toNat := rfl
  have x10 : i.toInt < 8 → 0 ≤ (gi cs 10 i.toNatClampNeg).toInt ∧ (gi cs 10 i.toNatClampNeg).toInt ≤ 5 := fun h => E10 _ (by omega)
  have x11 : i.toInt < 8 → 0 ≤ (gi cs 11 i.toNatClampNeg).toInt ∧ (gi cs 11 i.toNatClampNeg).toInt ≤ 5 := fun h => E11 _ (by omega)
  refine wq_iload_n dX4_findParts_27 rfl rfl ?_
  refine go_wp rfl (wq_aload_n dX4_findParts_28 rfl rfl ?_)
  refine go_wp rfl (wq_getfield dX4_findParts_29 fe_X4_28 h7 a7 rfl ?_)
  refine go_wp rfl (wq_icmp_ge (t := 77) dX4_findParts_32 (by decide) rfl (fun q1 => ?_) (fun q1 => ?_))
  · have q1' : Int32.toInt i ≥ Int32.toInt (gi cs 7 7) := (ab_ige (x := i) (y := (gi cs 7 7))).1 q1
    refine go_wp rfl (wq_return dX4_findParts_77 rfl (hQ _ hk1 hf (fun j hj => by rw [hg j hj, show i = gi cs 7 7 from Int32.toInt_inj.mp (by omega)])))
  · have q1' : Int32.toInt i < Int32.toInt (gi cs 7 7) := (ab_ige (x := i) (y := (gi cs 7 7))).2 q1
    refine go_wp rfl (wq_iload_n dX4_findParts_35 rfl rfl ?_)
    refine go_wp rfl (wq_iload_n dX4_findParts_36 rfl rfl ?_)
    refine go_wp rfl (wq_ishr (v := (c >>> (i &&& 31))) dX4_findParts_37 rfl rfl ?_)
    refine go_wp rfl (wq_iconst (v := 1) dX4_findParts_38 (by decide) rfl ?_)
    refine go_wp rfl (wq_iand (v := ((c >>> (i &&& 31)) &&& 1)) dX4_findParts_39 rfl rfl ?_)
    refine go_wp rfl (wq_if_ne (t := 71) dX4_findParts_40 (by decide) rfl (fun q2 => ?_) (fun q2 => ?_))
    · have q2' : Int32.toInt ((c >>> (i &&& 31)) &&& 1) ≠ Int32.toInt 0 := (ab_ieq (x := ((c >>> (i &&& 31)) &&& 1)) (y := 0)).2 q2
      refine go_wp rfl (wq_iinc (v := (i + Int32.ofInt 1)) (lv' := [some (.ref 64), some (.ref 7), some (.int c), some (.int (i + Int32.ofInt 1))]) dX4_findParts_71 rfl ⟨Nat.le_of_ble_eq_true rfl, rfl⟩ rfl rfl rfl ?_)
      refine go_wp rfl (wq_goto (t := 27) dX4_findParts_74 (by decide) ?_)
      have hi := ab_inc (x := i) (by omega) (by omega)
      exact go_cut rfl ⟨(50 - (i.toInt + 1)).toNat, (by omega), rfl, hk1, hf, _, rfl, fp_0 b3 (by omega) hg q2', (by omega), (by omega), (by omega)⟩
    · have q2' : Int32.toInt ((c >>> (i &&& 31)) &&& 1) = Int32.toInt 0 := (ab_ieq (x := ((c >>> (i &&& 31)) &&& 1)) (y := 0)).1 q2
      refine go_wp rfl (wq_aload_n dX4_findParts_43 rfl rfl ?_)
      refine go_wp rfl (wq_aload_n dX4_findParts_44 rfl rfl ?_)
      refine go_wp rfl (wq_aload_n dX4_findParts_45 rfl rfl ?_)
      refine go_wp rfl (wq_getfield dX4_findParts_46 fe_X4_9 h64 u0 rfl ?_)
      refine go_wp rfl (wq_aload_n dX4_findParts_49 rfl rfl ?_)
      refine go_wp rfl (wq_getfield dX4_findParts_50 fe_X4_53 h7 a2 rfl ?_)
      refine go_wp rfl (wq_iload_n dX4_findParts_53 rfl rfl ?_)
      refine go_wp rfl (wq_iaload (v := ((gi cs 10) i.toNatClampNeg)) dX4_findParts_54 (by decide) h10 (vp_mk (by omega) (by omega)) rfl rfl ?_)
      refine go_wp rfl (wq_iaload (v := ((gi cs1 65) ((gi cs 10) i.toNatClampNeg).toNatClampNeg)) dX4_findParts_55 (by decide) h65 (vp_mk (by omega) (by omega)) rfl rfl ?_)
      refine go_wp rfl (wq_aload_n dX4_findParts_56 rfl rfl ?_)
      refine go_wp rfl (wq_getfield dX4_findParts_57 fe_X4_9 h64 u0 rfl ?_)
      refine go_wp rfl (wq_aload_n dX4_findParts_60 rfl rfl ?_)
      refine go_wp rfl (wq_getfield dX4_findParts_61 fe_X4_56 h7 a3 rfl ?_)
      refine go_wp rfl (wq_iload_n dX4_findParts_64 rfl rfl ?_)
      refine go_wp rfl (wq_iaload (v := ((gi cs 11) i.toNatClampNeg)) dX4_findParts_65 (by decide) h11 (vp_mk (by omega) (by omega)) rfl rfl ?_)
      refine go_wp rfl (wq_iaload (v := ((gi cs1 65) ((gi cs 11) i.toNatClampNeg).toNatClampNeg)) dX4_findParts_66 (by decide) h65 (vp_mk (by omega) (by omega)) rfl rfl ?_)
      refine go_wp rfl (wq_ior (v := (((gi cs1 65) ((gi cs 10) i.toNatClampNeg).toNatClampNeg) ||| ((gi cs1 65) ((gi cs 11) i.toNatClampNeg).toNatClampNeg))) dX4_findParts_67 rfl rfl ?_)
      refine go_wp rfl (wq_virtual (q := 3) (ci := 4) (a := 64) (av := [.ref 64, .ref 7, .int (((gi cs1 65) ((gi cs 10) i.toNatClampNeg).toNatClampNeg) ||| ((gi cs1 65) ((gi cs 11) i.toNatClampNeg).toNatClampNeg))]) (r := []) dX4_findParts_68 rfl (Nat.le_of_ble_eq_true rfl) rfl rfl rfl (Nat.le_of_ble_eq_true rfl) h64 rfl (hx_call 0 (c := ([.inl 64, .inl 7, .inr ((-2147483648), 2147483647)], [], [(65, none)], [(none, [], [((1, 65, 0), (-2147483648), 2147483647, some (900000010, 0)), ((1, 65, 1), (-2147483648), 2147483647, some (900000011, 0)), ((1, 65, 2), (-2147483648), 2147483647, some (900000012, 0)), ((1, 65, 3), (-2147483648), 2147483647, some (900000013, 0)), ((1, 65, 4), (-2147483648), 2147483647, some (900000014, 0)), ((1, 65, 5), (-2147483648), 2147483647, some (900000015, 0))])])) rfl (hx_pr3 hx_cr hx_cr (hx_ci (hx_tb _))) hk1 (fun r cs2 hp => ?_)))
      obtain ⟨hk2, hf2, rfl, hn2⟩ := hu_void hp
      refine ret_void ?_
      have hj2 := hu_j6 hn2 (gi_fr hf (fun _ => rfl))
      refine go_wp rfl (wq_iinc (v := (i + Int32.ofInt 1)) (lv' := [some (.ref 64), some (.ref 7), some (.int c), some (.int (i + Int32.ofInt 1))]) dX4_findParts_71 rfl ⟨Nat.le_of_ble_eq_true rfl, rfl⟩ rfl rfl rfl ?_)
      refine go_wp rfl (wq_goto (t := 27) dX4_findParts_74 (by decide) ?_)
      have hi := ab_inc (x := i) (by omega) (by omega)
      exact go_cut rfl ⟨(50 - (i.toInt + 1)).toNat, (by omega), rfl, hk2, hf.tr hf2, _, rfl, fp_1 b3 (by omega) hg q2' (E10 _ (by omega)) (E11 _ (by omega)) hj2, (by omega), (by omega), (by omega)⟩
set_option maxRecDepth 100000 in
set_option maxHeartbeats 4000000 in
theorem fp_w0 {cs : ex_C} {Q : ex_Q} {c : Int32} (hk : ab_hk ab_hd cs) (M1 : 0 ≤ (gi cs 7 6).toInt) : ex_wp ec_xt bx_X4_findParts cX4_findParts none (fp_A c cs) Q 60 0 [some (.ref 64), some (.ref 7), some (.int c), none] [] cs := by
  refine wq_iconst (v := 0) dX4_findParts_0 (by decide) rfl ?_
  refine go_wp rfl (wq_istore_n (lv' := [some (.ref 64), some (.ref 7), some (.int c), some (.int 0)]) dX4_findParts_1 ⟨Nat.le_of_ble_eq_true rfl, rfl⟩ rfl rfl ?_)
  exact go_cut rfl ⟨100, rfl, hk, ab_rf0, _, rfl, p0_z.symm, (by rw [ab_z0]; omega), (by rw [ab_z0]; omega), (by rw [ab_z0]; omega)⟩
set_option maxRecDepth 100000 in
theorem bm_X4_findParts (l : Launch) : ex_Met l yX4_findParts cX4_findParts 4 none 1 23 (ab_sp ab_hd bc_X4_findParts) := by
  intro D ad ca n sz av cs Q h
  refine ex_lmet (by decide) rfl (bj_X4_findParts l) D ad ca n sz av cs Q ?_
  obtain ⟨c0, hc0, ⟨hp1, hp2, -⟩, hk, hQ⟩ := h
  have hc' : c0 = ([.inl 64, .inl 7, .inr (-2147483648, 2147483647)], [], [(65, none)], [(none, [], [((1, 65, 0), -2147483648, 2147483647, some (900000020, 0)), ((1, 65, 1), -2147483648, 2147483647, some (900000021, 0)), ((1, 65, 2), -2147483648, 2147483647, some (900000022, 0)), ((1, 65, 3), -2147483648, 2147483647, some (900000023, 0)), ((1, 65, 4), -2147483648, 2147483647, some (900000024, 0)), ((1, 65, 5), -2147483648, 2147483647, some (900000025, 0))])]) := by
    unfold bc_X4_findParts bq_X4_findParts at hc0
    simpa using hc0
  subst hc'
  obtain ⟨v0, e0, pz0⟩ := hp2 0 _ rfl
  obtain ⟨v1, e1, pz1⟩ := hp2 1 _ rfl
  obtain ⟨v2, e2, c, rfl, c1, c2⟩ := hp2 2 _ rfl
  cases pz0
  cases pz1
  have hav : av = [.ref 64, .ref 7, .int c] := hx_av3 hp1 e0 e1 e2
  subst hav
  have M1 : 0 ≤ (gi cs 7 6).toInt := by
    obtain ⟨fs, h7, a6, a7, a2, a3, h10, h11, ⟨M1, M2⟩, -⟩ := hu_air (cs := cs) hk rfl rfl rfl
    exact M1
  have hQ' : ∀ cs', ab_hk ab_hd cs' → ab_fr [(65, none)] cs cs' → (∀ j, j < 6 → gi cs' 65 j = pt_h (gi cs 7 6).toNatClampNeg c (gi cs 10) (gi cs 11) (gi cs 65) (gi cs 7 7).toNatClampNeg j) → Q none cs' := by
    intro cs' hk' hf' hr
    refine hQ _ _ ⟨hk', hf', _, List.mem_cons_self, rfl, fun q hq => (by cases hq), fun q hq => ?_⟩
    obtain ⟨gs, h64, ul, u0, u1, h65⟩ := hu_hun hk'
    have ri : ∀ j, ab_ri cs' 65 j = some (gi cs' 65 j).toInt := fun j => (by
      unfold ab_ri ab_rd
      rw [h65])
    have hq' := hq
    simp only [List.mem_cons, List.not_mem_nil, or_false] at hq'
    rcases hq' with rfl | rfl | rfl | rfl | rfl | rfl
    · exact hu_ff (ri 0) (hg_f0.symm ▸ (by rw [hr 0 (by omega)]; rfl))
    · exact hu_ff (ri 1) (hg_f1.symm ▸ (by rw [hr 1 (by omega)]; rfl))
    · exact hu_ff (ri 2) (hg_f2.symm ▸ (by rw [hr 2 (by omega)]; rfl))
    · exact hu_ff (ri 3) (hg_f3.symm ▸ (by rw [hr 3 (by omega)]; rfl))
    · exact hu_ff (ri 4) (hg_f4.symm ▸ (by rw [hr 4 (by omega)]; rfl))
    · exact hu_ff (ri 5) (hg_f5.symm ▸ (by rw [hr 5 (by omega)]; rfl))
  refine sl_in 60 (fp_I c cs) rfl (Nat.le_of_ble_eq_true rfl) rfl (fp_w0 hk M1) (fun pc J n lv st cs1 hI hJ => ?_)
  unfold fp_I at hI
  split at hI
  · rename_i e'
    subst e'
    cases hI
    obtain ⟨rfl, hk1, hf, i, rfl, hg, b3, b4, hn⟩ := hJ
    exact fp_w2 hk1 hf hg b3 b4 hn
  · split at hI
    · rename_i e'
      subst e'
      cases hI
      obtain ⟨rfl, hk1, hf, i, rfl, hg, b3, b4, hn⟩ := hJ
      exact fp_w27 hk1 hf hQ' hg b3 b4 hn
    · cases hI
theorem hu_f6 {cs cs1 cs2 : ex_C} {c : Int32} (hn : ab_cf (ab_oo (([.ref 64, .ref 7, .int c] : List Value).map some) cs1) [] cs2 [((1, 65, 0), -2147483648, 2147483647, some (900000020, 0)), ((1, 65, 1), -2147483648, 2147483647, some (900000021, 0)), ((1, 65, 2), -2147483648, 2147483647, some (900000022, 0)), ((1, 65, 3), -2147483648, 2147483647, some (900000023, 0)), ((1, 65, 4), -2147483648, 2147483647, some (900000024, 0)), ((1, 65, 5), -2147483648, 2147483647, some (900000025, 0))]) (hf : ab_fr [] cs cs1) : ∀ j, j < 6 → gi cs2 65 j = pt_h (gi cs 7 6).toNatClampNeg c (gi cs 10) (gi cs 11) (gi cs 65) (gi cs 7 7).toNatClampNeg j := by
  intro j hj
  refine Int32.toInt_inj.mp ?_
  rw [← gi_fr (k := 7) hf (fun _ => rfl), ← gi_fr (k := 10) hf (fun _ => rfl), ← gi_fr (k := 11) hf (fun _ => rfl), ← gi_fr (k := 65) hf (fun _ => rfl)]
  match j, hj with
  | 0, _ => exact (hu_q hn 0 rfl).trans hg_f0
  | 1, _ => exact (hu_q hn 1 rfl).trans hg_f1
  | 2, _ => exact (hu_q hn 2 rfl).trans hg_f2
  | 3, _ => exact (hu_q hn 3 rfl).trans hg_f3
  | 4, _ => exact (hu_q hn 4 rfl).trans hg_f4
  | 5, _ => exact (hu_q hn 5 rfl).trans hg_f5
  | j + 6, hj => omega
