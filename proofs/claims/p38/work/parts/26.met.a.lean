theorem ba_X9_copy : ec_al [(874, Cond.code yX9_copy cX9_copy 2 none), (58, Cond.initialized yX9_copy.cls), (873, Cond.static yX9_copy)] := ec_alk (by decide +kernel)
theorem bw_X9_copy : ec_cw yX9_copy cX9_copy 2 none := ⟨ba_X9_copy.1, ba_X9_copy.2.1, nc_RX9⟩
theorem bv_X9_copy : Cond.static yX9_copy ∈ ec_tb := ba_X9_copy.2.2.1
theorem bp_X9_copy : (parseMethodDescriptor yX9_copy.desc).map (fun d => d.parameters.length) = some 2 := by decide +kernel
theorem bj_X9_copy (l : Launch) : ex_ok l 1 26 bx_X9_copy := ⟨ec_fok fo_X9, ec_cok co_X9, so_X9, ec_okn, am_X9 (by decide) (by decide), ax_X9, ao_X9 (by decide) (by decide), fun _ _ h => (by cases h)⟩
theorem bm_X9_copy (l : Launch) : ex_Met l yX9_copy cX9_copy 2 none 1 26 (ab_sp ab_hd bc_X9_copy) := ab_met (by decide) pn_RX9 rfl (bj_X9_copy l) bd_X9_copy ab_hcm ab_xk bz_X9_copy
theorem ba_X9_copyFlags : ec_al [(881, Cond.code yX9_copyFlags cX9_copyFlags 3 none), (58, Cond.initialized yX9_copyFlags.cls), (880, Cond.static yX9_copyFlags)] := ec_alk (by decide +kernel)
theorem bw_X9_copyFlags : ec_cw yX9_copyFlags cX9_copyFlags 3 none := ⟨ba_X9_copyFlags.1, ba_X9_copyFlags.2.1, nc_RX9⟩
theorem bv_X9_copyFlags : Cond.static yX9_copyFlags ∈ ec_tb := ba_X9_copyFlags.2.2.1
theorem bp_X9_copyFlags : (parseMethodDescriptor yX9_copyFlags.desc).map (fun d => d.parameters.length) = some 2 := by decide +kernel
theorem bj_X9_copyFlags (l : Launch) : ex_ok l 0 0 bx_X9_copyFlags := ec_okp fo_X9 co_X9 so_X9 (ec_okn)
theorem bm_X9_copyFlags (l : Launch) : ex_Met l yX9_copyFlags cX9_copyFlags 3 none 0 0 (ab_sp ab_hd bc_X9_copyFlags) := ab_met (by decide) pn_RX9 rfl (bj_X9_copyFlags l) bd_X9_copyFlags ab_hcm ab_xk bz_X9_copyFlags
theorem ba_X0_becomeLike : ec_al [(871, Cond.code yX0_becomeLike cX0_becomeLike 2 none), (61, Cond.initialized yX0_becomeLike.cls), (869, Cond.instanceMethod yX0_becomeLike), (870, Cond.selects yX0_becomeLike.cls yX0_becomeLike yX0_becomeLike)] := ec_alk (by decide +kernel)
theorem bw_X0_becomeLike : ec_cw yX0_becomeLike cX0_becomeLike 2 none := ⟨ba_X0_becomeLike.1, ba_X0_becomeLike.2.1, nc_RX0⟩
theorem bv_X0_becomeLike : Cond.instanceMethod yX0_becomeLike ∈ ec_tb ∧ Cond.selects yX0_becomeLike.cls yX0_becomeLike yX0_becomeLike ∈ ec_tb := ⟨ba_X0_becomeLike.2.2.1, ba_X0_becomeLike.2.2.2.1⟩
theorem bp_X0_becomeLike : (parseMethodDescriptor yX0_becomeLike.desc).map (fun d => d.parameters.length) = some 1 := by decide +kernel
theorem bk_X0_becomeLike (l : Launch) : ∀ (ix n : Nat) (rc : Option Nat) (sp : ex_S), (be_X0_becomeLike ix).map (fun q => (q.1, q.2.1, ab_sp ab_hd q.2.2)) = some (n, rc, sp) → ex_cok l RX0 2 47 ix n rc sp := by
  intro ix n rc sp h
  obtain ⟨l0, h2, rfl⟩ := ab_dmk h
  clear h
  unfold be_X0_becomeLike at h2
  split at h2
  · cases h2; exact ec_cS (bm_X9_copy l) bw_X9_copy bv_X9_copy (by decide) (by decide) (Or.inr ⟨"TinStation", List.mem_of_getElem? (i := 0) rfl⟩) bp_X9_copy
  · cases h2; exact ec_cS (bm_X9_copyFlags l) bw_X9_copyFlags bv_X9_copyFlags (by decide) (by decide) (Or.inr ⟨"TinStation", List.mem_of_getElem? (i := 1) rfl⟩) bp_X9_copyFlags
  · cases h2
theorem bj_X0_becomeLike (l : Launch) : ex_ok l 2 47 bx_X0_becomeLike := ec_okp fo_X0 co_X0 so_X0 (bk_X0_becomeLike l)
theorem bm_X0_becomeLike (l : Launch) : ex_Met l yX0_becomeLike cX0_becomeLike 2 none 2 47 (ab_sp ab_hd bc_X0_becomeLike) := ab_met (by decide) pn_RX0 rfl (bj_X0_becomeLike l) bd_X0_becomeLike ab_hcm ab_xk bz_X0_becomeLike
theorem ba_X0_isSort : ec_al [(471, Cond.code yX0_isSort cX0_isSort 1 (some .boolean)), (61, Cond.initialized yX0_isSort.cls), (470, Cond.static yX0_isSort)] := ec_alk (by decide +kernel)
theorem bw_X0_isSort : ec_cw yX0_isSort cX0_isSort 1 (some .boolean) := ⟨ba_X0_isSort.1, ba_X0_isSort.2.1, nc_RX0⟩
theorem bv_X0_isSort : Cond.static yX0_isSort ∈ ec_tb := ba_X0_isSort.2.2.1
theorem bp_X0_isSort : (parseMethodDescriptor yX0_isSort.desc).map (fun d => d.parameters.length) = some 1 := by decide +kernel
theorem bj_X0_isSort (l : Launch) : ex_ok l 0 0 bx_X0_isSort := ec_okp fo_X0 co_X0 so_X0 (ec_okn)
theorem bm_X0_isSort (l : Launch) : ex_Met l yX0_isSort cX0_isSort 1 (some .boolean) 0 0 (ab_sp ab_hd bc_X0_isSort) := ab_met (by decide) pn_RX0 rfl (bj_X0_isSort l) bd_X0_isSort ab_hcm ab_xk bz_X0_isSort
theorem ba_X0_hasModule : ec_al [(441, Cond.code yX0_hasModule cX0_hasModule 2 (some .boolean)), (61, Cond.initialized yX0_hasModule.cls), (439, Cond.instanceMethod yX0_hasModule), (440, Cond.selects yX0_hasModule.cls yX0_hasModule yX0_hasModule)] := ec_alk (by decide +kernel)
theorem bw_X0_hasModule : ec_cw yX0_hasModule cX0_hasModule 2 (some .boolean) := ⟨ba_X0_hasModule.1, ba_X0_hasModule.2.1, nc_RX0⟩
theorem bv_X0_hasModule : Cond.instanceMethod yX0_hasModule ∈ ec_tb ∧ Cond.selects yX0_hasModule.cls yX0_hasModule yX0_hasModule ∈ ec_tb := ⟨ba_X0_hasModule.2.2.1, ba_X0_hasModule.2.2.2.1⟩
theorem bp_X0_hasModule : (parseMethodDescriptor yX0_hasModule.desc).map (fun d => d.parameters.length) = some 1 := by decide +kernel
theorem bj_X0_hasModule (l : Launch) : ex_ok l 0 0 bx_X0_hasModule := ec_okp fo_X0 co_X0 so_X0 (ec_okn)
theorem bm_X0_hasModule (l : Launch) : ex_Met l yX0_hasModule cX0_hasModule 2 (some .boolean) 0 0 (ab_sp ab_hd bc_X0_hasModule) := ab_met (by decide) pn_RX0 rfl (bj_X0_hasModule l) bd_X0_hasModule ab_hcm ab_xk bz_X0_hasModule
theorem ba_X0_hasHatch : ec_al [(454, Cond.code yX0_hasHatch cX0_hasHatch 2 (some .boolean)), (61, Cond.initialized yX0_hasHatch.cls), (452, Cond.instanceMethod yX0_hasHatch), (453, Cond.selects yX0_hasHatch.cls yX0_hasHatch yX0_hasHatch)] := ec_alk (by decide +kernel)
theorem bw_X0_hasHatch : ec_cw yX0_hasHatch cX0_hasHatch 2 (some .boolean) := ⟨ba_X0_hasHatch.1, ba_X0_hasHatch.2.1, nc_RX0⟩
theorem bv_X0_hasHatch : Cond.instanceMethod yX0_hasHatch ∈ ec_tb ∧ Cond.selects yX0_hasHatch.cls yX0_hasHatch yX0_hasHatch ∈ ec_tb := ⟨ba_X0_hasHatch.2.2.1, ba_X0_hasHatch.2.2.2.1⟩
theorem bp_X0_hasHatch : (parseMethodDescriptor yX0_hasHatch.desc).map (fun d => d.parameters.length) = some 1 := by decide +kernel
theorem bj_X0_hasHatch (l : Launch) : ex_ok l 0 0 bx_X0_hasHatch := ec_okp fo_X0 co_X0 so_X0 (ec_okn)
theorem bm_X0_hasHatch (l : Launch) : ex_Met l yX0_hasHatch cX0_hasHatch 2 (some .boolean) 0 0 (ab_sp ab_hd bc_X0_hasHatch) := ab_met (by decide) pn_RX0 rfl (bj_X0_hasHatch l) bd_X0_hasHatch ab_hcm ab_xk bz_X0_hasHatch
theorem ba_X0_addModule : ec_al [(422, Cond.code yX0_addModule cX0_addModule 1 (some .int)), (61, Cond.initialized yX0_addModule.cls), (420, Cond.instanceMethod yX0_addModule), (421, Cond.selects yX0_addModule.cls yX0_addModule yX0_addModule)] := ec_alk (by decide +kernel)
theorem bw_X0_addModule : ec_cw yX0_addModule cX0_addModule 1 (some .int) := ⟨ba_X0_addModule.1, ba_X0_addModule.2.1, nc_RX0⟩
theorem bv_X0_addModule : Cond.instanceMethod yX0_addModule ∈ ec_tb ∧ Cond.selects yX0_addModule.cls yX0_addModule yX0_addModule ∈ ec_tb := ⟨ba_X0_addModule.2.2.1, ba_X0_addModule.2.2.2.1⟩
theorem bp_X0_addModule : (parseMethodDescriptor yX0_addModule.desc).map (fun d => d.parameters.length) = some 0 := by decide +kernel
theorem bj_X0_addModule (l : Launch) : ex_ok l 0 0 bx_X0_addModule := ec_okp fo_X0 co_X0 so_X0 (ec_okn)
theorem bm_X0_addModule (l : Launch) : ex_Met l yX0_addModule cX0_addModule 1 (some .int) 0 0 (ab_sp ab_hd bc_X0_addModule) := ab_met (by decide) pn_RX0 rfl (bj_X0_addModule l) bd_X0_addModule ab_hcm ab_xk bz_X0_addModule
theorem ba_X0_addHatch : ec_al [(437, Cond.code yX0_addHatch cX0_addHatch 3 (some .int)), (61, Cond.initialized yX0_addHatch.cls), (435, Cond.instanceMethod yX0_addHatch), (436, Cond.selects yX0_addHatch.cls yX0_addHatch yX0_addHatch), (438, Cond.methodLink RX0 47 yX0_hasModule)] := ec_alk (by decide +kernel)
theorem bw_X0_addHatch : ec_cw yX0_addHatch cX0_addHatch 3 (some .int) := ⟨ba_X0_addHatch.1, ba_X0_addHatch.2.1, nc_RX0⟩
theorem bv_X0_addHatch : Cond.instanceMethod yX0_addHatch ∈ ec_tb ∧ Cond.selects yX0_addHatch.cls yX0_addHatch yX0_addHatch ∈ ec_tb := ⟨ba_X0_addHatch.2.2.1, ba_X0_addHatch.2.2.2.1⟩
theorem bp_X0_addHatch : (parseMethodDescriptor yX0_addHatch.desc).map (fun d => d.parameters.length) = some 2 := by decide +kernel
theorem bk_X0_addHatch (l : Launch) : ∀ (ix n : Nat) (rc : Option Nat) (sp : ex_S), (be_X0_addHatch ix).map (fun q => (q.1, q.2.1, ab_sp ab_hd q.2.2)) = some (n, rc, sp) → ex_cok l RX0 1 21 ix n rc sp := by
  intro ix n rc sp h
  obtain ⟨l0, h2, rfl⟩ := ab_dmk h
  clear h
  unfold be_X0_addHatch at h2
  split at h2
  · cases h2; exact ec_cV (bm_X0_hasModule l) bw_X0_hasModule bv_X0_hasModule (by decide) (by decide) (Or.inl ba_X0_addHatch.2.2.2.2.1) (T := TX0) (N := 8) rfl (by decide) bp_X0_hasModule
  · cases h2
theorem bj_X0_addHatch (l : Launch) : ex_ok l 1 21 bx_X0_addHatch := ec_okp fo_X0 co_X0 so_X0 (bk_X0_addHatch l)
theorem bm_X0_addHatch (l : Launch) : ex_Met l yX0_addHatch cX0_addHatch 3 (some .int) 1 21 (ab_sp ab_hd bc_X0_addHatch) := ab_met (by decide) pn_RX0 rfl (bj_X0_addHatch l) bd_X0_addHatch ab_hcm ab_xk bz_X0_addHatch
theorem ba_X9_isSwitch : ec_al [(457, Cond.code yX9_isSwitch cX9_isSwitch 1 (some .boolean)), (58, Cond.initialized yX9_isSwitch.cls), (456, Cond.static yX9_isSwitch)] := ec_alk (by decide +kernel)
theorem bw_X9_isSwitch : ec_cw yX9_isSwitch cX9_isSwitch 1 (some .boolean) := ⟨ba_X9_isSwitch.1, ba_X9_isSwitch.2.1, nc_RX9⟩
theorem bv_X9_isSwitch : Cond.static yX9_isSwitch ∈ ec_tb := ba_X9_isSwitch.2.2.1
theorem bp_X9_isSwitch : (parseMethodDescriptor yX9_isSwitch.desc).map (fun d => d.parameters.length) = some 1 := by decide +kernel
theorem bj_X9_isSwitch (l : Launch) : ex_ok l 0 0 bx_X9_isSwitch := ec_okp fo_X9 co_X9 so_X9 (ec_okn)
theorem bm_X9_isSwitch (l : Launch) : ex_Met l yX9_isSwitch cX9_isSwitch 1 (some .boolean) 0 0 (ab_sp ab_hd bc_X9_isSwitch) := ab_met (by decide) pn_RX9 rfl (bj_X9_isSwitch l) bd_X9_isSwitch ab_hcm ab_xk bz_X9_isSwitch
theorem ba_X9_one : ec_al [(460, Cond.code yX9_one cX9_one 1 (some .int)), (58, Cond.initialized yX9_one.cls), (459, Cond.static yX9_one)] := ec_alk (by decide +kernel)
theorem bw_X9_one : ec_cw yX9_one cX9_one 1 (some .int) := ⟨ba_X9_one.1, ba_X9_one.2.1, nc_RX9⟩
theorem bv_X9_one : Cond.static yX9_one ∈ ec_tb := ba_X9_one.2.2.1
theorem bp_X9_one : (parseMethodDescriptor yX9_one.desc).map (fun d => d.parameters.length) = some 1 := by decide +kernel
theorem bj_X9_one (l : Launch) : ex_ok l 0 0 bx_X9_one := ec_okp fo_X9 co_X9 so_X9 (ec_okn)
theorem bm_X9_one (l : Launch) : ex_Met l yX9_one cX9_one 1 (some .int) 0 0 (ab_sp ab_hd bc_X9_one) := ab_met (by decide) pn_RX9 rfl (bj_X9_one l) bd_X9_one ab_hcm ab_xk bz_X9_one
theorem ba_X0_setOpen : ec_al [(450, Cond.code yX0_setOpen cX0_setOpen 4 (some .int)), (61, Cond.initialized yX0_setOpen.cls), (448, Cond.instanceMethod yX0_setOpen), (449, Cond.selects yX0_setOpen.cls yX0_setOpen yX0_setOpen), (451, Cond.methodLink RX0 52 yX0_hasHatch)] := ec_alk (by decide +kernel)
theorem bw_X0_setOpen : ec_cw yX0_setOpen cX0_setOpen 4 (some .int) := ⟨ba_X0_setOpen.1, ba_X0_setOpen.2.1, nc_RX0⟩
theorem bv_X0_setOpen : Cond.instanceMethod yX0_setOpen ∈ ec_tb ∧ Cond.selects yX0_setOpen.cls yX0_setOpen yX0_setOpen ∈ ec_tb := ⟨ba_X0_setOpen.2.2.1, ba_X0_setOpen.2.2.2.1⟩
theorem bp_X0_setOpen : (parseMethodDescriptor yX0_setOpen.desc).map (fun d => d.parameters.length) = some 2 := by decide +kernel
theorem bk_X0_setOpen (l : Launch) : ∀ (ix n : Nat) (rc : Option Nat) (sp : ex_S), (be_X0_setOpen ix).map (fun q => (q.1, q.2.1, ab_sp ab_hd q.2.2)) = some (n, rc, sp) → ex_cok l RX0 1 21 ix n rc sp := by
  intro ix n rc sp h
  obtain ⟨l0, h2, rfl⟩ := ab_dmk h
  clear h
  unfold be_X0_setOpen at h2
  split at h2
  · cases h2; exact ec_cV (bm_X0_hasHatch l) bw_X0_hasHatch bv_X0_hasHatch (by decide) (by decide) (Or.inl ba_X0_setOpen.2.2.2.2.1) (T := TX0) (N := 8) rfl (by decide) bp_X0_hasHatch
  · cases h2; exact ec_cS (bm_X9_isSwitch l) bw_X9_isSwitch bv_X9_isSwitch (by decide) (by decide) (Or.inr ⟨"TinStation", List.mem_of_getElem? (i := 2) rfl⟩) bp_X9_isSwitch
  · cases h2; exact ec_cS (bm_X9_one l) bw_X9_one bv_X9_one (by decide) (by decide) (Or.inr ⟨"TinStation", List.mem_of_getElem? (i := 3) rfl⟩) bp_X9_one
  · cases h2
theorem bj_X0_setOpen (l : Launch) : ex_ok l 1 21 bx_X0_setOpen := ec_okp fo_X0 co_X0 so_X0 (bk_X0_setOpen l)
theorem bm_X0_setOpen (l : Launch) : ex_Met l yX0_setOpen cX0_setOpen 4 (some .int) 1 21 (ab_sp ab_hd bc_X0_setOpen) := ab_met (by decide) pn_RX0 rfl (bj_X0_setOpen l) bd_X0_setOpen ab_hcm ab_xk bz_X0_setOpen
theorem ba_X0_setHeld : ec_al [(468, Cond.code yX0_setHeld cX0_setHeld 5 (some .int)), (61, Cond.initialized yX0_setHeld.cls), (466, Cond.instanceMethod yX0_setHeld), (467, Cond.selects yX0_setHeld.cls yX0_setHeld yX0_setHeld), (438, Cond.methodLink RX0 47 yX0_hasModule), (469, Cond.methodLink RX0 62 yX0_isSort)] := ec_alk (by decide +kernel)
theorem bw_X0_setHeld : ec_cw yX0_setHeld cX0_setHeld 5 (some .int) := ⟨ba_X0_setHeld.1, ba_X0_setHeld.2.1, nc_RX0⟩
theorem bv_X0_setHeld : Cond.instanceMethod yX0_setHeld ∈ ec_tb ∧ Cond.selects yX0_setHeld.cls yX0_setHeld yX0_setHeld ∈ ec_tb := ⟨ba_X0_setHeld.2.2.1, ba_X0_setHeld.2.2.2.1⟩
theorem bp_X0_setHeld : (parseMethodDescriptor yX0_setHeld.desc).map (fun d => d.parameters.length) = some 3 := by decide +kernel
theorem bk_X0_setHeld (l : Launch) : ∀ (ix n : Nat) (rc : Option Nat) (sp : ex_S), (be_X0_setHeld ix).map (fun q => (q.1, q.2.1, ab_sp ab_hd q.2.2)) = some (n, rc, sp) → ex_cok l RX0 1 21 ix n rc sp := by
  intro ix n rc sp h
  obtain ⟨l0, h2, rfl⟩ := ab_dmk h
  clear h
  unfold be_X0_setHeld at h2
  split at h2
  · cases h2; exact ec_cV (bm_X0_hasModule l) bw_X0_hasModule bv_X0_hasModule (by decide) (by decide) (Or.inl ba_X0_setHeld.2.2.2.2.1) (T := TX0) (N := 8) rfl (by decide) bp_X0_hasModule
  · cases h2; exact ec_cS (bm_X0_isSort l) bw_X0_isSort bv_X0_isSort (by decide) (by decide) (Or.inl ba_X0_setHeld.2.2.2.2.2.1) bp_X0_isSort
  · cases h2
theorem bj_X0_setHeld (l : Launch) : ex_ok l 1 21 bx_X0_setHeld := ec_okp fo_X0 co_X0 so_X0 (bk_X0_setHeld l)
theorem bm_X0_setHeld (l : Launch) : ex_Met l yX0_setHeld cX0_setHeld 5 (some .int) 1 21 (ab_sp ab_hd bc_X0_setHeld) := ab_met (by decide) pn_RX0 rfl (bj_X0_setHeld l) bd_X0_setHeld ab_hcm ab_xk bz_X0_setHeld
theorem ba_X0_setLeak : ec_al [(480, Cond.code yX0_setLeak cX0_setLeak 4 (some .int)), (61, Cond.initialized yX0_setLeak.cls), (478, Cond.instanceMethod yX0_setLeak), (479, Cond.selects yX0_setLeak.cls yX0_setLeak yX0_setLeak), (438, Cond.methodLink RX0 47 yX0_hasModule)] := ec_alk (by decide +kernel)
theorem bw_X0_setLeak : ec_cw yX0_setLeak cX0_setLeak 4 (some .int) := ⟨ba_X0_setLeak.1, ba_X0_setLeak.2.1, nc_RX0⟩
theorem bv_X0_setLeak : Cond.instanceMethod yX0_setLeak ∈ ec_tb ∧ Cond.selects yX0_setLeak.cls yX0_setLeak yX0_setLeak ∈ ec_tb := ⟨ba_X0_setLeak.2.2.1, ba_X0_setLeak.2.2.2.1⟩
theorem bp_X0_setLeak : (parseMethodDescriptor yX0_setLeak.desc).map (fun d => d.parameters.length) = some 2 := by decide +kernel
theorem bk_X0_setLeak (l : Launch) : ∀ (ix n : Nat) (rc : Option Nat) (sp : ex_S), (be_X0_setLeak ix).map (fun q => (q.1, q.2.1, ab_sp ab_hd q.2.2)) = some (n, rc, sp) → ex_cok l RX0 1 21 ix n rc sp := by
  intro ix n rc sp h
  obtain ⟨l0, h2, rfl⟩ := ab_dmk h
  clear h
  unfold be_X0_setLeak at h2
  split at h2
  · cases h2; exact ec_cV (bm_X0_hasModule l) bw_X0_hasModule bv_X0_hasModule (by decide) (by decide) (Or.inl ba_X0_setLeak.2.2.2.2.1) (T := TX0) (N := 8) rfl (by decide) bp_X0_hasModule
  · cases h2
theorem bj_X0_setLeak (l : Launch) : ex_ok l 1 21 bx_X0_setLeak := ec_okp fo_X0 co_X0 so_X0 (bk_X0_setLeak l)
theorem bm_X0_setLeak (l : Launch) : ex_Met l yX0_setLeak cX0_setLeak 4 (some .int) 1 21 (ab_sp ab_hd bc_X0_setLeak) := ab_met (by decide) pn_RX0 rfl (bj_X0_setLeak l) bd_X0_setLeak ab_hcm ab_xk bz_X0_setLeak
theorem ba_X0_setStored : ec_al [(488, Cond.code yX0_setStored cX0_setStored 4 (some .int)), (61, Cond.initialized yX0_setStored.cls), (486, Cond.instanceMethod yX0_setStored), (487, Cond.selects yX0_setStored.cls yX0_setStored yX0_setStored)] := ec_alk (by decide +kernel)
theorem bw_X0_setStored : ec_cw yX0_setStored cX0_setStored 4 (some .int) := ⟨ba_X0_setStored.1, ba_X0_setStored.2.1, nc_RX0⟩
theorem bv_X0_setStored : Cond.instanceMethod yX0_setStored ∈ ec_tb ∧ Cond.selects yX0_setStored.cls yX0_setStored yX0_setStored ∈ ec_tb := ⟨ba_X0_setStored.2.2.1, ba_X0_setStored.2.2.2.1⟩
theorem bp_X0_setStored : (parseMethodDescriptor yX0_setStored.desc).map (fun d => d.parameters.length) = some 2 := by decide +kernel
theorem bj_X0_setStored (l : Launch) : ex_ok l 0 0 bx_X0_setStored := ec_okp fo_X0 co_X0 so_X0 (ec_okn)
theorem bm_X0_setStored (l : Launch) : ex_Met l yX0_setStored cX0_setStored 4 (some .int) 0 0 (ab_sp ab_hd bc_X0_setStored) := ab_met (by decide) pn_RX0 rfl (bj_X0_setStored l) bd_X0_setStored ab_hcm ab_xk bz_X0_setStored
theorem ba_X0_allGrams : ec_al [(497, Cond.code yX0_allGrams cX0_allGrams 4 (some .int)), (61, Cond.initialized yX0_allGrams.cls), (495, Cond.instanceMethod yX0_allGrams), (496, Cond.selects yX0_allGrams.cls yX0_allGrams yX0_allGrams)] := ec_alk (by decide +kernel)
theorem bw_X0_allGrams : ec_cw yX0_allGrams cX0_allGrams 4 (some .int) := ⟨ba_X0_allGrams.1, ba_X0_allGrams.2.1, nc_RX0⟩
theorem bv_X0_allGrams : Cond.instanceMethod yX0_allGrams ∈ ec_tb ∧ Cond.selects yX0_allGrams.cls yX0_allGrams yX0_allGrams ∈ ec_tb := ⟨ba_X0_allGrams.2.2.1, ba_X0_allGrams.2.2.2.1⟩
theorem bp_X0_allGrams : (parseMethodDescriptor yX0_allGrams.desc).map (fun d => d.parameters.length) = some 0 := by decide +kernel
theorem bj_X0_allGrams (l : Launch) : ex_ok l 0 0 bx_X0_allGrams := ec_okp fo_X0 co_X0 so_X0 (ec_okn)
theorem bm_X0_allGrams (l : Launch) : ex_Met l yX0_allGrams cX0_allGrams 4 (some .int) 0 0 (ab_sp ab_hd bc_X0_allGrams) := ab_met (by decide) pn_RX0 rfl (bj_X0_allGrams l) bd_X0_allGrams ab_hcm ab_xk bz_X0_allGrams
theorem ba_X0_amount : ec_al [(734, Cond.code yX0_amount cX0_amount 3 (some .int)), (61, Cond.initialized yX0_amount.cls), (732, Cond.instanceMethod yX0_amount), (733, Cond.selects yX0_amount.cls yX0_amount yX0_amount)] := ec_alk (by decide +kernel)
theorem bw_X0_amount : ec_cw yX0_amount cX0_amount 3 (some .int) := ⟨ba_X0_amount.1, ba_X0_amount.2.1, nc_RX0⟩
theorem bv_X0_amount : Cond.instanceMethod yX0_amount ∈ ec_tb ∧ Cond.selects yX0_amount.cls yX0_amount yX0_amount ∈ ec_tb := ⟨ba_X0_amount.2.2.1, ba_X0_amount.2.2.2.1⟩
theorem bp_X0_amount : (parseMethodDescriptor yX0_amount.desc).map (fun d => d.parameters.length) = some 2 := by decide +kernel
theorem bj_X0_amount (l : Launch) : ex_ok l 0 0 bx_X0_amount := ec_okp fo_X0 co_X0 so_X0 (ec_okn)
theorem bm_X0_amount (l : Launch) : ex_Met l yX0_amount cX0_amount 3 (some .int) 0 0 (ab_sp ab_hd bc_X0_amount) := ab_met (by decide) pn_RX0 rfl (bj_X0_amount l) bd_X0_amount ab_hcm ab_xk bz_X0_amount
theorem ba_X0_give : ec_al [(793, Cond.code yX0_give cX0_give 4 none), (61, Cond.initialized yX0_give.cls), (791, Cond.instanceMethod yX0_give), (792, Cond.selects yX0_give.cls yX0_give yX0_give)] := ec_alk (by decide +kernel)
theorem bw_X0_give : ec_cw yX0_give cX0_give 4 none := ⟨ba_X0_give.1, ba_X0_give.2.1, nc_RX0⟩
theorem bv_X0_give : Cond.instanceMethod yX0_give ∈ ec_tb ∧ Cond.selects yX0_give.cls yX0_give yX0_give ∈ ec_tb := ⟨ba_X0_give.2.2.1, ba_X0_give.2.2.2.1⟩
theorem bp_X0_give : (parseMethodDescriptor yX0_give.desc).map (fun d => d.parameters.length) = some 3 := by decide +kernel
theorem bj_X0_give (l : Launch) : ex_ok l 0 0 bx_X0_give := ec_okp fo_X0 co_X0 so_X0 (ec_okn)
theorem bm_X0_give (l : Launch) : ex_Met l yX0_give cX0_give 4 none 0 0 (ab_sp ab_hd bc_X0_give) := ab_met (by decide) pn_RX0 rfl (bj_X0_give l) bd_X0_give ab_hcm ab_xk bz_X0_give
theorem ba_X0_take : ec_al [(776, Cond.code yX0_take cX0_take 5 (some .int)), (61, Cond.initialized yX0_take.cls), (774, Cond.instanceMethod yX0_take), (775, Cond.selects yX0_take.cls yX0_take yX0_take)] := ec_alk (by decide +kernel)
theorem bw_X0_take : ec_cw yX0_take cX0_take 5 (some .int) := ⟨ba_X0_take.1, ba_X0_take.2.1, nc_RX0⟩
theorem bv_X0_take : Cond.instanceMethod yX0_take ∈ ec_tb ∧ Cond.selects yX0_take.cls yX0_take yX0_take ∈ ec_tb := ⟨ba_X0_take.2.2.1, ba_X0_take.2.2.2.1⟩
theorem bp_X0_take : (parseMethodDescriptor yX0_take.desc).map (fun d => d.parameters.length) = some 3 := by decide +kernel
theorem bj_X0_take (l : Launch) : ex_ok l 1 21 bx_X0_take := ⟨ec_fok fo_X0, ec_cok co_X0, so_X0, ec_okn, am_X0 (by decide) (by decide), ax_X0, ao_X0, fun _ _ h => (by cases h)⟩
theorem bm_X0_take (l : Launch) : ex_Met l yX0_take cX0_take 5 (some .int) 1 21 (ab_sp ab_hd bc_X0_take) := ab_met (by decide) pn_RX0 rfl (bj_X0_take l) bd_X0_take ab_hcm ab_xk bz_X0_take
theorem ba_X0_fill : ec_al [(781, Cond.code yX0_fill cX0_fill 3 none), (61, Cond.initialized yX0_fill.cls), (779, Cond.instanceMethod yX0_fill), (780, Cond.selects yX0_fill.cls yX0_fill yX0_fill)] := ec_alk (by decide +kernel)
theorem bw_X0_fill : ec_cw yX0_fill cX0_fill 3 none := ⟨ba_X0_fill.1, ba_X0_fill.2.1, nc_RX0⟩
theorem bv_X0_fill : Cond.instanceMethod yX0_fill ∈ ec_tb ∧ Cond.selects yX0_fill.cls yX0_fill yX0_fill ∈ ec_tb := ⟨ba_X0_fill.2.2.1, ba_X0_fill.2.2.2.1⟩
theorem bp_X0_fill : (parseMethodDescriptor yX0_fill.desc).map (fun d => d.parameters.length) = some 2 := by decide +kernel
theorem bj_X0_fill (l : Launch) : ex_ok l 0 0 bx_X0_fill := ec_okp fo_X0 co_X0 so_X0 (ec_okn)
theorem bm_X0_fill (l : Launch) : ex_Met l yX0_fill cX0_fill 3 none 0 0 (ab_sp ab_hd bc_X0_fill) := ab_met (by decide) pn_RX0 rfl (bj_X0_fill l) bd_X0_fill ab_hcm ab_xk bz_X0_fill
theorem ba_X0_draw : ec_al [(789, Cond.code yX0_draw cX0_draw 4 (some .int)), (61, Cond.initialized yX0_draw.cls), (787, Cond.instanceMethod yX0_draw), (788, Cond.selects yX0_draw.cls yX0_draw yX0_draw)] := ec_alk (by decide +kernel)
theorem bw_X0_draw : ec_cw yX0_draw cX0_draw 4 (some .int) := ⟨ba_X0_draw.1, ba_X0_draw.2.1, nc_RX0⟩
theorem bv_X0_draw : Cond.instanceMethod yX0_draw ∈ ec_tb ∧ Cond.selects yX0_draw.cls yX0_draw yX0_draw ∈ ec_tb := ⟨ba_X0_draw.2.2.1, ba_X0_draw.2.2.2.1⟩
theorem bp_X0_draw : (parseMethodDescriptor yX0_draw.desc).map (fun d => d.parameters.length) = some 2 := by decide +kernel
theorem bj_X0_draw (l : Launch) : ex_ok l 1 21 bx_X0_draw := ⟨ec_fok fo_X0, ec_cok co_X0, so_X0, ec_okn, am_X0 (by decide) (by decide), ax_X0, ao_X0, fun _ _ h => (by cases h)⟩
theorem bm_X0_draw (l : Launch) : ex_Met l yX0_draw cX0_draw 4 (some .int) 1 21 (ab_sp ab_hd bc_X0_draw) := ab_met (by decide) pn_RX0 rfl (bj_X0_draw l) bd_X0_draw ab_hcm ab_xk bz_X0_draw
theorem ba_X0_openBetween : ec_al [(530, Cond.code yX0_openBetween cX0_openBetween 5 (some .boolean)), (61, Cond.initialized yX0_openBetween.cls), (528, Cond.instanceMethod yX0_openBetween), (529, Cond.selects yX0_openBetween.cls yX0_openBetween yX0_openBetween)] := ec_alk (by decide +kernel)
theorem bw_X0_openBetween : ec_cw yX0_openBetween cX0_openBetween 5 (some .boolean) := ⟨ba_X0_openBetween.1, ba_X0_openBetween.2.1, nc_RX0⟩
theorem bv_X0_openBetween : Cond.instanceMethod yX0_openBetween ∈ ec_tb ∧ Cond.selects yX0_openBetween.cls yX0_openBetween yX0_openBetween ∈ ec_tb := ⟨ba_X0_openBetween.2.2.1, ba_X0_openBetween.2.2.2.1⟩
theorem bp_X0_openBetween : (parseMethodDescriptor yX0_openBetween.desc).map (fun d => d.parameters.length) = some 2 := by decide +kernel
theorem bj_X0_openBetween (l : Launch) : ex_ok l 0 0 bx_X0_openBetween := ec_okp fo_X0 co_X0 so_X0 (ec_okn)
theorem bm_X0_openBetween (l : Launch) : ex_Met l yX0_openBetween cX0_openBetween 5 (some .boolean) 0 0 (ab_sp ab_hd bc_X0_openBetween) := ab_met (by decide) pn_RX0 rfl (bj_X0_openBetween l) bd_X0_openBetween ab_hcm ab_xk bz_X0_openBetween
theorem ba_X0_leakOut : ec_al [(822, Cond.code yX0_leakOut cX0_leakOut 4 none), (61, Cond.initialized yX0_leakOut.cls), (820, Cond.instanceMethod yX0_leakOut), (821, Cond.selects yX0_leakOut.cls yX0_leakOut yX0_leakOut), (823, Cond.methodLink RX0 73 yX0_amount), (824, Cond.methodLink RX0 76 yX0_give), (825, Cond.methodLink RX0 80 yX0_fill)] := ec_alk (by decide +kernel)
theorem bw_X0_leakOut : ec_cw yX0_leakOut cX0_leakOut 4 none := ⟨ba_X0_leakOut.1, ba_X0_leakOut.2.1, nc_RX0⟩
theorem bv_X0_leakOut : Cond.instanceMethod yX0_leakOut ∈ ec_tb ∧ Cond.selects yX0_leakOut.cls yX0_leakOut yX0_leakOut ∈ ec_tb := ⟨ba_X0_leakOut.2.2.1, ba_X0_leakOut.2.2.2.1⟩
theorem bp_X0_leakOut : (parseMethodDescriptor yX0_leakOut.desc).map (fun d => d.parameters.length) = some 0 := by decide +kernel
theorem bk_X0_leakOut (l : Launch) : ∀ (ix n : Nat) (rc : Option Nat) (sp : ex_S), (be_X0_leakOut ix).map (fun q => (q.1, q.2.1, ab_sp ab_hd q.2.2)) = some (n, rc, sp) → ex_cok l RX0 1 23 ix n rc sp := by
  intro ix n rc sp h
  obtain ⟨l0, h2, rfl⟩ := ab_dmk h
  clear h
  unfold be_X0_leakOut at h2
  split at h2
  · cases h2; exact ec_cV (bm_X0_amount l) bw_X0_amount bv_X0_amount (by decide) (by decide) (Or.inl ba_X0_leakOut.2.2.2.2.1) (T := TX0) (N := 8) rfl (by decide) bp_X0_amount
  · cases h2; exact ec_cV (bm_X0_give l) bw_X0_give bv_X0_give (by decide) (by decide) (Or.inl ba_X0_leakOut.2.2.2.2.2.1) (T := TX0) (N := 8) rfl (by decide) bp_X0_give
  · cases h2; exact ec_cV (bm_X0_fill l) bw_X0_fill bv_X0_fill (by decide) (by decide) (Or.inl ba_X0_leakOut.2.2.2.2.2.2.1) (T := TX0) (N := 8) rfl (by decide) bp_X0_fill
  · cases h2
theorem bj_X0_leakOut (l : Launch) : ex_ok l 1 23 bx_X0_leakOut := ec_okp fo_X0 co_X0 so_X0 (bk_X0_leakOut l)
theorem bm_X0_leakOut (l : Launch) : ex_Met l yX0_leakOut cX0_leakOut 4 none 1 23 (ab_sp ab_hd bc_X0_leakOut) := ab_met (by decide) pn_RX0 rfl (bj_X0_leakOut l) bd_X0_leakOut ab_hcm ab_xk bz_X0_leakOut
theorem ba_X0_mix : ec_al [(833, Cond.code yX0_mix cX0_mix 5 none), (61, Cond.initialized yX0_mix.cls), (832, Cond.instanceMethod yX0_mix), (16, Cond.selects yX0_mix.cls yX0_mix yX0_mix), (823, Cond.methodLink RX0 73 yX0_amount), (824, Cond.methodLink RX0 76 yX0_give)] := ec_alk (by decide +kernel)
theorem bw_X0_mix : ec_cw yX0_mix cX0_mix 5 none := ⟨ba_X0_mix.1, ba_X0_mix.2.1, nc_RX0⟩
theorem bv_X0_mix : Cond.instanceMethod yX0_mix ∈ ec_tb ∧ Cond.selects yX0_mix.cls yX0_mix yX0_mix ∈ ec_tb := ⟨ba_X0_mix.2.2.1, ba_X0_mix.2.2.2.1⟩
theorem bp_X0_mix : (parseMethodDescriptor yX0_mix.desc).map (fun d => d.parameters.length) = some 2 := by decide +kernel
theorem bk_X0_mix (l : Launch) : ∀ (ix n : Nat) (rc : Option Nat) (sp : ex_S), (be_X0_mix ix).map (fun q => (q.1, q.2.1, ab_sp ab_hd q.2.2)) = some (n, rc, sp) → ex_cok l RX0 1 23 ix n rc sp := by
  intro ix n rc sp h
  obtain ⟨l0, h2, rfl⟩ := ab_dmk h
  clear h
  unfold be_X0_mix at h2
  split at h2
  · cases h2; exact ec_cV (bm_X0_amount l) bw_X0_amount bv_X0_amount (by decide) (by decide) (Or.inl ba_X0_mix.2.2.2.2.1) (T := TX0) (N := 8) rfl (by decide) bp_X0_amount
  · cases h2; exact ec_cV (bm_X0_give l) bw_X0_give bv_X0_give (by decide) (by decide) (Or.inl ba_X0_mix.2.2.2.2.2.1) (T := TX0) (N := 8) rfl (by decide) bp_X0_give
  · cases h2
theorem bj_X0_mix (l : Launch) : ex_ok l 1 23 bx_X0_mix := ec_okp fo_X0 co_X0 so_X0 (bk_X0_mix l)
theorem bm_X0_mix (l : Launch) : ex_Met l yX0_mix cX0_mix 5 none 1 23 (ab_sp ab_hd bc_X0_mix) := ab_met (by decide) pn_RX0 rfl (bj_X0_mix l) bd_X0_mix ab_hcm ab_xk bz_X0_mix
theorem ba_X0_mixThroughHatches : ec_al [(829, Cond.code yX0_mixThroughHatches cX0_mixThroughHatches 2 none), (61, Cond.initialized yX0_mixThroughHatches.cls), (827, Cond.instanceMethod yX0_mixThroughHatches), (828, Cond.selects yX0_mixThroughHatches.cls yX0_mixThroughHatches yX0_mixThroughHatches), (830, Cond.methodLink RX0 84 yX0_mix)] := ec_alk (by decide +kernel)
theorem bw_X0_mixThroughHatches : ec_cw yX0_mixThroughHatches cX0_mixThroughHatches 2 none := ⟨ba_X0_mixThroughHatches.1, ba_X0_mixThroughHatches.2.1, nc_RX0⟩
theorem bv_X0_mixThroughHatches : Cond.instanceMethod yX0_mixThroughHatches ∈ ec_tb ∧ Cond.selects yX0_mixThroughHatches.cls yX0_mixThroughHatches yX0_mixThroughHatches ∈ ec_tb := ⟨ba_X0_mixThroughHatches.2.2.1, ba_X0_mixThroughHatches.2.2.2.1⟩
theorem bp_X0_mixThroughHatches : (parseMethodDescriptor yX0_mixThroughHatches.desc).map (fun d => d.parameters.length) = some 0 := by decide +kernel
theorem bk_X0_mixThroughHatches (l : Launch) : ∀ (ix n : Nat) (rc : Option Nat) (sp : ex_S), (be_X0_mixThroughHatches ix).map (fun q => (q.1, q.2.1, ab_sp ab_hd q.2.2)) = some (n, rc, sp) → ex_cok l RX0 2 47 ix n rc sp := by
  intro ix n rc sp h
  obtain ⟨l0, h2, rfl⟩ := ab_dmk h
  clear h
  unfold be_X0_mixThroughHatches at h2
  split at h2
  · cases h2; exact ec_cV (bm_X0_mix l) bw_X0_mix bv_X0_mix (by decide) (by decide) (Or.inl ba_X0_mixThroughHatches.2.2.2.2.1) (T := TX0) (N := 8) rfl (by decide) bp_X0_mix
  · cases h2
theorem bj_X0_mixThroughHatches (l : Launch) : ex_ok l 2 47 bx_X0_mixThroughHatches := ec_okp fo_X0 co_X0 so_X0 (bk_X0_mixThroughHatches l)
theorem bm_X0_mixThroughHatches (l : Launch) : ex_Met l yX0_mixThroughHatches cX0_mixThroughHatches 2 none 2 47 (ab_sp ab_hd bc_X0_mixThroughHatches) := ab_met (by decide) pn_RX0 rfl (bj_X0_mixThroughHatches l) bd_X0_mixThroughHatches ab_hcm ab_xk bz_X0_mixThroughHatches
theorem ba_X1_becomeLike : ec_al [(896, Cond.code yX1_becomeLike cX1_becomeLike 2 none), (64, Cond.initialized yX1_becomeLike.cls), (894, Cond.instanceMethod yX1_becomeLike), (895, Cond.selects yX1_becomeLike.cls yX1_becomeLike yX1_becomeLike)] := ec_alk (by decide +kernel)
theorem bw_X1_becomeLike : ec_cw yX1_becomeLike cX1_becomeLike 2 none := ⟨ba_X1_becomeLike.1, ba_X1_becomeLike.2.1, nc_RX1⟩
theorem bv_X1_becomeLike : Cond.instanceMethod yX1_becomeLike ∈ ec_tb ∧ Cond.selects yX1_becomeLike.cls yX1_becomeLike yX1_becomeLike ∈ ec_tb := ⟨ba_X1_becomeLike.2.2.1, ba_X1_becomeLike.2.2.2.1⟩
theorem bp_X1_becomeLike : (parseMethodDescriptor yX1_becomeLike.desc).map (fun d => d.parameters.length) = some 1 := by decide +kernel
theorem bj_X1_becomeLike (l : Launch) : ex_ok l 0 0 bx_X1_becomeLike := ec_okp fo_X1 co_X1 so_X1 (ec_okn)
theorem bm_X1_becomeLike (l : Launch) : ex_Met l yX1_becomeLike cX1_becomeLike 2 none 0 0 (ab_sp ab_hd bc_X1_becomeLike) := ab_met (by decide) pn_RX1 rfl (bj_X1_becomeLike l) bd_X1_becomeLike ab_hcm ab_xk bz_X1_becomeLike
theorem ba_X1_isBound : ec_al [(690, Cond.code yX1_isBound cX1_isBound 1 (some .boolean)), (64, Cond.initialized yX1_isBound.cls), (689, Cond.static yX1_isBound)] := ec_alk (by decide +kernel)
theorem bw_X1_isBound : ec_cw yX1_isBound cX1_isBound 1 (some .boolean) := ⟨ba_X1_isBound.1, ba_X1_isBound.2.1, nc_RX1⟩
theorem bv_X1_isBound : Cond.static yX1_isBound ∈ ec_tb := ba_X1_isBound.2.2.1
theorem bp_X1_isBound : (parseMethodDescriptor yX1_isBound.desc).map (fun d => d.parameters.length) = some 1 := by decide +kernel
theorem bj_X1_isBound (l : Launch) : ex_ok l 0 0 bx_X1_isBound := ec_okp fo_X1 co_X1 so_X1 (ec_okn)
theorem bm_X1_isBound (l : Launch) : ex_Met l yX1_isBound cX1_isBound 1 (some .boolean) 0 0 (ab_sp ab_hd bc_X1_isBound) := ab_met (by decide) pn_RX1 rfl (bj_X1_isBound l) bd_X1_isBound ab_hcm ab_xk bz_X1_isBound
theorem ba_X1_setAll : ec_al [(687, Cond.code yX1_setAll cX1_setAll 4 (some .int)), (64, Cond.initialized yX1_setAll.cls), (685, Cond.instanceMethod yX1_setAll), (686, Cond.selects yX1_setAll.cls yX1_setAll yX1_setAll), (688, Cond.methodLink RX1 31 yX1_isBound)] := ec_alk (by decide +kernel)
theorem bw_X1_setAll : ec_cw yX1_setAll cX1_setAll 4 (some .int) := ⟨ba_X1_setAll.1, ba_X1_setAll.2.1, nc_RX1⟩
theorem bv_X1_setAll : Cond.instanceMethod yX1_setAll ∈ ec_tb ∧ Cond.selects yX1_setAll.cls yX1_setAll yX1_setAll ∈ ec_tb := ⟨ba_X1_setAll.2.2.1, ba_X1_setAll.2.2.2.1⟩
theorem bp_X1_setAll : (parseMethodDescriptor yX1_setAll.desc).map (fun d => d.parameters.length) = some 3 := by decide +kernel
theorem bk_X1_setAll (l : Launch) : ∀ (ix n : Nat) (rc : Option Nat) (sp : ex_S), (be_X1_setAll ix).map (fun q => (q.1, q.2.1, ab_sp ab_hd q.2.2)) = some (n, rc, sp) → ex_cok l RX1 1 20 ix n rc sp := by
  intro ix n rc sp h
  obtain ⟨l0, h2, rfl⟩ := ab_dmk h
  clear h
  unfold be_X1_setAll at h2
  split at h2
  · cases h2; exact ec_cS (bm_X1_isBound l) bw_X1_isBound bv_X1_isBound (by decide) (by decide) (Or.inl ba_X1_setAll.2.2.2.2.1) bp_X1_isBound
  · cases h2
theorem bj_X1_setAll (l : Launch) : ex_ok l 1 20 bx_X1_setAll := ec_okp fo_X1 co_X1 so_X1 (bk_X1_setAll l)
theorem bm_X1_setAll (l : Launch) : ex_Met l yX1_setAll cX1_setAll 4 (some .int) 1 20 (ab_sp ab_hd bc_X1_setAll) := ab_met (by decide) pn_RX1 rfl (bj_X1_setAll l) bd_X1_setAll ab_hcm ab_xk bz_X1_setAll
theorem ba_X1_tellFirstBreak : ec_al [(858, Cond.code yX1_tellFirstBreak cX1_tellFirstBreak 2 (some .int)), (64, Cond.initialized yX1_tellFirstBreak.cls), (856, Cond.instanceMethod yX1_tellFirstBreak), (857, Cond.selects yX1_tellFirstBreak.cls yX1_tellFirstBreak yX1_tellFirstBreak)] := ec_alk (by decide +kernel)
theorem bw_X1_tellFirstBreak : ec_cw yX1_tellFirstBreak cX1_tellFirstBreak 2 (some .int) := ⟨ba_X1_tellFirstBreak.1, ba_X1_tellFirstBreak.2.1, nc_RX1⟩
theorem bv_X1_tellFirstBreak : Cond.instanceMethod yX1_tellFirstBreak ∈ ec_tb ∧ Cond.selects yX1_tellFirstBreak.cls yX1_tellFirstBreak yX1_tellFirstBreak ∈ ec_tb := ⟨ba_X1_tellFirstBreak.2.2.1, ba_X1_tellFirstBreak.2.2.2.1⟩
theorem bp_X1_tellFirstBreak : (parseMethodDescriptor yX1_tellFirstBreak.desc).map (fun d => d.parameters.length) = some 1 := by decide +kernel
theorem bj_X1_tellFirstBreak (l : Launch) : ex_ok l 0 0 bx_X1_tellFirstBreak := ec_okp fo_X1 co_X1 so_X1 (ec_okn)
theorem bm_X1_tellFirstBreak (l : Launch) : ex_Met l yX1_tellFirstBreak cX1_tellFirstBreak 2 (some .int) 0 0 (ab_sp ab_hd bc_X1_tellFirstBreak) := ab_met (by decide) pn_RX1 rfl (bj_X1_tellFirstBreak l) bd_X1_tellFirstBreak ab_hcm ab_xk bz_X1_tellFirstBreak
theorem ba_X3_anyoneIn : ec_al [(841, Cond.code yX3_anyoneIn cX3_anyoneIn 3 (some .boolean)), (62, Cond.initialized yX3_anyoneIn.cls), (839, Cond.instanceMethod yX3_anyoneIn), (840, Cond.selects yX3_anyoneIn.cls yX3_anyoneIn yX3_anyoneIn)] := ec_alk (by decide +kernel)
theorem bw_X3_anyoneIn : ec_cw yX3_anyoneIn cX3_anyoneIn 3 (some .boolean) := ⟨ba_X3_anyoneIn.1, ba_X3_anyoneIn.2.1, nc_RX3⟩
theorem bv_X3_anyoneIn : Cond.instanceMethod yX3_anyoneIn ∈ ec_tb ∧ Cond.selects yX3_anyoneIn.cls yX3_anyoneIn yX3_anyoneIn ∈ ec_tb := ⟨ba_X3_anyoneIn.2.2.1, ba_X3_anyoneIn.2.2.2.1⟩
theorem bp_X3_anyoneIn : (parseMethodDescriptor yX3_anyoneIn.desc).map (fun d => d.parameters.length) = some 1 := by decide +kernel
theorem bj_X3_anyoneIn (l : Launch) : ex_ok l 0 0 bx_X3_anyoneIn := ec_okp fo_X3 co_X3 so_X3 (ec_okn)
theorem bm_X3_anyoneIn (l : Launch) : ex_Met l yX3_anyoneIn cX3_anyoneIn 3 (some .boolean) 0 0 (ab_sp ab_hd bc_X3_anyoneIn) := ab_met (by decide) pn_RX3 rfl (bj_X3_anyoneIn l) bd_X3_anyoneIn ab_hcm ab_xk bz_X3_anyoneIn
theorem ba_X1_breaksIn : ec_al [(845, Cond.code yX1_breaksIn cX1_breaksIn 3 (some .boolean)), (64, Cond.initialized yX1_breaksIn.cls), (844, Cond.instanceMethod yX1_breaksIn), (17, Cond.selects yX1_breaksIn.cls yX1_breaksIn yX1_breaksIn), (846, Cond.methodLink RX1 56 yX0_amount)] := ec_alk (by decide +kernel)
theorem bw_X1_breaksIn : ec_cw yX1_breaksIn cX1_breaksIn 3 (some .boolean) := ⟨ba_X1_breaksIn.1, ba_X1_breaksIn.2.1, nc_RX1⟩
theorem bv_X1_breaksIn : Cond.instanceMethod yX1_breaksIn ∈ ec_tb ∧ Cond.selects yX1_breaksIn.cls yX1_breaksIn yX1_breaksIn ∈ ec_tb := ⟨ba_X1_breaksIn.2.2.1, ba_X1_breaksIn.2.2.2.1⟩
theorem bp_X1_breaksIn : (parseMethodDescriptor yX1_breaksIn.desc).map (fun d => d.parameters.length) = some 2 := by decide +kernel
theorem bk_X1_breaksIn (l : Launch) : ∀ (ix n : Nat) (rc : Option Nat) (sp : ex_S), (be_X1_breaksIn ix).map (fun q => (q.1, q.2.1, ab_sp ab_hd q.2.2)) = some (n, rc, sp) → ex_cok l RX1 1 22 ix n rc sp := by
  intro ix n rc sp h
  obtain ⟨l0, h2, rfl⟩ := ab_dmk h
  clear h
  unfold be_X1_breaksIn at h2
  split at h2
  · cases h2; exact ec_cV (bm_X0_amount l) bw_X0_amount bv_X0_amount (by decide) (by decide) (Or.inl ba_X1_breaksIn.2.2.2.2.1) (T := TX0) (N := 8) rfl (by decide) bp_X0_amount
  · cases h2
theorem bj_X1_breaksIn (l : Launch) : ex_ok l 1 22 bx_X1_breaksIn := ec_okp fo_X1 co_X1 so_X1 (bk_X1_breaksIn l)
theorem bm_X1_breaksIn (l : Launch) : ex_Met l yX1_breaksIn cX1_breaksIn 3 (some .boolean) 1 22 (ab_sp ab_hd bc_X1_breaksIn) := ab_met (by decide) pn_RX1 rfl (bj_X1_breaksIn l) bd_X1_breaksIn ab_hcm ab_xk bz_X1_breaksIn
theorem ba_X1_keepFirst : ec_al [(850, Cond.code yX1_keepFirst cX1_keepFirst 3 none), (64, Cond.initialized yX1_keepFirst.cls), (849, Cond.instanceMethod yX1_keepFirst), (18, Cond.selects yX1_keepFirst.cls yX1_keepFirst yX1_keepFirst)] := ec_alk (by decide +kernel)
theorem bw_X1_keepFirst : ec_cw yX1_keepFirst cX1_keepFirst 3 none := ⟨ba_X1_keepFirst.1, ba_X1_keepFirst.2.1, nc_RX1⟩
theorem bv_X1_keepFirst : Cond.instanceMethod yX1_keepFirst ∈ ec_tb ∧ Cond.selects yX1_keepFirst.cls yX1_keepFirst yX1_keepFirst ∈ ec_tb := ⟨ba_X1_keepFirst.2.2.1, ba_X1_keepFirst.2.2.2.1⟩
theorem bp_X1_keepFirst : (parseMethodDescriptor yX1_keepFirst.desc).map (fun d => d.parameters.length) = some 2 := by decide +kernel
theorem bj_X1_keepFirst (l : Launch) : ex_ok l 0 0 bx_X1_keepFirst := ec_okp fo_X1 co_X1 so_X1 (ec_okn)
theorem bm_X1_keepFirst (l : Launch) : ex_Met l yX1_keepFirst cX1_keepFirst 3 none 0 0 (ab_sp ab_hd bc_X1_keepFirst) := ab_met (by decide) pn_RX1 rfl (bj_X1_keepFirst l) bd_X1_keepFirst ab_hcm ab_xk bz_X1_keepFirst
theorem ba_X1_look : ec_al [(837, Cond.code yX1_look cX1_look 5 (some .boolean)), (64, Cond.initialized yX1_look.cls), (835, Cond.instanceMethod yX1_look), (836, Cond.selects yX1_look.cls yX1_look yX1_look), (838, Cond.methodLink RX1 43 yX3_anyoneIn), (842, Cond.methodLink RX1 48 yX1_breaksIn), (847, Cond.methodLink RX1 52 yX1_keepFirst)] := ec_alk (by decide +kernel)
theorem bw_X1_look : ec_cw yX1_look cX1_look 5 (some .boolean) := ⟨ba_X1_look.1, ba_X1_look.2.1, nc_RX1⟩
theorem bv_X1_look : Cond.instanceMethod yX1_look ∈ ec_tb ∧ Cond.selects yX1_look.cls yX1_look yX1_look ∈ ec_tb := ⟨ba_X1_look.2.2.1, ba_X1_look.2.2.2.1⟩
theorem bp_X1_look : (parseMethodDescriptor yX1_look.desc).map (fun d => d.parameters.length) = some 3 := by decide +kernel
theorem bk_X1_look (l : Launch) : ∀ (ix n : Nat) (rc : Option Nat) (sp : ex_S), (be_X1_look ix).map (fun q => (q.1, q.2.1, ab_sp ab_hd q.2.2)) = some (n, rc, sp) → ex_cok l RX1 2 44 ix n rc sp := by
  intro ix n rc sp h
  obtain ⟨l0, h2, rfl⟩ := ab_dmk h
  clear h
  unfold be_X1_look at h2
  split at h2
  · cases h2; exact ec_cV (bm_X3_anyoneIn l) bw_X3_anyoneIn bv_X3_anyoneIn (by decide) (by decide) (Or.inl ba_X1_look.2.2.2.2.1) (T := TX3) (N := 7) rfl (by decide) bp_X3_anyoneIn
  · cases h2; exact ec_cV (bm_X1_breaksIn l) bw_X1_breaksIn bv_X1_breaksIn (by decide) (by decide) (Or.inl ba_X1_look.2.2.2.2.2.1) (T := TX1) (N := 6) rfl (by decide) bp_X1_breaksIn
  · cases h2; exact ec_cV (bm_X1_keepFirst l) bw_X1_keepFirst bv_X1_keepFirst (by decide) (by decide) (Or.inl ba_X1_look.2.2.2.2.2.2.1) (T := TX1) (N := 6) rfl (by decide) bp_X1_keepFirst
  · cases h2
theorem bj_X1_look (l : Launch) : ex_ok l 2 44 bx_X1_look := ec_okp fo_X1 co_X1 so_X1 (bk_X1_look l)
theorem bm_X1_look (l : Launch) : ex_Met l yX1_look cX1_look 5 (some .boolean) 2 44 (ab_sp ab_hd bc_X1_look) := ab_met (by decide) pn_RX1 rfl (bj_X1_look l) bd_X1_look ab_hcm ab_xk bz_X1_look
theorem ba_X2_becomeLike : ec_al [(900, Cond.code yX2_becomeLike cX2_becomeLike 2 none), (65, Cond.initialized yX2_becomeLike.cls), (898, Cond.instanceMethod yX2_becomeLike), (899, Cond.selects yX2_becomeLike.cls yX2_becomeLike yX2_becomeLike)] := ec_alk (by decide +kernel)
theorem bw_X2_becomeLike : ec_cw yX2_becomeLike cX2_becomeLike 2 none := ⟨ba_X2_becomeLike.1, ba_X2_becomeLike.2.1, nc_RX2⟩
theorem bv_X2_becomeLike : Cond.instanceMethod yX2_becomeLike ∈ ec_tb ∧ Cond.selects yX2_becomeLike.cls yX2_becomeLike yX2_becomeLike ∈ ec_tb := ⟨ba_X2_becomeLike.2.2.1, ba_X2_becomeLike.2.2.2.1⟩
theorem bp_X2_becomeLike : (parseMethodDescriptor yX2_becomeLike.desc).map (fun d => d.parameters.length) = some 1 := by decide +kernel
theorem bj_X2_becomeLike (l : Launch) : ex_ok l 0 0 bx_X2_becomeLike := ec_okp fo_X2 co_X2 so_X2 (ec_okn)
theorem bm_X2_becomeLike (l : Launch) : ex_Met l yX2_becomeLike cX2_becomeLike 2 none 0 0 (ab_sp ab_hd bc_X2_becomeLike) := ab_met (by decide) pn_RX2 rfl (bj_X2_becomeLike l) bd_X2_becomeLike ab_hcm ab_xk bz_X2_becomeLike
theorem ba_X2_start : ec_al [(922, Cond.code yX2_start cX2_start 1 none), (65, Cond.initialized yX2_start.cls), (920, Cond.instanceMethod yX2_start), (921, Cond.selects yX2_start.cls yX2_start yX2_start)] := ec_alk (by decide +kernel)
theorem bw_X2_start : ec_cw yX2_start cX2_start 1 none := ⟨ba_X2_start.1, ba_X2_start.2.1, nc_RX2⟩
theorem bv_X2_start : Cond.instanceMethod yX2_start ∈ ec_tb ∧ Cond.selects yX2_start.cls yX2_start yX2_start ∈ ec_tb := ⟨ba_X2_start.2.2.1, ba_X2_start.2.2.2.1⟩
theorem bp_X2_start : (parseMethodDescriptor yX2_start.desc).map (fun d => d.parameters.length) = some 0 := by decide +kernel
theorem bj_X2_start (l : Launch) : ex_ok l 0 0 bx_X2_start := ec_okp fo_X2 co_X2 so_X2 (ec_okn)
theorem bm_X2_start (l : Launch) : ex_Met l yX2_start cX2_start 1 none 0 0 (ab_sp ab_hd bc_X2_start) := ab_met (by decide) pn_RX2 rfl (bj_X2_start l) bd_X2_start ab_hcm ab_xk bz_X2_start
theorem ba_X2_finish : ec_al [(713, Cond.code yX2_finish cX2_finish 2 none), (65, Cond.initialized yX2_finish.cls), (711, Cond.instanceMethod yX2_finish), (712, Cond.selects yX2_finish.cls yX2_finish yX2_finish)] := ec_alk (by decide +kernel)
theorem bw_X2_finish : ec_cw yX2_finish cX2_finish 2 none := ⟨ba_X2_finish.1, ba_X2_finish.2.1, nc_RX2⟩
theorem bv_X2_finish : Cond.instanceMethod yX2_finish ∈ ec_tb ∧ Cond.selects yX2_finish.cls yX2_finish yX2_finish ∈ ec_tb := ⟨ba_X2_finish.2.2.1, ba_X2_finish.2.2.2.1⟩
theorem bp_X2_finish : (parseMethodDescriptor yX2_finish.desc).map (fun d => d.parameters.length) = some 1 := by decide +kernel
theorem bj_X2_finish (l : Launch) : ex_ok l 0 0 bx_X2_finish := ec_okp fo_X2 co_X2 so_X2 (ec_okn)
theorem bm_X2_finish (l : Launch) : ex_Met l yX2_finish cX2_finish 2 none 0 0 (ab_sp ab_hd bc_X2_finish) := ab_met (by decide) pn_RX2 rfl (bj_X2_finish l) bd_X2_finish ab_hcm ab_xk bz_X2_finish
theorem ba_X2_giveUp : ec_al [(751, Cond.code yX2_giveUp cX2_giveUp 1 none), (65, Cond.initialized yX2_giveUp.cls), (749, Cond.instanceMethod yX2_giveUp), (750, Cond.selects yX2_giveUp.cls yX2_giveUp yX2_giveUp), (752, Cond.methodLink RX2 37 yX2_finish)] := ec_alk (by decide +kernel)
theorem bw_X2_giveUp : ec_cw yX2_giveUp cX2_giveUp 1 none := ⟨ba_X2_giveUp.1, ba_X2_giveUp.2.1, nc_RX2⟩
theorem bv_X2_giveUp : Cond.instanceMethod yX2_giveUp ∈ ec_tb ∧ Cond.selects yX2_giveUp.cls yX2_giveUp yX2_giveUp ∈ ec_tb := ⟨ba_X2_giveUp.2.2.1, ba_X2_giveUp.2.2.2.1⟩
theorem bp_X2_giveUp : (parseMethodDescriptor yX2_giveUp.desc).map (fun d => d.parameters.length) = some 0 := by decide +kernel
theorem bk_X2_giveUp (l : Launch) : ∀ (ix n : Nat) (rc : Option Nat) (sp : ex_S), (be_X2_giveUp ix).map (fun q => (q.1, q.2.1, ab_sp ab_hd q.2.2)) = some (n, rc, sp) → ex_cok l RX2 1 21 ix n rc sp := by
  intro ix n rc sp h
  obtain ⟨l0, h2, rfl⟩ := ab_dmk h
  clear h
  unfold be_X2_giveUp at h2
  split at h2
  · cases h2; exact ec_cV (bm_X2_finish l) bw_X2_finish bv_X2_finish (by decide) (by decide) (Or.inl ba_X2_giveUp.2.2.2.2.1) (T := TX2) (N := 7) rfl (by decide) bp_X2_finish
  · cases h2
theorem bj_X2_giveUp (l : Launch) : ex_ok l 1 21 bx_X2_giveUp := ec_okp fo_X2 co_X2 so_X2 (bk_X2_giveUp l)
theorem bm_X2_giveUp (l : Launch) : ex_Met l yX2_giveUp cX2_giveUp 1 none 1 21 (ab_sp ab_hd bc_X2_giveUp) := ab_met (by decide) pn_RX2 rfl (bj_X2_giveUp l) bd_X2_giveUp ab_hcm ab_xk bz_X2_giveUp
theorem ba_X2_goOnAt : ec_al [(747, Cond.code yX2_goOnAt cX2_goOnAt 2 none), (65, Cond.initialized yX2_goOnAt.cls), (745, Cond.instanceMethod yX2_goOnAt), (746, Cond.selects yX2_goOnAt.cls yX2_goOnAt yX2_goOnAt), (748, Cond.methodLink RX2 34 yX2_giveUp)] := ec_alk (by decide +kernel)
theorem bw_X2_goOnAt : ec_cw yX2_goOnAt cX2_goOnAt 2 none := ⟨ba_X2_goOnAt.1, ba_X2_goOnAt.2.1, nc_RX2⟩
theorem bv_X2_goOnAt : Cond.instanceMethod yX2_goOnAt ∈ ec_tb ∧ Cond.selects yX2_goOnAt.cls yX2_goOnAt yX2_goOnAt ∈ ec_tb := ⟨ba_X2_goOnAt.2.2.1, ba_X2_goOnAt.2.2.2.1⟩
theorem bp_X2_goOnAt : (parseMethodDescriptor yX2_goOnAt.desc).map (fun d => d.parameters.length) = some 1 := by decide +kernel
theorem bk_X2_goOnAt (l : Launch) : ∀ (ix n : Nat) (rc : Option Nat) (sp : ex_S), (be_X2_goOnAt ix).map (fun q => (q.1, q.2.1, ab_sp ab_hd q.2.2)) = some (n, rc, sp) → ex_cok l RX2 2 41 ix n rc sp := by
  intro ix n rc sp h
  obtain ⟨l0, h2, rfl⟩ := ab_dmk h
  clear h
  unfold be_X2_goOnAt at h2
  split at h2
  · cases h2; exact ec_cV (bm_X2_giveUp l) bw_X2_giveUp bv_X2_giveUp (by decide) (by decide) (Or.inl ba_X2_goOnAt.2.2.2.2.1) (T := TX2) (N := 7) rfl (by decide) bp_X2_giveUp
  · cases h2
theorem bj_X2_goOnAt (l : Launch) : ex_ok l 2 41 bx_X2_goOnAt := ec_okp fo_X2 co_X2 so_X2 (bk_X2_goOnAt l)
theorem bm_X2_goOnAt (l : Launch) : ex_Met l yX2_goOnAt cX2_goOnAt 2 none 2 41 (ab_sp ab_hd bc_X2_goOnAt) := ab_met (by decide) pn_RX2 rfl (bj_X2_goOnAt l) bd_X2_goOnAt ab_hcm ab_xk bz_X2_goOnAt
theorem ba_X2_setHalted : ec_al [(930, Cond.code yX2_setHalted cX2_setHalted 2 (some .int)), (65, Cond.initialized yX2_setHalted.cls), (928, Cond.instanceMethod yX2_setHalted), (929, Cond.selects yX2_setHalted.cls yX2_setHalted yX2_setHalted)] := ec_alk (by decide +kernel)
theorem bw_X2_setHalted : ec_cw yX2_setHalted cX2_setHalted 2 (some .int) := ⟨ba_X2_setHalted.1, ba_X2_setHalted.2.1, nc_RX2⟩
theorem bv_X2_setHalted : Cond.instanceMethod yX2_setHalted ∈ ec_tb ∧ Cond.selects yX2_setHalted.cls yX2_setHalted yX2_setHalted ∈ ec_tb := ⟨ba_X2_setHalted.2.2.1, ba_X2_setHalted.2.2.2.1⟩
theorem bp_X2_setHalted : (parseMethodDescriptor yX2_setHalted.desc).map (fun d => d.parameters.length) = some 1 := by decide +kernel
theorem bk_X2_setHalted (l : Launch) : ∀ (ix n : Nat) (rc : Option Nat) (sp : ex_S), (be_X2_setHalted ix).map (fun q => (q.1, q.2.1, ab_sp ab_hd q.2.2)) = some (n, rc, sp) → ex_cok l RX2 1 20 ix n rc sp := by
  intro ix n rc sp h
  obtain ⟨l0, h2, rfl⟩ := ab_dmk h
  clear h
  unfold be_X2_setHalted at h2
  split at h2
  · cases h2; exact ec_cS (bm_X9_isSwitch l) bw_X9_isSwitch bv_X9_isSwitch (by decide) (by decide) (Or.inr ⟨"TinStation", List.mem_of_getElem? (i := 4) rfl⟩) bp_X9_isSwitch
  · cases h2
theorem bj_X2_setHalted (l : Launch) : ex_ok l 1 20 bx_X2_setHalted := ec_okp fo_X2 co_X2 so_X2 (bk_X2_setHalted l)
theorem bm_X2_setHalted (l : Launch) : ex_Met l yX2_setHalted cX2_setHalted 2 (some .int) 1 20 (ab_sp ab_hd bc_X2_setHalted) := ab_met (by decide) pn_RX2 rfl (bj_X2_setHalted l) bd_X2_setHalted ab_hcm ab_xk bz_X2_setHalted
theorem ba_X2_tellOf : ec_al [(947, Cond.code yX2_tellOf cX2_tellOf 2 (some .int)), (65, Cond.initialized yX2_tellOf.cls), (945, Cond.instanceMethod yX2_tellOf), (946, Cond.selects yX2_tellOf.cls yX2_tellOf yX2_tellOf)] := ec_alk (by decide +kernel)
theorem bw_X2_tellOf : ec_cw yX2_tellOf cX2_tellOf 2 (some .int) := ⟨ba_X2_tellOf.1, ba_X2_tellOf.2.1, nc_RX2⟩
theorem bv_X2_tellOf : Cond.instanceMethod yX2_tellOf ∈ ec_tb ∧ Cond.selects yX2_tellOf.cls yX2_tellOf yX2_tellOf ∈ ec_tb := ⟨ba_X2_tellOf.2.2.1, ba_X2_tellOf.2.2.2.1⟩
theorem bp_X2_tellOf : (parseMethodDescriptor yX2_tellOf.desc).map (fun d => d.parameters.length) = some 1 := by decide +kernel
theorem bk_X2_tellOf (l : Launch) : ∀ (ix n : Nat) (rc : Option Nat) (sp : ex_S), (be_X2_tellOf ix).map (fun q => (q.1, q.2.1, ab_sp ab_hd q.2.2)) = some (n, rc, sp) → ex_cok l RX2 1 20 ix n rc sp := by
  intro ix n rc sp h
  obtain ⟨l0, h2, rfl⟩ := ab_dmk h
  clear h
  unfold be_X2_tellOf at h2
  split at h2
  · cases h2; exact ec_cS (bm_X9_one l) bw_X9_one bv_X9_one (by decide) (by decide) (Or.inr ⟨"TinStation", List.mem_of_getElem? (i := 5) rfl⟩) bp_X9_one
  · cases h2
theorem bj_X2_tellOf (l : Launch) : ex_ok l 1 20 bx_X2_tellOf := ec_okp fo_X2 co_X2 so_X2 (bk_X2_tellOf l)
theorem bm_X2_tellOf (l : Launch) : ex_Met l yX2_tellOf cX2_tellOf 2 (some .int) 1 20 (ab_sp ab_hd bc_X2_tellOf) := ab_met (by decide) pn_RX2 rfl (bj_X2_tellOf l) bd_X2_tellOf ab_hcm ab_xk bz_X2_tellOf
theorem ba_X3_becomeLike : ec_al [(885, Cond.code yX3_becomeLike cX3_becomeLike 2 none), (62, Cond.initialized yX3_becomeLike.cls), (883, Cond.instanceMethod yX3_becomeLike), (884, Cond.selects yX3_becomeLike.cls yX3_becomeLike yX3_becomeLike)] := ec_alk (by decide +kernel)
theorem bw_X3_becomeLike : ec_cw yX3_becomeLike cX3_becomeLike 2 none := ⟨ba_X3_becomeLike.1, ba_X3_becomeLike.2.1, nc_RX3⟩
theorem bv_X3_becomeLike : Cond.instanceMethod yX3_becomeLike ∈ ec_tb ∧ Cond.selects yX3_becomeLike.cls yX3_becomeLike yX3_becomeLike ∈ ec_tb := ⟨ba_X3_becomeLike.2.2.1, ba_X3_becomeLike.2.2.2.1⟩
theorem bp_X3_becomeLike : (parseMethodDescriptor yX3_becomeLike.desc).map (fun d => d.parameters.length) = some 1 := by decide +kernel
theorem bk_X3_becomeLike (l : Launch) : ∀ (ix n : Nat) (rc : Option Nat) (sp : ex_S), (be_X3_becomeLike ix).map (fun q => (q.1, q.2.1, ab_sp ab_hd q.2.2)) = some (n, rc, sp) → ex_cok l RX3 2 47 ix n rc sp := by
  intro ix n rc sp h
  obtain ⟨l0, h2, rfl⟩ := ab_dmk h
  clear h
  unfold be_X3_becomeLike at h2
  split at h2
  · cases h2; exact ec_cS (bm_X9_copy l) bw_X9_copy bv_X9_copy (by decide) (by decide) (Or.inr ⟨"TinStation", List.mem_of_getElem? (i := 6) rfl⟩) bp_X9_copy
  · cases h2
theorem bj_X3_becomeLike (l : Launch) : ex_ok l 2 47 bx_X3_becomeLike := ec_okp fo_X3 co_X3 so_X3 (bk_X3_becomeLike l)
theorem bm_X3_becomeLike (l : Launch) : ex_Met l yX3_becomeLike cX3_becomeLike 2 none 2 47 (ab_sp ab_hd bc_X3_becomeLike) := ab_met (by decide) pn_RX3 rfl (bj_X3_becomeLike l) bd_X3_becomeLike ab_hcm ab_xk bz_X3_becomeLike
theorem ba_X3_has : ec_al [(520, Cond.code yX3_has cX3_has 2 (some .boolean)), (62, Cond.initialized yX3_has.cls), (518, Cond.instanceMethod yX3_has), (519, Cond.selects yX3_has.cls yX3_has yX3_has)] := ec_alk (by decide +kernel)
theorem bw_X3_has : ec_cw yX3_has cX3_has 2 (some .boolean) := ⟨ba_X3_has.1, ba_X3_has.2.1, nc_RX3⟩
theorem bv_X3_has : Cond.instanceMethod yX3_has ∈ ec_tb ∧ Cond.selects yX3_has.cls yX3_has yX3_has ∈ ec_tb := ⟨ba_X3_has.2.2.1, ba_X3_has.2.2.2.1⟩
theorem bp_X3_has : (parseMethodDescriptor yX3_has.desc).map (fun d => d.parameters.length) = some 1 := by decide +kernel
theorem bj_X3_has (l : Launch) : ex_ok l 0 0 bx_X3_has := ec_okp fo_X3 co_X3 so_X3 (ec_okn)
theorem bm_X3_has (l : Launch) : ex_Met l yX3_has cX3_has 2 (some .boolean) 0 0 (ab_sp ab_hd bc_X3_has) := ab_met (by decide) pn_RX3 rfl (bj_X3_has l) bd_X3_has ab_hcm ab_xk bz_X3_has
theorem ba_X3_mends : ec_al [(526, Cond.code yX3_mends cX3_mends 2 (some .boolean)), (62, Cond.initialized yX3_mends.cls), (524, Cond.instanceMethod yX3_mends), (525, Cond.selects yX3_mends.cls yX3_mends yX3_mends)] := ec_alk (by decide +kernel)
theorem bw_X3_mends : ec_cw yX3_mends cX3_mends 2 (some .boolean) := ⟨ba_X3_mends.1, ba_X3_mends.2.1, nc_RX3⟩
theorem bv_X3_mends : Cond.instanceMethod yX3_mends ∈ ec_tb ∧ Cond.selects yX3_mends.cls yX3_mends yX3_mends ∈ ec_tb := ⟨ba_X3_mends.2.2.1, ba_X3_mends.2.2.2.1⟩
theorem bp_X3_mends : (parseMethodDescriptor yX3_mends.desc).map (fun d => d.parameters.length) = some 1 := by decide +kernel
theorem bj_X3_mends (l : Launch) : ex_ok l 0 0 bx_X3_mends := ec_okp fo_X3 co_X3 so_X3 (ec_okn)
theorem bm_X3_mends (l : Launch) : ex_Met l yX3_mends cX3_mends 2 (some .boolean) 0 0 (ab_sp ab_hd bc_X3_mends) := ab_met (by decide) pn_RX3 rfl (bj_X3_mends l) bd_X3_mends ab_hcm ab_xk bz_X3_mends
theorem ba_X3_addPerson : ec_al [(507, Cond.code yX3_addPerson cX3_addPerson 2 (some .int)), (62, Cond.initialized yX3_addPerson.cls), (505, Cond.instanceMethod yX3_addPerson), (506, Cond.selects yX3_addPerson.cls yX3_addPerson yX3_addPerson)] := ec_alk (by decide +kernel)
theorem bw_X3_addPerson : ec_cw yX3_addPerson cX3_addPerson 2 (some .int) := ⟨ba_X3_addPerson.1, ba_X3_addPerson.2.1, nc_RX3⟩
theorem bv_X3_addPerson : Cond.instanceMethod yX3_addPerson ∈ ec_tb ∧ Cond.selects yX3_addPerson.cls yX3_addPerson yX3_addPerson ∈ ec_tb := ⟨ba_X3_addPerson.2.2.1, ba_X3_addPerson.2.2.2.1⟩
theorem bp_X3_addPerson : (parseMethodDescriptor yX3_addPerson.desc).map (fun d => d.parameters.length) = some 1 := by decide +kernel
theorem bj_X3_addPerson (l : Launch) : ex_ok l 0 0 bx_X3_addPerson := ec_okp fo_X3 co_X3 so_X3 (ec_okn)
theorem bm_X3_addPerson (l : Launch) : ex_Met l yX3_addPerson cX3_addPerson 2 (some .int) 0 0 (ab_sp ab_hd bc_X3_addPerson) := ab_met (by decide) pn_RX3 rfl (bj_X3_addPerson l) bd_X3_addPerson ab_hcm ab_xk bz_X3_addPerson
theorem ba_X3_setDoing : ec_al [(539, Cond.code yX3_setDoing cX3_setDoing 4 (some .int)), (62, Cond.initialized yX3_setDoing.cls), (537, Cond.instanceMethod yX3_setDoing), (538, Cond.selects yX3_setDoing.cls yX3_setDoing yX3_setDoing), (540, Cond.methodLink RX3 39 yX3_has), (542, Cond.methodLink RX3 44 yX3_mends)] := ec_alk (by decide +kernel)
theorem bw_X3_setDoing : ec_cw yX3_setDoing cX3_setDoing 4 (some .int) := ⟨ba_X3_setDoing.1, ba_X3_setDoing.2.1, nc_RX3⟩
theorem bv_X3_setDoing : Cond.instanceMethod yX3_setDoing ∈ ec_tb ∧ Cond.selects yX3_setDoing.cls yX3_setDoing yX3_setDoing ∈ ec_tb := ⟨ba_X3_setDoing.2.2.1, ba_X3_setDoing.2.2.2.1⟩
theorem bp_X3_setDoing : (parseMethodDescriptor yX3_setDoing.desc).map (fun d => d.parameters.length) = some 2 := by decide +kernel
theorem bk_X3_setDoing (l : Launch) : ∀ (ix n : Nat) (rc : Option Nat) (sp : ex_S), (be_X3_setDoing ix).map (fun q => (q.1, q.2.1, ab_sp ab_hd q.2.2)) = some (n, rc, sp) → ex_cok l RX3 1 21 ix n rc sp := by
  intro ix n rc sp h
  obtain ⟨l0, h2, rfl⟩ := ab_dmk h
  clear h
  unfold be_X3_setDoing at h2
  split at h2
  · cases h2; exact ec_cV (bm_X3_has l) bw_X3_has bv_X3_has (by decide) (by decide) (Or.inl ba_X3_setDoing.2.2.2.2.1) (T := TX3) (N := 7) rfl (by decide) bp_X3_has
  · cases h2; exact ec_cV (bm_X3_mends l) bw_X3_mends bv_X3_mends (by decide) (by decide) (Or.inl ba_X3_setDoing.2.2.2.2.2.1) (T := TX3) (N := 7) rfl (by decide) bp_X3_mends
  · cases h2
theorem bj_X3_setDoing (l : Launch) : ex_ok l 1 21 bx_X3_setDoing := ec_okp fo_X3 co_X3 so_X3 (bk_X3_setDoing l)
theorem bm_X3_setDoing (l : Launch) : ex_Met l yX3_setDoing cX3_setDoing 4 (some .int) 1 21 (ab_sp ab_hd bc_X3_setDoing) := ab_met (by decide) pn_RX3 rfl (bj_X3_setDoing l) bd_X3_setDoing ab_hcm ab_xk bz_X3_setDoing
theorem ba_X3_tellOf : ec_al [(551, Cond.code yX3_tellOf cX3_tellOf 3 (some .int)), (62, Cond.initialized yX3_tellOf.cls), (549, Cond.instanceMethod yX3_tellOf), (550, Cond.selects yX3_tellOf.cls yX3_tellOf yX3_tellOf), (540, Cond.methodLink RX3 39 yX3_has)] := ec_alk (by decide +kernel)
theorem bw_X3_tellOf : ec_cw yX3_tellOf cX3_tellOf 3 (some .int) := ⟨ba_X3_tellOf.1, ba_X3_tellOf.2.1, nc_RX3⟩
theorem bv_X3_tellOf : Cond.instanceMethod yX3_tellOf ∈ ec_tb ∧ Cond.selects yX3_tellOf.cls yX3_tellOf yX3_tellOf ∈ ec_tb := ⟨ba_X3_tellOf.2.2.1, ba_X3_tellOf.2.2.2.1⟩
theorem bp_X3_tellOf : (parseMethodDescriptor yX3_tellOf.desc).map (fun d => d.parameters.length) = some 2 := by decide +kernel
theorem bk_X3_tellOf (l : Launch) : ∀ (ix n : Nat) (rc : Option Nat) (sp : ex_S), (be_X3_tellOf ix).map (fun q => (q.1, q.2.1, ab_sp ab_hd q.2.2)) = some (n, rc, sp) → ex_cok l RX3 1 21 ix n rc sp := by
  intro ix n rc sp h
  obtain ⟨l0, h2, rfl⟩ := ab_dmk h
  clear h
  unfold be_X3_tellOf at h2
  split at h2
  · cases h2; exact ec_cV (bm_X3_has l) bw_X3_has bv_X3_has (by decide) (by decide) (Or.inl ba_X3_tellOf.2.2.2.2.1) (T := TX3) (N := 7) rfl (by decide) bp_X3_has
  · cases h2
theorem bj_X3_tellOf (l : Launch) : ex_ok l 1 21 bx_X3_tellOf := ec_okp fo_X3 co_X3 so_X3 (bk_X3_tellOf l)
theorem bm_X3_tellOf (l : Launch) : ex_Met l yX3_tellOf cX3_tellOf 3 (some .int) 1 21 (ab_sp ab_hd bc_X3_tellOf) := ab_met (by decide) pn_RX3 rfl (bj_X3_tellOf l) bd_X3_tellOf ab_hcm ab_xk bz_X3_tellOf
theorem ba_X3_startMending : ec_al [(630, Cond.code yX3_startMending cX3_startMending 4 none), (62, Cond.initialized yX3_startMending.cls), (628, Cond.instanceMethod yX3_startMending), (629, Cond.selects yX3_startMending.cls yX3_startMending yX3_startMending)] := ec_alk (by decide +kernel)
theorem bw_X3_startMending : ec_cw yX3_startMending cX3_startMending 4 none := ⟨ba_X3_startMending.1, ba_X3_startMending.2.1, nc_RX3⟩
theorem bv_X3_startMending : Cond.instanceMethod yX3_startMending ∈ ec_tb ∧ Cond.selects yX3_startMending.cls yX3_startMending yX3_startMending ∈ ec_tb := ⟨ba_X3_startMending.2.2.1, ba_X3_startMending.2.2.2.1⟩
theorem bp_X3_startMending : (parseMethodDescriptor yX3_startMending.desc).map (fun d => d.parameters.length) = some 3 := by decide +kernel
theorem bj_X3_startMending (l : Launch) : ex_ok l 0 0 bx_X3_startMending := ec_okp fo_X3 co_X3 so_X3 (ec_okn)
theorem bm_X3_startMending (l : Launch) : ex_Met l yX3_startMending cX3_startMending 4 none 0 0 (ab_sp ab_hd bc_X3_startMending) := ab_met (by decide) pn_RX3 rfl (bj_X3_startMending l) bd_X3_startMending ab_hcm ab_xk bz_X3_startMending
theorem ba_X3_isMended : ec_al [(625, Cond.code yX3_isMended cX3_isMended 3 (some .boolean)), (62, Cond.initialized yX3_isMended.cls), (623, Cond.instanceMethod yX3_isMended), (624, Cond.selects yX3_isMended.cls yX3_isMended yX3_isMended)] := ec_alk (by decide +kernel)
theorem bw_X3_isMended : ec_cw yX3_isMended cX3_isMended 3 (some .boolean) := ⟨ba_X3_isMended.1, ba_X3_isMended.2.1, nc_RX3⟩
theorem bv_X3_isMended : Cond.instanceMethod yX3_isMended ∈ ec_tb ∧ Cond.selects yX3_isMended.cls yX3_isMended yX3_isMended ∈ ec_tb := ⟨ba_X3_isMended.2.2.1, ba_X3_isMended.2.2.2.1⟩
theorem bp_X3_isMended : (parseMethodDescriptor yX3_isMended.desc).map (fun d => d.parameters.length) = some 1 := by decide +kernel
theorem bj_X3_isMended (l : Launch) : ex_ok l 0 0 bx_X3_isMended := ec_okp fo_X3 co_X3 so_X3 (ec_okn)
theorem bm_X3_isMended (l : Launch) : ex_Met l yX3_isMended cX3_isMended 3 (some .boolean) 0 0 (ab_sp ab_hd bc_X3_isMended) := ab_met (by decide) pn_RX3 rfl (bj_X3_isMended l) bd_X3_isMended ab_hcm ab_xk bz_X3_isMended
theorem ba_X3_menders : ec_al [(1094, Cond.code yX3_menders cX3_menders 3 (some .int)), (62, Cond.initialized yX3_menders.cls), (1092, Cond.instanceMethod yX3_menders), (1093, Cond.selects yX3_menders.cls yX3_menders yX3_menders), (542, Cond.methodLink RX3 44 yX3_mends)] := ec_alk (by decide +kernel)
theorem bw_X3_menders : ec_cw yX3_menders cX3_menders 3 (some .int) := ⟨ba_X3_menders.1, ba_X3_menders.2.1, nc_RX3⟩
theorem bv_X3_menders : Cond.instanceMethod yX3_menders ∈ ec_tb ∧ Cond.selects yX3_menders.cls yX3_menders yX3_menders ∈ ec_tb := ⟨ba_X3_menders.2.2.1, ba_X3_menders.2.2.2.1⟩
theorem bp_X3_menders : (parseMethodDescriptor yX3_menders.desc).map (fun d => d.parameters.length) = some 0 := by decide +kernel
theorem bk_X3_menders (l : Launch) : ∀ (ix n : Nat) (rc : Option Nat) (sp : ex_S), (be_X3_menders ix).map (fun q => (q.1, q.2.1, ab_sp ab_hd q.2.2)) = some (n, rc, sp) → ex_cok l RX3 1 21 ix n rc sp := by
  intro ix n rc sp h
  obtain ⟨l0, h2, rfl⟩ := ab_dmk h
  clear h
  unfold be_X3_menders at h2
  split at h2
  · cases h2; exact ec_cV (bm_X3_mends l) bw_X3_mends bv_X3_mends (by decide) (by decide) (Or.inl ba_X3_menders.2.2.2.2.1) (T := TX3) (N := 7) rfl (by decide) bp_X3_mends
  · cases h2; exact ec_cS (bm_X9_one l) bw_X9_one bv_X9_one (by decide) (by decide) (Or.inr ⟨"TinStation", List.mem_of_getElem? (i := 7) rfl⟩) bp_X9_one
  · cases h2
theorem bj_X3_menders (l : Launch) : ex_ok l 1 21 bx_X3_menders := ec_okp fo_X3 co_X3 so_X3 (bk_X3_menders l)
theorem bm_X3_menders (l : Launch) : ex_Met l yX3_menders cX3_menders 3 (some .int) 1 21 (ab_sp ab_hd bc_X3_menders) := ab_met (by decide) pn_RX3 rfl (bj_X3_menders l) bd_X3_menders ab_hcm ab_xk bz_X3_menders
theorem ba_X6_has : ec_al [(580, Cond.code yX6_has cX6_has 2 (some .boolean)), (63, Cond.initialized yX6_has.cls), (578, Cond.instanceMethod yX6_has), (579, Cond.selects yX6_has.cls yX6_has yX6_has)] := ec_alk (by decide +kernel)
theorem bw_X6_has : ec_cw yX6_has cX6_has 2 (some .boolean) := ⟨ba_X6_has.1, ba_X6_has.2.1, nc_RX6⟩
theorem bv_X6_has : Cond.instanceMethod yX6_has ∈ ec_tb ∧ Cond.selects yX6_has.cls yX6_has yX6_has ∈ ec_tb := ⟨ba_X6_has.2.2.1, ba_X6_has.2.2.2.1⟩
theorem bp_X6_has : (parseMethodDescriptor yX6_has.desc).map (fun d => d.parameters.length) = some 1 := by decide +kernel
theorem bj_X6_has (l : Launch) : ex_ok l 0 0 bx_X6_has := ec_okp fo_X6 co_X6 so_X6 (ec_okn)
theorem bm_X6_has (l : Launch) : ex_Met l yX6_has cX6_has 2 (some .boolean) 0 0 (ab_sp ab_hd bc_X6_has) := ab_met (by decide) pn_RX6 rfl (bj_X6_has l) bd_X6_has ab_hcm ab_xk bz_X6_has
theorem ba_X6_makeNew : ec_al [(760, Cond.code yX6_makeNew cX6_makeNew 2 none), (63, Cond.initialized yX6_makeNew.cls), (758, Cond.instanceMethod yX6_makeNew), (759, Cond.selects yX6_makeNew.cls yX6_makeNew yX6_makeNew), (577, Cond.methodLink RX6 77 yX6_has)] := ec_alk (by decide +kernel)
theorem bw_X6_makeNew : ec_cw yX6_makeNew cX6_makeNew 2 none := ⟨ba_X6_makeNew.1, ba_X6_makeNew.2.1, nc_RX6⟩
theorem bv_X6_makeNew : Cond.instanceMethod yX6_makeNew ∈ ec_tb ∧ Cond.selects yX6_makeNew.cls yX6_makeNew yX6_makeNew ∈ ec_tb := ⟨ba_X6_makeNew.2.2.1, ba_X6_makeNew.2.2.2.1⟩
theorem bp_X6_makeNew : (parseMethodDescriptor yX6_makeNew.desc).map (fun d => d.parameters.length) = some 1 := by decide +kernel
theorem bk_X6_makeNew (l : Launch) : ∀ (ix n : Nat) (rc : Option Nat) (sp : ex_S), (be_X6_makeNew ix).map (fun q => (q.1, q.2.1, ab_sp ab_hd q.2.2)) = some (n, rc, sp) → ex_cok l RX6 1 21 ix n rc sp := by
  intro ix n rc sp h
  obtain ⟨l0, h2, rfl⟩ := ab_dmk h
  clear h
  unfold be_X6_makeNew at h2
  split at h2
  · cases h2; exact ec_cV (bm_X6_has l) bw_X6_has bv_X6_has (by decide) (by decide) (Or.inl ba_X6_makeNew.2.2.2.2.1) (T := TX6) (N := 15) rfl (by decide) bp_X6_has
  · cases h2
theorem bj_X6_makeNew (l : Launch) : ex_ok l 1 21 bx_X6_makeNew := ec_okp fo_X6 co_X6 so_X6 (bk_X6_makeNew l)
theorem bm_X6_makeNew (l : Launch) : ex_Met l yX6_makeNew cX6_makeNew 2 none 1 21 (ab_sp ab_hd bc_X6_makeNew) := ab_met (by decide) pn_RX6 rfl (bj_X6_makeNew l) bd_X6_makeNew ab_hcm ab_xk bz_X6_makeNew
theorem ba_X3_mendOn : ec_al [(756, Cond.code yX3_mendOn cX3_mendOn 3 none), (62, Cond.initialized yX3_mendOn.cls), (754, Cond.instanceMethod yX3_mendOn), (755, Cond.selects yX3_mendOn.cls yX3_mendOn yX3_mendOn), (542, Cond.methodLink RX3 44 yX3_mends), (757, Cond.methodLink RX3 52 yX6_makeNew)] := ec_alk (by decide +kernel)
theorem bw_X3_mendOn : ec_cw yX3_mendOn cX3_mendOn 3 none := ⟨ba_X3_mendOn.1, ba_X3_mendOn.2.1, nc_RX3⟩
theorem bv_X3_mendOn : Cond.instanceMethod yX3_mendOn ∈ ec_tb ∧ Cond.selects yX3_mendOn.cls yX3_mendOn yX3_mendOn ∈ ec_tb := ⟨ba_X3_mendOn.2.2.1, ba_X3_mendOn.2.2.2.1⟩
theorem bp_X3_mendOn : (parseMethodDescriptor yX3_mendOn.desc).map (fun d => d.parameters.length) = some 1 := by decide +kernel
theorem bk_X3_mendOn (l : Launch) : ∀ (ix n : Nat) (rc : Option Nat) (sp : ex_S), (be_X3_mendOn ix).map (fun q => (q.1, q.2.1, ab_sp ab_hd q.2.2)) = some (n, rc, sp) → ex_cok l RX3 2 42 ix n rc sp := by
  intro ix n rc sp h
  obtain ⟨l0, h2, rfl⟩ := ab_dmk h
  clear h
  unfold be_X3_mendOn at h2
  split at h2
  · cases h2; exact ec_cV (bm_X3_mends l) bw_X3_mends bv_X3_mends (by decide) (by decide) (Or.inl ba_X3_mendOn.2.2.2.2.1) (T := TX3) (N := 7) rfl (by decide) bp_X3_mends
  · cases h2; exact ec_cV (bm_X6_makeNew l) bw_X6_makeNew bv_X6_makeNew (by decide) (by decide) (Or.inl ba_X3_mendOn.2.2.2.2.2.1) (T := TX6) (N := 15) rfl (by decide) bp_X6_makeNew
  · cases h2
theorem bj_X3_mendOn (l : Launch) : ex_ok l 2 42 bx_X3_mendOn := ec_okp fo_X3 co_X3 so_X3 (bk_X3_mendOn l)
theorem bm_X3_mendOn (l : Launch) : ex_Met l yX3_mendOn cX3_mendOn 3 none 2 42 (ab_sp ab_hd bc_X3_mendOn) := ab_met (by decide) pn_RX3 rfl (bj_X3_mendOn l) bd_X3_mendOn ab_hcm ab_xk bz_X3_mendOn
theorem ba_X3_breathe : ec_al [(805, Cond.code yX3_breathe cX3_breathe 5 none), (62, Cond.initialized yX3_breathe.cls), (804, Cond.instanceMethod yX3_breathe), (14, Cond.selects yX3_breathe.cls yX3_breathe yX3_breathe), (808, Cond.methodLink RX3 77 yX0_take), (809, Cond.methodLink RX3 68 yX0_give)] := ec_alk (by decide +kernel)
theorem bw_X3_breathe : ec_cw yX3_breathe cX3_breathe 5 none := ⟨ba_X3_breathe.1, ba_X3_breathe.2.1, nc_RX3⟩
theorem bv_X3_breathe : Cond.instanceMethod yX3_breathe ∈ ec_tb ∧ Cond.selects yX3_breathe.cls yX3_breathe yX3_breathe ∈ ec_tb := ⟨ba_X3_breathe.2.2.1, ba_X3_breathe.2.2.2.1⟩
theorem bp_X3_breathe : (parseMethodDescriptor yX3_breathe.desc).map (fun d => d.parameters.length) = some 2 := by decide +kernel
theorem bk_X3_breathe (l : Launch) : ∀ (ix n : Nat) (rc : Option Nat) (sp : ex_S), (be_X3_breathe ix).map (fun q => (q.1, q.2.1, ab_sp ab_hd q.2.2)) = some (n, rc, sp) → ex_cok l RX3 2 45 ix n rc sp := by
  intro ix n rc sp h
  obtain ⟨l0, h2, rfl⟩ := ab_dmk h
  clear h
  unfold be_X3_breathe at h2
  split at h2
  · cases h2; exact ec_cV (bm_X0_take l) bw_X0_take bv_X0_take (by decide) (by decide) (Or.inl ba_X3_breathe.2.2.2.2.1) (T := TX0) (N := 8) rfl (by decide) bp_X0_take
  · cases h2; exact ec_cV (bm_X0_give l) bw_X0_give bv_X0_give (by decide) (by decide) (Or.inl ba_X3_breathe.2.2.2.2.2.1) (T := TX0) (N := 8) rfl (by decide) bp_X0_give
  · cases h2; exact ec_cS (bm_X9_one l) bw_X9_one bv_X9_one (by decide) (by decide) (Or.inr ⟨"TinStation", List.mem_of_getElem? (i := 7) rfl⟩) bp_X9_one
  · cases h2
theorem bj_X3_breathe (l : Launch) : ex_ok l 2 45 bx_X3_breathe := ec_okp fo_X3 co_X3 so_X3 (bk_X3_breathe l)
theorem bm_X3_breathe (l : Launch) : ex_Met l yX3_breathe cX3_breathe 5 none 2 45 (ab_sp ab_hd bc_X3_breathe) := ab_met (by decide) pn_RX3 rfl (bj_X3_breathe l) bd_X3_breathe ab_hcm ab_xk bz_X3_breathe
theorem ba_X3_drink : ec_al [(814, Cond.code yX3_drink cX3_drink 5 none), (62, Cond.initialized yX3_drink.cls), (813, Cond.instanceMethod yX3_drink), (15, Cond.selects yX3_drink.cls yX3_drink yX3_drink), (815, Cond.methodLink RX3 81 yX0_draw), (809, Cond.methodLink RX3 68 yX0_give), (816, Cond.methodLink RX3 85 yX0_fill)] := ec_alk (by decide +kernel)
theorem bw_X3_drink : ec_cw yX3_drink cX3_drink 5 none := ⟨ba_X3_drink.1, ba_X3_drink.2.1, nc_RX3⟩
theorem bv_X3_drink : Cond.instanceMethod yX3_drink ∈ ec_tb ∧ Cond.selects yX3_drink.cls yX3_drink yX3_drink ∈ ec_tb := ⟨ba_X3_drink.2.2.1, ba_X3_drink.2.2.2.1⟩
theorem bp_X3_drink : (parseMethodDescriptor yX3_drink.desc).map (fun d => d.parameters.length) = some 2 := by decide +kernel
theorem bk_X3_drink (l : Launch) : ∀ (ix n : Nat) (rc : Option Nat) (sp : ex_S), (be_X3_drink ix).map (fun q => (q.1, q.2.1, ab_sp ab_hd q.2.2)) = some (n, rc, sp) → ex_cok l RX3 2 44 ix n rc sp := by
  intro ix n rc sp h
  obtain ⟨l0, h2, rfl⟩ := ab_dmk h
  clear h
  unfold be_X3_drink at h2
  split at h2
  · cases h2; exact ec_cV (bm_X0_draw l) bw_X0_draw bv_X0_draw (by decide) (by decide) (Or.inl ba_X3_drink.2.2.2.2.1) (T := TX0) (N := 8) rfl (by decide) bp_X0_draw
  · cases h2; exact ec_cV (bm_X0_give l) bw_X0_give bv_X0_give (by decide) (by decide) (Or.inl ba_X3_drink.2.2.2.2.2.1) (T := TX0) (N := 8) rfl (by decide) bp_X0_give
  · cases h2; exact ec_cV (bm_X0_fill l) bw_X0_fill bv_X0_fill (by decide) (by decide) (Or.inl ba_X3_drink.2.2.2.2.2.2.1) (T := TX0) (N := 8) rfl (by decide) bp_X0_fill
  · cases h2; exact ec_cS (bm_X9_one l) bw_X9_one bv_X9_one (by decide) (by decide) (Or.inr ⟨"TinStation", List.mem_of_getElem? (i := 7) rfl⟩) bp_X9_one
  · cases h2
theorem bj_X3_drink (l : Launch) : ex_ok l 2 44 bx_X3_drink := ec_okp fo_X3 co_X3 so_X3 (bk_X3_drink l)
theorem bm_X3_drink (l : Launch) : ex_Met l yX3_drink cX3_drink 5 none 2 44 (ab_sp ab_hd bc_X3_drink) := ab_met (by decide) pn_RX3 rfl (bj_X3_drink l) bd_X3_drink ab_hcm ab_xk bz_X3_drink
theorem ba_X3_live : ec_al [(801, Cond.code yX3_live cX3_live 3 none), (62, Cond.initialized yX3_live.cls), (799, Cond.instanceMethod yX3_live), (800, Cond.selects yX3_live.cls yX3_live yX3_live), (802, Cond.methodLink RX3 58 yX3_breathe), (811, Cond.methodLink RX3 62 yX3_drink), (809, Cond.methodLink RX3 68 yX0_give)] := ec_alk (by decide +kernel)
theorem bw_X3_live : ec_cw yX3_live cX3_live 3 none := ⟨ba_X3_live.1, ba_X3_live.2.1, nc_RX3⟩
theorem bv_X3_live : Cond.instanceMethod yX3_live ∈ ec_tb ∧ Cond.selects yX3_live.cls yX3_live yX3_live ∈ ec_tb := ⟨ba_X3_live.2.2.1, ba_X3_live.2.2.2.1⟩
theorem bp_X3_live : (parseMethodDescriptor yX3_live.desc).map (fun d => d.parameters.length) = some 1 := by decide +kernel
theorem bk_X3_live (l : Launch) : ∀ (ix n : Nat) (rc : Option Nat) (sp : ex_S), (be_X3_live ix).map (fun q => (q.1, q.2.1, ab_sp ab_hd q.2.2)) = some (n, rc, sp) → ex_cok l RX3 3 69 ix n rc sp := by
  intro ix n rc sp h
  obtain ⟨l0, h2, rfl⟩ := ab_dmk h
  clear h
  unfold be_X3_live at h2
  split at h2
  · cases h2; exact ec_cV (bm_X3_breathe l) bw_X3_breathe bv_X3_breathe (by decide) (by decide) (Or.inl ba_X3_live.2.2.2.2.1) (T := TX3) (N := 7) rfl (by decide) bp_X3_breathe
  · cases h2; exact ec_cV (bm_X3_drink l) bw_X3_drink bv_X3_drink (by decide) (by decide) (Or.inl ba_X3_live.2.2.2.2.2.1) (T := TX3) (N := 7) rfl (by decide) bp_X3_drink
  · cases h2; exact ec_cV (bm_X0_give l) bw_X0_give bv_X0_give (by decide) (by decide) (Or.inl ba_X3_live.2.2.2.2.2.2.1) (T := TX0) (N := 8) rfl (by decide) bp_X0_give
  · cases h2
theorem bj_X3_live (l : Launch) : ex_ok l 3 69 bx_X3_live := ec_okp fo_X3 co_X3 so_X3 (bk_X3_live l)
theorem bm_X3_live (l : Launch) : ex_Met l yX3_live cX3_live 3 none 3 69 (ab_sp ab_hd bc_X3_live) := ab_met (by decide) pn_RX3 rfl (bj_X3_live l) bd_X3_live ab_hcm ab_xk bz_X3_live
theorem ba_X4_startOver : ec_al [(956, Cond.code yX4_startOver cX4_startOver 2 (some .int)), (66, Cond.initialized yX4_startOver.cls), (954, Cond.instanceMethod yX4_startOver), (955, Cond.selects yX4_startOver.cls yX4_startOver yX4_startOver)] := ec_alk (by decide +kernel)
theorem bw_X4_startOver : ec_cw yX4_startOver cX4_startOver 2 (some .int) := ⟨ba_X4_startOver.1, ba_X4_startOver.2.1, nc_RX4⟩
theorem bv_X4_startOver : Cond.instanceMethod yX4_startOver ∈ ec_tb ∧ Cond.selects yX4_startOver.cls yX4_startOver yX4_startOver ∈ ec_tb := ⟨ba_X4_startOver.2.2.1, ba_X4_startOver.2.2.2.1⟩
theorem bp_X4_startOver : (parseMethodDescriptor yX4_startOver.desc).map (fun d => d.parameters.length) = some 1 := by decide +kernel
theorem bj_X4_startOver (l : Launch) : ex_ok l 0 0 bx_X4_startOver := ec_okp fo_X4 co_X4 so_X4 (ec_okn)
theorem bm_X4_startOver (l : Launch) : ex_Met l yX4_startOver cX4_startOver 2 (some .int) 0 0 (ab_sp ab_hd bc_X4_startOver) := ab_met (by decide) pn_RX4 rfl (bj_X4_startOver l) bd_X4_startOver ab_hcm ab_xk bz_X4_startOver
theorem ba_X4_join : ec_al [(974, Cond.code yX4_join cX4_join 4 none), (66, Cond.initialized yX4_join.cls), (973, Cond.instanceMethod yX4_join), (20, Cond.selects yX4_join.cls yX4_join yX4_join)] := ec_alk (by decide +kernel)
theorem bw_X4_join : ec_cw yX4_join cX4_join 4 none := ⟨ba_X4_join.1, ba_X4_join.2.1, nc_RX4⟩
theorem bv_X4_join : Cond.instanceMethod yX4_join ∈ ec_tb ∧ Cond.selects yX4_join.cls yX4_join yX4_join ∈ ec_tb := ⟨ba_X4_join.2.2.1, ba_X4_join.2.2.2.1⟩
theorem bp_X4_join : (parseMethodDescriptor yX4_join.desc).map (fun d => d.parameters.length) = some 2 := by decide +kernel
theorem bj_X4_join (l : Launch) : ex_ok l 0 0 bx_X4_join := ec_okp fo_X4 co_X4 so_X4 (ec_okn)
theorem bm_X4_join (l : Launch) : ex_Met l yX4_join cX4_join 4 none 0 0 (ab_sp ab_hd bc_X4_join) := ab_met (by decide) pn_RX4 rfl (bj_X4_join l) bd_X4_join ab_hcm ab_xk bz_X4_join
theorem ba_X4_findParts : ec_al [(970, Cond.code yX4_findParts cX4_findParts 4 none), (66, Cond.initialized yX4_findParts.cls), (969, Cond.instanceMethod yX4_findParts), (19, Cond.selects yX4_findParts.cls yX4_findParts yX4_findParts), (971, Cond.methodLink RX4 59 yX4_join)] := ec_alk (by decide +kernel)
theorem bw_X4_findParts : ec_cw yX4_findParts cX4_findParts 4 none := ⟨ba_X4_findParts.1, ba_X4_findParts.2.1, nc_RX4⟩
theorem bv_X4_findParts : Cond.instanceMethod yX4_findParts ∈ ec_tb ∧ Cond.selects yX4_findParts.cls yX4_findParts yX4_findParts ∈ ec_tb := ⟨ba_X4_findParts.2.2.1, ba_X4_findParts.2.2.2.1⟩
theorem bp_X4_findParts : (parseMethodDescriptor yX4_findParts.desc).map (fun d => d.parameters.length) = some 2 := by decide +kernel
theorem bk_X4_findParts (l : Launch) : ∀ (ix n : Nat) (rc : Option Nat) (sp : ex_S), (be_X4_findParts ix).map (fun q => (q.1, q.2.1, ab_sp ab_hd q.2.2)) = some (n, rc, sp) → ex_cok l RX4 1 23 ix n rc sp := by
  intro ix n rc sp h
  obtain ⟨l0, h2, rfl⟩ := ab_dmk h
  clear h
  unfold be_X4_findParts at h2
  split at h2
  · cases h2; exact ec_cV (bm_X4_join l) bw_X4_join bv_X4_join (by decide) (by decide) (Or.inl ba_X4_findParts.2.2.2.2.1) (T := TX4) (N := 2) rfl (by decide) bp_X4_join
  · cases h2
theorem bj_X4_findParts (l : Launch) : ex_ok l 1 23 bx_X4_findParts := ec_okp fo_X4 co_X4 so_X4 (bk_X4_findParts l)
theorem bm_X4_findParts (l : Launch) : ex_Met l yX4_findParts cX4_findParts 4 none 1 23 (ab_sp ab_hd bc_X4_findParts) := ab_met (by decide) pn_RX4 rfl (bj_X4_findParts l) bd_X4_findParts ab_hcm ab_xk bz_X4_findParts
theorem ba_X4_narrow : ec_al [(964, Cond.code yX4_narrow cX4_narrow 5 (some .int)), (66, Cond.initialized yX4_narrow.cls), (962, Cond.instanceMethod yX4_narrow), (963, Cond.selects yX4_narrow.cls yX4_narrow yX4_narrow), (965, Cond.methodLink RX4 24 yX0_hasModule), (967, Cond.methodLink RX4 32 yX4_findParts)] := ec_alk (by decide +kernel)
theorem bw_X4_narrow : ec_cw yX4_narrow cX4_narrow 5 (some .int) := ⟨ba_X4_narrow.1, ba_X4_narrow.2.1, nc_RX4⟩
theorem bv_X4_narrow : Cond.instanceMethod yX4_narrow ∈ ec_tb ∧ Cond.selects yX4_narrow.cls yX4_narrow yX4_narrow ∈ ec_tb := ⟨ba_X4_narrow.2.2.1, ba_X4_narrow.2.2.2.1⟩
theorem bp_X4_narrow : (parseMethodDescriptor yX4_narrow.desc).map (fun d => d.parameters.length) = some 3 := by decide +kernel
theorem bk_X4_narrow (l : Launch) : ∀ (ix n : Nat) (rc : Option Nat) (sp : ex_S), (be_X4_narrow ix).map (fun q => (q.1, q.2.1, ab_sp ab_hd q.2.2)) = some (n, rc, sp) → ex_cok l RX4 2 46 ix n rc sp := by
  intro ix n rc sp h
  obtain ⟨l0, h2, rfl⟩ := ab_dmk h
  clear h
  unfold be_X4_narrow at h2
  split at h2
  · cases h2; exact ec_cV (bm_X0_hasModule l) bw_X0_hasModule bv_X0_hasModule (by decide) (by decide) (Or.inl ba_X4_narrow.2.2.2.2.1) (T := TX0) (N := 8) rfl (by decide) bp_X0_hasModule
  · cases h2; exact ec_cV (bm_X4_findParts l) bw_X4_findParts bv_X4_findParts (by decide) (by decide) (Or.inl ba_X4_narrow.2.2.2.2.2.1) (T := TX4) (N := 2) rfl (by decide) bp_X4_findParts
  · cases h2
theorem bj_X4_narrow (l : Launch) : ex_ok l 2 46 bx_X4_narrow := ec_okp fo_X4 co_X4 so_X4 (bk_X4_narrow l)
theorem bm_X4_narrow (l : Launch) : ex_Met l yX4_narrow cX4_narrow 5 (some .int) 2 46 (ab_sp ab_hd bc_X4_narrow) := ab_met (by decide) pn_RX4 rfl (bj_X4_narrow l) bd_X4_narrow ab_hcm ab_xk bz_X4_narrow
theorem ba_J6_bitCount_0f7a4 : ec_al [(657, Cond.code yJ6_bitCount_0f7a4 cJ6_bitCount_0f7a4 1 (some .int)), (69, Cond.initialized yJ6_bitCount_0f7a4.cls), (656, Cond.static yJ6_bitCount_0f7a4)] := ec_alk (by decide +kernel)
theorem bw_J6_bitCount_0f7a4 : ec_cw yJ6_bitCount_0f7a4 cJ6_bitCount_0f7a4 1 (some .int) := ⟨ba_J6_bitCount_0f7a4.1, ba_J6_bitCount_0f7a4.2.1, nc_RJ6⟩
theorem bv_J6_bitCount_0f7a4 : Cond.static yJ6_bitCount_0f7a4 ∈ ec_tb := ba_J6_bitCount_0f7a4.2.2.1
theorem bp_J6_bitCount_0f7a4 : (parseMethodDescriptor yJ6_bitCount_0f7a4.desc).map (fun d => d.parameters.length) = some 1 := by decide +kernel
theorem bo_J6_bitCount_0f7a4 : bl_J6_bitCount_0f7a4.all (fun q => decide (Cond.constant RJ6 q.1 q.2 ∈ lw_tbl) && goodWord (Cond.constant RJ6 q.1 q.2)) = true := by decide +kernel
theorem bj_J6_bitCount_0f7a4 (l : Launch) : ex_ok l 0 0 bx_J6_bitCount_0f7a4 := ⟨fun _ _ _ _ _ h => (by cases h), ec_cok bo_J6_bitCount_0f7a4, fun _ _ h => (by cases h), ec_okn, fun _ h => (by cases h), fun _ h => (by cases h), fun _ h => (by cases h), fun _ _ h => (by cases h)⟩
theorem bm_J6_bitCount_0f7a4 (l : Launch) : ex_Met l yJ6_bitCount_0f7a4 cJ6_bitCount_0f7a4 1 (some .int) 0 0 (ab_sp ab_hd bc_J6_bitCount_0f7a4) := ab_met (by decide) pn_RJ6 rfl (bj_J6_bitCount_0f7a4 l) bd_J6_bitCount_0f7a4 ab_hcm ab_xk bz_J6_bitCount_0f7a4
theorem ba_X4_leftAtWorst : ec_al [(987, Cond.code yX4_leftAtWorst cX4_leftAtWorst 5 (some .int)), (66, Cond.initialized yX4_leftAtWorst.cls), (986, Cond.instanceMethod yX4_leftAtWorst), (21, Cond.selects yX4_leftAtWorst.cls yX4_leftAtWorst yX4_leftAtWorst), (967, Cond.methodLink RX4 32 yX4_findParts), (988, Cond.methodLink RX4 41 yJ6_bitCount_0f7a4)] := ec_alk (by decide +kernel)
theorem bw_X4_leftAtWorst : ec_cw yX4_leftAtWorst cX4_leftAtWorst 5 (some .int) := ⟨ba_X4_leftAtWorst.1, ba_X4_leftAtWorst.2.1, nc_RX4⟩
theorem bv_X4_leftAtWorst : Cond.instanceMethod yX4_leftAtWorst ∈ ec_tb ∧ Cond.selects yX4_leftAtWorst.cls yX4_leftAtWorst yX4_leftAtWorst ∈ ec_tb := ⟨ba_X4_leftAtWorst.2.2.1, ba_X4_leftAtWorst.2.2.2.1⟩
theorem bp_X4_leftAtWorst : (parseMethodDescriptor yX4_leftAtWorst.desc).map (fun d => d.parameters.length) = some 2 := by decide +kernel
theorem bk_X4_leftAtWorst (l : Launch) : ∀ (ix n : Nat) (rc : Option Nat) (sp : ex_S), (be_X4_leftAtWorst ix).map (fun q => (q.1, q.2.1, ab_sp ab_hd q.2.2)) = some (n, rc, sp) → ex_cok l RX4 2 46 ix n rc sp := by
  intro ix n rc sp h
  obtain ⟨l0, h2, rfl⟩ := ab_dmk h
  clear h
  unfold be_X4_leftAtWorst at h2
  split at h2
  · cases h2; exact ec_cV (bm_X4_findParts l) bw_X4_findParts bv_X4_findParts (by decide) (by decide) (Or.inl ba_X4_leftAtWorst.2.2.2.2.1) (T := TX4) (N := 2) rfl (by decide) bp_X4_findParts
  · cases h2; exact ec_cS (bm_J6_bitCount_0f7a4 l) bw_J6_bitCount_0f7a4 bv_J6_bitCount_0f7a4 (by decide) (by decide) (Or.inl ba_X4_leftAtWorst.2.2.2.2.2.1) bp_J6_bitCount_0f7a4
  · cases h2
theorem bj_X4_leftAtWorst (l : Launch) : ex_ok l 2 46 bx_X4_leftAtWorst := ⟨ec_fok fo_X4, ec_cok co_X4, so_X4, bk_X4_leftAtWorst l, am_X4, ax_X4 (by decide) (by decide), ao_X4, fun _ _ h => (by cases h)⟩
theorem bm_X4_leftAtWorst (l : Launch) : ex_Met l yX4_leftAtWorst cX4_leftAtWorst 5 (some .int) 2 46 (ab_sp ab_hd bc_X4_leftAtWorst) := ab_met (by decide) pn_RX4 rfl (bj_X4_leftAtWorst l) bd_X4_leftAtWorst ab_hcm ab_xk bz_X4_leftAtWorst
theorem ba_X4_bestTest : ec_al [(983, Cond.code yX4_bestTest cX4_bestTest 9 (some .int)), (66, Cond.initialized yX4_bestTest.cls), (981, Cond.instanceMethod yX4_bestTest), (982, Cond.selects yX4_bestTest.cls yX4_bestTest yX4_bestTest), (984, Cond.methodLink RX4 37 yX4_leftAtWorst), (988, Cond.methodLink RX4 41 yJ6_bitCount_0f7a4)] := ec_alk (by decide +kernel)
theorem bw_X4_bestTest : ec_cw yX4_bestTest cX4_bestTest 9 (some .int) := ⟨ba_X4_bestTest.1, ba_X4_bestTest.2.1, nc_RX4⟩
theorem bv_X4_bestTest : Cond.instanceMethod yX4_bestTest ∈ ec_tb ∧ Cond.selects yX4_bestTest.cls yX4_bestTest yX4_bestTest ∈ ec_tb := ⟨ba_X4_bestTest.2.2.1, ba_X4_bestTest.2.2.2.1⟩
theorem bp_X4_bestTest : (parseMethodDescriptor yX4_bestTest.desc).map (fun d => d.parameters.length) = some 2 := by decide +kernel
theorem bk_X4_bestTest (l : Launch) : ∀ (ix n : Nat) (rc : Option Nat) (sp : ex_S), (be_X4_bestTest ix).map (fun q => (q.1, q.2.1, ab_sp ab_hd q.2.2)) = some (n, rc, sp) → ex_cok l RX4 3 70 ix n rc sp := by
  intro ix n rc sp h
  obtain ⟨l0, h2, rfl⟩ := ab_dmk h
  clear h
  unfold be_X4_bestTest at h2
  split at h2
  · cases h2; exact ec_cV (bm_X4_leftAtWorst l) bw_X4_leftAtWorst bv_X4_leftAtWorst (by decide) (by decide) (Or.inl ba_X4_bestTest.2.2.2.2.1) (T := TX4) (N := 2) rfl (by decide) bp_X4_leftAtWorst
  · cases h2; exact ec_cS (bm_J6_bitCount_0f7a4 l) bw_J6_bitCount_0f7a4 bv_J6_bitCount_0f7a4 (by decide) (by decide) (Or.inl ba_X4_bestTest.2.2.2.2.2.1) bp_J6_bitCount_0f7a4
  · cases h2
theorem bj_X4_bestTest (l : Launch) : ex_ok l 3 70 bx_X4_bestTest := ec_okp fo_X4 co_X4 so_X4 (bk_X4_bestTest l)
theorem bm_X4_bestTest (l : Launch) : ex_Met l yX4_bestTest cX4_bestTest 9 (some .int) 3 70 (ab_sp ab_hd bc_X4_bestTest) := ab_met (by decide) pn_RX4 rfl (bj_X4_bestTest l) bd_X4_bestTest ab_hcm ab_xk bz_X4_bestTest
theorem ba_X5_isSensor : ec_al [(1006, Cond.code yX5_isSensor cX5_isSensor 1 (some .boolean)), (67, Cond.initialized yX5_isSensor.cls), (1005, Cond.static yX5_isSensor)] := ec_alk (by decide +kernel)
theorem bw_X5_isSensor : ec_cw yX5_isSensor cX5_isSensor 1 (some .boolean) := ⟨ba_X5_isSensor.1, ba_X5_isSensor.2.1, nc_RX5⟩
theorem bv_X5_isSensor : Cond.static yX5_isSensor ∈ ec_tb := ba_X5_isSensor.2.2.1
theorem bp_X5_isSensor : (parseMethodDescriptor yX5_isSensor.desc).map (fun d => d.parameters.length) = some 1 := by decide +kernel
theorem bj_X5_isSensor (l : Launch) : ex_ok l 0 0 bx_X5_isSensor := ec_okp fo_X5 co_X5 so_X5 (ec_okn)
theorem bm_X5_isSensor (l : Launch) : ex_Met l yX5_isSensor cX5_isSensor 1 (some .boolean) 0 0 (ab_sp ab_hd bc_X5_isSensor) := ab_met (by decide) pn_RX5 rfl (bj_X5_isSensor l) bd_X5_isSensor ab_hcm ab_xk bz_X5_isSensor
theorem ba_X5_addReading : ec_al [(1003, Cond.code yX5_addReading cX5_addReading 4 (some .int)), (67, Cond.initialized yX5_addReading.cls), (1001, Cond.instanceMethod yX5_addReading), (1002, Cond.selects yX5_addReading.cls yX5_addReading yX5_addReading), (1004, Cond.methodLink RX5 37 yX5_isSensor)] := ec_alk (by decide +kernel)
theorem bw_X5_addReading : ec_cw yX5_addReading cX5_addReading 4 (some .int) := ⟨ba_X5_addReading.1, ba_X5_addReading.2.1, nc_RX5⟩
theorem bv_X5_addReading : Cond.instanceMethod yX5_addReading ∈ ec_tb ∧ Cond.selects yX5_addReading.cls yX5_addReading yX5_addReading ∈ ec_tb := ⟨ba_X5_addReading.2.2.1, ba_X5_addReading.2.2.2.1⟩
theorem bp_X5_addReading : (parseMethodDescriptor yX5_addReading.desc).map (fun d => d.parameters.length) = some 3 := by decide +kernel
theorem bk_X5_addReading (l : Launch) : ∀ (ix n : Nat) (rc : Option Nat) (sp : ex_S), (be_X5_addReading ix).map (fun q => (q.1, q.2.1, ab_sp ab_hd q.2.2)) = some (n, rc, sp) → ex_cok l RX5 1 20 ix n rc sp := by
  intro ix n rc sp h
  obtain ⟨l0, h2, rfl⟩ := ab_dmk h
  clear h
  unfold be_X5_addReading at h2
  split at h2
  · cases h2; exact ec_cS (bm_X5_isSensor l) bw_X5_isSensor bv_X5_isSensor (by decide) (by decide) (Or.inl ba_X5_addReading.2.2.2.2.1) bp_X5_isSensor
  · cases h2
theorem bj_X5_addReading (l : Launch) : ex_ok l 1 20 bx_X5_addReading := ec_okp fo_X5 co_X5 so_X5 (bk_X5_addReading l)
theorem bm_X5_addReading (l : Launch) : ex_Met l yX5_addReading cX5_addReading 4 (some .int) 1 20 (ab_sp ab_hd bc_X5_addReading) := ab_met (by decide) pn_RX5 rfl (bj_X5_addReading l) bd_X5_addReading ab_hcm ab_xk bz_X5_addReading
theorem ba_X5_addCalibration : ec_al [(1016, Cond.code yX5_addCalibration cX5_addCalibration 4 (some .int)), (67, Cond.initialized yX5_addCalibration.cls), (1014, Cond.instanceMethod yX5_addCalibration), (1015, Cond.selects yX5_addCalibration.cls yX5_addCalibration yX5_addCalibration), (1004, Cond.methodLink RX5 37 yX5_isSensor)] := ec_alk (by decide +kernel)
theorem bw_X5_addCalibration : ec_cw yX5_addCalibration cX5_addCalibration 4 (some .int) := ⟨ba_X5_addCalibration.1, ba_X5_addCalibration.2.1, nc_RX5⟩
theorem bv_X5_addCalibration : Cond.instanceMethod yX5_addCalibration ∈ ec_tb ∧ Cond.selects yX5_addCalibration.cls yX5_addCalibration yX5_addCalibration ∈ ec_tb := ⟨ba_X5_addCalibration.2.2.1, ba_X5_addCalibration.2.2.2.1⟩
theorem bp_X5_addCalibration : (parseMethodDescriptor yX5_addCalibration.desc).map (fun d => d.parameters.length) = some 3 := by decide +kernel
theorem bk_X5_addCalibration (l : Launch) : ∀ (ix n : Nat) (rc : Option Nat) (sp : ex_S), (be_X5_addCalibration ix).map (fun q => (q.1, q.2.1, ab_sp ab_hd q.2.2)) = some (n, rc, sp) → ex_cok l RX5 1 20 ix n rc sp := by
  intro ix n rc sp h
  obtain ⟨l0, h2, rfl⟩ := ab_dmk h
  clear h
  unfold be_X5_addCalibration at h2
  split at h2
  · cases h2; exact ec_cS (bm_X5_isSensor l) bw_X5_isSensor bv_X5_isSensor (by decide) (by decide) (Or.inl ba_X5_addCalibration.2.2.2.2.1) bp_X5_isSensor
  · cases h2
theorem bj_X5_addCalibration (l : Launch) : ex_ok l 1 20 bx_X5_addCalibration := ec_okp fo_X5 co_X5 so_X5 (bk_X5_addCalibration l)
theorem bm_X5_addCalibration (l : Launch) : ex_Met l yX5_addCalibration cX5_addCalibration 4 (some .int) 1 20 (ab_sp ab_hd bc_X5_addCalibration) := ab_met (by decide) pn_RX5 rfl (bj_X5_addCalibration l) bd_X5_addCalibration ab_hcm ab_xk bz_X5_addCalibration
theorem ba_X5_setDelay : ec_al [(1040, Cond.code yX5_setDelay cX5_setDelay 3 (some .int)), (67, Cond.initialized yX5_setDelay.cls), (1038, Cond.instanceMethod yX5_setDelay), (1039, Cond.selects yX5_setDelay.cls yX5_setDelay yX5_setDelay)] := ec_alk (by decide +kernel)
theorem bw_X5_setDelay : ec_cw yX5_setDelay cX5_setDelay 3 (some .int) := ⟨ba_X5_setDelay.1, ba_X5_setDelay.2.1, nc_RX5⟩
theorem bv_X5_setDelay : Cond.instanceMethod yX5_setDelay ∈ ec_tb ∧ Cond.selects yX5_setDelay.cls yX5_setDelay yX5_setDelay ∈ ec_tb := ⟨ba_X5_setDelay.2.2.1, ba_X5_setDelay.2.2.2.1⟩
theorem bp_X5_setDelay : (parseMethodDescriptor yX5_setDelay.desc).map (fun d => d.parameters.length) = some 1 := by decide +kernel
theorem bj_X5_setDelay (l : Launch) : ex_ok l 0 0 bx_X5_setDelay := ec_okp fo_X5 co_X5 so_X5 (ec_okn)
theorem bm_X5_setDelay (l : Launch) : ex_Met l yX5_setDelay cX5_setDelay 3 (some .int) 0 0 (ab_sp ab_hd bc_X5_setDelay) := ab_met (by decide) pn_RX5 rfl (bj_X5_setDelay l) bd_X5_setDelay ab_hcm ab_xk bz_X5_setDelay
theorem ba_X5_latestHeard : ec_al [(1048, Cond.code yX5_latestHeard cX5_latestHeard 4 (some .int)), (67, Cond.initialized yX5_latestHeard.cls), (1046, Cond.instanceMethod yX5_latestHeard), (1047, Cond.selects yX5_latestHeard.cls yX5_latestHeard yX5_latestHeard), (1004, Cond.methodLink RX5 37 yX5_isSensor)] := ec_alk (by decide +kernel)
theorem bw_X5_latestHeard : ec_cw yX5_latestHeard cX5_latestHeard 4 (some .int) := ⟨ba_X5_latestHeard.1, ba_X5_latestHeard.2.1, nc_RX5⟩
theorem bv_X5_latestHeard : Cond.instanceMethod yX5_latestHeard ∈ ec_tb ∧ Cond.selects yX5_latestHeard.cls yX5_latestHeard yX5_latestHeard ∈ ec_tb := ⟨ba_X5_latestHeard.2.2.1, ba_X5_latestHeard.2.2.2.1⟩
theorem bp_X5_latestHeard : (parseMethodDescriptor yX5_latestHeard.desc).map (fun d => d.parameters.length) = some 2 := by decide +kernel
theorem bk_X5_latestHeard (l : Launch) : ∀ (ix n : Nat) (rc : Option Nat) (sp : ex_S), (be_X5_latestHeard ix).map (fun q => (q.1, q.2.1, ab_sp ab_hd q.2.2)) = some (n, rc, sp) → ex_cok l RX5 1 20 ix n rc sp := by
  intro ix n rc sp h
  obtain ⟨l0, h2, rfl⟩ := ab_dmk h
  clear h
  unfold be_X5_latestHeard at h2
  split at h2
  · cases h2; exact ec_cS (bm_X5_isSensor l) bw_X5_isSensor bv_X5_isSensor (by decide) (by decide) (Or.inl ba_X5_latestHeard.2.2.2.2.1) bp_X5_isSensor
  · cases h2
theorem bj_X5_latestHeard (l : Launch) : ex_ok l 1 20 bx_X5_latestHeard := ec_okp fo_X5 co_X5 so_X5 (bk_X5_latestHeard l)
theorem bm_X5_latestHeard (l : Launch) : ex_Met l yX5_latestHeard cX5_latestHeard 4 (some .int) 1 20 (ab_sp ab_hd bc_X5_latestHeard) := ab_met (by decide) pn_RX5 rfl (bj_X5_latestHeard l) bd_X5_latestHeard ab_hcm ab_xk bz_X5_latestHeard
theorem ba_X5_between : ec_al [(1032, Cond.code yX5_between cX5_between 6 (some .int)), (67, Cond.initialized yX5_between.cls), (1031, Cond.instanceMethod yX5_between), (23, Cond.selects yX5_between.cls yX5_between yX5_between)] := ec_alk (by decide +kernel)
theorem bw_X5_between : ec_cw yX5_between cX5_between 6 (some .int) := ⟨ba_X5_between.1, ba_X5_between.2.1, nc_RX5⟩
theorem bv_X5_between : Cond.instanceMethod yX5_between ∈ ec_tb ∧ Cond.selects yX5_between.cls yX5_between yX5_between ∈ ec_tb := ⟨ba_X5_between.2.2.1, ba_X5_between.2.2.2.1⟩
theorem bp_X5_between : (parseMethodDescriptor yX5_between.desc).map (fun d => d.parameters.length) = some 3 := by decide +kernel
theorem bj_X5_between (l : Launch) : ex_ok l 0 0 bx_X5_between := ec_okp fo_X5 co_X5 so_X5 (ec_okn)
theorem hx_vp {i : Int32} {n : Nat} (h1 : 0 ≤ i.toInt) (h2 : i.toInt < (n : Int)) : vp_in i n := by
  intro h
  rcases h with h | h
  · rw [Int32.lt_iff_toInt_lt] at h
    have h0 : (0 : Int32).toInt = 0 := by decide
    omega
  · have e : i.toNatClampNeg = i.toInt.toNat := rfl
    omega
theorem hx_inc {x : Int32} (h1 : -1000 ≤ x.toInt) (h2 : x.toInt ≤ 1000) : (x + Int32.ofInt 1).toInt = x.toInt + 1 := by
  rw [Int32.toInt_add]
  have : (Int32.ofInt 1).toInt = 1 := by decide
  rw [this, ab_bm (by omega) (by omega)]
theorem hx_z0 : (0 : Int32).toInt = 0 := by decide
theorem hx_zm : (-1 : Int32).toInt = -1 := by decide
theorem hx_sub0 {x y : Int32} (h : ¬ x.toInt = y.toInt) : ¬ x - y = 0 := by
  intro e
  apply h
  have h2 := congrArg Int32.toInt e
  rw [Int32.toInt_sub, hx_z0, Int.bmod_def] at h2
  have := ab_ge x
  have := ab_lt' x
  have := ab_ge y
  have := ab_lt' y
  have e32 : ((2 ^ 32 : Nat) : Int) = 4294967296 := by decide
  rw [e32] at h2
  omega
theorem hx_call {hd : List ab_H} {l : List ab_C} {c : ab_C} {av : ex_V} {cs : ex_C} {Q : ex_Q} (i : Nat) (hl : l[i]? = some c) (hp : ab_pre c av cs) (hk : ab_hk hd cs) (h : ∀ r cs', ab_post hd c av cs r cs' → Q r cs') : ab_sp hd l av cs Q := ⟨c, List.mem_of_getElem? hl, hp, hk, h⟩
theorem hx_p1 {p : Nat} {x : Int32} {l1 h1 : Int} {W : ab_W} {k : List ab_Cs} {cs : ex_C} (b1 : l1 ≤ x.toInt ∧ x.toInt ≤ h1) : ab_pre ([.inl p, .inr (l1, h1)], [], W, k) [.ref p, .int x] cs := by
  refine ⟨rfl, fun i t h => ?_, fun q hq => (by cases hq)⟩
  match i, h with
  | 0, h => cases h; exact ⟨_, rfl, rfl⟩
  | 1, h => cases h; exact ⟨_, rfl, x, rfl, b1.1, b1.2⟩
  | i + 2, h => simp at h
theorem hx_p2 {p : Nat} {x y : Int32} {l1 h1 l2 h2 : Int} {W : ab_W} {k : List ab_Cs} {cs : ex_C} (b1 : l1 ≤ x.toInt ∧ x.toInt ≤ h1) (b2 : l2 ≤ y.toInt ∧ y.toInt ≤ h2) : ab_pre ([.inl p, .inr (l1, h1), .inr (l2, h2)], [], W, k) [.ref p, .int x, .int y] cs := by
  refine ⟨rfl, fun i t h => ?_, fun q hq => (by cases hq)⟩
  match i, h with
  | 0, h => cases h; exact ⟨_, rfl, rfl⟩
  | 1, h => cases h; exact ⟨_, rfl, x, rfl, b1.1, b1.2⟩
  | 2, h => cases h; exact ⟨_, rfl, y, rfl, b2.1, b2.2⟩
  | i + 3, h => simp at h
theorem hx_p3 {p : Nat} {x y z : Int32} {l1 h1 l2 h2 l3 h3 : Int} {W : ab_W} {k : List ab_Cs} {cs : ex_C} (b1 : l1 ≤ x.toInt ∧ x.toInt ≤ h1) (b2 : l2 ≤ y.toInt ∧ y.toInt ≤ h2) (b3 : l3 ≤ z.toInt ∧ z.toInt ≤ h3) : ab_pre ([.inl p, .inr (l1, h1), .inr (l2, h2), .inr (l3, h3)], [], W, k) [.ref p, .int x, .int y, .int z] cs := by
  refine ⟨rfl, fun i t h => ?_, fun q hq => (by cases hq)⟩
  match i, h with
  | 0, h => cases h; exact ⟨_, rfl, rfl⟩
  | 1, h => cases h; exact ⟨_, rfl, x, rfl, b1.1, b1.2⟩
  | 2, h => cases h; exact ⟨_, rfl, y, rfl, b2.1, b2.2⟩
  | 3, h => cases h; exact ⟨_, rfl, z, rfl, b3.1, b3.2⟩
  | i + 4, h => simp at h
theorem hx_tb (x : Int32) : -2147483648 ≤ x.toInt ∧ x.toInt ≤ 2147483647 := ⟨ab_ge x, ab_lt' x⟩
/-- a call that tells one number -/
theorem hx_ret {hd : List ab_H} {ts : List ab_T} {pf : ab_F} {W : ab_W} {lo hi : Int} {i : Nat} {av : ex_V} {cs cs' : ex_C} {r : Option Value} (h : ab_post hd (ts, pf, W, [(some (lo, hi, some (i, 0)), [], [])]) av cs r cs') : ab_hk hd cs' ∧ ab_fr W cs cs' ∧ ∃ x : Int32, r = some (.int x) ∧ x.toInt = ab_oo (av.map some) cs i := by
  obtain ⟨h1, h2, k, hk, hr, -, -⟩ := h
  refine ⟨h1, h2, ?_⟩
  rcases List.mem_singleton.mp hk with rfl
  obtain ⟨x, e, -, hd⟩ := hr
  have := hd _ rfl
  exact ⟨x, e, by dsimp only at this; omega⟩
/-- a call that answers one constant -/
theorem hx_pin {hd : List ab_H} {c : ab_C} {z : Int} {av : ex_V} {cs cs' : ex_C} {r : Option Value} (hc : c.2.2.2.all (fun k => match k.1 with | some q => decide (q.1 = z ∧ q.2.1 = z) | none => false) = true) (h : ab_post hd c av cs r cs') : ab_hk hd cs' ∧ ab_fr c.2.2.1 cs cs' ∧ ∃ x : Int32, r = some (.int x) ∧ x.toInt = z := by
  obtain ⟨h1, h2, k, hk, hr, -, -⟩ := h
  refine ⟨h1, h2, ?_⟩
  have h3 := List.all_eq_true.mp hc k hk
  unfold ab_rt at hr
  split at hr
  · rename_i e
    rw [e] at h3
    cases h3
  · rename_i q e
    rw [e] at h3
    have h4 := of_decide_eq_true h3
    obtain ⟨x, hx, hb, -⟩ := hr
    exact ⟨x, hx, by omega⟩
theorem hx_oo {lv : ex_L} {cs : ex_C} {n : Nat} (h : n < 100000000) : ab_oo lv cs (900000000 + n) = ab_gh n (fun k => (ab_li lv k).getD 0) cs := by
  rw [ab_oob' (by omega)]
  unfold ab_ob
  rw [if_neg (by omega), if_neg (by omega), Nat.add_sub_cancel_left]
theorem hx_oi (x : Int32) : Int32.ofInt x.toInt = x := Int32.ofInt_toInt x
theorem hx_g4 {cs : ex_C} {b a t : Int32} {g e : Nat → Int32} (hg : gi cs 72 = g) (he : gi cs 73 = e) : ab_oo ([Value.ref 66, .int b, .int a, .int t].map some) cs 900000004 = (wk_d true g e t b.toNatClampNeg a.toNatClampNeg).toInt := by
  have h := hx_oo (lv := [Value.ref 66, .int b, .int a, .int t].map some) (cs := cs) (n := 4) (by omega)
  rw [ge_4] at h
  unfold gh_4 at h
  rw [hg, he] at h
  have h' : ab_oo ([Value.ref 66, .int b, .int a, .int t].map some) cs 900000004 = (wk_d true g e (Int32.ofInt t.toInt) b.toInt.toNat a.toInt.toNat).toInt := h
  rw [hx_oi] at h'
  exact h'
theorem hx_g2 {cs : ex_C} {s t : Int32} {f g e : Nat → Int32} {n : Int32} (hf : gi cs 71 = f) (hg : gi cs 72 = g) (he : gi cs 73 = e) (hn : gi cs 66 8 = n) : ab_oo ([Value.ref 66, .int s, .int t].map some) cs 900000002 = (wk_t true f g e s t n.toNatClampNeg).toInt := by
  have h := hx_oo (lv := [Value.ref 66, .int s, .int t].map some) (cs := cs) (n := 2) (by omega)
  rw [ge_2] at h
  unfold gh_2 at h
  rw [hf, hg, he, hn] at h
  have h' : ab_oo ([Value.ref 66, .int s, .int t].map some) cs 900000002 = (wk_t true f g e (Int32.ofInt s.toInt) (Int32.ofInt t.toInt) n.toInt.toNat).toInt := h
  rw [hx_oi, hx_oi] at h'
  exact h'
theorem hx_g3 {cs : ex_C} {s t : Int32} {f g e : Nat → Int32} {n : Int32} (hf : gi cs 110 = f) (hg : gi cs 111 = g) (he : gi cs 112 = e) (hn : gi cs 76 45 = n) : ab_oo ([Value.ref 76, .int s, .int t].map some) cs 900000003 = (wk_t false f g e s t n.toNatClampNeg).toInt := by
  have h := hx_oo (lv := [Value.ref 76, .int s, .int t].map some) (cs := cs) (n := 3) (by omega)
  rw [ge_3] at h
  unfold gh_3 at h
  rw [hf, hg, he, hn] at h
  have h' : ab_oo ([Value.ref 76, .int s, .int t].map some) cs 900000003 = (wk_t false f g e (Int32.ofInt s.toInt) (Int32.ofInt t.toInt) n.toInt.toNat).toInt := h
  rw [hx_oi, hx_oi] at h'
  exact h'
theorem wx_n {i : Int32} (h : 0 ≤ i.toInt) (h2 : i.toInt ≤ 1000) : (i + Int32.ofInt 1).toNatClampNeg = i.toNatClampNeg + 1 := by
  have e := hx_inc (x := i) (by omega) h2
  show (i + Int32.ofInt 1).toInt.toNat = i.toInt.toNat + 1
  rw [e]
  omega
theorem wx_i {i : Int32} (h : 0 ≤ i.toInt) : ((i.toNatClampNeg : Nat) : Int) = i.toInt := Int.toNat_of_nonneg h
section WX
variable {f g e : Nat → Int32} {s t bf af i : Int32}
theorem wx_0 (hw : wk_l f g s t i.toNatClampNeg = (bf.toInt, af.toInt)) (h0 : 0 ≤ i.toInt) (h1 : i.toInt ≤ 1000) (h : ¬ (f i.toNatClampNeg).toInt = s.toInt) : wk_l f g s t (i + Int32.ofInt 1).toNatClampNeg = (bf.toInt, af.toInt) := by
  rw [wx_n h0 h1, wk_l0 (fun q => h (by rw [q])), hw]
theorem wx_1 (hw : wk_l f g s t i.toNatClampNeg = (bf.toInt, af.toInt)) (h0 : 0 ≤ i.toInt) (h1 : i.toInt ≤ 1000) (h : (f i.toNatClampNeg).toInt = s.toInt) (h2 : (g i.toNatClampNeg).toInt ≤ t.toInt) : wk_l f g s t (i + Int32.ofInt 1).toNatClampNeg = (i.toInt, af.toInt) := by
  rw [wx_n h0 h1, wk_l1 (Int32.toInt_inj.mp h) h2, hw, wx_i h0]
theorem wx_2 (hw : wk_l f g s t i.toNatClampNeg = (bf.toInt, af.toInt)) (h0 : 0 ≤ i.toInt) (h1 : i.toInt ≤ 1000) (h : (f i.toNatClampNeg).toInt = s.toInt) (h2 : t.toInt < (g i.toNatClampNeg).toInt) (h3 : af.toInt < 0 ∨ (g i.toNatClampNeg).toInt = (g af.toNatClampNeg).toInt) : wk_l f g s t (i + Int32.ofInt 1).toNatClampNeg = (bf.toInt, i.toInt) := by
  rw [wx_n h0 h1, wk_l2 (Int32.toInt_inj.mp h) (by omega) (by
    rw [hw]
    rcases h3 with h3 | h3
    · exact Or.inl h3
    · exact Or.inr (Int32.toInt_inj.mp h3)), hw, wx_i h0]
theorem wx_3 (hw : wk_l f g s t i.toNatClampNeg = (bf.toInt, af.toInt)) (h0 : 0 ≤ i.toInt) (h1 : i.toInt ≤ 1000) (h : (f i.toNatClampNeg).toInt = s.toInt) (h2 : t.toInt < (g i.toNatClampNeg).toInt) (h3 : 0 ≤ af.toInt) (h4 : ¬ (g i.toNatClampNeg).toInt = (g af.toNatClampNeg).toInt) : wk_l f g s t (i + Int32.ofInt 1).toNatClampNeg = (bf.toInt, af.toInt) := by
  rw [wx_n h0 h1, wk_l3 (Int32.toInt_inj.mp h) (by omega) (by
    rw [hw]
    rintro (q | q)
    · have q' : af.toInt < 0 := q
      omega
    · exact h4 (congrArg Int32.toInt q)), hw]
theorem wx_b (hw : wk_l f g s t i.toNatClampNeg = (bf.toInt, af.toInt)) : (bf.toInt = -1 ∨ (0 ≤ bf.toInt ∧ bf.toInt < (i.toNatClampNeg : Int) ∧ (g bf.toNatClampNeg).toInt ≤ t.toInt)) ∧ (af.toInt = -1 ∨ (0 ≤ af.toInt ∧ af.toInt < (i.toNatClampNeg : Int) ∧ t.toInt < (g af.toNatClampNeg).toInt)) := by
  have h := wk_b (f := f) (g := g) (s := s) (t := t) i.toNatClampNeg
  rw [hw] at h
  exact h
theorem wx_l (hw : wk_l f g s t i.toNatClampNeg = (bf.toInt, af.toInt)) (h0 : 0 ≤ i.toInt) (h1 : i.toInt ≤ 20) : (-1 ≤ bf.toInt ∧ bf.toInt ≤ 19) ∧ (-1 ≤ af.toInt ∧ af.toInt ≤ 19) := by
  have h := wx_b hw
  have hi := wx_i h0
  omega
theorem wx_ne (hw : wk_l f g s t i.toNatClampNeg = (bf.toInt, af.toInt)) (h0 : 0 ≤ bf.toInt) (h1 : 0 ≤ af.toInt) : ¬ (g af.toNatClampNeg).toInt = (g bf.toNatClampNeg).toInt := by
  have h := wx_b hw
  omega
theorem wy_0 {c : Bool} (hw : wk_l f g s t i.toNatClampNeg = (bf.toInt, af.toInt)) (h0 : bf.toInt < 0) (h1 : af.toInt < 0) : (0 : Int32) = wk_t c f g e s t i.toNatClampNeg := by
  unfold wk_t
  rw [hw]
  show _ = if bf.toInt < 0 then (if af.toInt < 0 then _ else _) else _
  rw [if_pos h0, if_pos h1]
theorem wy_1 {c : Bool} (hw : wk_l f g s t i.toNatClampNeg = (bf.toInt, af.toInt)) (h0 : bf.toInt < 0) (h1 : 0 ≤ af.toInt) : e af.toNatClampNeg = wk_t c f g e s t i.toNatClampNeg := by
  unfold wk_t
  rw [hw]
  show _ = if bf.toInt < 0 then (if af.toInt < 0 then _ else e af.toInt.toNat) else _
  rw [if_pos h0, if_neg (by omega)]
  rfl
theorem wy_2 {c : Bool} (hw : wk_l f g s t i.toNatClampNeg = (bf.toInt, af.toInt)) (h0 : 0 ≤ bf.toInt) (h1 : af.toInt < 0) : e bf.toNatClampNeg = wk_t c f g e s t i.toNatClampNeg := by
  unfold wk_t
  rw [hw]
  show _ = if bf.toInt < 0 then _ else if af.toInt < 0 then e bf.toInt.toNat else _
  rw [if_neg (by omega), if_pos h1]
  rfl
theorem wy_3 {c : Bool} (hw : wk_l f g s t i.toNatClampNeg = (bf.toInt, af.toInt)) (h0 : 0 ≤ bf.toInt) (h1 : 0 ≤ af.toInt) : wk_d c g e t bf.toNatClampNeg af.toNatClampNeg = wk_t c f g e s t i.toNatClampNeg := by
  unfold wk_t
  rw [hw]
  show _ = if bf.toInt < 0 then _ else if af.toInt < 0 then _ else wk_d c g e t bf.toInt.toNat af.toInt.toNat
  rw [if_neg (by omega), if_neg (by omega)]
  rfl
theorem wy_4 {b a : Nat} : e b + (e a - e b) * (t - g b) / (g a - g b) = wk_d false g e t b a := by
  unfold wk_d
  rw [if_neg (by simp)]
theorem wy_5 {b a : Nat} (h : (0 : Int) < (g a - g b).toInt) : e b + (e a - e b) * (t - g b) / (g a - g b) = wk_d true g e t b a := by
  unfold wk_d
  rw [if_neg (by omega)]
theorem wy_6 {b a : Nat} (h : (g a - g b).toInt ≤ 0) : e b = wk_d true g e t b a := by
  unfold wk_d
  rw [if_pos ⟨rfl, h⟩]
end WX
theorem hx_p0 {x : Int32} (h : (0 : Int) < x.toInt) : ¬ x = 0 := by
  intro e
  rw [e, hx_z0] at h
  omega
theorem dX5_between_0 : decode cX5_between 0 = .ok (.aload_n 0, 1) := by decide +kernel
theorem dX5_between_1 : decode cX5_between 1 = .ok (.getfield 27, 3) := by decide +kernel
theorem dX5_between_4 : decode cX5_between 4 = .ok (.iload_n 2, 1) := by decide +kernel
theorem dX5_between_5 : decode cX5_between 5 = .ok (.iaload, 1) := by decide +kernel
theorem dX5_between_6 : decode cX5_between 6 = .ok (.aload_n 0, 1) := by decide +kernel
theorem dX5_between_7 : decode cX5_between 7 = .ok (.getfield 27, 3) := by decide +kernel
theorem dX5_between_10 : decode cX5_between 10 = .ok (.iload_n 1, 1) := by decide +kernel
theorem dX5_between_11 : decode cX5_between 11 = .ok (.iaload, 1) := by decide +kernel
theorem dX5_between_12 : decode cX5_between 12 = .ok (.isub, 1) := by decide +kernel
theorem dX5_between_13 : decode cX5_between 13 = .ok (.istore 4, 2) := by decide +kernel
theorem dX5_between_15 : decode cX5_between 15 = .ok (.iload 4, 2) := by decide +kernel
theorem dX5_between_17 : decode cX5_between 17 = .ok (.ifCond .gt 10, 3) := by decide +kernel
theorem dX5_between_20 : decode cX5_between 20 = .ok (.aload_n 0, 1) := by decide +kernel
theorem dX5_between_21 : decode cX5_between 21 = .ok (.getfield 30, 3) := by decide +kernel
theorem dX5_between_24 : decode cX5_between 24 = .ok (.iload_n 1, 1) := by decide +kernel
theorem dX5_between_25 : decode cX5_between 25 = .ok (.iaload, 1) := by decide +kernel
theorem dX5_between_26 : decode cX5_between 26 = .ok (.ireturn, 1) := by decide +kernel
theorem dX5_between_27 : decode cX5_between 27 = .ok (.aload_n 0, 1) := by decide +kernel
theorem dX5_between_28 : decode cX5_between 28 = .ok (.getfield 30, 3) := by decide +kernel
theorem dX5_between_31 : decode cX5_between 31 = .ok (.iload_n 2, 1) := by decide +kernel
theorem dX5_between_32 : decode cX5_between 32 = .ok (.iaload, 1) := by decide +kernel
theorem dX5_between_33 : decode cX5_between 33 = .ok (.aload_n 0, 1) := by decide +kernel
theorem dX5_between_34 : decode cX5_between 34 = .ok (.getfield 30, 3) := by decide +kernel
theorem dX5_between_37 : decode cX5_between 37 = .ok (.iload_n 1, 1) := by decide +kernel
theorem dX5_between_38 : decode cX5_between 38 = .ok (.iaload, 1) := by decide +kernel
theorem dX5_between_39 : decode cX5_between 39 = .ok (.isub, 1) := by decide +kernel
theorem dX5_between_40 : decode cX5_between 40 = .ok (.istore 5, 2) := by decide +kernel
theorem dX5_between_42 : decode cX5_between 42 = .ok (.aload_n 0, 1) := by decide +kernel
theorem dX5_between_43 : decode cX5_between 43 = .ok (.getfield 30, 3) := by decide +kernel
theorem dX5_between_46 : decode cX5_between 46 = .ok (.iload_n 1, 1) := by decide +kernel
theorem dX5_between_47 : decode cX5_between 47 = .ok (.iaload, 1) := by decide +kernel
theorem dX5_between_48 : decode cX5_between 48 = .ok (.iload 5, 2) := by decide +kernel
theorem dX5_between_50 : decode cX5_between 50 = .ok (.iload_n 3, 1) := by decide +kernel
theorem dX5_between_51 : decode cX5_between 51 = .ok (.aload_n 0, 1) := by decide +kernel
theorem dX5_between_52 : decode cX5_between 52 = .ok (.getfield 27, 3) := by decide +kernel
theorem dX5_between_55 : decode cX5_between 55 = .ok (.iload_n 1, 1) := by decide +kernel
theorem dX5_between_56 : decode cX5_between 56 = .ok (.iaload, 1) := by decide +kernel
theorem dX5_between_57 : decode cX5_between 57 = .ok (.isub, 1) := by decide +kernel
theorem dX5_between_58 : decode cX5_between 58 = .ok (.imul, 1) := by decide +kernel
theorem dX5_between_59 : decode cX5_between 59 = .ok (.iload 4, 2) := by decide +kernel
theorem dX5_between_61 : decode cX5_between 61 = .ok (.idiv, 1) := by decide +kernel
theorem dX5_between_62 : decode cX5_between 62 = .ok (.iadd, 1) := by decide +kernel
theorem dX5_between_63 : decode cX5_between 63 = .ok (.ireturn, 1) := by decide +kernel
theorem hx_av4 {av : ex_V} {a b c d : Value} (hl : av.length = 4) (e0 : av[0]? = some a) (e1 : av[1]? = some b) (e2 : av[2]? = some c) (e3 : av[3]? = some d) : av = [a, b, c, d] := by
  match av, hl, e0, e1, e2, e3 with
  | [_, _, _, _], _, e0, e1, e2, e3 =>
    simp at e0 e1 e2 e3
    subst e0 e1 e2 e3
    rfl
theorem hx_av3 {av : ex_V} {a b c : Value} (hl : av.length = 3) (e0 : av[0]? = some a) (e1 : av[1]? = some b) (e2 : av[2]? = some c) : av = [a, b, c] := by
  match av, hl, e0, e1, e2 with
  | [_, _, _], _, e0, e1, e2 =>
    simp at e0 e1 e2
    subst e0 e1 e2
    rfl
theorem hx_av2 {av : ex_V} {a b : Value} (hl : av.length = 2) (e0 : av[0]? = some a) (e1 : av[1]? = some b) : av = [a, b] := by
  match av, hl, e0, e1 with
  | [_, _], _, e0, e1 =>
    simp at e0 e1
    subst e0 e1
    rfl
set_option maxRecDepth 100000 in
set_option maxHeartbeats 4000000 in
theorem bt_w0 {cs : ex_C} {Q : ex_Q} {I : Nat → Option (ex_L → ex_V → ex_C → Prop)} {b a t : Int32} (hI : ∀ pc, I pc = none) (hk : ab_hk ab_hd cs) {fs : List Value} (h66 : cs[66]? = some (.inr (5, fs))) {g : Nat → Int32} (hs_setTick : fs[5]? = some (.ref 72)) (h_g : cs[72]? = some (.inl (0, 20, .inl g))) {e : Nat → Int32} (hs_setOver : fs[6]? = some (.ref 73)) (h_e : cs[73]? = some (.inl (0, 20, .inl e))) (b1 : 0 ≤ b.toInt) (b2 : b.toInt ≤ 19) (a1 : 0 ≤ a.toInt) (a2 : a.toInt ≤ 19) (hQ : ∀ r cs', ab_hk ab_hd cs' → ab_fr [] cs cs' → r = wk_d true g e t b.toNatClampNeg a.toNatClampNeg → Q (some (.int r)) cs') : ex_wp ec_xt bx_X5_between cX5_between (some .int) I Q 60 0 [some (.ref 66), some (.int b), some (.int a), some (.int t), none, none] [] cs := by
  refine wq_aload_n dX5_between_0 rfl rfl ?_
  refine go_wp (hI _) (wq_getfield dX5_between_1 fe_X5_27 h66 hs_setTick rfl ?_)
  refine go_wp (hI _) (wq_iload_n dX5_between_4 rfl rfl ?_)
  refine go_wp (hI _) (wq_iaload (v := (g a.toNatClampNeg)) dX5_between_5 (by decide) h_g (hx_vp (by omega) (by omega)) rfl rfl ?_)
  refine go_wp (hI _) (wq_aload_n dX5_between_6 rfl rfl ?_)
  refine go_wp (hI _) (wq_getfield dX5_between_7 fe_X5_27 h66 hs_setTick rfl ?_)
  refine go_wp (hI _) (wq_iload_n dX5_between_10 rfl rfl ?_)
  refine go_wp (hI _) (wq_iaload (v := (g b.toNatClampNeg)) dX5_between_11 (by decide) h_g (hx_vp (by omega) (by omega)) rfl rfl ?_)
  refine go_wp (hI _) (wq_isub (v := ((g a.toNatClampNeg) - (g b.toNatClampNeg))) dX5_between_12 rfl rfl ?_)
  refine go_wp (hI _) (wq_istore (lv' := [some (.ref 66), some (.int b), some (.int a), some (.int t), some (.int ((g a.toNatClampNeg) - (g b.toNatClampNeg))), none]) dX5_between_13 ⟨Nat.le_of_ble_eq_true rfl, rfl⟩ rfl rfl ?_)
  refine go_wp (hI _) (wq_iload dX5_between_15 rfl rfl ?_)
  refine go_wp (hI _) (wq_if_gt (t := 27) dX5_between_17 (by decide) rfl (fun q1 => ?_) (fun q1 => ?_))
  · have q1' : Int32.toInt ((g a.toNatClampNeg) - (g b.toNatClampNeg)) > Int32.toInt 0 := (ab_igt (x := ((g a.toNatClampNeg) - (g b.toNatClampNeg))) (y := 0)).1 q1
    refine go_wp (hI _) (wq_aload_n dX5_between_27 rfl rfl ?_)
    refine go_wp (hI _) (wq_getfield dX5_between_28 fe_X5_30 h66 hs_setOver rfl ?_)
    refine go_wp (hI _) (wq_iload_n dX5_between_31 rfl rfl ?_)
    refine go_wp (hI _) (wq_iaload (v := (e a.toNatClampNeg)) dX5_between_32 (by decide) h_e (hx_vp (by omega) (by omega)) rfl rfl ?_)
    refine go_wp (hI _) (wq_aload_n dX5_between_33 rfl rfl ?_)
    refine go_wp (hI _) (wq_getfield dX5_between_34 fe_X5_30 h66 hs_setOver rfl ?_)
    refine go_wp (hI _) (wq_iload_n dX5_between_37 rfl rfl ?_)
    refine go_wp (hI _) (wq_iaload (v := (e b.toNatClampNeg)) dX5_between_38 (by decide) h_e (hx_vp (by omega) (by omega)) rfl rfl ?_)
    refine go_wp (hI _) (wq_isub (v := ((e a.toNatClampNeg) - (e b.toNatClampNeg))) dX5_between_39 rfl rfl ?_)
    refine go_wp (hI _) (wq_istore (lv' := [some (.ref 66), some (.int b), some (.int a), some (.int t), some (.int ((g a.toNatClampNeg) - (g b.toNatClampNeg))), some (.int ((e a.toNatClampNeg) - (e b.toNatClampNeg)))]) dX5_between_40 ⟨Nat.le_of_ble_eq_true rfl, rfl⟩ rfl rfl ?_)
    refine go_wp (hI _) (wq_aload_n dX5_between_42 rfl rfl ?_)
    refine go_wp (hI _) (wq_getfield dX5_between_43 fe_X5_30 h66 hs_setOver rfl ?_)
    refine go_wp (hI _) (wq_iload_n dX5_between_46 rfl rfl ?_)
    refine go_wp (hI _) (wq_iaload (v := (e b.toNatClampNeg)) dX5_between_47 (by decide) h_e (hx_vp (by omega) (by omega)) rfl rfl ?_)
    refine go_wp (hI _) (wq_iload dX5_between_48 rfl rfl ?_)
    refine go_wp (hI _) (wq_iload_n dX5_between_50 rfl rfl ?_)
    refine go_wp (hI _) (wq_aload_n dX5_between_51 rfl rfl ?_)
    refine go_wp (hI _) (wq_getfield dX5_between_52 fe_X5_27 h66 hs_setTick rfl ?_)
    refine go_wp (hI _) (wq_iload_n dX5_between_55 rfl rfl ?_)
    refine go_wp (hI _) (wq_iaload (v := (g b.toNatClampNeg)) dX5_between_56 (by decide) h_g (hx_vp (by omega) (by omega)) rfl rfl ?_)
    refine go_wp (hI _) (wq_isub (v := (t - (g b.toNatClampNeg))) dX5_between_57 rfl rfl ?_)
    refine go_wp (hI _) (wq_imul (v := (((e a.toNatClampNeg) - (e b.toNatClampNeg)) * (t - (g b.toNatClampNeg)))) dX5_between_58 rfl rfl ?_)
    refine go_wp (hI _) (wq_iload dX5_between_59 rfl rfl ?_)
    refine go_wp (hI _) (wq_idiv (v := ((((e a.toNatClampNeg) - (e b.toNatClampNeg)) * (t - (g b.toNatClampNeg))) / ((g a.toNatClampNeg) - (g b.toNatClampNeg)))) dX5_between_61 (hx_p0 (by rw [hx_z0] at q1'; exact q1')) rfl rfl ?_)
    refine go_wp (hI _) (wq_iadd (v := ((e b.toNatClampNeg) + ((((e a.toNatClampNeg) - (e b.toNatClampNeg)) * (t - (g b.toNatClampNeg))) / ((g a.toNatClampNeg) - (g b.toNatClampNeg))))) dX5_between_62 rfl rfl ?_)
    refine go_wp (hI _) (wq_ireturn dX5_between_63 trivial (hQ _ _ hk ab_rf0 (wy_5 (by rw [hx_z0] at q1'; exact q1'))))
  · have q1' : Int32.toInt ((g a.toNatClampNeg) - (g b.toNatClampNeg)) ≤ Int32.toInt 0 := (ab_igt (x := ((g a.toNatClampNeg) - (g b.toNatClampNeg))) (y := 0)).2 q1
    refine go_wp (hI _) (wq_aload_n dX5_between_20 rfl rfl ?_)
    refine go_wp (hI _) (wq_getfield dX5_between_21 fe_X5_30 h66 hs_setOver rfl ?_)
    refine go_wp (hI _) (wq_iload_n dX5_between_24 rfl rfl ?_)
    refine go_wp (hI _) (wq_iaload (v := (e b.toNatClampNeg)) dX5_between_25 (by decide) h_e (hx_vp (by omega) (by omega)) rfl rfl ?_)
    refine go_wp (hI _) (wq_ireturn dX5_between_26 trivial (hQ _ _ hk ab_rf0 (wy_6 (by rw [hx_z0] at q1'; exact q1'))))
set_option maxRecDepth 100000 in
theorem bm_X5_between (l : Launch) : ex_Met l yX5_between cX5_between 6 (some .int) 0 0 (ab_sp ab_hd bc_X5_between) := by
  intro D ad ca n sz av cs Q h
  refine ex_lmet (by decide) rfl (bj_X5_between l) D ad ca n sz av cs Q ?_
  obtain ⟨c, hc, ⟨hp1, hp2, -⟩, hk, hQ⟩ := h
  have hc' : c = ([.inl 66, .inr (0, 19), .inr (0, 19), .inr (-2147483648, 2147483647)], [], [], [(some (-2147483648, 2147483647, some (900000004, 0)), [], [])]) := by
    unfold bc_X5_between bq_X5_between at hc
    simpa using hc
  subst hc'
  obtain ⟨v0, e0, h0⟩ := hp2 0 _ rfl
  obtain ⟨v1, e1, b, rfl, b1, b2⟩ := hp2 1 _ rfl
  obtain ⟨v2, e2, a, rfl, a1, a2⟩ := hp2 2 _ rfl
  obtain ⟨v3, e3, t, rfl, t1, t2⟩ := hp2 3 _ rfl
  cases h0
  have hav : av = [.ref 66, .int b, .int a, .int t] := hx_av4 hp1 e0 e1 e2 e3
  subst hav
  obtain ⟨fs, h66, -, hj⟩ := hk.obj (a := 66) (ci := 5) rfl
  have hs_setTick : fs[5]? = some (.ref 72) := by
    obtain ⟨v, hv, hc⟩ := hj 5 (.inl 72) rfl
    cases hc
    exact hv
  obtain ⟨g, h_g, -⟩ := hk.arr (a := 72) (t := 0) (n := 20) (m := 20) (lo := -2147483648) (hi := 2147483647) rfl (by decide)
  have hs_setOver : fs[6]? = some (.ref 73) := by
    obtain ⟨v, hv, hc⟩ := hj 6 (.inl 73) rfl
    cases hc
    exact hv
  obtain ⟨e, h_e, -⟩ := hk.arr (a := 73) (t := 0) (n := 20) (m := 20) (lo := -2147483648) (hi := 2147483647) rfl (by decide)
  refine sl_in 60 (fun _ => none) rfl (Nat.le_of_ble_eq_true rfl) rfl (bt_w0 (fun _ => rfl) hk h66 hs_setTick h_g hs_setOver h_e b1 b2 a1 a2 (fun r cs' hk' hf hr => ?_)) (fun pc J n lv st cs' hI hJ => (by cases hI))
  refine hQ _ _ ⟨hk', hf, _, List.mem_cons_self, ⟨r, rfl, hx_tb r, fun d hd => ?_⟩, fun q hq => (by cases hq), fun q hq => (by cases hq)⟩
  cases hd
  rw [hx_g4 (gi_a h_g) (gi_a h_e), hr]
  show _ = _ + (0 : Int)
  omega
