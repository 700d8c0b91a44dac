theorem ba_X6_setOn : ec_al [(594, Cond.code yX6_setOn cX6_setOn 4 (some .int)), (63, Cond.initialized yX6_setOn.cls), (592, Cond.instanceMethod yX6_setOn), (593, Cond.selects yX6_setOn.cls yX6_setOn yX6_setOn), (577, Cond.methodLink RX6 77 yX6_has)] := ec_alk (by decide +kernel)
theorem bw_X6_setOn : ec_cw yX6_setOn cX6_setOn 4 (some .int) := ⟨ba_X6_setOn.1, ba_X6_setOn.2.1, nc_RX6⟩
theorem bv_X6_setOn : Cond.instanceMethod yX6_setOn ∈ ec_tb ∧ Cond.selects yX6_setOn.cls yX6_setOn yX6_setOn ∈ ec_tb := ⟨ba_X6_setOn.2.2.1, ba_X6_setOn.2.2.2.1⟩
theorem bp_X6_setOn : (parseMethodDescriptor yX6_setOn.desc).map (fun d => d.parameters.length) = some 2 := by decide +kernel
theorem bk_X6_setOn (l : Launch) : ∀ (ix n : Nat) (rc : Option Nat) (sp : ex_S), (be_X6_setOn ix).map (fun q => (q.1, q.2.1, ab_sp ab_hd q.2.2)) = some (n, rc, sp) → ex_cok l RX6 1 21 ix n rc sp := by
  intro ix n rc sp h
  obtain ⟨l0, h2, rfl⟩ := ab_dmk h
  clear h
  unfold be_X6_setOn at h2
  split at h2
  · cases h2; exact ec_cV (bm_X6_has l) bw_X6_has bv_X6_has (by decide) (by decide) (Or.inl ba_X6_setOn.2.2.2.2.1) (T := TX6) (N := 15) rfl (by decide) bp_X6_has
  · cases h2; exact ec_cS (bm_X9_isSwitch l) bw_X9_isSwitch bv_X9_isSwitch (by decide) (by decide) (Or.inr ⟨"TinStation", List.mem_of_getElem? (i := 10) rfl⟩) bp_X9_isSwitch
  · cases h2; exact ec_cS (bm_X9_one l) bw_X9_one bv_X9_one (by decide) (by decide) (Or.inr ⟨"TinStation", List.mem_of_getElem? (i := 11) rfl⟩) bp_X9_one
  · cases h2
theorem bj_X6_setOn (l : Launch) : ex_ok l 1 21 bx_X6_setOn := ec_okp fo_X6 co_X6 so_X6 (bk_X6_setOn l)
theorem bm_X6_setOn (l : Launch) : ex_Met l yX6_setOn cX6_setOn 4 (some .int) 1 21 (ab_sp ab_hd bc_X6_setOn) := ab_met (by decide) pn_RX6 rfl (bj_X6_setOn l) bd_X6_setOn ab_hcm ab_xk bz_X6_setOn
theorem ba_X6_tellOf : ec_al [(604, Cond.code yX6_tellOf cX6_tellOf 3 (some .int)), (63, Cond.initialized yX6_tellOf.cls), (602, Cond.instanceMethod yX6_tellOf), (603, Cond.selects yX6_tellOf.cls yX6_tellOf yX6_tellOf), (577, Cond.methodLink RX6 77 yX6_has)] := ec_alk (by decide +kernel)
theorem bw_X6_tellOf : ec_cw yX6_tellOf cX6_tellOf 3 (some .int) := ⟨ba_X6_tellOf.1, ba_X6_tellOf.2.1, nc_RX6⟩
theorem bv_X6_tellOf : Cond.instanceMethod yX6_tellOf ∈ ec_tb ∧ Cond.selects yX6_tellOf.cls yX6_tellOf yX6_tellOf ∈ ec_tb := ⟨ba_X6_tellOf.2.2.1, ba_X6_tellOf.2.2.2.1⟩
theorem bp_X6_tellOf : (parseMethodDescriptor yX6_tellOf.desc).map (fun d => d.parameters.length) = some 2 := by decide +kernel
theorem bk_X6_tellOf (l : Launch) : ∀ (ix n : Nat) (rc : Option Nat) (sp : ex_S), (be_X6_tellOf ix).map (fun q => (q.1, q.2.1, ab_sp ab_hd q.2.2)) = some (n, rc, sp) → ex_cok l RX6 1 21 ix n rc sp := by
  intro ix n rc sp h
  obtain ⟨l0, h2, rfl⟩ := ab_dmk h
  clear h
  unfold be_X6_tellOf at h2
  split at h2
  · cases h2; exact ec_cV (bm_X6_has l) bw_X6_has bv_X6_has (by decide) (by decide) (Or.inl ba_X6_tellOf.2.2.2.2.1) (T := TX6) (N := 15) rfl (by decide) bp_X6_has
  · cases h2; exact ec_cS (bm_X9_one l) bw_X9_one bv_X9_one (by decide) (by decide) (Or.inr ⟨"TinStation", List.mem_of_getElem? (i := 11) rfl⟩) bp_X9_one
  · cases h2
theorem bj_X6_tellOf (l : Launch) : ex_ok l 1 21 bx_X6_tellOf := ec_okp fo_X6 co_X6 so_X6 (bk_X6_tellOf l)
theorem bm_X6_tellOf (l : Launch) : ex_Met l yX6_tellOf cX6_tellOf 3 (some .int) 1 21 (ab_sp ab_hd bc_X6_tellOf) := ab_met (by decide) pn_RX6 rfl (bj_X6_tellOf l) bd_X6_tellOf ab_hcm ab_xk bz_X6_tellOf
theorem ba_X6_setSpares : ec_al [(612, Cond.code yX6_setSpares cX6_setSpares 4 (some .int)), (63, Cond.initialized yX6_setSpares.cls), (610, Cond.instanceMethod yX6_setSpares), (611, Cond.selects yX6_setSpares.cls yX6_setSpares yX6_setSpares), (560, Cond.methodLink RX6 67 yX6_isKind)] := ec_alk (by decide +kernel)
theorem bw_X6_setSpares : ec_cw yX6_setSpares cX6_setSpares 4 (some .int) := ⟨ba_X6_setSpares.1, ba_X6_setSpares.2.1, nc_RX6⟩
theorem bv_X6_setSpares : Cond.instanceMethod yX6_setSpares ∈ ec_tb ∧ Cond.selects yX6_setSpares.cls yX6_setSpares yX6_setSpares ∈ ec_tb := ⟨ba_X6_setSpares.2.2.1, ba_X6_setSpares.2.2.2.1⟩
theorem bp_X6_setSpares : (parseMethodDescriptor yX6_setSpares.desc).map (fun d => d.parameters.length) = some 2 := by decide +kernel
theorem bk_X6_setSpares (l : Launch) : ∀ (ix n : Nat) (rc : Option Nat) (sp : ex_S), (be_X6_setSpares ix).map (fun q => (q.1, q.2.1, ab_sp ab_hd q.2.2)) = some (n, rc, sp) → ex_cok l RX6 1 20 ix n rc sp := by
  intro ix n rc sp h
  obtain ⟨l0, h2, rfl⟩ := ab_dmk h
  clear h
  unfold be_X6_setSpares at h2
  split at h2
  · cases h2; exact ec_cS (bm_X6_isKind l) bw_X6_isKind bv_X6_isKind (by decide) (by decide) (Or.inl ba_X6_setSpares.2.2.2.2.1) bp_X6_isKind
  · cases h2
theorem bj_X6_setSpares (l : Launch) : ex_ok l 1 20 bx_X6_setSpares := ec_okp fo_X6 co_X6 so_X6 (bk_X6_setSpares l)
theorem bm_X6_setSpares (l : Launch) : ex_Met l yX6_setSpares cX6_setSpares 4 (some .int) 1 20 (ab_sp ab_hd bc_X6_setSpares) := ab_met (by decide) pn_RX6 rfl (bj_X6_setSpares l) bd_X6_setSpares ab_hcm ab_xk bz_X6_setSpares
theorem ba_X6_setSun : ec_al [(668, Cond.code yX6_setSun cX6_setSun 3 (some .int)), (63, Cond.initialized yX6_setSun.cls), (666, Cond.instanceMethod yX6_setSun), (667, Cond.selects yX6_setSun.cls yX6_setSun yX6_setSun)] := ec_alk (by decide +kernel)
theorem bw_X6_setSun : ec_cw yX6_setSun cX6_setSun 3 (some .int) := ⟨ba_X6_setSun.1, ba_X6_setSun.2.1, nc_RX6⟩
theorem bv_X6_setSun : Cond.instanceMethod yX6_setSun ∈ ec_tb ∧ Cond.selects yX6_setSun.cls yX6_setSun yX6_setSun ∈ ec_tb := ⟨ba_X6_setSun.2.2.1, ba_X6_setSun.2.2.2.1⟩
theorem bp_X6_setSun : (parseMethodDescriptor yX6_setSun.desc).map (fun d => d.parameters.length) = some 2 := by decide +kernel
theorem bj_X6_setSun (l : Launch) : ex_ok l 1 21 bx_X6_setSun := ⟨ec_fok fo_X6, ec_cok co_X6, so_X6, ec_okn, am_X6 (by decide) (by decide), ax_X6, ao_X6, fun _ _ h => (by cases h)⟩
theorem bm_X6_setSun (l : Launch) : ex_Met l yX6_setSun cX6_setSun 3 (some .int) 1 21 (ab_sp ab_hd bc_X6_setSun) := ab_met (by decide) pn_RX6 rfl (bj_X6_setSun l) bd_X6_setSun ab_hcm ab_xk bz_X6_setSun
theorem ba_X6_setBattery : ec_al [(679, Cond.code yX6_setBattery cX6_setBattery 3 (some .int)), (63, Cond.initialized yX6_setBattery.cls), (677, Cond.instanceMethod yX6_setBattery), (678, Cond.selects yX6_setBattery.cls yX6_setBattery yX6_setBattery)] := ec_alk (by decide +kernel)
theorem bw_X6_setBattery : ec_cw yX6_setBattery cX6_setBattery 3 (some .int) := ⟨ba_X6_setBattery.1, ba_X6_setBattery.2.1, nc_RX6⟩
theorem bv_X6_setBattery : Cond.instanceMethod yX6_setBattery ∈ ec_tb ∧ Cond.selects yX6_setBattery.cls yX6_setBattery yX6_setBattery ∈ ec_tb := ⟨ba_X6_setBattery.2.2.1, ba_X6_setBattery.2.2.2.1⟩
theorem bp_X6_setBattery : (parseMethodDescriptor yX6_setBattery.desc).map (fun d => d.parameters.length) = some 1 := by decide +kernel
theorem bj_X6_setBattery (l : Launch) : ex_ok l 0 0 bx_X6_setBattery := ec_okp fo_X6 co_X6 so_X6 (ec_okn)
theorem bm_X6_setBattery (l : Launch) : ex_Met l yX6_setBattery cX6_setBattery 3 (some .int) 0 0 (ab_sp ab_hd bc_X6_setBattery) := ab_met (by decide) pn_RX6 rfl (bj_X6_setBattery l) bd_X6_setBattery ab_hcm ab_xk bz_X6_setBattery
theorem ba_X6_isReady : ec_al [(650, Cond.code yX6_isReady cX6_isReady 2 (some .boolean)), (63, Cond.initialized yX6_isReady.cls), (649, Cond.instanceMethod yX6_isReady), (3, Cond.selects yX6_isReady.cls yX6_isReady yX6_isReady)] := ec_alk (by decide +kernel)
theorem bw_X6_isReady : ec_cw yX6_isReady cX6_isReady 2 (some .boolean) := ⟨ba_X6_isReady.1, ba_X6_isReady.2.1, nc_RX6⟩
theorem bv_X6_isReady : Cond.instanceMethod yX6_isReady ∈ ec_tb ∧ Cond.selects yX6_isReady.cls yX6_isReady yX6_isReady ∈ ec_tb := ⟨ba_X6_isReady.2.2.1, ba_X6_isReady.2.2.2.1⟩
theorem bp_X6_isReady : (parseMethodDescriptor yX6_isReady.desc).map (fun d => d.parameters.length) = some 1 := by decide +kernel
theorem bj_X6_isReady (l : Launch) : ex_ok l 0 0 bx_X6_isReady := ec_okp fo_X6 co_X6 so_X6 (ec_okn)
theorem bm_X6_isReady (l : Launch) : ex_Met l yX6_isReady cX6_isReady 2 (some .boolean) 0 0 (ab_sp ab_hd bc_X6_isReady) := ab_met (by decide) pn_RX6 rfl (bj_X6_isReady l) bd_X6_isReady ab_hcm ab_xk bz_X6_isReady
theorem ba_X6_sharePower : ec_al [(764, Cond.code yX6_sharePower cX6_sharePower 5 none), (63, Cond.initialized yX6_sharePower.cls), (762, Cond.instanceMethod yX6_sharePower), (763, Cond.selects yX6_sharePower.cls yX6_sharePower yX6_sharePower), (647, Cond.methodLink RX6 101 yX6_isReady)] := ec_alk (by decide +kernel)
theorem bw_X6_sharePower : ec_cw yX6_sharePower cX6_sharePower 5 none := ⟨ba_X6_sharePower.1, ba_X6_sharePower.2.1, nc_RX6⟩
theorem bv_X6_sharePower : Cond.instanceMethod yX6_sharePower ∈ ec_tb ∧ Cond.selects yX6_sharePower.cls yX6_sharePower yX6_sharePower ∈ ec_tb := ⟨ba_X6_sharePower.2.2.1, ba_X6_sharePower.2.2.2.1⟩
theorem bp_X6_sharePower : (parseMethodDescriptor yX6_sharePower.desc).map (fun d => d.parameters.length) = some 1 := by decide +kernel
theorem bk_X6_sharePower (l : Launch) : ∀ (ix n : Nat) (rc : Option Nat) (sp : ex_S), (be_X6_sharePower ix).map (fun q => (q.1, q.2.1, ab_sp ab_hd q.2.2)) = some (n, rc, sp) → ex_cok l RX6 1 21 ix n rc sp := by
  intro ix n rc sp h
  obtain ⟨l0, h2, rfl⟩ := ab_dmk h
  clear h
  unfold be_X6_sharePower at h2
  split at h2
  · cases h2; exact ec_cV (bm_X6_isReady l) bw_X6_isReady bv_X6_isReady (by decide) (by decide) (Or.inl ba_X6_sharePower.2.2.2.2.1) (T := TX6) (N := 15) rfl (by decide) bp_X6_isReady
  · cases h2
theorem bj_X6_sharePower (l : Launch) : ex_ok l 1 21 bx_X6_sharePower := ⟨ec_fok fo_X6, ec_cok co_X6, so_X6, bk_X6_sharePower l, am_X6 (by decide) (by decide), ax_X6, ao_X6, fun _ _ h => (by cases h)⟩
theorem bm_X6_sharePower (l : Launch) : ex_Met l yX6_sharePower cX6_sharePower 5 none 1 21 (ab_sp ab_hd bc_X6_sharePower) := ab_met (by decide) pn_RX6 rfl (bj_X6_sharePower l) bd_X6_sharePower ab_hcm ab_xk bz_X6_sharePower
theorem ba_X6_split : ec_al [(785, Cond.code yX6_split cX6_split 5 none), (63, Cond.initialized yX6_split.cls), (784, Cond.instanceMethod yX6_split), (12, Cond.selects yX6_split.cls yX6_split yX6_split), (786, Cond.methodLink RX6 128 yX0_draw), (790, Cond.methodLink RX6 108 yX0_give), (778, Cond.methodLink RX6 118 yX0_fill)] := ec_alk (by decide +kernel)
theorem bw_X6_split : ec_cw yX6_split cX6_split 5 none := ⟨ba_X6_split.1, ba_X6_split.2.1, nc_RX6⟩
theorem bv_X6_split : Cond.instanceMethod yX6_split ∈ ec_tb ∧ Cond.selects yX6_split.cls yX6_split yX6_split ∈ ec_tb := ⟨ba_X6_split.2.2.1, ba_X6_split.2.2.2.1⟩
theorem bp_X6_split : (parseMethodDescriptor yX6_split.desc).map (fun d => d.parameters.length) = some 2 := by decide +kernel
theorem bk_X6_split (l : Launch) : ∀ (ix n : Nat) (rc : Option Nat) (sp : ex_S), (be_X6_split ix).map (fun q => (q.1, q.2.1, ab_sp ab_hd q.2.2)) = some (n, rc, sp) → ex_cok l RX6 2 44 ix n rc sp := by
  intro ix n rc sp h
  obtain ⟨l0, h2, rfl⟩ := ab_dmk h
  clear h
  unfold be_X6_split at h2
  split at h2
  · cases h2; exact ec_cV (bm_X0_draw l) bw_X0_draw bv_X0_draw (by decide) (by decide) (Or.inl ba_X6_split.2.2.2.2.1) (T := TX0) (N := 8) rfl (by decide) bp_X0_draw
  · cases h2; exact ec_cV (bm_X0_give l) bw_X0_give bv_X0_give (by decide) (by decide) (Or.inl ba_X6_split.2.2.2.2.2.1) (T := TX0) (N := 8) rfl (by decide) bp_X0_give
  · cases h2; exact ec_cV (bm_X0_fill l) bw_X0_fill bv_X0_fill (by decide) (by decide) (Or.inl ba_X6_split.2.2.2.2.2.2.1) (T := TX0) (N := 8) rfl (by decide) bp_X0_fill
  · cases h2
theorem bj_X6_split (l : Launch) : ex_ok l 2 44 bx_X6_split := ec_okp fo_X6 co_X6 so_X6 (bk_X6_split l)
theorem bm_X6_split (l : Launch) : ex_Met l yX6_split cX6_split 5 none 2 44 (ab_sp ab_hd bc_X6_split) := ab_met (by decide) pn_RX6 rfl (bj_X6_split l) bd_X6_split ab_hcm ab_xk bz_X6_split
theorem ba_X6_distil : ec_al [(797, Cond.code yX6_distil cX6_distil 5 none), (63, Cond.initialized yX6_distil.cls), (796, Cond.instanceMethod yX6_distil), (13, Cond.selects yX6_distil.cls yX6_distil yX6_distil), (786, Cond.methodLink RX6 128 yX0_draw), (778, Cond.methodLink RX6 118 yX0_fill)] := ec_alk (by decide +kernel)
theorem bw_X6_distil : ec_cw yX6_distil cX6_distil 5 none := ⟨ba_X6_distil.1, ba_X6_distil.2.1, nc_RX6⟩
theorem bv_X6_distil : Cond.instanceMethod yX6_distil ∈ ec_tb ∧ Cond.selects yX6_distil.cls yX6_distil yX6_distil ∈ ec_tb := ⟨ba_X6_distil.2.2.1, ba_X6_distil.2.2.2.1⟩
theorem bp_X6_distil : (parseMethodDescriptor yX6_distil.desc).map (fun d => d.parameters.length) = some 2 := by decide +kernel
theorem bk_X6_distil (l : Launch) : ∀ (ix n : Nat) (rc : Option Nat) (sp : ex_S), (be_X6_distil ix).map (fun q => (q.1, q.2.1, ab_sp ab_hd q.2.2)) = some (n, rc, sp) → ex_cok l RX6 2 44 ix n rc sp := by
  intro ix n rc sp h
  obtain ⟨l0, h2, rfl⟩ := ab_dmk h
  clear h
  unfold be_X6_distil at h2
  split at h2
  · cases h2; exact ec_cV (bm_X0_draw l) bw_X0_draw bv_X0_draw (by decide) (by decide) (Or.inl ba_X6_distil.2.2.2.2.1) (T := TX0) (N := 8) rfl (by decide) bp_X0_draw
  · cases h2; exact ec_cV (bm_X0_fill l) bw_X0_fill bv_X0_fill (by decide) (by decide) (Or.inl ba_X6_distil.2.2.2.2.2.1) (T := TX0) (N := 8) rfl (by decide) bp_X0_fill
  · cases h2
theorem bj_X6_distil (l : Launch) : ex_ok l 2 44 bx_X6_distil := ec_okp fo_X6 co_X6 so_X6 (bk_X6_distil l)
theorem bm_X6_distil (l : Launch) : ex_Met l yX6_distil cX6_distil 5 none 2 44 (ab_sp ab_hd bc_X6_distil) := ab_met (by decide) pn_RX6 rfl (bj_X6_distil l) bd_X6_distil ab_hcm ab_xk bz_X6_distil
theorem ba_X6_work : ec_al [(772, Cond.code yX6_work cX6_work 3 none), (63, Cond.initialized yX6_work.cls), (771, Cond.instanceMethod yX6_work), (11, Cond.selects yX6_work.cls yX6_work yX6_work), (773, Cond.methodLink RX6 114 yX0_take), (778, Cond.methodLink RX6 118 yX0_fill), (782, Cond.methodLink RX6 122 yX6_split), (794, Cond.methodLink RX6 125 yX6_distil)] := ec_alk (by decide +kernel)
theorem bw_X6_work : ec_cw yX6_work cX6_work 3 none := ⟨ba_X6_work.1, ba_X6_work.2.1, nc_RX6⟩
theorem bv_X6_work : Cond.instanceMethod yX6_work ∈ ec_tb ∧ Cond.selects yX6_work.cls yX6_work yX6_work ∈ ec_tb := ⟨ba_X6_work.2.2.1, ba_X6_work.2.2.2.1⟩
theorem bp_X6_work : (parseMethodDescriptor yX6_work.desc).map (fun d => d.parameters.length) = some 2 := by decide +kernel
theorem bk_X6_work (l : Launch) : ∀ (ix n : Nat) (rc : Option Nat) (sp : ex_S), (be_X6_work ix).map (fun q => (q.1, q.2.1, ab_sp ab_hd q.2.2)) = some (n, rc, sp) → ex_cok l RX6 3 68 ix n rc sp := by
  intro ix n rc sp h
  obtain ⟨l0, h2, rfl⟩ := ab_dmk h
  clear h
  unfold be_X6_work at h2
  split at h2
  · cases h2; exact ec_cV (bm_X0_take l) bw_X0_take bv_X0_take (by decide) (by decide) (Or.inl ba_X6_work.2.2.2.2.1) (T := TX0) (N := 8) rfl (by decide) bp_X0_take
  · cases h2; exact ec_cV (bm_X0_fill l) bw_X0_fill bv_X0_fill (by decide) (by decide) (Or.inl ba_X6_work.2.2.2.2.2.1) (T := TX0) (N := 8) rfl (by decide) bp_X0_fill
  · cases h2; exact ec_cV (bm_X6_split l) bw_X6_split bv_X6_split (by decide) (by decide) (Or.inl ba_X6_work.2.2.2.2.2.2.1) (T := TX6) (N := 15) rfl (by decide) bp_X6_split
  · cases h2; exact ec_cV (bm_X6_distil l) bw_X6_distil bv_X6_distil (by decide) (by decide) (Or.inl ba_X6_work.2.2.2.2.2.2.2.1) (T := TX6) (N := 15) rfl (by decide) bp_X6_distil
  · cases h2
theorem bj_X6_work (l : Launch) : ex_ok l 3 68 bx_X6_work := ec_okp fo_X6 co_X6 so_X6 (bk_X6_work l)
theorem bm_X6_work (l : Launch) : ex_Met l yX6_work cX6_work 3 none 3 68 (ab_sp ab_hd bc_X6_work) := ab_met (by decide) pn_RX6 rfl (bj_X6_work l) bd_X6_work ab_hcm ab_xk bz_X6_work
theorem ba_X6_workAll : ec_al [(768, Cond.code yX6_workAll cX6_workAll 3 none), (63, Cond.initialized yX6_workAll.cls), (766, Cond.instanceMethod yX6_workAll), (767, Cond.selects yX6_workAll.cls yX6_workAll yX6_workAll), (769, Cond.methodLink RX6 104 yX6_work), (790, Cond.methodLink RX6 108 yX0_give)] := ec_alk (by decide +kernel)
theorem bw_X6_workAll : ec_cw yX6_workAll cX6_workAll 3 none := ⟨ba_X6_workAll.1, ba_X6_workAll.2.1, nc_RX6⟩
theorem bv_X6_workAll : Cond.instanceMethod yX6_workAll ∈ ec_tb ∧ Cond.selects yX6_workAll.cls yX6_workAll yX6_workAll ∈ ec_tb := ⟨ba_X6_workAll.2.2.1, ba_X6_workAll.2.2.2.1⟩
theorem bp_X6_workAll : (parseMethodDescriptor yX6_workAll.desc).map (fun d => d.parameters.length) = some 1 := by decide +kernel
theorem bk_X6_workAll (l : Launch) : ∀ (ix n : Nat) (rc : Option Nat) (sp : ex_S), (be_X6_workAll ix).map (fun q => (q.1, q.2.1, ab_sp ab_hd q.2.2)) = some (n, rc, sp) → ex_cok l RX6 4 90 ix n rc sp := by
  intro ix n rc sp h
  obtain ⟨l0, h2, rfl⟩ := ab_dmk h
  clear h
  unfold be_X6_workAll at h2
  split at h2
  · cases h2; exact ec_cV (bm_X6_work l) bw_X6_work bv_X6_work (by decide) (by decide) (Or.inl ba_X6_workAll.2.2.2.2.1) (T := TX6) (N := 15) rfl (by decide) bp_X6_work
  · cases h2; exact ec_cV (bm_X0_give l) bw_X0_give bv_X0_give (by decide) (by decide) (Or.inl ba_X6_workAll.2.2.2.2.2.1) (T := TX0) (N := 8) rfl (by decide) bp_X0_give
  · cases h2
theorem bj_X6_workAll (l : Launch) : ex_ok l 4 90 bx_X6_workAll := ec_okp fo_X6 co_X6 so_X6 (bk_X6_workAll l)
theorem bm_X6_workAll (l : Launch) : ex_Met l yX6_workAll cX6_workAll 3 none 4 90 (ab_sp ab_hd bc_X6_workAll) := ab_met (by decide) pn_RX6 rfl (bj_X6_workAll l) bd_X6_workAll ab_hcm ab_xk bz_X6_workAll
theorem ba_X6_readySet : ec_al [(646, Cond.code yX6_readySet cX6_readySet 3 (some .int)), (63, Cond.initialized yX6_readySet.cls), (645, Cond.instanceMethod yX6_readySet), (2, Cond.selects yX6_readySet.cls yX6_readySet yX6_readySet), (647, Cond.methodLink RX6 101 yX6_isReady)] := ec_alk (by decide +kernel)
theorem bw_X6_readySet : ec_cw yX6_readySet cX6_readySet 3 (some .int) := ⟨ba_X6_readySet.1, ba_X6_readySet.2.1, nc_RX6⟩
theorem bv_X6_readySet : Cond.instanceMethod yX6_readySet ∈ ec_tb ∧ Cond.selects yX6_readySet.cls yX6_readySet yX6_readySet ∈ ec_tb := ⟨ba_X6_readySet.2.2.1, ba_X6_readySet.2.2.2.1⟩
theorem bp_X6_readySet : (parseMethodDescriptor yX6_readySet.desc).map (fun d => d.parameters.length) = some 0 := by decide +kernel
theorem bk_X6_readySet (l : Launch) : ∀ (ix n : Nat) (rc : Option Nat) (sp : ex_S), (be_X6_readySet ix).map (fun q => (q.1, q.2.1, ab_sp ab_hd q.2.2)) = some (n, rc, sp) → ex_cok l RX6 1 21 ix n rc sp := by
  intro ix n rc sp h
  obtain ⟨l0, h2, rfl⟩ := ab_dmk h
  clear h
  unfold be_X6_readySet at h2
  split at h2
  · cases h2; exact ec_cV (bm_X6_isReady l) bw_X6_isReady bv_X6_isReady (by decide) (by decide) (Or.inl ba_X6_readySet.2.2.2.2.1) (T := TX6) (N := 15) rfl (by decide) bp_X6_isReady
  · cases h2
theorem bj_X6_readySet (l : Launch) : ex_ok l 1 21 bx_X6_readySet := ec_okp fo_X6 co_X6 so_X6 (bk_X6_readySet l)
theorem bm_X6_readySet (l : Launch) : ex_Met l yX6_readySet cX6_readySet 3 (some .int) 1 21 (ab_sp ab_hd bc_X6_readySet) := ab_met (by decide) pn_RX6 rfl (bj_X6_readySet l) bd_X6_readySet ab_hcm ab_xk bz_X6_readySet
theorem ba_X6_sumOver : ec_al [(654, Cond.code yX6_sumOver cX6_sumOver 5 (some .int)), (63, Cond.initialized yX6_sumOver.cls), (653, Cond.instanceMethod yX6_sumOver), (4, Cond.selects yX6_sumOver.cls yX6_sumOver yX6_sumOver)] := ec_alk (by decide +kernel)
theorem bw_X6_sumOver : ec_cw yX6_sumOver cX6_sumOver 5 (some .int) := ⟨ba_X6_sumOver.1, ba_X6_sumOver.2.1, nc_RX6⟩
theorem bv_X6_sumOver : Cond.instanceMethod yX6_sumOver ∈ ec_tb ∧ Cond.selects yX6_sumOver.cls yX6_sumOver yX6_sumOver ∈ ec_tb := ⟨ba_X6_sumOver.2.2.1, ba_X6_sumOver.2.2.2.1⟩
theorem bp_X6_sumOver : (parseMethodDescriptor yX6_sumOver.desc).map (fun d => d.parameters.length) = some 2 := by decide +kernel
theorem bj_X6_sumOver (l : Launch) : ex_ok l 0 0 bx_X6_sumOver := ec_okp fo_X6 co_X6 so_X6 (ec_okn)
theorem bm_X6_sumOver (l : Launch) : ex_Met l yX6_sumOver cX6_sumOver 5 (some .int) 0 0 (ab_sp ab_hd bc_X6_sumOver) := ab_met (by decide) pn_RX6 rfl (bj_X6_sumOver l) bd_X6_sumOver ab_hcm ab_xk bz_X6_sumOver
theorem ba_X6_leastHarm : ec_al [(642, Cond.code yX6_leastHarm cX6_leastHarm 8 (some .int)), (63, Cond.initialized yX6_leastHarm.cls), (641, Cond.instanceMethod yX6_leastHarm), (1, Cond.selects yX6_leastHarm.cls yX6_leastHarm yX6_leastHarm), (643, Cond.methodLink RX6 139 yX6_readySet), (651, Cond.methodLink RX6 135 yX6_sumOver), (655, Cond.methodLink RX6 143 yJ6_bitCount_0f7a4)] := ec_alk (by decide +kernel)
theorem bw_X6_leastHarm : ec_cw yX6_leastHarm cX6_leastHarm 8 (some .int) := ⟨ba_X6_leastHarm.1, ba_X6_leastHarm.2.1, nc_RX6⟩
theorem bv_X6_leastHarm : Cond.instanceMethod yX6_leastHarm ∈ ec_tb ∧ Cond.selects yX6_leastHarm.cls yX6_leastHarm yX6_leastHarm ∈ ec_tb := ⟨ba_X6_leastHarm.2.2.1, ba_X6_leastHarm.2.2.2.1⟩
theorem bp_X6_leastHarm : (parseMethodDescriptor yX6_leastHarm.desc).map (fun d => d.parameters.length) = some 1 := by decide +kernel
theorem bk_X6_leastHarm (l : Launch) : ∀ (ix n : Nat) (rc : Option Nat) (sp : ex_S), (be_X6_leastHarm ix).map (fun q => (q.1, q.2.1, ab_sp ab_hd q.2.2)) = some (n, rc, sp) → ex_cok l RX6 2 43 ix n rc sp := by
  intro ix n rc sp h
  obtain ⟨l0, h2, rfl⟩ := ab_dmk h
  clear h
  unfold be_X6_leastHarm at h2
  split at h2
  · cases h2; exact ec_cV (bm_X6_readySet l) bw_X6_readySet bv_X6_readySet (by decide) (by decide) (Or.inl ba_X6_leastHarm.2.2.2.2.1) (T := TX6) (N := 15) rfl (by decide) bp_X6_readySet
  · cases h2; exact ec_cV (bm_X6_sumOver l) bw_X6_sumOver bv_X6_sumOver (by decide) (by decide) (Or.inl ba_X6_leastHarm.2.2.2.2.2.1) (T := TX6) (N := 15) rfl (by decide) bp_X6_sumOver
  · cases h2; exact ec_cS (bm_J6_bitCount_0f7a4 l) bw_J6_bitCount_0f7a4 bv_J6_bitCount_0f7a4 (by decide) (by decide) (Or.inl ba_X6_leastHarm.2.2.2.2.2.2.1) bp_J6_bitCount_0f7a4
  · cases h2
theorem bj_X6_leastHarm (l : Launch) : ex_ok l 2 43 bx_X6_leastHarm := ec_okp fo_X6 co_X6 so_X6 (bk_X6_leastHarm l)
theorem bm_X6_leastHarm (l : Launch) : ex_Met l yX6_leastHarm cX6_leastHarm 8 (some .int) 2 43 (ab_sp ab_hd bc_X6_leastHarm) := ab_met (by decide) pn_RX6 rfl (bj_X6_leastHarm l) bd_X6_leastHarm ab_hcm ab_xk bz_X6_leastHarm
theorem ba_X6_shedding : ec_al [(638, Cond.code yX6_shedding cX6_shedding 3 (some .int)), (63, Cond.initialized yX6_shedding.cls), (636, Cond.instanceMethod yX6_shedding), (637, Cond.selects yX6_shedding.cls yX6_shedding yX6_shedding), (639, Cond.methodLink RX6 131 yX6_leastHarm), (651, Cond.methodLink RX6 135 yX6_sumOver), (643, Cond.methodLink RX6 139 yX6_readySet)] := ec_alk (by decide +kernel)
theorem bw_X6_shedding : ec_cw yX6_shedding cX6_shedding 3 (some .int) := ⟨ba_X6_shedding.1, ba_X6_shedding.2.1, nc_RX6⟩
theorem bv_X6_shedding : Cond.instanceMethod yX6_shedding ∈ ec_tb ∧ Cond.selects yX6_shedding.cls yX6_shedding yX6_shedding ∈ ec_tb := ⟨ba_X6_shedding.2.2.1, ba_X6_shedding.2.2.2.1⟩
theorem bp_X6_shedding : (parseMethodDescriptor yX6_shedding.desc).map (fun d => d.parameters.length) = some 2 := by decide +kernel
theorem bk_X6_shedding (l : Launch) : ∀ (ix n : Nat) (rc : Option Nat) (sp : ex_S), (be_X6_shedding ix).map (fun q => (q.1, q.2.1, ab_sp ab_hd q.2.2)) = some (n, rc, sp) → ex_cok l RX6 3 70 ix n rc sp := by
  intro ix n rc sp h
  obtain ⟨l0, h2, rfl⟩ := ab_dmk h
  clear h
  unfold be_X6_shedding at h2
  split at h2
  · cases h2; exact ec_cV (bm_X6_leastHarm l) bw_X6_leastHarm bv_X6_leastHarm (by decide) (by decide) (Or.inl ba_X6_shedding.2.2.2.2.1) (T := TX6) (N := 15) rfl (by decide) bp_X6_leastHarm
  · cases h2; exact ec_cV (bm_X6_sumOver l) bw_X6_sumOver bv_X6_sumOver (by decide) (by decide) (Or.inl ba_X6_shedding.2.2.2.2.2.1) (T := TX6) (N := 15) rfl (by decide) bp_X6_sumOver
  · cases h2; exact ec_cV (bm_X6_readySet l) bw_X6_readySet bv_X6_readySet (by decide) (by decide) (Or.inl ba_X6_shedding.2.2.2.2.2.2.1) (T := TX6) (N := 15) rfl (by decide) bp_X6_readySet
  · cases h2
theorem bj_X6_shedding (l : Launch) : ex_ok l 3 70 bx_X6_shedding := ec_okp fo_X6 co_X6 so_X6 (bk_X6_shedding l)
theorem bm_X6_shedding (l : Launch) : ex_Met l yX6_shedding cX6_shedding 3 (some .int) 3 70 (ab_sp ab_hd bc_X6_shedding) := ab_met (by decide) pn_RX6 rfl (bj_X6_shedding l) bd_X6_shedding ab_hcm ab_xk bz_X6_shedding
theorem ba_X7_has : ec_al [(709, Cond.code yX7_has cX7_has 2 (some .boolean)), (59, Cond.initialized yX7_has.cls), (707, Cond.instanceMethod yX7_has), (708, Cond.selects yX7_has.cls yX7_has yX7_has)] := ec_alk (by decide +kernel)
theorem bw_X7_has : ec_cw yX7_has cX7_has 2 (some .boolean) := ⟨ba_X7_has.1, ba_X7_has.2.1, nc_RX7⟩
theorem bv_X7_has : Cond.instanceMethod yX7_has ∈ ec_tb ∧ Cond.selects yX7_has.cls yX7_has yX7_has ∈ ec_tb := ⟨ba_X7_has.2.2.1, ba_X7_has.2.2.2.1⟩
theorem bp_X7_has : (parseMethodDescriptor yX7_has.desc).map (fun d => d.parameters.length) = some 1 := by decide +kernel
theorem bj_X7_has (l : Launch) : ex_ok l 0 0 bx_X7_has := ec_okp fo_X7 co_X7 so_X7 (ec_okn)
theorem bm_X7_has (l : Launch) : ex_Met l yX7_has cX7_has 2 (some .boolean) 0 0 (ab_sp ab_hd bc_X7_has) := ab_met (by decide) pn_RX7 rfl (bj_X7_has l) bd_X7_has ab_hcm ab_xk bz_X7_has
theorem ba_X7_addLine : ec_al [(909, Cond.code yX7_addLine cX7_addLine 5 (some .int)), (59, Cond.initialized yX7_addLine.cls), (907, Cond.instanceMethod yX7_addLine), (908, Cond.selects yX7_addLine.cls yX7_addLine yX7_addLine)] := ec_alk (by decide +kernel)
theorem bw_X7_addLine : ec_cw yX7_addLine cX7_addLine 5 (some .int) := ⟨ba_X7_addLine.1, ba_X7_addLine.2.1, nc_RX7⟩
theorem bv_X7_addLine : Cond.instanceMethod yX7_addLine ∈ ec_tb ∧ Cond.selects yX7_addLine.cls yX7_addLine yX7_addLine ∈ ec_tb := ⟨ba_X7_addLine.2.2.1, ba_X7_addLine.2.2.2.1⟩
theorem bp_X7_addLine : (parseMethodDescriptor yX7_addLine.desc).map (fun d => d.parameters.length) = some 4 := by decide +kernel
theorem bj_X7_addLine (l : Launch) : ex_ok l 0 0 bx_X7_addLine := ec_okp fo_X7 co_X7 so_X7 (ec_okn)
theorem bm_X7_addLine (l : Launch) : ex_Met l yX7_addLine cX7_addLine 5 (some .int) 0 0 (ab_sp ab_hd bc_X7_addLine) := ab_met (by decide) pn_RX7 rfl (bj_X7_addLine l) bd_X7_addLine ab_hcm ab_xk bz_X7_addLine
theorem ba_X8_becomeLike : ec_al [(867, Cond.code yX8_becomeLike cX8_becomeLike 2 none), (60, Cond.initialized yX8_becomeLike.cls), (865, Cond.instanceMethod yX8_becomeLike), (866, Cond.selects yX8_becomeLike.cls yX8_becomeLike yX8_becomeLike), (868, Cond.methodLink RX8 50 yX0_becomeLike), (882, Cond.methodLink RX8 54 yX3_becomeLike), (887, Cond.methodLink RX8 57 yX6_becomeLike), (893, Cond.methodLink RX8 60 yX1_becomeLike), (897, Cond.methodLink RX8 63 yX2_becomeLike)] := ec_alk (by decide +kernel)
theorem bw_X8_becomeLike : ec_cw yX8_becomeLike cX8_becomeLike 2 none := ⟨ba_X8_becomeLike.1, ba_X8_becomeLike.2.1, nc_RX8⟩
theorem bv_X8_becomeLike : Cond.instanceMethod yX8_becomeLike ∈ ec_tb ∧ Cond.selects yX8_becomeLike.cls yX8_becomeLike yX8_becomeLike ∈ ec_tb := ⟨ba_X8_becomeLike.2.2.1, ba_X8_becomeLike.2.2.2.1⟩
theorem bp_X8_becomeLike : (parseMethodDescriptor yX8_becomeLike.desc).map (fun d => d.parameters.length) = some 1 := by decide +kernel
theorem bk_X8_becomeLike (l : Launch) : ∀ (ix n : Nat) (rc : Option Nat) (sp : ex_S), (be_X8_becomeLike ix).map (fun q => (q.1, q.2.1, ab_sp ab_hd q.2.2)) = some (n, rc, sp) → ex_cok l RX8 3 68 ix n rc sp := by
  intro ix n rc sp h
  obtain ⟨l0, h2, rfl⟩ := ab_dmk h
  clear h
  unfold be_X8_becomeLike at h2
  split at h2
  · cases h2; exact ec_cV (bm_X0_becomeLike l) bw_X0_becomeLike bv_X0_becomeLike (by decide) (by decide) (Or.inl ba_X8_becomeLike.2.2.2.2.1) (T := TX0) (N := 8) rfl (by decide) bp_X0_becomeLike
  · cases h2; exact ec_cV (bm_X3_becomeLike l) bw_X3_becomeLike bv_X3_becomeLike (by decide) (by decide) (Or.inl ba_X8_becomeLike.2.2.2.2.2.1) (T := TX3) (N := 7) rfl (by decide) bp_X3_becomeLike
  · cases h2; exact ec_cV (bm_X6_becomeLike l) bw_X6_becomeLike bv_X6_becomeLike (by decide) (by decide) (Or.inl ba_X8_becomeLike.2.2.2.2.2.2.1) (T := TX6) (N := 15) rfl (by decide) bp_X6_becomeLike
  · cases h2; exact ec_cV (bm_X1_becomeLike l) bw_X1_becomeLike bv_X1_becomeLike (by decide) (by decide) (Or.inl ba_X8_becomeLike.2.2.2.2.2.2.2.1) (T := TX1) (N := 6) rfl (by decide) bp_X1_becomeLike
  · cases h2; exact ec_cV (bm_X2_becomeLike l) bw_X2_becomeLike bv_X2_becomeLike (by decide) (by decide) (Or.inl ba_X8_becomeLike.2.2.2.2.2.2.2.2.1) (T := TX2) (N := 7) rfl (by decide) bp_X2_becomeLike
  · cases h2
theorem bj_X8_becomeLike (l : Launch) : ex_ok l 3 68 bx_X8_becomeLike := ec_okp fo_X8 co_X8 so_X8 (bk_X8_becomeLike l)
theorem bm_X8_becomeLike (l : Launch) : ex_Met l yX8_becomeLike cX8_becomeLike 2 none 3 68 (ab_sp ab_hd bc_X8_becomeLike) := ab_met (by decide) pn_RX8 rfl (bj_X8_becomeLike l) bd_X8_becomeLike ab_hcm ab_xk bz_X8_becomeLike
theorem ba_X8_isCheck : ec_al [(725, Cond.code yX8_isCheck cX8_isCheck 4 (some .boolean)), (60, Cond.initialized yX8_isCheck.cls), (724, Cond.instanceMethod yX8_isCheck), (8, Cond.selects yX8_isCheck.cls yX8_isCheck yX8_isCheck), (621, Cond.methodLink RX8 116 yX6_has), (726, Cond.methodLink RX8 208 yX0_isSort), (521, Cond.methodLink RX8 100 yX0_hasModule)] := ec_alk (by decide +kernel)
theorem bw_X8_isCheck : ec_cw yX8_isCheck cX8_isCheck 4 (some .boolean) := ⟨ba_X8_isCheck.1, ba_X8_isCheck.2.1, nc_RX8⟩
theorem bv_X8_isCheck : Cond.instanceMethod yX8_isCheck ∈ ec_tb ∧ Cond.selects yX8_isCheck.cls yX8_isCheck yX8_isCheck ∈ ec_tb := ⟨ba_X8_isCheck.2.2.1, ba_X8_isCheck.2.2.2.1⟩
theorem bp_X8_isCheck : (parseMethodDescriptor yX8_isCheck.desc).map (fun d => d.parameters.length) = some 3 := by decide +kernel
theorem bk_X8_isCheck (l : Launch) : ∀ (ix n : Nat) (rc : Option Nat) (sp : ex_S), (be_X8_isCheck ix).map (fun q => (q.1, q.2.1, ab_sp ab_hd q.2.2)) = some (n, rc, sp) → ex_cok l RX8 1 21 ix n rc sp := by
  intro ix n rc sp h
  obtain ⟨l0, h2, rfl⟩ := ab_dmk h
  clear h
  unfold be_X8_isCheck at h2
  split at h2
  · cases h2; exact ec_cV (bm_X6_has l) bw_X6_has bv_X6_has (by decide) (by decide) (Or.inl ba_X8_isCheck.2.2.2.2.1) (T := TX6) (N := 15) rfl (by decide) bp_X6_has
  · cases h2; exact ec_cS (bm_X0_isSort l) bw_X0_isSort bv_X0_isSort (by decide) (by decide) (Or.inl ba_X8_isCheck.2.2.2.2.2.1) bp_X0_isSort
  · cases h2; exact ec_cV (bm_X0_hasModule l) bw_X0_hasModule bv_X0_hasModule (by decide) (by decide) (Or.inl ba_X8_isCheck.2.2.2.2.2.2.1) (T := TX0) (N := 8) rfl (by decide) bp_X0_hasModule
  · cases h2
theorem bj_X8_isCheck (l : Launch) : ex_ok l 1 21 bx_X8_isCheck := ec_okp fo_X8 co_X8 so_X8 (bk_X8_isCheck l)
theorem bm_X8_isCheck (l : Launch) : ex_Met l yX8_isCheck cX8_isCheck 4 (some .boolean) 1 21 (ab_sp ab_hd bc_X8_isCheck) := ab_met (by decide) pn_RX8 rfl (bj_X8_isCheck l) bd_X8_isCheck ab_hcm ab_xk bz_X8_isCheck
theorem ba_X8_holds : ec_al [(730, Cond.code yX8_holds cX8_holds 4 (some .boolean)), (60, Cond.initialized yX8_holds.cls), (729, Cond.instanceMethod yX8_holds), (9, Cond.selects yX8_holds.cls yX8_holds yX8_holds), (731, Cond.methodLink RX8 217 yX0_amount)] := ec_alk (by decide +kernel)
theorem bw_X8_holds : ec_cw yX8_holds cX8_holds 4 (some .boolean) := ⟨ba_X8_holds.1, ba_X8_holds.2.1, nc_RX8⟩
theorem bv_X8_holds : Cond.instanceMethod yX8_holds ∈ ec_tb ∧ Cond.selects yX8_holds.cls yX8_holds yX8_holds ∈ ec_tb := ⟨ba_X8_holds.2.2.1, ba_X8_holds.2.2.2.1⟩
theorem bp_X8_holds : (parseMethodDescriptor yX8_holds.desc).map (fun d => d.parameters.length) = some 3 := by decide +kernel
theorem bk_X8_holds (l : Launch) : ∀ (ix n : Nat) (rc : Option Nat) (sp : ex_S), (be_X8_holds ix).map (fun q => (q.1, q.2.1, ab_sp ab_hd q.2.2)) = some (n, rc, sp) → ex_cok l RX8 1 22 ix n rc sp := by
  intro ix n rc sp h
  obtain ⟨l0, h2, rfl⟩ := ab_dmk h
  clear h
  unfold be_X8_holds at h2
  split at h2
  · cases h2; exact ec_cV (bm_X0_amount l) bw_X0_amount bv_X0_amount (by decide) (by decide) (Or.inl ba_X8_holds.2.2.2.2.1) (T := TX0) (N := 8) rfl (by decide) bp_X0_amount
  · cases h2
theorem bj_X8_holds (l : Launch) : ex_ok l 1 22 bx_X8_holds := ec_okp fo_X8 co_X8 so_X8 (bk_X8_holds l)
theorem bm_X8_holds (l : Launch) : ex_Met l yX8_holds cX8_holds 4 (some .boolean) 1 22 (ab_sp ab_hd bc_X8_holds) := ab_met (by decide) pn_RX8 rfl (bj_X8_holds l) bd_X8_holds ab_hcm ab_xk bz_X8_holds
theorem ba_X8_lineAfterCheck : ec_al [(721, Cond.code yX8_lineAfterCheck cX8_lineAfterCheck 6 (some .int)), (60, Cond.initialized yX8_lineAfterCheck.cls), (720, Cond.instanceMethod yX8_lineAfterCheck), (7, Cond.selects yX8_lineAfterCheck.cls yX8_lineAfterCheck yX8_lineAfterCheck), (706, Cond.methodLink RX8 149 yX7_has), (722, Cond.methodLink RX8 201 yX8_isCheck), (727, Cond.methodLink RX8 205 yX8_holds)] := ec_alk (by decide +kernel)
theorem bw_X8_lineAfterCheck : ec_cw yX8_lineAfterCheck cX8_lineAfterCheck 6 (some .int) := ⟨ba_X8_lineAfterCheck.1, ba_X8_lineAfterCheck.2.1, nc_RX8⟩
theorem bv_X8_lineAfterCheck : Cond.instanceMethod yX8_lineAfterCheck ∈ ec_tb ∧ Cond.selects yX8_lineAfterCheck.cls yX8_lineAfterCheck yX8_lineAfterCheck ∈ ec_tb := ⟨ba_X8_lineAfterCheck.2.2.1, ba_X8_lineAfterCheck.2.2.2.1⟩
theorem bp_X8_lineAfterCheck : (parseMethodDescriptor yX8_lineAfterCheck.desc).map (fun d => d.parameters.length) = some 1 := by decide +kernel
theorem bk_X8_lineAfterCheck (l : Launch) : ∀ (ix n : Nat) (rc : Option Nat) (sp : ex_S), (be_X8_lineAfterCheck ix).map (fun q => (q.1, q.2.1, ab_sp ab_hd q.2.2)) = some (n, rc, sp) → ex_cok l RX8 2 45 ix n rc sp := by
  intro ix n rc sp h
  obtain ⟨l0, h2, rfl⟩ := ab_dmk h
  clear h
  unfold be_X8_lineAfterCheck at h2
  split at h2
  · cases h2; exact ec_cV (bm_X7_has l) bw_X7_has bv_X7_has (by decide) (by decide) (Or.inl ba_X8_lineAfterCheck.2.2.2.2.1) (T := TX7) (N := 5) rfl (by decide) bp_X7_has
  · cases h2; exact ec_cV (bm_X8_isCheck l) bw_X8_isCheck bv_X8_isCheck (by decide) (by decide) (Or.inl ba_X8_lineAfterCheck.2.2.2.2.2.1) (T := TX8) (N := 7) rfl (by decide) bp_X8_isCheck
  · cases h2; exact ec_cV (bm_X8_holds l) bw_X8_holds bv_X8_holds (by decide) (by decide) (Or.inl ba_X8_lineAfterCheck.2.2.2.2.2.2.1) (T := TX8) (N := 7) rfl (by decide) bp_X8_holds
  · cases h2
theorem bj_X8_lineAfterCheck (l : Launch) : ex_ok l 2 45 bx_X8_lineAfterCheck := ec_okp fo_X8 co_X8 so_X8 (bk_X8_lineAfterCheck l)
theorem bm_X8_lineAfterCheck (l : Launch) : ex_Met l yX8_lineAfterCheck cX8_lineAfterCheck 6 (some .int) 2 45 (ab_sp ab_hd bc_X8_lineAfterCheck) := ab_met (by decide) pn_RX8 rfl (bj_X8_lineAfterCheck l) bd_X8_lineAfterCheck ab_hcm ab_xk bz_X8_lineAfterCheck
theorem ba_X8_walk : ec_al [(516, Cond.code yX8_walk cX8_walk 3 (some .int)), (60, Cond.initialized yX8_walk.cls), (514, Cond.instanceMethod yX8_walk), (515, Cond.selects yX8_walk.cls yX8_walk yX8_walk), (517, Cond.methodLink RX8 96 yX3_has), (521, Cond.methodLink RX8 100 yX0_hasModule), (523, Cond.methodLink RX8 104 yX3_mends), (527, Cond.methodLink RX8 111 yX0_openBetween)] := ec_alk (by decide +kernel)
theorem bw_X8_walk : ec_cw yX8_walk cX8_walk 3 (some .int) := ⟨ba_X8_walk.1, ba_X8_walk.2.1, nc_RX8⟩
theorem bv_X8_walk : Cond.instanceMethod yX8_walk ∈ ec_tb ∧ Cond.selects yX8_walk.cls yX8_walk yX8_walk ∈ ec_tb := ⟨ba_X8_walk.2.2.1, ba_X8_walk.2.2.2.1⟩
theorem bp_X8_walk : (parseMethodDescriptor yX8_walk.desc).map (fun d => d.parameters.length) = some 2 := by decide +kernel
theorem bk_X8_walk (l : Launch) : ∀ (ix n : Nat) (rc : Option Nat) (sp : ex_S), (be_X8_walk ix).map (fun q => (q.1, q.2.1, ab_sp ab_hd q.2.2)) = some (n, rc, sp) → ex_cok l RX8 1 24 ix n rc sp := by
  intro ix n rc sp h
  obtain ⟨l0, h2, rfl⟩ := ab_dmk h
  clear h
  unfold be_X8_walk at h2
  split at h2
  · cases h2; exact ec_cV (bm_X3_has l) bw_X3_has bv_X3_has (by decide) (by decide) (Or.inl ba_X8_walk.2.2.2.2.1) (T := TX3) (N := 7) rfl (by decide) bp_X3_has
  · cases h2; exact ec_cV (bm_X0_hasModule l) bw_X0_hasModule bv_X0_hasModule (by decide) (by decide) (Or.inl ba_X8_walk.2.2.2.2.2.1) (T := TX0) (N := 8) rfl (by decide) bp_X0_hasModule
  · cases h2; exact ec_cV (bm_X3_mends l) bw_X3_mends bv_X3_mends (by decide) (by decide) (Or.inl ba_X8_walk.2.2.2.2.2.2.1) (T := TX3) (N := 7) rfl (by decide) bp_X3_mends
  · cases h2; exact ec_cV (bm_X0_openBetween l) bw_X0_openBetween bv_X0_openBetween (by decide) (by decide) (Or.inl ba_X8_walk.2.2.2.2.2.2.2.1) (T := TX0) (N := 8) rfl (by decide) bp_X0_openBetween
  · cases h2
theorem bj_X8_walk (l : Launch) : ex_ok l 1 24 bx_X8_walk := ec_okp fo_X8 co_X8 so_X8 (bk_X8_walk l)
theorem bm_X8_walk (l : Launch) : ex_Met l yX8_walk cX8_walk 3 (some .int) 1 24 (ab_sp ab_hd bc_X8_walk) := ab_met (by decide) pn_RX8 rfl (bj_X8_walk l) bd_X8_walk ab_hcm ab_xk bz_X8_walk
theorem ba_X8_mend : ec_al [(620, Cond.code yX8_mend cX8_mend 5 (some .int)), (60, Cond.initialized yX8_mend.cls), (618, Cond.instanceMethod yX8_mend), (619, Cond.selects yX8_mend.cls yX8_mend yX8_mend), (517, Cond.methodLink RX8 96 yX3_has), (621, Cond.methodLink RX8 116 yX6_has), (622, Cond.methodLink RX8 121 yX3_isMended), (523, Cond.methodLink RX8 104 yX3_mends), (627, Cond.methodLink RX8 132 yX3_startMending)] := ec_alk (by decide +kernel)
theorem bw_X8_mend : ec_cw yX8_mend cX8_mend 5 (some .int) := ⟨ba_X8_mend.1, ba_X8_mend.2.1, nc_RX8⟩
theorem bv_X8_mend : Cond.instanceMethod yX8_mend ∈ ec_tb ∧ Cond.selects yX8_mend.cls yX8_mend yX8_mend ∈ ec_tb := ⟨ba_X8_mend.2.2.1, ba_X8_mend.2.2.2.1⟩
theorem bp_X8_mend : (parseMethodDescriptor yX8_mend.desc).map (fun d => d.parameters.length) = some 3 := by decide +kernel
theorem bk_X8_mend (l : Launch) : ∀ (ix n : Nat) (rc : Option Nat) (sp : ex_S), (be_X8_mend ix).map (fun q => (q.1, q.2.1, ab_sp ab_hd q.2.2)) = some (n, rc, sp) → ex_cok l RX8 1 23 ix n rc sp := by
  intro ix n rc sp h
  obtain ⟨l0, h2, rfl⟩ := ab_dmk h
  clear h
  unfold be_X8_mend at h2
  split at h2
  · cases h2; exact ec_cV (bm_X3_has l) bw_X3_has bv_X3_has (by decide) (by decide) (Or.inl ba_X8_mend.2.2.2.2.1) (T := TX3) (N := 7) rfl (by decide) bp_X3_has
  · cases h2; exact ec_cV (bm_X6_has l) bw_X6_has bv_X6_has (by decide) (by decide) (Or.inl ba_X8_mend.2.2.2.2.2.1) (T := TX6) (N := 15) rfl (by decide) bp_X6_has
  · cases h2; exact ec_cV (bm_X3_isMended l) bw_X3_isMended bv_X3_isMended (by decide) (by decide) (Or.inl ba_X8_mend.2.2.2.2.2.2.1) (T := TX3) (N := 7) rfl (by decide) bp_X3_isMended
  · cases h2; exact ec_cV (bm_X3_mends l) bw_X3_mends bv_X3_mends (by decide) (by decide) (Or.inl ba_X8_mend.2.2.2.2.2.2.2.1) (T := TX3) (N := 7) rfl (by decide) bp_X3_mends
  · cases h2; exact ec_cV (bm_X3_startMending l) bw_X3_startMending bv_X3_startMending (by decide) (by decide) (Or.inl ba_X8_mend.2.2.2.2.2.2.2.2.1) (T := TX3) (N := 7) rfl (by decide) bp_X3_startMending
  · cases h2
theorem bj_X8_mend (l : Launch) : ex_ok l 1 23 bx_X8_mend := ec_okp fo_X8 co_X8 so_X8 (bk_X8_mend l)
theorem bm_X8_mend (l : Launch) : ex_Met l yX8_mend cX8_mend 5 (some .int) 1 23 (ab_sp ab_hd bc_X8_mend) := ab_met (by decide) pn_RX8 rfl (bj_X8_mend l) bd_X8_mend ab_hcm ab_xk bz_X8_mend
theorem ba_X8_actByText : ec_al [(738, Cond.code yX8_actByText cX8_actByText 4 (some .int)), (60, Cond.initialized yX8_actByText.cls), (737, Cond.instanceMethod yX8_actByText), (10, Cond.selects yX8_actByText.cls yX8_actByText yX8_actByText), (739, Cond.methodLink RX8 184 yX6_setOn), (740, Cond.methodLink RX8 188 yX0_setOpen), (741, Cond.methodLink RX8 191 yX8_walk), (742, Cond.methodLink RX8 197 yX8_mend)] := ec_alk (by decide +kernel)
theorem bw_X8_actByText : ec_cw yX8_actByText cX8_actByText 4 (some .int) := ⟨ba_X8_actByText.1, ba_X8_actByText.2.1, nc_RX8⟩
theorem bv_X8_actByText : Cond.instanceMethod yX8_actByText ∈ ec_tb ∧ Cond.selects yX8_actByText.cls yX8_actByText yX8_actByText ∈ ec_tb := ⟨ba_X8_actByText.2.2.1, ba_X8_actByText.2.2.2.1⟩
theorem bp_X8_actByText : (parseMethodDescriptor yX8_actByText.desc).map (fun d => d.parameters.length) = some 1 := by decide +kernel
theorem bk_X8_actByText (l : Launch) : ∀ (ix n : Nat) (rc : Option Nat) (sp : ex_S), (be_X8_actByText ix).map (fun q => (q.1, q.2.1, ab_sp ab_hd q.2.2)) = some (n, rc, sp) → ex_cok l RX8 2 47 ix n rc sp := by
  intro ix n rc sp h
  obtain ⟨l0, h2, rfl⟩ := ab_dmk h
  clear h
  unfold be_X8_actByText at h2
  split at h2
  · cases h2; exact ec_cV (bm_X6_setOn l) bw_X6_setOn bv_X6_setOn (by decide) (by decide) (Or.inl ba_X8_actByText.2.2.2.2.1) (T := TX6) (N := 15) rfl (by decide) bp_X6_setOn
  · cases h2; exact ec_cV (bm_X0_setOpen l) bw_X0_setOpen bv_X0_setOpen (by decide) (by decide) (Or.inl ba_X8_actByText.2.2.2.2.2.1) (T := TX0) (N := 8) rfl (by decide) bp_X0_setOpen
  · cases h2; exact ec_cV (bm_X8_walk l) bw_X8_walk bv_X8_walk (by decide) (by decide) (Or.inl ba_X8_actByText.2.2.2.2.2.2.1) (T := TX8) (N := 7) rfl (by decide) bp_X8_walk
  · cases h2; exact ec_cV (bm_X8_mend l) bw_X8_mend bv_X8_mend (by decide) (by decide) (Or.inl ba_X8_actByText.2.2.2.2.2.2.2.1) (T := TX8) (N := 7) rfl (by decide) bp_X8_mend
  · cases h2
theorem bj_X8_actByText (l : Launch) : ex_ok l 2 47 bx_X8_actByText := ec_okp fo_X8 co_X8 so_X8 (bk_X8_actByText l)
theorem bm_X8_actByText (l : Launch) : ex_Met l yX8_actByText cX8_actByText 4 (some .int) 2 47 (ab_sp ab_hd bc_X8_actByText) := ab_met (by decide) pn_RX8 rfl (bj_X8_actByText l) bd_X8_actByText ab_hcm ab_xk bz_X8_actByText
theorem ba_X8_lineAfter : ec_al [(717, Cond.code yX8_lineAfter cX8_lineAfter 3 (some .int)), (60, Cond.initialized yX8_lineAfter.cls), (716, Cond.instanceMethod yX8_lineAfter), (6, Cond.selects yX8_lineAfter.cls yX8_lineAfter yX8_lineAfter), (718, Cond.methodLink RX8 171 yX8_lineAfterCheck), (706, Cond.methodLink RX8 149 yX7_has), (735, Cond.methodLink RX8 177 yX8_actByText)] := ec_alk (by decide +kernel)
theorem bw_X8_lineAfter : ec_cw yX8_lineAfter cX8_lineAfter 3 (some .int) := ⟨ba_X8_lineAfter.1, ba_X8_lineAfter.2.1, nc_RX8⟩
theorem bv_X8_lineAfter : Cond.instanceMethod yX8_lineAfter ∈ ec_tb ∧ Cond.selects yX8_lineAfter.cls yX8_lineAfter yX8_lineAfter ∈ ec_tb := ⟨ba_X8_lineAfter.2.2.1, ba_X8_lineAfter.2.2.2.1⟩
theorem bp_X8_lineAfter : (parseMethodDescriptor yX8_lineAfter.desc).map (fun d => d.parameters.length) = some 1 := by decide +kernel
theorem bk_X8_lineAfter (l : Launch) : ∀ (ix n : Nat) (rc : Option Nat) (sp : ex_S), (be_X8_lineAfter ix).map (fun q => (q.1, q.2.1, ab_sp ab_hd q.2.2)) = some (n, rc, sp) → ex_cok l RX8 3 70 ix n rc sp := by
  intro ix n rc sp h
  obtain ⟨l0, h2, rfl⟩ := ab_dmk h
  clear h
  unfold be_X8_lineAfter at h2
  split at h2
  · cases h2; exact ec_cV (bm_X8_lineAfterCheck l) bw_X8_lineAfterCheck bv_X8_lineAfterCheck (by decide) (by decide) (Or.inl ba_X8_lineAfter.2.2.2.2.1) (T := TX8) (N := 7) rfl (by decide) bp_X8_lineAfterCheck
  · cases h2; exact ec_cV (bm_X7_has l) bw_X7_has bv_X7_has (by decide) (by decide) (Or.inl ba_X8_lineAfter.2.2.2.2.2.1) (T := TX7) (N := 5) rfl (by decide) bp_X7_has
  · cases h2; exact ec_cV (bm_X8_actByText l) bw_X8_actByText bv_X8_actByText (by decide) (by decide) (Or.inl ba_X8_lineAfter.2.2.2.2.2.2.1) (T := TX8) (N := 7) rfl (by decide) bp_X8_actByText
  · cases h2
theorem bj_X8_lineAfter (l : Launch) : ex_ok l 3 70 bx_X8_lineAfter := ec_okp fo_X8 co_X8 so_X8 (bk_X8_lineAfter l)
theorem bm_X8_lineAfter (l : Launch) : ex_Met l yX8_lineAfter cX8_lineAfter 3 (some .int) 3 70 (ab_sp ab_hd bc_X8_lineAfter) := ab_met (by decide) pn_RX8 rfl (bj_X8_lineAfter l) bd_X8_lineAfter ab_hcm ab_xk bz_X8_lineAfter
theorem ba_X8_doText : ec_al [(705, Cond.code yX8_doText cX8_doText 2 none), (60, Cond.initialized yX8_doText.cls), (704, Cond.instanceMethod yX8_doText), (5, Cond.selects yX8_doText.cls yX8_doText yX8_doText), (706, Cond.methodLink RX8 149 yX7_has), (710, Cond.methodLink RX8 152 yX2_finish), (714, Cond.methodLink RX8 161 yX8_lineAfter), (744, Cond.methodLink RX8 165 yX2_goOnAt)] := ec_alk (by decide +kernel)
theorem bw_X8_doText : ec_cw yX8_doText cX8_doText 2 none := ⟨ba_X8_doText.1, ba_X8_doText.2.1, nc_RX8⟩
theorem bv_X8_doText : Cond.instanceMethod yX8_doText ∈ ec_tb ∧ Cond.selects yX8_doText.cls yX8_doText yX8_doText ∈ ec_tb := ⟨ba_X8_doText.2.2.1, ba_X8_doText.2.2.2.1⟩
theorem bp_X8_doText : (parseMethodDescriptor yX8_doText.desc).map (fun d => d.parameters.length) = some 0 := by decide +kernel
theorem bk_X8_doText (l : Launch) : ∀ (ix n : Nat) (rc : Option Nat) (sp : ex_S), (be_X8_doText ix).map (fun q => (q.1, q.2.1, ab_sp ab_hd q.2.2)) = some (n, rc, sp) → ex_cok l RX8 4 92 ix n rc sp := by
  intro ix n rc sp h
  obtain ⟨l0, h2, rfl⟩ := ab_dmk h
  clear h
  unfold be_X8_doText at h2
  split at h2
  · cases h2; exact ec_cV (bm_X7_has l) bw_X7_has bv_X7_has (by decide) (by decide) (Or.inl ba_X8_doText.2.2.2.2.1) (T := TX7) (N := 5) rfl (by decide) bp_X7_has
  · cases h2; exact ec_cV (bm_X2_finish l) bw_X2_finish bv_X2_finish (by decide) (by decide) (Or.inl ba_X8_doText.2.2.2.2.2.1) (T := TX2) (N := 7) rfl (by decide) bp_X2_finish
  · cases h2; exact ec_cV (bm_X8_lineAfter l) bw_X8_lineAfter bv_X8_lineAfter (by decide) (by decide) (Or.inl ba_X8_doText.2.2.2.2.2.2.1) (T := TX8) (N := 7) rfl (by decide) bp_X8_lineAfter
  · cases h2; exact ec_cV (bm_X2_goOnAt l) bw_X2_goOnAt bv_X2_goOnAt (by decide) (by decide) (Or.inl ba_X8_doText.2.2.2.2.2.2.2.1) (T := TX2) (N := 7) rfl (by decide) bp_X2_goOnAt
  · cases h2
theorem bj_X8_doText (l : Launch) : ex_ok l 4 92 bx_X8_doText := ec_okp fo_X8 co_X8 so_X8 (bk_X8_doText l)
theorem bm_X8_doText (l : Launch) : ex_Met l yX8_doText cX8_doText 2 none 4 92 (ab_sp ab_hd bc_X8_doText) := ab_met (by decide) pn_RX8 rfl (bj_X8_doText l) bd_X8_doText ab_hcm ab_xk bz_X8_doText
theorem ba_X8_passTick : ec_al [(701, Cond.code yX8_passTick cX8_passTick 2 (some .boolean)), (60, Cond.initialized yX8_passTick.cls), (699, Cond.instanceMethod yX8_passTick), (700, Cond.selects yX8_passTick.cls yX8_passTick yX8_passTick), (702, Cond.methodLink RX8 70 yX8_doText), (753, Cond.methodLink RX8 73 yX3_mendOn), (761, Cond.methodLink RX8 76 yX6_sharePower), (765, Cond.methodLink RX8 80 yX6_workAll), (798, Cond.methodLink RX8 83 yX3_live), (819, Cond.methodLink RX8 86 yX0_leakOut), (826, Cond.methodLink RX8 89 yX0_mixThroughHatches), (834, Cond.methodLink RX8 92 yX1_look)] := ec_alk (by decide +kernel)
theorem bw_X8_passTick : ec_cw yX8_passTick cX8_passTick 2 (some .boolean) := ⟨ba_X8_passTick.1, ba_X8_passTick.2.1, nc_RX8⟩
theorem bv_X8_passTick : Cond.instanceMethod yX8_passTick ∈ ec_tb ∧ Cond.selects yX8_passTick.cls yX8_passTick yX8_passTick ∈ ec_tb := ⟨ba_X8_passTick.2.2.1, ba_X8_passTick.2.2.2.1⟩
theorem bp_X8_passTick : (parseMethodDescriptor yX8_passTick.desc).map (fun d => d.parameters.length) = some 0 := by decide +kernel
theorem bk_X8_passTick (l : Launch) : ∀ (ix n : Nat) (rc : Option Nat) (sp : ex_S), (be_X8_passTick ix).map (fun q => (q.1, q.2.1, ab_sp ab_hd q.2.2)) = some (n, rc, sp) → ex_cok l RX8 5 113 ix n rc sp := by
  intro ix n rc sp h
  obtain ⟨l0, h2, rfl⟩ := ab_dmk h
  clear h
  unfold be_X8_passTick at h2
  split at h2
  · cases h2; exact ec_cV (bm_X8_doText l) bw_X8_doText bv_X8_doText (by decide) (by decide) (Or.inl ba_X8_passTick.2.2.2.2.1) (T := TX8) (N := 7) rfl (by decide) bp_X8_doText
  · cases h2; exact ec_cV (bm_X3_mendOn l) bw_X3_mendOn bv_X3_mendOn (by decide) (by decide) (Or.inl ba_X8_passTick.2.2.2.2.2.1) (T := TX3) (N := 7) rfl (by decide) bp_X3_mendOn
  · cases h2; exact ec_cV (bm_X6_sharePower l) bw_X6_sharePower bv_X6_sharePower (by decide) (by decide) (Or.inl ba_X8_passTick.2.2.2.2.2.2.1) (T := TX6) (N := 15) rfl (by decide) bp_X6_sharePower
  · cases h2; exact ec_cV (bm_X6_workAll l) bw_X6_workAll bv_X6_workAll (by decide) (by decide) (Or.inl ba_X8_passTick.2.2.2.2.2.2.2.1) (T := TX6) (N := 15) rfl (by decide) bp_X6_workAll
  · cases h2; exact ec_cV (bm_X3_live l) bw_X3_live bv_X3_live (by decide) (by decide) (Or.inl ba_X8_passTick.2.2.2.2.2.2.2.2.1) (T := TX3) (N := 7) rfl (by decide) bp_X3_live
  · cases h2; exact ec_cV (bm_X0_leakOut l) bw_X0_leakOut bv_X0_leakOut (by decide) (by decide) (Or.inl ba_X8_passTick.2.2.2.2.2.2.2.2.2.1) (T := TX0) (N := 8) rfl (by decide) bp_X0_leakOut
  · cases h2; exact ec_cV (bm_X0_mixThroughHatches l) bw_X0_mixThroughHatches bv_X0_mixThroughHatches (by decide) (by decide) (Or.inl ba_X8_passTick.2.2.2.2.2.2.2.2.2.2.1) (T := TX0) (N := 8) rfl (by decide) bp_X0_mixThroughHatches
  · cases h2; exact ec_cV (bm_X1_look l) bw_X1_look bv_X1_look (by decide) (by decide) (Or.inl ba_X8_passTick.2.2.2.2.2.2.2.2.2.2.2.1) (T := TX1) (N := 6) rfl (by decide) bp_X1_look
  · cases h2
theorem bj_X8_passTick (l : Launch) : ex_ok l 5 113 bx_X8_passTick := ec_okp fo_X8 co_X8 so_X8 (bk_X8_passTick l)
theorem bm_X8_passTick (l : Launch) : ex_Met l yX8_passTick cX8_passTick 2 (some .boolean) 5 113 (ab_sp ab_hd bc_X8_passTick) := ab_met (by decide) pn_RX8 rfl (bj_X8_passTick l) bd_X8_passTick ab_hcm ab_xk bz_X8_passTick
theorem ba_X9_counted : ec_al [(427, Cond.code yX9_counted cX9_counted 2 (some .int)), (58, Cond.initialized yX9_counted.cls), (426, Cond.instanceMethod yX9_counted), (0, Cond.selects yX9_counted.cls yX9_counted yX9_counted)] := ec_alk (by decide +kernel)
theorem bw_X9_counted : ec_cw yX9_counted cX9_counted 2 (some .int) := ⟨ba_X9_counted.1, ba_X9_counted.2.1, nc_RX9⟩
theorem bv_X9_counted : Cond.instanceMethod yX9_counted ∈ ec_tb ∧ Cond.selects yX9_counted.cls yX9_counted yX9_counted ∈ ec_tb := ⟨ba_X9_counted.2.2.1, ba_X9_counted.2.2.2.1⟩
theorem bp_X9_counted : (parseMethodDescriptor yX9_counted.desc).map (fun d => d.parameters.length) = some 1 := by decide +kernel
theorem bj_X9_counted (l : Launch) : ex_ok l 0 0 bx_X9_counted := ec_okp fo_X9 co_X9 so_X9 (ec_okn)
theorem bm_X9_counted (l : Launch) : ex_Met l yX9_counted cX9_counted 2 (some .int) 0 0 (ab_sp ab_hd bc_X9_counted) := ab_met (by decide) pn_RX9 rfl (bj_X9_counted l) bd_X9_counted ab_hcm ab_xk bz_X9_counted
theorem ba_X9_module : ec_al [(418, Cond.code yX9_module cX9_module 1 (some .int)), (58, Cond.initialized yX9_module.cls), (416, Cond.instanceMethod yX9_module), (417, Cond.selects yX9_module.cls yX9_module yX9_module), (419, Cond.methodLink RX9 58 yX0_addModule), (424, Cond.methodLink RX9 64 yX9_counted)] := ec_alk (by decide +kernel)
theorem bw_X9_module : ec_cw yX9_module cX9_module 1 (some .int) := ⟨ba_X9_module.1, ba_X9_module.2.1, nc_RX9⟩
theorem bv_X9_module : Cond.instanceMethod yX9_module ∈ ec_tb ∧ Cond.selects yX9_module.cls yX9_module yX9_module ∈ ec_tb := ⟨ba_X9_module.2.2.1, ba_X9_module.2.2.2.1⟩
theorem bp_X9_module : (parseMethodDescriptor yX9_module.desc).map (fun d => d.parameters.length) = some 0 := by decide +kernel
theorem bk_X9_module (l : Launch) : ∀ (ix n : Nat) (rc : Option Nat) (sp : ex_S), (be_X9_module ix).map (fun q => (q.1, q.2.1, ab_sp ab_hd q.2.2)) = some (n, rc, sp) → ex_cok l RX9 1 21 ix n rc sp := by
  intro ix n rc sp h
  obtain ⟨l0, h2, rfl⟩ := ab_dmk h
  clear h
  unfold be_X9_module at h2
  split at h2
  · cases h2; exact ec_cV (bm_X0_addModule l) bw_X0_addModule bv_X0_addModule (by decide) (by decide) (Or.inl ba_X9_module.2.2.2.2.1) (T := TX0) (N := 8) rfl (by decide) bp_X0_addModule
  · cases h2; exact ec_cV (bm_X9_counted l) bw_X9_counted bv_X9_counted (by decide) (by decide) (Or.inl ba_X9_module.2.2.2.2.2.1) (T := TX9) (N := 10) rfl (by decide) bp_X9_counted
  · cases h2
theorem bj_X9_module (l : Launch) : ex_ok l 1 21 bx_X9_module := ec_okp fo_X9 co_X9 so_X9 (bk_X9_module l)
theorem bm_X9_module (l : Launch) : ex_Met l yX9_module cX9_module 1 (some .int) 1 21 (ab_sp ab_hd bc_X9_module) := ab_met (by decide) pn_RX9 rfl (bj_X9_module l) bd_X9_module ab_hcm ab_xk bz_X9_module
theorem ba_X9_hatch : ec_al [(433, Cond.code yX9_hatch cX9_hatch 3 (some .int)), (58, Cond.initialized yX9_hatch.cls), (431, Cond.instanceMethod yX9_hatch), (432, Cond.selects yX9_hatch.cls yX9_hatch yX9_hatch), (434, Cond.methodLink RX9 68 yX0_addHatch), (424, Cond.methodLink RX9 64 yX9_counted)] := ec_alk (by decide +kernel)
theorem bw_X9_hatch : ec_cw yX9_hatch cX9_hatch 3 (some .int) := ⟨ba_X9_hatch.1, ba_X9_hatch.2.1, nc_RX9⟩
theorem bv_X9_hatch : Cond.instanceMethod yX9_hatch ∈ ec_tb ∧ Cond.selects yX9_hatch.cls yX9_hatch yX9_hatch ∈ ec_tb := ⟨ba_X9_hatch.2.2.1, ba_X9_hatch.2.2.2.1⟩
theorem bp_X9_hatch : (parseMethodDescriptor yX9_hatch.desc).map (fun d => d.parameters.length) = some 2 := by decide +kernel
theorem bk_X9_hatch (l : Launch) : ∀ (ix n : Nat) (rc : Option Nat) (sp : ex_S), (be_X9_hatch ix).map (fun q => (q.1, q.2.1, ab_sp ab_hd q.2.2)) = some (n, rc, sp) → ex_cok l RX9 2 43 ix n rc sp := by
  intro ix n rc sp h
  obtain ⟨l0, h2, rfl⟩ := ab_dmk h
  clear h
  unfold be_X9_hatch at h2
  split at h2
  · cases h2; exact ec_cV (bm_X0_addHatch l) bw_X0_addHatch bv_X0_addHatch (by decide) (by decide) (Or.inl ba_X9_hatch.2.2.2.2.1) (T := TX0) (N := 8) rfl (by decide) bp_X0_addHatch
  · cases h2; exact ec_cV (bm_X9_counted l) bw_X9_counted bv_X9_counted (by decide) (by decide) (Or.inl ba_X9_hatch.2.2.2.2.2.1) (T := TX9) (N := 10) rfl (by decide) bp_X9_counted
  · cases h2
theorem bj_X9_hatch (l : Launch) : ex_ok l 2 43 bx_X9_hatch := ec_okp fo_X9 co_X9 so_X9 (bk_X9_hatch l)
theorem bm_X9_hatch (l : Launch) : ex_Met l yX9_hatch cX9_hatch 3 (some .int) 2 43 (ab_sp ab_hd bc_X9_hatch) := ab_met (by decide) pn_RX9 rfl (bj_X9_hatch l) bd_X9_hatch ab_hcm ab_xk bz_X9_hatch
theorem ba_X9_shut : ec_al [(446, Cond.code yX9_shut cX9_shut 3 (some .int)), (58, Cond.initialized yX9_shut.cls), (444, Cond.instanceMethod yX9_shut), (445, Cond.selects yX9_shut.cls yX9_shut yX9_shut), (447, Cond.methodLink RX9 72 yX0_setOpen), (424, Cond.methodLink RX9 64 yX9_counted)] := ec_alk (by decide +kernel)
theorem bw_X9_shut : ec_cw yX9_shut cX9_shut 3 (some .int) := ⟨ba_X9_shut.1, ba_X9_shut.2.1, nc_RX9⟩
theorem bv_X9_shut : Cond.instanceMethod yX9_shut ∈ ec_tb ∧ Cond.selects yX9_shut.cls yX9_shut yX9_shut ∈ ec_tb := ⟨ba_X9_shut.2.2.1, ba_X9_shut.2.2.2.1⟩
theorem bp_X9_shut : (parseMethodDescriptor yX9_shut.desc).map (fun d => d.parameters.length) = some 2 := by decide +kernel
theorem bk_X9_shut (l : Launch) : ∀ (ix n : Nat) (rc : Option Nat) (sp : ex_S), (be_X9_shut ix).map (fun q => (q.1, q.2.1, ab_sp ab_hd q.2.2)) = some (n, rc, sp) → ex_cok l RX9 2 44 ix n rc sp := by
  intro ix n rc sp h
  obtain ⟨l0, h2, rfl⟩ := ab_dmk h
  clear h
  unfold be_X9_shut at h2
  split at h2
  · cases h2; exact ec_cV (bm_X0_setOpen l) bw_X0_setOpen bv_X0_setOpen (by decide) (by decide) (Or.inl ba_X9_shut.2.2.2.2.1) (T := TX0) (N := 8) rfl (by decide) bp_X0_setOpen
  · cases h2; exact ec_cV (bm_X9_counted l) bw_X9_counted bv_X9_counted (by decide) (by decide) (Or.inl ba_X9_shut.2.2.2.2.2.1) (T := TX9) (N := 10) rfl (by decide) bp_X9_counted
  · cases h2
theorem bj_X9_shut (l : Launch) : ex_ok l 2 44 bx_X9_shut := ec_okp fo_X9 co_X9 so_X9 (bk_X9_shut l)
theorem bm_X9_shut (l : Launch) : ex_Met l yX9_shut cX9_shut 3 (some .int) 2 44 (ab_sp ab_hd bc_X9_shut) := ab_met (by decide) pn_RX9 rfl (bj_X9_shut l) bd_X9_shut ab_hcm ab_xk bz_X9_shut
theorem ba_X9_gas : ec_al [(464, Cond.code yX9_gas cX9_gas 4 (some .int)), (58, Cond.initialized yX9_gas.cls), (462, Cond.instanceMethod yX9_gas), (463, Cond.selects yX9_gas.cls yX9_gas yX9_gas), (465, Cond.methodLink RX9 75 yX0_setHeld), (424, Cond.methodLink RX9 64 yX9_counted)] := ec_alk (by decide +kernel)
theorem bw_X9_gas : ec_cw yX9_gas cX9_gas 4 (some .int) := ⟨ba_X9_gas.1, ba_X9_gas.2.1, nc_RX9⟩
theorem bv_X9_gas : Cond.instanceMethod yX9_gas ∈ ec_tb ∧ Cond.selects yX9_gas.cls yX9_gas yX9_gas ∈ ec_tb := ⟨ba_X9_gas.2.2.1, ba_X9_gas.2.2.2.1⟩
theorem bp_X9_gas : (parseMethodDescriptor yX9_gas.desc).map (fun d => d.parameters.length) = some 3 := by decide +kernel
theorem bk_X9_gas (l : Launch) : ∀ (ix n : Nat) (rc : Option Nat) (sp : ex_S), (be_X9_gas ix).map (fun q => (q.1, q.2.1, ab_sp ab_hd q.2.2)) = some (n, rc, sp) → ex_cok l RX9 2 45 ix n rc sp := by
  intro ix n rc sp h
  obtain ⟨l0, h2, rfl⟩ := ab_dmk h
  clear h
  unfold be_X9_gas at h2
  split at h2
  · cases h2; exact ec_cV (bm_X0_setHeld l) bw_X0_setHeld bv_X0_setHeld (by decide) (by decide) (Or.inl ba_X9_gas.2.2.2.2.1) (T := TX0) (N := 8) rfl (by decide) bp_X0_setHeld
  · cases h2; exact ec_cV (bm_X9_counted l) bw_X9_counted bv_X9_counted (by decide) (by decide) (Or.inl ba_X9_gas.2.2.2.2.2.1) (T := TX9) (N := 10) rfl (by decide) bp_X9_counted
  · cases h2
theorem bj_X9_gas (l : Launch) : ex_ok l 2 45 bx_X9_gas := ec_okp fo_X9 co_X9 so_X9 (bk_X9_gas l)
theorem bm_X9_gas (l : Launch) : ex_Met l yX9_gas cX9_gas 4 (some .int) 2 45 (ab_sp ab_hd bc_X9_gas) := ab_met (by decide) pn_RX9 rfl (bj_X9_gas l) bd_X9_gas ab_hcm ab_xk bz_X9_gas
theorem ba_X9_leak : ec_al [(476, Cond.code yX9_leak cX9_leak 3 (some .int)), (58, Cond.initialized yX9_leak.cls), (474, Cond.instanceMethod yX9_leak), (475, Cond.selects yX9_leak.cls yX9_leak yX9_leak), (477, Cond.methodLink RX9 79 yX0_setLeak), (424, Cond.methodLink RX9 64 yX9_counted)] := ec_alk (by decide +kernel)
theorem bw_X9_leak : ec_cw yX9_leak cX9_leak 3 (some .int) := ⟨ba_X9_leak.1, ba_X9_leak.2.1, nc_RX9⟩
theorem bv_X9_leak : Cond.instanceMethod yX9_leak ∈ ec_tb ∧ Cond.selects yX9_leak.cls yX9_leak yX9_leak ∈ ec_tb := ⟨ba_X9_leak.2.2.1, ba_X9_leak.2.2.2.1⟩
theorem bp_X9_leak : (parseMethodDescriptor yX9_leak.desc).map (fun d => d.parameters.length) = some 2 := by decide +kernel
theorem bk_X9_leak (l : Launch) : ∀ (ix n : Nat) (rc : Option Nat) (sp : ex_S), (be_X9_leak ix).map (fun q => (q.1, q.2.1, ab_sp ab_hd q.2.2)) = some (n, rc, sp) → ex_cok l RX9 2 44 ix n rc sp := by
  intro ix n rc sp h
  obtain ⟨l0, h2, rfl⟩ := ab_dmk h
  clear h
  unfold be_X9_leak at h2
  split at h2
  · cases h2; exact ec_cV (bm_X0_setLeak l) bw_X0_setLeak bv_X0_setLeak (by decide) (by decide) (Or.inl ba_X9_leak.2.2.2.2.1) (T := TX0) (N := 8) rfl (by decide) bp_X0_setLeak
  · cases h2; exact ec_cV (bm_X9_counted l) bw_X9_counted bv_X9_counted (by decide) (by decide) (Or.inl ba_X9_leak.2.2.2.2.2.1) (T := TX9) (N := 10) rfl (by decide) bp_X9_counted
  · cases h2
theorem bj_X9_leak (l : Launch) : ex_ok l 2 44 bx_X9_leak := ec_okp fo_X9 co_X9 so_X9 (bk_X9_leak l)
theorem bm_X9_leak (l : Launch) : ex_Met l yX9_leak cX9_leak 3 (some .int) 2 44 (ab_sp ab_hd bc_X9_leak) := ab_met (by decide) pn_RX9 rfl (bj_X9_leak l) bd_X9_leak ab_hcm ab_xk bz_X9_leak
theorem ba_X9_tank : ec_al [(484, Cond.code yX9_tank cX9_tank 3 (some .int)), (58, Cond.initialized yX9_tank.cls), (482, Cond.instanceMethod yX9_tank), (483, Cond.selects yX9_tank.cls yX9_tank yX9_tank), (485, Cond.methodLink RX9 82 yX0_setStored), (424, Cond.methodLink RX9 64 yX9_counted)] := ec_alk (by decide +kernel)
theorem bw_X9_tank : ec_cw yX9_tank cX9_tank 3 (some .int) := ⟨ba_X9_tank.1, ba_X9_tank.2.1, nc_RX9⟩
theorem bv_X9_tank : Cond.instanceMethod yX9_tank ∈ ec_tb ∧ Cond.selects yX9_tank.cls yX9_tank yX9_tank ∈ ec_tb := ⟨ba_X9_tank.2.2.1, ba_X9_tank.2.2.2.1⟩
theorem bp_X9_tank : (parseMethodDescriptor yX9_tank.desc).map (fun d => d.parameters.length) = some 2 := by decide +kernel
theorem bk_X9_tank (l : Launch) : ∀ (ix n : Nat) (rc : Option Nat) (sp : ex_S), (be_X9_tank ix).map (fun q => (q.1, q.2.1, ab_sp ab_hd q.2.2)) = some (n, rc, sp) → ex_cok l RX9 1 23 ix n rc sp := by
  intro ix n rc sp h
  obtain ⟨l0, h2, rfl⟩ := ab_dmk h
  clear h
  unfold be_X9_tank at h2
  split at h2
  · cases h2; exact ec_cV (bm_X0_setStored l) bw_X0_setStored bv_X0_setStored (by decide) (by decide) (Or.inl ba_X9_tank.2.2.2.2.1) (T := TX0) (N := 8) rfl (by decide) bp_X0_setStored
  · cases h2; exact ec_cV (bm_X9_counted l) bw_X9_counted bv_X9_counted (by decide) (by decide) (Or.inl ba_X9_tank.2.2.2.2.2.1) (T := TX9) (N := 10) rfl (by decide) bp_X9_counted
  · cases h2
theorem bj_X9_tank (l : Launch) : ex_ok l 1 23 bx_X9_tank := ec_okp fo_X9 co_X9 so_X9 (bk_X9_tank l)
theorem bm_X9_tank (l : Launch) : ex_Met l yX9_tank cX9_tank 3 (some .int) 1 23 (ab_sp ab_hd bc_X9_tank) := ab_met (by decide) pn_RX9 rfl (bj_X9_tank l) bd_X9_tank ab_hcm ab_xk bz_X9_tank
theorem ba_X9_grams : ec_al [(493, Cond.code yX9_grams cX9_grams 1 (some .int)), (58, Cond.initialized yX9_grams.cls), (491, Cond.instanceMethod yX9_grams), (492, Cond.selects yX9_grams.cls yX9_grams yX9_grams), (494, Cond.methodLink RX9 85 yX0_allGrams)] := ec_alk (by decide +kernel)
theorem bw_X9_grams : ec_cw yX9_grams cX9_grams 1 (some .int) := ⟨ba_X9_grams.1, ba_X9_grams.2.1, nc_RX9⟩
theorem bv_X9_grams : Cond.instanceMethod yX9_grams ∈ ec_tb ∧ Cond.selects yX9_grams.cls yX9_grams yX9_grams ∈ ec_tb := ⟨ba_X9_grams.2.2.1, ba_X9_grams.2.2.2.1⟩
theorem bp_X9_grams : (parseMethodDescriptor yX9_grams.desc).map (fun d => d.parameters.length) = some 0 := by decide +kernel
theorem bk_X9_grams (l : Launch) : ∀ (ix n : Nat) (rc : Option Nat) (sp : ex_S), (be_X9_grams ix).map (fun q => (q.1, q.2.1, ab_sp ab_hd q.2.2)) = some (n, rc, sp) → ex_cok l RX9 1 23 ix n rc sp := by
  intro ix n rc sp h
  obtain ⟨l0, h2, rfl⟩ := ab_dmk h
  clear h
  unfold be_X9_grams at h2
  split at h2
  · cases h2; exact ec_cV (bm_X0_allGrams l) bw_X0_allGrams bv_X0_allGrams (by decide) (by decide) (Or.inl ba_X9_grams.2.2.2.2.1) (T := TX0) (N := 8) rfl (by decide) bp_X0_allGrams
  · cases h2
theorem bj_X9_grams (l : Launch) : ex_ok l 1 23 bx_X9_grams := ec_okp fo_X9 co_X9 so_X9 (bk_X9_grams l)
theorem bm_X9_grams (l : Launch) : ex_Met l yX9_grams cX9_grams 1 (some .int) 1 23 (ab_sp ab_hd bc_X9_grams) := ab_met (by decide) pn_RX9 rfl (bj_X9_grams l) bd_X9_grams ab_hcm ab_xk bz_X9_grams
theorem ba_X9_person : ec_al [(501, Cond.code yX9_person cX9_person 2 (some .int)), (58, Cond.initialized yX9_person.cls), (499, Cond.instanceMethod yX9_person), (500, Cond.selects yX9_person.cls yX9_person yX9_person), (502, Cond.methodLink RX9 88 yX0_hasModule), (424, Cond.methodLink RX9 64 yX9_counted), (504, Cond.methodLink RX9 97 yX3_addPerson)] := ec_alk (by decide +kernel)
theorem bw_X9_person : ec_cw yX9_person cX9_person 2 (some .int) := ⟨ba_X9_person.1, ba_X9_person.2.1, nc_RX9⟩
theorem bv_X9_person : Cond.instanceMethod yX9_person ∈ ec_tb ∧ Cond.selects yX9_person.cls yX9_person yX9_person ∈ ec_tb := ⟨ba_X9_person.2.2.1, ba_X9_person.2.2.2.1⟩
theorem bp_X9_person : (parseMethodDescriptor yX9_person.desc).map (fun d => d.parameters.length) = some 1 := by decide +kernel
theorem bk_X9_person (l : Launch) : ∀ (ix n : Nat) (rc : Option Nat) (sp : ex_S), (be_X9_person ix).map (fun q => (q.1, q.2.1, ab_sp ab_hd q.2.2)) = some (n, rc, sp) → ex_cok l RX9 1 21 ix n rc sp := by
  intro ix n rc sp h
  obtain ⟨l0, h2, rfl⟩ := ab_dmk h
  clear h
  unfold be_X9_person at h2
  split at h2
  · cases h2; exact ec_cV (bm_X0_hasModule l) bw_X0_hasModule bv_X0_hasModule (by decide) (by decide) (Or.inl ba_X9_person.2.2.2.2.1) (T := TX0) (N := 8) rfl (by decide) bp_X0_hasModule
  · cases h2; exact ec_cV (bm_X9_counted l) bw_X9_counted bv_X9_counted (by decide) (by decide) (Or.inl ba_X9_person.2.2.2.2.2.1) (T := TX9) (N := 10) rfl (by decide) bp_X9_counted
  · cases h2; exact ec_cV (bm_X3_addPerson l) bw_X3_addPerson bv_X3_addPerson (by decide) (by decide) (Or.inl ba_X9_person.2.2.2.2.2.2.1) (T := TX3) (N := 7) rfl (by decide) bp_X3_addPerson
  · cases h2
theorem bj_X9_person (l : Launch) : ex_ok l 1 21 bx_X9_person := ec_okp fo_X9 co_X9 so_X9 (bk_X9_person l)
theorem bm_X9_person (l : Launch) : ex_Met l yX9_person cX9_person 2 (some .int) 1 21 (ab_sp ab_hd bc_X9_person) := ab_met (by decide) pn_RX9 rfl (bj_X9_person l) bd_X9_person ab_hcm ab_xk bz_X9_person
theorem ba_X9_go : ec_al [(512, Cond.code yX9_go cX9_go 3 (some .int)), (58, Cond.initialized yX9_go.cls), (510, Cond.instanceMethod yX9_go), (511, Cond.selects yX9_go.cls yX9_go yX9_go), (513, Cond.methodLink RX9 102 yX8_walk), (424, Cond.methodLink RX9 64 yX9_counted)] := ec_alk (by decide +kernel)
theorem bw_X9_go : ec_cw yX9_go cX9_go 3 (some .int) := ⟨ba_X9_go.1, ba_X9_go.2.1, nc_RX9⟩
theorem bv_X9_go : Cond.instanceMethod yX9_go ∈ ec_tb ∧ Cond.selects yX9_go.cls yX9_go yX9_go ∈ ec_tb := ⟨ba_X9_go.2.2.1, ba_X9_go.2.2.2.1⟩
theorem bp_X9_go : (parseMethodDescriptor yX9_go.desc).map (fun d => d.parameters.length) = some 2 := by decide +kernel
theorem bk_X9_go (l : Launch) : ∀ (ix n : Nat) (rc : Option Nat) (sp : ex_S), (be_X9_go ix).map (fun q => (q.1, q.2.1, ab_sp ab_hd q.2.2)) = some (n, rc, sp) → ex_cok l RX9 2 46 ix n rc sp := by
  intro ix n rc sp h
  obtain ⟨l0, h2, rfl⟩ := ab_dmk h
  clear h
  unfold be_X9_go at h2
  split at h2
  · cases h2; exact ec_cV (bm_X8_walk l) bw_X8_walk bv_X8_walk (by decide) (by decide) (Or.inl ba_X9_go.2.2.2.2.1) (T := TX8) (N := 7) rfl (by decide) bp_X8_walk
  · cases h2; exact ec_cV (bm_X9_counted l) bw_X9_counted bv_X9_counted (by decide) (by decide) (Or.inl ba_X9_go.2.2.2.2.2.1) (T := TX9) (N := 10) rfl (by decide) bp_X9_counted
  · cases h2
theorem bj_X9_go (l : Launch) : ex_ok l 2 46 bx_X9_go := ec_okp fo_X9 co_X9 so_X9 (bk_X9_go l)
theorem bm_X9_go (l : Launch) : ex_Met l yX9_go cX9_go 3 (some .int) 2 46 (ab_sp ab_hd bc_X9_go) := ab_met (by decide) pn_RX9 rfl (bj_X9_go l) bd_X9_go ab_hcm ab_xk bz_X9_go
theorem ba_X9_doing : ec_al [(535, Cond.code yX9_doing cX9_doing 3 (some .int)), (58, Cond.initialized yX9_doing.cls), (533, Cond.instanceMethod yX9_doing), (534, Cond.selects yX9_doing.cls yX9_doing yX9_doing), (536, Cond.methodLink RX9 105 yX3_setDoing), (424, Cond.methodLink RX9 64 yX9_counted)] := ec_alk (by decide +kernel)
theorem bw_X9_doing : ec_cw yX9_doing cX9_doing 3 (some .int) := ⟨ba_X9_doing.1, ba_X9_doing.2.1, nc_RX9⟩
theorem bv_X9_doing : Cond.instanceMethod yX9_doing ∈ ec_tb ∧ Cond.selects yX9_doing.cls yX9_doing yX9_doing ∈ ec_tb := ⟨ba_X9_doing.2.2.1, ba_X9_doing.2.2.2.1⟩
theorem bp_X9_doing : (parseMethodDescriptor yX9_doing.desc).map (fun d => d.parameters.length) = some 2 := by decide +kernel
theorem bk_X9_doing (l : Launch) : ∀ (ix n : Nat) (rc : Option Nat) (sp : ex_S), (be_X9_doing ix).map (fun q => (q.1, q.2.1, ab_sp ab_hd q.2.2)) = some (n, rc, sp) → ex_cok l RX9 2 44 ix n rc sp := by
  intro ix n rc sp h
  obtain ⟨l0, h2, rfl⟩ := ab_dmk h
  clear h
  unfold be_X9_doing at h2
  split at h2
  · cases h2; exact ec_cV (bm_X3_setDoing l) bw_X3_setDoing bv_X3_setDoing (by decide) (by decide) (Or.inl ba_X9_doing.2.2.2.2.1) (T := TX3) (N := 7) rfl (by decide) bp_X3_setDoing
  · cases h2; exact ec_cV (bm_X9_counted l) bw_X9_counted bv_X9_counted (by decide) (by decide) (Or.inl ba_X9_doing.2.2.2.2.2.1) (T := TX9) (N := 10) rfl (by decide) bp_X9_counted
  · cases h2
theorem bj_X9_doing (l : Launch) : ex_ok l 2 44 bx_X9_doing := ec_okp fo_X9 co_X9 so_X9 (bk_X9_doing l)
theorem bm_X9_doing (l : Launch) : ex_Met l yX9_doing cX9_doing 3 (some .int) 2 44 (ab_sp ab_hd bc_X9_doing) := ab_met (by decide) pn_RX9 rfl (bj_X9_doing l) bd_X9_doing ab_hcm ab_xk bz_X9_doing
theorem ba_X9_about : ec_al [(547, Cond.code yX9_about cX9_about 3 (some .int)), (58, Cond.initialized yX9_about.cls), (545, Cond.instanceMethod yX9_about), (546, Cond.selects yX9_about.cls yX9_about yX9_about), (548, Cond.methodLink RX9 108 yX3_tellOf), (424, Cond.methodLink RX9 64 yX9_counted)] := ec_alk (by decide +kernel)
theorem bw_X9_about : ec_cw yX9_about cX9_about 3 (some .int) := ⟨ba_X9_about.1, ba_X9_about.2.1, nc_RX9⟩
theorem bv_X9_about : Cond.instanceMethod yX9_about ∈ ec_tb ∧ Cond.selects yX9_about.cls yX9_about yX9_about ∈ ec_tb := ⟨ba_X9_about.2.2.1, ba_X9_about.2.2.2.1⟩
theorem bp_X9_about : (parseMethodDescriptor yX9_about.desc).map (fun d => d.parameters.length) = some 2 := by decide +kernel
theorem bk_X9_about (l : Launch) : ∀ (ix n : Nat) (rc : Option Nat) (sp : ex_S), (be_X9_about ix).map (fun q => (q.1, q.2.1, ab_sp ab_hd q.2.2)) = some (n, rc, sp) → ex_cok l RX9 2 43 ix n rc sp := by
  intro ix n rc sp h
  obtain ⟨l0, h2, rfl⟩ := ab_dmk h
  clear h
  unfold be_X9_about at h2
  split at h2
  · cases h2; exact ec_cV (bm_X3_tellOf l) bw_X3_tellOf bv_X3_tellOf (by decide) (by decide) (Or.inl ba_X9_about.2.2.2.2.1) (T := TX3) (N := 7) rfl (by decide) bp_X3_tellOf
  · cases h2; exact ec_cV (bm_X9_counted l) bw_X9_counted bv_X9_counted (by decide) (by decide) (Or.inl ba_X9_about.2.2.2.2.2.1) (T := TX9) (N := 10) rfl (by decide) bp_X9_counted
  · cases h2
theorem bj_X9_about (l : Launch) : ex_ok l 2 43 bx_X9_about := ec_okp fo_X9 co_X9 so_X9 (bk_X9_about l)
theorem bm_X9_about (l : Launch) : ex_Met l yX9_about cX9_about 3 (some .int) 2 43 (ab_sp ab_hd bc_X9_about) := ab_met (by decide) pn_RX9 rfl (bj_X9_about l) bd_X9_about ab_hcm ab_xk bz_X9_about
theorem ba_X9_machine : ec_al [(555, Cond.code yX9_machine cX9_machine 5 (some .int)), (58, Cond.initialized yX9_machine.cls), (553, Cond.instanceMethod yX9_machine), (554, Cond.selects yX9_machine.cls yX9_machine yX9_machine), (502, Cond.methodLink RX9 88 yX0_hasModule), (424, Cond.methodLink RX9 64 yX9_counted), (556, Cond.methodLink RX9 115 yX6_addMachine)] := ec_alk (by decide +kernel)
theorem bw_X9_machine : ec_cw yX9_machine cX9_machine 5 (some .int) := ⟨ba_X9_machine.1, ba_X9_machine.2.1, nc_RX9⟩
theorem bv_X9_machine : Cond.instanceMethod yX9_machine ∈ ec_tb ∧ Cond.selects yX9_machine.cls yX9_machine yX9_machine ∈ ec_tb := ⟨ba_X9_machine.2.2.1, ba_X9_machine.2.2.2.1⟩
theorem bp_X9_machine : (parseMethodDescriptor yX9_machine.desc).map (fun d => d.parameters.length) = some 4 := by decide +kernel
theorem bk_X9_machine (l : Launch) : ∀ (ix n : Nat) (rc : Option Nat) (sp : ex_S), (be_X9_machine ix).map (fun q => (q.1, q.2.1, ab_sp ab_hd q.2.2)) = some (n, rc, sp) → ex_cok l RX9 2 45 ix n rc sp := by
  intro ix n rc sp h
  obtain ⟨l0, h2, rfl⟩ := ab_dmk h
  clear h
  unfold be_X9_machine at h2
  split at h2
  · cases h2; exact ec_cV (bm_X0_hasModule l) bw_X0_hasModule bv_X0_hasModule (by decide) (by decide) (Or.inl ba_X9_machine.2.2.2.2.1) (T := TX0) (N := 8) rfl (by decide) bp_X0_hasModule
  · cases h2; exact ec_cV (bm_X9_counted l) bw_X9_counted bv_X9_counted (by decide) (by decide) (Or.inl ba_X9_machine.2.2.2.2.2.1) (T := TX9) (N := 10) rfl (by decide) bp_X9_counted
  · cases h2; exact ec_cV (bm_X6_addMachine l) bw_X6_addMachine bv_X6_addMachine (by decide) (by decide) (Or.inl ba_X9_machine.2.2.2.2.2.2.1) (T := TX6) (N := 15) rfl (by decide) bp_X6_addMachine
  · cases h2
theorem bj_X9_machine (l : Launch) : ex_ok l 2 45 bx_X9_machine := ec_okp fo_X9 co_X9 so_X9 (bk_X9_machine l)
theorem bm_X9_machine (l : Launch) : ex_Met l yX9_machine cX9_machine 5 (some .int) 2 45 (ab_sp ab_hd bc_X9_machine) := ab_met (by decide) pn_RX9 rfl (bj_X9_machine l) bd_X9_machine ab_hcm ab_xk bz_X9_machine
theorem ba_X9_as : ec_al [(572, Cond.code yX9_as cX9_as 3 (some .int)), (58, Cond.initialized yX9_as.cls), (570, Cond.instanceMethod yX9_as), (571, Cond.selects yX9_as.cls yX9_as yX9_as), (573, Cond.methodLink RX9 121 yX6_rateAs), (424, Cond.methodLink RX9 64 yX9_counted)] := ec_alk (by decide +kernel)
theorem bw_X9_as : ec_cw yX9_as cX9_as 3 (some .int) := ⟨ba_X9_as.1, ba_X9_as.2.1, nc_RX9⟩
theorem bv_X9_as : Cond.instanceMethod yX9_as ∈ ec_tb ∧ Cond.selects yX9_as.cls yX9_as yX9_as ∈ ec_tb := ⟨ba_X9_as.2.2.1, ba_X9_as.2.2.2.1⟩
theorem bp_X9_as : (parseMethodDescriptor yX9_as.desc).map (fun d => d.parameters.length) = some 2 := by decide +kernel
theorem bk_X9_as (l : Launch) : ∀ (ix n : Nat) (rc : Option Nat) (sp : ex_S), (be_X9_as ix).map (fun q => (q.1, q.2.1, ab_sp ab_hd q.2.2)) = some (n, rc, sp) → ex_cok l RX9 3 65 ix n rc sp := by
  intro ix n rc sp h
  obtain ⟨l0, h2, rfl⟩ := ab_dmk h
  clear h
  unfold be_X9_as at h2
  split at h2
  · cases h2; exact ec_cV (bm_X6_rateAs l) bw_X6_rateAs bv_X6_rateAs (by decide) (by decide) (Or.inl ba_X9_as.2.2.2.2.1) (T := TX6) (N := 15) rfl (by decide) bp_X6_rateAs
  · cases h2; exact ec_cV (bm_X9_counted l) bw_X9_counted bv_X9_counted (by decide) (by decide) (Or.inl ba_X9_as.2.2.2.2.2.1) (T := TX9) (N := 10) rfl (by decide) bp_X9_counted
  · cases h2
theorem bj_X9_as (l : Launch) : ex_ok l 3 65 bx_X9_as := ec_okp fo_X9 co_X9 so_X9 (bk_X9_as l)
theorem bm_X9_as (l : Launch) : ex_Met l yX9_as cX9_as 3 (some .int) 3 65 (ab_sp ab_hd bc_X9_as) := ab_met (by decide) pn_RX9 rfl (bj_X9_as l) bd_X9_as ab_hcm ab_xk bz_X9_as
theorem ba_X9_turn : ec_al [(590, Cond.code yX9_turn cX9_turn 3 (some .int)), (58, Cond.initialized yX9_turn.cls), (588, Cond.instanceMethod yX9_turn), (589, Cond.selects yX9_turn.cls yX9_turn yX9_turn), (591, Cond.methodLink RX9 124 yX6_setOn), (424, Cond.methodLink RX9 64 yX9_counted)] := ec_alk (by decide +kernel)
theorem bw_X9_turn : ec_cw yX9_turn cX9_turn 3 (some .int) := ⟨ba_X9_turn.1, ba_X9_turn.2.1, nc_RX9⟩
theorem bv_X9_turn : Cond.instanceMethod yX9_turn ∈ ec_tb ∧ Cond.selects yX9_turn.cls yX9_turn yX9_turn ∈ ec_tb := ⟨ba_X9_turn.2.2.1, ba_X9_turn.2.2.2.1⟩
theorem bp_X9_turn : (parseMethodDescriptor yX9_turn.desc).map (fun d => d.parameters.length) = some 2 := by decide +kernel
theorem bk_X9_turn (l : Launch) : ∀ (ix n : Nat) (rc : Option Nat) (sp : ex_S), (be_X9_turn ix).map (fun q => (q.1, q.2.1, ab_sp ab_hd q.2.2)) = some (n, rc, sp) → ex_cok l RX9 2 44 ix n rc sp := by
  intro ix n rc sp h
  obtain ⟨l0, h2, rfl⟩ := ab_dmk h
  clear h
  unfold be_X9_turn at h2
  split at h2
  · cases h2; exact ec_cV (bm_X6_setOn l) bw_X6_setOn bv_X6_setOn (by decide) (by decide) (Or.inl ba_X9_turn.2.2.2.2.1) (T := TX6) (N := 15) rfl (by decide) bp_X6_setOn
  · cases h2; exact ec_cV (bm_X9_counted l) bw_X9_counted bv_X9_counted (by decide) (by decide) (Or.inl ba_X9_turn.2.2.2.2.2.1) (T := TX9) (N := 10) rfl (by decide) bp_X9_counted
  · cases h2
theorem bj_X9_turn (l : Launch) : ex_ok l 2 44 bx_X9_turn := ec_okp fo_X9 co_X9 so_X9 (bk_X9_turn l)
theorem bm_X9_turn (l : Launch) : ex_Met l yX9_turn cX9_turn 3 (some .int) 2 44 (ab_sp ab_hd bc_X9_turn) := ab_met (by decide) pn_RX9 rfl (bj_X9_turn l) bd_X9_turn ab_hcm ab_xk bz_X9_turn
theorem ba_X9_of : ec_al [(600, Cond.code yX9_of cX9_of 3 (some .int)), (58, Cond.initialized yX9_of.cls), (598, Cond.instanceMethod yX9_of), (599, Cond.selects yX9_of.cls yX9_of yX9_of), (601, Cond.methodLink RX9 127 yX6_tellOf), (424, Cond.methodLink RX9 64 yX9_counted)] := ec_alk (by decide +kernel)
theorem bw_X9_of : ec_cw yX9_of cX9_of 3 (some .int) := ⟨ba_X9_of.1, ba_X9_of.2.1, nc_RX9⟩
theorem bv_X9_of : Cond.instanceMethod yX9_of ∈ ec_tb ∧ Cond.selects yX9_of.cls yX9_of yX9_of ∈ ec_tb := ⟨ba_X9_of.2.2.1, ba_X9_of.2.2.2.1⟩
theorem bp_X9_of : (parseMethodDescriptor yX9_of.desc).map (fun d => d.parameters.length) = some 2 := by decide +kernel
theorem bk_X9_of (l : Launch) : ∀ (ix n : Nat) (rc : Option Nat) (sp : ex_S), (be_X9_of ix).map (fun q => (q.1, q.2.1, ab_sp ab_hd q.2.2)) = some (n, rc, sp) → ex_cok l RX9 2 43 ix n rc sp := by
  intro ix n rc sp h
  obtain ⟨l0, h2, rfl⟩ := ab_dmk h
  clear h
  unfold be_X9_of at h2
  split at h2
  · cases h2; exact ec_cV (bm_X6_tellOf l) bw_X6_tellOf bv_X6_tellOf (by decide) (by decide) (Or.inl ba_X9_of.2.2.2.2.1) (T := TX6) (N := 15) rfl (by decide) bp_X6_tellOf
  · cases h2; exact ec_cV (bm_X9_counted l) bw_X9_counted bv_X9_counted (by decide) (by decide) (Or.inl ba_X9_of.2.2.2.2.2.1) (T := TX9) (N := 10) rfl (by decide) bp_X9_counted
  · cases h2
theorem bj_X9_of (l : Launch) : ex_ok l 2 43 bx_X9_of := ec_okp fo_X9 co_X9 so_X9 (bk_X9_of l)
theorem bm_X9_of (l : Launch) : ex_Met l yX9_of cX9_of 3 (some .int) 2 43 (ab_sp ab_hd bc_X9_of) := ab_met (by decide) pn_RX9 rfl (bj_X9_of l) bd_X9_of ab_hcm ab_xk bz_X9_of
theorem ba_X9_spares : ec_al [(608, Cond.code yX9_spares cX9_spares 3 (some .int)), (58, Cond.initialized yX9_spares.cls), (606, Cond.instanceMethod yX9_spares), (607, Cond.selects yX9_spares.cls yX9_spares yX9_spares), (609, Cond.methodLink RX9 128 yX6_setSpares), (424, Cond.methodLink RX9 64 yX9_counted)] := ec_alk (by decide +kernel)
theorem bw_X9_spares : ec_cw yX9_spares cX9_spares 3 (some .int) := ⟨ba_X9_spares.1, ba_X9_spares.2.1, nc_RX9⟩
theorem bv_X9_spares : Cond.instanceMethod yX9_spares ∈ ec_tb ∧ Cond.selects yX9_spares.cls yX9_spares yX9_spares ∈ ec_tb := ⟨ba_X9_spares.2.2.1, ba_X9_spares.2.2.2.1⟩
theorem bp_X9_spares : (parseMethodDescriptor yX9_spares.desc).map (fun d => d.parameters.length) = some 2 := by decide +kernel
theorem bk_X9_spares (l : Launch) : ∀ (ix n : Nat) (rc : Option Nat) (sp : ex_S), (be_X9_spares ix).map (fun q => (q.1, q.2.1, ab_sp ab_hd q.2.2)) = some (n, rc, sp) → ex_cok l RX9 2 43 ix n rc sp := by
  intro ix n rc sp h
  obtain ⟨l0, h2, rfl⟩ := ab_dmk h
  clear h
  unfold be_X9_spares at h2
  split at h2
  · cases h2; exact ec_cV (bm_X6_setSpares l) bw_X6_setSpares bv_X6_setSpares (by decide) (by decide) (Or.inl ba_X9_spares.2.2.2.2.1) (T := TX6) (N := 15) rfl (by decide) bp_X6_setSpares
  · cases h2; exact ec_cV (bm_X9_counted l) bw_X9_counted bv_X9_counted (by decide) (by decide) (Or.inl ba_X9_spares.2.2.2.2.2.1) (T := TX9) (N := 10) rfl (by decide) bp_X9_counted
  · cases h2
theorem bj_X9_spares (l : Launch) : ex_ok l 2 43 bx_X9_spares := ec_okp fo_X9 co_X9 so_X9 (bk_X9_spares l)
theorem bm_X9_spares (l : Launch) : ex_Met l yX9_spares cX9_spares 3 (some .int) 2 43 (ab_sp ab_hd bc_X9_spares) := ab_met (by decide) pn_RX9 rfl (bj_X9_spares l) bd_X9_spares ab_hcm ab_xk bz_X9_spares
theorem ba_X9_repair : ec_al [(616, Cond.code yX9_repair cX9_repair 4 (some .int)), (58, Cond.initialized yX9_repair.cls), (614, Cond.instanceMethod yX9_repair), (615, Cond.selects yX9_repair.cls yX9_repair yX9_repair), (617, Cond.methodLink RX9 131 yX8_mend), (424, Cond.methodLink RX9 64 yX9_counted)] := ec_alk (by decide +kernel)
theorem bw_X9_repair : ec_cw yX9_repair cX9_repair 4 (some .int) := ⟨ba_X9_repair.1, ba_X9_repair.2.1, nc_RX9⟩
theorem bv_X9_repair : Cond.instanceMethod yX9_repair ∈ ec_tb ∧ Cond.selects yX9_repair.cls yX9_repair yX9_repair ∈ ec_tb := ⟨ba_X9_repair.2.2.1, ba_X9_repair.2.2.2.1⟩
theorem bp_X9_repair : (parseMethodDescriptor yX9_repair.desc).map (fun d => d.parameters.length) = some 3 := by decide +kernel
theorem bk_X9_repair (l : Launch) : ∀ (ix n : Nat) (rc : Option Nat) (sp : ex_S), (be_X9_repair ix).map (fun q => (q.1, q.2.1, ab_sp ab_hd q.2.2)) = some (n, rc, sp) → ex_cok l RX9 2 47 ix n rc sp := by
  intro ix n rc sp h
  obtain ⟨l0, h2, rfl⟩ := ab_dmk h
  clear h
  unfold be_X9_repair at h2
  split at h2
  · cases h2; exact ec_cV (bm_X8_mend l) bw_X8_mend bv_X8_mend (by decide) (by decide) (Or.inl ba_X9_repair.2.2.2.2.1) (T := TX8) (N := 7) rfl (by decide) bp_X8_mend
  · cases h2; exact ec_cV (bm_X9_counted l) bw_X9_counted bv_X9_counted (by decide) (by decide) (Or.inl ba_X9_repair.2.2.2.2.2.1) (T := TX9) (N := 10) rfl (by decide) bp_X9_counted
  · cases h2
theorem bj_X9_repair (l : Launch) : ex_ok l 2 47 bx_X9_repair := ec_okp fo_X9 co_X9 so_X9 (bk_X9_repair l)
theorem bm_X9_repair (l : Launch) : ex_Met l yX9_repair cX9_repair 4 (some .int) 2 47 (ab_sp ab_hd bc_X9_repair) := ab_met (by decide) pn_RX9 rfl (bj_X9_repair l) bd_X9_repair ab_hcm ab_xk bz_X9_repair
theorem ba_X9_shed : ec_al [(634, Cond.code yX9_shed cX9_shed 3 (some .int)), (58, Cond.initialized yX9_shed.cls), (632, Cond.instanceMethod yX9_shed), (633, Cond.selects yX9_shed.cls yX9_shed yX9_shed), (635, Cond.methodLink RX9 134 yX6_shedding), (424, Cond.methodLink RX9 64 yX9_counted)] := ec_alk (by decide +kernel)
theorem bw_X9_shed : ec_cw yX9_shed cX9_shed 3 (some .int) := ⟨ba_X9_shed.1, ba_X9_shed.2.1, nc_RX9⟩
theorem bv_X9_shed : Cond.instanceMethod yX9_shed ∈ ec_tb ∧ Cond.selects yX9_shed.cls yX9_shed yX9_shed ∈ ec_tb := ⟨ba_X9_shed.2.2.1, ba_X9_shed.2.2.2.1⟩
theorem bp_X9_shed : (parseMethodDescriptor yX9_shed.desc).map (fun d => d.parameters.length) = some 2 := by decide +kernel
theorem bk_X9_shed (l : Launch) : ∀ (ix n : Nat) (rc : Option Nat) (sp : ex_S), (be_X9_shed ix).map (fun q => (q.1, q.2.1, ab_sp ab_hd q.2.2)) = some (n, rc, sp) → ex_cok l RX9 4 92 ix n rc sp := by
  intro ix n rc sp h
  obtain ⟨l0, h2, rfl⟩ := ab_dmk h
  clear h
  unfold be_X9_shed at h2
  split at h2
  · cases h2; exact ec_cV (bm_X6_shedding l) bw_X6_shedding bv_X6_shedding (by decide) (by decide) (Or.inl ba_X9_shed.2.2.2.2.1) (T := TX6) (N := 15) rfl (by decide) bp_X6_shedding
  · cases h2; exact ec_cV (bm_X9_counted l) bw_X9_counted bv_X9_counted (by decide) (by decide) (Or.inl ba_X9_shed.2.2.2.2.2.1) (T := TX9) (N := 10) rfl (by decide) bp_X9_counted
  · cases h2
theorem bj_X9_shed (l : Launch) : ex_ok l 4 92 bx_X9_shed := ec_okp fo_X9 co_X9 so_X9 (bk_X9_shed l)
theorem bm_X9_shed (l : Launch) : ex_Met l yX9_shed cX9_shed 3 (some .int) 4 92 (ab_sp ab_hd bc_X9_shed) := ab_met (by decide) pn_RX9 rfl (bj_X9_shed l) bd_X9_shed ab_hcm ab_xk bz_X9_shed
theorem ba_X9_sun : ec_al [(664, Cond.code yX9_sun cX9_sun 3 (some .int)), (58, Cond.initialized yX9_sun.cls), (662, Cond.instanceMethod yX9_sun), (663, Cond.selects yX9_sun.cls yX9_sun yX9_sun), (665, Cond.methodLink RX9 137 yX6_setSun), (424, Cond.methodLink RX9 64 yX9_counted)] := ec_alk (by decide +kernel)
theorem bw_X9_sun : ec_cw yX9_sun cX9_sun 3 (some .int) := ⟨ba_X9_sun.1, ba_X9_sun.2.1, nc_RX9⟩
theorem bv_X9_sun : Cond.instanceMethod yX9_sun ∈ ec_tb ∧ Cond.selects yX9_sun.cls yX9_sun yX9_sun ∈ ec_tb := ⟨ba_X9_sun.2.2.1, ba_X9_sun.2.2.2.1⟩
theorem bp_X9_sun : (parseMethodDescriptor yX9_sun.desc).map (fun d => d.parameters.length) = some 2 := by decide +kernel
theorem bk_X9_sun (l : Launch) : ∀ (ix n : Nat) (rc : Option Nat) (sp : ex_S), (be_X9_sun ix).map (fun q => (q.1, q.2.1, ab_sp ab_hd q.2.2)) = some (n, rc, sp) → ex_cok l RX9 2 43 ix n rc sp := by
  intro ix n rc sp h
  obtain ⟨l0, h2, rfl⟩ := ab_dmk h
  clear h
  unfold be_X9_sun at h2
  split at h2
  · cases h2; exact ec_cV (bm_X6_setSun l) bw_X6_setSun bv_X6_setSun (by decide) (by decide) (Or.inl ba_X9_sun.2.2.2.2.1) (T := TX6) (N := 15) rfl (by decide) bp_X6_setSun
  · cases h2; exact ec_cV (bm_X9_counted l) bw_X9_counted bv_X9_counted (by decide) (by decide) (Or.inl ba_X9_sun.2.2.2.2.2.1) (T := TX9) (N := 10) rfl (by decide) bp_X9_counted
  · cases h2
theorem bj_X9_sun (l : Launch) : ex_ok l 2 43 bx_X9_sun := ec_okp fo_X9 co_X9 so_X9 (bk_X9_sun l)
theorem bm_X9_sun (l : Launch) : ex_Met l yX9_sun cX9_sun 3 (some .int) 2 43 (ab_sp ab_hd bc_X9_sun) := ab_met (by decide) pn_RX9 rfl (bj_X9_sun l) bd_X9_sun ab_hcm ab_xk bz_X9_sun
theorem ba_X9_battery : ec_al [(675, Cond.code yX9_battery cX9_battery 2 (some .int)), (58, Cond.initialized yX9_battery.cls), (673, Cond.instanceMethod yX9_battery), (674, Cond.selects yX9_battery.cls yX9_battery yX9_battery), (676, Cond.methodLink RX9 140 yX6_setBattery), (424, Cond.methodLink RX9 64 yX9_counted)] := ec_alk (by decide +kernel)
theorem bw_X9_battery : ec_cw yX9_battery cX9_battery 2 (some .int) := ⟨ba_X9_battery.1, ba_X9_battery.2.1, nc_RX9⟩
theorem bv_X9_battery : Cond.instanceMethod yX9_battery ∈ ec_tb ∧ Cond.selects yX9_battery.cls yX9_battery yX9_battery ∈ ec_tb := ⟨ba_X9_battery.2.2.1, ba_X9_battery.2.2.2.1⟩
theorem bp_X9_battery : (parseMethodDescriptor yX9_battery.desc).map (fun d => d.parameters.length) = some 1 := by decide +kernel
theorem bk_X9_battery (l : Launch) : ∀ (ix n : Nat) (rc : Option Nat) (sp : ex_S), (be_X9_battery ix).map (fun q => (q.1, q.2.1, ab_sp ab_hd q.2.2)) = some (n, rc, sp) → ex_cok l RX9 1 22 ix n rc sp := by
  intro ix n rc sp h
  obtain ⟨l0, h2, rfl⟩ := ab_dmk h
  clear h
  unfold be_X9_battery at h2
  split at h2
  · cases h2; exact ec_cV (bm_X6_setBattery l) bw_X6_setBattery bv_X6_setBattery (by decide) (by decide) (Or.inl ba_X9_battery.2.2.2.2.1) (T := TX6) (N := 15) rfl (by decide) bp_X6_setBattery
  · cases h2; exact ec_cV (bm_X9_counted l) bw_X9_counted bv_X9_counted (by decide) (by decide) (Or.inl ba_X9_battery.2.2.2.2.2.1) (T := TX9) (N := 10) rfl (by decide) bp_X9_counted
  · cases h2
theorem bj_X9_battery (l : Launch) : ex_ok l 1 22 bx_X9_battery := ec_okp fo_X9 co_X9 so_X9 (bk_X9_battery l)
theorem bm_X9_battery (l : Launch) : ex_Met l yX9_battery cX9_battery 2 (some .int) 1 22 (ab_sp ab_hd bc_X9_battery) := ab_met (by decide) pn_RX9 rfl (bj_X9_battery l) bd_X9_battery ab_hcm ab_xk bz_X9_battery
theorem ba_X9_bounds : ec_al [(683, Cond.code yX9_bounds cX9_bounds 4 (some .int)), (58, Cond.initialized yX9_bounds.cls), (681, Cond.instanceMethod yX9_bounds), (682, Cond.selects yX9_bounds.cls yX9_bounds yX9_bounds), (684, Cond.methodLink RX9 147 yX1_setAll), (424, Cond.methodLink RX9 64 yX9_counted)] := ec_alk (by decide +kernel)
theorem bw_X9_bounds : ec_cw yX9_bounds cX9_bounds 4 (some .int) := ⟨ba_X9_bounds.1, ba_X9_bounds.2.1, nc_RX9⟩
theorem bv_X9_bounds : Cond.instanceMethod yX9_bounds ∈ ec_tb ∧ Cond.selects yX9_bounds.cls yX9_bounds yX9_bounds ∈ ec_tb := ⟨ba_X9_bounds.2.2.1, ba_X9_bounds.2.2.2.1⟩
theorem bp_X9_bounds : (parseMethodDescriptor yX9_bounds.desc).map (fun d => d.parameters.length) = some 3 := by decide +kernel
theorem bk_X9_bounds (l : Launch) : ∀ (ix n : Nat) (rc : Option Nat) (sp : ex_S), (be_X9_bounds ix).map (fun q => (q.1, q.2.1, ab_sp ab_hd q.2.2)) = some (n, rc, sp) → ex_cok l RX9 2 43 ix n rc sp := by
  intro ix n rc sp h
  obtain ⟨l0, h2, rfl⟩ := ab_dmk h
  clear h
  unfold be_X9_bounds at h2
  split at h2
  · cases h2; exact ec_cV (bm_X1_setAll l) bw_X1_setAll bv_X1_setAll (by decide) (by decide) (Or.inl ba_X9_bounds.2.2.2.2.1) (T := TX1) (N := 6) rfl (by decide) bp_X1_setAll
  · cases h2; exact ec_cV (bm_X9_counted l) bw_X9_counted bv_X9_counted (by decide) (by decide) (Or.inl ba_X9_bounds.2.2.2.2.2.1) (T := TX9) (N := 10) rfl (by decide) bp_X9_counted
  · cases h2
theorem bj_X9_bounds (l : Launch) : ex_ok l 2 43 bx_X9_bounds := ec_okp fo_X9 co_X9 so_X9 (bk_X9_bounds l)
theorem bm_X9_bounds (l : Launch) : ex_Met l yX9_bounds cX9_bounds 4 (some .int) 2 43 (ab_sp ab_hd bc_X9_bounds) := ab_met (by decide) pn_RX9 rfl (bj_X9_bounds l) bd_X9_bounds ab_hcm ab_xk bz_X9_bounds
theorem ba_X9_ticks : ec_al [(696, Cond.code yX9_ticks cX9_ticks 3 (some .int)), (58, Cond.initialized yX9_ticks.cls), (694, Cond.instanceMethod yX9_ticks), (695, Cond.selects yX9_ticks.cls yX9_ticks yX9_ticks), (424, Cond.methodLink RX9 64 yX9_counted), (698, Cond.methodLink RX9 156 yX8_passTick)] := ec_alk (by decide +kernel)
theorem bw_X9_ticks : ec_cw yX9_ticks cX9_ticks 3 (some .int) := ⟨ba_X9_ticks.1, ba_X9_ticks.2.1, nc_RX9⟩
theorem bv_X9_ticks : Cond.instanceMethod yX9_ticks ∈ ec_tb ∧ Cond.selects yX9_ticks.cls yX9_ticks yX9_ticks ∈ ec_tb := ⟨ba_X9_ticks.2.2.1, ba_X9_ticks.2.2.2.1⟩
theorem bp_X9_ticks : (parseMethodDescriptor yX9_ticks.desc).map (fun d => d.parameters.length) = some 1 := by decide +kernel
theorem bk_X9_ticks (l : Launch) : ∀ (ix n : Nat) (rc : Option Nat) (sp : ex_S), (be_X9_ticks ix).map (fun q => (q.1, q.2.1, ab_sp ab_hd q.2.2)) = some (n, rc, sp) → ex_cok l RX9 6 134 ix n rc sp := by
  intro ix n rc sp h
  obtain ⟨l0, h2, rfl⟩ := ab_dmk h
  clear h
  unfold be_X9_ticks at h2
  split at h2
  · cases h2; exact ec_cV (bm_X9_counted l) bw_X9_counted bv_X9_counted (by decide) (by decide) (Or.inl ba_X9_ticks.2.2.2.2.1) (T := TX9) (N := 10) rfl (by decide) bp_X9_counted
  · cases h2; exact ec_cV (bm_X8_passTick l) bw_X8_passTick bv_X8_passTick (by decide) (by decide) (Or.inl ba_X9_ticks.2.2.2.2.2.1) (T := TX8) (N := 7) rfl (by decide) bp_X8_passTick
  · cases h2
theorem bj_X9_ticks (l : Launch) : ex_ok l 6 134 bx_X9_ticks := ec_okp fo_X9 co_X9 so_X9 (bk_X9_ticks l)
theorem bm_X9_ticks (l : Launch) : ex_Met l yX9_ticks cX9_ticks 3 (some .int) 6 134 (ab_sp ab_hd bc_X9_ticks) := ab_met (by decide) pn_RX9 rfl (bj_X9_ticks l) bd_X9_ticks ab_hcm ab_xk bz_X9_ticks
theorem ba_X9_broke : ec_al [(854, Cond.code yX9_broke cX9_broke 2 (some .int)), (58, Cond.initialized yX9_broke.cls), (852, Cond.instanceMethod yX9_broke), (853, Cond.selects yX9_broke.cls yX9_broke yX9_broke), (855, Cond.methodLink RX9 160 yX1_tellFirstBreak), (424, Cond.methodLink RX9 64 yX9_counted)] := ec_alk (by decide +kernel)
theorem bw_X9_broke : ec_cw yX9_broke cX9_broke 2 (some .int) := ⟨ba_X9_broke.1, ba_X9_broke.2.1, nc_RX9⟩
theorem bv_X9_broke : Cond.instanceMethod yX9_broke ∈ ec_tb ∧ Cond.selects yX9_broke.cls yX9_broke yX9_broke ∈ ec_tb := ⟨ba_X9_broke.2.2.1, ba_X9_broke.2.2.2.1⟩
theorem bp_X9_broke : (parseMethodDescriptor yX9_broke.desc).map (fun d => d.parameters.length) = some 1 := by decide +kernel
theorem bk_X9_broke (l : Launch) : ∀ (ix n : Nat) (rc : Option Nat) (sp : ex_S), (be_X9_broke ix).map (fun q => (q.1, q.2.1, ab_sp ab_hd q.2.2)) = some (n, rc, sp) → ex_cok l RX9 1 21 ix n rc sp := by
  intro ix n rc sp h
  obtain ⟨l0, h2, rfl⟩ := ab_dmk h
  clear h
  unfold be_X9_broke at h2
  split at h2
  · cases h2; exact ec_cV (bm_X1_tellFirstBreak l) bw_X1_tellFirstBreak bv_X1_tellFirstBreak (by decide) (by decide) (Or.inl ba_X9_broke.2.2.2.2.1) (T := TX1) (N := 6) rfl (by decide) bp_X1_tellFirstBreak
  · cases h2; exact ec_cV (bm_X9_counted l) bw_X9_counted bv_X9_counted (by decide) (by decide) (Or.inl ba_X9_broke.2.2.2.2.2.1) (T := TX9) (N := 10) rfl (by decide) bp_X9_counted
  · cases h2
theorem bj_X9_broke (l : Launch) : ex_ok l 1 21 bx_X9_broke := ec_okp fo_X9 co_X9 so_X9 (bk_X9_broke l)
theorem bm_X9_broke (l : Launch) : ex_Met l yX9_broke cX9_broke 2 (some .int) 1 21 (ab_sp ab_hd bc_X9_broke) := ab_met (by decide) pn_RX9 rfl (bj_X9_broke l) bd_X9_broke ab_hcm ab_xk bz_X9_broke
theorem ba_X9_ahead : ec_al [(863, Cond.code yX9_ahead cX9_ahead 3 (some .int)), (58, Cond.initialized yX9_ahead.cls), (861, Cond.instanceMethod yX9_ahead), (862, Cond.selects yX9_ahead.cls yX9_ahead yX9_ahead), (424, Cond.methodLink RX9 64 yX9_counted), (864, Cond.methodLink RX9 163 yX8_becomeLike), (698, Cond.methodLink RX9 156 yX8_passTick)] := ec_alk (by decide +kernel)
theorem bw_X9_ahead : ec_cw yX9_ahead cX9_ahead 3 (some .int) := ⟨ba_X9_ahead.1, ba_X9_ahead.2.1, nc_RX9⟩
theorem bv_X9_ahead : Cond.instanceMethod yX9_ahead ∈ ec_tb ∧ Cond.selects yX9_ahead.cls yX9_ahead yX9_ahead ∈ ec_tb := ⟨ba_X9_ahead.2.2.1, ba_X9_ahead.2.2.2.1⟩
theorem bp_X9_ahead : (parseMethodDescriptor yX9_ahead.desc).map (fun d => d.parameters.length) = some 1 := by decide +kernel
theorem bk_X9_ahead (l : Launch) : ∀ (ix n : Nat) (rc : Option Nat) (sp : ex_S), (be_X9_ahead ix).map (fun q => (q.1, q.2.1, ab_sp ab_hd q.2.2)) = some (n, rc, sp) → ex_cok l RX9 6 134 ix n rc sp := by
  intro ix n rc sp h
  obtain ⟨l0, h2, rfl⟩ := ab_dmk h
  clear h
  unfold be_X9_ahead at h2
  split at h2
  · cases h2; exact ec_cV (bm_X9_counted l) bw_X9_counted bv_X9_counted (by decide) (by decide) (Or.inl ba_X9_ahead.2.2.2.2.1) (T := TX9) (N := 10) rfl (by decide) bp_X9_counted
  · cases h2; exact ec_cV (bm_X8_becomeLike l) bw_X8_becomeLike bv_X8_becomeLike (by decide) (by decide) (Or.inl ba_X9_ahead.2.2.2.2.2.1) (T := TX8) (N := 7) rfl (by decide) bp_X8_becomeLike
  · cases h2; exact ec_cV (bm_X8_passTick l) bw_X8_passTick bv_X8_passTick (by decide) (by decide) (Or.inl ba_X9_ahead.2.2.2.2.2.2.1) (T := TX8) (N := 7) rfl (by decide) bp_X8_passTick
  · cases h2
theorem bj_X9_ahead (l : Launch) : ex_ok l 6 134 bx_X9_ahead := ec_okp fo_X9 co_X9 so_X9 (bk_X9_ahead l)
theorem bm_X9_ahead (l : Launch) : ex_Met l yX9_ahead cX9_ahead 3 (some .int) 6 134 (ab_sp ab_hd bc_X9_ahead) := ab_met (by decide) pn_RX9 rfl (bj_X9_ahead l) bd_X9_ahead ab_hcm ab_xk bz_X9_ahead
theorem ba_X9_line : ec_al [(904, Cond.code yX9_line cX9_line 5 (some .int)), (58, Cond.initialized yX9_line.cls), (902, Cond.instanceMethod yX9_line), (903, Cond.selects yX9_line.cls yX9_line yX9_line), (424, Cond.methodLink RX9 64 yX9_counted), (906, Cond.methodLink RX9 178 yX7_addLine)] := ec_alk (by decide +kernel)
theorem bw_X9_line : ec_cw yX9_line cX9_line 5 (some .int) := ⟨ba_X9_line.1, ba_X9_line.2.1, nc_RX9⟩
theorem bv_X9_line : Cond.instanceMethod yX9_line ∈ ec_tb ∧ Cond.selects yX9_line.cls yX9_line yX9_line ∈ ec_tb := ⟨ba_X9_line.2.2.1, ba_X9_line.2.2.2.1⟩
theorem bp_X9_line : (parseMethodDescriptor yX9_line.desc).map (fun d => d.parameters.length) = some 4 := by decide +kernel
theorem bk_X9_line (l : Launch) : ∀ (ix n : Nat) (rc : Option Nat) (sp : ex_S), (be_X9_line ix).map (fun q => (q.1, q.2.1, ab_sp ab_hd q.2.2)) = some (n, rc, sp) → ex_cok l RX9 1 24 ix n rc sp := by
  intro ix n rc sp h
  obtain ⟨l0, h2, rfl⟩ := ab_dmk h
  clear h
  unfold be_X9_line at h2
  split at h2
  · cases h2; exact ec_cV (bm_X9_counted l) bw_X9_counted bv_X9_counted (by decide) (by decide) (Or.inl ba_X9_line.2.2.2.2.1) (T := TX9) (N := 10) rfl (by decide) bp_X9_counted
  · cases h2; exact ec_cV (bm_X7_addLine l) bw_X7_addLine bv_X7_addLine (by decide) (by decide) (Or.inl ba_X9_line.2.2.2.2.2.1) (T := TX7) (N := 5) rfl (by decide) bp_X7_addLine
  · cases h2
theorem bj_X9_line (l : Launch) : ex_ok l 1 24 bx_X9_line := ec_okp fo_X9 co_X9 so_X9 (bk_X9_line l)
theorem bm_X9_line (l : Launch) : ex_Met l yX9_line cX9_line 5 (some .int) 1 24 (ab_sp ab_hd bc_X9_line) := ab_met (by decide) pn_RX9 rfl (bj_X9_line l) bd_X9_line ab_hcm ab_xk bz_X9_line
theorem ba_X9_erase : ec_al [(914, Cond.code yX9_erase cX9_erase 2 (some .int)), (58, Cond.initialized yX9_erase.cls), (912, Cond.instanceMethod yX9_erase), (913, Cond.selects yX9_erase.cls yX9_erase yX9_erase), (424, Cond.methodLink RX9 64 yX9_counted)] := ec_alk (by decide +kernel)
theorem bw_X9_erase : ec_cw yX9_erase cX9_erase 2 (some .int) := ⟨ba_X9_erase.1, ba_X9_erase.2.1, nc_RX9⟩
theorem bv_X9_erase : Cond.instanceMethod yX9_erase ∈ ec_tb ∧ Cond.selects yX9_erase.cls yX9_erase yX9_erase ∈ ec_tb := ⟨ba_X9_erase.2.2.1, ba_X9_erase.2.2.2.1⟩
theorem bp_X9_erase : (parseMethodDescriptor yX9_erase.desc).map (fun d => d.parameters.length) = some 0 := by decide +kernel
theorem bk_X9_erase (l : Launch) : ∀ (ix n : Nat) (rc : Option Nat) (sp : ex_S), (be_X9_erase ix).map (fun q => (q.1, q.2.1, ab_sp ab_hd q.2.2)) = some (n, rc, sp) → ex_cok l RX9 1 21 ix n rc sp := by
  intro ix n rc sp h
  obtain ⟨l0, h2, rfl⟩ := ab_dmk h
  clear h
  unfold be_X9_erase at h2
  split at h2
  · cases h2; exact ec_cV (bm_X9_counted l) bw_X9_counted bv_X9_counted (by decide) (by decide) (Or.inl ba_X9_erase.2.2.2.2.1) (T := TX9) (N := 10) rfl (by decide) bp_X9_counted
  · cases h2
theorem bj_X9_erase (l : Launch) : ex_ok l 1 21 bx_X9_erase := ec_okp fo_X9 co_X9 so_X9 (bk_X9_erase l)
theorem bm_X9_erase (l : Launch) : ex_Met l yX9_erase cX9_erase 2 (some .int) 1 21 (ab_sp ab_hd bc_X9_erase) := ab_met (by decide) pn_RX9 rfl (bj_X9_erase l) bd_X9_erase ab_hcm ab_xk bz_X9_erase
theorem ba_X9_begin : ec_al [(918, Cond.code yX9_begin cX9_begin 1 (some .int)), (58, Cond.initialized yX9_begin.cls), (916, Cond.instanceMethod yX9_begin), (917, Cond.selects yX9_begin.cls yX9_begin yX9_begin), (424, Cond.methodLink RX9 64 yX9_counted), (919, Cond.methodLink RX9 184 yX2_start)] := ec_alk (by decide +kernel)
theorem bw_X9_begin : ec_cw yX9_begin cX9_begin 1 (some .int) := ⟨ba_X9_begin.1, ba_X9_begin.2.1, nc_RX9⟩
theorem bv_X9_begin : Cond.instanceMethod yX9_begin ∈ ec_tb ∧ Cond.selects yX9_begin.cls yX9_begin yX9_begin ∈ ec_tb := ⟨ba_X9_begin.2.2.1, ba_X9_begin.2.2.2.1⟩
theorem bp_X9_begin : (parseMethodDescriptor yX9_begin.desc).map (fun d => d.parameters.length) = some 0 := by decide +kernel
theorem bk_X9_begin (l : Launch) : ∀ (ix n : Nat) (rc : Option Nat) (sp : ex_S), (be_X9_begin ix).map (fun q => (q.1, q.2.1, ab_sp ab_hd q.2.2)) = some (n, rc, sp) → ex_cok l RX9 1 21 ix n rc sp := by
  intro ix n rc sp h
  obtain ⟨l0, h2, rfl⟩ := ab_dmk h
  clear h
  unfold be_X9_begin at h2
  split at h2
  · cases h2; exact ec_cV (bm_X9_counted l) bw_X9_counted bv_X9_counted (by decide) (by decide) (Or.inl ba_X9_begin.2.2.2.2.1) (T := TX9) (N := 10) rfl (by decide) bp_X9_counted
  · cases h2; exact ec_cV (bm_X2_start l) bw_X2_start bv_X2_start (by decide) (by decide) (Or.inl ba_X9_begin.2.2.2.2.2.1) (T := TX2) (N := 7) rfl (by decide) bp_X2_start
  · cases h2
theorem bj_X9_begin (l : Launch) : ex_ok l 1 21 bx_X9_begin := ec_okp fo_X9 co_X9 so_X9 (bk_X9_begin l)
theorem bm_X9_begin (l : Launch) : ex_Met l yX9_begin cX9_begin 1 (some .int) 1 21 (ab_sp ab_hd bc_X9_begin) := ab_met (by decide) pn_RX9 rfl (bj_X9_begin l) bd_X9_begin ab_hcm ab_xk bz_X9_begin
theorem ba_X9_halt : ec_al [(926, Cond.code yX9_halt cX9_halt 2 (some .int)), (58, Cond.initialized yX9_halt.cls), (924, Cond.instanceMethod yX9_halt), (925, Cond.selects yX9_halt.cls yX9_halt yX9_halt), (927, Cond.methodLink RX9 187 yX2_setHalted), (424, Cond.methodLink RX9 64 yX9_counted)] := ec_alk (by decide +kernel)
theorem bw_X9_halt : ec_cw yX9_halt cX9_halt 2 (some .int) := ⟨ba_X9_halt.1, ba_X9_halt.2.1, nc_RX9⟩
theorem bv_X9_halt : Cond.instanceMethod yX9_halt ∈ ec_tb ∧ Cond.selects yX9_halt.cls yX9_halt yX9_halt ∈ ec_tb := ⟨ba_X9_halt.2.2.1, ba_X9_halt.2.2.2.1⟩
theorem bp_X9_halt : (parseMethodDescriptor yX9_halt.desc).map (fun d => d.parameters.length) = some 1 := by decide +kernel
theorem bk_X9_halt (l : Launch) : ∀ (ix n : Nat) (rc : Option Nat) (sp : ex_S), (be_X9_halt ix).map (fun q => (q.1, q.2.1, ab_sp ab_hd q.2.2)) = some (n, rc, sp) → ex_cok l RX9 2 41 ix n rc sp := by
  intro ix n rc sp h
  obtain ⟨l0, h2, rfl⟩ := ab_dmk h
  clear h
  unfold be_X9_halt at h2
  split at h2
  · cases h2; exact ec_cV (bm_X2_setHalted l) bw_X2_setHalted bv_X2_setHalted (by decide) (by decide) (Or.inl ba_X9_halt.2.2.2.2.1) (T := TX2) (N := 7) rfl (by decide) bp_X2_setHalted
  · cases h2; exact ec_cV (bm_X9_counted l) bw_X9_counted bv_X9_counted (by decide) (by decide) (Or.inl ba_X9_halt.2.2.2.2.2.1) (T := TX9) (N := 10) rfl (by decide) bp_X9_counted
  · cases h2
theorem bj_X9_halt (l : Launch) : ex_ok l 2 41 bx_X9_halt := ec_okp fo_X9 co_X9 so_X9 (bk_X9_halt l)
theorem bm_X9_halt (l : Launch) : ex_Met l yX9_halt cX9_halt 2 (some .int) 2 41 (ab_sp ab_hd bc_X9_halt) := ab_met (by decide) pn_RX9 rfl (bj_X9_halt l) bd_X9_halt ab_hcm ab_xk bz_X9_halt
theorem ba_X9_abort : ec_al [(937, Cond.code yX9_abort cX9_abort 1 (some .int)), (58, Cond.initialized yX9_abort.cls), (935, Cond.instanceMethod yX9_abort), (936, Cond.selects yX9_abort.cls yX9_abort yX9_abort), (424, Cond.methodLink RX9 64 yX9_counted), (938, Cond.methodLink RX9 190 yX2_giveUp), (939, Cond.methodLink RX9 193 yX9_one)] := ec_alk (by decide +kernel)
theorem bw_X9_abort : ec_cw yX9_abort cX9_abort 1 (some .int) := ⟨ba_X9_abort.1, ba_X9_abort.2.1, nc_RX9⟩
theorem bv_X9_abort : Cond.instanceMethod yX9_abort ∈ ec_tb ∧ Cond.selects yX9_abort.cls yX9_abort yX9_abort ∈ ec_tb := ⟨ba_X9_abort.2.2.1, ba_X9_abort.2.2.2.1⟩
theorem bp_X9_abort : (parseMethodDescriptor yX9_abort.desc).map (fun d => d.parameters.length) = some 0 := by decide +kernel
theorem bk_X9_abort (l : Launch) : ∀ (ix n : Nat) (rc : Option Nat) (sp : ex_S), (be_X9_abort ix).map (fun q => (q.1, q.2.1, ab_sp ab_hd q.2.2)) = some (n, rc, sp) → ex_cok l RX9 2 41 ix n rc sp := by
  intro ix n rc sp h
  obtain ⟨l0, h2, rfl⟩ := ab_dmk h
  clear h
  unfold be_X9_abort at h2
  split at h2
  · cases h2; exact ec_cV (bm_X9_counted l) bw_X9_counted bv_X9_counted (by decide) (by decide) (Or.inl ba_X9_abort.2.2.2.2.1) (T := TX9) (N := 10) rfl (by decide) bp_X9_counted
  · cases h2; exact ec_cV (bm_X2_giveUp l) bw_X2_giveUp bv_X2_giveUp (by decide) (by decide) (Or.inl ba_X9_abort.2.2.2.2.2.1) (T := TX2) (N := 7) rfl (by decide) bp_X2_giveUp
  · cases h2; exact ec_cS (bm_X9_one l) bw_X9_one bv_X9_one (by decide) (by decide) (Or.inl ba_X9_abort.2.2.2.2.2.2.1) bp_X9_one
  · cases h2
theorem bj_X9_abort (l : Launch) : ex_ok l 2 41 bx_X9_abort := ec_okp fo_X9 co_X9 so_X9 (bk_X9_abort l)
theorem bm_X9_abort (l : Launch) : ex_Met l yX9_abort cX9_abort 1 (some .int) 2 41 (ab_sp ab_hd bc_X9_abort) := ab_met (by decide) pn_RX9 rfl (bj_X9_abort l) bd_X9_abort ab_hcm ab_xk bz_X9_abort
theorem ba_X9_text : ec_al [(943, Cond.code yX9_text cX9_text 2 (some .int)), (58, Cond.initialized yX9_text.cls), (941, Cond.instanceMethod yX9_text), (942, Cond.selects yX9_text.cls yX9_text yX9_text), (944, Cond.methodLink RX9 197 yX2_tellOf), (424, Cond.methodLink RX9 64 yX9_counted)] := ec_alk (by decide +kernel)
theorem bw_X9_text : ec_cw yX9_text cX9_text 2 (some .int) := ⟨ba_X9_text.1, ba_X9_text.2.1, nc_RX9⟩
theorem bv_X9_text : Cond.instanceMethod yX9_text ∈ ec_tb ∧ Cond.selects yX9_text.cls yX9_text yX9_text ∈ ec_tb := ⟨ba_X9_text.2.2.1, ba_X9_text.2.2.2.1⟩
theorem bp_X9_text : (parseMethodDescriptor yX9_text.desc).map (fun d => d.parameters.length) = some 1 := by decide +kernel
theorem bk_X9_text (l : Launch) : ∀ (ix n : Nat) (rc : Option Nat) (sp : ex_S), (be_X9_text ix).map (fun q => (q.1, q.2.1, ab_sp ab_hd q.2.2)) = some (n, rc, sp) → ex_cok l RX9 2 41 ix n rc sp := by
  intro ix n rc sp h
  obtain ⟨l0, h2, rfl⟩ := ab_dmk h
  clear h
  unfold be_X9_text at h2
  split at h2
  · cases h2; exact ec_cV (bm_X2_tellOf l) bw_X2_tellOf bv_X2_tellOf (by decide) (by decide) (Or.inl ba_X9_text.2.2.2.2.1) (T := TX2) (N := 7) rfl (by decide) bp_X2_tellOf
  · cases h2; exact ec_cV (bm_X9_counted l) bw_X9_counted bv_X9_counted (by decide) (by decide) (Or.inl ba_X9_text.2.2.2.2.2.1) (T := TX9) (N := 10) rfl (by decide) bp_X9_counted
  · cases h2
theorem bj_X9_text (l : Launch) : ex_ok l 2 41 bx_X9_text := ec_okp fo_X9 co_X9 so_X9 (bk_X9_text l)
theorem bm_X9_text (l : Launch) : ex_Met l yX9_text cX9_text 2 (some .int) 2 41 (ab_sp ab_hd bc_X9_text) := ab_met (by decide) pn_RX9 rfl (bj_X9_text l) bd_X9_text ab_hcm ab_xk bz_X9_text
