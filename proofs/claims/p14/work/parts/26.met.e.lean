theorem ba_X10_worked : ec_al [(1558, Cond.code yX10_worked cX10_worked 2 (some .int)), (68, Cond.initialized yX10_worked.cls), (1556, Cond.instanceMethod yX10_worked), (1557, Cond.selects yX10_worked.cls yX10_worked yX10_worked), (1282, Cond.methodLink RX10 160 yX10_finding), (1559, Cond.methodLink RX10 295 yX10_tooMuch)] := ec_alk (by decide +kernel)
theorem bw_X10_worked : ec_cw yX10_worked cX10_worked 2 (some .int) := ⟨ba_X10_worked.1, ba_X10_worked.2.1, nc_RX10⟩
theorem bv_X10_worked : Cond.instanceMethod yX10_worked ∈ ec_tb ∧ Cond.selects yX10_worked.cls yX10_worked yX10_worked ∈ ec_tb := ⟨ba_X10_worked.2.2.1, ba_X10_worked.2.2.2.1⟩
theorem bp_X10_worked : (parseMethodDescriptor yX10_worked.desc).map (fun d => d.parameters.length) = some 1 := by decide +kernel
theorem bk_X10_worked (l : Launch) : ∀ (ix n : Nat) (rc : Option Nat) (sp : ex_S), (be_X10_worked ix).map (fun q => (q.1, q.2.1, ab_sp ab_hd q.2.2)) = some (n, rc, sp) → ex_cok l RX10 1 25 ix n rc sp := by
  intro ix n rc sp h
  obtain ⟨l0, h2, rfl⟩ := ab_dmk h
  clear h
  unfold be_X10_worked at h2
  split at h2
  · cases h2; exact ec_cV (bm_X10_finding l) bw_X10_finding bv_X10_finding (by decide) (by decide) (Or.inl ba_X10_worked.2.2.2.2.1) (T := TX10) (N := 57) rfl (by decide) bp_X10_finding
  · cases h2; exact ec_cV (bm_X10_tooMuch l) bw_X10_tooMuch bv_X10_tooMuch (by decide) (by decide) (Or.inl ba_X10_worked.2.2.2.2.2.1) (T := TX10) (N := 57) rfl (by decide) bp_X10_tooMuch
  · cases h2
theorem bj_X10_worked (l : Launch) : ex_ok l 1 25 bx_X10_worked := ec_okp fo_X10 co_X10 so_X10 (bk_X10_worked l)
theorem bm_X10_worked (l : Launch) : ex_Met l yX10_worked cX10_worked 2 (some .int) 1 25 (ab_sp ab_hd bc_X10_worked) := ab_met (by decide) pn_RX10 rfl (bj_X10_worked l) bd_X10_worked ab_hcm ab_xk bz_X10_worked
theorem ba_X10_delay : ec_al [(1566, Cond.code yX10_delay cX10_delay 3 (some .int)), (68, Cond.initialized yX10_delay.cls), (1564, Cond.instanceMethod yX10_delay), (1565, Cond.selects yX10_delay.cls yX10_delay yX10_delay), (1303, Cond.methodLink RX10 171 yX10_isIn), (1282, Cond.methodLink RX10 160 yX10_finding)] := ec_alk (by decide +kernel)
theorem bw_X10_delay : ec_cw yX10_delay cX10_delay 3 (some .int) := ⟨ba_X10_delay.1, ba_X10_delay.2.1, nc_RX10⟩
theorem bv_X10_delay : Cond.instanceMethod yX10_delay ∈ ec_tb ∧ Cond.selects yX10_delay.cls yX10_delay yX10_delay ∈ ec_tb := ⟨ba_X10_delay.2.2.1, ba_X10_delay.2.2.2.1⟩
theorem bp_X10_delay : (parseMethodDescriptor yX10_delay.desc).map (fun d => d.parameters.length) = some 1 := by decide +kernel
theorem bk_X10_delay (l : Launch) : ∀ (ix n : Nat) (rc : Option Nat) (sp : ex_S), (be_X10_delay ix).map (fun q => (q.1, q.2.1, ab_sp ab_hd q.2.2)) = some (n, rc, sp) → ex_cok l RX10 1 22 ix n rc sp := by
  intro ix n rc sp h
  obtain ⟨l0, h2, rfl⟩ := ab_dmk h
  clear h
  unfold be_X10_delay at h2
  split at h2
  · cases h2; exact ec_cS (bm_X10_isIn l) bw_X10_isIn bv_X10_isIn (by decide) (by decide) (Or.inl ba_X10_delay.2.2.2.2.1) bp_X10_isIn
  · cases h2; exact ec_cV (bm_X10_finding l) bw_X10_finding bv_X10_finding (by decide) (by decide) (Or.inl ba_X10_delay.2.2.2.2.2.1) (T := TX10) (N := 57) rfl (by decide) bp_X10_finding
  · cases h2
theorem bj_X10_delay (l : Launch) : ex_ok l 1 22 bx_X10_delay := ec_okp fo_X10 co_X10 so_X10 (bk_X10_delay l)
theorem bm_X10_delay (l : Launch) : ex_Met l yX10_delay cX10_delay 3 (some .int) 1 22 (ab_sp ab_hd bc_X10_delay) := ab_met (by decide) pn_RX10 rfl (bj_X10_delay l) bd_X10_delay ab_hcm ab_xk bz_X10_delay
theorem ba_X10_known : ec_al [(1570, Cond.code yX10_known cX10_known 5 (some .int)), (68, Cond.initialized yX10_known.cls), (1568, Cond.instanceMethod yX10_known), (1569, Cond.selects yX10_known.cls yX10_known yX10_known), (1303, Cond.methodLink RX10 171 yX10_isIn), (1282, Cond.methodLink RX10 160 yX10_finding)] := ec_alk (by decide +kernel)
theorem bw_X10_known : ec_cw yX10_known cX10_known 5 (some .int) := ⟨ba_X10_known.1, ba_X10_known.2.1, nc_RX10⟩
theorem bv_X10_known : Cond.instanceMethod yX10_known ∈ ec_tb ∧ Cond.selects yX10_known.cls yX10_known yX10_known ∈ ec_tb := ⟨ba_X10_known.2.2.1, ba_X10_known.2.2.2.1⟩
theorem bp_X10_known : (parseMethodDescriptor yX10_known.desc).map (fun d => d.parameters.length) = some 2 := by decide +kernel
theorem bk_X10_known (l : Launch) : ∀ (ix n : Nat) (rc : Option Nat) (sp : ex_S), (be_X10_known ix).map (fun q => (q.1, q.2.1, ab_sp ab_hd q.2.2)) = some (n, rc, sp) → ex_cok l RX10 1 22 ix n rc sp := by
  intro ix n rc sp h
  obtain ⟨l0, h2, rfl⟩ := ab_dmk h
  clear h
  unfold be_X10_known at h2
  split at h2
  · cases h2; exact ec_cS (bm_X10_isIn l) bw_X10_isIn bv_X10_isIn (by decide) (by decide) (Or.inl ba_X10_known.2.2.2.2.1) bp_X10_isIn
  · cases h2; exact ec_cV (bm_X10_finding l) bw_X10_finding bv_X10_finding (by decide) (by decide) (Or.inl ba_X10_known.2.2.2.2.2.1) (T := TX10) (N := 57) rfl (by decide) bp_X10_finding
  · cases h2
theorem bj_X10_known (l : Launch) : ex_ok l 1 22 bx_X10_known := ec_okp fo_X10 co_X10 so_X10 (bk_X10_known l)
theorem bm_X10_known (l : Launch) : ex_Met l yX10_known cX10_known 5 (some .int) 1 22 (ab_sp ab_hd bc_X10_known) := ab_met (by decide) pn_RX10 rfl (bj_X10_known l) bd_X10_known ab_hcm ab_xk bz_X10_known
theorem ba_X10_mass : ec_al [(1574, Cond.code yX10_mass cX10_mass 4 (some .int)), (68, Cond.initialized yX10_mass.cls), (1572, Cond.instanceMethod yX10_mass), (1573, Cond.selects yX10_mass.cls yX10_mass yX10_mass), (1303, Cond.methodLink RX10 171 yX10_isIn), (1282, Cond.methodLink RX10 160 yX10_finding)] := ec_alk (by decide +kernel)
theorem bw_X10_mass : ec_cw yX10_mass cX10_mass 4 (some .int) := ⟨ba_X10_mass.1, ba_X10_mass.2.1, nc_RX10⟩
theorem bv_X10_mass : Cond.instanceMethod yX10_mass ∈ ec_tb ∧ Cond.selects yX10_mass.cls yX10_mass yX10_mass ∈ ec_tb := ⟨ba_X10_mass.2.2.1, ba_X10_mass.2.2.2.1⟩
theorem bp_X10_mass : (parseMethodDescriptor yX10_mass.desc).map (fun d => d.parameters.length) = some 2 := by decide +kernel
theorem bk_X10_mass (l : Launch) : ∀ (ix n : Nat) (rc : Option Nat) (sp : ex_S), (be_X10_mass ix).map (fun q => (q.1, q.2.1, ab_sp ab_hd q.2.2)) = some (n, rc, sp) → ex_cok l RX10 1 22 ix n rc sp := by
  intro ix n rc sp h
  obtain ⟨l0, h2, rfl⟩ := ab_dmk h
  clear h
  unfold be_X10_mass at h2
  split at h2
  · cases h2; exact ec_cS (bm_X10_isIn l) bw_X10_isIn bv_X10_isIn (by decide) (by decide) (Or.inl ba_X10_mass.2.2.2.2.1) bp_X10_isIn
  · cases h2; exact ec_cV (bm_X10_finding l) bw_X10_finding bv_X10_finding (by decide) (by decide) (Or.inl ba_X10_mass.2.2.2.2.2.1) (T := TX10) (N := 57) rfl (by decide) bp_X10_finding
  · cases h2
theorem bj_X10_mass (l : Launch) : ex_ok l 1 22 bx_X10_mass := ec_okp fo_X10 co_X10 so_X10 (bk_X10_mass l)
theorem bm_X10_mass (l : Launch) : ex_Met l yX10_mass cX10_mass 4 (some .int) 1 22 (ab_sp ab_hd bc_X10_mass) := ab_met (by decide) pn_RX10 rfl (bj_X10_mass l) bd_X10_mass ab_hcm ab_xk bz_X10_mass
theorem ba_X10_dock : ec_al [(1579, Cond.code yX10_dock cX10_dock 3 (some .int)), (68, Cond.initialized yX10_dock.cls), (1577, Cond.instanceMethod yX10_dock), (1578, Cond.selects yX10_dock.cls yX10_dock yX10_dock), (1303, Cond.methodLink RX10 171 yX10_isIn), (1282, Cond.methodLink RX10 160 yX10_finding)] := ec_alk (by decide +kernel)
theorem bw_X10_dock : ec_cw yX10_dock cX10_dock 3 (some .int) := ⟨ba_X10_dock.1, ba_X10_dock.2.1, nc_RX10⟩
theorem bv_X10_dock : Cond.instanceMethod yX10_dock ∈ ec_tb ∧ Cond.selects yX10_dock.cls yX10_dock yX10_dock ∈ ec_tb := ⟨ba_X10_dock.2.2.1, ba_X10_dock.2.2.2.1⟩
theorem bp_X10_dock : (parseMethodDescriptor yX10_dock.desc).map (fun d => d.parameters.length) = some 2 := by decide +kernel
theorem bk_X10_dock (l : Launch) : ∀ (ix n : Nat) (rc : Option Nat) (sp : ex_S), (be_X10_dock ix).map (fun q => (q.1, q.2.1, ab_sp ab_hd q.2.2)) = some (n, rc, sp) → ex_cok l RX10 1 22 ix n rc sp := by
  intro ix n rc sp h
  obtain ⟨l0, h2, rfl⟩ := ab_dmk h
  clear h
  unfold be_X10_dock at h2
  split at h2
  · cases h2; exact ec_cS (bm_X10_isIn l) bw_X10_isIn bv_X10_isIn (by decide) (by decide) (Or.inl ba_X10_dock.2.2.2.2.1) bp_X10_isIn
  · cases h2; exact ec_cV (bm_X10_finding l) bw_X10_finding bv_X10_finding (by decide) (by decide) (Or.inl ba_X10_dock.2.2.2.2.2.1) (T := TX10) (N := 57) rfl (by decide) bp_X10_finding
  · cases h2
theorem bj_X10_dock (l : Launch) : ex_ok l 1 22 bx_X10_dock := ec_okp fo_X10 co_X10 so_X10 (bk_X10_dock l)
theorem bm_X10_dock (l : Launch) : ex_Met l yX10_dock cX10_dock 3 (some .int) 1 22 (ab_sp ab_hd bc_X10_dock) := ab_met (by decide) pn_RX10 rfl (bj_X10_dock l) bd_X10_dock ab_hcm ab_xk bz_X10_dock
theorem ba_X10_undock : ec_al [(1583, Cond.code yX10_undock cX10_undock 2 (some .int)), (68, Cond.initialized yX10_undock.cls), (1581, Cond.instanceMethod yX10_undock), (1582, Cond.selects yX10_undock.cls yX10_undock yX10_undock), (1303, Cond.methodLink RX10 171 yX10_isIn), (1282, Cond.methodLink RX10 160 yX10_finding)] := ec_alk (by decide +kernel)
theorem bw_X10_undock : ec_cw yX10_undock cX10_undock 2 (some .int) := ⟨ba_X10_undock.1, ba_X10_undock.2.1, nc_RX10⟩
theorem bv_X10_undock : Cond.instanceMethod yX10_undock ∈ ec_tb ∧ Cond.selects yX10_undock.cls yX10_undock yX10_undock ∈ ec_tb := ⟨ba_X10_undock.2.2.1, ba_X10_undock.2.2.2.1⟩
theorem bp_X10_undock : (parseMethodDescriptor yX10_undock.desc).map (fun d => d.parameters.length) = some 1 := by decide +kernel
theorem bk_X10_undock (l : Launch) : ∀ (ix n : Nat) (rc : Option Nat) (sp : ex_S), (be_X10_undock ix).map (fun q => (q.1, q.2.1, ab_sp ab_hd q.2.2)) = some (n, rc, sp) → ex_cok l RX10 1 22 ix n rc sp := by
  intro ix n rc sp h
  obtain ⟨l0, h2, rfl⟩ := ab_dmk h
  clear h
  unfold be_X10_undock at h2
  split at h2
  · cases h2; exact ec_cS (bm_X10_isIn l) bw_X10_isIn bv_X10_isIn (by decide) (by decide) (Or.inl ba_X10_undock.2.2.2.2.1) bp_X10_isIn
  · cases h2; exact ec_cV (bm_X10_finding l) bw_X10_finding bv_X10_finding (by decide) (by decide) (Or.inl ba_X10_undock.2.2.2.2.2.1) (T := TX10) (N := 57) rfl (by decide) bp_X10_finding
  · cases h2
theorem bj_X10_undock (l : Launch) : ex_ok l 1 22 bx_X10_undock := ec_okp fo_X10 co_X10 so_X10 (bk_X10_undock l)
theorem bm_X10_undock (l : Launch) : ex_Met l yX10_undock cX10_undock 2 (some .int) 1 22 (ab_sp ab_hd bc_X10_undock) := ab_met (by decide) pn_RX10 rfl (bj_X10_undock l) bd_X10_undock ab_hcm ab_xk bz_X10_undock
theorem ba_X10_tell : ec_al [(1587, Cond.code yX10_tell cX10_tell 2 (some .int)), (68, Cond.initialized yX10_tell.cls), (1585, Cond.instanceMethod yX10_tell), (1586, Cond.selects yX10_tell.cls yX10_tell yX10_tell), (1282, Cond.methodLink RX10 160 yX10_finding)] := ec_alk (by decide +kernel)
theorem bw_X10_tell : ec_cw yX10_tell cX10_tell 2 (some .int) := ⟨ba_X10_tell.1, ba_X10_tell.2.1, nc_RX10⟩
theorem bv_X10_tell : Cond.instanceMethod yX10_tell ∈ ec_tb ∧ Cond.selects yX10_tell.cls yX10_tell yX10_tell ∈ ec_tb := ⟨ba_X10_tell.2.2.1, ba_X10_tell.2.2.2.1⟩
theorem bp_X10_tell : (parseMethodDescriptor yX10_tell.desc).map (fun d => d.parameters.length) = some 1 := by decide +kernel
theorem bk_X10_tell (l : Launch) : ∀ (ix n : Nat) (rc : Option Nat) (sp : ex_S), (be_X10_tell ix).map (fun q => (q.1, q.2.1, ab_sp ab_hd q.2.2)) = some (n, rc, sp) → ex_cok l RX10 1 21 ix n rc sp := by
  intro ix n rc sp h
  obtain ⟨l0, h2, rfl⟩ := ab_dmk h
  clear h
  unfold be_X10_tell at h2
  split at h2
  · cases h2; exact ec_cV (bm_X10_finding l) bw_X10_finding bv_X10_finding (by decide) (by decide) (Or.inl ba_X10_tell.2.2.2.2.1) (T := TX10) (N := 57) rfl (by decide) bp_X10_finding
  · cases h2
theorem bj_X10_tell (l : Launch) : ex_ok l 1 21 bx_X10_tell := ec_okp fo_X10 co_X10 so_X10 (bk_X10_tell l)
theorem bm_X10_tell (l : Launch) : ex_Met l yX10_tell cX10_tell 2 (some .int) 1 21 (ab_sp ab_hd bc_X10_tell) := ab_met (by decide) pn_RX10 rfl (bj_X10_tell l) bd_X10_tell ab_hcm ab_xk bz_X10_tell
theorem ba_X10_check : ec_al [(1591, Cond.code yX10_check cX10_check 7 (some .int)), (68, Cond.initialized yX10_check.cls), (1589, Cond.instanceMethod yX10_check), (1590, Cond.selects yX10_check.cls yX10_check yX10_check), (1291, Cond.methodLink RX10 164 yX10_isModule), (1303, Cond.methodLink RX10 171 yX10_isIn), (1282, Cond.methodLink RX10 160 yX10_finding), (1512, Cond.methodLink RX10 273 yX10_layAside), (1451, Cond.methodLink RX10 262 yX10_tick)] := ec_alk (by decide +kernel)
theorem bw_X10_check : ec_cw yX10_check cX10_check 7 (some .int) := ⟨ba_X10_check.1, ba_X10_check.2.1, nc_RX10⟩
theorem bv_X10_check : Cond.instanceMethod yX10_check ∈ ec_tb ∧ Cond.selects yX10_check.cls yX10_check yX10_check ∈ ec_tb := ⟨ba_X10_check.2.2.1, ba_X10_check.2.2.2.1⟩
theorem bp_X10_check : (parseMethodDescriptor yX10_check.desc).map (fun d => d.parameters.length) = some 2 := by decide +kernel
theorem bk_X10_check (l : Launch) : ∀ (ix n : Nat) (rc : Option Nat) (sp : ex_S), (be_X10_check ix).map (fun q => (q.1, q.2.1, ab_sp ab_hd q.2.2)) = some (n, rc, sp) → ex_cok l RX10 5 112 ix n rc sp := by
  intro ix n rc sp h
  obtain ⟨l0, h2, rfl⟩ := ab_dmk h
  clear h
  unfold be_X10_check at h2
  split at h2
  · cases h2; exact ec_cV (bm_X10_isModule l) bw_X10_isModule bv_X10_isModule (by decide) (by decide) (Or.inl ba_X10_check.2.2.2.2.1) (T := TX10) (N := 57) rfl (by decide) bp_X10_isModule
  · cases h2; exact ec_cS (bm_X10_isIn l) bw_X10_isIn bv_X10_isIn (by decide) (by decide) (Or.inl ba_X10_check.2.2.2.2.2.1) bp_X10_isIn
  · cases h2; exact ec_cV (bm_X10_finding l) bw_X10_finding bv_X10_finding (by decide) (by decide) (Or.inl ba_X10_check.2.2.2.2.2.2.1) (T := TX10) (N := 57) rfl (by decide) bp_X10_finding
  · cases h2; exact ec_cV (bm_X10_layAside l) bw_X10_layAside bv_X10_layAside (by decide) (by decide) (Or.inl ba_X10_check.2.2.2.2.2.2.2.1) (T := TX10) (N := 57) rfl (by decide) bp_X10_layAside
  · cases h2; exact ec_cV (bm_X10_tick l) bw_X10_tick bv_X10_tick (by decide) (by decide) (Or.inl ba_X10_check.2.2.2.2.2.2.2.2.1) (T := TX10) (N := 57) rfl (by decide) bp_X10_tick
  · cases h2
theorem bj_X10_check (l : Launch) : ex_ok l 5 112 bx_X10_check := ec_okp fo_X10 co_X10 so_X10 (bk_X10_check l)
theorem bm_X10_check (l : Launch) : ex_Met l yX10_check cX10_check 7 (some .int) 5 112 (ab_sp ab_hd bc_X10_check) := ab_met (by decide) pn_RX10 rfl (bj_X10_check l) bd_X10_check ab_hcm ab_xk bz_X10_check
theorem ba_X10_count : ec_al [(1595, Cond.code yX10_count cX10_count 4 (some .int)), (68, Cond.initialized yX10_count.cls), (1593, Cond.instanceMethod yX10_count), (1594, Cond.selects yX10_count.cls yX10_count yX10_count), (1282, Cond.methodLink RX10 160 yX10_finding)] := ec_alk (by decide +kernel)
theorem bw_X10_count : ec_cw yX10_count cX10_count 4 (some .int) := ⟨ba_X10_count.1, ba_X10_count.2.1, nc_RX10⟩
theorem bv_X10_count : Cond.instanceMethod yX10_count ∈ ec_tb ∧ Cond.selects yX10_count.cls yX10_count yX10_count ∈ ec_tb := ⟨ba_X10_count.2.2.1, ba_X10_count.2.2.2.1⟩
theorem bp_X10_count : (parseMethodDescriptor yX10_count.desc).map (fun d => d.parameters.length) = some 1 := by decide +kernel
theorem bk_X10_count (l : Launch) : ∀ (ix n : Nat) (rc : Option Nat) (sp : ex_S), (be_X10_count ix).map (fun q => (q.1, q.2.1, ab_sp ab_hd q.2.2)) = some (n, rc, sp) → ex_cok l RX10 1 21 ix n rc sp := by
  intro ix n rc sp h
  obtain ⟨l0, h2, rfl⟩ := ab_dmk h
  clear h
  unfold be_X10_count at h2
  split at h2
  · cases h2; exact ec_cV (bm_X10_finding l) bw_X10_finding bv_X10_finding (by decide) (by decide) (Or.inl ba_X10_count.2.2.2.2.1) (T := TX10) (N := 57) rfl (by decide) bp_X10_finding
  · cases h2
theorem bj_X10_count (l : Launch) : ex_ok l 1 21 bx_X10_count := ec_okp fo_X10 co_X10 so_X10 (bk_X10_count l)
theorem bm_X10_count (l : Launch) : ex_Met l yX10_count cX10_count 4 (some .int) 1 21 (ab_sp ab_hd bc_X10_count) := ab_met (by decide) pn_RX10 rfl (bj_X10_count l) bd_X10_count ab_hcm ab_xk bz_X10_count
theorem ba_X10_found : ec_al [(1599, Cond.code yX10_found cX10_found 2 (some .int)), (68, Cond.initialized yX10_found.cls), (1597, Cond.instanceMethod yX10_found), (1598, Cond.selects yX10_found.cls yX10_found yX10_found), (1303, Cond.methodLink RX10 171 yX10_isIn), (1282, Cond.methodLink RX10 160 yX10_finding)] := ec_alk (by decide +kernel)
theorem bw_X10_found : ec_cw yX10_found cX10_found 2 (some .int) := ⟨ba_X10_found.1, ba_X10_found.2.1, nc_RX10⟩
theorem bv_X10_found : Cond.instanceMethod yX10_found ∈ ec_tb ∧ Cond.selects yX10_found.cls yX10_found yX10_found ∈ ec_tb := ⟨ba_X10_found.2.2.1, ba_X10_found.2.2.2.1⟩
theorem bp_X10_found : (parseMethodDescriptor yX10_found.desc).map (fun d => d.parameters.length) = some 1 := by decide +kernel
theorem bk_X10_found (l : Launch) : ∀ (ix n : Nat) (rc : Option Nat) (sp : ex_S), (be_X10_found ix).map (fun q => (q.1, q.2.1, ab_sp ab_hd q.2.2)) = some (n, rc, sp) → ex_cok l RX10 1 22 ix n rc sp := by
  intro ix n rc sp h
  obtain ⟨l0, h2, rfl⟩ := ab_dmk h
  clear h
  unfold be_X10_found at h2
  split at h2
  · cases h2; exact ec_cS (bm_X10_isIn l) bw_X10_isIn bv_X10_isIn (by decide) (by decide) (Or.inl ba_X10_found.2.2.2.2.1) bp_X10_isIn
  · cases h2; exact ec_cV (bm_X10_finding l) bw_X10_finding bv_X10_finding (by decide) (by decide) (Or.inl ba_X10_found.2.2.2.2.2.1) (T := TX10) (N := 57) rfl (by decide) bp_X10_finding
  · cases h2
theorem bj_X10_found (l : Launch) : ex_ok l 1 22 bx_X10_found := ec_okp fo_X10 co_X10 so_X10 (bk_X10_found l)
theorem bm_X10_found (l : Launch) : ex_Met l yX10_found cX10_found 2 (some .int) 1 22 (ab_sp ab_hd bc_X10_found) := ab_met (by decide) pn_RX10 rfl (bj_X10_found l) bd_X10_found ab_hcm ab_xk bz_X10_found
