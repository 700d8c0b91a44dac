theorem ba_X9_person : ec_al [(501, Cond.code yX9_person cX9_person 2 (some .int)), (58, Cond.initialized yX9_person.cls), (499, Cond.instanceMethod yX9_person), (500, Cond.selects yX9_person.cls yX9_person yX9_person), (502, Cond.methodLink RX9 88 yX0_hasModule), (424, Cond.methodLink RX9 64 yX9_counted), (504, Cond.methodLink RX9 97 yX3_addPerson)] := ec_alk (by decide +kernel)
theorem bw_X9_person : ec_cw yX9_person cX9_person 2 (some .int) := ⟨ba_X9_person.1, ba_X9_person.2.1, nc_RX9⟩
theorem bv_X9_person : Cond.instanceMethod yX9_person ∈ ec_tb ∧ Cond.selects yX9_person.cls yX9_person yX9_person ∈ ec_tb := ⟨ba_X9_person.2.2.1, ba_X9_person.2.2.2.1⟩
theorem bp_X9_person : (parseMethodDescriptor yX9_person.desc).map (fun d => d.parameters.length) = some 1 := by decide +kernel
theorem bk_X9_person (l : Launch) : ∀ (ix n : Nat) (rc : Option Nat) (sp : ex_S), (be_X9_person ix).map (fun q => (q.1, q.2.1, ab_sp ab_hd q.2.2)) = some (n, rc, sp) → ex_cok l RX9 1 21 ix n rc sp := by
  intro ix n rc sp h
  obtain ⟨l0, h2, rfl⟩ := ab_dmk h
  clear h
  unfold be_X9_person at h2
  split at h2
  · cases h2; exact ec_cV (bm_X0_hasModule l) bw_X0_hasModule bv_X0_hasModule (by decide) (by decide) (Or.inl ba_X9_person.2.2.2.2.1) (T := TX0) (N := 8) rfl (by decide) bp_X0_hasModule
  · cases h2; exact ec_cV (bm_X9_counted l) bw_X9_counted bv_X9_counted (by decide) (by decide) (Or.inl ba_X9_person.2.2.2.2.2.1) (T := TX9) (N := 10) rfl (by decide) bp_X9_counted
  · cases h2; exact ec_cV (bm_X3_addPerson l) bw_X3_addPerson bv_X3_addPerson (by decide) (by decide) (Or.inl ba_X9_person.2.2.2.2.2.2.1) (T := TX3) (N := 7) rfl (by decide) bp_X3_addPerson
  · cases h2
theorem bj_X9_person (l : Launch) : ex_ok l 1 21 bx_X9_person := ec_okp fo_X9 co_X9 so_X9 (bk_X9_person l)
theorem bm_X9_person (l : Launch) : ex_Met l yX9_person cX9_person 2 (some .int) 1 21 (ab_sp ab_hd bc_X9_person) := ab_met (by decide) pn_RX9 rfl (bj_X9_person l) bd_X9_person ab_hcm ab_xk bz_X9_person
theorem ba_X9_go : ec_al [(512, Cond.code yX9_go cX9_go 3 (some .int)), (58, Cond.initialized yX9_go.cls), (510, Cond.instanceMethod yX9_go), (511, Cond.selects yX9_go.cls yX9_go yX9_go), (513, Cond.methodLink RX9 102 yX8_walk), (424, Cond.methodLink RX9 64 yX9_counted)] := ec_alk (by decide +kernel)
theorem bw_X9_go : ec_cw yX9_go cX9_go 3 (some .int) := ⟨ba_X9_go.1, ba_X9_go.2.1, nc_RX9⟩
theorem bv_X9_go : Cond.instanceMethod yX9_go ∈ ec_tb ∧ Cond.selects yX9_go.cls yX9_go yX9_go ∈ ec_tb := ⟨ba_X9_go.2.2.1, ba_X9_go.2.2.2.1⟩
theorem bp_X9_go : (parseMethodDescriptor yX9_go.desc).map (fun d => d.parameters.length) = some 2 := by decide +kernel
theorem bk_X9_go (l : Launch) : ∀ (ix n : Nat) (rc : Option Nat) (sp : ex_S), (be_X9_go ix).map (fun q => (q.1, q.2.1, ab_sp ab_hd q.2.2)) = some (n, rc, sp) → ex_cok l RX9 2 46 ix n rc sp := by
  intro ix n rc sp h
  obtain ⟨l0, h2, rfl⟩ := ab_dmk h
  clear h
  unfold be_X9_go at h2
  split at h2
  · cases h2; exact ec_cV (bm_X8_walk l) bw_X8_walk bv_X8_walk (by decide) (by decide) (Or.inl ba_X9_go.2.2.2.2.1) (T := TX8) (N := 7) rfl (by decide) bp_X8_walk
  · cases h2; exact ec_cV (bm_X9_counted l) bw_X9_counted bv_X9_counted (by decide) (by decide) (Or.inl ba_X9_go.2.2.2.2.2.1) (T := TX9) (N := 10) rfl (by decide) bp_X9_counted
  · cases h2
theorem bj_X9_go (l : Launch) : ex_ok l 2 46 bx_X9_go := ec_okp fo_X9 co_X9 so_X9 (bk_X9_go l)
theorem bm_X9_go (l : Launch) : ex_Met l yX9_go cX9_go 3 (some .int) 2 46 (ab_sp ab_hd bc_X9_go) := ab_met (by decide) pn_RX9 rfl (bj_X9_go l) bd_X9_go ab_hcm ab_xk bz_X9_go
theorem ba_X9_doing : ec_al [(535, Cond.code yX9_doing cX9_doing 3 (some .int)), (58, Cond.initialized yX9_doing.cls), (533, Cond.instanceMethod yX9_doing), (534, Cond.selects yX9_doing.cls yX9_doing yX9_doing), (536, Cond.methodLink RX9 105 yX3_setDoing), (424, Cond.methodLink RX9 64 yX9_counted)] := ec_alk (by decide +kernel)
theorem bw_X9_doing : ec_cw yX9_doing cX9_doing 3 (some .int) := ⟨ba_X9_doing.1, ba_X9_doing.2.1, nc_RX9⟩
theorem bv_X9_doing : Cond.instanceMethod yX9_doing ∈ ec_tb ∧ Cond.selects yX9_doing.cls yX9_doing yX9_doing ∈ ec_tb := ⟨ba_X9_doing.2.2.1, ba_X9_doing.2.2.2.1⟩
theorem bp_X9_doing : (parseMethodDescriptor yX9_doing.desc).map (fun d => d.parameters.length) = some 2 := by decide +kernel
theorem bk_X9_doing (l : Launch) : ∀ (ix n : Nat) (rc : Option Nat) (sp : ex_S), (be_X9_doing ix).map (fun q => (q.1, q.2.1, ab_sp ab_hd q.2.2)) = some (n, rc, sp) → ex_cok l RX9 2 44 ix n rc sp := by
  intro ix n rc sp h
  obtain ⟨l0, h2, rfl⟩ := ab_dmk h
  clear h
  unfold be_X9_doing at h2
  split at h2
  · cases h2; exact ec_cV (bm_X3_setDoing l) bw_X3_setDoing bv_X3_setDoing (by decide) (by decide) (Or.inl ba_X9_doing.2.2.2.2.1) (T := TX3) (N := 7) rfl (by decide) bp_X3_setDoing
  · cases h2; exact ec_cV (bm_X9_counted l) bw_X9_counted bv_X9_counted (by decide) (by decide) (Or.inl ba_X9_doing.2.2.2.2.2.1) (T := TX9) (N := 10) rfl (by decide) bp_X9_counted
  · cases h2
theorem bj_X9_doing (l : Launch) : ex_ok l 2 44 bx_X9_doing := ec_okp fo_X9 co_X9 so_X9 (bk_X9_doing l)
theorem bm_X9_doing (l : Launch) : ex_Met l yX9_doing cX9_doing 3 (some .int) 2 44 (ab_sp ab_hd bc_X9_doing) := ab_met (by decide) pn_RX9 rfl (bj_X9_doing l) bd_X9_doing ab_hcm ab_xk bz_X9_doing
theorem ba_X9_about : ec_al [(547, Cond.code yX9_about cX9_about 3 (some .int)), (58, Cond.initialized yX9_about.cls), (545, Cond.instanceMethod yX9_about), (546, Cond.selects yX9_about.cls yX9_about yX9_about), (548, Cond.methodLink RX9 108 yX3_tellOf), (424, Cond.methodLink RX9 64 yX9_counted)] := ec_alk (by decide +kernel)
theorem bw_X9_about : ec_cw yX9_about cX9_about 3 (some .int) := ⟨ba_X9_about.1, ba_X9_about.2.1, nc_RX9⟩
theorem bv_X9_about : Cond.instanceMethod yX9_about ∈ ec_tb ∧ Cond.selects yX9_about.cls yX9_about yX9_about ∈ ec_tb := ⟨ba_X9_about.2.2.1, ba_X9_about.2.2.2.1⟩
theorem bp_X9_about : (parseMethodDescriptor yX9_about.desc).map (fun d => d.parameters.length) = some 2 := by decide +kernel
theorem bk_X9_about (l : Launch) : ∀ (ix n : Nat) (rc : Option Nat) (sp : ex_S), (be_X9_about ix).map (fun q => (q.1, q.2.1, ab_sp ab_hd q.2.2)) = some (n, rc, sp) → ex_cok l RX9 2 43 ix n rc sp := by
  intro ix n rc sp h
  obtain ⟨l0, h2, rfl⟩ := ab_dmk h
  clear h
  unfold be_X9_about at h2
  split at h2
  · cases h2; exact ec_cV (bm_X3_tellOf l) bw_X3_tellOf bv_X3_tellOf (by decide) (by decide) (Or.inl ba_X9_about.2.2.2.2.1) (T := TX3) (N := 7) rfl (by decide) bp_X3_tellOf
  · cases h2; exact ec_cV (bm_X9_counted l) bw_X9_counted bv_X9_counted (by decide) (by decide) (Or.inl ba_X9_about.2.2.2.2.2.1) (T := TX9) (N := 10) rfl (by decide) bp_X9_counted
  · cases h2
theorem bj_X9_about (l : Launch) : ex_ok l 2 43 bx_X9_about := ec_okp fo_X9 co_X9 so_X9 (bk_X9_about l)
theorem bm_X9_about (l : Launch) : ex_Met l yX9_about cX9_about 3 (some .int) 2 43 (ab_sp ab_hd bc_X9_about) := ab_met (by decide) pn_RX9 rfl (bj_X9_about l) bd_X9_about ab_hcm ab_xk bz_X9_about
theorem ba_X9_machine : ec_al [(555, Cond.code yX9_machine cX9_machine 5 (some .int)), (58, Cond.initialized yX9_machine.cls), (553, Cond.instanceMethod yX9_machine), (554, Cond.selects yX9_machine.cls yX9_machine yX9_machine), (502, Cond.methodLink RX9 88 yX0_hasModule), (424, Cond.methodLink RX9 64 yX9_counted), (556, Cond.methodLink RX9 115 yX6_addMachine)] := ec_alk (by decide +kernel)
theorem bw_X9_machine : ec_cw yX9_machine cX9_machine 5 (some .int) := ⟨ba_X9_machine.1, ba_X9_machine.2.1, nc_RX9⟩
theorem bv_X9_machine : Cond.instanceMethod yX9_machine ∈ ec_tb ∧ Cond.selects yX9_machine.cls yX9_machine yX9_machine ∈ ec_tb := ⟨ba_X9_machine.2.2.1, ba_X9_machine.2.2.2.1⟩
theorem bp_X9_machine : (parseMethodDescriptor yX9_machine.desc).map (fun d => d.parameters.length) = some 4 := by decide +kernel
theorem bk_X9_machine (l : Launch) : ∀ (ix n : Nat) (rc : Option Nat) (sp : ex_S), (be_X9_machine ix).map (fun q => (q.1, q.2.1, ab_sp ab_hd q.2.2)) = some (n, rc, sp) → ex_cok l RX9 2 45 ix n rc sp := by
  intro ix n rc sp h
  obtain ⟨l0, h2, rfl⟩ := ab_dmk h
  clear h
  unfold be_X9_machine at h2
  split at h2
  · cases h2; exact ec_cV (bm_X0_hasModule l) bw_X0_hasModule bv_X0_hasModule (by decide) (by decide) (Or.inl ba_X9_machine.2.2.2.2.1) (T := TX0) (N := 8) rfl (by decide) bp_X0_hasModule
  · cases h2; exact ec_cV (bm_X9_counted l) bw_X9_counted bv_X9_counted (by decide) (by decide) (Or.inl ba_X9_machine.2.2.2.2.2.1) (T := TX9) (N := 10) rfl (by decide) bp_X9_counted
  · cases h2; exact ec_cV (bm_X6_addMachine l) bw_X6_addMachine bv_X6_addMachine (by decide) (by decide) (Or.inl ba_X9_machine.2.2.2.2.2.2.1) (T := TX6) (N := 15) rfl (by decide) bp_X6_addMachine
  · cases h2
theorem bj_X9_machine (l : Launch) : ex_ok l 2 45 bx_X9_machine := ec_okp fo_X9 co_X9 so_X9 (bk_X9_machine l)
theorem bm_X9_machine (l : Launch) : ex_Met l yX9_machine cX9_machine 5 (some .int) 2 45 (ab_sp ab_hd bc_X9_machine) := ab_met (by decide) pn_RX9 rfl (bj_X9_machine l) bd_X9_machine ab_hcm ab_xk bz_X9_machine
theorem ba_X9_as : ec_al [(572, Cond.code yX9_as cX9_as 3 (some .int)), (58, Cond.initialized yX9_as.cls), (570, Cond.instanceMethod yX9_as), (571, Cond.selects yX9_as.cls yX9_as yX9_as), (573, Cond.methodLink RX9 121 yX6_rateAs), (424, Cond.methodLink RX9 64 yX9_counted)] := ec_alk (by decide +kernel)
theorem bw_X9_as : ec_cw yX9_as cX9_as 3 (some .int) := ⟨ba_X9_as.1, ba_X9_as.2.1, nc_RX9⟩
theorem bv_X9_as : Cond.instanceMethod yX9_as ∈ ec_tb ∧ Cond.selects yX9_as.cls yX9_as yX9_as ∈ ec_tb := ⟨ba_X9_as.2.2.1, ba_X9_as.2.2.2.1⟩
theorem bp_X9_as : (parseMethodDescriptor yX9_as.desc).map (fun d => d.parameters.length) = some 2 := by decide +kernel
theorem bk_X9_as (l : Launch) : ∀ (ix n : Nat) (rc : Option Nat) (sp : ex_S), (be_X9_as ix).map (fun q => (q.1, q.2.1, ab_sp ab_hd q.2.2)) = some (n, rc, sp) → ex_cok l RX9 3 65 ix n rc sp := by
  intro ix n rc sp h
  obtain ⟨l0, h2, rfl⟩ := ab_dmk h
  clear h
  unfold be_X9_as at h2
  split at h2
  · cases h2; exact ec_cV (bm_X6_rateAs l) bw_X6_rateAs bv_X6_rateAs (by decide) (by decide) (Or.inl ba_X9_as.2.2.2.2.1) (T := TX6) (N := 15) rfl (by decide) bp_X6_rateAs
  · cases h2; exact ec_cV (bm_X9_counted l) bw_X9_counted bv_X9_counted (by decide) (by decide) (Or.inl ba_X9_as.2.2.2.2.2.1) (T := TX9) (N := 10) rfl (by decide) bp_X9_counted
  · cases h2
theorem bj_X9_as (l : Launch) : ex_ok l 3 65 bx_X9_as := ec_okp fo_X9 co_X9 so_X9 (bk_X9_as l)
theorem bm_X9_as (l : Launch) : ex_Met l yX9_as cX9_as 3 (some .int) 3 65 (ab_sp ab_hd bc_X9_as) := ab_met (by decide) pn_RX9 rfl (bj_X9_as l) bd_X9_as ab_hcm ab_xk bz_X9_as
theorem ba_X9_turn : ec_al [(590, Cond.code yX9_turn cX9_turn 3 (some .int)), (58, Cond.initialized yX9_turn.cls), (588, Cond.instanceMethod yX9_turn), (589, Cond.selects yX9_turn.cls yX9_turn yX9_turn), (591, Cond.methodLink RX9 124 yX6_setOn), (424, Cond.methodLink RX9 64 yX9_counted)] := ec_alk (by decide +kernel)
theorem bw_X9_turn : ec_cw yX9_turn cX9_turn 3 (some .int) := ⟨ba_X9_turn.1, ba_X9_turn.2.1, nc_RX9⟩
theorem bv_X9_turn : Cond.instanceMethod yX9_turn ∈ ec_tb ∧ Cond.selects yX9_turn.cls yX9_turn yX9_turn ∈ ec_tb := ⟨ba_X9_turn.2.2.1, ba_X9_turn.2.2.2.1⟩
theorem bp_X9_turn : (parseMethodDescriptor yX9_turn.desc).map (fun d => d.parameters.length) = some 2 := by decide +kernel
theorem bk_X9_turn (l : Launch) : ∀ (ix n : Nat) (rc : Option Nat) (sp : ex_S), (be_X9_turn ix).map (fun q => (q.1, q.2.1, ab_sp ab_hd q.2.2)) = some (n, rc, sp) → ex_cok l RX9 2 44 ix n rc sp := by
  intro ix n rc sp h
  obtain ⟨l0, h2, rfl⟩ := ab_dmk h
  clear h
  unfold be_X9_turn at h2
  split at h2
  · cases h2; exact ec_cV (bm_X6_setOn l) bw_X6_setOn bv_X6_setOn (by decide) (by decide) (Or.inl ba_X9_turn.2.2.2.2.1) (T := TX6) (N := 15) rfl (by decide) bp_X6_setOn
  · cases h2; exact ec_cV (bm_X9_counted l) bw_X9_counted bv_X9_counted (by decide) (by decide) (Or.inl ba_X9_turn.2.2.2.2.2.1) (T := TX9) (N := 10) rfl (by decide) bp_X9_counted
  · cases h2
theorem bj_X9_turn (l : Launch) : ex_ok l 2 44 bx_X9_turn := ec_okp fo_X9 co_X9 so_X9 (bk_X9_turn l)
theorem bm_X9_turn (l : Launch) : ex_Met l yX9_turn cX9_turn 3 (some .int) 2 44 (ab_sp ab_hd bc_X9_turn) := ab_met (by decide) pn_RX9 rfl (bj_X9_turn l) bd_X9_turn ab_hcm ab_xk bz_X9_turn
theorem ba_X9_of : ec_al [(600, Cond.code yX9_of cX9_of 3 (some .int)), (58, Cond.initialized yX9_of.cls), (598, Cond.instanceMethod yX9_of), (599, Cond.selects yX9_of.cls yX9_of yX9_of), (601, Cond.methodLink RX9 127 yX6_tellOf), (424, Cond.methodLink RX9 64 yX9_counted)] := ec_alk (by decide +kernel)
theorem bw_X9_of : ec_cw yX9_of cX9_of 3 (some .int) := ⟨ba_X9_of.1, ba_X9_of.2.1, nc_RX9⟩
theorem bv_X9_of : Cond.instanceMethod yX9_of ∈ ec_tb ∧ Cond.selects yX9_of.cls yX9_of yX9_of ∈ ec_tb := ⟨ba_X9_of.2.2.1, ba_X9_of.2.2.2.1⟩
theorem bp_X9_of : (parseMethodDescriptor yX9_of.desc).map (fun d => d.parameters.length) = some 2 := by decide +kernel
theorem bk_X9_of (l : Launch) : ∀ (ix n : Nat) (rc : Option Nat) (sp : ex_S), (be_X9_of ix).map (fun q => (q.1, q.2.1, ab_sp ab_hd q.2.2)) = some (n, rc, sp) → ex_cok l RX9 2 43 ix n rc sp := by
  intro ix n rc sp h
  obtain ⟨l0, h2, rfl⟩ := ab_dmk h
  clear h
  unfold be_X9_of at h2
  split at h2
  · cases h2; exact ec_cV (bm_X6_tellOf l) bw_X6_tellOf bv_X6_tellOf (by decide) (by decide) (Or.inl ba_X9_of.2.2.2.2.1) (T := TX6) (N := 15) rfl (by decide) bp_X6_tellOf
  · cases h2; exact ec_cV (bm_X9_counted l) bw_X9_counted bv_X9_counted (by decide) (by decide) (Or.inl ba_X9_of.2.2.2.2.2.1) (T := TX9) (N := 10) rfl (by decide) bp_X9_counted
  · cases h2
theorem bj_X9_of (l : Launch) : ex_ok l 2 43 bx_X9_of := ec_okp fo_X9 co_X9 so_X9 (bk_X9_of l)
theorem bm_X9_of (l : Launch) : ex_Met l yX9_of cX9_of 3 (some .int) 2 43 (ab_sp ab_hd bc_X9_of) := ab_met (by decide) pn_RX9 rfl (bj_X9_of l) bd_X9_of ab_hcm ab_xk bz_X9_of
theorem ba_X9_spares : ec_al [(608, Cond.code yX9_spares cX9_spares 3 (some .int)), (58, Cond.initialized yX9_spares.cls), (606, Cond.instanceMethod yX9_spares), (607, Cond.selects yX9_spares.cls yX9_spares yX9_spares), (609, Cond.methodLink RX9 128 yX6_setSpares), (424, Cond.methodLink RX9 64 yX9_counted)] := ec_alk (by decide +kernel)
theorem bw_X9_spares : ec_cw yX9_spares cX9_spares 3 (some .int) := ⟨ba_X9_spares.1, ba_X9_spares.2.1, nc_RX9⟩
theorem bv_X9_spares : Cond.instanceMethod yX9_spares ∈ ec_tb ∧ Cond.selects yX9_spares.cls yX9_spares yX9_spares ∈ ec_tb := ⟨ba_X9_spares.2.2.1, ba_X9_spares.2.2.2.1⟩
theorem bp_X9_spares : (parseMethodDescriptor yX9_spares.desc).map (fun d => d.parameters.length) = some 2 := by decide +kernel
theorem bk_X9_spares (l : Launch) : ∀ (ix n : Nat) (rc : Option Nat) (sp : ex_S), (be_X9_spares ix).map (fun q => (q.1, q.2.1, ab_sp ab_hd q.2.2)) = some (n, rc, sp) → ex_cok l RX9 2 43 ix n rc sp := by
  intro ix n rc sp h
  obtain ⟨l0, h2, rfl⟩ := ab_dmk h
  clear h
  unfold be_X9_spares at h2
  split at h2
  · cases h2; exact ec_cV (bm_X6_setSpares l) bw_X6_setSpares bv_X6_setSpares (by decide) (by decide) (Or.inl ba_X9_spares.2.2.2.2.1) (T := TX6) (N := 15) rfl (by decide) bp_X6_setSpares
  · cases h2; exact ec_cV (bm_X9_counted l) bw_X9_counted bv_X9_counted (by decide) (by decide) (Or.inl ba_X9_spares.2.2.2.2.2.1) (T := TX9) (N := 10) rfl (by decide) bp_X9_counted
  · cases h2
theorem bj_X9_spares (l : Launch) : ex_ok l 2 43 bx_X9_spares := ec_okp fo_X9 co_X9 so_X9 (bk_X9_spares l)
theorem bm_X9_spares (l : Launch) : ex_Met l yX9_spares cX9_spares 3 (some .int) 2 43 (ab_sp ab_hd bc_X9_spares) := ab_met (by decide) pn_RX9 rfl (bj_X9_spares l) bd_X9_spares ab_hcm ab_xk bz_X9_spares
theorem ba_X9_repair : ec_al [(616, Cond.code yX9_repair cX9_repair 4 (some .int)), (58, Cond.initialized yX9_repair.cls), (614, Cond.instanceMethod yX9_repair), (615, Cond.selects yX9_repair.cls yX9_repair yX9_repair), (617, Cond.methodLink RX9 131 yX8_mend), (424, Cond.methodLink RX9 64 yX9_counted)] := ec_alk (by decide +kernel)
theorem bw_X9_repair : ec_cw yX9_repair cX9_repair 4 (some .int) := ⟨ba_X9_repair.1, ba_X9_repair.2.1, nc_RX9⟩
theorem bv_X9_repair : Cond.instanceMethod yX9_repair ∈ ec_tb ∧ Cond.selects yX9_repair.cls yX9_repair yX9_repair ∈ ec_tb := ⟨ba_X9_repair.2.2.1, ba_X9_repair.2.2.2.1⟩
theorem bp_X9_repair : (parseMethodDescriptor yX9_repair.desc).map (fun d => d.parameters.length) = some 3 := by decide +kernel
theorem bk_X9_repair (l : Launch) : ∀ (ix n : Nat) (rc : Option Nat) (sp : ex_S), (be_X9_repair ix).map (fun q => (q.1, q.2.1, ab_sp ab_hd q.2.2)) = some (n, rc, sp) → ex_cok l RX9 2 47 ix n rc sp := by
  intro ix n rc sp h
  obtain ⟨l0, h2, rfl⟩ := ab_dmk h
  clear h
  unfold be_X9_repair at h2
  split at h2
  · cases h2; exact ec_cV (bm_X8_mend l) bw_X8_mend bv_X8_mend (by decide) (by decide) (Or.inl ba_X9_repair.2.2.2.2.1) (T := TX8) (N := 7) rfl (by decide) bp_X8_mend
  · cases h2; exact ec_cV (bm_X9_counted l) bw_X9_counted bv_X9_counted (by decide) (by decide) (Or.inl ba_X9_repair.2.2.2.2.2.1) (T := TX9) (N := 10) rfl (by decide) bp_X9_counted
  · cases h2
theorem bj_X9_repair (l : Launch) : ex_ok l 2 47 bx_X9_repair := ec_okp fo_X9 co_X9 so_X9 (bk_X9_repair l)
theorem bm_X9_repair (l : Launch) : ex_Met l yX9_repair cX9_repair 4 (some .int) 2 47 (ab_sp ab_hd bc_X9_repair) := ab_met (by decide) pn_RX9 rfl (bj_X9_repair l) bd_X9_repair ab_hcm ab_xk bz_X9_repair
theorem ba_X9_shed : ec_al [(634, Cond.code yX9_shed cX9_shed 3 (some .int)), (58, Cond.initialized yX9_shed.cls), (632, Cond.instanceMethod yX9_shed), (633, Cond.selects yX9_shed.cls yX9_shed yX9_shed), (635, Cond.methodLink RX9 134 yX6_shedding), (424, Cond.methodLink RX9 64 yX9_counted)] := ec_alk (by decide +kernel)
theorem bw_X9_shed : ec_cw yX9_shed cX9_shed 3 (some .int) := ⟨ba_X9_shed.1, ba_X9_shed.2.1, nc_RX9⟩
theorem bv_X9_shed : Cond.instanceMethod yX9_shed ∈ ec_tb ∧ Cond.selects yX9_shed.cls yX9_shed yX9_shed ∈ ec_tb := ⟨ba_X9_shed.2.2.1, ba_X9_shed.2.2.2.1⟩
theorem bp_X9_shed : (parseMethodDescriptor yX9_shed.desc).map (fun d => d.parameters.length) = some 2 := by decide +kernel
theorem bk_X9_shed (l : Launch) : ∀ (ix n : Nat) (rc : Option Nat) (sp : ex_S), (be_X9_shed ix).map (fun q => (q.1, q.2.1, ab_sp ab_hd q.2.2)) = some (n, rc, sp) → ex_cok l RX9 4 92 ix n rc sp := by
  intro ix n rc sp h
  obtain ⟨l0, h2, rfl⟩ := ab_dmk h
  clear h
  unfold be_X9_shed at h2
  split at h2
  · cases h2; exact ec_cV (bm_X6_shedding l) bw_X6_shedding bv_X6_shedding (by decide) (by decide) (Or.inl ba_X9_shed.2.2.2.2.1) (T := TX6) (N := 15) rfl (by decide) bp_X6_shedding
  · cases h2; exact ec_cV (bm_X9_counted l) bw_X9_counted bv_X9_counted (by decide) (by decide) (Or.inl ba_X9_shed.2.2.2.2.2.1) (T := TX9) (N := 10) rfl (by decide) bp_X9_counted
  · cases h2
theorem bj_X9_shed (l : Launch) : ex_ok l 4 92 bx_X9_shed := ec_okp fo_X9 co_X9 so_X9 (bk_X9_shed l)
theorem bm_X9_shed (l : Launch) : ex_Met l yX9_shed cX9_shed 3 (some .int) 4 92 (ab_sp ab_hd bc_X9_shed) := ab_met (by decide) pn_RX9 rfl (bj_X9_shed l) bd_X9_shed ab_hcm ab_xk bz_X9_shed
theorem ba_X9_sun : ec_al [(664, Cond.code yX9_sun cX9_sun 3 (some .int)), (58, Cond.initialized yX9_sun.cls), (662, Cond.instanceMethod yX9_sun), (663, Cond.selects yX9_sun.cls yX9_sun yX9_sun), (665, Cond.methodLink RX9 137 yX6_setSun), (424, Cond.methodLink RX9 64 yX9_counted)] := ec_alk (by decide +kernel)
theorem bw_X9_sun : ec_cw yX9_sun cX9_sun 3 (some .int) := ⟨ba_X9_sun.1, ba_X9_sun.2.1, nc_RX9⟩
theorem bv_X9_sun : Cond.instanceMethod yX9_sun ∈ ec_tb ∧ Cond.selects yX9_sun.cls yX9_sun yX9_sun ∈ ec_tb := ⟨ba_X9_sun.2.2.1, ba_X9_sun.2.2.2.1⟩
theorem bp_X9_sun : (parseMethodDescriptor yX9_sun.desc).map (fun d => d.parameters.length) = some 2 := by decide +kernel
theorem bk_X9_sun (l : Launch) : ∀ (ix n : Nat) (rc : Option Nat) (sp : ex_S), (be_X9_sun ix).map (fun q => (q.1, q.2.1, ab_sp ab_hd q.2.2)) = some (n, rc, sp) → ex_cok l RX9 2 43 ix n rc sp := by
  intro ix n rc sp h
  obtain ⟨l0, h2, rfl⟩ := ab_dmk h
  clear h
  unfold be_X9_sun at h2
  split at h2
  · cases h2; exact ec_cV (bm_X6_setSun l) bw_X6_setSun bv_X6_setSun (by decide) (by decide) (Or.inl ba_X9_sun.2.2.2.2.1) (T := TX6) (N := 15) rfl (by decide) bp_X6_setSun
  · cases h2; exact ec_cV (bm_X9_counted l) bw_X9_counted bv_X9_counted (by decide) (by decide) (Or.inl ba_X9_sun.2.2.2.2.2.1) (T := TX9) (N := 10) rfl (by decide) bp_X9_counted
  · cases h2
theorem bj_X9_sun (l : Launch) : ex_ok l 2 43 bx_X9_sun := ec_okp fo_X9 co_X9 so_X9 (bk_X9_sun l)
theorem bm_X9_sun (l : Launch) : ex_Met l yX9_sun cX9_sun 3 (some .int) 2 43 (ab_sp ab_hd bc_X9_sun) := ab_met (by decide) pn_RX9 rfl (bj_X9_sun l) bd_X9_sun ab_hcm ab_xk bz_X9_sun
theorem ba_X9_battery : ec_al [(675, Cond.code yX9_battery cX9_battery 2 (some .int)), (58, Cond.initialized yX9_battery.cls), (673, Cond.instanceMethod yX9_battery), (674, Cond.selects yX9_battery.cls yX9_battery yX9_battery), (676, Cond.methodLink RX9 140 yX6_setBattery), (424, Cond.methodLink RX9 64 yX9_counted)] := ec_alk (by decide +kernel)
theorem bw_X9_battery : ec_cw yX9_battery cX9_battery 2 (some .int) := ⟨ba_X9_battery.1, ba_X9_battery.2.1, nc_RX9⟩
theorem bv_X9_battery : Cond.instanceMethod yX9_battery ∈ ec_tb ∧ Cond.selects yX9_battery.cls yX9_battery yX9_battery ∈ ec_tb := ⟨ba_X9_battery.2.2.1, ba_X9_battery.2.2.2.1⟩
theorem bp_X9_battery : (parseMethodDescriptor yX9_battery.desc).map (fun d => d.parameters.length) = some 1 := by decide +kernel
theorem bk_X9_battery (l : Launch) : ∀ (ix n : Nat) (rc : Option Nat) (sp : ex_S), (be_X9_battery ix).map (fun q => (q.1, q.2.1, ab_sp ab_hd q.2.2)) = some (n, rc, sp) → ex_cok l RX9 1 22 ix n rc sp := by
  intro ix n rc sp h
  obtain ⟨l0, h2, rfl⟩ := ab_dmk h
  clear h
  unfold be_X9_battery at h2
  split at h2
  · cases h2; exact ec_cV (bm_X6_setBattery l) bw_X6_setBattery bv_X6_setBattery (by decide) (by decide) (Or.inl ba_X9_battery.2.2.2.2.1) (T := TX6) (N := 15) rfl (by decide) bp_X6_setBattery
  · cases h2; exact ec_cV (bm_X9_counted l) bw_X9_counted bv_X9_counted (by decide) (by decide) (Or.inl ba_X9_battery.2.2.2.2.2.1) (T := TX9) (N := 10) rfl (by decide) bp_X9_counted
  · cases h2
theorem bj_X9_battery (l : Launch) : ex_ok l 1 22 bx_X9_battery := ec_okp fo_X9 co_X9 so_X9 (bk_X9_battery l)
theorem bm_X9_battery (l : Launch) : ex_Met l yX9_battery cX9_battery 2 (some .int) 1 22 (ab_sp ab_hd bc_X9_battery) := ab_met (by decide) pn_RX9 rfl (bj_X9_battery l) bd_X9_battery ab_hcm ab_xk bz_X9_battery
theorem ba_X9_bounds : ec_al [(683, Cond.code yX9_bounds cX9_bounds 4 (some .int)), (58, Cond.initialized yX9_bounds.cls), (681, Cond.instanceMethod yX9_bounds), (682, Cond.selects yX9_bounds.cls yX9_bounds yX9_bounds), (684, Cond.methodLink RX9 147 yX1_setAll), (424, Cond.methodLink RX9 64 yX9_counted)] := ec_alk (by decide +kernel)
theorem bw_X9_bounds : ec_cw yX9_bounds cX9_bounds 4 (some .int) := ⟨ba_X9_bounds.1, ba_X9_bounds.2.1, nc_RX9⟩
theorem bv_X9_bounds : Cond.instanceMethod yX9_bounds ∈ ec_tb ∧ Cond.selects yX9_bounds.cls yX9_bounds yX9_bounds ∈ ec_tb := ⟨ba_X9_bounds.2.2.1, ba_X9_bounds.2.2.2.1⟩
theorem bp_X9_bounds : (parseMethodDescriptor yX9_bounds.desc).map (fun d => d.parameters.length) = some 3 := by decide +kernel
theorem bk_X9_bounds (l : Launch) : ∀ (ix n : Nat) (rc : Option Nat) (sp : ex_S), (be_X9_bounds ix).map (fun q => (q.1, q.2.1, ab_sp ab_hd q.2.2)) = some (n, rc, sp) → ex_cok l RX9 2 43 ix n rc sp := by
  intro ix n rc sp h
  obtain ⟨l0, h2, rfl⟩ := ab_dmk h
  clear h
  unfold be_X9_bounds at h2
  split at h2
  · cases h2; exact ec_cV (bm_X1_setAll l) bw_X1_setAll bv_X1_setAll (by decide) (by decide) (Or.inl ba_X9_bounds.2.2.2.2.1) (T := TX1) (N := 6) rfl (by decide) bp_X1_setAll
  · cases h2; exact ec_cV (bm_X9_counted l) bw_X9_counted bv_X9_counted (by decide) (by decide) (Or.inl ba_X9_bounds.2.2.2.2.2.1) (T := TX9) (N := 10) rfl (by decide) bp_X9_counted
  · cases h2
theorem bj_X9_bounds (l : Launch) : ex_ok l 2 43 bx_X9_bounds := ec_okp fo_X9 co_X9 so_X9 (bk_X9_bounds l)
theorem bm_X9_bounds (l : Launch) : ex_Met l yX9_bounds cX9_bounds 4 (some .int) 2 43 (ab_sp ab_hd bc_X9_bounds) := ab_met (by decide) pn_RX9 rfl (bj_X9_bounds l) bd_X9_bounds ab_hcm ab_xk bz_X9_bounds
theorem ba_X9_ticks : ec_al [(696, Cond.code yX9_ticks cX9_ticks 3 (some .int)), (58, Cond.initialized yX9_ticks.cls), (694, Cond.instanceMethod yX9_ticks), (695, Cond.selects yX9_ticks.cls yX9_ticks yX9_ticks), (424, Cond.methodLink RX9 64 yX9_counted), (698, Cond.methodLink RX9 156 yX8_passTick)] := ec_alk (by decide +kernel)
theorem bw_X9_ticks : ec_cw yX9_ticks cX9_ticks 3 (some .int) := ⟨ba_X9_ticks.1, ba_X9_ticks.2.1, nc_RX9⟩
theorem bv_X9_ticks : Cond.instanceMethod yX9_ticks ∈ ec_tb ∧ Cond.selects yX9_ticks.cls yX9_ticks yX9_ticks ∈ ec_tb := ⟨ba_X9_ticks.2.2.1, ba_X9_ticks.2.2.2.1⟩
theorem bp_X9_ticks : (parseMethodDescriptor yX9_ticks.desc).map (fun d => d.parameters.length) = some 1 := by decide +kernel
theorem bk_X9_ticks (l : Launch) : ∀ (ix n : Nat) (rc : Option Nat) (sp : ex_S), (be_X9_ticks ix).map (fun q => (q.1, q.2.1, ab_sp ab_hd q.2.2)) = some (n, rc, sp) → ex_cok l RX9 6 134 ix n rc sp := by
  intro ix n rc sp h
  obtain ⟨l0, h2, rfl⟩ := ab_dmk h
  clear h
  unfold be_X9_ticks at h2
  split at h2
  · cases h2; exact ec_cV (bm_X9_counted l) bw_X9_counted bv_X9_counted (by decide) (by decide) (Or.inl ba_X9_ticks.2.2.2.2.1) (T := TX9) (N := 10) rfl (by decide) bp_X9_counted
  · cases h2; exact ec_cV (bm_X8_passTick l) bw_X8_passTick bv_X8_passTick (by decide) (by decide) (Or.inl ba_X9_ticks.2.2.2.2.2.1) (T := TX8) (N := 7) rfl (by decide) bp_X8_passTick
  · cases h2
theorem bj_X9_ticks (l : Launch) : ex_ok l 6 134 bx_X9_ticks := ec_okp fo_X9 co_X9 so_X9 (bk_X9_ticks l)
theorem bm_X9_ticks (l : Launch) : ex_Met l yX9_ticks cX9_ticks 3 (some .int) 6 134 (ab_sp ab_hd bc_X9_ticks) := ab_met (by decide) pn_RX9 rfl (bj_X9_ticks l) bd_X9_ticks ab_hcm ab_xk bz_X9_ticks
theorem ba_X9_broke : ec_al [(854, Cond.code yX9_broke cX9_broke 2 (some .int)), (58, Cond.initialized yX9_broke.cls), (852, Cond.instanceMethod yX9_broke), (853, Cond.selects yX9_broke.cls yX9_broke yX9_broke), (855, Cond.methodLink RX9 160 yX1_tellFirstBreak), (424, Cond.methodLink RX9 64 yX9_counted)] := ec_alk (by decide +kernel)
theorem bw_X9_broke : ec_cw yX9_broke cX9_broke 2 (some .int) := ⟨ba_X9_broke.1, ba_X9_broke.2.1, nc_RX9⟩
theorem bv_X9_broke : Cond.instanceMethod yX9_broke ∈ ec_tb ∧ Cond.selects yX9_broke.cls yX9_broke yX9_broke ∈ ec_tb := ⟨ba_X9_broke.2.2.1, ba_X9_broke.2.2.2.1⟩
theorem bp_X9_broke : (parseMethodDescriptor yX9_broke.desc).map (fun d => d.parameters.length) = some 1 := by decide +kernel
theorem bk_X9_broke (l : Launch) : ∀ (ix n : Nat) (rc : Option Nat) (sp : ex_S), (be_X9_broke ix).map (fun q => (q.1, q.2.1, ab_sp ab_hd q.2.2)) = some (n, rc, sp) → ex_cok l RX9 1 21 ix n rc sp := by
  intro ix n rc sp h
  obtain ⟨l0, h2, rfl⟩ := ab_dmk h
  clear h
  unfold be_X9_broke at h2
  split at h2
  · cases h2; exact ec_cV (bm_X1_tellFirstBreak l) bw_X1_tellFirstBreak bv_X1_tellFirstBreak (by decide) (by decide) (Or.inl ba_X9_broke.2.2.2.2.1) (T := TX1) (N := 6) rfl (by decide) bp_X1_tellFirstBreak
  · cases h2; exact ec_cV (bm_X9_counted l) bw_X9_counted bv_X9_counted (by decide) (by decide) (Or.inl ba_X9_broke.2.2.2.2.2.1) (T := TX9) (N := 10) rfl (by decide) bp_X9_counted
  · cases h2
theorem bj_X9_broke (l : Launch) : ex_ok l 1 21 bx_X9_broke := ec_okp fo_X9 co_X9 so_X9 (bk_X9_broke l)
theorem bm_X9_broke (l : Launch) : ex_Met l yX9_broke cX9_broke 2 (some .int) 1 21 (ab_sp ab_hd bc_X9_broke) := ab_met (by decide) pn_RX9 rfl (bj_X9_broke l) bd_X9_broke ab_hcm ab_xk bz_X9_broke
theorem ba_X9_ahead : ec_al [(863, Cond.code yX9_ahead cX9_ahead 3 (some .int)), (58, Cond.initialized yX9_ahead.cls), (861, Cond.instanceMethod yX9_ahead), (862, Cond.selects yX9_ahead.cls yX9_ahead yX9_ahead), (424, Cond.methodLink RX9 64 yX9_counted), (864, Cond.methodLink RX9 163 yX8_becomeLike), (698, Cond.methodLink RX9 156 yX8_passTick)] := ec_alk (by decide +kernel)
theorem bw_X9_ahead : ec_cw yX9_ahead cX9_ahead 3 (some .int) := ⟨ba_X9_ahead.1, ba_X9_ahead.2.1, nc_RX9⟩
theorem bv_X9_ahead : Cond.instanceMethod yX9_ahead ∈ ec_tb ∧ Cond.selects yX9_ahead.cls yX9_ahead yX9_ahead ∈ ec_tb := ⟨ba_X9_ahead.2.2.1, ba_X9_ahead.2.2.2.1⟩
theorem bp_X9_ahead : (parseMethodDescriptor yX9_ahead.desc).map (fun d => d.parameters.length) = some 1 := by decide +kernel
theorem bk_X9_ahead (l : Launch) : ∀ (ix n : Nat) (rc : Option Nat) (sp : ex_S), (be_X9_ahead ix).map (fun q => (q.1, q.2.1, ab_sp ab_hd q.2.2)) = some (n, rc, sp) → ex_cok l RX9 6 134 ix n rc sp := by
  intro ix n rc sp h
  obtain ⟨l0, h2, rfl⟩ := ab_dmk h
  clear h
  unfold be_X9_ahead at h2
  split at h2
  · cases h2; exact ec_cV (bm_X9_counted l) bw_X9_counted bv_X9_counted (by decide) (by decide) (Or.inl ba_X9_ahead.2.2.2.2.1) (T := TX9) (N := 10) rfl (by decide) bp_X9_counted
  · cases h2; exact ec_cV (bm_X8_becomeLike l) bw_X8_becomeLike bv_X8_becomeLike (by decide) (by decide) (Or.inl ba_X9_ahead.2.2.2.2.2.1) (T := TX8) (N := 7) rfl (by decide) bp_X8_becomeLike
  · cases h2; exact ec_cV (bm_X8_passTick l) bw_X8_passTick bv_X8_passTick (by decide) (by decide) (Or.inl ba_X9_ahead.2.2.2.2.2.2.1) (T := TX8) (N := 7) rfl (by decide) bp_X8_passTick
  · cases h2
theorem bj_X9_ahead (l : Launch) : ex_ok l 6 134 bx_X9_ahead := ec_okp fo_X9 co_X9 so_X9 (bk_X9_ahead l)
theorem bm_X9_ahead (l : Launch) : ex_Met l yX9_ahead cX9_ahead 3 (some .int) 6 134 (ab_sp ab_hd bc_X9_ahead) := ab_met (by decide) pn_RX9 rfl (bj_X9_ahead l) bd_X9_ahead ab_hcm ab_xk bz_X9_ahead
theorem ba_X9_line : ec_al [(904, Cond.code yX9_line cX9_line 5 (some .int)), (58, Cond.initialized yX9_line.cls), (902, Cond.instanceMethod yX9_line), (903, Cond.selects yX9_line.cls yX9_line yX9_line), (424, Cond.methodLink RX9 64 yX9_counted), (906, Cond.methodLink RX9 178 yX7_addLine)] := ec_alk (by decide +kernel)
theorem bw_X9_line : ec_cw yX9_line cX9_line 5 (some .int) := ⟨ba_X9_line.1, ba_X9_line.2.1, nc_RX9⟩
theorem bv_X9_line : Cond.instanceMethod yX9_line ∈ ec_tb ∧ Cond.selects yX9_line.cls yX9_line yX9_line ∈ ec_tb := ⟨ba_X9_line.2.2.1, ba_X9_line.2.2.2.1⟩
theorem bp_X9_line : (parseMethodDescriptor yX9_line.desc).map (fun d => d.parameters.length) = some 4 := by decide +kernel
theorem bk_X9_line (l : Launch) : ∀ (ix n : Nat) (rc : Option Nat) (sp : ex_S), (be_X9_line ix).map (fun q => (q.1, q.2.1, ab_sp ab_hd q.2.2)) = some (n, rc, sp) → ex_cok l RX9 1 24 ix n rc sp := by
  intro ix n rc sp h
  obtain ⟨l0, h2, rfl⟩ := ab_dmk h
  clear h
  unfold be_X9_line at h2
  split at h2
  · cases h2; exact ec_cV (bm_X9_counted l) bw_X9_counted bv_X9_counted (by decide) (by decide) (Or.inl ba_X9_line.2.2.2.2.1) (T := TX9) (N := 10) rfl (by decide) bp_X9_counted
  · cases h2; exact ec_cV (bm_X7_addLine l) bw_X7_addLine bv_X7_addLine (by decide) (by decide) (Or.inl ba_X9_line.2.2.2.2.2.1) (T := TX7) (N := 5) rfl (by decide) bp_X7_addLine
  · cases h2
theorem bj_X9_line (l : Launch) : ex_ok l 1 24 bx_X9_line := ec_okp fo_X9 co_X9 so_X9 (bk_X9_line l)
theorem bm_X9_line (l : Launch) : ex_Met l yX9_line cX9_line 5 (some .int) 1 24 (ab_sp ab_hd bc_X9_line) := ab_met (by decide) pn_RX9 rfl (bj_X9_line l) bd_X9_line ab_hcm ab_xk bz_X9_line
theorem ba_X9_erase : ec_al [(914, Cond.code yX9_erase cX9_erase 2 (some .int)), (58, Cond.initialized yX9_erase.cls), (912, Cond.instanceMethod yX9_erase), (913, Cond.selects yX9_erase.cls yX9_erase yX9_erase), (424, Cond.methodLink RX9 64 yX9_counted)] := ec_alk (by decide +kernel)
theorem bw_X9_erase : ec_cw yX9_erase cX9_erase 2 (some .int) := ⟨ba_X9_erase.1, ba_X9_erase.2.1, nc_RX9⟩
theorem bv_X9_erase : Cond.instanceMethod yX9_erase ∈ ec_tb ∧ Cond.selects yX9_erase.cls yX9_erase yX9_erase ∈ ec_tb := ⟨ba_X9_erase.2.2.1, ba_X9_erase.2.2.2.1⟩
theorem bp_X9_erase : (parseMethodDescriptor yX9_erase.desc).map (fun d => d.parameters.length) = some 0 := by decide +kernel
theorem bk_X9_erase (l : Launch) : ∀ (ix n : Nat) (rc : Option Nat) (sp : ex_S), (be_X9_erase ix).map (fun q => (q.1, q.2.1, ab_sp ab_hd q.2.2)) = some (n, rc, sp) → ex_cok l RX9 1 21 ix n rc sp := by
  intro ix n rc sp h
  obtain ⟨l0, h2, rfl⟩ := ab_dmk h
  clear h
  unfold be_X9_erase at h2
  split at h2
  · cases h2; exact ec_cV (bm_X9_counted l) bw_X9_counted bv_X9_counted (by decide) (by decide) (Or.inl ba_X9_erase.2.2.2.2.1) (T := TX9) (N := 10) rfl (by decide) bp_X9_counted
  · cases h2
theorem bj_X9_erase (l : Launch) : ex_ok l 1 21 bx_X9_erase := ec_okp fo_X9 co_X9 so_X9 (bk_X9_erase l)
theorem bm_X9_erase (l : Launch) : ex_Met l yX9_erase cX9_erase 2 (some .int) 1 21 (ab_sp ab_hd bc_X9_erase) := ab_met (by decide) pn_RX9 rfl (bj_X9_erase l) bd_X9_erase ab_hcm ab_xk bz_X9_erase
theorem ba_X9_begin : ec_al [(918, Cond.code yX9_begin cX9_begin 1 (some .int)), (58, Cond.initialized yX9_begin.cls), (916, Cond.instanceMethod yX9_begin), (917, Cond.selects yX9_begin.cls yX9_begin yX9_begin), (424, Cond.methodLink RX9 64 yX9_counted), (919, Cond.methodLink RX9 184 yX2_start)] := ec_alk (by decide +kernel)
theorem bw_X9_begin : ec_cw yX9_begin cX9_begin 1 (some .int) := ⟨ba_X9_begin.1, ba_X9_begin.2.1, nc_RX9⟩
theorem bv_X9_begin : Cond.instanceMethod yX9_begin ∈ ec_tb ∧ Cond.selects yX9_begin.cls yX9_begin yX9_begin ∈ ec_tb := ⟨ba_X9_begin.2.2.1, ba_X9_begin.2.2.2.1⟩
theorem bp_X9_begin : (parseMethodDescriptor yX9_begin.desc).map (fun d => d.parameters.length) = some 0 := by decide +kernel
theorem bk_X9_begin (l : Launch) : ∀ (ix n : Nat) (rc : Option Nat) (sp : ex_S), (be_X9_begin ix).map (fun q => (q.1, q.2.1, ab_sp ab_hd q.2.2)) = some (n, rc, sp) → ex_cok l RX9 1 21 ix n rc sp := by
  intro ix n rc sp h
  obtain ⟨l0, h2, rfl⟩ := ab_dmk h
  clear h
  unfold be_X9_begin at h2
  split at h2
  · cases h2; exact ec_cV (bm_X9_counted l) bw_X9_counted bv_X9_counted (by decide) (by decide) (Or.inl ba_X9_begin.2.2.2.2.1) (T := TX9) (N := 10) rfl (by decide) bp_X9_counted
  · cases h2; exact ec_cV (bm_X2_start l) bw_X2_start bv_X2_start (by decide) (by decide) (Or.inl ba_X9_begin.2.2.2.2.2.1) (T := TX2) (N := 7) rfl (by decide) bp_X2_start
  · cases h2
theorem bj_X9_begin (l : Launch) : ex_ok l 1 21 bx_X9_begin := ec_okp fo_X9 co_X9 so_X9 (bk_X9_begin l)
theorem bm_X9_begin (l : Launch) : ex_Met l yX9_begin cX9_begin 1 (some .int) 1 21 (ab_sp ab_hd bc_X9_begin) := ab_met (by decide) pn_RX9 rfl (bj_X9_begin l) bd_X9_begin ab_hcm ab_xk bz_X9_begin
theorem ba_X9_halt : ec_al [(926, Cond.code yX9_halt cX9_halt 2 (some .int)), (58, Cond.initialized yX9_halt.cls), (924, Cond.instanceMethod yX9_halt), (925, Cond.selects yX9_halt.cls yX9_halt yX9_halt), (927, Cond.methodLink RX9 187 yX2_setHalted), (424, Cond.methodLink RX9 64 yX9_counted)] := ec_alk (by decide +kernel)
theorem bw_X9_halt : ec_cw yX9_halt cX9_halt 2 (some .int) := ⟨ba_X9_halt.1, ba_X9_halt.2.1, nc_RX9⟩
theorem bv_X9_halt : Cond.instanceMethod yX9_halt ∈ ec_tb ∧ Cond.selects yX9_halt.cls yX9_halt yX9_halt ∈ ec_tb := ⟨ba_X9_halt.2.2.1, ba_X9_halt.2.2.2.1⟩
theorem bp_X9_halt : (parseMethodDescriptor yX9_halt.desc).map (fun d => d.parameters.length) = some 1 := by decide +kernel
theorem bk_X9_halt (l : Launch) : ∀ (ix n : Nat) (rc : Option Nat) (sp : ex_S), (be_X9_halt ix).map (fun q => (q.1, q.2.1, ab_sp ab_hd q.2.2)) = some (n, rc, sp) → ex_cok l RX9 2 41 ix n rc sp := by
  intro ix n rc sp h
  obtain ⟨l0, h2, rfl⟩ := ab_dmk h
  clear h
  unfold be_X9_halt at h2
  split at h2
  · cases h2; exact ec_cV (bm_X2_setHalted l) bw_X2_setHalted bv_X2_setHalted (by decide) (by decide) (Or.inl ba_X9_halt.2.2.2.2.1) (T := TX2) (N := 7) rfl (by decide) bp_X2_setHalted
  · cases h2; exact ec_cV (bm_X9_counted l) bw_X9_counted bv_X9_counted (by decide) (by decide) (Or.inl ba_X9_halt.2.2.2.2.2.1) (T := TX9) (N := 10) rfl (by decide) bp_X9_counted
  · cases h2
theorem bj_X9_halt (l : Launch) : ex_ok l 2 41 bx_X9_halt := ec_okp fo_X9 co_X9 so_X9 (bk_X9_halt l)
theorem bm_X9_halt (l : Launch) : ex_Met l yX9_halt cX9_halt 2 (some .int) 2 41 (ab_sp ab_hd bc_X9_halt) := ab_met (by decide) pn_RX9 rfl (bj_X9_halt l) bd_X9_halt ab_hcm ab_xk bz_X9_halt
theorem ba_X9_abort : ec_al [(937, Cond.code yX9_abort cX9_abort 1 (some .int)), (58, Cond.initialized yX9_abort.cls), (935, Cond.instanceMethod yX9_abort), (936, Cond.selects yX9_abort.cls yX9_abort yX9_abort), (424, Cond.methodLink RX9 64 yX9_counted), (938, Cond.methodLink RX9 190 yX2_giveUp), (939, Cond.methodLink RX9 193 yX9_one)] := ec_alk (by decide +kernel)
theorem bw_X9_abort : ec_cw yX9_abort cX9_abort 1 (some .int) := ⟨ba_X9_abort.1, ba_X9_abort.2.1, nc_RX9⟩
theorem bv_X9_abort : Cond.instanceMethod yX9_abort ∈ ec_tb ∧ Cond.selects yX9_abort.cls yX9_abort yX9_abort ∈ ec_tb := ⟨ba_X9_abort.2.2.1, ba_X9_abort.2.2.2.1⟩
theorem bp_X9_abort : (parseMethodDescriptor yX9_abort.desc).map (fun d => d.parameters.length) = some 0 := by decide +kernel
theorem bk_X9_abort (l : Launch) : ∀ (ix n : Nat) (rc : Option Nat) (sp : ex_S), (be_X9_abort ix).map (fun q => (q.1, q.2.1, ab_sp ab_hd q.2.2)) = some (n, rc, sp) → ex_cok l RX9 2 41 ix n rc sp := by
  intro ix n rc sp h
  obtain ⟨l0, h2, rfl⟩ := ab_dmk h
  clear h
  unfold be_X9_abort at h2
  split at h2
  · cases h2; exact ec_cV (bm_X9_counted l) bw_X9_counted bv_X9_counted (by decide) (by decide) (Or.inl ba_X9_abort.2.2.2.2.1) (T := TX9) (N := 10) rfl (by decide) bp_X9_counted
  · cases h2; exact ec_cV (bm_X2_giveUp l) bw_X2_giveUp bv_X2_giveUp (by decide) (by decide) (Or.inl ba_X9_abort.2.2.2.2.2.1) (T := TX2) (N := 7) rfl (by decide) bp_X2_giveUp
  · cases h2; exact ec_cS (bm_X9_one l) bw_X9_one bv_X9_one (by decide) (by decide) (Or.inl ba_X9_abort.2.2.2.2.2.2.1) bp_X9_one
  · cases h2
theorem bj_X9_abort (l : Launch) : ex_ok l 2 41 bx_X9_abort := ec_okp fo_X9 co_X9 so_X9 (bk_X9_abort l)
theorem bm_X9_abort (l : Launch) : ex_Met l yX9_abort cX9_abort 1 (some .int) 2 41 (ab_sp ab_hd bc_X9_abort) := ab_met (by decide) pn_RX9 rfl (bj_X9_abort l) bd_X9_abort ab_hcm ab_xk bz_X9_abort
theorem ba_X9_text : ec_al [(943, Cond.code yX9_text cX9_text 2 (some .int)), (58, Cond.initialized yX9_text.cls), (941, Cond.instanceMethod yX9_text), (942, Cond.selects yX9_text.cls yX9_text yX9_text), (944, Cond.methodLink RX9 197 yX2_tellOf), (424, Cond.methodLink RX9 64 yX9_counted)] := ec_alk (by decide +kernel)
theorem bw_X9_text : ec_cw yX9_text cX9_text 2 (some .int) := ⟨ba_X9_text.1, ba_X9_text.2.1, nc_RX9⟩
theorem bv_X9_text : Cond.instanceMethod yX9_text ∈ ec_tb ∧ Cond.selects yX9_text.cls yX9_text yX9_text ∈ ec_tb := ⟨ba_X9_text.2.2.1, ba_X9_text.2.2.2.1⟩
theorem bp_X9_text : (parseMethodDescriptor yX9_text.desc).map (fun d => d.parameters.length) = some 1 := by decide +kernel
theorem bk_X9_text (l : Launch) : ∀ (ix n : Nat) (rc : Option Nat) (sp : ex_S), (be_X9_text ix).map (fun q => (q.1, q.2.1, ab_sp ab_hd q.2.2)) = some (n, rc, sp) → ex_cok l RX9 2 41 ix n rc sp := by
  intro ix n rc sp h
  obtain ⟨l0, h2, rfl⟩ := ab_dmk h
  clear h
  unfold be_X9_text at h2
  split at h2
  · cases h2; exact ec_cV (bm_X2_tellOf l) bw_X2_tellOf bv_X2_tellOf (by decide) (by decide) (Or.inl ba_X9_text.2.2.2.2.1) (T := TX2) (N := 7) rfl (by decide) bp_X2_tellOf
  · cases h2; exact ec_cV (bm_X9_counted l) bw_X9_counted bv_X9_counted (by decide) (by decide) (Or.inl ba_X9_text.2.2.2.2.2.1) (T := TX9) (N := 10) rfl (by decide) bp_X9_counted
  · cases h2
theorem bj_X9_text (l : Launch) : ex_ok l 2 41 bx_X9_text := ec_okp fo_X9 co_X9 so_X9 (bk_X9_text l)
theorem bm_X9_text (l : Launch) : ex_Met l yX9_text cX9_text 2 (some .int) 2 41 (ab_sp ab_hd bc_X9_text) := ab_met (by decide) pn_RX9 rfl (bj_X9_text l) bd_X9_text ab_hcm ab_xk bz_X9_text
theorem ba_X9_hunt : ec_al [(952, Cond.code yX9_hunt cX9_hunt 1 (some .int)), (58, Cond.initialized yX9_hunt.cls), (950, Cond.instanceMethod yX9_hunt), (951, Cond.selects yX9_hunt.cls yX9_hunt yX9_hunt), (953, Cond.methodLink RX9 199 yX4_startOver)] := ec_alk (by decide +kernel)
theorem bw_X9_hunt : ec_cw yX9_hunt cX9_hunt 1 (some .int) := ⟨ba_X9_hunt.1, ba_X9_hunt.2.1, nc_RX9⟩
theorem bv_X9_hunt : Cond.instanceMethod yX9_hunt ∈ ec_tb ∧ Cond.selects yX9_hunt.cls yX9_hunt yX9_hunt ∈ ec_tb := ⟨ba_X9_hunt.2.2.1, ba_X9_hunt.2.2.2.1⟩
theorem bp_X9_hunt : (parseMethodDescriptor yX9_hunt.desc).map (fun d => d.parameters.length) = some 0 := by decide +kernel
theorem bk_X9_hunt (l : Launch) : ∀ (ix n : Nat) (rc : Option Nat) (sp : ex_S), (be_X9_hunt ix).map (fun q => (q.1, q.2.1, ab_sp ab_hd q.2.2)) = some (n, rc, sp) → ex_cok l RX9 1 21 ix n rc sp := by
  intro ix n rc sp h
  obtain ⟨l0, h2, rfl⟩ := ab_dmk h
  clear h
  unfold be_X9_hunt at h2
  split at h2
  · cases h2; exact ec_cV (bm_X4_startOver l) bw_X4_startOver bv_X4_startOver (by decide) (by decide) (Or.inl ba_X9_hunt.2.2.2.2.1) (T := TX4) (N := 2) rfl (by decide) bp_X4_startOver
  · cases h2
theorem bj_X9_hunt (l : Launch) : ex_ok l 1 21 bx_X9_hunt := ec_okp fo_X9 co_X9 so_X9 (bk_X9_hunt l)
theorem bm_X9_hunt (l : Launch) : ex_Met l yX9_hunt cX9_hunt 1 (some .int) 1 21 (ab_sp ab_hd bc_X9_hunt) := ab_met (by decide) pn_RX9 rfl (bj_X9_hunt l) bd_X9_hunt ab_hcm ab_xk bz_X9_hunt
theorem ba_X9_test : ec_al [(960, Cond.code yX9_test cX9_test 3 (some .int)), (58, Cond.initialized yX9_test.cls), (958, Cond.instanceMethod yX9_test), (959, Cond.selects yX9_test.cls yX9_test yX9_test), (961, Cond.methodLink RX9 203 yX4_narrow), (424, Cond.methodLink RX9 64 yX9_counted)] := ec_alk (by decide +kernel)
theorem bw_X9_test : ec_cw yX9_test cX9_test 3 (some .int) := ⟨ba_X9_test.1, ba_X9_test.2.1, nc_RX9⟩
theorem bv_X9_test : Cond.instanceMethod yX9_test ∈ ec_tb ∧ Cond.selects yX9_test.cls yX9_test yX9_test ∈ ec_tb := ⟨ba_X9_test.2.2.1, ba_X9_test.2.2.2.1⟩
theorem bp_X9_test : (parseMethodDescriptor yX9_test.desc).map (fun d => d.parameters.length) = some 2 := by decide +kernel
theorem bk_X9_test (l : Launch) : ∀ (ix n : Nat) (rc : Option Nat) (sp : ex_S), (be_X9_test ix).map (fun q => (q.1, q.2.1, ab_sp ab_hd q.2.2)) = some (n, rc, sp) → ex_cok l RX9 3 70 ix n rc sp := by
  intro ix n rc sp h
  obtain ⟨l0, h2, rfl⟩ := ab_dmk h
  clear h
  unfold be_X9_test at h2
  split at h2
  · cases h2; exact ec_cV (bm_X4_narrow l) bw_X4_narrow bv_X4_narrow (by decide) (by decide) (Or.inl ba_X9_test.2.2.2.2.1) (T := TX4) (N := 2) rfl (by decide) bp_X4_narrow
  · cases h2; exact ec_cV (bm_X9_counted l) bw_X9_counted bv_X9_counted (by decide) (by decide) (Or.inl ba_X9_test.2.2.2.2.2.1) (T := TX9) (N := 10) rfl (by decide) bp_X9_counted
  · cases h2
theorem bj_X9_test (l : Launch) : ex_ok l 3 70 bx_X9_test := ec_okp fo_X9 co_X9 so_X9 (bk_X9_test l)
theorem dX9_test_0 : decode cX9_test 0 = .ok (.aload_n 0, 1) := by decide +kernel
theorem dX9_test_1 : decode cX9_test 1 = .ok (.aload_n 0, 1) := by decide +kernel
theorem dX9_test_2 : decode cX9_test 2 = .ok (.getfield 31, 3) := by decide +kernel
theorem dX9_test_5 : decode cX9_test 5 = .ok (.aload_n 0, 1) := by decide +kernel
theorem dX9_test_6 : decode cX9_test 6 = .ok (.getfield 21, 3) := by decide +kernel
theorem dX9_test_9 : decode cX9_test 9 = .ok (.getfield 54, 3) := by decide +kernel
theorem dX9_test_12 : decode cX9_test 12 = .ok (.iload_n 1, 1) := by decide +kernel
theorem dX9_test_13 : decode cX9_test 13 = .ok (.iload_n 2, 1) := by decide +kernel
theorem dX9_test_14 : decode cX9_test 14 = .ok (.invokevirtual 203, 3) := by decide +kernel
theorem dX9_test_17 : decode cX9_test 17 = .ok (.invokevirtual 64, 3) := by decide +kernel
theorem dX9_test_20 : decode cX9_test 20 = .ok (.ireturn, 1) := by decide +kernel
set_option maxRecDepth 100000 in
set_option maxHeartbeats 4000000 in
theorem te_w0 {cs : ex_C} {Q : ex_Q} {I : Nat → Option (ex_L → ex_V → ex_C → Prop)} {c m : Int32} (hI : ∀ pc, I pc = none) (hk1 : ab_hk ab_hd cs) (hQ : ∀ (x : Int32) cs', ab_hk ab_hd cs' → ab_fr [(64, some 1), (65, none), (75, none)] cs cs' → x.toInt = hu_t (gi cs 7 6) (gi cs 7 7) (gi cs 64 1) c m (hu_P (gi cs 7) (gi cs 10) (gi cs 11) (gi cs 65) c m) → (gi cs' 64 1).toInt = hu_s (gi cs 7 6) (gi cs 7 7) (gi cs 64 1) c m (hu_P (gi cs 7) (gi cs 10) (gi cs 11) (gi cs 65) c m) → Q (some (.int x)) cs') : ex_wp ec_xt bx_X9_test cX9_test (some .int) I Q 60 0 [some (.ref 0), some (.int c), some (.int m)] [] cs := by
  obtain ⟨gs, h64, -⟩ := hu_hun hk1
  obtain ⟨ts, h0, -, hj0⟩ := hk1.obj (a := 0) (ci := 9) rfl
  have t3 : ts[3]? = some (.ref 64) := by
    obtain ⟨v, hv, hc⟩ := hj0 3 (.inl 64) rfl
    cases hc
    exact hv
  have t1 : ts[1]? = some (.ref 6) := by
    obtain ⟨v, hv, hc⟩ := hj0 1 (.inl 6) rfl
    cases hc
    exact hv
  obtain ⟨ws, h6, -, hj6⟩ := hk1.obj (a := 6) (ci := 8) rfl
  have w1 : ws[1]? = some (.ref 7) := by
    obtain ⟨v, hv, hc⟩ := hj6 1 (.inl 7) rfl
    cases hc
    exact hv
  refine wq_aload_n dX9_test_0 rfl rfl ?_
  refine go_wp (hI _) (wq_aload_n dX9_test_1 rfl rfl ?_)
  refine go_wp (hI _) (wq_getfield dX9_test_2 fe_X9_31 h0 t3 rfl ?_)
  refine go_wp (hI _) (wq_aload_n dX9_test_5 rfl rfl ?_)
  refine go_wp (hI _) (wq_getfield dX9_test_6 fe_X9_21 h0 t1 rfl ?_)
  refine go_wp (hI _) (wq_getfield dX9_test_9 fe_X9_54 h6 w1 rfl ?_)
  refine go_wp (hI _) (wq_iload_n dX9_test_12 rfl rfl ?_)
  refine go_wp (hI _) (wq_iload_n dX9_test_13 rfl rfl ?_)
  refine go_wp (hI _) (wq_virtual (q := 4) (ci := 4) (a := 64) (av := [.ref 64, .ref 7, .int c, .int m]) (r := [.ref 0]) dX9_test_14 rfl (Nat.le_of_ble_eq_true rfl) rfl rfl rfl (Nat.le_of_ble_eq_true rfl) h64 rfl (hx_call 0 (c := ([.inl 64, .inl 7, .inr ((-2147483648), 2147483647), .inr ((-2147483648), 2147483647)], [], [(64, some 1), (65, none)], [(some ((-2147483648), 2147483647, some (900000004, 0)), [], [((1, 64, 1), (-2147483648), 2147483647, some (900000005, 0))])])) rfl (hx_pr4 hx_cr hx_cr (hx_ci (hx_tb _)) (hx_ci (hx_tb _))) hk1 (fun r cs1 hp => ?_)))
  obtain ⟨hk1, hf1, x, rfl, hx, hn1⟩ := hu_int hp
  refine ret_int ?_
  rw [hg_4] at hx
  have hs1 := hu_q hn1 0 rfl
  rw [hg_5] at hs1
  obtain ⟨ts1, h0b, -, -⟩ := hk1.obj (a := 0) (ci := 9) rfl
  refine go_wp (hI _) (wq_virtual (q := 2) (ci := 9) (a := 0) (av := [.ref 0, .int x]) (r := []) dX9_test_17 rfl (Nat.le_of_ble_eq_true rfl) rfl rfl rfl (Nat.le_of_ble_eq_true rfl) h0b rfl (hx_call 11 (c := ([.inl 0, .inr ((-2147483648), 2147483647)], [], [(75, none)], [(some ((-2147483648), 2147483647, some (1, 0)), [], [])])) rfl (hx_pr2 hx_cr (hx_ci (hx_tb _))) hk1 (fun r cs2 hp => ?_)))
  obtain ⟨hk2, hf2, y, rfl, hy, -⟩ := hu_int hp
  refine ret_int ?_
  rw [hx_op (x := x) (by decide) rfl] at hy
  refine go_wp (hI _) (wq_ireturn dX9_test_20 trivial (hQ _ _ hk2 ((hf1.sub (by decide)).tr (hf2.sub (by decide))) (hy.trans hx) ((congrArg Int32.toInt (gi_f1 hf2 rfl)).trans hs1)))
set_option maxRecDepth 100000 in
theorem bm_X9_test (l : Launch) : ex_Met l yX9_test cX9_test 3 (some .int) 3 70 (ab_sp ab_hd bc_X9_test) := by
  intro D ad ca n sz av cs Q h
  refine ex_lmet (by decide) rfl (bj_X9_test l) D ad ca n sz av cs Q ?_
  obtain ⟨c0, hc0, ⟨hp1, hp2, -⟩, hk, hQ⟩ := h
  have hc' : c0 = ([.inl 0, .inr (-2147483648, 2147483647), .inr (-2147483648, 2147483647)], [], [(64, some 1), (65, none), (75, none)], [(some (-2147483648, 2147483647, some (900000000, 0)), [], [((1, 64, 1), -2147483648, 2147483647, some (900000001, 0))])]) := by
    unfold bc_X9_test bq_X9_test at hc0
    simpa using hc0
  subst hc'
  obtain ⟨v0, e0, pz0⟩ := hp2 0 _ rfl
  obtain ⟨v1, e1, c, rfl, c1, c2⟩ := hp2 1 _ rfl
  obtain ⟨v2, e2, m, rfl, m1, m2⟩ := hp2 2 _ rfl
  cases pz0
  have hav : av = [.ref 0, .int c, .int m] := hx_av3 hp1 e0 e1 e2
  subst hav
  refine sl_in 60 (fun _ => none) rfl (Nat.le_of_ble_eq_true rfl) rfl (te_w0 (fun _ => rfl) hk (fun x cs' hk' hf' hx hs => ?_)) (fun pc J n lv st cs' hI hJ => (by cases hI))
  refine hQ _ _ ⟨hk', hf', _, List.mem_cons_self, ⟨x, rfl, hx_tb x, fun d hd => ?_⟩, fun q hq => (by cases hq), fun q hq => ?_⟩
  · cases hd
    rw [hg_0, hx]
    show _ = _ + (0 : Int)
    omega
  · rcases List.mem_singleton.mp hq with rfl
    exact hu_ff (hu_r64 hk') (by rw [hg_1]; exact hs)
theorem ba_X9_best : ec_al [(979, Cond.code yX9_best cX9_best 2 (some .int)), (58, Cond.initialized yX9_best.cls), (977, Cond.instanceMethod yX9_best), (978, Cond.selects yX9_best.cls yX9_best yX9_best), (980, Cond.methodLink RX9 207 yX4_bestTest), (424, Cond.methodLink RX9 64 yX9_counted)] := ec_alk (by decide +kernel)
theorem bw_X9_best : ec_cw yX9_best cX9_best 2 (some .int) := ⟨ba_X9_best.1, ba_X9_best.2.1, nc_RX9⟩
theorem bv_X9_best : Cond.instanceMethod yX9_best ∈ ec_tb ∧ Cond.selects yX9_best.cls yX9_best yX9_best ∈ ec_tb := ⟨ba_X9_best.2.2.1, ba_X9_best.2.2.2.1⟩
theorem bp_X9_best : (parseMethodDescriptor yX9_best.desc).map (fun d => d.parameters.length) = some 1 := by decide +kernel
theorem bk_X9_best (l : Launch) : ∀ (ix n : Nat) (rc : Option Nat) (sp : ex_S), (be_X9_best ix).map (fun q => (q.1, q.2.1, ab_sp ab_hd q.2.2)) = some (n, rc, sp) → ex_cok l RX9 4 98 ix n rc sp := by
  intro ix n rc sp h
  obtain ⟨l0, h2, rfl⟩ := ab_dmk h
  clear h
  unfold be_X9_best at h2
  split at h2
  · cases h2; exact ec_cV (bm_X4_bestTest l) bw_X4_bestTest bv_X4_bestTest (by decide) (by decide) (Or.inl ba_X9_best.2.2.2.2.1) (T := TX4) (N := 2) rfl (by decide) bp_X4_bestTest
  · cases h2; exact ec_cV (bm_X9_counted l) bw_X9_counted bv_X9_counted (by decide) (by decide) (Or.inl ba_X9_best.2.2.2.2.2.1) (T := TX9) (N := 10) rfl (by decide) bp_X9_counted
  · cases h2
theorem bj_X9_best (l : Launch) : ex_ok l 4 98 bx_X9_best := ec_okp fo_X9 co_X9 so_X9 (bk_X9_best l)
theorem bm_X9_best (l : Launch) : ex_Met l yX9_best cX9_best 2 (some .int) 4 98 (ab_sp ab_hd bc_X9_best) := ab_met (by decide) pn_RX9 rfl (bj_X9_best l) bd_X9_best ab_hcm ab_xk bz_X9_best
theorem ba_X9_suspects : ec_al [(995, Cond.code yX9_suspects cX9_suspects 1 (some .int)), (58, Cond.initialized yX9_suspects.cls), (993, Cond.instanceMethod yX9_suspects), (994, Cond.selects yX9_suspects.cls yX9_suspects yX9_suspects)] := ec_alk (by decide +kernel)
theorem bw_X9_suspects : ec_cw yX9_suspects cX9_suspects 1 (some .int) := ⟨ba_X9_suspects.1, ba_X9_suspects.2.1, nc_RX9⟩
theorem bv_X9_suspects : Cond.instanceMethod yX9_suspects ∈ ec_tb ∧ Cond.selects yX9_suspects.cls yX9_suspects yX9_suspects ∈ ec_tb := ⟨ba_X9_suspects.2.2.1, ba_X9_suspects.2.2.2.1⟩
theorem bp_X9_suspects : (parseMethodDescriptor yX9_suspects.desc).map (fun d => d.parameters.length) = some 0 := by decide +kernel
theorem bj_X9_suspects (l : Launch) : ex_ok l 0 0 bx_X9_suspects := ec_okp fo_X9 co_X9 so_X9 (ec_okn)
theorem bm_X9_suspects (l : Launch) : ex_Met l yX9_suspects cX9_suspects 1 (some .int) 0 0 (ab_sp ab_hd bc_X9_suspects) := ab_met (by decide) pn_RX9 rfl (bj_X9_suspects l) bd_X9_suspects ab_hcm ab_xk bz_X9_suspects
theorem ba_X9_read : ec_al [(999, Cond.code yX9_read cX9_read 3 (some .int)), (58, Cond.initialized yX9_read.cls), (997, Cond.instanceMethod yX9_read), (998, Cond.selects yX9_read.cls yX9_read yX9_read), (1000, Cond.methodLink RX9 214 yX5_addReading), (424, Cond.methodLink RX9 64 yX9_counted)] := ec_alk (by decide +kernel)
theorem bw_X9_read : ec_cw yX9_read cX9_read 3 (some .int) := ⟨ba_X9_read.1, ba_X9_read.2.1, nc_RX9⟩
theorem bv_X9_read : Cond.instanceMethod yX9_read ∈ ec_tb ∧ Cond.selects yX9_read.cls yX9_read yX9_read ∈ ec_tb := ⟨ba_X9_read.2.2.1, ba_X9_read.2.2.2.1⟩
theorem bp_X9_read : (parseMethodDescriptor yX9_read.desc).map (fun d => d.parameters.length) = some 2 := by decide +kernel
theorem bk_X9_read (l : Launch) : ∀ (ix n : Nat) (rc : Option Nat) (sp : ex_S), (be_X9_read ix).map (fun q => (q.1, q.2.1, ab_sp ab_hd q.2.2)) = some (n, rc, sp) → ex_cok l RX9 2 43 ix n rc sp := by
  intro ix n rc sp h
  obtain ⟨l0, h2, rfl⟩ := ab_dmk h
  clear h
  unfold be_X9_read at h2
  split at h2
  · cases h2; exact ec_cV (bm_X5_addReading l) bw_X5_addReading bv_X5_addReading (by decide) (by decide) (Or.inl ba_X9_read.2.2.2.2.1) (T := TX5) (N := 10) rfl (by decide) bp_X5_addReading
  · cases h2; exact ec_cV (bm_X9_counted l) bw_X9_counted bv_X9_counted (by decide) (by decide) (Or.inl ba_X9_read.2.2.2.2.2.1) (T := TX9) (N := 10) rfl (by decide) bp_X9_counted
  · cases h2
theorem bj_X9_read (l : Launch) : ex_ok l 2 43 bx_X9_read := ec_okp fo_X9 co_X9 so_X9 (bk_X9_read l)
theorem bm_X9_read (l : Launch) : ex_Met l yX9_read cX9_read 3 (some .int) 2 43 (ab_sp ab_hd bc_X9_read) := ab_met (by decide) pn_RX9 rfl (bj_X9_read l) bd_X9_read ab_hcm ab_xk bz_X9_read
theorem ba_X9_calibrate : ec_al [(1012, Cond.code yX9_calibrate cX9_calibrate 3 (some .int)), (58, Cond.initialized yX9_calibrate.cls), (1010, Cond.instanceMethod yX9_calibrate), (1011, Cond.selects yX9_calibrate.cls yX9_calibrate yX9_calibrate), (1013, Cond.methodLink RX9 217 yX5_addCalibration), (424, Cond.methodLink RX9 64 yX9_counted)] := ec_alk (by decide +kernel)
theorem bw_X9_calibrate : ec_cw yX9_calibrate cX9_calibrate 3 (some .int) := ⟨ba_X9_calibrate.1, ba_X9_calibrate.2.1, nc_RX9⟩
theorem bv_X9_calibrate : Cond.instanceMethod yX9_calibrate ∈ ec_tb ∧ Cond.selects yX9_calibrate.cls yX9_calibrate yX9_calibrate ∈ ec_tb := ⟨ba_X9_calibrate.2.2.1, ba_X9_calibrate.2.2.2.1⟩
theorem bp_X9_calibrate : (parseMethodDescriptor yX9_calibrate.desc).map (fun d => d.parameters.length) = some 2 := by decide +kernel
theorem bk_X9_calibrate (l : Launch) : ∀ (ix n : Nat) (rc : Option Nat) (sp : ex_S), (be_X9_calibrate ix).map (fun q => (q.1, q.2.1, ab_sp ab_hd q.2.2)) = some (n, rc, sp) → ex_cok l RX9 2 43 ix n rc sp := by
  intro ix n rc sp h
  obtain ⟨l0, h2, rfl⟩ := ab_dmk h
  clear h
  unfold be_X9_calibrate at h2
  split at h2
  · cases h2; exact ec_cV (bm_X5_addCalibration l) bw_X5_addCalibration bv_X5_addCalibration (by decide) (by decide) (Or.inl ba_X9_calibrate.2.2.2.2.1) (T := TX5) (N := 10) rfl (by decide) bp_X5_addCalibration
  · cases h2; exact ec_cV (bm_X9_counted l) bw_X9_counted bv_X9_counted (by decide) (by decide) (Or.inl ba_X9_calibrate.2.2.2.2.2.1) (T := TX9) (N := 10) rfl (by decide) bp_X9_counted
  · cases h2
theorem bj_X9_calibrate (l : Launch) : ex_ok l 2 43 bx_X9_calibrate := ec_okp fo_X9 co_X9 so_X9 (bk_X9_calibrate l)
theorem bm_X9_calibrate (l : Launch) : ex_Met l yX9_calibrate cX9_calibrate 3 (some .int) 2 43 (ab_sp ab_hd bc_X9_calibrate) := ab_met (by decide) pn_RX9 rfl (bj_X9_calibrate l) bd_X9_calibrate ab_hcm ab_xk bz_X9_calibrate
theorem ba_X9_worked : ec_al [(1020, Cond.code yX9_worked cX9_worked 2 (some .int)), (58, Cond.initialized yX9_worked.cls), (1018, Cond.instanceMethod yX9_worked), (1019, Cond.selects yX9_worked.cls yX9_worked yX9_worked), (1021, Cond.methodLink RX9 220 yX5_workedBack), (424, Cond.methodLink RX9 64 yX9_counted)] := ec_alk (by decide +kernel)
theorem bw_X9_worked : ec_cw yX9_worked cX9_worked 2 (some .int) := ⟨ba_X9_worked.1, ba_X9_worked.2.1, nc_RX9⟩
theorem bv_X9_worked : Cond.instanceMethod yX9_worked ∈ ec_tb ∧ Cond.selects yX9_worked.cls yX9_worked yX9_worked ∈ ec_tb := ⟨ba_X9_worked.2.2.1, ba_X9_worked.2.2.2.1⟩
theorem bp_X9_worked : (parseMethodDescriptor yX9_worked.desc).map (fun d => d.parameters.length) = some 1 := by decide +kernel
theorem bk_X9_worked (l : Launch) : ∀ (ix n : Nat) (rc : Option Nat) (sp : ex_S), (be_X9_worked ix).map (fun q => (q.1, q.2.1, ab_sp ab_hd q.2.2)) = some (n, rc, sp) → ex_cok l RX9 3 71 ix n rc sp := by
  intro ix n rc sp h
  obtain ⟨l0, h2, rfl⟩ := ab_dmk h
  clear h
  unfold be_X9_worked at h2
  split at h2
  · cases h2; exact ec_cV (bm_X5_workedBack l) bw_X5_workedBack bv_X5_workedBack (by decide) (by decide) (Or.inl ba_X9_worked.2.2.2.2.1) (T := TX5) (N := 10) rfl (by decide) bp_X5_workedBack
  · cases h2; exact ec_cV (bm_X9_counted l) bw_X9_counted bv_X9_counted (by decide) (by decide) (Or.inl ba_X9_worked.2.2.2.2.2.1) (T := TX9) (N := 10) rfl (by decide) bp_X9_counted
  · cases h2
theorem bj_X9_worked (l : Launch) : ex_ok l 3 71 bx_X9_worked := ec_okp fo_X9 co_X9 so_X9 (bk_X9_worked l)
theorem bm_X9_worked (l : Launch) : ex_Met l yX9_worked cX9_worked 2 (some .int) 3 71 (ab_sp ab_hd bc_X9_worked) := ab_met (by decide) pn_RX9 rfl (bj_X9_worked l) bd_X9_worked ab_hcm ab_xk bz_X9_worked
theorem ba_X9_delay : ec_al [(1036, Cond.code yX9_delay cX9_delay 2 (some .int)), (58, Cond.initialized yX9_delay.cls), (1034, Cond.instanceMethod yX9_delay), (1035, Cond.selects yX9_delay.cls yX9_delay yX9_delay), (1037, Cond.methodLink RX9 223 yX5_setDelay), (424, Cond.methodLink RX9 64 yX9_counted)] := ec_alk (by decide +kernel)
theorem bw_X9_delay : ec_cw yX9_delay cX9_delay 2 (some .int) := ⟨ba_X9_delay.1, ba_X9_delay.2.1, nc_RX9⟩
theorem bv_X9_delay : Cond.instanceMethod yX9_delay ∈ ec_tb ∧ Cond.selects yX9_delay.cls yX9_delay yX9_delay ∈ ec_tb := ⟨ba_X9_delay.2.2.1, ba_X9_delay.2.2.2.1⟩
theorem bp_X9_delay : (parseMethodDescriptor yX9_delay.desc).map (fun d => d.parameters.length) = some 1 := by decide +kernel
theorem bk_X9_delay (l : Launch) : ∀ (ix n : Nat) (rc : Option Nat) (sp : ex_S), (be_X9_delay ix).map (fun q => (q.1, q.2.1, ab_sp ab_hd q.2.2)) = some (n, rc, sp) → ex_cok l RX9 1 22 ix n rc sp := by
  intro ix n rc sp h
  obtain ⟨l0, h2, rfl⟩ := ab_dmk h
  clear h
  unfold be_X9_delay at h2
  split at h2
  · cases h2; exact ec_cV (bm_X5_setDelay l) bw_X5_setDelay bv_X5_setDelay (by decide) (by decide) (Or.inl ba_X9_delay.2.2.2.2.1) (T := TX5) (N := 10) rfl (by decide) bp_X5_setDelay
  · cases h2; exact ec_cV (bm_X9_counted l) bw_X9_counted bv_X9_counted (by decide) (by decide) (Or.inl ba_X9_delay.2.2.2.2.2.1) (T := TX9) (N := 10) rfl (by decide) bp_X9_counted
  · cases h2
theorem bj_X9_delay (l : Launch) : ex_ok l 1 22 bx_X9_delay := ec_okp fo_X9 co_X9 so_X9 (bk_X9_delay l)
theorem bm_X9_delay (l : Launch) : ex_Met l yX9_delay cX9_delay 2 (some .int) 1 22 (ab_sp ab_hd bc_X9_delay) := ab_met (by decide) pn_RX9 rfl (bj_X9_delay l) bd_X9_delay ab_hcm ab_xk bz_X9_delay
theorem ba_X9_known : ec_al [(1044, Cond.code yX9_known cX9_known 3 (some .int)), (58, Cond.initialized yX9_known.cls), (1042, Cond.instanceMethod yX9_known), (1043, Cond.selects yX9_known.cls yX9_known yX9_known), (1045, Cond.methodLink RX9 226 yX5_latestHeard), (424, Cond.methodLink RX9 64 yX9_counted)] := ec_alk (by decide +kernel)
theorem bw_X9_known : ec_cw yX9_known cX9_known 3 (some .int) := ⟨ba_X9_known.1, ba_X9_known.2.1, nc_RX9⟩
theorem bv_X9_known : Cond.instanceMethod yX9_known ∈ ec_tb ∧ Cond.selects yX9_known.cls yX9_known yX9_known ∈ ec_tb := ⟨ba_X9_known.2.2.1, ba_X9_known.2.2.2.1⟩
theorem bp_X9_known : (parseMethodDescriptor yX9_known.desc).map (fun d => d.parameters.length) = some 2 := by decide +kernel
theorem bk_X9_known (l : Launch) : ∀ (ix n : Nat) (rc : Option Nat) (sp : ex_S), (be_X9_known ix).map (fun q => (q.1, q.2.1, ab_sp ab_hd q.2.2)) = some (n, rc, sp) → ex_cok l RX9 2 43 ix n rc sp := by
  intro ix n rc sp h
  obtain ⟨l0, h2, rfl⟩ := ab_dmk h
  clear h
  unfold be_X9_known at h2
  split at h2
  · cases h2; exact ec_cV (bm_X5_latestHeard l) bw_X5_latestHeard bv_X5_latestHeard (by decide) (by decide) (Or.inl ba_X9_known.2.2.2.2.1) (T := TX5) (N := 10) rfl (by decide) bp_X5_latestHeard
  · cases h2; exact ec_cV (bm_X9_counted l) bw_X9_counted bv_X9_counted (by decide) (by decide) (Or.inl ba_X9_known.2.2.2.2.2.1) (T := TX9) (N := 10) rfl (by decide) bp_X9_counted
  · cases h2
theorem bj_X9_known (l : Launch) : ex_ok l 2 43 bx_X9_known := ec_okp fo_X9 co_X9 so_X9 (bk_X9_known l)
theorem bm_X9_known (l : Launch) : ex_Met l yX9_known cX9_known 3 (some .int) 2 43 (ab_sp ab_hd bc_X9_known) := ab_met (by decide) pn_RX9 rfl (bj_X9_known l) bd_X9_known ab_hcm ab_xk bz_X9_known
theorem ba_X9_isMass : ec_al [(1060, Cond.code yX9_isMass cX9_isMass 1 (some .boolean)), (58, Cond.initialized yX9_isMass.cls), (1059, Cond.static yX9_isMass)] := ec_alk (by decide +kernel)
theorem bw_X9_isMass : ec_cw yX9_isMass cX9_isMass 1 (some .boolean) := ⟨ba_X9_isMass.1, ba_X9_isMass.2.1, nc_RX9⟩
theorem bv_X9_isMass : Cond.static yX9_isMass ∈ ec_tb := ba_X9_isMass.2.2.1
theorem bp_X9_isMass : (parseMethodDescriptor yX9_isMass.desc).map (fun d => d.parameters.length) = some 1 := by decide +kernel
theorem bj_X9_isMass (l : Launch) : ex_ok l 0 0 bx_X9_isMass := ec_okp fo_X9 co_X9 so_X9 (ec_okn)
theorem bm_X9_isMass (l : Launch) : ex_Met l yX9_isMass cX9_isMass 1 (some .boolean) 0 0 (ab_sp ab_hd bc_X9_isMass) := ab_met (by decide) pn_RX9 rfl (bj_X9_isMass l) bd_X9_isMass ab_hcm ab_xk bz_X9_isMass
theorem ba_X9_setMass : ec_al [(1057, Cond.code yX9_setMass cX9_setMass 3 (some .int)), (58, Cond.initialized yX9_setMass.cls), (1056, Cond.instanceMethod yX9_setMass), (24, Cond.selects yX9_setMass.cls yX9_setMass yX9_setMass), (1058, Cond.methodLink RX9 235 yX9_isMass)] := ec_alk (by decide +kernel)
theorem bw_X9_setMass : ec_cw yX9_setMass cX9_setMass 3 (some .int) := ⟨ba_X9_setMass.1, ba_X9_setMass.2.1, nc_RX9⟩
theorem bv_X9_setMass : Cond.instanceMethod yX9_setMass ∈ ec_tb ∧ Cond.selects yX9_setMass.cls yX9_setMass yX9_setMass ∈ ec_tb := ⟨ba_X9_setMass.2.2.1, ba_X9_setMass.2.2.2.1⟩
theorem bp_X9_setMass : (parseMethodDescriptor yX9_setMass.desc).map (fun d => d.parameters.length) = some 1 := by decide +kernel
theorem bk_X9_setMass (l : Launch) : ∀ (ix n : Nat) (rc : Option Nat) (sp : ex_S), (be_X9_setMass ix).map (fun q => (q.1, q.2.1, ab_sp ab_hd q.2.2)) = some (n, rc, sp) → ex_cok l RX9 1 20 ix n rc sp := by
  intro ix n rc sp h
  obtain ⟨l0, h2, rfl⟩ := ab_dmk h
  clear h
  unfold be_X9_setMass at h2
  split at h2
  · cases h2; exact ec_cS (bm_X9_isMass l) bw_X9_isMass bv_X9_isMass (by decide) (by decide) (Or.inl ba_X9_setMass.2.2.2.2.1) bp_X9_isMass
  · cases h2
theorem bj_X9_setMass (l : Launch) : ex_ok l 1 20 bx_X9_setMass := ec_okp fo_X9 co_X9 so_X9 (bk_X9_setMass l)
theorem bm_X9_setMass (l : Launch) : ex_Met l yX9_setMass cX9_setMass 3 (some .int) 1 20 (ab_sp ab_hd bc_X9_setMass) := ab_met (by decide) pn_RX9 rfl (bj_X9_setMass l) bd_X9_setMass ab_hcm ab_xk bz_X9_setMass
theorem ba_X9_isSpeed : ec_al [(1068, Cond.code yX9_isSpeed cX9_isSpeed 1 (some .boolean)), (58, Cond.initialized yX9_isSpeed.cls), (1067, Cond.static yX9_isSpeed)] := ec_alk (by decide +kernel)
theorem bw_X9_isSpeed : ec_cw yX9_isSpeed cX9_isSpeed 1 (some .boolean) := ⟨ba_X9_isSpeed.1, ba_X9_isSpeed.2.1, nc_RX9⟩
theorem bv_X9_isSpeed : Cond.static yX9_isSpeed ∈ ec_tb := ba_X9_isSpeed.2.2.1
theorem bp_X9_isSpeed : (parseMethodDescriptor yX9_isSpeed.desc).map (fun d => d.parameters.length) = some 1 := by decide +kernel
theorem bj_X9_isSpeed (l : Launch) : ex_ok l 0 0 bx_X9_isSpeed := ec_okp fo_X9 co_X9 so_X9 (ec_okn)
theorem bm_X9_isSpeed (l : Launch) : ex_Met l yX9_isSpeed cX9_isSpeed 1 (some .boolean) 0 0 (ab_sp ab_hd bc_X9_isSpeed) := ab_met (by decide) pn_RX9 rfl (bj_X9_isSpeed l) bd_X9_isSpeed ab_hcm ab_xk bz_X9_isSpeed
theorem ba_X9_setSpeed : ec_al [(1065, Cond.code yX9_setSpeed cX9_setSpeed 3 (some .int)), (58, Cond.initialized yX9_setSpeed.cls), (1064, Cond.instanceMethod yX9_setSpeed), (25, Cond.selects yX9_setSpeed.cls yX9_setSpeed yX9_setSpeed), (1066, Cond.methodLink RX9 238 yX9_isSpeed)] := ec_alk (by decide +kernel)
theorem bw_X9_setSpeed : ec_cw yX9_setSpeed cX9_setSpeed 3 (some .int) := ⟨ba_X9_setSpeed.1, ba_X9_setSpeed.2.1, nc_RX9⟩
theorem bv_X9_setSpeed : Cond.instanceMethod yX9_setSpeed ∈ ec_tb ∧ Cond.selects yX9_setSpeed.cls yX9_setSpeed yX9_setSpeed ∈ ec_tb := ⟨ba_X9_setSpeed.2.2.1, ba_X9_setSpeed.2.2.2.1⟩
theorem bp_X9_setSpeed : (parseMethodDescriptor yX9_setSpeed.desc).map (fun d => d.parameters.length) = some 1 := by decide +kernel
theorem bk_X9_setSpeed (l : Launch) : ∀ (ix n : Nat) (rc : Option Nat) (sp : ex_S), (be_X9_setSpeed ix).map (fun q => (q.1, q.2.1, ab_sp ab_hd q.2.2)) = some (n, rc, sp) → ex_cok l RX9 1 20 ix n rc sp := by
  intro ix n rc sp h
  obtain ⟨l0, h2, rfl⟩ := ab_dmk h
  clear h
  unfold be_X9_setSpeed at h2
  split at h2
  · cases h2; exact ec_cS (bm_X9_isSpeed l) bw_X9_isSpeed bv_X9_isSpeed (by decide) (by decide) (Or.inl ba_X9_setSpeed.2.2.2.2.1) bp_X9_isSpeed
  · cases h2
theorem bj_X9_setSpeed (l : Launch) : ex_ok l 1 20 bx_X9_setSpeed := ec_okp fo_X9 co_X9 so_X9 (bk_X9_setSpeed l)
theorem bm_X9_setSpeed (l : Launch) : ex_Met l yX9_setSpeed cX9_setSpeed 3 (some .int) 1 20 (ab_sp ab_hd bc_X9_setSpeed) := ab_met (by decide) pn_RX9 rfl (bj_X9_setSpeed l) bd_X9_setSpeed ab_hcm ab_xk bz_X9_setSpeed
theorem ba_X9_mass : ec_al [(1053, Cond.code yX9_mass cX9_mass 3 (some .int)), (58, Cond.initialized yX9_mass.cls), (1051, Cond.instanceMethod yX9_mass), (1052, Cond.selects yX9_mass.cls yX9_mass yX9_mass), (1054, Cond.methodLink RX9 229 yX9_setMass), (424, Cond.methodLink RX9 64 yX9_counted), (1062, Cond.methodLink RX9 232 yX9_setSpeed)] := ec_alk (by decide +kernel)
theorem bw_X9_mass : ec_cw yX9_mass cX9_mass 3 (some .int) := ⟨ba_X9_mass.1, ba_X9_mass.2.1, nc_RX9⟩
theorem bv_X9_mass : Cond.instanceMethod yX9_mass ∈ ec_tb ∧ Cond.selects yX9_mass.cls yX9_mass yX9_mass ∈ ec_tb := ⟨ba_X9_mass.2.2.1, ba_X9_mass.2.2.2.1⟩
theorem bp_X9_mass : (parseMethodDescriptor yX9_mass.desc).map (fun d => d.parameters.length) = some 2 := by decide +kernel
theorem bk_X9_mass (l : Launch) : ∀ (ix n : Nat) (rc : Option Nat) (sp : ex_S), (be_X9_mass ix).map (fun q => (q.1, q.2.1, ab_sp ab_hd q.2.2)) = some (n, rc, sp) → ex_cok l RX9 2 42 ix n rc sp := by
  intro ix n rc sp h
  obtain ⟨l0, h2, rfl⟩ := ab_dmk h
  clear h
  unfold be_X9_mass at h2
  split at h2
  · cases h2; exact ec_cV (bm_X9_setMass l) bw_X9_setMass bv_X9_setMass (by decide) (by decide) (Or.inl ba_X9_mass.2.2.2.2.1) (T := TX9) (N := 10) rfl (by decide) bp_X9_setMass
  · cases h2; exact ec_cV (bm_X9_counted l) bw_X9_counted bv_X9_counted (by decide) (by decide) (Or.inl ba_X9_mass.2.2.2.2.2.1) (T := TX9) (N := 10) rfl (by decide) bp_X9_counted
  · cases h2; exact ec_cV (bm_X9_setSpeed l) bw_X9_setSpeed bv_X9_setSpeed (by decide) (by decide) (Or.inl ba_X9_mass.2.2.2.2.2.2.1) (T := TX9) (N := 10) rfl (by decide) bp_X9_setSpeed
  · cases h2
theorem bj_X9_mass (l : Launch) : ex_ok l 2 42 bx_X9_mass := ec_okp fo_X9 co_X9 so_X9 (bk_X9_mass l)
theorem bm_X9_mass (l : Launch) : ex_Met l yX9_mass cX9_mass 3 (some .int) 2 42 (ab_sp ab_hd bc_X9_mass) := ab_met (by decide) pn_RX9 rfl (bj_X9_mass l) bd_X9_mass ab_hcm ab_xk bz_X9_mass
theorem ba_X9_dock : ec_al [(1072, Cond.code yX9_dock cX9_dock 6 (some .int)), (58, Cond.initialized yX9_dock.cls), (1070, Cond.instanceMethod yX9_dock), (1071, Cond.selects yX9_dock.cls yX9_dock yX9_dock), (1058, Cond.methodLink RX9 235 yX9_isMass), (1066, Cond.methodLink RX9 238 yX9_isSpeed), (424, Cond.methodLink RX9 64 yX9_counted)] := ec_alk (by decide +kernel)
theorem bw_X9_dock : ec_cw yX9_dock cX9_dock 6 (some .int) := ⟨ba_X9_dock.1, ba_X9_dock.2.1, nc_RX9⟩
theorem bv_X9_dock : Cond.instanceMethod yX9_dock ∈ ec_tb ∧ Cond.selects yX9_dock.cls yX9_dock yX9_dock ∈ ec_tb := ⟨ba_X9_dock.2.2.1, ba_X9_dock.2.2.2.1⟩
theorem bp_X9_dock : (parseMethodDescriptor yX9_dock.desc).map (fun d => d.parameters.length) = some 2 := by decide +kernel
theorem bk_X9_dock (l : Launch) : ∀ (ix n : Nat) (rc : Option Nat) (sp : ex_S), (be_X9_dock ix).map (fun q => (q.1, q.2.1, ab_sp ab_hd q.2.2)) = some (n, rc, sp) → ex_cok l RX9 1 21 ix n rc sp := by
  intro ix n rc sp h
  obtain ⟨l0, h2, rfl⟩ := ab_dmk h
  clear h
  unfold be_X9_dock at h2
  split at h2
  · cases h2; exact ec_cS (bm_X9_isMass l) bw_X9_isMass bv_X9_isMass (by decide) (by decide) (Or.inl ba_X9_dock.2.2.2.2.1) bp_X9_isMass
  · cases h2; exact ec_cS (bm_X9_isSpeed l) bw_X9_isSpeed bv_X9_isSpeed (by decide) (by decide) (Or.inl ba_X9_dock.2.2.2.2.2.1) bp_X9_isSpeed
  · cases h2; exact ec_cV (bm_X9_counted l) bw_X9_counted bv_X9_counted (by decide) (by decide) (Or.inl ba_X9_dock.2.2.2.2.2.2.1) (T := TX9) (N := 10) rfl (by decide) bp_X9_counted
  · cases h2
theorem bj_X9_dock (l : Launch) : ex_ok l 1 21 bx_X9_dock := ec_okp fo_X9 co_X9 so_X9 (bk_X9_dock l)
theorem bm_X9_dock (l : Launch) : ex_Met l yX9_dock cX9_dock 6 (some .int) 1 21 (ab_sp ab_hd bc_X9_dock) := ab_met (by decide) pn_RX9 rfl (bj_X9_dock l) bd_X9_dock ab_hcm ab_xk bz_X9_dock
theorem ba_X9_undock : ec_al [(1076, Cond.code yX9_undock cX9_undock 2 (some .int)), (58, Cond.initialized yX9_undock.cls), (1074, Cond.instanceMethod yX9_undock), (1075, Cond.selects yX9_undock.cls yX9_undock yX9_undock), (1058, Cond.methodLink RX9 235 yX9_isMass), (424, Cond.methodLink RX9 64 yX9_counted)] := ec_alk (by decide +kernel)
theorem bw_X9_undock : ec_cw yX9_undock cX9_undock 2 (some .int) := ⟨ba_X9_undock.1, ba_X9_undock.2.1, nc_RX9⟩
theorem bv_X9_undock : Cond.instanceMethod yX9_undock ∈ ec_tb ∧ Cond.selects yX9_undock.cls yX9_undock yX9_undock ∈ ec_tb := ⟨ba_X9_undock.2.2.1, ba_X9_undock.2.2.2.1⟩
theorem bp_X9_undock : (parseMethodDescriptor yX9_undock.desc).map (fun d => d.parameters.length) = some 1 := by decide +kernel
theorem bk_X9_undock (l : Launch) : ∀ (ix n : Nat) (rc : Option Nat) (sp : ex_S), (be_X9_undock ix).map (fun q => (q.1, q.2.1, ab_sp ab_hd q.2.2)) = some (n, rc, sp) → ex_cok l RX9 1 21 ix n rc sp := by
  intro ix n rc sp h
  obtain ⟨l0, h2, rfl⟩ := ab_dmk h
  clear h
  unfold be_X9_undock at h2
  split at h2
  · cases h2; exact ec_cS (bm_X9_isMass l) bw_X9_isMass bv_X9_isMass (by decide) (by decide) (Or.inl ba_X9_undock.2.2.2.2.1) bp_X9_isMass
  · cases h2; exact ec_cV (bm_X9_counted l) bw_X9_counted bv_X9_counted (by decide) (by decide) (Or.inl ba_X9_undock.2.2.2.2.2.1) (T := TX9) (N := 10) rfl (by decide) bp_X9_counted
  · cases h2
theorem bj_X9_undock (l : Launch) : ex_ok l 1 21 bx_X9_undock := ec_okp fo_X9 co_X9 so_X9 (bk_X9_undock l)
theorem bm_X9_undock (l : Launch) : ex_Met l yX9_undock cX9_undock 2 (some .int) 1 21 (ab_sp ab_hd bc_X9_undock) := ab_met (by decide) pn_RX9 rfl (bj_X9_undock l) bd_X9_undock ab_hcm ab_xk bz_X9_undock
theorem ba_X9_tell : ec_al [(1080, Cond.code yX9_tell cX9_tell 2 (some .int)), (58, Cond.initialized yX9_tell.cls), (1078, Cond.instanceMethod yX9_tell), (1079, Cond.selects yX9_tell.cls yX9_tell yX9_tell), (424, Cond.methodLink RX9 64 yX9_counted)] := ec_alk (by decide +kernel)
theorem bw_X9_tell : ec_cw yX9_tell cX9_tell 2 (some .int) := ⟨ba_X9_tell.1, ba_X9_tell.2.1, nc_RX9⟩
theorem bv_X9_tell : Cond.instanceMethod yX9_tell ∈ ec_tb ∧ Cond.selects yX9_tell.cls yX9_tell yX9_tell ∈ ec_tb := ⟨ba_X9_tell.2.2.1, ba_X9_tell.2.2.2.1⟩
theorem bp_X9_tell : (parseMethodDescriptor yX9_tell.desc).map (fun d => d.parameters.length) = some 1 := by decide +kernel
theorem bk_X9_tell (l : Launch) : ∀ (ix n : Nat) (rc : Option Nat) (sp : ex_S), (be_X9_tell ix).map (fun q => (q.1, q.2.1, ab_sp ab_hd q.2.2)) = some (n, rc, sp) → ex_cok l RX9 1 21 ix n rc sp := by
  intro ix n rc sp h
  obtain ⟨l0, h2, rfl⟩ := ab_dmk h
  clear h
  unfold be_X9_tell at h2
  split at h2
  · cases h2; exact ec_cV (bm_X9_counted l) bw_X9_counted bv_X9_counted (by decide) (by decide) (Or.inl ba_X9_tell.2.2.2.2.1) (T := TX9) (N := 10) rfl (by decide) bp_X9_counted
  · cases h2
theorem bj_X9_tell (l : Launch) : ex_ok l 1 21 bx_X9_tell := ec_okp fo_X9 co_X9 so_X9 (bk_X9_tell l)
theorem bm_X9_tell (l : Launch) : ex_Met l yX9_tell cX9_tell 2 (some .int) 1 21 (ab_sp ab_hd bc_X9_tell) := ab_met (by decide) pn_RX9 rfl (bj_X9_tell l) bd_X9_tell ab_hcm ab_xk bz_X9_tell
theorem ba_X9_check : ec_al [(1084, Cond.code yX9_check cX9_check 5 (some .int)), (58, Cond.initialized yX9_check.cls), (1082, Cond.instanceMethod yX9_check), (1083, Cond.selects yX9_check.cls yX9_check yX9_check), (502, Cond.methodLink RX9 88 yX0_hasModule), (1085, Cond.methodLink RX9 248 yX0_isSort), (424, Cond.methodLink RX9 64 yX9_counted), (864, Cond.methodLink RX9 163 yX8_becomeLike), (698, Cond.methodLink RX9 156 yX8_passTick), (1086, Cond.methodLink RX9 251 yX0_amount)] := ec_alk (by decide +kernel)
theorem bw_X9_check : ec_cw yX9_check cX9_check 5 (some .int) := ⟨ba_X9_check.1, ba_X9_check.2.1, nc_RX9⟩
theorem bv_X9_check : Cond.instanceMethod yX9_check ∈ ec_tb ∧ Cond.selects yX9_check.cls yX9_check yX9_check ∈ ec_tb := ⟨ba_X9_check.2.2.1, ba_X9_check.2.2.2.1⟩
theorem bp_X9_check : (parseMethodDescriptor yX9_check.desc).map (fun d => d.parameters.length) = some 2 := by decide +kernel
theorem bk_X9_check (l : Launch) : ∀ (ix n : Nat) (rc : Option Nat) (sp : ex_S), (be_X9_check ix).map (fun q => (q.1, q.2.1, ab_sp ab_hd q.2.2)) = some (n, rc, sp) → ex_cok l RX9 6 134 ix n rc sp := by
  intro ix n rc sp h
  obtain ⟨l0, h2, rfl⟩ := ab_dmk h
  clear h
  unfold be_X9_check at h2
  split at h2
  · cases h2; exact ec_cV (bm_X0_hasModule l) bw_X0_hasModule bv_X0_hasModule (by decide) (by decide) (Or.inl ba_X9_check.2.2.2.2.1) (T := TX0) (N := 8) rfl (by decide) bp_X0_hasModule
  · cases h2; exact ec_cS (bm_X0_isSort l) bw_X0_isSort bv_X0_isSort (by decide) (by decide) (Or.inl ba_X9_check.2.2.2.2.2.1) bp_X0_isSort
  · cases h2; exact ec_cV (bm_X9_counted l) bw_X9_counted bv_X9_counted (by decide) (by decide) (Or.inl ba_X9_check.2.2.2.2.2.2.1) (T := TX9) (N := 10) rfl (by decide) bp_X9_counted
  · cases h2; exact ec_cV (bm_X8_becomeLike l) bw_X8_becomeLike bv_X8_becomeLike (by decide) (by decide) (Or.inl ba_X9_check.2.2.2.2.2.2.2.1) (T := TX8) (N := 7) rfl (by decide) bp_X8_becomeLike
  · cases h2; exact ec_cV (bm_X8_passTick l) bw_X8_passTick bv_X8_passTick (by decide) (by decide) (Or.inl ba_X9_check.2.2.2.2.2.2.2.2.1) (T := TX8) (N := 7) rfl (by decide) bp_X8_passTick
  · cases h2; exact ec_cV (bm_X0_amount l) bw_X0_amount bv_X0_amount (by decide) (by decide) (Or.inl ba_X9_check.2.2.2.2.2.2.2.2.2.1) (T := TX0) (N := 8) rfl (by decide) bp_X0_amount
  · cases h2
theorem bj_X9_check (l : Launch) : ex_ok l 6 134 bx_X9_check := ec_okp fo_X9 co_X9 so_X9 (bk_X9_check l)
theorem bm_X9_check (l : Launch) : ex_Met l yX9_check cX9_check 5 (some .int) 6 134 (ab_sp ab_hd bc_X9_check) := ab_met (by decide) pn_RX9 rfl (bj_X9_check l) bd_X9_check ab_hcm ab_xk bz_X9_check
theorem ba_X9_count : ec_al [(1090, Cond.code yX9_count cX9_count 2 (some .int)), (58, Cond.initialized yX9_count.cls), (1088, Cond.instanceMethod yX9_count), (1089, Cond.selects yX9_count.cls yX9_count yX9_count), (1091, Cond.methodLink RX9 272 yX3_menders), (424, Cond.methodLink RX9 64 yX9_counted)] := ec_alk (by decide +kernel)
theorem bw_X9_count : ec_cw yX9_count cX9_count 2 (some .int) := ⟨ba_X9_count.1, ba_X9_count.2.1, nc_RX9⟩
theorem bv_X9_count : Cond.instanceMethod yX9_count ∈ ec_tb ∧ Cond.selects yX9_count.cls yX9_count yX9_count ∈ ec_tb := ⟨ba_X9_count.2.2.1, ba_X9_count.2.2.2.1⟩
theorem bp_X9_count : (parseMethodDescriptor yX9_count.desc).map (fun d => d.parameters.length) = some 1 := by decide +kernel
theorem bk_X9_count (l : Launch) : ∀ (ix n : Nat) (rc : Option Nat) (sp : ex_S), (be_X9_count ix).map (fun q => (q.1, q.2.1, ab_sp ab_hd q.2.2)) = some (n, rc, sp) → ex_cok l RX9 2 43 ix n rc sp := by
  intro ix n rc sp h
  obtain ⟨l0, h2, rfl⟩ := ab_dmk h
  clear h
  unfold be_X9_count at h2
  split at h2
  · cases h2; exact ec_cV (bm_X3_menders l) bw_X3_menders bv_X3_menders (by decide) (by decide) (Or.inl ba_X9_count.2.2.2.2.1) (T := TX3) (N := 7) rfl (by decide) bp_X3_menders
  · cases h2; exact ec_cV (bm_X9_counted l) bw_X9_counted bv_X9_counted (by decide) (by decide) (Or.inl ba_X9_count.2.2.2.2.2.1) (T := TX9) (N := 10) rfl (by decide) bp_X9_counted
  · cases h2
theorem bj_X9_count (l : Launch) : ex_ok l 2 43 bx_X9_count := ec_okp fo_X9 co_X9 so_X9 (bk_X9_count l)
theorem bm_X9_count (l : Launch) : ex_Met l yX9_count cX9_count 2 (some .int) 2 43 (ab_sp ab_hd bc_X9_count) := ab_met (by decide) pn_RX9 rfl (bj_X9_count l) bd_X9_count ab_hcm ab_xk bz_X9_count
theorem ba_X9_found : ec_al [(1098, Cond.code yX9_found cX9_found 2 (some .int)), (58, Cond.initialized yX9_found.cls), (1096, Cond.instanceMethod yX9_found), (1097, Cond.selects yX9_found.cls yX9_found yX9_found), (424, Cond.methodLink RX9 64 yX9_counted)] := ec_alk (by decide +kernel)
theorem bw_X9_found : ec_cw yX9_found cX9_found 2 (some .int) := ⟨ba_X9_found.1, ba_X9_found.2.1, nc_RX9⟩
theorem bv_X9_found : Cond.instanceMethod yX9_found ∈ ec_tb ∧ Cond.selects yX9_found.cls yX9_found yX9_found ∈ ec_tb := ⟨ba_X9_found.2.2.1, ba_X9_found.2.2.2.1⟩
theorem bp_X9_found : (parseMethodDescriptor yX9_found.desc).map (fun d => d.parameters.length) = some 1 := by decide +kernel
theorem bk_X9_found (l : Launch) : ∀ (ix n : Nat) (rc : Option Nat) (sp : ex_S), (be_X9_found ix).map (fun q => (q.1, q.2.1, ab_sp ab_hd q.2.2)) = some (n, rc, sp) → ex_cok l RX9 1 21 ix n rc sp := by
  intro ix n rc sp h
  obtain ⟨l0, h2, rfl⟩ := ab_dmk h
  clear h
  unfold be_X9_found at h2
  split at h2
  · cases h2; exact ec_cV (bm_X9_counted l) bw_X9_counted bv_X9_counted (by decide) (by decide) (Or.inl ba_X9_found.2.2.2.2.1) (T := TX9) (N := 10) rfl (by decide) bp_X9_counted
  · cases h2
theorem bj_X9_found (l : Launch) : ex_ok l 1 21 bx_X9_found := ec_okp fo_X9 co_X9 so_X9 (bk_X9_found l)
theorem bm_X9_found (l : Launch) : ex_Met l yX9_found cX9_found 2 (some .int) 1 21 (ab_sp ab_hd bc_X9_found) := ab_met (by decide) pn_RX9 rfl (bj_X9_found l) bd_X9_found ab_hcm ab_xk bz_X9_found
theorem ba_X10_finding : ec_al [(1285, Cond.code yX10_finding cX10_finding 2 (some .int)), (68, Cond.initialized yX10_finding.cls), (1284, Cond.instanceMethod yX10_finding), (26, Cond.selects yX10_finding.cls yX10_finding yX10_finding)] := ec_alk (by decide +kernel)
theorem bw_X10_finding : ec_cw yX10_finding cX10_finding 2 (some .int) := ⟨ba_X10_finding.1, ba_X10_finding.2.1, nc_RX10⟩
theorem bv_X10_finding : Cond.instanceMethod yX10_finding ∈ ec_tb ∧ Cond.selects yX10_finding.cls yX10_finding yX10_finding ∈ ec_tb := ⟨ba_X10_finding.2.2.1, ba_X10_finding.2.2.2.1⟩
theorem bp_X10_finding : (parseMethodDescriptor yX10_finding.desc).map (fun d => d.parameters.length) = some 1 := by decide +kernel
theorem bj_X10_finding (l : Launch) : ex_ok l 0 0 bx_X10_finding := ec_okp fo_X10 co_X10 so_X10 (ec_okn)
theorem bm_X10_finding (l : Launch) : ex_Met l yX10_finding cX10_finding 2 (some .int) 0 0 (ab_sp ab_hd bc_X10_finding) := ab_met (by decide) pn_RX10 rfl (bj_X10_finding l) bd_X10_finding ab_hcm ab_xk bz_X10_finding
theorem ba_X10_isIn : ec_al [(1305, Cond.code yX10_isIn cX10_isIn 3 (some .boolean)), (68, Cond.initialized yX10_isIn.cls), (1304, Cond.static yX10_isIn)] := ec_alk (by decide +kernel)
theorem bw_X10_isIn : ec_cw yX10_isIn cX10_isIn 3 (some .boolean) := ⟨ba_X10_isIn.1, ba_X10_isIn.2.1, nc_RX10⟩
theorem bv_X10_isIn : Cond.static yX10_isIn ∈ ec_tb := ba_X10_isIn.2.2.1
theorem bp_X10_isIn : (parseMethodDescriptor yX10_isIn.desc).map (fun d => d.parameters.length) = some 3 := by decide +kernel
theorem bj_X10_isIn (l : Launch) : ex_ok l 0 0 bx_X10_isIn := ec_okp fo_X10 co_X10 so_X10 (ec_okn)
theorem bm_X10_isIn (l : Launch) : ex_Met l yX10_isIn cX10_isIn 3 (some .boolean) 0 0 (ab_sp ab_hd bc_X10_isIn) := ab_met (by decide) pn_RX10 rfl (bj_X10_isIn l) bd_X10_isIn ab_hcm ab_xk bz_X10_isIn
theorem ba_X10_isModule : ec_al [(1294, Cond.code yX10_isModule cX10_isModule 2 (some .boolean)), (68, Cond.initialized yX10_isModule.cls), (1293, Cond.instanceMethod yX10_isModule), (27, Cond.selects yX10_isModule.cls yX10_isModule yX10_isModule)] := ec_alk (by decide +kernel)
theorem bw_X10_isModule : ec_cw yX10_isModule cX10_isModule 2 (some .boolean) := ⟨ba_X10_isModule.1, ba_X10_isModule.2.1, nc_RX10⟩
theorem bv_X10_isModule : Cond.instanceMethod yX10_isModule ∈ ec_tb ∧ Cond.selects yX10_isModule.cls yX10_isModule yX10_isModule ∈ ec_tb := ⟨ba_X10_isModule.2.2.1, ba_X10_isModule.2.2.2.1⟩
theorem bp_X10_isModule : (parseMethodDescriptor yX10_isModule.desc).map (fun d => d.parameters.length) = some 1 := by decide +kernel
theorem bj_X10_isModule (l : Launch) : ex_ok l 0 0 bx_X10_isModule := ec_okp fo_X10 co_X10 so_X10 (ec_okn)
theorem bm_X10_isModule (l : Launch) : ex_Met l yX10_isModule cX10_isModule 2 (some .boolean) 0 0 (ab_sp ab_hd bc_X10_isModule) := ab_met (by decide) pn_RX10 rfl (bj_X10_isModule l) bd_X10_isModule ab_hcm ab_xk bz_X10_isModule
theorem ba_X10_isHatch : ec_al [(1302, Cond.code yX10_isHatch cX10_isHatch 2 (some .boolean)), (68, Cond.initialized yX10_isHatch.cls), (1301, Cond.instanceMethod yX10_isHatch), (28, Cond.selects yX10_isHatch.cls yX10_isHatch yX10_isHatch)] := ec_alk (by decide +kernel)
theorem bw_X10_isHatch : ec_cw yX10_isHatch cX10_isHatch 2 (some .boolean) := ⟨ba_X10_isHatch.1, ba_X10_isHatch.2.1, nc_RX10⟩
theorem bv_X10_isHatch : Cond.instanceMethod yX10_isHatch ∈ ec_tb ∧ Cond.selects yX10_isHatch.cls yX10_isHatch yX10_isHatch ∈ ec_tb := ⟨ba_X10_isHatch.2.2.1, ba_X10_isHatch.2.2.2.1⟩
theorem bp_X10_isHatch : (parseMethodDescriptor yX10_isHatch.desc).map (fun d => d.parameters.length) = some 1 := by decide +kernel
theorem bj_X10_isHatch (l : Launch) : ex_ok l 0 0 bx_X10_isHatch := ec_okp fo_X10 co_X10 so_X10 (ec_okn)
theorem bm_X10_isHatch (l : Launch) : ex_Met l yX10_isHatch cX10_isHatch 2 (some .boolean) 0 0 (ab_sp ab_hd bc_X10_isHatch) := ab_met (by decide) pn_RX10 rfl (bj_X10_isHatch l) bd_X10_isHatch ab_hcm ab_xk bz_X10_isHatch
theorem ba_X10_isPerson : ec_al [(1335, Cond.code yX10_isPerson cX10_isPerson 2 (some .boolean)), (68, Cond.initialized yX10_isPerson.cls), (1334, Cond.instanceMethod yX10_isPerson), (29, Cond.selects yX10_isPerson.cls yX10_isPerson yX10_isPerson)] := ec_alk (by decide +kernel)
theorem bw_X10_isPerson : ec_cw yX10_isPerson cX10_isPerson 2 (some .boolean) := ⟨ba_X10_isPerson.1, ba_X10_isPerson.2.1, nc_RX10⟩
theorem bv_X10_isPerson : Cond.instanceMethod yX10_isPerson ∈ ec_tb ∧ Cond.selects yX10_isPerson.cls yX10_isPerson yX10_isPerson ∈ ec_tb := ⟨ba_X10_isPerson.2.2.1, ba_X10_isPerson.2.2.2.1⟩
theorem bp_X10_isPerson : (parseMethodDescriptor yX10_isPerson.desc).map (fun d => d.parameters.length) = some 1 := by decide +kernel
theorem bj_X10_isPerson (l : Launch) : ex_ok l 0 0 bx_X10_isPerson := ec_okp fo_X10 co_X10 so_X10 (ec_okn)
theorem bm_X10_isPerson (l : Launch) : ex_Met l yX10_isPerson cX10_isPerson 2 (some .boolean) 0 0 (ab_sp ab_hd bc_X10_isPerson) := ab_met (by decide) pn_RX10 rfl (bj_X10_isPerson l) bd_X10_isPerson ab_hcm ab_xk bz_X10_isPerson
theorem ba_X10_isMachine : ec_al [(1359, Cond.code yX10_isMachine cX10_isMachine 2 (some .boolean)), (68, Cond.initialized yX10_isMachine.cls), (1358, Cond.instanceMethod yX10_isMachine), (31, Cond.selects yX10_isMachine.cls yX10_isMachine yX10_isMachine)] := ec_alk (by decide +kernel)
theorem bw_X10_isMachine : ec_cw yX10_isMachine cX10_isMachine 2 (some .boolean) := ⟨ba_X10_isMachine.1, ba_X10_isMachine.2.1, nc_RX10⟩
theorem bv_X10_isMachine : Cond.instanceMethod yX10_isMachine ∈ ec_tb ∧ Cond.selects yX10_isMachine.cls yX10_isMachine yX10_isMachine ∈ ec_tb := ⟨ba_X10_isMachine.2.2.1, ba_X10_isMachine.2.2.2.1⟩
theorem bp_X10_isMachine : (parseMethodDescriptor yX10_isMachine.desc).map (fun d => d.parameters.length) = some 1 := by decide +kernel
theorem bj_X10_isMachine (l : Launch) : ex_ok l 0 0 bx_X10_isMachine := ec_okp fo_X10 co_X10 so_X10 (ec_okn)
theorem bm_X10_isMachine (l : Launch) : ex_Met l yX10_isMachine cX10_isMachine 2 (some .boolean) 0 0 (ab_sp ab_hd bc_X10_isMachine) := ab_met (by decide) pn_RX10 rfl (bj_X10_isMachine l) bd_X10_isMachine ab_hcm ab_xk bz_X10_isMachine
theorem ba_X10_module : ec_al [(1281, Cond.code yX10_module cX10_module 1 (some .int)), (68, Cond.initialized yX10_module.cls), (1279, Cond.instanceMethod yX10_module), (1280, Cond.selects yX10_module.cls yX10_module yX10_module), (1282, Cond.methodLink RX10 160 yX10_finding)] := ec_alk (by decide +kernel)
theorem bw_X10_module : ec_cw yX10_module cX10_module 1 (some .int) := ⟨ba_X10_module.1, ba_X10_module.2.1, nc_RX10⟩
theorem bv_X10_module : Cond.instanceMethod yX10_module ∈ ec_tb ∧ Cond.selects yX10_module.cls yX10_module yX10_module ∈ ec_tb := ⟨ba_X10_module.2.2.1, ba_X10_module.2.2.2.1⟩
theorem bp_X10_module : (parseMethodDescriptor yX10_module.desc).map (fun d => d.parameters.length) = some 0 := by decide +kernel
theorem bk_X10_module (l : Launch) : ∀ (ix n : Nat) (rc : Option Nat) (sp : ex_S), (be_X10_module ix).map (fun q => (q.1, q.2.1, ab_sp ab_hd q.2.2)) = some (n, rc, sp) → ex_cok l RX10 1 21 ix n rc sp := by
  intro ix n rc sp h
  obtain ⟨l0, h2, rfl⟩ := ab_dmk h
  clear h
  unfold be_X10_module at h2
  split at h2
  · cases h2; exact ec_cV (bm_X10_finding l) bw_X10_finding bv_X10_finding (by decide) (by decide) (Or.inl ba_X10_module.2.2.2.2.1) (T := TX10) (N := 57) rfl (by decide) bp_X10_finding
  · cases h2
theorem bj_X10_module (l : Launch) : ex_ok l 1 21 bx_X10_module := ec_okp fo_X10 co_X10 so_X10 (bk_X10_module l)
theorem bm_X10_module (l : Launch) : ex_Met l yX10_module cX10_module 1 (some .int) 1 21 (ab_sp ab_hd bc_X10_module) := ab_met (by decide) pn_RX10 rfl (bj_X10_module l) bd_X10_module ab_hcm ab_xk bz_X10_module
theorem ba_X10_hatch : ec_al [(1290, Cond.code yX10_hatch cX10_hatch 3 (some .int)), (68, Cond.initialized yX10_hatch.cls), (1288, Cond.instanceMethod yX10_hatch), (1289, Cond.selects yX10_hatch.cls yX10_hatch yX10_hatch), (1291, Cond.methodLink RX10 164 yX10_isModule), (1282, Cond.methodLink RX10 160 yX10_finding)] := ec_alk (by decide +kernel)
theorem bw_X10_hatch : ec_cw yX10_hatch cX10_hatch 3 (some .int) := ⟨ba_X10_hatch.1, ba_X10_hatch.2.1, nc_RX10⟩
theorem bv_X10_hatch : Cond.instanceMethod yX10_hatch ∈ ec_tb ∧ Cond.selects yX10_hatch.cls yX10_hatch yX10_hatch ∈ ec_tb := ⟨ba_X10_hatch.2.2.1, ba_X10_hatch.2.2.2.1⟩
theorem bp_X10_hatch : (parseMethodDescriptor yX10_hatch.desc).map (fun d => d.parameters.length) = some 2 := by decide +kernel
theorem bk_X10_hatch (l : Launch) : ∀ (ix n : Nat) (rc : Option Nat) (sp : ex_S), (be_X10_hatch ix).map (fun q => (q.1, q.2.1, ab_sp ab_hd q.2.2)) = some (n, rc, sp) → ex_cok l RX10 1 21 ix n rc sp := by
  intro ix n rc sp h
  obtain ⟨l0, h2, rfl⟩ := ab_dmk h
  clear h
  unfold be_X10_hatch at h2
  split at h2
  · cases h2; exact ec_cV (bm_X10_isModule l) bw_X10_isModule bv_X10_isModule (by decide) (by decide) (Or.inl ba_X10_hatch.2.2.2.2.1) (T := TX10) (N := 57) rfl (by decide) bp_X10_isModule
  · cases h2; exact ec_cV (bm_X10_finding l) bw_X10_finding bv_X10_finding (by decide) (by decide) (Or.inl ba_X10_hatch.2.2.2.2.2.1) (T := TX10) (N := 57) rfl (by decide) bp_X10_finding
  · cases h2
theorem bj_X10_hatch (l : Launch) : ex_ok l 1 21 bx_X10_hatch := ec_okp fo_X10 co_X10 so_X10 (bk_X10_hatch l)
theorem bm_X10_hatch (l : Launch) : ex_Met l yX10_hatch cX10_hatch 3 (some .int) 1 21 (ab_sp ab_hd bc_X10_hatch) := ab_met (by decide) pn_RX10 rfl (bj_X10_hatch l) bd_X10_hatch ab_hcm ab_xk bz_X10_hatch
theorem ba_X10_shut : ec_al [(1298, Cond.code yX10_shut cX10_shut 4 (some .int)), (68, Cond.initialized yX10_shut.cls), (1296, Cond.instanceMethod yX10_shut), (1297, Cond.selects yX10_shut.cls yX10_shut yX10_shut), (1299, Cond.methodLink RX10 168 yX10_isHatch), (1303, Cond.methodLink RX10 171 yX10_isIn), (1282, Cond.methodLink RX10 160 yX10_finding)] := ec_alk (by decide +kernel)
theorem bw_X10_shut : ec_cw yX10_shut cX10_shut 4 (some .int) := ⟨ba_X10_shut.1, ba_X10_shut.2.1, nc_RX10⟩
theorem bv_X10_shut : Cond.instanceMethod yX10_shut ∈ ec_tb ∧ Cond.selects yX10_shut.cls yX10_shut yX10_shut ∈ ec_tb := ⟨ba_X10_shut.2.2.1, ba_X10_shut.2.2.2.1⟩
theorem bp_X10_shut : (parseMethodDescriptor yX10_shut.desc).map (fun d => d.parameters.length) = some 2 := by decide +kernel
theorem bk_X10_shut (l : Launch) : ∀ (ix n : Nat) (rc : Option Nat) (sp : ex_S), (be_X10_shut ix).map (fun q => (q.1, q.2.1, ab_sp ab_hd q.2.2)) = some (n, rc, sp) → ex_cok l RX10 1 22 ix n rc sp := by
  intro ix n rc sp h
  obtain ⟨l0, h2, rfl⟩ := ab_dmk h
  clear h
  unfold be_X10_shut at h2
  split at h2
  · cases h2; exact ec_cV (bm_X10_isHatch l) bw_X10_isHatch bv_X10_isHatch (by decide) (by decide) (Or.inl ba_X10_shut.2.2.2.2.1) (T := TX10) (N := 57) rfl (by decide) bp_X10_isHatch
  · cases h2; exact ec_cS (bm_X10_isIn l) bw_X10_isIn bv_X10_isIn (by decide) (by decide) (Or.inl ba_X10_shut.2.2.2.2.2.1) bp_X10_isIn
  · cases h2; exact ec_cV (bm_X10_finding l) bw_X10_finding bv_X10_finding (by decide) (by decide) (Or.inl ba_X10_shut.2.2.2.2.2.2.1) (T := TX10) (N := 57) rfl (by decide) bp_X10_finding
  · cases h2
theorem bj_X10_shut (l : Launch) : ex_ok l 1 22 bx_X10_shut := ec_okp fo_X10 co_X10 so_X10 (bk_X10_shut l)
theorem bm_X10_shut (l : Launch) : ex_Met l yX10_shut cX10_shut 4 (some .int) 1 22 (ab_sp ab_hd bc_X10_shut) := ab_met (by decide) pn_RX10 rfl (bj_X10_shut l) bd_X10_shut ab_hcm ab_xk bz_X10_shut
theorem ba_X10_gas : ec_al [(1309, Cond.code yX10_gas cX10_gas 5 (some .int)), (68, Cond.initialized yX10_gas.cls), (1307, Cond.instanceMethod yX10_gas), (1308, Cond.selects yX10_gas.cls yX10_gas yX10_gas), (1291, Cond.methodLink RX10 164 yX10_isModule), (1303, Cond.methodLink RX10 171 yX10_isIn), (1282, Cond.methodLink RX10 160 yX10_finding)] := ec_alk (by decide +kernel)
theorem bw_X10_gas : ec_cw yX10_gas cX10_gas 5 (some .int) := ⟨ba_X10_gas.1, ba_X10_gas.2.1, nc_RX10⟩
theorem bv_X10_gas : Cond.instanceMethod yX10_gas ∈ ec_tb ∧ Cond.selects yX10_gas.cls yX10_gas yX10_gas ∈ ec_tb := ⟨ba_X10_gas.2.2.1, ba_X10_gas.2.2.2.1⟩
theorem bp_X10_gas : (parseMethodDescriptor yX10_gas.desc).map (fun d => d.parameters.length) = some 3 := by decide +kernel
theorem bk_X10_gas (l : Launch) : ∀ (ix n : Nat) (rc : Option Nat) (sp : ex_S), (be_X10_gas ix).map (fun q => (q.1, q.2.1, ab_sp ab_hd q.2.2)) = some (n, rc, sp) → ex_cok l RX10 1 22 ix n rc sp := by
  intro ix n rc sp h
  obtain ⟨l0, h2, rfl⟩ := ab_dmk h
  clear h
  unfold be_X10_gas at h2
  split at h2
  · cases h2; exact ec_cV (bm_X10_isModule l) bw_X10_isModule bv_X10_isModule (by decide) (by decide) (Or.inl ba_X10_gas.2.2.2.2.1) (T := TX10) (N := 57) rfl (by decide) bp_X10_isModule
  · cases h2; exact ec_cS (bm_X10_isIn l) bw_X10_isIn bv_X10_isIn (by decide) (by decide) (Or.inl ba_X10_gas.2.2.2.2.2.1) bp_X10_isIn
  · cases h2; exact ec_cV (bm_X10_finding l) bw_X10_finding bv_X10_finding (by decide) (by decide) (Or.inl ba_X10_gas.2.2.2.2.2.2.1) (T := TX10) (N := 57) rfl (by decide) bp_X10_finding
  · cases h2
theorem bj_X10_gas (l : Launch) : ex_ok l 1 22 bx_X10_gas := ec_okp fo_X10 co_X10 so_X10 (bk_X10_gas l)
theorem bm_X10_gas (l : Launch) : ex_Met l yX10_gas cX10_gas 5 (some .int) 1 22 (ab_sp ab_hd bc_X10_gas) := ab_met (by decide) pn_RX10 rfl (bj_X10_gas l) bd_X10_gas ab_hcm ab_xk bz_X10_gas
theorem ba_X10_leak : ec_al [(1314, Cond.code yX10_leak cX10_leak 4 (some .int)), (68, Cond.initialized yX10_leak.cls), (1312, Cond.instanceMethod yX10_leak), (1313, Cond.selects yX10_leak.cls yX10_leak yX10_leak), (1291, Cond.methodLink RX10 164 yX10_isModule), (1303, Cond.methodLink RX10 171 yX10_isIn), (1282, Cond.methodLink RX10 160 yX10_finding)] := ec_alk (by decide +kernel)
theorem bw_X10_leak : ec_cw yX10_leak cX10_leak 4 (some .int) := ⟨ba_X10_leak.1, ba_X10_leak.2.1, nc_RX10⟩
theorem bv_X10_leak : Cond.instanceMethod yX10_leak ∈ ec_tb ∧ Cond.selects yX10_leak.cls yX10_leak yX10_leak ∈ ec_tb := ⟨ba_X10_leak.2.2.1, ba_X10_leak.2.2.2.1⟩
theorem bp_X10_leak : (parseMethodDescriptor yX10_leak.desc).map (fun d => d.parameters.length) = some 2 := by decide +kernel
theorem bk_X10_leak (l : Launch) : ∀ (ix n : Nat) (rc : Option Nat) (sp : ex_S), (be_X10_leak ix).map (fun q => (q.1, q.2.1, ab_sp ab_hd q.2.2)) = some (n, rc, sp) → ex_cok l RX10 1 22 ix n rc sp := by
  intro ix n rc sp h
  obtain ⟨l0, h2, rfl⟩ := ab_dmk h
  clear h
  unfold be_X10_leak at h2
  split at h2
  · cases h2; exact ec_cV (bm_X10_isModule l) bw_X10_isModule bv_X10_isModule (by decide) (by decide) (Or.inl ba_X10_leak.2.2.2.2.1) (T := TX10) (N := 57) rfl (by decide) bp_X10_isModule
  · cases h2; exact ec_cS (bm_X10_isIn l) bw_X10_isIn bv_X10_isIn (by decide) (by decide) (Or.inl ba_X10_leak.2.2.2.2.2.1) bp_X10_isIn
  · cases h2; exact ec_cV (bm_X10_finding l) bw_X10_finding bv_X10_finding (by decide) (by decide) (Or.inl ba_X10_leak.2.2.2.2.2.2.1) (T := TX10) (N := 57) rfl (by decide) bp_X10_finding
  · cases h2
theorem bj_X10_leak (l : Launch) : ex_ok l 1 22 bx_X10_leak := ec_okp fo_X10 co_X10 so_X10 (bk_X10_leak l)
theorem bm_X10_leak (l : Launch) : ex_Met l yX10_leak cX10_leak 4 (some .int) 1 22 (ab_sp ab_hd bc_X10_leak) := ab_met (by decide) pn_RX10 rfl (bj_X10_leak l) bd_X10_leak ab_hcm ab_xk bz_X10_leak
theorem ba_X10_tank : ec_al [(1318, Cond.code yX10_tank cX10_tank 4 (some .int)), (68, Cond.initialized yX10_tank.cls), (1316, Cond.instanceMethod yX10_tank), (1317, Cond.selects yX10_tank.cls yX10_tank yX10_tank), (1303, Cond.methodLink RX10 171 yX10_isIn), (1282, Cond.methodLink RX10 160 yX10_finding)] := ec_alk (by decide +kernel)
theorem bw_X10_tank : ec_cw yX10_tank cX10_tank 4 (some .int) := ⟨ba_X10_tank.1, ba_X10_tank.2.1, nc_RX10⟩
theorem bv_X10_tank : Cond.instanceMethod yX10_tank ∈ ec_tb ∧ Cond.selects yX10_tank.cls yX10_tank yX10_tank ∈ ec_tb := ⟨ba_X10_tank.2.2.1, ba_X10_tank.2.2.2.1⟩
theorem bp_X10_tank : (parseMethodDescriptor yX10_tank.desc).map (fun d => d.parameters.length) = some 2 := by decide +kernel
theorem bk_X10_tank (l : Launch) : ∀ (ix n : Nat) (rc : Option Nat) (sp : ex_S), (be_X10_tank ix).map (fun q => (q.1, q.2.1, ab_sp ab_hd q.2.2)) = some (n, rc, sp) → ex_cok l RX10 1 22 ix n rc sp := by
  intro ix n rc sp h
  obtain ⟨l0, h2, rfl⟩ := ab_dmk h
  clear h
  unfold be_X10_tank at h2
  split at h2
  · cases h2; exact ec_cS (bm_X10_isIn l) bw_X10_isIn bv_X10_isIn (by decide) (by decide) (Or.inl ba_X10_tank.2.2.2.2.1) bp_X10_isIn
  · cases h2; exact ec_cV (bm_X10_finding l) bw_X10_finding bv_X10_finding (by decide) (by decide) (Or.inl ba_X10_tank.2.2.2.2.2.1) (T := TX10) (N := 57) rfl (by decide) bp_X10_finding
  · cases h2
theorem bj_X10_tank (l : Launch) : ex_ok l 1 22 bx_X10_tank := ec_okp fo_X10 co_X10 so_X10 (bk_X10_tank l)
theorem bm_X10_tank (l : Launch) : ex_Met l yX10_tank cX10_tank 4 (some .int) 1 22 (ab_sp ab_hd bc_X10_tank) := ab_met (by decide) pn_RX10 rfl (bj_X10_tank l) bd_X10_tank ab_hcm ab_xk bz_X10_tank
theorem ba_X10_grams : ec_al [(1323, Cond.code yX10_grams cX10_grams 3 (some .int)), (68, Cond.initialized yX10_grams.cls), (1321, Cond.instanceMethod yX10_grams), (1322, Cond.selects yX10_grams.cls yX10_grams yX10_grams)] := ec_alk (by decide +kernel)
theorem bw_X10_grams : ec_cw yX10_grams cX10_grams 3 (some .int) := ⟨ba_X10_grams.1, ba_X10_grams.2.1, nc_RX10⟩
theorem bv_X10_grams : Cond.instanceMethod yX10_grams ∈ ec_tb ∧ Cond.selects yX10_grams.cls yX10_grams yX10_grams ∈ ec_tb := ⟨ba_X10_grams.2.2.1, ba_X10_grams.2.2.2.1⟩
theorem bp_X10_grams : (parseMethodDescriptor yX10_grams.desc).map (fun d => d.parameters.length) = some 0 := by decide +kernel
theorem bj_X10_grams (l : Launch) : ex_ok l 0 0 bx_X10_grams := ec_okp fo_X10 co_X10 so_X10 (ec_okn)
theorem bm_X10_grams (l : Launch) : ex_Met l yX10_grams cX10_grams 3 (some .int) 0 0 (ab_sp ab_hd bc_X10_grams) := ab_met (by decide) pn_RX10 rfl (bj_X10_grams l) bd_X10_grams ab_hcm ab_xk bz_X10_grams
theorem ba_X10_person : ec_al [(1327, Cond.code yX10_person cX10_person 2 (some .int)), (68, Cond.initialized yX10_person.cls), (1325, Cond.instanceMethod yX10_person), (1326, Cond.selects yX10_person.cls yX10_person yX10_person), (1291, Cond.methodLink RX10 164 yX10_isModule), (1282, Cond.methodLink RX10 160 yX10_finding)] := ec_alk (by decide +kernel)
theorem bw_X10_person : ec_cw yX10_person cX10_person 2 (some .int) := ⟨ba_X10_person.1, ba_X10_person.2.1, nc_RX10⟩
theorem bv_X10_person : Cond.instanceMethod yX10_person ∈ ec_tb ∧ Cond.selects yX10_person.cls yX10_person yX10_person ∈ ec_tb := ⟨ba_X10_person.2.2.1, ba_X10_person.2.2.2.1⟩
theorem bp_X10_person : (parseMethodDescriptor yX10_person.desc).map (fun d => d.parameters.length) = some 1 := by decide +kernel
theorem bk_X10_person (l : Launch) : ∀ (ix n : Nat) (rc : Option Nat) (sp : ex_S), (be_X10_person ix).map (fun q => (q.1, q.2.1, ab_sp ab_hd q.2.2)) = some (n, rc, sp) → ex_cok l RX10 1 21 ix n rc sp := by
  intro ix n rc sp h
  obtain ⟨l0, h2, rfl⟩ := ab_dmk h
  clear h
  unfold be_X10_person at h2
  split at h2
  · cases h2; exact ec_cV (bm_X10_isModule l) bw_X10_isModule bv_X10_isModule (by decide) (by decide) (Or.inl ba_X10_person.2.2.2.2.1) (T := TX10) (N := 57) rfl (by decide) bp_X10_isModule
  · cases h2; exact ec_cV (bm_X10_finding l) bw_X10_finding bv_X10_finding (by decide) (by decide) (Or.inl ba_X10_person.2.2.2.2.2.1) (T := TX10) (N := 57) rfl (by decide) bp_X10_finding
  · cases h2
theorem bj_X10_person (l : Launch) : ex_ok l 1 21 bx_X10_person := ec_okp fo_X10 co_X10 so_X10 (bk_X10_person l)
theorem bm_X10_person (l : Launch) : ex_Met l yX10_person cX10_person 2 (some .int) 1 21 (ab_sp ab_hd bc_X10_person) := ab_met (by decide) pn_RX10 rfl (bj_X10_person l) bd_X10_person ab_hcm ab_xk bz_X10_person
theorem ba_X10_canGo : ec_al [(1339, Cond.code yX10_canGo cX10_canGo 5 (some .boolean)), (68, Cond.initialized yX10_canGo.cls), (1338, Cond.instanceMethod yX10_canGo), (30, Cond.selects yX10_canGo.cls yX10_canGo yX10_canGo)] := ec_alk (by decide +kernel)
theorem bw_X10_canGo : ec_cw yX10_canGo cX10_canGo 5 (some .boolean) := ⟨ba_X10_canGo.1, ba_X10_canGo.2.1, nc_RX10⟩
theorem bv_X10_canGo : Cond.instanceMethod yX10_canGo ∈ ec_tb ∧ Cond.selects yX10_canGo.cls yX10_canGo yX10_canGo ∈ ec_tb := ⟨ba_X10_canGo.2.2.1, ba_X10_canGo.2.2.2.1⟩
theorem bp_X10_canGo : (parseMethodDescriptor yX10_canGo.desc).map (fun d => d.parameters.length) = some 2 := by decide +kernel
theorem bj_X10_canGo (l : Launch) : ex_ok l 0 0 bx_X10_canGo := ec_okp fo_X10 co_X10 so_X10 (ec_okn)
theorem bm_X10_canGo (l : Launch) : ex_Met l yX10_canGo cX10_canGo 5 (some .boolean) 0 0 (ab_sp ab_hd bc_X10_canGo) := ab_met (by decide) pn_RX10 rfl (bj_X10_canGo l) bd_X10_canGo ab_hcm ab_xk bz_X10_canGo
theorem ba_X10_go : ec_al [(1331, Cond.code yX10_go cX10_go 3 (some .int)), (68, Cond.initialized yX10_go.cls), (1329, Cond.instanceMethod yX10_go), (1330, Cond.selects yX10_go.cls yX10_go yX10_go), (1332, Cond.methodLink RX10 177 yX10_isPerson), (1291, Cond.methodLink RX10 164 yX10_isModule), (1282, Cond.methodLink RX10 160 yX10_finding), (1336, Cond.methodLink RX10 180 yX10_canGo)] := ec_alk (by decide +kernel)
theorem bw_X10_go : ec_cw yX10_go cX10_go 3 (some .int) := ⟨ba_X10_go.1, ba_X10_go.2.1, nc_RX10⟩
theorem bv_X10_go : Cond.instanceMethod yX10_go ∈ ec_tb ∧ Cond.selects yX10_go.cls yX10_go yX10_go ∈ ec_tb := ⟨ba_X10_go.2.2.1, ba_X10_go.2.2.2.1⟩
theorem bp_X10_go : (parseMethodDescriptor yX10_go.desc).map (fun d => d.parameters.length) = some 2 := by decide +kernel
theorem bk_X10_go (l : Launch) : ∀ (ix n : Nat) (rc : Option Nat) (sp : ex_S), (be_X10_go ix).map (fun q => (q.1, q.2.1, ab_sp ab_hd q.2.2)) = some (n, rc, sp) → ex_cok l RX10 1 24 ix n rc sp := by
  intro ix n rc sp h
  obtain ⟨l0, h2, rfl⟩ := ab_dmk h
  clear h
  unfold be_X10_go at h2
  split at h2
  · cases h2; exact ec_cV (bm_X10_isPerson l) bw_X10_isPerson bv_X10_isPerson (by decide) (by decide) (Or.inl ba_X10_go.2.2.2.2.1) (T := TX10) (N := 57) rfl (by decide) bp_X10_isPerson
  · cases h2; exact ec_cV (bm_X10_isModule l) bw_X10_isModule bv_X10_isModule (by decide) (by decide) (Or.inl ba_X10_go.2.2.2.2.2.1) (T := TX10) (N := 57) rfl (by decide) bp_X10_isModule
  · cases h2; exact ec_cV (bm_X10_finding l) bw_X10_finding bv_X10_finding (by decide) (by decide) (Or.inl ba_X10_go.2.2.2.2.2.2.1) (T := TX10) (N := 57) rfl (by decide) bp_X10_finding
  · cases h2; exact ec_cV (bm_X10_canGo l) bw_X10_canGo bv_X10_canGo (by decide) (by decide) (Or.inl ba_X10_go.2.2.2.2.2.2.2.1) (T := TX10) (N := 57) rfl (by decide) bp_X10_canGo
  · cases h2
theorem bj_X10_go (l : Launch) : ex_ok l 1 24 bx_X10_go := ec_okp fo_X10 co_X10 so_X10 (bk_X10_go l)
theorem bm_X10_go (l : Launch) : ex_Met l yX10_go cX10_go 3 (some .int) 1 24 (ab_sp ab_hd bc_X10_go) := ab_met (by decide) pn_RX10 rfl (bj_X10_go l) bd_X10_go ab_hcm ab_xk bz_X10_go
theorem ba_X10_doing : ec_al [(1343, Cond.code yX10_doing cX10_doing 4 (some .int)), (68, Cond.initialized yX10_doing.cls), (1341, Cond.instanceMethod yX10_doing), (1342, Cond.selects yX10_doing.cls yX10_doing yX10_doing), (1332, Cond.methodLink RX10 177 yX10_isPerson), (1303, Cond.methodLink RX10 171 yX10_isIn), (1282, Cond.methodLink RX10 160 yX10_finding)] := ec_alk (by decide +kernel)
theorem bw_X10_doing : ec_cw yX10_doing cX10_doing 4 (some .int) := ⟨ba_X10_doing.1, ba_X10_doing.2.1, nc_RX10⟩
theorem bv_X10_doing : Cond.instanceMethod yX10_doing ∈ ec_tb ∧ Cond.selects yX10_doing.cls yX10_doing yX10_doing ∈ ec_tb := ⟨ba_X10_doing.2.2.1, ba_X10_doing.2.2.2.1⟩
theorem bp_X10_doing : (parseMethodDescriptor yX10_doing.desc).map (fun d => d.parameters.length) = some 2 := by decide +kernel
theorem bk_X10_doing (l : Launch) : ∀ (ix n : Nat) (rc : Option Nat) (sp : ex_S), (be_X10_doing ix).map (fun q => (q.1, q.2.1, ab_sp ab_hd q.2.2)) = some (n, rc, sp) → ex_cok l RX10 1 22 ix n rc sp := by
  intro ix n rc sp h
  obtain ⟨l0, h2, rfl⟩ := ab_dmk h
  clear h
  unfold be_X10_doing at h2
  split at h2
  · cases h2; exact ec_cV (bm_X10_isPerson l) bw_X10_isPerson bv_X10_isPerson (by decide) (by decide) (Or.inl ba_X10_doing.2.2.2.2.1) (T := TX10) (N := 57) rfl (by decide) bp_X10_isPerson
  · cases h2; exact ec_cS (bm_X10_isIn l) bw_X10_isIn bv_X10_isIn (by decide) (by decide) (Or.inl ba_X10_doing.2.2.2.2.2.1) bp_X10_isIn
  · cases h2; exact ec_cV (bm_X10_finding l) bw_X10_finding bv_X10_finding (by decide) (by decide) (Or.inl ba_X10_doing.2.2.2.2.2.2.1) (T := TX10) (N := 57) rfl (by decide) bp_X10_finding
  · cases h2
theorem bj_X10_doing (l : Launch) : ex_ok l 1 22 bx_X10_doing := ec_okp fo_X10 co_X10 so_X10 (bk_X10_doing l)
theorem bm_X10_doing (l : Launch) : ex_Met l yX10_doing cX10_doing 4 (some .int) 1 22 (ab_sp ab_hd bc_X10_doing) := ab_met (by decide) pn_RX10 rfl (bj_X10_doing l) bd_X10_doing ab_hcm ab_xk bz_X10_doing
