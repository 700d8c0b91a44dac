theorem ba_X10_line : ec_al [(1403, Cond.code yX10_line cX10_line 5 (some .int)), (68, Cond.initialized yX10_line.cls), (1401, Cond.instanceMethod yX10_line), (1402, Cond.selects yX10_line.cls yX10_line yX10_line), (1303, Cond.methodLink RX10 171 yX10_isIn), (1282, Cond.methodLink RX10 160 yX10_finding)] := ec_alk (by decide +kernel)
theorem bw_X10_line : ec_cw yX10_line cX10_line 5 (some .int) := ⟨ba_X10_line.1, ba_X10_line.2.1, nc_RX10⟩
theorem bv_X10_line : Cond.instanceMethod yX10_line ∈ ec_tb ∧ Cond.selects yX10_line.cls yX10_line yX10_line ∈ ec_tb := ⟨ba_X10_line.2.2.1, ba_X10_line.2.2.2.1⟩
theorem bp_X10_line : (parseMethodDescriptor yX10_line.desc).map (fun d => d.parameters.length) = some 4 := by decide +kernel
theorem bk_X10_line (l : Launch) : ∀ (ix n : Nat) (rc : Option Nat) (sp : ex_S), (be_X10_line ix).map (fun q => (q.1, q.2.1, ab_sp ab_hd q.2.2)) = some (n, rc, sp) → ex_cok l RX10 1 22 ix n rc sp := by
  intro ix n rc sp h
  obtain ⟨l0, h2, rfl⟩ := ab_dmk h
  clear h
  unfold be_X10_line at h2
  split at h2
  · cases h2; exact ec_cS (bm_X10_isIn l) bw_X10_isIn bv_X10_isIn (by decide) (by decide) (Or.inl ba_X10_line.2.2.2.2.1) bp_X10_isIn
  · cases h2; exact ec_cV (bm_X10_finding l) bw_X10_finding bv_X10_finding (by decide) (by decide) (Or.inl ba_X10_line.2.2.2.2.2.1) (T := TX10) (N := 57) rfl (by decide) bp_X10_finding
  · cases h2
theorem bj_X10_line (l : Launch) : ex_ok l 1 22 bx_X10_line := ec_okp fo_X10 co_X10 so_X10 (bk_X10_line l)
theorem bm_X10_line (l : Launch) : ex_Met l yX10_line cX10_line 5 (some .int) 1 22 (ab_sp ab_hd bc_X10_line) := ab_met (by decide) pn_RX10 rfl (bj_X10_line l) bd_X10_line ab_hcm ab_xk bz_X10_line
theorem ba_X10_erase : ec_al [(1407, Cond.code yX10_erase cX10_erase 2 (some .int)), (68, Cond.initialized yX10_erase.cls), (1405, Cond.instanceMethod yX10_erase), (1406, Cond.selects yX10_erase.cls yX10_erase yX10_erase), (1282, Cond.methodLink RX10 160 yX10_finding)] := ec_alk (by decide +kernel)
theorem bw_X10_erase : ec_cw yX10_erase cX10_erase 2 (some .int) := ⟨ba_X10_erase.1, ba_X10_erase.2.1, nc_RX10⟩
theorem bv_X10_erase : Cond.instanceMethod yX10_erase ∈ ec_tb ∧ Cond.selects yX10_erase.cls yX10_erase yX10_erase ∈ ec_tb := ⟨ba_X10_erase.2.2.1, ba_X10_erase.2.2.2.1⟩
theorem bp_X10_erase : (parseMethodDescriptor yX10_erase.desc).map (fun d => d.parameters.length) = some 0 := by decide +kernel
theorem bk_X10_erase (l : Launch) : ∀ (ix n : Nat) (rc : Option Nat) (sp : ex_S), (be_X10_erase ix).map (fun q => (q.1, q.2.1, ab_sp ab_hd q.2.2)) = some (n, rc, sp) → ex_cok l RX10 1 21 ix n rc sp := by
  intro ix n rc sp h
  obtain ⟨l0, h2, rfl⟩ := ab_dmk h
  clear h
  unfold be_X10_erase at h2
  split at h2
  · cases h2; exact ec_cV (bm_X10_finding l) bw_X10_finding bv_X10_finding (by decide) (by decide) (Or.inl ba_X10_erase.2.2.2.2.1) (T := TX10) (N := 57) rfl (by decide) bp_X10_finding
  · cases h2
theorem bj_X10_erase (l : Launch) : ex_ok l 1 21 bx_X10_erase := ec_okp fo_X10 co_X10 so_X10 (bk_X10_erase l)
theorem bm_X10_erase (l : Launch) : ex_Met l yX10_erase cX10_erase 2 (some .int) 1 21 (ab_sp ab_hd bc_X10_erase) := ab_met (by decide) pn_RX10 rfl (bj_X10_erase l) bd_X10_erase ab_hcm ab_xk bz_X10_erase
theorem ba_X10_begin : ec_al [(1411, Cond.code yX10_begin cX10_begin 1 (some .int)), (68, Cond.initialized yX10_begin.cls), (1409, Cond.instanceMethod yX10_begin), (1410, Cond.selects yX10_begin.cls yX10_begin yX10_begin), (1282, Cond.methodLink RX10 160 yX10_finding)] := ec_alk (by decide +kernel)
theorem bw_X10_begin : ec_cw yX10_begin cX10_begin 1 (some .int) := ⟨ba_X10_begin.1, ba_X10_begin.2.1, nc_RX10⟩
theorem bv_X10_begin : Cond.instanceMethod yX10_begin ∈ ec_tb ∧ Cond.selects yX10_begin.cls yX10_begin yX10_begin ∈ ec_tb := ⟨ba_X10_begin.2.2.1, ba_X10_begin.2.2.2.1⟩
theorem bp_X10_begin : (parseMethodDescriptor yX10_begin.desc).map (fun d => d.parameters.length) = some 0 := by decide +kernel
theorem bk_X10_begin (l : Launch) : ∀ (ix n : Nat) (rc : Option Nat) (sp : ex_S), (be_X10_begin ix).map (fun q => (q.1, q.2.1, ab_sp ab_hd q.2.2)) = some (n, rc, sp) → ex_cok l RX10 1 21 ix n rc sp := by
  intro ix n rc sp h
  obtain ⟨l0, h2, rfl⟩ := ab_dmk h
  clear h
  unfold be_X10_begin at h2
  split at h2
  · cases h2; exact ec_cV (bm_X10_finding l) bw_X10_finding bv_X10_finding (by decide) (by decide) (Or.inl ba_X10_begin.2.2.2.2.1) (T := TX10) (N := 57) rfl (by decide) bp_X10_finding
  · cases h2
theorem bj_X10_begin (l : Launch) : ex_ok l 1 21 bx_X10_begin := ec_okp fo_X10 co_X10 so_X10 (bk_X10_begin l)
theorem bm_X10_begin (l : Launch) : ex_Met l yX10_begin cX10_begin 1 (some .int) 1 21 (ab_sp ab_hd bc_X10_begin) := ab_met (by decide) pn_RX10 rfl (bj_X10_begin l) bd_X10_begin ab_hcm ab_xk bz_X10_begin
theorem ba_X10_halt : ec_al [(1415, Cond.code yX10_halt cX10_halt 2 (some .int)), (68, Cond.initialized yX10_halt.cls), (1413, Cond.instanceMethod yX10_halt), (1414, Cond.selects yX10_halt.cls yX10_halt yX10_halt), (1303, Cond.methodLink RX10 171 yX10_isIn), (1282, Cond.methodLink RX10 160 yX10_finding)] := ec_alk (by decide +kernel)
theorem bw_X10_halt : ec_cw yX10_halt cX10_halt 2 (some .int) := ⟨ba_X10_halt.1, ba_X10_halt.2.1, nc_RX10⟩
theorem bv_X10_halt : Cond.instanceMethod yX10_halt ∈ ec_tb ∧ Cond.selects yX10_halt.cls yX10_halt yX10_halt ∈ ec_tb := ⟨ba_X10_halt.2.2.1, ba_X10_halt.2.2.2.1⟩
theorem bp_X10_halt : (parseMethodDescriptor yX10_halt.desc).map (fun d => d.parameters.length) = some 1 := by decide +kernel
theorem bk_X10_halt (l : Launch) : ∀ (ix n : Nat) (rc : Option Nat) (sp : ex_S), (be_X10_halt ix).map (fun q => (q.1, q.2.1, ab_sp ab_hd q.2.2)) = some (n, rc, sp) → ex_cok l RX10 1 22 ix n rc sp := by
  intro ix n rc sp h
  obtain ⟨l0, h2, rfl⟩ := ab_dmk h
  clear h
  unfold be_X10_halt at h2
  split at h2
  · cases h2; exact ec_cS (bm_X10_isIn l) bw_X10_isIn bv_X10_isIn (by decide) (by decide) (Or.inl ba_X10_halt.2.2.2.2.1) bp_X10_isIn
  · cases h2; exact ec_cV (bm_X10_finding l) bw_X10_finding bv_X10_finding (by decide) (by decide) (Or.inl ba_X10_halt.2.2.2.2.2.1) (T := TX10) (N := 57) rfl (by decide) bp_X10_finding
  · cases h2
theorem bj_X10_halt (l : Launch) : ex_ok l 1 22 bx_X10_halt := ec_okp fo_X10 co_X10 so_X10 (bk_X10_halt l)
theorem bm_X10_halt (l : Launch) : ex_Met l yX10_halt cX10_halt 2 (some .int) 1 22 (ab_sp ab_hd bc_X10_halt) := ab_met (by decide) pn_RX10 rfl (bj_X10_halt l) bd_X10_halt ab_hcm ab_xk bz_X10_halt
theorem ba_X10_abort : ec_al [(1419, Cond.code yX10_abort cX10_abort 1 (some .int)), (68, Cond.initialized yX10_abort.cls), (1417, Cond.instanceMethod yX10_abort), (1418, Cond.selects yX10_abort.cls yX10_abort yX10_abort), (1282, Cond.methodLink RX10 160 yX10_finding), (1420, Cond.methodLink RX10 225 yX10_abortText)] := ec_alk (by decide +kernel)
theorem bw_X10_abort : ec_cw yX10_abort cX10_abort 1 (some .int) := ⟨ba_X10_abort.1, ba_X10_abort.2.1, nc_RX10⟩
theorem bv_X10_abort : Cond.instanceMethod yX10_abort ∈ ec_tb ∧ Cond.selects yX10_abort.cls yX10_abort yX10_abort ∈ ec_tb := ⟨ba_X10_abort.2.2.1, ba_X10_abort.2.2.2.1⟩
theorem bp_X10_abort : (parseMethodDescriptor yX10_abort.desc).map (fun d => d.parameters.length) = some 0 := by decide +kernel
theorem bk_X10_abort (l : Launch) : ∀ (ix n : Nat) (rc : Option Nat) (sp : ex_S), (be_X10_abort ix).map (fun q => (q.1, q.2.1, ab_sp ab_hd q.2.2)) = some (n, rc, sp) → ex_cok l RX10 2 41 ix n rc sp := by
  intro ix n rc sp h
  obtain ⟨l0, h2, rfl⟩ := ab_dmk h
  clear h
  unfold be_X10_abort at h2
  split at h2
  · cases h2; exact ec_cV (bm_X10_finding l) bw_X10_finding bv_X10_finding (by decide) (by decide) (Or.inl ba_X10_abort.2.2.2.2.1) (T := TX10) (N := 57) rfl (by decide) bp_X10_finding
  · cases h2; exact ec_cV (bm_X10_abortText l) bw_X10_abortText bv_X10_abortText (by decide) (by decide) (Or.inl ba_X10_abort.2.2.2.2.2.1) (T := TX10) (N := 57) rfl (by decide) bp_X10_abortText
  · cases h2
theorem bj_X10_abort (l : Launch) : ex_ok l 2 41 bx_X10_abort := ec_okp fo_X10 co_X10 so_X10 (bk_X10_abort l)
theorem bm_X10_abort (l : Launch) : ex_Met l yX10_abort cX10_abort 1 (some .int) 2 41 (ab_sp ab_hd bc_X10_abort) := ab_met (by decide) pn_RX10 rfl (bj_X10_abort l) bd_X10_abort ab_hcm ab_xk bz_X10_abort
theorem ba_X10_text : ec_al [(1431, Cond.code yX10_text cX10_text 2 (some .int)), (68, Cond.initialized yX10_text.cls), (1429, Cond.instanceMethod yX10_text), (1430, Cond.selects yX10_text.cls yX10_text yX10_text), (1303, Cond.methodLink RX10 171 yX10_isIn), (1282, Cond.methodLink RX10 160 yX10_finding)] := ec_alk (by decide +kernel)
theorem bw_X10_text : ec_cw yX10_text cX10_text 2 (some .int) := ⟨ba_X10_text.1, ba_X10_text.2.1, nc_RX10⟩
theorem bv_X10_text : Cond.instanceMethod yX10_text ∈ ec_tb ∧ Cond.selects yX10_text.cls yX10_text yX10_text ∈ ec_tb := ⟨ba_X10_text.2.2.1, ba_X10_text.2.2.2.1⟩
theorem bp_X10_text : (parseMethodDescriptor yX10_text.desc).map (fun d => d.parameters.length) = some 1 := by decide +kernel
theorem bk_X10_text (l : Launch) : ∀ (ix n : Nat) (rc : Option Nat) (sp : ex_S), (be_X10_text ix).map (fun q => (q.1, q.2.1, ab_sp ab_hd q.2.2)) = some (n, rc, sp) → ex_cok l RX10 1 22 ix n rc sp := by
  intro ix n rc sp h
  obtain ⟨l0, h2, rfl⟩ := ab_dmk h
  clear h
  unfold be_X10_text at h2
  split at h2
  · cases h2; exact ec_cS (bm_X10_isIn l) bw_X10_isIn bv_X10_isIn (by decide) (by decide) (Or.inl ba_X10_text.2.2.2.2.1) bp_X10_isIn
  · cases h2; exact ec_cV (bm_X10_finding l) bw_X10_finding bv_X10_finding (by decide) (by decide) (Or.inl ba_X10_text.2.2.2.2.2.1) (T := TX10) (N := 57) rfl (by decide) bp_X10_finding
  · cases h2
theorem bj_X10_text (l : Launch) : ex_ok l 1 22 bx_X10_text := ec_okp fo_X10 co_X10 so_X10 (bk_X10_text l)
theorem bm_X10_text (l : Launch) : ex_Met l yX10_text cX10_text 2 (some .int) 1 22 (ab_sp ab_hd bc_X10_text) := ab_met (by decide) pn_RX10 rfl (bj_X10_text l) bd_X10_text ab_hcm ab_xk bz_X10_text
theorem ba_X10_mendAll : ec_al [(1478, Cond.code yX10_mendAll cX10_mendAll 2 none), (68, Cond.initialized yX10_mendAll.cls), (1477, Cond.instanceMethod yX10_mendAll), (45, Cond.selects yX10_mendAll.cls yX10_mendAll yX10_mendAll)] := ec_alk (by decide +kernel)
theorem bw_X10_mendAll : ec_cw yX10_mendAll cX10_mendAll 2 none := ⟨ba_X10_mendAll.1, ba_X10_mendAll.2.1, nc_RX10⟩
theorem bv_X10_mendAll : Cond.instanceMethod yX10_mendAll ∈ ec_tb ∧ Cond.selects yX10_mendAll.cls yX10_mendAll yX10_mendAll ∈ ec_tb := ⟨ba_X10_mendAll.2.2.1, ba_X10_mendAll.2.2.2.1⟩
theorem bp_X10_mendAll : (parseMethodDescriptor yX10_mendAll.desc).map (fun d => d.parameters.length) = some 0 := by decide +kernel
theorem bj_X10_mendAll (l : Launch) : ex_ok l 0 0 bx_X10_mendAll := ec_okp fo_X10 co_X10 so_X10 (ec_okn)
theorem bm_X10_mendAll (l : Launch) : ex_Met l yX10_mendAll cX10_mendAll 2 none 0 0 (ab_sp ab_hd bc_X10_mendAll) := ab_met (by decide) pn_RX10 rfl (bj_X10_mendAll l) bd_X10_mendAll ab_hcm ab_xk bz_X10_mendAll
theorem ba_X10_feedAll : ec_al [(1482, Cond.code yX10_feedAll cX10_feedAll 4 none), (68, Cond.initialized yX10_feedAll.cls), (1481, Cond.instanceMethod yX10_feedAll), (46, Cond.selects yX10_feedAll.cls yX10_feedAll yX10_feedAll), (1392, Cond.methodLink RX10 198 yX10_canShed)] := ec_alk (by decide +kernel)
theorem bw_X10_feedAll : ec_cw yX10_feedAll cX10_feedAll 4 none := ⟨ba_X10_feedAll.1, ba_X10_feedAll.2.1, nc_RX10⟩
theorem bv_X10_feedAll : Cond.instanceMethod yX10_feedAll ∈ ec_tb ∧ Cond.selects yX10_feedAll.cls yX10_feedAll yX10_feedAll ∈ ec_tb := ⟨ba_X10_feedAll.2.2.1, ba_X10_feedAll.2.2.2.1⟩
theorem bp_X10_feedAll : (parseMethodDescriptor yX10_feedAll.desc).map (fun d => d.parameters.length) = some 0 := by decide +kernel
theorem bk_X10_feedAll (l : Launch) : ∀ (ix n : Nat) (rc : Option Nat) (sp : ex_S), (be_X10_feedAll ix).map (fun q => (q.1, q.2.1, ab_sp ab_hd q.2.2)) = some (n, rc, sp) → ex_cok l RX10 1 21 ix n rc sp := by
  intro ix n rc sp h
  obtain ⟨l0, h2, rfl⟩ := ab_dmk h
  clear h
  unfold be_X10_feedAll at h2
  split at h2
  · cases h2; exact ec_cV (bm_X10_canShed l) bw_X10_canShed bv_X10_canShed (by decide) (by decide) (Or.inl ba_X10_feedAll.2.2.2.2.1) (T := TX10) (N := 57) rfl (by decide) bp_X10_canShed
  · cases h2
theorem bj_X10_feedAll (l : Launch) : ex_ok l 1 21 bx_X10_feedAll := ec_okp fo_X10 co_X10 so_X10 (bk_X10_feedAll l)
theorem bm_X10_feedAll (l : Launch) : ex_Met l yX10_feedAll cX10_feedAll 4 none 1 21 (ab_sp ab_hd bc_X10_feedAll) := ab_met (by decide) pn_RX10 rfl (bj_X10_feedAll l) bd_X10_feedAll ab_hcm ab_xk bz_X10_feedAll
theorem ba_X10_lesser : ec_al [(1438, Cond.code yX10_lesser cX10_lesser 2 (some .int)), (68, Cond.initialized yX10_lesser.cls), (1437, Cond.static yX10_lesser)] := ec_alk (by decide +kernel)
theorem bw_X10_lesser : ec_cw yX10_lesser cX10_lesser 2 (some .int) := ⟨ba_X10_lesser.1, ba_X10_lesser.2.1, nc_RX10⟩
theorem bv_X10_lesser : Cond.static yX10_lesser ∈ ec_tb := ba_X10_lesser.2.2.1
theorem bp_X10_lesser : (parseMethodDescriptor yX10_lesser.desc).map (fun d => d.parameters.length) = some 2 := by decide +kernel
theorem bj_X10_lesser (l : Launch) : ex_ok l 0 0 bx_X10_lesser := ec_okp fo_X10 co_X10 so_X10 (ec_okn)
theorem bm_X10_lesser (l : Launch) : ex_Met l yX10_lesser cX10_lesser 2 (some .int) 0 0 (ab_sp ab_hd bc_X10_lesser) := ab_met (by decide) pn_RX10 rfl (bj_X10_lesser l) bd_X10_lesser ab_hcm ab_xk bz_X10_lesser
theorem ba_X10_workOf : ec_al [(1486, Cond.code yX10_workOf cX10_workOf 4 none), (68, Cond.initialized yX10_workOf.cls), (1485, Cond.instanceMethod yX10_workOf), (47, Cond.selects yX10_workOf.cls yX10_workOf yX10_workOf), (1436, Cond.methodLink RX10 231 yX10_lesser)] := ec_alk (by decide +kernel)
theorem bw_X10_workOf : ec_cw yX10_workOf cX10_workOf 4 none := ⟨ba_X10_workOf.1, ba_X10_workOf.2.1, nc_RX10⟩
theorem bv_X10_workOf : Cond.instanceMethod yX10_workOf ∈ ec_tb ∧ Cond.selects yX10_workOf.cls yX10_workOf yX10_workOf ∈ ec_tb := ⟨ba_X10_workOf.2.2.1, ba_X10_workOf.2.2.2.1⟩
theorem bp_X10_workOf : (parseMethodDescriptor yX10_workOf.desc).map (fun d => d.parameters.length) = some 1 := by decide +kernel
theorem bk_X10_workOf (l : Launch) : ∀ (ix n : Nat) (rc : Option Nat) (sp : ex_S), (be_X10_workOf ix).map (fun q => (q.1, q.2.1, ab_sp ab_hd q.2.2)) = some (n, rc, sp) → ex_cok l RX10 1 21 ix n rc sp := by
  intro ix n rc sp h
  obtain ⟨l0, h2, rfl⟩ := ab_dmk h
  clear h
  unfold be_X10_workOf at h2
  split at h2
  · cases h2; exact ec_cS (bm_X10_lesser l) bw_X10_lesser bv_X10_lesser (by decide) (by decide) (Or.inl ba_X10_workOf.2.2.2.2.1) bp_X10_lesser
  · cases h2
theorem bj_X10_workOf (l : Launch) : ex_ok l 1 21 bx_X10_workOf := ec_okp fo_X10 co_X10 so_X10 (bk_X10_workOf l)
theorem bm_X10_workOf (l : Launch) : ex_Met l yX10_workOf cX10_workOf 4 none 1 21 (ab_sp ab_hd bc_X10_workOf) := ab_met (by decide) pn_RX10 rfl (bj_X10_workOf l) bd_X10_workOf ab_hcm ab_xk bz_X10_workOf
theorem ba_X10_breathe : ec_al [(1490, Cond.code yX10_breathe cX10_breathe 5 none), (68, Cond.initialized yX10_breathe.cls), (1489, Cond.instanceMethod yX10_breathe), (48, Cond.selects yX10_breathe.cls yX10_breathe yX10_breathe), (1436, Cond.methodLink RX10 231 yX10_lesser)] := ec_alk (by decide +kernel)
theorem bw_X10_breathe : ec_cw yX10_breathe cX10_breathe 5 none := ⟨ba_X10_breathe.1, ba_X10_breathe.2.1, nc_RX10⟩
theorem bv_X10_breathe : Cond.instanceMethod yX10_breathe ∈ ec_tb ∧ Cond.selects yX10_breathe.cls yX10_breathe yX10_breathe ∈ ec_tb := ⟨ba_X10_breathe.2.2.1, ba_X10_breathe.2.2.2.1⟩
theorem bp_X10_breathe : (parseMethodDescriptor yX10_breathe.desc).map (fun d => d.parameters.length) = some 1 := by decide +kernel
theorem bk_X10_breathe (l : Launch) : ∀ (ix n : Nat) (rc : Option Nat) (sp : ex_S), (be_X10_breathe ix).map (fun q => (q.1, q.2.1, ab_sp ab_hd q.2.2)) = some (n, rc, sp) → ex_cok l RX10 1 21 ix n rc sp := by
  intro ix n rc sp h
  obtain ⟨l0, h2, rfl⟩ := ab_dmk h
  clear h
  unfold be_X10_breathe at h2
  split at h2
  · cases h2; exact ec_cS (bm_X10_lesser l) bw_X10_lesser bv_X10_lesser (by decide) (by decide) (Or.inl ba_X10_breathe.2.2.2.2.1) bp_X10_lesser
  · cases h2
theorem bj_X10_breathe (l : Launch) : ex_ok l 1 21 bx_X10_breathe := ec_okp fo_X10 co_X10 so_X10 (bk_X10_breathe l)
theorem bm_X10_breathe (l : Launch) : ex_Met l yX10_breathe cX10_breathe 5 none 1 21 (ab_sp ab_hd bc_X10_breathe) := ab_met (by decide) pn_RX10 rfl (bj_X10_breathe l) bd_X10_breathe ab_hcm ab_xk bz_X10_breathe
theorem ba_X10_leakAll : ec_al [(1494, Cond.code yX10_leakAll cX10_leakAll 3 none), (68, Cond.initialized yX10_leakAll.cls), (1493, Cond.instanceMethod yX10_leakAll), (49, Cond.selects yX10_leakAll.cls yX10_leakAll yX10_leakAll)] := ec_alk (by decide +kernel)
theorem bw_X10_leakAll : ec_cw yX10_leakAll cX10_leakAll 3 none := ⟨ba_X10_leakAll.1, ba_X10_leakAll.2.1, nc_RX10⟩
theorem bv_X10_leakAll : Cond.instanceMethod yX10_leakAll ∈ ec_tb ∧ Cond.selects yX10_leakAll.cls yX10_leakAll yX10_leakAll ∈ ec_tb := ⟨ba_X10_leakAll.2.2.1, ba_X10_leakAll.2.2.2.1⟩
theorem bp_X10_leakAll : (parseMethodDescriptor yX10_leakAll.desc).map (fun d => d.parameters.length) = some 0 := by decide +kernel
theorem bj_X10_leakAll (l : Launch) : ex_ok l 0 0 bx_X10_leakAll := ⟨ec_fok fo_X10, ec_cok co_X10, so_X10, ec_okn, fun _ h => (by cases h), fun _ h => (by cases h), fun _ h => (by cases h), lo_X10⟩
theorem bm_X10_leakAll (l : Launch) : ex_Met l yX10_leakAll cX10_leakAll 3 none 0 0 (ab_sp ab_hd bc_X10_leakAll) := ab_met (by decide) pn_RX10 rfl (bj_X10_leakAll l) bd_X10_leakAll ab_hcm ab_xk bz_X10_leakAll
theorem ba_X10_mixAll : ec_al [(1499, Cond.code yX10_mixAll cX10_mixAll 4 none), (68, Cond.initialized yX10_mixAll.cls), (1498, Cond.instanceMethod yX10_mixAll), (50, Cond.selects yX10_mixAll.cls yX10_mixAll yX10_mixAll)] := ec_alk (by decide +kernel)
theorem bw_X10_mixAll : ec_cw yX10_mixAll cX10_mixAll 4 none := ⟨ba_X10_mixAll.1, ba_X10_mixAll.2.1, nc_RX10⟩
theorem bv_X10_mixAll : Cond.instanceMethod yX10_mixAll ∈ ec_tb ∧ Cond.selects yX10_mixAll.cls yX10_mixAll yX10_mixAll ∈ ec_tb := ⟨ba_X10_mixAll.2.2.1, ba_X10_mixAll.2.2.2.1⟩
theorem bp_X10_mixAll : (parseMethodDescriptor yX10_mixAll.desc).map (fun d => d.parameters.length) = some 0 := by decide +kernel
theorem bj_X10_mixAll (l : Launch) : ex_ok l 0 0 bx_X10_mixAll := ec_okp fo_X10 co_X10 so_X10 (ec_okn)
theorem bm_X10_mixAll (l : Launch) : ex_Met l yX10_mixAll cX10_mixAll 4 none 0 0 (ab_sp ab_hd bc_X10_mixAll) := ab_met (by decide) pn_RX10 rfl (bj_X10_mixAll l) bd_X10_mixAll ab_hcm ab_xk bz_X10_mixAll
theorem ba_X10_brokenAt : ec_al [(1503, Cond.code yX10_brokenAt cX10_brokenAt 4 (some .int)), (68, Cond.initialized yX10_brokenAt.cls), (1502, Cond.instanceMethod yX10_brokenAt), (51, Cond.selects yX10_brokenAt.cls yX10_brokenAt yX10_brokenAt)] := ec_alk (by decide +kernel)
theorem bw_X10_brokenAt : ec_cw yX10_brokenAt cX10_brokenAt 4 (some .int) := ⟨ba_X10_brokenAt.1, ba_X10_brokenAt.2.1, nc_RX10⟩
theorem bv_X10_brokenAt : Cond.instanceMethod yX10_brokenAt ∈ ec_tb ∧ Cond.selects yX10_brokenAt.cls yX10_brokenAt yX10_brokenAt ∈ ec_tb := ⟨ba_X10_brokenAt.2.2.1, ba_X10_brokenAt.2.2.2.1⟩
theorem bp_X10_brokenAt : (parseMethodDescriptor yX10_brokenAt.desc).map (fun d => d.parameters.length) = some 0 := by decide +kernel
theorem bj_X10_brokenAt (l : Launch) : ex_ok l 0 0 bx_X10_brokenAt := ec_okp fo_X10 co_X10 so_X10 (ec_okn)
theorem bm_X10_brokenAt (l : Launch) : ex_Met l yX10_brokenAt cX10_brokenAt 4 (some .int) 0 0 (ab_sp ab_hd bc_X10_brokenAt) := ab_met (by decide) pn_RX10 rfl (bj_X10_brokenAt l) bd_X10_brokenAt ab_hcm ab_xk bz_X10_brokenAt
theorem ba_X10_tick : ec_al [(1454, Cond.code yX10_tick cX10_tick 2 (some .boolean)), (68, Cond.initialized yX10_tick.cls), (1453, Cond.instanceMethod yX10_tick), (39, Cond.selects yX10_tick.cls yX10_tick yX10_tick), (1455, Cond.methodLink RX10 237 yX10_runText), (1475, Cond.methodLink RX10 240 yX10_mendAll), (1479, Cond.methodLink RX10 243 yX10_feedAll), (1483, Cond.methodLink RX10 246 yX10_workOf), (1487, Cond.methodLink RX10 249 yX10_breathe), (1491, Cond.methodLink RX10 252 yX10_leakAll), (1496, Cond.methodLink RX10 255 yX10_mixAll), (1500, Cond.methodLink RX10 258 yX10_brokenAt)] := ec_alk (by decide +kernel)
theorem bw_X10_tick : ec_cw yX10_tick cX10_tick 2 (some .boolean) := ⟨ba_X10_tick.1, ba_X10_tick.2.1, nc_RX10⟩
theorem bv_X10_tick : Cond.instanceMethod yX10_tick ∈ ec_tb ∧ Cond.selects yX10_tick.cls yX10_tick yX10_tick ∈ ec_tb := ⟨ba_X10_tick.2.2.1, ba_X10_tick.2.2.2.1⟩
theorem bp_X10_tick : (parseMethodDescriptor yX10_tick.desc).map (fun d => d.parameters.length) = some 0 := by decide +kernel
theorem bk_X10_tick (l : Launch) : ∀ (ix n : Nat) (rc : Option Nat) (sp : ex_S), (be_X10_tick ix).map (fun q => (q.1, q.2.1, ab_sp ab_hd q.2.2)) = some (n, rc, sp) → ex_cok l RX10 4 91 ix n rc sp := by
  intro ix n rc sp h
  obtain ⟨l0, h2, rfl⟩ := ab_dmk h
  clear h
  unfold be_X10_tick at h2
  split at h2
  · cases h2; exact ec_cV (bm_X10_runText l) bw_X10_runText bv_X10_runText (by decide) (by decide) (Or.inl ba_X10_tick.2.2.2.2.1) (T := TX10) (N := 57) rfl (by decide) bp_X10_runText
  · cases h2; exact ec_cV (bm_X10_mendAll l) bw_X10_mendAll bv_X10_mendAll (by decide) (by decide) (Or.inl ba_X10_tick.2.2.2.2.2.1) (T := TX10) (N := 57) rfl (by decide) bp_X10_mendAll
  · cases h2; exact ec_cV (bm_X10_feedAll l) bw_X10_feedAll bv_X10_feedAll (by decide) (by decide) (Or.inl ba_X10_tick.2.2.2.2.2.2.1) (T := TX10) (N := 57) rfl (by decide) bp_X10_feedAll
  · cases h2; exact ec_cV (bm_X10_workOf l) bw_X10_workOf bv_X10_workOf (by decide) (by decide) (Or.inl ba_X10_tick.2.2.2.2.2.2.2.1) (T := TX10) (N := 57) rfl (by decide) bp_X10_workOf
  · cases h2; exact ec_cV (bm_X10_breathe l) bw_X10_breathe bv_X10_breathe (by decide) (by decide) (Or.inl ba_X10_tick.2.2.2.2.2.2.2.2.1) (T := TX10) (N := 57) rfl (by decide) bp_X10_breathe
  · cases h2; exact ec_cV (bm_X10_leakAll l) bw_X10_leakAll bv_X10_leakAll (by decide) (by decide) (Or.inl ba_X10_tick.2.2.2.2.2.2.2.2.2.1) (T := TX10) (N := 57) rfl (by decide) bp_X10_leakAll
  · cases h2; exact ec_cV (bm_X10_mixAll l) bw_X10_mixAll bv_X10_mixAll (by decide) (by decide) (Or.inl ba_X10_tick.2.2.2.2.2.2.2.2.2.2.1) (T := TX10) (N := 57) rfl (by decide) bp_X10_mixAll
  · cases h2; exact ec_cV (bm_X10_brokenAt l) bw_X10_brokenAt bv_X10_brokenAt (by decide) (by decide) (Or.inl ba_X10_tick.2.2.2.2.2.2.2.2.2.2.2.1) (T := TX10) (N := 57) rfl (by decide) bp_X10_brokenAt
  · cases h2
theorem bj_X10_tick (l : Launch) : ex_ok l 4 91 bx_X10_tick := ec_okp fo_X10 co_X10 so_X10 (bk_X10_tick l)
theorem bm_X10_tick (l : Launch) : ex_Met l yX10_tick cX10_tick 2 (some .boolean) 4 91 (ab_sp ab_hd bc_X10_tick) := ab_met (by decide) pn_RX10 rfl (bj_X10_tick l) bd_X10_tick ab_hcm ab_xk bz_X10_tick
theorem ba_X10_sun : ec_al [(1435, Cond.code yX10_sun cX10_sun 3 (some .int)), (68, Cond.initialized yX10_sun.cls), (1433, Cond.instanceMethod yX10_sun), (1434, Cond.selects yX10_sun.cls yX10_sun yX10_sun), (1303, Cond.methodLink RX10 171 yX10_isIn), (1282, Cond.methodLink RX10 160 yX10_finding), (1436, Cond.methodLink RX10 231 yX10_lesser)] := ec_alk (by decide +kernel)
theorem bw_X10_sun : ec_cw yX10_sun cX10_sun 3 (some .int) := ⟨ba_X10_sun.1, ba_X10_sun.2.1, nc_RX10⟩
theorem bv_X10_sun : Cond.instanceMethod yX10_sun ∈ ec_tb ∧ Cond.selects yX10_sun.cls yX10_sun yX10_sun ∈ ec_tb := ⟨ba_X10_sun.2.2.1, ba_X10_sun.2.2.2.1⟩
theorem bp_X10_sun : (parseMethodDescriptor yX10_sun.desc).map (fun d => d.parameters.length) = some 2 := by decide +kernel
theorem bk_X10_sun (l : Launch) : ∀ (ix n : Nat) (rc : Option Nat) (sp : ex_S), (be_X10_sun ix).map (fun q => (q.1, q.2.1, ab_sp ab_hd q.2.2)) = some (n, rc, sp) → ex_cok l RX10 1 22 ix n rc sp := by
  intro ix n rc sp h
  obtain ⟨l0, h2, rfl⟩ := ab_dmk h
  clear h
  unfold be_X10_sun at h2
  split at h2
  · cases h2; exact ec_cS (bm_X10_isIn l) bw_X10_isIn bv_X10_isIn (by decide) (by decide) (Or.inl ba_X10_sun.2.2.2.2.1) bp_X10_isIn
  · cases h2; exact ec_cV (bm_X10_finding l) bw_X10_finding bv_X10_finding (by decide) (by decide) (Or.inl ba_X10_sun.2.2.2.2.2.1) (T := TX10) (N := 57) rfl (by decide) bp_X10_finding
  · cases h2; exact ec_cS (bm_X10_lesser l) bw_X10_lesser bv_X10_lesser (by decide) (by decide) (Or.inl ba_X10_sun.2.2.2.2.2.2.1) bp_X10_lesser
  · cases h2
theorem bj_X10_sun (l : Launch) : ex_ok l 1 22 bx_X10_sun := ec_okp fo_X10 co_X10 so_X10 (bk_X10_sun l)
theorem bm_X10_sun (l : Launch) : ex_Met l yX10_sun cX10_sun 3 (some .int) 1 22 (ab_sp ab_hd bc_X10_sun) := ab_met (by decide) pn_RX10 rfl (bj_X10_sun l) bd_X10_sun ab_hcm ab_xk bz_X10_sun
theorem ba_X10_battery : ec_al [(1442, Cond.code yX10_battery cX10_battery 3 (some .int)), (68, Cond.initialized yX10_battery.cls), (1440, Cond.instanceMethod yX10_battery), (1441, Cond.selects yX10_battery.cls yX10_battery yX10_battery), (1303, Cond.methodLink RX10 171 yX10_isIn), (1282, Cond.methodLink RX10 160 yX10_finding)] := ec_alk (by decide +kernel)
theorem bw_X10_battery : ec_cw yX10_battery cX10_battery 3 (some .int) := ⟨ba_X10_battery.1, ba_X10_battery.2.1, nc_RX10⟩
theorem bv_X10_battery : Cond.instanceMethod yX10_battery ∈ ec_tb ∧ Cond.selects yX10_battery.cls yX10_battery yX10_battery ∈ ec_tb := ⟨ba_X10_battery.2.2.1, ba_X10_battery.2.2.2.1⟩
theorem bp_X10_battery : (parseMethodDescriptor yX10_battery.desc).map (fun d => d.parameters.length) = some 1 := by decide +kernel
theorem bk_X10_battery (l : Launch) : ∀ (ix n : Nat) (rc : Option Nat) (sp : ex_S), (be_X10_battery ix).map (fun q => (q.1, q.2.1, ab_sp ab_hd q.2.2)) = some (n, rc, sp) → ex_cok l RX10 1 22 ix n rc sp := by
  intro ix n rc sp h
  obtain ⟨l0, h2, rfl⟩ := ab_dmk h
  clear h
  unfold be_X10_battery at h2
  split at h2
  · cases h2; exact ec_cS (bm_X10_isIn l) bw_X10_isIn bv_X10_isIn (by decide) (by decide) (Or.inl ba_X10_battery.2.2.2.2.1) bp_X10_isIn
  · cases h2; exact ec_cV (bm_X10_finding l) bw_X10_finding bv_X10_finding (by decide) (by decide) (Or.inl ba_X10_battery.2.2.2.2.2.1) (T := TX10) (N := 57) rfl (by decide) bp_X10_finding
  · cases h2
theorem bj_X10_battery (l : Launch) : ex_ok l 1 22 bx_X10_battery := ec_okp fo_X10 co_X10 so_X10 (bk_X10_battery l)
theorem bm_X10_battery (l : Launch) : ex_Met l yX10_battery cX10_battery 3 (some .int) 1 22 (ab_sp ab_hd bc_X10_battery) := ab_met (by decide) pn_RX10 rfl (bj_X10_battery l) bd_X10_battery ab_hcm ab_xk bz_X10_battery
theorem ba_X10_bounds : ec_al [(1446, Cond.code yX10_bounds cX10_bounds 4 (some .int)), (68, Cond.initialized yX10_bounds.cls), (1444, Cond.instanceMethod yX10_bounds), (1445, Cond.selects yX10_bounds.cls yX10_bounds yX10_bounds), (1303, Cond.methodLink RX10 171 yX10_isIn), (1282, Cond.methodLink RX10 160 yX10_finding)] := ec_alk (by decide +kernel)
theorem bw_X10_bounds : ec_cw yX10_bounds cX10_bounds 4 (some .int) := ⟨ba_X10_bounds.1, ba_X10_bounds.2.1, nc_RX10⟩
theorem bv_X10_bounds : Cond.instanceMethod yX10_bounds ∈ ec_tb ∧ Cond.selects yX10_bounds.cls yX10_bounds yX10_bounds ∈ ec_tb := ⟨ba_X10_bounds.2.2.1, ba_X10_bounds.2.2.2.1⟩
theorem bp_X10_bounds : (parseMethodDescriptor yX10_bounds.desc).map (fun d => d.parameters.length) = some 3 := by decide +kernel
theorem bk_X10_bounds (l : Launch) : ∀ (ix n : Nat) (rc : Option Nat) (sp : ex_S), (be_X10_bounds ix).map (fun q => (q.1, q.2.1, ab_sp ab_hd q.2.2)) = some (n, rc, sp) → ex_cok l RX10 1 22 ix n rc sp := by
  intro ix n rc sp h
  obtain ⟨l0, h2, rfl⟩ := ab_dmk h
  clear h
  unfold be_X10_bounds at h2
  split at h2
  · cases h2; exact ec_cS (bm_X10_isIn l) bw_X10_isIn bv_X10_isIn (by decide) (by decide) (Or.inl ba_X10_bounds.2.2.2.2.1) bp_X10_isIn
  · cases h2; exact ec_cV (bm_X10_finding l) bw_X10_finding bv_X10_finding (by decide) (by decide) (Or.inl ba_X10_bounds.2.2.2.2.2.1) (T := TX10) (N := 57) rfl (by decide) bp_X10_finding
  · cases h2
theorem bj_X10_bounds (l : Launch) : ex_ok l 1 22 bx_X10_bounds := ec_okp fo_X10 co_X10 so_X10 (bk_X10_bounds l)
theorem bm_X10_bounds (l : Launch) : ex_Met l yX10_bounds cX10_bounds 4 (some .int) 1 22 (ab_sp ab_hd bc_X10_bounds) := ab_met (by decide) pn_RX10 rfl (bj_X10_bounds l) bd_X10_bounds ab_hcm ab_xk bz_X10_bounds
theorem ba_X10_ticks : ec_al [(1450, Cond.code yX10_ticks cX10_ticks 4 (some .int)), (68, Cond.initialized yX10_ticks.cls), (1448, Cond.instanceMethod yX10_ticks), (1449, Cond.selects yX10_ticks.cls yX10_ticks yX10_ticks), (1303, Cond.methodLink RX10 171 yX10_isIn), (1282, Cond.methodLink RX10 160 yX10_finding), (1451, Cond.methodLink RX10 262 yX10_tick)] := ec_alk (by decide +kernel)
theorem bw_X10_ticks : ec_cw yX10_ticks cX10_ticks 4 (some .int) := ⟨ba_X10_ticks.1, ba_X10_ticks.2.1, nc_RX10⟩
theorem bv_X10_ticks : Cond.instanceMethod yX10_ticks ∈ ec_tb ∧ Cond.selects yX10_ticks.cls yX10_ticks yX10_ticks ∈ ec_tb := ⟨ba_X10_ticks.2.2.1, ba_X10_ticks.2.2.2.1⟩
theorem bp_X10_ticks : (parseMethodDescriptor yX10_ticks.desc).map (fun d => d.parameters.length) = some 1 := by decide +kernel
theorem bk_X10_ticks (l : Launch) : ∀ (ix n : Nat) (rc : Option Nat) (sp : ex_S), (be_X10_ticks ix).map (fun q => (q.1, q.2.1, ab_sp ab_hd q.2.2)) = some (n, rc, sp) → ex_cok l RX10 5 112 ix n rc sp := by
  intro ix n rc sp h
  obtain ⟨l0, h2, rfl⟩ := ab_dmk h
  clear h
  unfold be_X10_ticks at h2
  split at h2
  · cases h2; exact ec_cS (bm_X10_isIn l) bw_X10_isIn bv_X10_isIn (by decide) (by decide) (Or.inl ba_X10_ticks.2.2.2.2.1) bp_X10_isIn
  · cases h2; exact ec_cV (bm_X10_finding l) bw_X10_finding bv_X10_finding (by decide) (by decide) (Or.inl ba_X10_ticks.2.2.2.2.2.1) (T := TX10) (N := 57) rfl (by decide) bp_X10_finding
  · cases h2; exact ec_cV (bm_X10_tick l) bw_X10_tick bv_X10_tick (by decide) (by decide) (Or.inl ba_X10_ticks.2.2.2.2.2.2.1) (T := TX10) (N := 57) rfl (by decide) bp_X10_tick
  · cases h2
theorem bj_X10_ticks (l : Launch) : ex_ok l 5 112 bx_X10_ticks := ec_okp fo_X10 co_X10 so_X10 (bk_X10_ticks l)
theorem bm_X10_ticks (l : Launch) : ex_Met l yX10_ticks cX10_ticks 4 (some .int) 5 112 (ab_sp ab_hd bc_X10_ticks) := ab_met (by decide) pn_RX10 rfl (bj_X10_ticks l) bd_X10_ticks ab_hcm ab_xk bz_X10_ticks
theorem ba_X10_broke : ec_al [(1507, Cond.code yX10_broke cX10_broke 2 (some .int)), (68, Cond.initialized yX10_broke.cls), (1505, Cond.instanceMethod yX10_broke), (1506, Cond.selects yX10_broke.cls yX10_broke yX10_broke), (1303, Cond.methodLink RX10 171 yX10_isIn), (1282, Cond.methodLink RX10 160 yX10_finding)] := ec_alk (by decide +kernel)
theorem bw_X10_broke : ec_cw yX10_broke cX10_broke 2 (some .int) := ⟨ba_X10_broke.1, ba_X10_broke.2.1, nc_RX10⟩
theorem bv_X10_broke : Cond.instanceMethod yX10_broke ∈ ec_tb ∧ Cond.selects yX10_broke.cls yX10_broke yX10_broke ∈ ec_tb := ⟨ba_X10_broke.2.2.1, ba_X10_broke.2.2.2.1⟩
theorem bp_X10_broke : (parseMethodDescriptor yX10_broke.desc).map (fun d => d.parameters.length) = some 1 := by decide +kernel
theorem bk_X10_broke (l : Launch) : ∀ (ix n : Nat) (rc : Option Nat) (sp : ex_S), (be_X10_broke ix).map (fun q => (q.1, q.2.1, ab_sp ab_hd q.2.2)) = some (n, rc, sp) → ex_cok l RX10 1 22 ix n rc sp := by
  intro ix n rc sp h
  obtain ⟨l0, h2, rfl⟩ := ab_dmk h
  clear h
  unfold be_X10_broke at h2
  split at h2
  · cases h2; exact ec_cS (bm_X10_isIn l) bw_X10_isIn bv_X10_isIn (by decide) (by decide) (Or.inl ba_X10_broke.2.2.2.2.1) bp_X10_isIn
  · cases h2; exact ec_cV (bm_X10_finding l) bw_X10_finding bv_X10_finding (by decide) (by decide) (Or.inl ba_X10_broke.2.2.2.2.2.1) (T := TX10) (N := 57) rfl (by decide) bp_X10_finding
  · cases h2
theorem bj_X10_broke (l : Launch) : ex_ok l 1 22 bx_X10_broke := ec_okp fo_X10 co_X10 so_X10 (bk_X10_broke l)
theorem bm_X10_broke (l : Launch) : ex_Met l yX10_broke cX10_broke 2 (some .int) 1 22 (ab_sp ab_hd bc_X10_broke) := ab_met (by decide) pn_RX10 rfl (bj_X10_broke l) bd_X10_broke ab_hcm ab_xk bz_X10_broke
theorem ba_X10_lays : ec_al [(1519, Cond.code yX10_lays cX10_lays 4 none), (68, Cond.initialized yX10_lays.cls), (1518, Cond.instanceMethod yX10_lays), (53, Cond.selects yX10_lays.cls yX10_lays yX10_lays)] := ec_alk (by decide +kernel)
theorem bw_X10_lays : ec_cw yX10_lays cX10_lays 4 none := ⟨ba_X10_lays.1, ba_X10_lays.2.1, nc_RX10⟩
theorem bv_X10_lays : Cond.instanceMethod yX10_lays ∈ ec_tb ∧ Cond.selects yX10_lays.cls yX10_lays yX10_lays ∈ ec_tb := ⟨ba_X10_lays.2.2.1, ba_X10_lays.2.2.2.1⟩
theorem bp_X10_lays : (parseMethodDescriptor yX10_lays.desc).map (fun d => d.parameters.length) = some 2 := by decide +kernel
theorem bj_X10_lays (l : Launch) : ex_ok l 0 0 bx_X10_lays := ec_okp fo_X10 co_X10 so_X10 (ec_okn)
theorem bm_X10_lays (l : Launch) : ex_Met l yX10_lays cX10_lays 4 none 0 0 (ab_sp ab_hd bc_X10_lays) := ab_met (by decide) pn_RX10 rfl (bj_X10_lays l) bd_X10_lays ab_hcm ab_xk bz_X10_lays
theorem ba_X10_layAside : ec_al [(1515, Cond.code yX10_layAside cX10_layAside 2 none), (68, Cond.initialized yX10_layAside.cls), (1514, Cond.instanceMethod yX10_layAside), (52, Cond.selects yX10_layAside.cls yX10_layAside yX10_layAside), (1516, Cond.methodLink RX10 269 yX10_lays)] := ec_alk (by decide +kernel)
theorem bw_X10_layAside : ec_cw yX10_layAside cX10_layAside 2 none := ⟨ba_X10_layAside.1, ba_X10_layAside.2.1, nc_RX10⟩
theorem bv_X10_layAside : Cond.instanceMethod yX10_layAside ∈ ec_tb ∧ Cond.selects yX10_layAside.cls yX10_layAside yX10_layAside ∈ ec_tb := ⟨ba_X10_layAside.2.2.1, ba_X10_layAside.2.2.2.1⟩
theorem bp_X10_layAside : (parseMethodDescriptor yX10_layAside.desc).map (fun d => d.parameters.length) = some 1 := by decide +kernel
theorem bk_X10_layAside (l : Launch) : ∀ (ix n : Nat) (rc : Option Nat) (sp : ex_S), (be_X10_layAside ix).map (fun q => (q.1, q.2.1, ab_sp ab_hd q.2.2)) = some (n, rc, sp) → ex_cok l RX10 1 23 ix n rc sp := by
  intro ix n rc sp h
  obtain ⟨l0, h2, rfl⟩ := ab_dmk h
  clear h
  unfold be_X10_layAside at h2
  split at h2
  · cases h2; exact ec_cV (bm_X10_lays l) bw_X10_lays bv_X10_lays (by decide) (by decide) (Or.inl ba_X10_layAside.2.2.2.2.1) (T := TX10) (N := 57) rfl (by decide) bp_X10_lays
  · cases h2
theorem bj_X10_layAside (l : Launch) : ex_ok l 1 23 bx_X10_layAside := ec_okp fo_X10 co_X10 so_X10 (bk_X10_layAside l)
theorem bm_X10_layAside (l : Launch) : ex_Met l yX10_layAside cX10_layAside 2 none 1 23 (ab_sp ab_hd bc_X10_layAside) := ab_met (by decide) pn_RX10 rfl (bj_X10_layAside l) bd_X10_layAside ab_hcm ab_xk bz_X10_layAside
theorem ba_X10_ahead : ec_al [(1511, Cond.code yX10_ahead cX10_ahead 4 (some .int)), (68, Cond.initialized yX10_ahead.cls), (1509, Cond.instanceMethod yX10_ahead), (1510, Cond.selects yX10_ahead.cls yX10_ahead yX10_ahead), (1303, Cond.methodLink RX10 171 yX10_isIn), (1282, Cond.methodLink RX10 160 yX10_finding), (1512, Cond.methodLink RX10 273 yX10_layAside), (1451, Cond.methodLink RX10 262 yX10_tick)] := ec_alk (by decide +kernel)
theorem bw_X10_ahead : ec_cw yX10_ahead cX10_ahead 4 (some .int) := ⟨ba_X10_ahead.1, ba_X10_ahead.2.1, nc_RX10⟩
theorem bv_X10_ahead : Cond.instanceMethod yX10_ahead ∈ ec_tb ∧ Cond.selects yX10_ahead.cls yX10_ahead yX10_ahead ∈ ec_tb := ⟨ba_X10_ahead.2.2.1, ba_X10_ahead.2.2.2.1⟩
theorem bp_X10_ahead : (parseMethodDescriptor yX10_ahead.desc).map (fun d => d.parameters.length) = some 1 := by decide +kernel
theorem bk_X10_ahead (l : Launch) : ∀ (ix n : Nat) (rc : Option Nat) (sp : ex_S), (be_X10_ahead ix).map (fun q => (q.1, q.2.1, ab_sp ab_hd q.2.2)) = some (n, rc, sp) → ex_cok l RX10 5 112 ix n rc sp := by
  intro ix n rc sp h
  obtain ⟨l0, h2, rfl⟩ := ab_dmk h
  clear h
  unfold be_X10_ahead at h2
  split at h2
  · cases h2; exact ec_cS (bm_X10_isIn l) bw_X10_isIn bv_X10_isIn (by decide) (by decide) (Or.inl ba_X10_ahead.2.2.2.2.1) bp_X10_isIn
  · cases h2; exact ec_cV (bm_X10_finding l) bw_X10_finding bv_X10_finding (by decide) (by decide) (Or.inl ba_X10_ahead.2.2.2.2.2.1) (T := TX10) (N := 57) rfl (by decide) bp_X10_finding
  · cases h2; exact ec_cV (bm_X10_layAside l) bw_X10_layAside bv_X10_layAside (by decide) (by decide) (Or.inl ba_X10_ahead.2.2.2.2.2.2.1) (T := TX10) (N := 57) rfl (by decide) bp_X10_layAside
  · cases h2; exact ec_cV (bm_X10_tick l) bw_X10_tick bv_X10_tick (by decide) (by decide) (Or.inl ba_X10_ahead.2.2.2.2.2.2.2.1) (T := TX10) (N := 57) rfl (by decide) bp_X10_tick
  · cases h2
theorem bj_X10_ahead (l : Launch) : ex_ok l 5 112 bx_X10_ahead := ec_okp fo_X10 co_X10 so_X10 (bk_X10_ahead l)
theorem bm_X10_ahead (l : Launch) : ex_Met l yX10_ahead cX10_ahead 4 (some .int) 5 112 (ab_sp ab_hd bc_X10_ahead) := ab_met (by decide) pn_RX10 rfl (bj_X10_ahead l) bd_X10_ahead ab_hcm ab_xk bz_X10_ahead
theorem ba_X10_partOf : ec_al [(1531, Cond.code yX10_partOf cX10_partOf 7 (some .int)), (68, Cond.initialized yX10_partOf.cls), (1530, Cond.instanceMethod yX10_partOf), (54, Cond.selects yX10_partOf.cls yX10_partOf yX10_partOf)] := ec_alk (by decide +kernel)
theorem bw_X10_partOf : ec_cw yX10_partOf cX10_partOf 7 (some .int) := ⟨ba_X10_partOf.1, ba_X10_partOf.2.1, nc_RX10⟩
theorem bv_X10_partOf : Cond.instanceMethod yX10_partOf ∈ ec_tb ∧ Cond.selects yX10_partOf.cls yX10_partOf yX10_partOf ∈ ec_tb := ⟨ba_X10_partOf.2.2.1, ba_X10_partOf.2.2.2.1⟩
theorem bp_X10_partOf : (parseMethodDescriptor yX10_partOf.desc).map (fun d => d.parameters.length) = some 2 := by decide +kernel
theorem bj_X10_partOf (l : Launch) : ex_ok l 0 0 bx_X10_partOf := ec_okp fo_X10 co_X10 so_X10 (ec_okn)
theorem dX10_partOf_0 : decode cX10_partOf 0 = .ok (.iconst 1, 1) := by decide +kernel
theorem dX10_partOf_1 : decode cX10_partOf 1 = .ok (.iload_n 1, 1) := by decide +kernel
theorem dX10_partOf_2 : decode cX10_partOf 2 = .ok (.ishl, 1) := by decide +kernel
theorem dX10_partOf_3 : decode cX10_partOf 3 = .ok (.istore_n 3, 1) := by decide +kernel
theorem dX10_partOf_4 : decode cX10_partOf 4 = .ok (.iconst 0, 1) := by decide +kernel
theorem dX10_partOf_5 : decode cX10_partOf 5 = .ok (.istore 4, 2) := by decide +kernel
theorem dX10_partOf_7 : decode cX10_partOf 7 = .ok (.iload_n 3, 1) := by decide +kernel
theorem dX10_partOf_8 : decode cX10_partOf 8 = .ok (.iload 4, 2) := by decide +kernel
theorem dX10_partOf_10 : decode cX10_partOf 10 = .ok (.if_icmp .eq 104, 3) := by decide +kernel
theorem dX10_partOf_13 : decode cX10_partOf 13 = .ok (.iload_n 3, 1) := by decide +kernel
theorem dX10_partOf_14 : decode cX10_partOf 14 = .ok (.istore 4, 2) := by decide +kernel
theorem dX10_partOf_16 : decode cX10_partOf 16 = .ok (.iconst 0, 1) := by decide +kernel
theorem dX10_partOf_17 : decode cX10_partOf 17 = .ok (.istore 5, 2) := by decide +kernel
theorem dX10_partOf_19 : decode cX10_partOf 19 = .ok (.iload 5, 2) := by decide +kernel
theorem dX10_partOf_21 : decode cX10_partOf 21 = .ok (.aload_n 0, 1) := by decide +kernel
theorem dX10_partOf_22 : decode cX10_partOf 22 = .ok (.getfield 151, 3) := by decide +kernel
theorem dX10_partOf_25 : decode cX10_partOf 25 = .ok (.if_icmp .ge 86, 3) := by decide +kernel
theorem dX10_partOf_28 : decode cX10_partOf 28 = .ok (.iload_n 3, 1) := by decide +kernel
theorem dX10_partOf_29 : decode cX10_partOf 29 = .ok (.aload_n 0, 1) := by decide +kernel
theorem dX10_partOf_30 : decode cX10_partOf 30 = .ok (.getfield 19, 3) := by decide +kernel
theorem dX10_partOf_33 : decode cX10_partOf 33 = .ok (.iload 5, 2) := by decide +kernel
theorem dX10_partOf_35 : decode cX10_partOf 35 = .ok (.iaload, 1) := by decide +kernel
theorem dX10_partOf_36 : decode cX10_partOf 36 = .ok (.ishr, 1) := by decide +kernel
theorem dX10_partOf_37 : decode cX10_partOf 37 = .ok (.iconst 1, 1) := by decide +kernel
theorem dX10_partOf_38 : decode cX10_partOf 38 = .ok (.iand, 1) := by decide +kernel
theorem dX10_partOf_39 : decode cX10_partOf 39 = .ok (.iconst 1, 1) := by decide +kernel
theorem dX10_partOf_40 : decode cX10_partOf 40 = .ok (.if_icmp .eq 18, 3) := by decide +kernel
theorem dX10_partOf_43 : decode cX10_partOf 43 = .ok (.iload_n 3, 1) := by decide +kernel
theorem dX10_partOf_44 : decode cX10_partOf 44 = .ok (.aload_n 0, 1) := by decide +kernel
theorem dX10_partOf_45 : decode cX10_partOf 45 = .ok (.getfield 22, 3) := by decide +kernel
theorem dX10_partOf_48 : decode cX10_partOf 48 = .ok (.iload 5, 2) := by decide +kernel
theorem dX10_partOf_50 : decode cX10_partOf 50 = .ok (.iaload, 1) := by decide +kernel
theorem dX10_partOf_51 : decode cX10_partOf 51 = .ok (.ishr, 1) := by decide +kernel
theorem dX10_partOf_52 : decode cX10_partOf 52 = .ok (.iconst 1, 1) := by decide +kernel
theorem dX10_partOf_53 : decode cX10_partOf 53 = .ok (.iand, 1) := by decide +kernel
theorem dX10_partOf_54 : decode cX10_partOf 54 = .ok (.iconst 1, 1) := by decide +kernel
theorem dX10_partOf_55 : decode cX10_partOf 55 = .ok (.if_icmp .ne 7, 3) := by decide +kernel
theorem dX10_partOf_58 : decode cX10_partOf 58 = .ok (.iconst 1, 1) := by decide +kernel
theorem dX10_partOf_59 : decode cX10_partOf 59 = .ok (.goto 4, 3) := by decide +kernel
theorem dX10_partOf_62 : decode cX10_partOf 62 = .ok (.iconst 0, 1) := by decide +kernel
theorem dX10_partOf_63 : decode cX10_partOf 63 = .ok (.istore 6, 2) := by decide +kernel
theorem dX10_partOf_65 : decode cX10_partOf 65 = .ok (.iload_n 3, 1) := by decide +kernel
theorem dX10_partOf_66 : decode cX10_partOf 66 = .ok (.iload_n 2, 1) := by decide +kernel
theorem dX10_partOf_67 : decode cX10_partOf 67 = .ok (.iload 5, 2) := by decide +kernel
theorem dX10_partOf_69 : decode cX10_partOf 69 = .ok (.ishr, 1) := by decide +kernel
theorem dX10_partOf_70 : decode cX10_partOf 70 = .ok (.iconst 1, 1) := by decide +kernel
theorem dX10_partOf_71 : decode cX10_partOf 71 = .ok (.iand, 1) := by decide +kernel
theorem dX10_partOf_72 : decode cX10_partOf 72 = .ok (.ifCond .ne 30, 3) := by decide +kernel
theorem dX10_partOf_75 : decode cX10_partOf 75 = .ok (.iload 6, 2) := by decide +kernel
theorem dX10_partOf_77 : decode cX10_partOf 77 = .ok (.ifCond .eq 25, 3) := by decide +kernel
theorem dX10_partOf_80 : decode cX10_partOf 80 = .ok (.iconst 1, 1) := by decide +kernel
theorem dX10_partOf_81 : decode cX10_partOf 81 = .ok (.aload_n 0, 1) := by decide +kernel
theorem dX10_partOf_82 : decode cX10_partOf 82 = .ok (.getfield 19, 3) := by decide +kernel
theorem dX10_partOf_85 : decode cX10_partOf 85 = .ok (.iload 5, 2) := by decide +kernel
theorem dX10_partOf_87 : decode cX10_partOf 87 = .ok (.iaload, 1) := by decide +kernel
theorem dX10_partOf_88 : decode cX10_partOf 88 = .ok (.ishl, 1) := by decide +kernel
theorem dX10_partOf_89 : decode cX10_partOf 89 = .ok (.iconst 1, 1) := by decide +kernel
theorem dX10_partOf_90 : decode cX10_partOf 90 = .ok (.aload_n 0, 1) := by decide +kernel
theorem dX10_partOf_91 : decode cX10_partOf 91 = .ok (.getfield 22, 3) := by decide +kernel
theorem dX10_partOf_94 : decode cX10_partOf 94 = .ok (.iload 5, 2) := by decide +kernel
theorem dX10_partOf_96 : decode cX10_partOf 96 = .ok (.iaload, 1) := by decide +kernel
theorem dX10_partOf_97 : decode cX10_partOf 97 = .ok (.ishl, 1) := by decide +kernel
theorem dX10_partOf_98 : decode cX10_partOf 98 = .ok (.ior, 1) := by decide +kernel
theorem dX10_partOf_99 : decode cX10_partOf 99 = .ok (.goto 4, 3) := by decide +kernel
theorem dX10_partOf_102 : decode cX10_partOf 102 = .ok (.iconst 0, 1) := by decide +kernel
theorem dX10_partOf_103 : decode cX10_partOf 103 = .ok (.ior, 1) := by decide +kernel
theorem dX10_partOf_104 : decode cX10_partOf 104 = .ok (.istore_n 3, 1) := by decide +kernel
theorem dX10_partOf_105 : decode cX10_partOf 105 = .ok (.iinc 5 1, 3) := by decide +kernel
theorem dX10_partOf_108 : decode cX10_partOf 108 = .ok (.goto (-89), 3) := by decide +kernel
theorem dX10_partOf_111 : decode cX10_partOf 111 = .ok (.goto (-104), 3) := by decide +kernel
theorem dX10_partOf_114 : decode cX10_partOf 114 = .ok (.iload_n 3, 1) := by decide +kernel
theorem dX10_partOf_115 : decode cX10_partOf 115 = .ok (.ireturn, 1) := by decide +kernel
def po_J7 (m c : Int32) (cs0 : ex_C) : Nat → ex_L → ex_V → ex_C → Prop := fun n lv st cs => st = [] ∧ cs = cs0 ∧ ∃ (k : Nat) (set was : Int32) (x5 x6 : Option Value), lv = [some (.ref 76), some (.int m), some (.int c), some (.int set), some (.int was), x5, x6] ∧ set = pw_k (gi cs0 76 4).toNatClampNeg c (gi cs0 80) (gi cs0 81) m.toNatClampNeg k ∧ ((k = 0 ∧ was.toInt = 0) ∨ ∃ k', k = k' + 1 ∧ was = pw_k (gi cs0 76 4).toNatClampNeg c (gi cs0 80) (gi cs0 81) m.toNatClampNeg k') ∧ 0 ≤ was.toInt ∧ was.toInt ≤ set.toInt ∧ set.toInt ≤ 63 ∧ (n : Int) = 20 * (64 - was.toInt)
def po_J19 (m c : Int32) (cs0 : ex_C) : Nat → ex_L → ex_V → ex_C → Prop := fun n lv st cs => st = [] ∧ cs = cs0 ∧ ∃ (k : Nat) (set was h : Int32) (x6 : Option Value), lv = [some (.ref 76), some (.int m), some (.int c), some (.int set), some (.int was), some (.int h), x6] ∧ was = pw_k (gi cs0 76 4).toNatClampNeg c (gi cs0 80) (gi cs0 81) m.toNatClampNeg k ∧ set = pw_p c (gi cs0 80) (gi cs0 81) was h.toNatClampNeg ∧ 0 ≤ was.toInt ∧ was.toInt ≤ set.toInt ∧ set.toInt ≤ 63 ∧ 0 ≤ h.toInt ∧ h.toInt ≤ (gi cs0 76 4).toInt ∧ (n : Int) = 20 * (64 - was.toInt) + 10 - h.toInt
def po_I (m c : Int32) (cs0 : ex_C) (pc : Nat) : Option (Nat → ex_L → ex_V → ex_C → Prop) := if pc = 7 then some (po_J7 m c cs0) else if pc = 19 then some (po_J19 m c cs0) else none
def po_B (m c : Int32) (cs0 : ex_C) (n : Nat) : Nat → Option (ex_L → ex_V → ex_C → Prop) := fun pc => (po_I m c cs0 pc).map (fun J' lv st cs => ∃ n', n' < n ∧ J' n' lv st cs)
def po_A (m c : Int32) (cs0 : ex_C) : Nat → Option (ex_L → ex_V → ex_C → Prop) := fun pc => (po_I m c cs0 pc).map (fun J' lv st cs => ∃ n', J' n' lv st cs)
theorem po_1p {c s : Int32} {f g : Nat → Int32} {h : Int32} (h1 : 0 ≤ h.toInt) (h2 : h.toInt ≤ 63) {S : Int32} (hs : S = pw_p c f g s h.toNatClampNeg) (hc : ((c >>> (h &&& 31)) &&& 1).toInt = (0 : Int32).toInt) (hb : ((S >>> (f h.toNatClampNeg &&& 31)) &&& 1).toInt = (1 : Int32).toInt ∨ ((S >>> (g h.toNatClampNeg &&& 31)) &&& 1).toInt = (1 : Int32).toInt) : (S ||| (((1 : Int32) <<< (f h.toNatClampNeg &&& 31)) ||| ((1 : Int32) <<< (g h.toNatClampNeg &&& 31)))) = pw_p c f g s (h + Int32.ofInt 1).toNatClampNeg := by
  rw [hu_n1 h1 (by omega)]
  show _ = pw_1 c f g h.toNatClampNeg (pw_p c f g s h.toNatClampNeg)
  rw [← hs]
  unfold pw_1
  have hc' : pb c (Int32.ofNat h.toNatClampNeg) = 0 := by
    rw [← pn_nat h1 h2]
    exact hu_bit.1 hc
  rw [if_pos ⟨hc', hb.imp hu_bit.1 hu_bit.1⟩]
theorem po_end {H : Nat} {c : Int32} {f g : Nat → Int32} {m k : Nat} {set was : Int32} (hm6 : m < 6) (hf : ∀ k, k < H → 0 ≤ (f k).toInt ∧ (f k).toInt ≤ 5) (hg : ∀ k, k < H → 0 ≤ (g k).toInt ∧ (g k).toInt ≤ 5) (hset : set = pw_k H c f g m k) (hw : (k = 0 ∧ was.toInt = 0) ∨ ∃ k', k = k' + 1 ∧ was = pw_k H c f g m k') (q : set.toInt = was.toInt) : set = pw_k H c f g m 64 := by
  rcases hw with ⟨rfl, hw⟩ | ⟨k', rfl, hw⟩
  · exfalso
    have h1 := (pk_sh hm6).2
    have e : set = (1 : Int32) <<< (Int32.ofNat m &&& 31) := hset
    rw [← e] at h1
    omega
  · have e := (hset.symm.trans (Int32.toInt_inj.mp q)).trans hw
    rw [hset, e]
    exact pw_end hm6 hf hg e
theorem po_or0 : ∀ x : Int32, x ||| 0 = x := fun x => by simp
theorem po_0p {c s : Int32} {f g : Nat → Int32} {h : Int32} (h1 : 0 ≤ h.toInt) (h2 : h.toInt ≤ 63) {S : Int32} (hs : S = pw_p c f g s h.toNatClampNeg) (hq : ¬ ((c >>> (h &&& 31)) &&& 1).toInt = (0 : Int32).toInt ∨ (¬ ((S >>> (f h.toNatClampNeg &&& 31)) &&& 1).toInt = (1 : Int32).toInt ∧ ¬ ((S >>> (g h.toNatClampNeg &&& 31)) &&& 1).toInt = (1 : Int32).toInt)) : (S ||| 0) = pw_p c f g s (h + Int32.ofInt 1).toNatClampNeg := by
  rw [hu_n1 h1 (by omega), po_or0]
  show _ = pw_1 c f g h.toNatClampNeg (pw_p c f g s h.toNatClampNeg)
  rw [← hs]
  unfold pw_1
  rw [if_neg]
  rintro ⟨q1, q2⟩
  rcases hq with hq | hq
  · apply hq
    refine hu_bit.2 ?_
    rw [← pn_nat h1 h2] at q1
    exact q1
  · rcases q2 with q2 | q2
    · exact hq.1 (hu_bit.2 q2)
    · exact hq.2 (hu_bit.2 q2)
set_option maxRecDepth 100000 in
set_option maxHeartbeats 4000000 in
theorem po_w7 {cs : ex_C} {Q : ex_Q} {m c : Int32} (hk1 : ab_hk ab_hd cs) (m1 : 0 ≤ m.toInt) (m2 : m.toInt ≤ 5) (hQ : ∀ r cs', ab_hk ab_hd cs' → ab_fr [] cs cs' → r = pw_k (gi cs 76 4).toNatClampNeg c (gi cs 80) (gi cs 81) m.toNatClampNeg 64 → Q (some (.int r)) cs') {n k : Nat} {set was : Int32} {x5 x6 : Option Value} (hset : set = pw_k (gi cs 76 4).toNatClampNeg c (gi cs 80) (gi cs 81) m.toNatClampNeg k) (hw : (k = 0 ∧ was.toInt = 0) ∨ ∃ k', k = k' + 1 ∧ was = pw_k (gi cs 76 4).toNatClampNeg c (gi cs 80) (gi cs 81) m.toNatClampNeg k') (b1 : 0 ≤ was.toInt) (b2 : was.toInt ≤ set.toInt) (b3 : set.toInt ≤ 63) (hn : (n : Int) = 20 * (64 - was.toInt)) : ex_wp ec_xt bx_X10_partOf cX10_partOf (some .int) (po_B m c cs n) Q 60 7 [some (.ref 76), some (.int m), some (.int c), some (.int set), some (.int was), x5, x6] [] cs := by
  have z0 := ab_z0
  obtain ⟨ms, h76, ml, m0, m4, m39, m5, m6, h80, h81, ⟨M1, M2⟩, ⟨H1, H2⟩, E80, E81⟩ := hu_mod hk1
  have n4 : (gi cs 76 4).toNatClampNeg = (gi cs 76 4).toInt.toNat := rfl
  have nm : m.toNatClampNeg = m.toInt.toNat := rfl
  have hm6 : m.toNatClampNeg < 6 := by omega
  have F80 : ∀ k, k < (gi cs 76 4).toNatClampNeg → 0 ≤ (gi cs 80 k).toInt ∧ (gi cs 80 k).toInt ≤ 5 := fun k hk => E80 k (by omega)
  have F81 : ∀ k, k < (gi cs 76 4).toNatClampNeg → 0 ≤ (gi cs 81 k).toInt ∧ (gi cs 81 k).toInt ≤ 5 := fun k hk => E81 k (by omega)
  refine wq_iload_n dX10_partOf_7 rfl rfl ?_
  refine go_wp rfl (wq_iload dX10_partOf_8 rfl rfl ?_)
  refine go_wp rfl (wq_icmp_eq (t := 114) dX10_partOf_10 (by decide) rfl (fun q1 => ?_) (fun q1 => ?_))
  · have q1' : Int32.toInt set = Int32.toInt was := (ab_ieq (x := set) (y := was)).1 q1
    refine go_wp rfl (wq_iload_n dX10_partOf_114 rfl rfl ?_)
    refine go_wp rfl (wq_ireturn dX10_partOf_115 trivial (hQ _ _ hk1 ab_rf0 (po_end hm6 F80 F81 hset hw q1')))
  · have q1' : Int32.toInt set ≠ Int32.toInt was := (ab_ieq (x := set) (y := was)).2 q1
    refine go_wp rfl (wq_iload_n dX10_partOf_13 rfl rfl ?_)
    refine go_wp rfl (wq_istore (lv' := [some (.ref 76), some (.int m), some (.int c), some (.int set), some (.int set), x5, x6]) dX10_partOf_14 ⟨Nat.le_of_ble_eq_true rfl, rfl⟩ rfl rfl ?_)
    refine go_wp rfl (wq_iconst (v := 0) dX10_partOf_16 (by decide) rfl ?_)
    refine go_wp rfl (wq_istore (lv' := [some (.ref 76), some (.int m), some (.int c), some (.int set), some (.int set), some (.int 0), x6]) dX10_partOf_17 ⟨Nat.le_of_ble_eq_true rfl, rfl⟩ rfl rfl ?_)
    exact go_cut rfl ⟨(20 * (64 - set.toInt) + 10).toNat, (by omega), rfl, rfl, k, _, _, _, _, rfl, hset, rfl, (by omega), (by omega), (by omega), (by rw [ab_z0]; omega), (by rw [ab_z0]; omega), (by rw [ab_z0]; omega)⟩
set_option maxRecDepth 100000 in
set_option maxHeartbeats 4000000 in
theorem po_w19 {cs : ex_C} {Q : ex_Q} {m c : Int32} (hk1 : ab_hk ab_hd cs) (m1 : 0 ≤ m.toInt) (m2 : m.toInt ≤ 5) {n k : Nat} {set was h : Int32} {x6 : Option Value} (hw : was = pw_k (gi cs 76 4).toNatClampNeg c (gi cs 80) (gi cs 81) m.toNatClampNeg k) (hset : set = pw_p c (gi cs 80) (gi cs 81) was h.toNatClampNeg) (b1 : 0 ≤ was.toInt) (b2 : was.toInt ≤ set.toInt) (b3 : set.toInt ≤ 63) (b4 : 0 ≤ h.toInt) (b5 : h.toInt ≤ (gi cs 76 4).toInt) (hn : (n : Int) = 20 * (64 - was.toInt) + 10 - h.toInt) : ex_wp ec_xt bx_X10_partOf cX10_partOf (some .int) (po_B m c cs n) Q 60 19 [some (.ref 76), some (.int m), some (.int c), some (.int set), some (.int was), some (.int h), x6] [] cs := by
  have z0 := ab_z0
  obtain ⟨ms, h76, ml, m0, m4, m39, m5, m6, h80, h81, ⟨M1, M2⟩, ⟨H1, H2⟩, E80, E81⟩ := hu_mod hk1
  have n4 : (gi cs 76 4).toNatClampNeg = (gi cs 76 4).toInt.toNat := rfl
  have nm : m.toNatClampNeg = m.toInt.toNat := rfl
  have hm6 : m.toNatClampNeg < 6 := by omega
  have F80 : ∀ k, k < (gi cs 76 4).toNatClampNeg → 0 ≤ (gi cs 80 k).toInt ∧ (gi cs 80 k).toInt ≤ 5 := fun k hk => E80 k (by omega)
  have F81 : ∀ k, k < (gi cs 76 4).toNatClampNeg → 0 ≤ (gi cs 81 k).toInt ∧ (gi cs 81 k).toInt ≤ 5 := fun k hk => E81 k (by omega)
  have nh : h.toNatClampNeg = h.toInt.toNat := rfl
  have x80 : h.toInt < 8 → 0 ≤ (gi cs 80 h.toNatClampNeg).toInt ∧ (gi cs 80 h.toNatClampNeg).toInt ≤ 5 := fun h => E80 _ (by omega)
  have x81 : h.toInt < 8 → 0 ≤ (gi cs 81 h.toNatClampNeg).toInt ∧ (gi cs 81 h.toNatClampNeg).toInt ≤ 5 := fun h => E81 _ (by omega)
  refine wq_iload dX10_partOf_19 rfl rfl ?_
  refine go_wp rfl (wq_aload_n dX10_partOf_21 rfl rfl ?_)
  refine go_wp rfl (wq_getfield dX10_partOf_22 fe_X10_151 h76 m4 rfl ?_)
  refine go_wp rfl (wq_icmp_ge (t := 111) dX10_partOf_25 (by decide) rfl (fun q1 => ?_) (fun q1 => ?_))
  · have q1' : Int32.toInt h ≥ Int32.toInt (gi cs 76 4) := (ab_ige (x := h) (y := (gi cs 76 4))).1 q1
    refine go_wp rfl (wq_goto (t := 7) dX10_partOf_111 (by decide) ?_)
    have eh : h = gi cs 76 4 := Int32.toInt_inj.mp (by omega)
    rw [eh] at hset
    exact go_cut rfl ⟨(20 * (64 - was.toInt)).toNat, (by omega), rfl, rfl, k + 1, _, _, _, _, rfl, (by rw [hset, hw]; rfl), Or.inr ⟨k, rfl, hw⟩, (by omega), (by omega), (by omega), (by omega)⟩
  · have q1' : Int32.toInt h < Int32.toInt (gi cs 76 4) := (ab_ige (x := h) (y := (gi cs 76 4))).2 q1
    refine go_wp rfl (wq_iload_n dX10_partOf_28 rfl rfl ?_)
    refine go_wp rfl (wq_aload_n dX10_partOf_29 rfl rfl ?_)
    refine go_wp rfl (wq_getfield dX10_partOf_30 fe_X10_19 h76 m5 rfl ?_)
    refine go_wp rfl (wq_iload dX10_partOf_33 rfl rfl ?_)
    refine go_wp rfl (wq_iaload (v := ((gi cs 80) h.toNatClampNeg)) dX10_partOf_35 (by decide) h80 (vp_mk (by omega) (by omega)) rfl rfl ?_)
    refine go_wp rfl (wq_ishr (v := (set >>> (((gi cs 80) h.toNatClampNeg) &&& 31))) dX10_partOf_36 rfl rfl ?_)
    refine go_wp rfl (wq_iconst (v := 1) dX10_partOf_37 (by decide) rfl ?_)
    refine go_wp rfl (wq_iand (v := ((set >>> (((gi cs 80) h.toNatClampNeg) &&& 31)) &&& 1)) dX10_partOf_38 rfl rfl ?_)
    refine go_wp rfl (wq_iconst (v := 1) dX10_partOf_39 (by decide) rfl ?_)
    refine go_wp rfl (wq_icmp_eq (t := 58) dX10_partOf_40 (by decide) rfl (fun q2 => ?_) (fun q2 => ?_))
    · have q2' : Int32.toInt ((set >>> (((gi cs 80) h.toNatClampNeg) &&& 31)) &&& 1) = Int32.toInt 1 := (ab_ieq (x := ((set >>> (((gi cs 80) h.toNatClampNeg) &&& 31)) &&& 1)) (y := 1)).1 q2
      refine go_wp rfl (wq_iconst (v := 1) dX10_partOf_58 (by decide) rfl ?_)
      refine go_wp rfl (wq_goto (t := 63) dX10_partOf_59 (by decide) ?_)
      refine go_wp rfl (wq_istore (lv' := [some (.ref 76), some (.int m), some (.int c), some (.int set), some (.int was), some (.int h), some (.int 1)]) dX10_partOf_63 ⟨Nat.le_of_ble_eq_true rfl, rfl⟩ rfl rfl ?_)
      refine go_wp rfl (wq_iload_n dX10_partOf_65 rfl rfl ?_)
      refine go_wp rfl (wq_iload_n dX10_partOf_66 rfl rfl ?_)
      refine go_wp rfl (wq_iload dX10_partOf_67 rfl rfl ?_)
      refine go_wp rfl (wq_ishr (v := (c >>> (h &&& 31))) dX10_partOf_69 rfl rfl ?_)
      refine go_wp rfl (wq_iconst (v := 1) dX10_partOf_70 (by decide) rfl ?_)
      refine go_wp rfl (wq_iand (v := ((c >>> (h &&& 31)) &&& 1)) dX10_partOf_71 rfl rfl ?_)
      refine go_wp rfl (wq_if_ne (t := 102) dX10_partOf_72 (by decide) rfl (fun q3 => ?_) (fun q3 => ?_))
      · have q3' : Int32.toInt ((c >>> (h &&& 31)) &&& 1) ≠ Int32.toInt 0 := (ab_ieq (x := ((c >>> (h &&& 31)) &&& 1)) (y := 0)).2 q3
        refine go_wp rfl (wq_iconst (v := 0) dX10_partOf_102 (by decide) rfl ?_)
        refine go_wp rfl (wq_ior (v := (set ||| 0)) dX10_partOf_103 rfl rfl ?_)
        refine go_wp rfl (wq_istore_n (lv' := [some (.ref 76), some (.int m), some (.int c), some (.int (set ||| 0)), some (.int was), some (.int h), some (.int 1)]) dX10_partOf_104 ⟨Nat.le_of_ble_eq_true rfl, rfl⟩ rfl rfl ?_)
        refine go_wp rfl (wq_iinc (v := (h + Int32.ofInt 1)) (lv' := [some (.ref 76), some (.int m), some (.int c), some (.int (set ||| 0)), some (.int was), some (.int (h + Int32.ofInt 1)), some (.int 1)]) dX10_partOf_105 rfl ⟨Nat.le_of_ble_eq_true rfl, rfl⟩ rfl rfl rfl ?_)
        refine go_wp rfl (wq_goto (t := 19) dX10_partOf_108 (by decide) ?_)
        have hi := ab_inc (x := h) (by omega) (by omega)
        have e2 := po_0p b4 (by omega) hset (Or.inl q3')
        have pp := pw_pk (c := c) (s := was) ⟨b1, by omega⟩ F80 F81 (h + Int32.ofInt 1).toNatClampNeg (by have : (h + Int32.ofInt 1).toNatClampNeg = (h + Int32.ofInt 1).toInt.toNat := rfl; omega)
        rw [← e2] at pp
        obtain ⟨⟨p1, p2⟩, p3, -⟩ := pp
        exact go_cut rfl ⟨(20 * (64 - was.toInt) + 10 - (h.toInt + 1)).toNat, (by omega), rfl, rfl, k, _, _, _, _, rfl, hw, e2, (by omega), (by omega), (by omega), (by omega), (by omega), (by omega)⟩
      · have q3' : Int32.toInt ((c >>> (h &&& 31)) &&& 1) = Int32.toInt 0 := (ab_ieq (x := ((c >>> (h &&& 31)) &&& 1)) (y := 0)).1 q3
        refine go_wp rfl (wq_iload dX10_partOf_75 rfl rfl ?_)
        refine go_wp rfl (wq_if_eq (t := 102) dX10_partOf_77 (by decide) rfl (fun q4 => ?_) (fun q4 => ?_))
        · have q4' : Int32.toInt 1 = Int32.toInt 0 := (ab_ieq (x := 1) (y := 0)).1 q4
          refine go_wp rfl (wq_iconst (v := 0) dX10_partOf_102 (by decide) rfl ?_)
          refine go_wp rfl (wq_ior (v := (set ||| 0)) dX10_partOf_103 rfl rfl ?_)
          refine go_wp rfl (wq_istore_n (lv' := [some (.ref 76), some (.int m), some (.int c), some (.int (set ||| 0)), some (.int was), some (.int h), some (.int 1)]) dX10_partOf_104 ⟨Nat.le_of_ble_eq_true rfl, rfl⟩ rfl rfl ?_)
          refine go_wp rfl (wq_iinc (v := (h + Int32.ofInt 1)) (lv' := [some (.ref 76), some (.int m), some (.int c), some (.int (set ||| 0)), some (.int was), some (.int (h + Int32.ofInt 1)), some (.int 1)]) dX10_partOf_105 rfl ⟨Nat.le_of_ble_eq_true rfl, rfl⟩ rfl rfl rfl ?_)
          refine go_wp rfl (wq_goto (t := 19) dX10_partOf_108 (by decide) ?_)
          have hi := ab_inc (x := h) (by omega) (by omega)
          exact absurd q4' (by decide)
        · have q4' : Int32.toInt 1 ≠ Int32.toInt 0 := (ab_ieq (x := 1) (y := 0)).2 q4
          refine go_wp rfl (wq_iconst (v := 1) dX10_partOf_80 (by decide) rfl ?_)
          refine go_wp rfl (wq_aload_n dX10_partOf_81 rfl rfl ?_)
          refine go_wp rfl (wq_getfield dX10_partOf_82 fe_X10_19 h76 m5 rfl ?_)
          refine go_wp rfl (wq_iload dX10_partOf_85 rfl rfl ?_)
          refine go_wp rfl (wq_iaload (v := ((gi cs 80) h.toNatClampNeg)) dX10_partOf_87 (by decide) h80 (vp_mk (by omega) (by omega)) rfl rfl ?_)
          refine go_wp rfl (wq_ishl (v := ((1 : Int32) <<< (((gi cs 80) h.toNatClampNeg) &&& 31))) dX10_partOf_88 rfl rfl ?_)
          refine go_wp rfl (wq_iconst (v := 1) dX10_partOf_89 (by decide) rfl ?_)
          refine go_wp rfl (wq_aload_n dX10_partOf_90 rfl rfl ?_)
          refine go_wp rfl (wq_getfield dX10_partOf_91 fe_X10_22 h76 m6 rfl ?_)
          refine go_wp rfl (wq_iload dX10_partOf_94 rfl rfl ?_)
          refine go_wp rfl (wq_iaload (v := ((gi cs 81) h.toNatClampNeg)) dX10_partOf_96 (by decide) h81 (vp_mk (by omega) (by omega)) rfl rfl ?_)
          refine go_wp rfl (wq_ishl (v := ((1 : Int32) <<< (((gi cs 81) h.toNatClampNeg) &&& 31))) dX10_partOf_97 rfl rfl ?_)
          refine go_wp rfl (wq_ior (v := (((1 : Int32) <<< (((gi cs 80) h.toNatClampNeg) &&& 31)) ||| ((1 : Int32) <<< (((gi cs 81) h.toNatClampNeg) &&& 31)))) dX10_partOf_98 rfl rfl ?_)
          refine go_wp rfl (wq_goto (t := 103) dX10_partOf_99 (by decide) ?_)
          refine go_wp rfl (wq_ior (v := (set ||| (((1 : Int32) <<< (((gi cs 80) h.toNatClampNeg) &&& 31)) ||| ((1 : Int32) <<< (((gi cs 81) h.toNatClampNeg) &&& 31))))) dX10_partOf_103 rfl rfl ?_)
          refine go_wp rfl (wq_istore_n (lv' := [some (.ref 76), some (.int m), some (.int c), some (.int (set ||| (((1 : Int32) <<< (((gi cs 80) h.toNatClampNeg) &&& 31)) ||| ((1 : Int32) <<< (((gi cs 81) h.toNatClampNeg) &&& 31))))), some (.int was), some (.int h), some (.int 1)]) dX10_partOf_104 ⟨Nat.le_of_ble_eq_true rfl, rfl⟩ rfl rfl ?_)
          refine go_wp rfl (wq_iinc (v := (h + Int32.ofInt 1)) (lv' := [some (.ref 76), some (.int m), some (.int c), some (.int (set ||| (((1 : Int32) <<< (((gi cs 80) h.toNatClampNeg) &&& 31)) ||| ((1 : Int32) <<< (((gi cs 81) h.toNatClampNeg) &&& 31))))), some (.int was), some (.int (h + Int32.ofInt 1)), some (.int 1)]) dX10_partOf_105 rfl ⟨Nat.le_of_ble_eq_true rfl, rfl⟩ rfl rfl rfl ?_)
          refine go_wp rfl (wq_goto (t := 19) dX10_partOf_108 (by decide) ?_)
          have hi := ab_inc (x := h) (by omega) (by omega)
          have e2 := po_1p b4 (by omega) hset q3' (Or.inl q2')
          have pp := pw_pk (c := c) (s := was) ⟨b1, by omega⟩ F80 F81 (h + Int32.ofInt 1).toNatClampNeg (by have : (h + Int32.ofInt 1).toNatClampNeg = (h + Int32.ofInt 1).toInt.toNat := rfl; omega)
          rw [← e2] at pp
          obtain ⟨⟨p1, p2⟩, p3, -⟩ := pp
          exact go_cut rfl ⟨(20 * (64 - was.toInt) + 10 - (h.toInt + 1)).toNat, (by omega), rfl, rfl, k, _, _, _, _, rfl, hw, e2, (by omega), (by omega), (by omega), (by omega), (by omega), (by omega)⟩
    · have q2' : Int32.toInt ((set >>> (((gi cs 80) h.toNatClampNeg) &&& 31)) &&& 1) ≠ Int32.toInt 1 := (ab_ieq (x := ((set >>> (((gi cs 80) h.toNatClampNeg) &&& 31)) &&& 1)) (y := 1)).2 q2
      refine go_wp rfl (wq_iload_n dX10_partOf_43 rfl rfl ?_)
      refine go_wp rfl (wq_aload_n dX10_partOf_44 rfl rfl ?_)
      refine go_wp rfl (wq_getfield dX10_partOf_45 fe_X10_22 h76 m6 rfl ?_)
      refine go_wp rfl (wq_iload dX10_partOf_48 rfl rfl ?_)
      refine go_wp rfl (wq_iaload (v := ((gi cs 81) h.toNatClampNeg)) dX10_partOf_50 (by decide) h81 (vp_mk (by omega) (by omega)) rfl rfl ?_)
      refine go_wp rfl (wq_ishr (v := (set >>> (((gi cs 81) h.toNatClampNeg) &&& 31))) dX10_partOf_51 rfl rfl ?_)
      refine go_wp rfl (wq_iconst (v := 1) dX10_partOf_52 (by decide) rfl ?_)
      refine go_wp rfl (wq_iand (v := ((set >>> (((gi cs 81) h.toNatClampNeg) &&& 31)) &&& 1)) dX10_partOf_53 rfl rfl ?_)
      refine go_wp rfl (wq_iconst (v := 1) dX10_partOf_54 (by decide) rfl ?_)
      refine go_wp rfl (wq_icmp_ne (t := 62) dX10_partOf_55 (by decide) rfl (fun q5 => ?_) (fun q5 => ?_))
      · have q5' : Int32.toInt ((set >>> (((gi cs 81) h.toNatClampNeg) &&& 31)) &&& 1) ≠ Int32.toInt 1 := (ab_ieq (x := ((set >>> (((gi cs 81) h.toNatClampNeg) &&& 31)) &&& 1)) (y := 1)).2 q5
        refine go_wp rfl (wq_iconst (v := 0) dX10_partOf_62 (by decide) rfl ?_)
        refine go_wp rfl (wq_istore (lv' := [some (.ref 76), some (.int m), some (.int c), some (.int set), some (.int was), some (.int h), some (.int 0)]) dX10_partOf_63 ⟨Nat.le_of_ble_eq_true rfl, rfl⟩ rfl rfl ?_)
        refine go_wp rfl (wq_iload_n dX10_partOf_65 rfl rfl ?_)
        refine go_wp rfl (wq_iload_n dX10_partOf_66 rfl rfl ?_)
        refine go_wp rfl (wq_iload dX10_partOf_67 rfl rfl ?_)
        refine go_wp rfl (wq_ishr (v := (c >>> (h &&& 31))) dX10_partOf_69 rfl rfl ?_)
        refine go_wp rfl (wq_iconst (v := 1) dX10_partOf_70 (by decide) rfl ?_)
        refine go_wp rfl (wq_iand (v := ((c >>> (h &&& 31)) &&& 1)) dX10_partOf_71 rfl rfl ?_)
        refine go_wp rfl (wq_if_ne (t := 102) dX10_partOf_72 (by decide) rfl (fun q6 => ?_) (fun q6 => ?_))
        · have q6' : Int32.toInt ((c >>> (h &&& 31)) &&& 1) ≠ Int32.toInt 0 := (ab_ieq (x := ((c >>> (h &&& 31)) &&& 1)) (y := 0)).2 q6
          refine go_wp rfl (wq_iconst (v := 0) dX10_partOf_102 (by decide) rfl ?_)
          refine go_wp rfl (wq_ior (v := (set ||| 0)) dX10_partOf_103 rfl rfl ?_)
          refine go_wp rfl (wq_istore_n (lv' := [some (.ref 76), some (.int m), some (.int c), some (.int (set ||| 0)), some (.int was), some (.int h), some (.int 0)]) dX10_partOf_104 ⟨Nat.le_of_ble_eq_true rfl, rfl⟩ rfl rfl ?_)
          refine go_wp rfl (wq_iinc (v := (h + Int32.ofInt 1)) (lv' := [some (.ref 76), some (.int m), some (.int c), some (.int (set ||| 0)), some (.int was), some (.int (h + Int32.ofInt 1)), some (.int 0)]) dX10_partOf_105 rfl ⟨Nat.le_of_ble_eq_true rfl, rfl⟩ rfl rfl rfl ?_)
          refine go_wp rfl (wq_goto (t := 19) dX10_partOf_108 (by decide) ?_)
          have hi := ab_inc (x := h) (by omega) (by omega)
          have e2 := po_0p b4 (by omega) hset (Or.inl q6')
          have pp := pw_pk (c := c) (s := was) ⟨b1, by omega⟩ F80 F81 (h + Int32.ofInt 1).toNatClampNeg (by have : (h + Int32.ofInt 1).toNatClampNeg = (h + Int32.ofInt 1).toInt.toNat := rfl; omega)
          rw [← e2] at pp
          obtain ⟨⟨p1, p2⟩, p3, -⟩ := pp
          exact go_cut rfl ⟨(20 * (64 - was.toInt) + 10 - (h.toInt + 1)).toNat, (by omega), rfl, rfl, k, _, _, _, _, rfl, hw, e2, (by omega), (by omega), (by omega), (by omega), (by omega), (by omega)⟩
        · have q6' : Int32.toInt ((c >>> (h &&& 31)) &&& 1) = Int32.toInt 0 := (ab_ieq (x := ((c >>> (h &&& 31)) &&& 1)) (y := 0)).1 q6
          refine go_wp rfl (wq_iload dX10_partOf_75 rfl rfl ?_)
          refine go_wp rfl (wq_if_eq (t := 102) dX10_partOf_77 (by decide) rfl (fun q7 => ?_) (fun q7 => ?_))
          · have q7' : Int32.toInt 0 = Int32.toInt 0 := (ab_ieq (x := 0) (y := 0)).1 q7
            refine go_wp rfl (wq_iconst (v := 0) dX10_partOf_102 (by decide) rfl ?_)
            refine go_wp rfl (wq_ior (v := (set ||| 0)) dX10_partOf_103 rfl rfl ?_)
            refine go_wp rfl (wq_istore_n (lv' := [some (.ref 76), some (.int m), some (.int c), some (.int (set ||| 0)), some (.int was), some (.int h), some (.int 0)]) dX10_partOf_104 ⟨Nat.le_of_ble_eq_true rfl, rfl⟩ rfl rfl ?_)
            refine go_wp rfl (wq_iinc (v := (h + Int32.ofInt 1)) (lv' := [some (.ref 76), some (.int m), some (.int c), some (.int (set ||| 0)), some (.int was), some (.int (h + Int32.ofInt 1)), some (.int 0)]) dX10_partOf_105 rfl ⟨Nat.le_of_ble_eq_true rfl, rfl⟩ rfl rfl rfl ?_)
            refine go_wp rfl (wq_goto (t := 19) dX10_partOf_108 (by decide) ?_)
            have hi := ab_inc (x := h) (by omega) (by omega)
            have e2 := po_0p b4 (by omega) hset (Or.inr ⟨q2', q5'⟩)
            have pp := pw_pk (c := c) (s := was) ⟨b1, by omega⟩ F80 F81 (h + Int32.ofInt 1).toNatClampNeg (by have : (h + Int32.ofInt 1).toNatClampNeg = (h + Int32.ofInt 1).toInt.toNat := rfl; omega)
            rw [← e2] at pp
            obtain ⟨⟨p1, p2⟩, p3, -⟩ := pp
            exact go_cut rfl ⟨(20 * (64 - was.toInt) + 10 - (h.toInt + 1)).toNat, (by omega), rfl, rfl, k, _, _, _, _, rfl, hw, e2, (by omega), (by omega), (by omega), (by omega), (by omega), (by omega)⟩
          · have q7' : Int32.toInt 0 ≠ Int32.toInt 0 := (ab_ieq (x := 0) (y := 0)).2 q7
            refine go_wp rfl (wq_iconst (v := 1) dX10_partOf_80 (by decide) rfl ?_)
            refine go_wp rfl (wq_aload_n dX10_partOf_81 rfl rfl ?_)
            refine go_wp rfl (wq_getfield dX10_partOf_82 fe_X10_19 h76 m5 rfl ?_)
            refine go_wp rfl (wq_iload dX10_partOf_85 rfl rfl ?_)
            refine go_wp rfl (wq_iaload (v := ((gi cs 80) h.toNatClampNeg)) dX10_partOf_87 (by decide) h80 (vp_mk (by omega) (by omega)) rfl rfl ?_)
            refine go_wp rfl (wq_ishl (v := ((1 : Int32) <<< (((gi cs 80) h.toNatClampNeg) &&& 31))) dX10_partOf_88 rfl rfl ?_)
            refine go_wp rfl (wq_iconst (v := 1) dX10_partOf_89 (by decide) rfl ?_)
            refine go_wp rfl (wq_aload_n dX10_partOf_90 rfl rfl ?_)
            refine go_wp rfl (wq_getfield dX10_partOf_91 fe_X10_22 h76 m6 rfl ?_)
            refine go_wp rfl (wq_iload dX10_partOf_94 rfl rfl ?_)
            refine go_wp rfl (wq_iaload (v := ((gi cs 81) h.toNatClampNeg)) dX10_partOf_96 (by decide) h81 (vp_mk (by omega) (by omega)) rfl rfl ?_)
            refine go_wp rfl (wq_ishl (v := ((1 : Int32) <<< (((gi cs 81) h.toNatClampNeg) &&& 31))) dX10_partOf_97 rfl rfl ?_)
            refine go_wp rfl (wq_ior (v := (((1 : Int32) <<< (((gi cs 80) h.toNatClampNeg) &&& 31)) ||| ((1 : Int32) <<< (((gi cs 81) h.toNatClampNeg) &&& 31)))) dX10_partOf_98 rfl rfl ?_)
            refine go_wp rfl (wq_goto (t := 103) dX10_partOf_99 (by decide) ?_)
            refine go_wp rfl (wq_ior (v := (set ||| (((1 : Int32) <<< (((gi cs 80) h.toNatClampNeg) &&& 31)) ||| ((1 : Int32) <<< (((gi cs 81) h.toNatClampNeg) &&& 31))))) dX10_partOf_103 rfl rfl ?_)
            refine go_wp rfl (wq_istore_n (lv' := [some (.ref 76), some (.int m), some (.int c), some (.int (set ||| (((1 : Int32) <<< (((gi cs 80) h.toNatClampNeg) &&& 31)) ||| ((1 : Int32) <<< (((gi cs 81) h.toNatClampNeg) &&& 31))))), some (.int was), some (.int h), some (.int 0)]) dX10_partOf_104 ⟨Nat.le_of_ble_eq_true rfl, rfl⟩ rfl rfl ?_)
            refine go_wp rfl (wq_iinc (v := (h + Int32.ofInt 1)) (lv' := [some (.ref 76), some (.int m), some (.int c), some (.int (set ||| (((1 : Int32) <<< (((gi cs 80) h.toNatClampNeg) &&& 31)) ||| ((1 : Int32) <<< (((gi cs 81) h.toNatClampNeg) &&& 31))))), some (.int was), some (.int (h + Int32.ofInt 1)), some (.int 0)]) dX10_partOf_105 rfl ⟨Nat.le_of_ble_eq_true rfl, rfl⟩ rfl rfl rfl ?_)
            refine go_wp rfl (wq_goto (t := 19) dX10_partOf_108 (by decide) ?_)
            have hi := ab_inc (x := h) (by omega) (by omega)
            exact absurd q7' (by decide)
      · have q5' : Int32.toInt ((set >>> (((gi cs 81) h.toNatClampNeg) &&& 31)) &&& 1) = Int32.toInt 1 := (ab_ieq (x := ((set >>> (((gi cs 81) h.toNatClampNeg) &&& 31)) &&& 1)) (y := 1)).1 q5
        refine go_wp rfl (wq_iconst (v := 1) dX10_partOf_58 (by decide) rfl ?_)
        refine go_wp rfl (wq_goto (t := 63) dX10_partOf_59 (by decide) ?_)
        refine go_wp rfl (wq_istore (lv' := [some (.ref 76), some (.int m), some (.int c), some (.int set), some (.int was), some (.int h), some (.int 1)]) dX10_partOf_63 ⟨Nat.le_of_ble_eq_true rfl, rfl⟩ rfl rfl ?_)
        refine go_wp rfl (wq_iload_n dX10_partOf_65 rfl rfl ?_)
        refine go_wp rfl (wq_iload_n dX10_partOf_66 rfl rfl ?_)
        refine go_wp rfl (wq_iload dX10_partOf_67 rfl rfl ?_)
        refine go_wp rfl (wq_ishr (v := (c >>> (h &&& 31))) dX10_partOf_69 rfl rfl ?_)
        refine go_wp rfl (wq_iconst (v := 1) dX10_partOf_70 (by decide) rfl ?_)
        refine go_wp rfl (wq_iand (v := ((c >>> (h &&& 31)) &&& 1)) dX10_partOf_71 rfl rfl ?_)
        refine go_wp rfl (wq_if_ne (t := 102) dX10_partOf_72 (by decide) rfl (fun q8 => ?_) (fun q8 => ?_))
        · have q8' : Int32.toInt ((c >>> (h &&& 31)) &&& 1) ≠ Int32.toInt 0 := (ab_ieq (x := ((c >>> (h &&& 31)) &&& 1)) (y := 0)).2 q8
          refine go_wp rfl (wq_iconst (v := 0) dX10_partOf_102 (by decide) rfl ?_)
          refine go_wp rfl (wq_ior (v := (set ||| 0)) dX10_partOf_103 rfl rfl ?_)
          refine go_wp rfl (wq_istore_n (lv' := [some (.ref 76), some (.int m), some (.int c), some (.int (set ||| 0)), some (.int was), some (.int h), some (.int 1)]) dX10_partOf_104 ⟨Nat.le_of_ble_eq_true rfl, rfl⟩ rfl rfl ?_)
          refine go_wp rfl (wq_iinc (v := (h + Int32.ofInt 1)) (lv' := [some (.ref 76), some (.int m), some (.int c), some (.int (set ||| 0)), some (.int was), some (.int (h + Int32.ofInt 1)), some (.int 1)]) dX10_partOf_105 rfl ⟨Nat.le_of_ble_eq_true rfl, rfl⟩ rfl rfl rfl ?_)
          refine go_wp rfl (wq_goto (t := 19) dX10_partOf_108 (by decide) ?_)
          have hi := ab_inc (x := h) (by omega) (by omega)
          have e2 := po_0p b4 (by omega) hset (Or.inl q8')
          have pp := pw_pk (c := c) (s := was) ⟨b1, by omega⟩ F80 F81 (h + Int32.ofInt 1).toNatClampNeg (by have : (h + Int32.ofInt 1).toNatClampNeg = (h + Int32.ofInt 1).toInt.toNat := rfl; omega)
          rw [← e2] at pp
          obtain ⟨⟨p1, p2⟩, p3, -⟩ := pp
          exact go_cut rfl ⟨(20 * (64 - was.toInt) + 10 - (h.toInt + 1)).toNat, (by omega), rfl, rfl, k, _, _, _, _, rfl, hw, e2, (by omega), (by omega), (by omega), (by omega), (by omega), (by omega)⟩
        · have q8' : Int32.toInt ((c >>> (h &&& 31)) &&& 1) = Int32.toInt 0 := (ab_ieq (x := ((c >>> (h &&& 31)) &&& 1)) (y := 0)).1 q8
          refine go_wp rfl (wq_iload dX10_partOf_75 rfl rfl ?_)
          refine go_wp rfl (wq_if_eq (t := 102) dX10_partOf_77 (by decide) rfl (fun q9 => ?_) (fun q9 => ?_))
          · have q9' : Int32.toInt 1 = Int32.toInt 0 := (ab_ieq (x := 1) (y := 0)).1 q9
            refine go_wp rfl (wq_iconst (v := 0) dX10_partOf_102 (by decide) rfl ?_)
            refine go_wp rfl (wq_ior (v := (set ||| 0)) dX10_partOf_103 rfl rfl ?_)
            refine go_wp rfl (wq_istore_n (lv' := [some (.ref 76), some (.int m), some (.int c), some (.int (set ||| 0)), some (.int was), some (.int h), some (.int 1)]) dX10_partOf_104 ⟨Nat.le_of_ble_eq_true rfl, rfl⟩ rfl rfl ?_)
            refine go_wp rfl (wq_iinc (v := (h + Int32.ofInt 1)) (lv' := [some (.ref 76), some (.int m), some (.int c), some (.int (set ||| 0)), some (.int was), some (.int (h + Int32.ofInt 1)), some (.int 1)]) dX10_partOf_105 rfl ⟨Nat.le_of_ble_eq_true rfl, rfl⟩ rfl rfl rfl ?_)
            refine go_wp rfl (wq_goto (t := 19) dX10_partOf_108 (by decide) ?_)
            have hi := ab_inc (x := h) (by omega) (by omega)
            exact absurd q9' (by decide)
          · have q9' : Int32.toInt 1 ≠ Int32.toInt 0 := (ab_ieq (x := 1) (y := 0)).2 q9
            refine go_wp rfl (wq_iconst (v := 1) dX10_partOf_80 (by decide) rfl ?_)
            refine go_wp rfl (wq_aload_n dX10_partOf_81 rfl rfl ?_)
            refine go_wp rfl (wq_getfield dX10_partOf_82 fe_X10_19 h76 m5 rfl ?_)
            refine go_wp rfl (wq_iload dX10_partOf_85 rfl rfl ?_)
            refine go_wp rfl (wq_iaload (v := ((gi cs 80) h.toNatClampNeg)) dX10_partOf_87 (by decide) h80 (vp_mk (by omega) (by omega)) rfl rfl ?_)
            refine go_wp rfl (wq_ishl (v := ((1 : Int32) <<< (((gi cs 80) h.toNatClampNeg) &&& 31))) dX10_partOf_88 rfl rfl ?_)
            refine go_wp rfl (wq_iconst (v := 1) dX10_partOf_89 (by decide) rfl ?_)
            refine go_wp rfl (wq_aload_n dX10_partOf_90 rfl rfl ?_)
            refine go_wp rfl (wq_getfield dX10_partOf_91 fe_X10_22 h76 m6 rfl ?_)
            refine go_wp rfl (wq_iload dX10_partOf_94 rfl rfl ?_)
            refine go_wp rfl (wq_iaload (v := ((gi cs 81) h.toNatClampNeg)) dX10_partOf_96 (by decide) h81 (vp_mk (by omega) (by omega)) rfl rfl ?_)
            refine go_wp rfl (wq_ishl (v := ((1 : Int32) <<< (((gi cs 81) h.toNatClampNeg) &&& 31))) dX10_partOf_97 rfl rfl ?_)
            refine go_wp rfl (wq_ior (v := (((1 : Int32) <<< (((gi cs 80) h.toNatClampNeg) &&& 31)) ||| ((1 : Int32) <<< (((gi cs 81) h.toNatClampNeg) &&& 31)))) dX10_partOf_98 rfl rfl ?_)
            refine go_wp rfl (wq_goto (t := 103) dX10_partOf_99 (by decide) ?_)
            refine go_wp rfl (wq_ior (v := (set ||| (((1 : Int32) <<< (((gi cs 80) h.toNatClampNeg) &&& 31)) ||| ((1 : Int32) <<< (((gi cs 81) h.toNatClampNeg) &&& 31))))) dX10_partOf_103 rfl rfl ?_)
            refine go_wp rfl (wq_istore_n (lv' := [some (.ref 76), some (.int m), some (.int c), some (.int (set ||| (((1 : Int32) <<< (((gi cs 80) h.toNatClampNeg) &&& 31)) ||| ((1 : Int32) <<< (((gi cs 81) h.toNatClampNeg) &&& 31))))), some (.int was), some (.int h), some (.int 1)]) dX10_partOf_104 ⟨Nat.le_of_ble_eq_true rfl, rfl⟩ rfl rfl ?_)
            refine go_wp rfl (wq_iinc (v := (h + Int32.ofInt 1)) (lv' := [some (.ref 76), some (.int m), some (.int c), some (.int (set ||| (((1 : Int32) <<< (((gi cs 80) h.toNatClampNeg) &&& 31)) ||| ((1 : Int32) <<< (((gi cs 81) h.toNatClampNeg) &&& 31))))), some (.int was), some (.int (h + Int32.ofInt 1)), some (.int 1)]) dX10_partOf_105 rfl ⟨Nat.le_of_ble_eq_true rfl, rfl⟩ rfl rfl rfl ?_)
            refine go_wp rfl (wq_goto (t := 19) dX10_partOf_108 (by decide) ?_)
            have hi := ab_inc (x := h) (by omega) (by omega)
            have e2 := po_1p b4 (by omega) hset q8' (Or.inr q5')
            have pp := pw_pk (c := c) (s := was) ⟨b1, by omega⟩ F80 F81 (h + Int32.ofInt 1).toNatClampNeg (by have : (h + Int32.ofInt 1).toNatClampNeg = (h + Int32.ofInt 1).toInt.toNat := rfl; omega)
            rw [← e2] at pp
            obtain ⟨⟨p1, p2⟩, p3, -⟩ := pp
            exact go_cut rfl ⟨(20 * (64 - was.toInt) + 10 - (h.toInt + 1)).toNat, (by omega), rfl, rfl, k, _, _, _, _, rfl, hw, e2, (by omega), (by omega), (by omega), (by omega), (by omega), (by omega)⟩
set_option maxRecDepth 100000 in
set_option maxHeartbeats 4000000 in
theorem po_w0 {cs : ex_C} {Q : ex_Q} {m c : Int32} (hk1 : ab_hk ab_hd cs) (m1 : 0 ≤ m.toInt) (m2 : m.toInt ≤ 5) : ex_wp ec_xt bx_X10_partOf cX10_partOf (some .int) (po_A m c cs) Q 60 0 [some (.ref 76), some (.int m), some (.int c), none, none, none, none] [] cs := by
  have z0 := ab_z0
  obtain ⟨ms, h76, ml, m0, m4, m39, m5, m6, h80, h81, ⟨M1, M2⟩, ⟨H1, H2⟩, E80, E81⟩ := hu_mod hk1
  have n4 : (gi cs 76 4).toNatClampNeg = (gi cs 76 4).toInt.toNat := rfl
  have nm : m.toNatClampNeg = m.toInt.toNat := rfl
  have hm6 : m.toNatClampNeg < 6 := by omega
  have F80 : ∀ k, k < (gi cs 76 4).toNatClampNeg → 0 ≤ (gi cs 80 k).toInt ∧ (gi cs 80 k).toInt ≤ 5 := fun k hk => E80 k (by omega)
  have F81 : ∀ k, k < (gi cs 76 4).toNatClampNeg → 0 ≤ (gi cs 81 k).toInt ∧ (gi cs 81 k).toInt ≤ 5 := fun k hk => E81 k (by omega)
  refine wq_iconst (v := 1) dX10_partOf_0 (by decide) rfl ?_
  refine go_wp rfl (wq_iload_n dX10_partOf_1 rfl rfl ?_)
  refine go_wp rfl (wq_ishl (v := ((1 : Int32) <<< (m &&& 31))) dX10_partOf_2 rfl rfl ?_)
  refine go_wp rfl (wq_istore_n (lv' := [some (.ref 76), some (.int m), some (.int c), some (.int ((1 : Int32) <<< (m &&& 31))), none, none, none]) dX10_partOf_3 ⟨Nat.le_of_ble_eq_true rfl, rfl⟩ rfl rfl ?_)
  refine go_wp rfl (wq_iconst (v := 0) dX10_partOf_4 (by decide) rfl ?_)
  refine go_wp rfl (wq_istore (lv' := [some (.ref 76), some (.int m), some (.int c), some (.int ((1 : Int32) <<< (m &&& 31))), some (.int 0), none, none]) dX10_partOf_5 ⟨Nat.le_of_ble_eq_true rfl, rfl⟩ rfl rfl ?_)
  have e1 : ((1 : Int32) <<< (m &&& 31)) = pw_k (gi cs 76 4).toNatClampNeg c (gi cs 80) (gi cs 81) m.toNatClampNeg 0 := by
    show _ = (1 : Int32) <<< (Int32.ofNat m.toNatClampNeg &&& 31)
    rw [← pn_nat m1 (by omega)]
  have e2 := pk_sh hm6
  rw [← pn_nat m1 (by omega)] at e2
  obtain ⟨⟨p1, p2⟩, p3⟩ := e2
  exact go_cut rfl ⟨20 * 64, rfl, rfl, 0, _, _, _, _, rfl, e1, Or.inl ⟨rfl, ab_z0⟩, (by rw [ab_z0]; omega), (by rw [ab_z0]; omega), (by omega), (by rw [ab_z0]; omega)⟩
set_option maxRecDepth 100000 in
theorem bm_X10_partOf (l : Launch) : ex_Met l yX10_partOf cX10_partOf 7 (some .int) 0 0 (ab_sp ab_hd bc_X10_partOf) := by
  intro D ad ca n sz av cs Q h
  refine ex_lmet (by decide) rfl (bj_X10_partOf l) D ad ca n sz av cs Q ?_
  obtain ⟨c0, hc0, ⟨hp1, hp2, -⟩, hk, hQ⟩ := h
  have hc' : c0 = ([.inl 76, .inr (0, 5), .inr (-2147483648, 2147483647)], [], [], [(some (-2147483648, 2147483647, some (900000006, 0)), [], [])]) := by
    unfold bc_X10_partOf bq_X10_partOf at hc0
    simpa using hc0
  subst hc'
  obtain ⟨v0, e0, pz0⟩ := hp2 0 _ rfl
  obtain ⟨v1, e1, m, rfl, m1, m2⟩ := hp2 1 _ rfl
  obtain ⟨v2, e2, c, rfl, c1, c2⟩ := hp2 2 _ rfl
  cases pz0
  have hav : av = [.ref 76, .int m, .int c] := hx_av3 hp1 e0 e1 e2
  subst hav
  have hQ' : ∀ r cs', ab_hk ab_hd cs' → ab_fr [] cs cs' → r = pw_k (gi cs 76 4).toNatClampNeg c (gi cs 80) (gi cs 81) m.toNatClampNeg 64 → Q (some (.int r)) cs' := by
    intro r cs' hk' hf' hr
    refine hQ _ _ ⟨hk', hf', _, List.mem_cons_self, ⟨r, rfl, hx_tb r, fun d hd => ?_⟩, fun q hq => (by cases hq), fun q hq => (by cases hq)⟩
    cases hd
    rw [hg_6, hr]
    show _ = _ + (0 : Int)
    unfold hu_Q
    omega
  refine sl_in 60 (po_I m c cs) rfl (Nat.le_of_ble_eq_true rfl) rfl (po_w0 hk m1 m2) (fun pc J n lv st cs1 hI hJ => ?_)
  unfold po_I at hI
  split at hI
  · rename_i e'
    subst e'
    cases hI
    obtain ⟨rfl, rfl, k, set, was, x5, x6, rfl, hset, hw, b1, b2, b3, hn⟩ := hJ
    exact po_w7 hk m1 m2 hQ' hset hw b1 b2 b3 hn
  · split at hI
    · rename_i e'
      subst e'
      cases hI
      obtain ⟨rfl, rfl, k, set, was, h, x6, rfl, hw, hset, b1, b2, b3, b4, b5, hn⟩ := hJ
      exact po_w19 hk m1 m2 hw hset b1 b2 b3 b4 b5 hn
    · cases hI
theorem ba_X10_ones : ec_al [(1542, Cond.code yX10_ones cX10_ones 3 (some .int)), (68, Cond.initialized yX10_ones.cls), (1541, Cond.static yX10_ones)] := ec_alk (by decide +kernel)
theorem bw_X10_ones : ec_cw yX10_ones cX10_ones 3 (some .int) := ⟨ba_X10_ones.1, ba_X10_ones.2.1, nc_RX10⟩
theorem bv_X10_ones : Cond.static yX10_ones ∈ ec_tb := ba_X10_ones.2.2.1
theorem bp_X10_ones : (parseMethodDescriptor yX10_ones.desc).map (fun d => d.parameters.length) = some 1 := by decide +kernel
theorem bj_X10_ones (l : Launch) : ex_ok l 0 0 bx_X10_ones := ec_okp fo_X10 co_X10 so_X10 (ec_okn)
theorem dX10_ones_0 : decode cX10_ones 0 = .ok (.iconst 0, 1) := by decide +kernel
theorem dX10_ones_1 : decode cX10_ones 1 = .ok (.istore_n 1, 1) := by decide +kernel
theorem dX10_ones_2 : decode cX10_ones 2 = .ok (.iconst 0, 1) := by decide +kernel
theorem dX10_ones_3 : decode cX10_ones 3 = .ok (.istore_n 2, 1) := by decide +kernel
theorem dX10_ones_4 : decode cX10_ones 4 = .ok (.iload_n 2, 1) := by decide +kernel
theorem dX10_ones_5 : decode cX10_ones 5 = .ok (.bipush 8, 2) := by decide +kernel
theorem dX10_ones_7 : decode cX10_ones 7 = .ok (.if_icmp .ge 17, 3) := by decide +kernel
theorem dX10_ones_10 : decode cX10_ones 10 = .ok (.iload_n 1, 1) := by decide +kernel
theorem dX10_ones_11 : decode cX10_ones 11 = .ok (.iload_n 0, 1) := by decide +kernel
theorem dX10_ones_12 : decode cX10_ones 12 = .ok (.iload_n 2, 1) := by decide +kernel
theorem dX10_ones_13 : decode cX10_ones 13 = .ok (.ishr, 1) := by decide +kernel
theorem dX10_ones_14 : decode cX10_ones 14 = .ok (.iconst 1, 1) := by decide +kernel
theorem dX10_ones_15 : decode cX10_ones 15 = .ok (.iand, 1) := by decide +kernel
theorem dX10_ones_16 : decode cX10_ones 16 = .ok (.iadd, 1) := by decide +kernel
theorem dX10_ones_17 : decode cX10_ones 17 = .ok (.istore_n 1, 1) := by decide +kernel
theorem dX10_ones_18 : decode cX10_ones 18 = .ok (.iinc 2 1, 3) := by decide +kernel
theorem dX10_ones_21 : decode cX10_ones 21 = .ok (.goto (-17), 3) := by decide +kernel
theorem dX10_ones_24 : decode cX10_ones 24 = .ok (.iload_n 1, 1) := by decide +kernel
theorem dX10_ones_25 : decode cX10_ones 25 = .ok (.ireturn, 1) := by decide +kernel
def on_J (x : Int32) (cs0 : ex_C) : Nat → ex_L → ex_V → ex_C → Prop := fun n lv st cs => st = [] ∧ cs = cs0 ∧ ∃ a i : Int32, lv = [some (.int x), some (.int a), some (.int i)] ∧ a = on_l x i.toNatClampNeg ∧ 0 ≤ i.toInt ∧ i.toInt ≤ 8 ∧ (n : Int) = 20 - i.toInt
def on_I (x : Int32) (cs0 : ex_C) (pc : Nat) : Option (Nat → ex_L → ex_V → ex_C → Prop) := if pc = 4 then some (on_J x cs0) else none
def on_B (x : Int32) (cs0 : ex_C) (n : Nat) : Nat → Option (ex_L → ex_V → ex_C → Prop) := fun pc => (on_I x cs0 pc).map (fun J' lv st cs => ∃ n', n' < n ∧ J' n' lv st cs)
def on_A (x : Int32) (cs0 : ex_C) : Nat → Option (ex_L → ex_V → ex_C → Prop) := fun pc => (on_I x cs0 pc).map (fun J' lv st cs => ∃ n', J' n' lv st cs)
set_option maxRecDepth 100000 in
set_option maxHeartbeats 4000000 in
theorem on_w4 {cs : ex_C} {Q : ex_Q} {x : Int32} (hk1 : ab_hk ab_hd cs) (hQ : ∀ (r : Int32) cs', ab_hk ab_hd cs' → ab_fr [] cs cs' → r = on_l x 8 → Q (some (.int r)) cs') {n : Nat} {a i : Int32} (ha : a = on_l x i.toNatClampNeg) (b3 : 0 ≤ i.toInt) (b4 : i.toInt ≤ 8) (hn : (n : Int) = 20 - i.toInt) : ex_wp ec_xt bx_X10_ones cX10_ones (some .int) (on_B x cs n) Q 60 4 [some (.int x), some (.int a), some (.int i)] [] cs := by
  have z8 : Int32.toInt 8 = 8 := by decide
  refine wq_iload_n dX10_ones_4 rfl rfl ?_
  refine go_wp rfl (wq_bipush (v := 8) dX10_ones_5 (by decide) rfl ?_)
  refine go_wp rfl (wq_icmp_ge (t := 24) dX10_ones_7 (by decide) rfl (fun q1 => ?_) (fun q1 => ?_))
  · have q1' : Int32.toInt i ≥ Int32.toInt 8 := (ab_ige (x := i) (y := 8)).1 q1
    refine go_wp rfl (wq_iload_n dX10_ones_24 rfl rfl ?_)
    refine go_wp rfl (wq_ireturn dX10_ones_25 trivial (hQ _ _ hk1 ab_rf0 (by rw [ha, show i.toNatClampNeg = 8 by have : i.toNatClampNeg = i.toInt.toNat := rfl; omega])))
  · have q1' : Int32.toInt i < Int32.toInt 8 := (ab_ige (x := i) (y := 8)).2 q1
    refine go_wp rfl (wq_iload_n dX10_ones_10 rfl rfl ?_)
    refine go_wp rfl (wq_iload_n dX10_ones_11 rfl rfl ?_)
    refine go_wp rfl (wq_iload_n dX10_ones_12 rfl rfl ?_)
    refine go_wp rfl (wq_ishr (v := (x >>> (i &&& 31))) dX10_ones_13 rfl rfl ?_)
    refine go_wp rfl (wq_iconst (v := 1) dX10_ones_14 (by decide) rfl ?_)
    refine go_wp rfl (wq_iand (v := ((x >>> (i &&& 31)) &&& 1)) dX10_ones_15 rfl rfl ?_)
    refine go_wp rfl (wq_iadd (v := (a + ((x >>> (i &&& 31)) &&& 1))) dX10_ones_16 rfl rfl ?_)
    refine go_wp rfl (wq_istore_n (lv' := [some (.int x), some (.int (a + ((x >>> (i &&& 31)) &&& 1))), some (.int i)]) dX10_ones_17 ⟨Nat.le_of_ble_eq_true rfl, rfl⟩ rfl rfl ?_)
    refine go_wp rfl (wq_iinc (v := (i + Int32.ofInt 1)) (lv' := [some (.int x), some (.int (a + ((x >>> (i &&& 31)) &&& 1))), some (.int (i + Int32.ofInt 1))]) dX10_ones_18 rfl ⟨Nat.le_of_ble_eq_true rfl, rfl⟩ rfl rfl rfl ?_)
    refine go_wp rfl (wq_goto (t := 4) dX10_ones_21 (by decide) ?_)
    have hi := ab_inc (x := i) (by omega) (by omega)
    exact go_cut rfl ⟨(20 - (i.toInt + 1)).toNat, (by omega), rfl, rfl, _, _, rfl, (by rw [ha]; exact on_s b3 (by omega)), (by omega), (by omega), (by omega)⟩
set_option maxRecDepth 100000 in
set_option maxHeartbeats 4000000 in
theorem on_w0 {cs : ex_C} {Q : ex_Q} {x : Int32} : ex_wp ec_xt bx_X10_ones cX10_ones (some .int) (on_A x cs) Q 60 0 [some (.int x), none, none] [] cs := by
  refine wq_iconst (v := 0) dX10_ones_0 (by decide) rfl ?_
  refine go_wp rfl (wq_istore_n (lv' := [some (.int x), some (.int 0), none]) dX10_ones_1 ⟨Nat.le_of_ble_eq_true rfl, rfl⟩ rfl rfl ?_)
  refine go_wp rfl (wq_iconst (v := 0) dX10_ones_2 (by decide) rfl ?_)
  refine go_wp rfl (wq_istore_n (lv' := [some (.int x), some (.int 0), some (.int 0)]) dX10_ones_3 ⟨Nat.le_of_ble_eq_true rfl, rfl⟩ rfl rfl ?_)
  exact go_cut rfl ⟨20, rfl, rfl, _, _, rfl, rfl, (by rw [ab_z0]; omega), (by rw [ab_z0]; omega), (by rw [ab_z0]; omega)⟩
set_option maxRecDepth 100000 in
theorem bm_X10_ones (l : Launch) : ex_Met l yX10_ones cX10_ones 3 (some .int) 0 0 (ab_sp ab_hd bc_X10_ones) := by
  intro D ad ca n sz av cs Q h
  refine ex_lmet (by decide) rfl (bj_X10_ones l) D ad ca n sz av cs Q ?_
  obtain ⟨c0, hc0, ⟨hp1, hp2, -⟩, hk, hQ⟩ := h
  have hc' : c0 = ([.inr (-2147483648, 2147483647)], [], [], [(some (-2147483648, 2147483647, some (1000000000, 0)), [], [])]) := by
    unfold bc_X10_ones bq_X10_ones at hc0
    simpa using hc0
  subst hc'
  obtain ⟨v0, e0, x, rfl, x1, x2⟩ := hp2 0 _ rfl
  have hav : av = [.int x] := hx_av1 hp1 e0
  subst hav
  have hQ' : ∀ (r : Int32) cs', ab_hk ab_hd cs' → ab_fr [] cs cs' → r = on_l x 8 → Q (some (.int r)) cs' := by
    intro r cs' hk' hf' hr
    refine hQ _ _ ⟨hk', hf', _, List.mem_cons_self, ⟨r, rfl, hx_tb r, fun d hd => ?_⟩, fun q hq => (by cases hq), fun q hq => (by cases hq)⟩
    cases hd
    show _ = ab_oo _ _ _ + (0 : Int)
    rw [hd_11, hr]
    omega
  refine sl_in 60 (on_I x cs) rfl (Nat.le_of_ble_eq_true rfl) rfl on_w0 (fun pc J n lv st cs1 hI hJ => ?_)
  unfold on_I at hI
  split at hI
  · rename_i e'
    subst e'
    cases hI
    obtain ⟨rfl, rfl, a, i, rfl, ha, b3, b4, hn⟩ := hJ
    exact on_w4 hk hQ' ha b3 b4 hn
  · cases hI
theorem ba_X10_hunt : ec_al [(1523, Cond.code yX10_hunt cX10_hunt 1 (some .int)), (68, Cond.initialized yX10_hunt.cls), (1521, Cond.instanceMethod yX10_hunt), (1522, Cond.selects yX10_hunt.cls yX10_hunt yX10_hunt)] := ec_alk (by decide +kernel)
theorem bw_X10_hunt : ec_cw yX10_hunt cX10_hunt 1 (some .int) := ⟨ba_X10_hunt.1, ba_X10_hunt.2.1, nc_RX10⟩
theorem bv_X10_hunt : Cond.instanceMethod yX10_hunt ∈ ec_tb ∧ Cond.selects yX10_hunt.cls yX10_hunt yX10_hunt ∈ ec_tb := ⟨ba_X10_hunt.2.2.1, ba_X10_hunt.2.2.2.1⟩
theorem bp_X10_hunt : (parseMethodDescriptor yX10_hunt.desc).map (fun d => d.parameters.length) = some 0 := by decide +kernel
theorem bj_X10_hunt (l : Launch) : ex_ok l 0 0 bx_X10_hunt := ec_okp fo_X10 co_X10 so_X10 (ec_okn)
theorem dX10_hunt_0 : decode cX10_hunt 0 = .ok (.aload_n 0, 1) := by decide +kernel
theorem dX10_hunt_1 : decode cX10_hunt 1 = .ok (.iconst 1, 1) := by decide +kernel
theorem dX10_hunt_2 : decode cX10_hunt 2 = .ok (.aload_n 0, 1) := by decide +kernel
theorem dX10_hunt_3 : decode cX10_hunt 3 = .ok (.getfield 148, 3) := by decide +kernel
theorem dX10_hunt_6 : decode cX10_hunt 6 = .ok (.ishl, 1) := by decide +kernel
theorem dX10_hunt_7 : decode cX10_hunt 7 = .ok (.iconst 1, 1) := by decide +kernel
theorem dX10_hunt_8 : decode cX10_hunt 8 = .ok (.isub, 1) := by decide +kernel
theorem dX10_hunt_9 : decode cX10_hunt 9 = .ok (.putfield 277, 3) := by decide +kernel
theorem dX10_hunt_12 : decode cX10_hunt 12 = .ok (.aload_n 0, 1) := by decide +kernel
theorem dX10_hunt_13 : decode cX10_hunt 13 = .ok (.getfield 148, 3) := by decide +kernel
theorem dX10_hunt_16 : decode cX10_hunt 16 = .ok (.ireturn, 1) := by decide +kernel
set_option maxRecDepth 100000 in
set_option maxHeartbeats 4000000 in
theorem hh_w0 {cs : ex_C} {Q : ex_Q} {I : Nat → Option (ex_L → ex_V → ex_C → Prop)} (hI : ∀ pc, I pc = none) (hk1 : ab_hk ab_hd cs) (hQ : ∀ cs', ab_hk ab_hd cs' → ab_fr [(76, some 39)] cs cs' → (gi cs' 76 39).toInt = hu_u (gi cs 76 0) → Q (some (.int (gi cs 76 0))) cs') : ex_wp ec_xt bx_X10_hunt cX10_hunt (some .int) I Q 60 0 [some (.ref 76)] [] cs := by
  have z0 := ab_z0
  obtain ⟨ms, h76, ml, m0, m4, m39, m5, m6, h80, h81, ⟨M1, M2⟩, ⟨H1, H2⟩, E80, E81⟩ := hu_mod hk1
  refine wq_aload_n dX10_hunt_0 rfl rfl ?_
  refine go_wp (hI _) (wq_iconst (v := 1) dX10_hunt_1 (by decide) rfl ?_)
  refine go_wp (hI _) (wq_aload_n dX10_hunt_2 rfl rfl ?_)
  refine go_wp (hI _) (wq_getfield dX10_hunt_3 fe_X10_148 h76 m0 rfl ?_)
  refine go_wp (hI _) (wq_ishl (v := ((1 : Int32) <<< ((gi cs 76 0) &&& 31))) dX10_hunt_6 rfl rfl ?_)
  refine go_wp (hI _) (wq_iconst (v := 1) dX10_hunt_7 (by decide) rfl ?_)
  refine go_wp (hI _) (wq_isub (v := (((1 : Int32) <<< ((gi cs 76 0) &&& 31)) - 1)) dX10_hunt_8 rfl rfl ?_)
  refine go_wp (hI _) (wq_putfield (fs' := (ms.set 39 (.int (((1 : Int32) <<< ((gi cs 76 0) &&& 31)) - 1)))) (cs' := (cs.set 76 (.inr (10, (ms.set 39 (.int (((1 : Int32) <<< ((gi cs 76 0) &&& 31)) - 1))))))) dX10_hunt_9 fe_X10_277 h76 (by omega) trivial rfl rfl rfl ?_)
  obtain ⟨hk3, hf3, hr3⟩ := hu_put (j := 39) (v := (((1 : Int32) <<< ((gi cs 76 0) &&& 31)) - 1)) hk1 rfl h76 rfl
  have h76' : (cs.set 76 (.inr (10, (ms.set 39 (.int (((1 : Int32) <<< ((gi cs 76 0) &&& 31)) - 1))))))[76]? = some (.inr (10, (ms.set 39 (.int (((1 : Int32) <<< ((gi cs 76 0) &&& 31)) - 1))))) := List.getElem?_set_self (List.getElem?_eq_some_iff.mp h76).1
  have m0' : (ms.set 39 (.int (((1 : Int32) <<< ((gi cs 76 0) &&& 31)) - 1)))[0]? = some (.int (gi cs 76 0)) := (List.getElem?_set_ne (by decide)).trans m0
  have m39' : (ms.set 39 (.int (((1 : Int32) <<< ((gi cs 76 0) &&& 31)) - 1)))[39]? = some (.int (((1 : Int32) <<< ((gi cs 76 0) &&& 31)) - 1)) := List.getElem?_set_self (by omega)
  refine go_wp (hI _) (wq_aload_n dX10_hunt_12 rfl rfl ?_)
  refine go_wp (hI _) (wq_getfield dX10_hunt_13 fe_X10_148 h76' m0' rfl ?_)
  refine go_wp (hI _) (wq_ireturn dX10_hunt_16 trivial (hQ _ hk3 hf3 (congrArg Int32.toInt (gi_ri hr3).1)))
set_option maxRecDepth 100000 in
theorem bm_X10_hunt (l : Launch) : ex_Met l yX10_hunt cX10_hunt 1 (some .int) 0 0 (ab_sp ab_hd bc_X10_hunt) := by
  intro D ad ca n sz av cs Q h
  refine ex_lmet (by decide) rfl (bj_X10_hunt l) D ad ca n sz av cs Q ?_
  obtain ⟨c0, hc0, ⟨hp1, hp2, -⟩, hk, hQ⟩ := h
  have hc' : c0 = ([.inl 76], [], [(76, some 39)], [(some (0, 6, some (77000, 0)), [], [((1, 76, 39), -2147483648, 2147483647, some (900000008, 0))])]) := by
    unfold bc_X10_hunt bq_X10_hunt at hc0
    simpa using hc0
  subst hc'
  obtain ⟨v0, e0, pz0⟩ := hp2 0 _ rfl
  cases pz0
  have hav : av = [.ref 76] := hx_av1 hp1 e0
  subst hav
  have hM : 0 ≤ (gi cs 76 0).toInt ∧ (gi cs 76 0).toInt ≤ 6 := by
    obtain ⟨ms, h76, ml, m0, m4, m39, m5, m6, h80, h81, hM, -⟩ := hu_mod hk
    exact hM
  refine sl_in 60 (fun _ => none) rfl (Nat.le_of_ble_eq_true rfl) rfl (hh_w0 (fun _ => rfl) hk (fun cs' hk' hf' hs => ?_)) (fun pc J n lv st cs' hI hJ => (by cases hI))
  refine hQ _ _ ⟨hk', hf', _, List.mem_cons_self, ⟨_, rfl, hM, fun d hd => ?_⟩, fun q hq => (by cases hq), fun q hq => ?_⟩
  · cases hd
    obtain ⟨z, hz⟩ := hu_r76 hk
    have e : ab_oo (([.ref 76] : List Value).map some) cs 77000 = z := am_onc (k := 76) (j := 0) (by decide) (by decide) hz
    have e2 := gi_t hz
    show _ = ab_oo (([.ref 76] : List Value).map some) cs 77000 + (0 : Int)
    omega
  · rcases List.mem_singleton.mp hq with rfl
    exact hu_ff (hu_r39 hk') (by rw [hg_8]; exact hs)
theorem ba_X10_test : ec_al [(1527, Cond.code yX10_test cX10_test 4 (some .int)), (68, Cond.initialized yX10_test.cls), (1525, Cond.instanceMethod yX10_test), (1526, Cond.selects yX10_test.cls yX10_test yX10_test), (1291, Cond.methodLink RX10 164 yX10_isModule), (1303, Cond.methodLink RX10 171 yX10_isIn), (1282, Cond.methodLink RX10 160 yX10_finding), (1528, Cond.methodLink RX10 280 yX10_partOf)] := ec_alk (by decide +kernel)
theorem bw_X10_test : ec_cw yX10_test cX10_test 4 (some .int) := ⟨ba_X10_test.1, ba_X10_test.2.1, nc_RX10⟩
theorem bv_X10_test : Cond.instanceMethod yX10_test ∈ ec_tb ∧ Cond.selects yX10_test.cls yX10_test yX10_test ∈ ec_tb := ⟨ba_X10_test.2.2.1, ba_X10_test.2.2.2.1⟩
theorem bp_X10_test : (parseMethodDescriptor yX10_test.desc).map (fun d => d.parameters.length) = some 2 := by decide +kernel
theorem bk_X10_test (l : Launch) : ∀ (ix n : Nat) (rc : Option Nat) (sp : ex_S), (be_X10_test ix).map (fun q => (q.1, q.2.1, ab_sp ab_hd q.2.2)) = some (n, rc, sp) → ex_cok l RX10 1 26 ix n rc sp := by
  intro ix n rc sp h
  obtain ⟨l0, h2, rfl⟩ := ab_dmk h
  clear h
  unfold be_X10_test at h2
  split at h2
  · cases h2; exact ec_cV (bm_X10_isModule l) bw_X10_isModule bv_X10_isModule (by decide) (by decide) (Or.inl ba_X10_test.2.2.2.2.1) (T := TX10) (N := 57) rfl (by decide) bp_X10_isModule
  · cases h2; exact ec_cS (bm_X10_isIn l) bw_X10_isIn bv_X10_isIn (by decide) (by decide) (Or.inl ba_X10_test.2.2.2.2.2.1) bp_X10_isIn
  · cases h2; exact ec_cV (bm_X10_finding l) bw_X10_finding bv_X10_finding (by decide) (by decide) (Or.inl ba_X10_test.2.2.2.2.2.2.1) (T := TX10) (N := 57) rfl (by decide) bp_X10_finding
  · cases h2; exact ec_cV (bm_X10_partOf l) bw_X10_partOf bv_X10_partOf (by decide) (by decide) (Or.inl ba_X10_test.2.2.2.2.2.2.2.1) (T := TX10) (N := 57) rfl (by decide) bp_X10_partOf
  · cases h2
theorem bj_X10_test (l : Launch) : ex_ok l 1 26 bx_X10_test := ec_okp fo_X10 co_X10 so_X10 (bk_X10_test l)
theorem dX10_test_0 : decode cX10_test 0 = .ok (.aload_n 0, 1) := by decide +kernel
theorem dX10_test_1 : decode cX10_test 1 = .ok (.iload_n 2, 1) := by decide +kernel
theorem dX10_test_2 : decode cX10_test 2 = .ok (.invokevirtual 164, 3) := by decide +kernel
theorem dX10_test_5 : decode cX10_test 5 = .ok (.ifCond .eq 19, 3) := by decide +kernel
theorem dX10_test_8 : decode cX10_test 8 = .ok (.iload_n 1, 1) := by decide +kernel
theorem dX10_test_9 : decode cX10_test 9 = .ok (.iconst 0, 1) := by decide +kernel
theorem dX10_test_10 : decode cX10_test 10 = .ok (.iconst 1, 1) := by decide +kernel
theorem dX10_test_11 : decode cX10_test 11 = .ok (.aload_n 0, 1) := by decide +kernel
theorem dX10_test_12 : decode cX10_test 12 = .ok (.getfield 151, 3) := by decide +kernel
theorem dX10_test_15 : decode cX10_test 15 = .ok (.ishl, 1) := by decide +kernel
theorem dX10_test_16 : decode cX10_test 16 = .ok (.iconst 1, 1) := by decide +kernel
theorem dX10_test_17 : decode cX10_test 17 = .ok (.isub, 1) := by decide +kernel
theorem dX10_test_18 : decode cX10_test 18 = .ok (.invokestatic 171, 3) := by decide +kernel
theorem dX10_test_21 : decode cX10_test 21 = .ok (.ifCond .ne 9, 3) := by decide +kernel
theorem dX10_test_24 : decode cX10_test 24 = .ok (.aload_n 0, 1) := by decide +kernel
theorem dX10_test_25 : decode cX10_test 25 = .ok (.iconst 1, 1) := by decide +kernel
theorem dX10_test_26 : decode cX10_test 26 = .ok (.invokevirtual 160, 3) := by decide +kernel
theorem dX10_test_29 : decode cX10_test 29 = .ok (.ireturn, 1) := by decide +kernel
theorem dX10_test_30 : decode cX10_test 30 = .ok (.aload_n 0, 1) := by decide +kernel
theorem dX10_test_31 : decode cX10_test 31 = .ok (.getfield 277, 3) := by decide +kernel
theorem dX10_test_34 : decode cX10_test 34 = .ok (.aload_n 0, 1) := by decide +kernel
theorem dX10_test_35 : decode cX10_test 35 = .ok (.iload_n 2, 1) := by decide +kernel
theorem dX10_test_36 : decode cX10_test 36 = .ok (.iload_n 1, 1) := by decide +kernel
theorem dX10_test_37 : decode cX10_test 37 = .ok (.invokevirtual 280, 3) := by decide +kernel
theorem dX10_test_40 : decode cX10_test 40 = .ok (.iand, 1) := by decide +kernel
theorem dX10_test_41 : decode cX10_test 41 = .ok (.istore_n 3, 1) := by decide +kernel
theorem dX10_test_42 : decode cX10_test 42 = .ok (.iload_n 3, 1) := by decide +kernel
theorem dX10_test_43 : decode cX10_test 43 = .ok (.ifCond .ne 9, 3) := by decide +kernel
theorem dX10_test_46 : decode cX10_test 46 = .ok (.aload_n 0, 1) := by decide +kernel
theorem dX10_test_47 : decode cX10_test 47 = .ok (.iconst 2, 1) := by decide +kernel
theorem dX10_test_48 : decode cX10_test 48 = .ok (.invokevirtual 160, 3) := by decide +kernel
theorem dX10_test_51 : decode cX10_test 51 = .ok (.ireturn, 1) := by decide +kernel
theorem dX10_test_52 : decode cX10_test 52 = .ok (.aload_n 0, 1) := by decide +kernel
theorem dX10_test_53 : decode cX10_test 53 = .ok (.iload_n 3, 1) := by decide +kernel
theorem dX10_test_54 : decode cX10_test 54 = .ok (.putfield 277, 3) := by decide +kernel
theorem dX10_test_57 : decode cX10_test 57 = .ok (.aload_n 0, 1) := by decide +kernel
theorem dX10_test_58 : decode cX10_test 58 = .ok (.getfield 277, 3) := by decide +kernel
theorem dX10_test_61 : decode cX10_test 61 = .ok (.ireturn, 1) := by decide +kernel
set_option maxRecDepth 100000 in
set_option maxHeartbeats 4000000 in
theorem tt_w0 {cs : ex_C} {Q : ex_Q} {I : Nat → Option (ex_L → ex_V → ex_C → Prop)} {c m : Int32} (hI : ∀ pc, I pc = none) (hk1 : ab_hk ab_hd cs) (hQ : ∀ (x : Int32) cs', ab_hk ab_hd cs' → ab_fr [(76, some 39), (114, none)] cs cs' → x.toInt = hu_t (gi cs 76 0) (gi cs 76 4) (gi cs 76 39) c m (hu_Q (gi cs 76) (gi cs 80) (gi cs 81) c m) → (gi cs' 76 39).toInt = hu_s (gi cs 76 0) (gi cs 76 4) (gi cs 76 39) c m (hu_Q (gi cs 76) (gi cs 80) (gi cs 81) c m) → Q (some (.int x)) cs') : ex_wp ec_xt bx_X10_test cX10_test (some .int) I Q 60 0 [some (.ref 76), some (.int c), some (.int m), none] [] cs := by
  have z0 := ab_z0
  obtain ⟨ms, h76, ml, m0, m4, m39, m5, m6, h80, h81, ⟨M1, M2⟩, ⟨H1, H2⟩, E80, E81⟩ := hu_mod hk1
  have hsh := hu_sh H1 H2
  refine wq_aload_n dX10_test_0 rfl rfl ?_
  refine go_wp (hI _) (wq_iload_n dX10_test_1 rfl rfl ?_)
  refine go_wp (hI _) (wq_virtual (q := 2) (ci := 10) (a := 76) (av := [.ref 76, .int m]) (r := []) dX10_test_2 rfl (Nat.le_of_ble_eq_true rfl) rfl rfl rfl (Nat.le_of_ble_eq_true rfl) h76 rfl (hx_call 0 (c := ([.inl 76, .inr ((-2147483648), 2147483647)], [], [], [(some (1, 1, none), [((0, 1, 0), 0, 5, none), ((9, 1, 77000), (-4294967296), (-1), none), ((8, 77000, 0), 1, 6, none)], []), (some (0, 0, none), [((0, 1, 0), 0, 2147483647, none), ((9, 1, 77000), 0, 4294967296, none), ((8, 77000, 0), 0, 6, none)], []), (some (0, 0, none), [((0, 1, 0), (-2147483648), (-1), none)], [])])) rfl (hx_pr2 hx_cr (hx_ci (hx_tb _))) hk1 (fun r cs1 hp => ?_)))
  obtain ⟨hk2, hf1, x, rfl, hx⟩ := hu_im hk1 hp
  refine ret_int ?_
  obtain ⟨msb, h76b, mlb, m0b, m4b, m39b, m5b, m6b, -⟩ := hu_mod hk2
  rw [show gi cs1 76 0 = gi cs 76 0 from gi_f1 hf1 rfl] at m0b
  rw [show gi cs1 76 4 = gi cs 76 4 from gi_f1 hf1 rfl] at m4b
  rw [show gi cs1 76 39 = gi cs 76 39 from gi_f1 hf1 rfl] at m39b
  refine go_wp (hI _) (wq_if_eq (t := 24) dX10_test_5 (by decide) rfl (fun q1 => ?_) (fun q1 => ?_))
  · have q1' : Int32.toInt x = Int32.toInt 0 := (ab_ieq (x := x) (y := 0)).1 q1
    refine go_wp (hI _) (wq_aload_n dX10_test_24 rfl rfl ?_)
    refine go_wp (hI _) (wq_iconst (v := 1) dX10_test_25 (by decide) rfl ?_)
    refine go_wp (hI _) (wq_virtual (q := 2) (ci := 10) (a := 76) (av := [.ref 76, .int 1]) (r := []) dX10_test_26 rfl (Nat.le_of_ble_eq_true rfl) rfl rfl rfl (Nat.le_of_ble_eq_true rfl) h76b rfl (hx_call 1 (c := ([.inl 76, .inr (1, 1)], [], [(114, some 1)], [(some ((-1000000001), (-1000000001), none), [], [])])) rfl (hx_pr2 hx_cr (hx_ci (by decide))) hk2 (fun r csz hp => ?_)))
    obtain ⟨hkz, hfz, w, rfl, hw⟩ := hx_pin (z := -1000000001) rfl hp
    refine ret_int ?_
    refine go_wp (hI _) (wq_ireturn dX10_test_29 trivial (hQ _ _ hkz ((hx_fr hf1).tr (hfz.sub (by decide))) (hw.trans (hu_tb (by unfold hu_b; omega)).1) ((congrArg Int32.toInt ((gi_f1 hfz rfl).trans (gi_f1 hf1 rfl))).trans (hu_tb (by unfold hu_b; omega)).2)))
  · have q1' : Int32.toInt x ≠ Int32.toInt 0 := (ab_ieq (x := x) (y := 0)).2 q1
    refine go_wp (hI _) (wq_iload_n dX10_test_8 rfl rfl ?_)
    refine go_wp (hI _) (wq_iconst (v := 0) dX10_test_9 (by decide) rfl ?_)
    refine go_wp (hI _) (wq_iconst (v := 1) dX10_test_10 (by decide) rfl ?_)
    refine go_wp (hI _) (wq_aload_n dX10_test_11 rfl rfl ?_)
    refine go_wp (hI _) (wq_getfield dX10_test_12 fe_X10_151 h76b m4b rfl ?_)
    refine go_wp (hI _) (wq_ishl (v := ((1 : Int32) <<< ((gi cs 76 4) &&& 31))) dX10_test_15 rfl rfl ?_)
    refine go_wp (hI _) (wq_iconst (v := 1) dX10_test_16 (by decide) rfl ?_)
    refine go_wp (hI _) (wq_isub (v := (((1 : Int32) <<< ((gi cs 76 4) &&& 31)) - 1)) dX10_test_17 rfl rfl ?_)
    refine go_wp (hI _) (wq_static (q := 3) (av := [.int c, .int 0, .int (((1 : Int32) <<< ((gi cs 76 4) &&& 31)) - 1)]) (r := []) dX10_test_18 rfl rfl (Nat.le_of_ble_eq_true rfl) rfl rfl (Nat.le_of_ble_eq_true rfl) rfl (hx_call 27 (c := ([.inr ((-2147483648), 2147483647), .inr ((-1), 0), .inr ((-2147483648), 2147483647)], [], [], [(some (1, 1, none), [((0, 0, 0), (-1), 2147483647, none), ((0, 2, 0), (-1), 2147483647, none), ((9, 0, 2), (-4294967296), 0, none), ((9, 0, 1), 0, 4294967296, none)], []), (some (0, 0, none), [((0, 0, 0), (-1), 2147483647, none), ((0, 2, 0), (-2147483648), 2147483646, none), ((9, 0, 2), 1, 4294967296, none), ((9, 0, 1), 0, 4294967296, none)], []), (some (0, 0, none), [((0, 0, 0), (-2147483648), (-1), none), ((9, 0, 1), (-4294967296), (-1), none)], [])])) rfl (hx_pr3 (hx_ci (hx_tb _)) (hx_ci (by decide)) (hx_ci (hx_tb _))) hk2 (fun r cs2 hp => ?_)))
    obtain ⟨hk3, hf2, y, rfl, hy⟩ := hu_in hp
    refine ret_int ?_
    rw [(hu_sh H1 H2).1, ab_z0] at hy
    have hf12 : ab_fr [] cs cs2 := hf1.tr hf2
    obtain ⟨msc, h76c, mlc, m0c, m4c, m39c, m5c, m6c, -⟩ := hu_mod hk3
    rw [show gi cs2 76 0 = gi cs 76 0 from gi_f1 hf12 rfl] at m0c
    rw [show gi cs2 76 4 = gi cs 76 4 from gi_f1 hf12 rfl] at m4c
    rw [show gi cs2 76 39 = gi cs 76 39 from gi_f1 hf12 rfl] at m39c
    refine go_wp (hI _) (wq_if_ne (t := 30) dX10_test_21 (by decide) rfl (fun q2 => ?_) (fun q2 => ?_))
    · have q2' : Int32.toInt y ≠ Int32.toInt 0 := (ab_ieq (x := y) (y := 0)).2 q2
      refine go_wp (hI _) (wq_aload_n dX10_test_30 rfl rfl ?_)
      refine go_wp (hI _) (wq_getfield dX10_test_31 fe_X10_277 h76c m39c rfl ?_)
      refine go_wp (hI _) (wq_aload_n dX10_test_34 rfl rfl ?_)
      refine go_wp (hI _) (wq_iload_n dX10_test_35 rfl rfl ?_)
      refine go_wp (hI _) (wq_iload_n dX10_test_36 rfl rfl ?_)
      refine go_wp (hI _) (wq_virtual (q := 3) (ci := 10) (a := 76) (av := [.ref 76, .int m, .int c]) (r := [.int (gi cs 76 39)]) dX10_test_37 rfl (Nat.le_of_ble_eq_true rfl) rfl rfl rfl (Nat.le_of_ble_eq_true rfl) h76c rfl (hx_call 0 (c := ([.inl 76, .inr (0, 5), .inr ((-2147483648), 2147483647)], [], [], [(some ((-2147483648), 2147483647, some (900000006, 0)), [], [])])) rfl (hx_pr3 hx_cr (hx_ci ⟨by omega, by omega⟩) (hx_ci (hx_tb _))) hk3 (fun r cs3 hp => ?_)))
      obtain ⟨hk4, hf3, u, rfl, hu, -⟩ := hu_int hp
      refine ret_int ?_
      rw [hg_6, gi_fr (k := 76) hf12 (fun _ => rfl), gi_fr (k := 80) hf12 (fun _ => rfl), gi_fr (k := 81) hf12 (fun _ => rfl)] at hu
      have hue := Int32.toInt_inj.mp hu
      have hf13 : ab_fr [] cs cs3 := hf12.tr hf3
      obtain ⟨msd, h76d, mld, m0d, m4d, m39d, m5d, m6d, -⟩ := hu_mod hk4
      rw [show gi cs3 76 0 = gi cs 76 0 from gi_f1 hf13 rfl] at m0d
      rw [show gi cs3 76 4 = gi cs 76 4 from gi_f1 hf13 rfl] at m4d
      rw [show gi cs3 76 39 = gi cs 76 39 from gi_f1 hf13 rfl] at m39d
      refine go_wp (hI _) (wq_iand (v := ((gi cs 76 39) &&& u)) dX10_test_40 rfl rfl ?_)
      refine go_wp (hI _) (wq_istore_n (lv' := [some (.ref 76), some (.int c), some (.int m), some (.int ((gi cs 76 39) &&& u))]) dX10_test_41 ⟨Nat.le_of_ble_eq_true rfl, rfl⟩ rfl rfl ?_)
      refine go_wp (hI _) (wq_iload_n dX10_test_42 rfl rfl ?_)
      refine go_wp (hI _) (wq_if_ne (t := 52) dX10_test_43 (by decide) rfl (fun q3 => ?_) (fun q3 => ?_))
      · have q3' : Int32.toInt ((gi cs 76 39) &&& u) ≠ Int32.toInt 0 := (ab_ieq (x := ((gi cs 76 39) &&& u)) (y := 0)).2 q3
        refine go_wp (hI _) (wq_aload_n dX10_test_52 rfl rfl ?_)
        refine go_wp (hI _) (wq_iload_n dX10_test_53 rfl rfl ?_)
        refine go_wp (hI _) (wq_putfield (fs' := (msd.set 39 (.int ((gi cs 76 39) &&& u)))) (cs' := (cs3.set 76 (.inr (10, (msd.set 39 (.int ((gi cs 76 39) &&& u))))))) dX10_test_54 fe_X10_277 h76d (by omega) trivial rfl rfl rfl ?_)
        obtain ⟨hk5, hf5, hr5⟩ := hu_put (j := 39) (v := ((gi cs 76 39) &&& u)) hk4 rfl h76d rfl
        have h76e : (cs3.set 76 (.inr (10, (msd.set 39 (.int ((gi cs 76 39) &&& u))))))[76]? = some (.inr (10, (msd.set 39 (.int ((gi cs 76 39) &&& u))))) := List.getElem?_set_self (List.getElem?_eq_some_iff.mp h76d).1
        have m39e : (msd.set 39 (.int ((gi cs 76 39) &&& u)))[39]? = some (.int ((gi cs 76 39) &&& u)) := List.getElem?_set_self (by omega)
        refine go_wp (hI _) (wq_aload_n dX10_test_57 rfl rfl ?_)
        refine go_wp (hI _) (wq_getfield dX10_test_58 fe_X10_277 h76e m39e rfl ?_)
        refine go_wp (hI _) (wq_ireturn dX10_test_61 trivial (hQ _ _ hk5 ((hx_fr hf13).tr (hf5.sub (by decide))) (by rw [hue]; exact (hu_tl (fun q => by rcases q with q | q | q | q <;> omega) (by rw [← hue]; exact q3')).1) (by rw [(gi_ri hr5).1, hue]; exact (hu_tl (fun q => by rcases q with q | q | q | q <;> omega) (by rw [← hue]; exact q3')).2)))
      · have q3' : Int32.toInt ((gi cs 76 39) &&& u) = Int32.toInt 0 := (ab_ieq (x := ((gi cs 76 39) &&& u)) (y := 0)).1 q3
        refine go_wp (hI _) (wq_aload_n dX10_test_46 rfl rfl ?_)
        refine go_wp (hI _) (wq_iconst (v := 2) dX10_test_47 (by decide) rfl ?_)
        refine go_wp (hI _) (wq_virtual (q := 2) (ci := 10) (a := 76) (av := [.ref 76, .int 2]) (r := []) dX10_test_48 rfl (Nat.le_of_ble_eq_true rfl) rfl rfl rfl (Nat.le_of_ble_eq_true rfl) h76d rfl (hx_call 4 (c := ([.inl 76, .inr (2, 2)], [], [(114, some 2)], [(some ((-1000000002), (-1000000002), none), [], [])])) rfl (hx_pr2 hx_cr (hx_ci (by decide))) hk4 (fun r csz hp => ?_)))
        obtain ⟨hkz, hfz, w, rfl, hw⟩ := hx_pin (z := -1000000002) rfl hp
        refine ret_int ?_
        refine go_wp (hI _) (wq_ireturn dX10_test_51 trivial (hQ _ _ hkz ((hx_fr hf13).tr (hfz.sub (by decide))) (hw.trans (hu_tn (fun q => by rcases q with q | q | q | q <;> omega) (by rw [← hue]; exact q3')).1) ((congrArg Int32.toInt ((gi_f1 hfz rfl).trans (gi_f1 hf13 rfl))).trans (hu_tn (fun q => by rcases q with q | q | q | q <;> omega) (by rw [← hue]; exact q3')).2)))
    · have q2' : Int32.toInt y = Int32.toInt 0 := (ab_ieq (x := y) (y := 0)).1 q2
      refine go_wp (hI _) (wq_aload_n dX10_test_24 rfl rfl ?_)
      refine go_wp (hI _) (wq_iconst (v := 1) dX10_test_25 (by decide) rfl ?_)
      refine go_wp (hI _) (wq_virtual (q := 2) (ci := 10) (a := 76) (av := [.ref 76, .int 1]) (r := []) dX10_test_26 rfl (Nat.le_of_ble_eq_true rfl) rfl rfl rfl (Nat.le_of_ble_eq_true rfl) h76c rfl (hx_call 1 (c := ([.inl 76, .inr (1, 1)], [], [(114, some 1)], [(some ((-1000000001), (-1000000001), none), [], [])])) rfl (hx_pr2 hx_cr (hx_ci (by decide))) hk3 (fun r csz hp => ?_)))
      obtain ⟨hkz, hfz, w, rfl, hw⟩ := hx_pin (z := -1000000001) rfl hp
      refine ret_int ?_
      refine go_wp (hI _) (wq_ireturn dX10_test_29 trivial (hQ _ _ hkz ((hx_fr hf12).tr (hfz.sub (by decide))) (hw.trans (hu_tb (by unfold hu_b; omega)).1) ((congrArg Int32.toInt ((gi_f1 hfz rfl).trans (gi_f1 hf12 rfl))).trans (hu_tb (by unfold hu_b; omega)).2)))
set_option maxRecDepth 100000 in
theorem bm_X10_test (l : Launch) : ex_Met l yX10_test cX10_test 4 (some .int) 1 26 (ab_sp ab_hd bc_X10_test) := by
  intro D ad ca n sz av cs Q h
  refine ex_lmet (by decide) rfl (bj_X10_test l) D ad ca n sz av cs Q ?_
  obtain ⟨c0, hc0, ⟨hp1, hp2, -⟩, hk, hQ⟩ := h
  have hc' : c0 = ([.inl 76, .inr (-2147483648, 2147483647), .inr (-2147483648, 2147483647)], [], [(76, some 39), (114, none)], [(some (-2147483648, 2147483647, some (900000002, 0)), [], [((1, 76, 39), -2147483648, 2147483647, some (900000003, 0))])]) := by
    unfold bc_X10_test bq_X10_test at hc0
    simpa using hc0
  subst hc'
  obtain ⟨v0, e0, pz0⟩ := hp2 0 _ rfl
  obtain ⟨v1, e1, c, rfl, c1, c2⟩ := hp2 1 _ rfl
  obtain ⟨v2, e2, m, rfl, m1, m2⟩ := hp2 2 _ rfl
  cases pz0
  have hav : av = [.ref 76, .int c, .int m] := hx_av3 hp1 e0 e1 e2
  subst hav
  refine sl_in 60 (fun _ => none) rfl (Nat.le_of_ble_eq_true rfl) rfl (tt_w0 (fun _ => rfl) hk (fun x cs' hk' hf' hx hs => ?_)) (fun pc J n lv st cs' hI hJ => (by cases hI))
  refine hQ _ _ ⟨hk', hf', _, List.mem_cons_self, ⟨x, rfl, hx_tb x, fun d hd => ?_⟩, fun q hq => (by cases hq), fun q hq => ?_⟩
  · cases hd
    rw [hg_2, hx]
    show _ = _ + (0 : Int)
    omega
  · rcases List.mem_singleton.mp hq with rfl
    exact hu_ff (hu_r39 hk') (by rw [hg_3]; exact hs)
