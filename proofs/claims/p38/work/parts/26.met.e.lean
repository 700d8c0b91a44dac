theorem ba_X10_ones : ec_al [(1542, Cond.code yX10_ones cX10_ones 3 (some .int)), (68, Cond.initialized yX10_ones.cls), (1541, Cond.static yX10_ones)] := ec_alk (by decide +kernel)
theorem bw_X10_ones : ec_cw yX10_ones cX10_ones 3 (some .int) := ⟨ba_X10_ones.1, ba_X10_ones.2.1, nc_RX10⟩
theorem bv_X10_ones : Cond.static yX10_ones ∈ ec_tb := ba_X10_ones.2.2.1
theorem bp_X10_ones : (parseMethodDescriptor yX10_ones.desc).map (fun d => d.parameters.length) = some 1 := by decide +kernel
theorem bj_X10_ones (l : Launch) : ex_ok l 0 0 bx_X10_ones := ec_okp fo_X10 co_X10 so_X10 (ec_okn)
theorem bm_X10_ones (l : Launch) : ex_Met l yX10_ones cX10_ones 3 (some .int) 0 0 (ab_sp ab_hd bc_X10_ones) := ab_met (by decide) pn_RX10 rfl (bj_X10_ones l) bd_X10_ones ab_hcm ab_xk bz_X10_ones
theorem ba_X10_hunt : ec_al [(1523, Cond.code yX10_hunt cX10_hunt 1 (some .int)), (68, Cond.initialized yX10_hunt.cls), (1521, Cond.instanceMethod yX10_hunt), (1522, Cond.selects yX10_hunt.cls yX10_hunt yX10_hunt)] := ec_alk (by decide +kernel)
theorem bw_X10_hunt : ec_cw yX10_hunt cX10_hunt 1 (some .int) := ⟨ba_X10_hunt.1, ba_X10_hunt.2.1, nc_RX10⟩
theorem bv_X10_hunt : Cond.instanceMethod yX10_hunt ∈ ec_tb ∧ Cond.selects yX10_hunt.cls yX10_hunt yX10_hunt ∈ ec_tb := ⟨ba_X10_hunt.2.2.1, ba_X10_hunt.2.2.2.1⟩
theorem bp_X10_hunt : (parseMethodDescriptor yX10_hunt.desc).map (fun d => d.parameters.length) = some 0 := by decide +kernel
theorem bj_X10_hunt (l : Launch) : ex_ok l 0 0 bx_X10_hunt := ec_okp fo_X10 co_X10 so_X10 (ec_okn)
theorem bm_X10_hunt (l : Launch) : ex_Met l yX10_hunt cX10_hunt 1 (some .int) 0 0 (ab_sp ab_hd bc_X10_hunt) := ab_met (by decide) pn_RX10 rfl (bj_X10_hunt l) bd_X10_hunt ab_hcm ab_xk bz_X10_hunt
theorem ba_X10_test : ec_al [(1527, Cond.code yX10_test cX10_test 4 (some .int)), (68, Cond.initialized yX10_test.cls), (1525, Cond.instanceMethod yX10_test), (1526, Cond.selects yX10_test.cls yX10_test yX10_test), (1291, Cond.methodLink RX10 164 yX10_isModule), (1303, Cond.methodLink RX10 171 yX10_isIn), (1282, Cond.methodLink RX10 160 yX10_finding), (1528, Cond.methodLink RX10 280 yX10_partOf)] := ec_alk (by decide +kernel)
theorem bw_X10_test : ec_cw yX10_test cX10_test 4 (some .int) := ⟨ba_X10_test.1, ba_X10_test.2.1, nc_RX10⟩
theorem bv_X10_test : Cond.instanceMethod yX10_test ∈ ec_tb ∧ Cond.selects yX10_test.cls yX10_test yX10_test ∈ ec_tb := ⟨ba_X10_test.2.2.1, ba_X10_test.2.2.2.1⟩
theorem bp_X10_test : (parseMethodDescriptor yX10_test.desc).map (fun d => d.parameters.length) = some 2 := by decide +kernel
theorem bk_X10_test (l : Launch) : ∀ (ix n : Nat) (rc : Option Nat) (sp : ex_S), (be_X10_test ix).map (fun q => (q.1, q.2.1, ab_sp ab_hd q.2.2)) = some (n, rc, sp) → ex_cok l RX10 1 26 ix n rc sp := by
  intro ix n rc sp h
  obtain ⟨l0, h2, rfl⟩ := ab_dmk h
  clear h
  unfold be_X10_test at h2
  split at h2
  · cases h2; exact ec_cV (bm_X10_isModule l) bw_X10_isModule bv_X10_isModule (by decide) (by decide) (Or.inl ba_X10_test.2.2.2.2.1) (T := TX10) (N := 57) rfl (by decide) bp_X10_isModule
  · cases h2; exact ec_cS (bm_X10_isIn l) bw_X10_isIn bv_X10_isIn (by decide) (by decide) (Or.inl ba_X10_test.2.2.2.2.2.1) bp_X10_isIn
  · cases h2; exact ec_cV (bm_X10_finding l) bw_X10_finding bv_X10_finding (by decide) (by decide) (Or.inl ba_X10_test.2.2.2.2.2.2.1) (T := TX10) (N := 57) rfl (by decide) bp_X10_finding
  · cases h2; exact ec_cV (bm_X10_partOf l) bw_X10_partOf bv_X10_partOf (by decide) (by decide) (Or.inl ba_X10_test.2.2.2.2.2.2.2.1) (T := TX10) (N := 57) rfl (by decide) bp_X10_partOf
  · cases h2
theorem bj_X10_test (l : Launch) : ex_ok l 1 26 bx_X10_test := ec_okp fo_X10 co_X10 so_X10 (bk_X10_test l)
theorem bm_X10_test (l : Launch) : ex_Met l yX10_test cX10_test 4 (some .int) 1 26 (ab_sp ab_hd bc_X10_test) := ab_met (by decide) pn_RX10 rfl (bj_X10_test l) bd_X10_test ab_hcm ab_xk bz_X10_test
theorem ba_X10_worst : ec_al [(1539, Cond.code yX10_worst cX10_worst 5 (some .int)), (68, Cond.initialized yX10_worst.cls), (1538, Cond.instanceMethod yX10_worst), (55, Cond.selects yX10_worst.cls yX10_worst yX10_worst), (1528, Cond.methodLink RX10 280 yX10_partOf), (1540, Cond.methodLink RX10 283 yX10_ones)] := ec_alk (by decide +kernel)
theorem bw_X10_worst : ec_cw yX10_worst cX10_worst 5 (some .int) := ⟨ba_X10_worst.1, ba_X10_worst.2.1, nc_RX10⟩
theorem bv_X10_worst : Cond.instanceMethod yX10_worst ∈ ec_tb ∧ Cond.selects yX10_worst.cls yX10_worst yX10_worst ∈ ec_tb := ⟨ba_X10_worst.2.2.1, ba_X10_worst.2.2.2.1⟩
theorem bp_X10_worst : (parseMethodDescriptor yX10_worst.desc).map (fun d => d.parameters.length) = some 1 := by decide +kernel
theorem bk_X10_worst (l : Launch) : ∀ (ix n : Nat) (rc : Option Nat) (sp : ex_S), (be_X10_worst ix).map (fun q => (q.1, q.2.1, ab_sp ab_hd q.2.2)) = some (n, rc, sp) → ex_cok l RX10 1 26 ix n rc sp := by
  intro ix n rc sp h
  obtain ⟨l0, h2, rfl⟩ := ab_dmk h
  clear h
  unfold be_X10_worst at h2
  split at h2
  · cases h2; exact ec_cV (bm_X10_partOf l) bw_X10_partOf bv_X10_partOf (by decide) (by decide) (Or.inl ba_X10_worst.2.2.2.2.1) (T := TX10) (N := 57) rfl (by decide) bp_X10_partOf
  · cases h2; exact ec_cS (bm_X10_ones l) bw_X10_ones bv_X10_ones (by decide) (by decide) (Or.inl ba_X10_worst.2.2.2.2.2.1) bp_X10_ones
  · cases h2
theorem bj_X10_worst (l : Launch) : ex_ok l 1 26 bx_X10_worst := ec_okp fo_X10 co_X10 so_X10 (bk_X10_worst l)
theorem bm_X10_worst (l : Launch) : ex_Met l yX10_worst cX10_worst 5 (some .int) 1 26 (ab_sp ab_hd bc_X10_worst) := ab_met (by decide) pn_RX10 rfl (bj_X10_worst l) bd_X10_worst ab_hcm ab_xk bz_X10_worst
theorem ba_X10_best : ec_al [(1535, Cond.code yX10_best cX10_best 5 (some .int)), (68, Cond.initialized yX10_best.cls), (1533, Cond.instanceMethod yX10_best), (1534, Cond.selects yX10_best.cls yX10_best yX10_best), (1303, Cond.methodLink RX10 171 yX10_isIn), (1282, Cond.methodLink RX10 160 yX10_finding), (1536, Cond.methodLink RX10 286 yX10_worst), (1540, Cond.methodLink RX10 283 yX10_ones)] := ec_alk (by decide +kernel)
theorem bw_X10_best : ec_cw yX10_best cX10_best 5 (some .int) := ⟨ba_X10_best.1, ba_X10_best.2.1, nc_RX10⟩
theorem bv_X10_best : Cond.instanceMethod yX10_best ∈ ec_tb ∧ Cond.selects yX10_best.cls yX10_best yX10_best ∈ ec_tb := ⟨ba_X10_best.2.2.1, ba_X10_best.2.2.2.1⟩
theorem bp_X10_best : (parseMethodDescriptor yX10_best.desc).map (fun d => d.parameters.length) = some 1 := by decide +kernel
theorem bk_X10_best (l : Launch) : ∀ (ix n : Nat) (rc : Option Nat) (sp : ex_S), (be_X10_best ix).map (fun q => (q.1, q.2.1, ab_sp ab_hd q.2.2)) = some (n, rc, sp) → ex_cok l RX10 2 50 ix n rc sp := by
  intro ix n rc sp h
  obtain ⟨l0, h2, rfl⟩ := ab_dmk h
  clear h
  unfold be_X10_best at h2
  split at h2
  · cases h2; exact ec_cS (bm_X10_isIn l) bw_X10_isIn bv_X10_isIn (by decide) (by decide) (Or.inl ba_X10_best.2.2.2.2.1) bp_X10_isIn
  · cases h2; exact ec_cV (bm_X10_finding l) bw_X10_finding bv_X10_finding (by decide) (by decide) (Or.inl ba_X10_best.2.2.2.2.2.1) (T := TX10) (N := 57) rfl (by decide) bp_X10_finding
  · cases h2; exact ec_cV (bm_X10_worst l) bw_X10_worst bv_X10_worst (by decide) (by decide) (Or.inl ba_X10_best.2.2.2.2.2.2.1) (T := TX10) (N := 57) rfl (by decide) bp_X10_worst
  · cases h2; exact ec_cS (bm_X10_ones l) bw_X10_ones bv_X10_ones (by decide) (by decide) (Or.inl ba_X10_best.2.2.2.2.2.2.2.1) bp_X10_ones
  · cases h2
theorem bj_X10_best (l : Launch) : ex_ok l 2 50 bx_X10_best := ec_okp fo_X10 co_X10 so_X10 (bk_X10_best l)
theorem bm_X10_best (l : Launch) : ex_Met l yX10_best cX10_best 5 (some .int) 2 50 (ab_sp ab_hd bc_X10_best) := ab_met (by decide) pn_RX10 rfl (bj_X10_best l) bd_X10_best ab_hcm ab_xk bz_X10_best
theorem ba_X10_suspects : ec_al [(1546, Cond.code yX10_suspects cX10_suspects 1 (some .int)), (68, Cond.initialized yX10_suspects.cls), (1544, Cond.instanceMethod yX10_suspects), (1545, Cond.selects yX10_suspects.cls yX10_suspects yX10_suspects)] := ec_alk (by decide +kernel)
theorem bw_X10_suspects : ec_cw yX10_suspects cX10_suspects 1 (some .int) := ⟨ba_X10_suspects.1, ba_X10_suspects.2.1, nc_RX10⟩
theorem bv_X10_suspects : Cond.instanceMethod yX10_suspects ∈ ec_tb ∧ Cond.selects yX10_suspects.cls yX10_suspects yX10_suspects ∈ ec_tb := ⟨ba_X10_suspects.2.2.1, ba_X10_suspects.2.2.2.1⟩
theorem bp_X10_suspects : (parseMethodDescriptor yX10_suspects.desc).map (fun d => d.parameters.length) = some 0 := by decide +kernel
theorem bj_X10_suspects (l : Launch) : ex_ok l 0 0 bx_X10_suspects := ec_okp fo_X10 co_X10 so_X10 (ec_okn)
theorem bm_X10_suspects (l : Launch) : ex_Met l yX10_suspects cX10_suspects 1 (some .int) 0 0 (ab_sp ab_hd bc_X10_suspects) := ab_met (by decide) pn_RX10 rfl (bj_X10_suspects l) bd_X10_suspects ab_hcm ab_xk bz_X10_suspects
theorem ba_X10_read : ec_al [(1550, Cond.code yX10_read cX10_read 3 (some .int)), (68, Cond.initialized yX10_read.cls), (1548, Cond.instanceMethod yX10_read), (1549, Cond.selects yX10_read.cls yX10_read yX10_read), (1303, Cond.methodLink RX10 171 yX10_isIn), (1282, Cond.methodLink RX10 160 yX10_finding)] := ec_alk (by decide +kernel)
theorem bw_X10_read : ec_cw yX10_read cX10_read 3 (some .int) := ⟨ba_X10_read.1, ba_X10_read.2.1, nc_RX10⟩
theorem bv_X10_read : Cond.instanceMethod yX10_read ∈ ec_tb ∧ Cond.selects yX10_read.cls yX10_read yX10_read ∈ ec_tb := ⟨ba_X10_read.2.2.1, ba_X10_read.2.2.2.1⟩
theorem bp_X10_read : (parseMethodDescriptor yX10_read.desc).map (fun d => d.parameters.length) = some 2 := by decide +kernel
theorem bk_X10_read (l : Launch) : ∀ (ix n : Nat) (rc : Option Nat) (sp : ex_S), (be_X10_read ix).map (fun q => (q.1, q.2.1, ab_sp ab_hd q.2.2)) = some (n, rc, sp) → ex_cok l RX10 1 22 ix n rc sp := by
  intro ix n rc sp h
  obtain ⟨l0, h2, rfl⟩ := ab_dmk h
  clear h
  unfold be_X10_read at h2
  split at h2
  · cases h2; exact ec_cS (bm_X10_isIn l) bw_X10_isIn bv_X10_isIn (by decide) (by decide) (Or.inl ba_X10_read.2.2.2.2.1) bp_X10_isIn
  · cases h2; exact ec_cV (bm_X10_finding l) bw_X10_finding bv_X10_finding (by decide) (by decide) (Or.inl ba_X10_read.2.2.2.2.2.1) (T := TX10) (N := 57) rfl (by decide) bp_X10_finding
  · cases h2
theorem bj_X10_read (l : Launch) : ex_ok l 1 22 bx_X10_read := ec_okp fo_X10 co_X10 so_X10 (bk_X10_read l)
theorem bm_X10_read (l : Launch) : ex_Met l yX10_read cX10_read 3 (some .int) 1 22 (ab_sp ab_hd bc_X10_read) := ab_met (by decide) pn_RX10 rfl (bj_X10_read l) bd_X10_read ab_hcm ab_xk bz_X10_read
theorem ba_X10_calibrate : ec_al [(1554, Cond.code yX10_calibrate cX10_calibrate 3 (some .int)), (68, Cond.initialized yX10_calibrate.cls), (1552, Cond.instanceMethod yX10_calibrate), (1553, Cond.selects yX10_calibrate.cls yX10_calibrate yX10_calibrate), (1303, Cond.methodLink RX10 171 yX10_isIn), (1282, Cond.methodLink RX10 160 yX10_finding)] := ec_alk (by decide +kernel)
theorem bw_X10_calibrate : ec_cw yX10_calibrate cX10_calibrate 3 (some .int) := ⟨ba_X10_calibrate.1, ba_X10_calibrate.2.1, nc_RX10⟩
theorem bv_X10_calibrate : Cond.instanceMethod yX10_calibrate ∈ ec_tb ∧ Cond.selects yX10_calibrate.cls yX10_calibrate yX10_calibrate ∈ ec_tb := ⟨ba_X10_calibrate.2.2.1, ba_X10_calibrate.2.2.2.1⟩
theorem bp_X10_calibrate : (parseMethodDescriptor yX10_calibrate.desc).map (fun d => d.parameters.length) = some 2 := by decide +kernel
theorem bk_X10_calibrate (l : Launch) : ∀ (ix n : Nat) (rc : Option Nat) (sp : ex_S), (be_X10_calibrate ix).map (fun q => (q.1, q.2.1, ab_sp ab_hd q.2.2)) = some (n, rc, sp) → ex_cok l RX10 1 22 ix n rc sp := by
  intro ix n rc sp h
  obtain ⟨l0, h2, rfl⟩ := ab_dmk h
  clear h
  unfold be_X10_calibrate at h2
  split at h2
  · cases h2; exact ec_cS (bm_X10_isIn l) bw_X10_isIn bv_X10_isIn (by decide) (by decide) (Or.inl ba_X10_calibrate.2.2.2.2.1) bp_X10_isIn
  · cases h2; exact ec_cV (bm_X10_finding l) bw_X10_finding bv_X10_finding (by decide) (by decide) (Or.inl ba_X10_calibrate.2.2.2.2.2.1) (T := TX10) (N := 57) rfl (by decide) bp_X10_finding
  · cases h2
theorem bj_X10_calibrate (l : Launch) : ex_ok l 1 22 bx_X10_calibrate := ec_okp fo_X10 co_X10 so_X10 (bk_X10_calibrate l)
theorem bm_X10_calibrate (l : Launch) : ex_Met l yX10_calibrate cX10_calibrate 3 (some .int) 1 22 (ab_sp ab_hd bc_X10_calibrate) := ab_met (by decide) pn_RX10 rfl (bj_X10_calibrate l) bd_X10_calibrate ab_hcm ab_xk bz_X10_calibrate
theorem ba_X10_tooMuch : ec_al [(1562, Cond.code yX10_tooMuch cX10_tooMuch 6 (some .int)), (68, Cond.initialized yX10_tooMuch.cls), (1561, Cond.instanceMethod yX10_tooMuch), (56, Cond.selects yX10_tooMuch.cls yX10_tooMuch yX10_tooMuch)] := ec_alk (by decide +kernel)
theorem bw_X10_tooMuch : ec_cw yX10_tooMuch cX10_tooMuch 6 (some .int) := ⟨ba_X10_tooMuch.1, ba_X10_tooMuch.2.1, nc_RX10⟩
theorem bv_X10_tooMuch : Cond.instanceMethod yX10_tooMuch ∈ ec_tb ∧ Cond.selects yX10_tooMuch.cls yX10_tooMuch yX10_tooMuch ∈ ec_tb := ⟨ba_X10_tooMuch.2.2.1, ba_X10_tooMuch.2.2.2.1⟩
theorem bp_X10_tooMuch : (parseMethodDescriptor yX10_tooMuch.desc).map (fun d => d.parameters.length) = some 2 := by decide +kernel
theorem bj_X10_tooMuch (l : Launch) : ex_ok l 0 0 bx_X10_tooMuch := ec_okp fo_X10 co_X10 so_X10 (ec_okn)
theorem dX10_tooMuch_0 : decode cX10_tooMuch 0 = .ok (.iconst (-1), 1) := by decide +kernel
theorem dX10_tooMuch_1 : decode cX10_tooMuch 1 = .ok (.istore_n 3, 1) := by decide +kernel
theorem dX10_tooMuch_2 : decode cX10_tooMuch 2 = .ok (.iconst (-1), 1) := by decide +kernel
theorem dX10_tooMuch_3 : decode cX10_tooMuch 3 = .ok (.istore 4, 2) := by decide +kernel
theorem dX10_tooMuch_5 : decode cX10_tooMuch 5 = .ok (.iconst 0, 1) := by decide +kernel
theorem dX10_tooMuch_6 : decode cX10_tooMuch 6 = .ok (.istore 5, 2) := by decide +kernel
theorem dX10_tooMuch_8 : decode cX10_tooMuch 8 = .ok (.iload 5, 2) := by decide +kernel
theorem dX10_tooMuch_10 : decode cX10_tooMuch 10 = .ok (.aload_n 0, 1) := by decide +kernel
theorem dX10_tooMuch_11 : decode cX10_tooMuch 11 = .ok (.getfield 292, 3) := by decide +kernel
theorem dX10_tooMuch_14 : decode cX10_tooMuch 14 = .ok (.if_icmp .ge 80, 3) := by decide +kernel
theorem dX10_tooMuch_17 : decode cX10_tooMuch 17 = .ok (.aload_n 0, 1) := by decide +kernel
theorem dX10_tooMuch_18 : decode cX10_tooMuch 18 = .ok (.getfield 122, 3) := by decide +kernel
theorem dX10_tooMuch_21 : decode cX10_tooMuch 21 = .ok (.iload 5, 2) := by decide +kernel
theorem dX10_tooMuch_23 : decode cX10_tooMuch 23 = .ok (.iaload, 1) := by decide +kernel
theorem dX10_tooMuch_24 : decode cX10_tooMuch 24 = .ok (.iload_n 1, 1) := by decide +kernel
theorem dX10_tooMuch_25 : decode cX10_tooMuch 25 = .ok (.if_icmp .ne 63, 3) := by decide +kernel
theorem dX10_tooMuch_28 : decode cX10_tooMuch 28 = .ok (.aload_n 0, 1) := by decide +kernel
theorem dX10_tooMuch_29 : decode cX10_tooMuch 29 = .ok (.getfield 125, 3) := by decide +kernel
theorem dX10_tooMuch_32 : decode cX10_tooMuch 32 = .ok (.iload 5, 2) := by decide +kernel
theorem dX10_tooMuch_34 : decode cX10_tooMuch 34 = .ok (.iaload, 1) := by decide +kernel
theorem dX10_tooMuch_35 : decode cX10_tooMuch 35 = .ok (.iload_n 2, 1) := by decide +kernel
theorem dX10_tooMuch_36 : decode cX10_tooMuch 36 = .ok (.if_icmp .gt 8, 3) := by decide +kernel
theorem dX10_tooMuch_39 : decode cX10_tooMuch 39 = .ok (.iload 5, 2) := by decide +kernel
theorem dX10_tooMuch_41 : decode cX10_tooMuch 41 = .ok (.goto 4, 3) := by decide +kernel
theorem dX10_tooMuch_44 : decode cX10_tooMuch 44 = .ok (.iload_n 3, 1) := by decide +kernel
theorem dX10_tooMuch_45 : decode cX10_tooMuch 45 = .ok (.istore_n 3, 1) := by decide +kernel
theorem dX10_tooMuch_46 : decode cX10_tooMuch 46 = .ok (.aload_n 0, 1) := by decide +kernel
theorem dX10_tooMuch_47 : decode cX10_tooMuch 47 = .ok (.getfield 125, 3) := by decide +kernel
theorem dX10_tooMuch_50 : decode cX10_tooMuch 50 = .ok (.iload 5, 2) := by decide +kernel
theorem dX10_tooMuch_52 : decode cX10_tooMuch 52 = .ok (.iaload, 1) := by decide +kernel
theorem dX10_tooMuch_53 : decode cX10_tooMuch 53 = .ok (.iload_n 2, 1) := by decide +kernel
theorem dX10_tooMuch_54 : decode cX10_tooMuch 54 = .ok (.if_icmp .le 30, 3) := by decide +kernel
theorem dX10_tooMuch_57 : decode cX10_tooMuch 57 = .ok (.iload 4, 2) := by decide +kernel
theorem dX10_tooMuch_59 : decode cX10_tooMuch 59 = .ok (.ifCond .lt 20, 3) := by decide +kernel
theorem dX10_tooMuch_62 : decode cX10_tooMuch 62 = .ok (.aload_n 0, 1) := by decide +kernel
theorem dX10_tooMuch_63 : decode cX10_tooMuch 63 = .ok (.getfield 125, 3) := by decide +kernel
theorem dX10_tooMuch_66 : decode cX10_tooMuch 66 = .ok (.iload 5, 2) := by decide +kernel
theorem dX10_tooMuch_68 : decode cX10_tooMuch 68 = .ok (.iaload, 1) := by decide +kernel
theorem dX10_tooMuch_69 : decode cX10_tooMuch 69 = .ok (.aload_n 0, 1) := by decide +kernel
theorem dX10_tooMuch_70 : decode cX10_tooMuch 70 = .ok (.getfield 125, 3) := by decide +kernel
theorem dX10_tooMuch_73 : decode cX10_tooMuch 73 = .ok (.iload 4, 2) := by decide +kernel
theorem dX10_tooMuch_75 : decode cX10_tooMuch 75 = .ok (.iaload, 1) := by decide +kernel
theorem dX10_tooMuch_76 : decode cX10_tooMuch 76 = .ok (.if_icmp .ne 8, 3) := by decide +kernel
theorem dX10_tooMuch_79 : decode cX10_tooMuch 79 = .ok (.iload 5, 2) := by decide +kernel
theorem dX10_tooMuch_81 : decode cX10_tooMuch 81 = .ok (.goto 5, 3) := by decide +kernel
theorem dX10_tooMuch_84 : decode cX10_tooMuch 84 = .ok (.iload 4, 2) := by decide +kernel
theorem dX10_tooMuch_86 : decode cX10_tooMuch 86 = .ok (.istore 4, 2) := by decide +kernel
theorem dX10_tooMuch_88 : decode cX10_tooMuch 88 = .ok (.iinc 5 1, 3) := by decide +kernel
theorem dX10_tooMuch_91 : decode cX10_tooMuch 91 = .ok (.goto (-83), 3) := by decide +kernel
theorem dX10_tooMuch_94 : decode cX10_tooMuch 94 = .ok (.iload_n 3, 1) := by decide +kernel
theorem dX10_tooMuch_95 : decode cX10_tooMuch 95 = .ok (.ifCond .lt 8, 3) := by decide +kernel
theorem dX10_tooMuch_98 : decode cX10_tooMuch 98 = .ok (.iload 4, 2) := by decide +kernel
theorem dX10_tooMuch_100 : decode cX10_tooMuch 100 = .ok (.ifCond .ge 33, 3) := by decide +kernel
theorem dX10_tooMuch_103 : decode cX10_tooMuch 103 = .ok (.iload_n 3, 1) := by decide +kernel
theorem dX10_tooMuch_104 : decode cX10_tooMuch 104 = .ok (.ifCond .lt 12, 3) := by decide +kernel
theorem dX10_tooMuch_107 : decode cX10_tooMuch 107 = .ok (.aload_n 0, 1) := by decide +kernel
theorem dX10_tooMuch_108 : decode cX10_tooMuch 108 = .ok (.getfield 128, 3) := by decide +kernel
theorem dX10_tooMuch_111 : decode cX10_tooMuch 111 = .ok (.iload_n 3, 1) := by decide +kernel
theorem dX10_tooMuch_112 : decode cX10_tooMuch 112 = .ok (.iaload, 1) := by decide +kernel
theorem dX10_tooMuch_113 : decode cX10_tooMuch 113 = .ok (.goto 19, 3) := by decide +kernel
theorem dX10_tooMuch_116 : decode cX10_tooMuch 116 = .ok (.iload 4, 2) := by decide +kernel
theorem dX10_tooMuch_118 : decode cX10_tooMuch 118 = .ok (.ifCond .lt 13, 3) := by decide +kernel
theorem dX10_tooMuch_121 : decode cX10_tooMuch 121 = .ok (.aload_n 0, 1) := by decide +kernel
theorem dX10_tooMuch_122 : decode cX10_tooMuch 122 = .ok (.getfield 128, 3) := by decide +kernel
theorem dX10_tooMuch_125 : decode cX10_tooMuch 125 = .ok (.iload 4, 2) := by decide +kernel
theorem dX10_tooMuch_127 : decode cX10_tooMuch 127 = .ok (.iaload, 1) := by decide +kernel
theorem dX10_tooMuch_128 : decode cX10_tooMuch 128 = .ok (.goto 4, 3) := by decide +kernel
theorem dX10_tooMuch_131 : decode cX10_tooMuch 131 = .ok (.iconst 0, 1) := by decide +kernel
theorem dX10_tooMuch_132 : decode cX10_tooMuch 132 = .ok (.ireturn, 1) := by decide +kernel
theorem dX10_tooMuch_133 : decode cX10_tooMuch 133 = .ok (.aload_n 0, 1) := by decide +kernel
theorem dX10_tooMuch_134 : decode cX10_tooMuch 134 = .ok (.getfield 128, 3) := by decide +kernel
theorem dX10_tooMuch_137 : decode cX10_tooMuch 137 = .ok (.iload_n 3, 1) := by decide +kernel
theorem dX10_tooMuch_138 : decode cX10_tooMuch 138 = .ok (.iaload, 1) := by decide +kernel
theorem dX10_tooMuch_139 : decode cX10_tooMuch 139 = .ok (.aload_n 0, 1) := by decide +kernel
theorem dX10_tooMuch_140 : decode cX10_tooMuch 140 = .ok (.getfield 128, 3) := by decide +kernel
theorem dX10_tooMuch_143 : decode cX10_tooMuch 143 = .ok (.iload 4, 2) := by decide +kernel
theorem dX10_tooMuch_145 : decode cX10_tooMuch 145 = .ok (.iaload, 1) := by decide +kernel
theorem dX10_tooMuch_146 : decode cX10_tooMuch 146 = .ok (.aload_n 0, 1) := by decide +kernel
theorem dX10_tooMuch_147 : decode cX10_tooMuch 147 = .ok (.getfield 128, 3) := by decide +kernel
theorem dX10_tooMuch_150 : decode cX10_tooMuch 150 = .ok (.iload_n 3, 1) := by decide +kernel
theorem dX10_tooMuch_151 : decode cX10_tooMuch 151 = .ok (.iaload, 1) := by decide +kernel
theorem dX10_tooMuch_152 : decode cX10_tooMuch 152 = .ok (.isub, 1) := by decide +kernel
theorem dX10_tooMuch_153 : decode cX10_tooMuch 153 = .ok (.iload_n 2, 1) := by decide +kernel
theorem dX10_tooMuch_154 : decode cX10_tooMuch 154 = .ok (.aload_n 0, 1) := by decide +kernel
theorem dX10_tooMuch_155 : decode cX10_tooMuch 155 = .ok (.getfield 125, 3) := by decide +kernel
theorem dX10_tooMuch_158 : decode cX10_tooMuch 158 = .ok (.iload_n 3, 1) := by decide +kernel
theorem dX10_tooMuch_159 : decode cX10_tooMuch 159 = .ok (.iaload, 1) := by decide +kernel
theorem dX10_tooMuch_160 : decode cX10_tooMuch 160 = .ok (.isub, 1) := by decide +kernel
theorem dX10_tooMuch_161 : decode cX10_tooMuch 161 = .ok (.imul, 1) := by decide +kernel
theorem dX10_tooMuch_162 : decode cX10_tooMuch 162 = .ok (.aload_n 0, 1) := by decide +kernel
theorem dX10_tooMuch_163 : decode cX10_tooMuch 163 = .ok (.getfield 125, 3) := by decide +kernel
theorem dX10_tooMuch_166 : decode cX10_tooMuch 166 = .ok (.iload 4, 2) := by decide +kernel
theorem dX10_tooMuch_168 : decode cX10_tooMuch 168 = .ok (.iaload, 1) := by decide +kernel
theorem dX10_tooMuch_169 : decode cX10_tooMuch 169 = .ok (.aload_n 0, 1) := by decide +kernel
theorem dX10_tooMuch_170 : decode cX10_tooMuch 170 = .ok (.getfield 125, 3) := by decide +kernel
theorem dX10_tooMuch_173 : decode cX10_tooMuch 173 = .ok (.iload_n 3, 1) := by decide +kernel
theorem dX10_tooMuch_174 : decode cX10_tooMuch 174 = .ok (.iaload, 1) := by decide +kernel
theorem dX10_tooMuch_175 : decode cX10_tooMuch 175 = .ok (.isub, 1) := by decide +kernel
theorem dX10_tooMuch_176 : decode cX10_tooMuch 176 = .ok (.idiv, 1) := by decide +kernel
theorem dX10_tooMuch_177 : decode cX10_tooMuch 177 = .ok (.iadd, 1) := by decide +kernel
theorem dX10_tooMuch_178 : decode cX10_tooMuch 178 = .ok (.ireturn, 1) := by decide +kernel
def tz_J (f g : Nat → Int32) (s t cal : Int32) (cs0 : ex_C) : Nat → ex_L → ex_V → ex_C → Prop := fun n lv st cs => st = [] ∧ cs = cs0 ∧ ∃ bf af i : Int32, lv = [some (.ref 76), some (.int s), some (.int t), some (.int bf), some (.int af), some (.int i)] ∧ wk_l f g s t i.toNatClampNeg = (bf.toInt, af.toInt) ∧ 0 ≤ i.toInt ∧ i.toInt ≤ cal.toInt ∧ (n : Int) = 20 - i.toInt
def tz_I (f g : Nat → Int32) (s t cal : Int32) (cs0 : ex_C) (pc : Nat) : Option (Nat → ex_L → ex_V → ex_C → Prop) := if pc = 8 then some (tz_J f g s t cal cs0) else none
def tz_B (f g : Nat → Int32) (s t cal : Int32) (cs0 : ex_C) (n : Nat) : Nat → Option (ex_L → ex_V → ex_C → Prop) := fun pc => (tz_I f g s t cal cs0 pc).map (fun J' lv st cs => ∃ n', n' < n ∧ J' n' lv st cs)
def tz_A (f g : Nat → Int32) (s t cal : Int32) (cs0 : ex_C) : Nat → Option (ex_L → ex_V → ex_C → Prop) := fun pc => (tz_I f g s t cal cs0 pc).map (fun J' lv st cs => ∃ n', J' n' lv st cs)
set_option maxRecDepth 100000 in
set_option maxHeartbeats 4000000 in
theorem tz_w8 {cs : ex_C} {Q : ex_Q} {s t : Int32} (hk : ab_hk ab_hd cs) {fs : List Value} (h76 : cs[76]? = some (.inr (10, fs))) {cal : Int32} (hs_calibrations : fs[45]? = some (.int cal)) (cal1 : 0 ≤ cal.toInt) (cal2 : cal.toInt ≤ 20) {f : Nat → Int32} (hs_calSensor : fs[46]? = some (.ref 110)) (h_f : cs[110]? = some (.inl (0, 20, .inl f))) {g : Nat → Int32} (hs_calAt : fs[47]? = some (.ref 111)) (h_g : cs[111]? = some (.inl (0, 20, .inl g))) {e : Nat → Int32} (hs_over : fs[48]? = some (.ref 112)) (h_e : cs[112]? = some (.inl (0, 20, .inl e))) (hQ : ∀ r cs', ab_hk ab_hd cs' → ab_fr [] cs cs' → r = wk_t false f g e s t cal.toNatClampNeg → Q (some (.int r)) cs') {n : Nat} {bf af i : Int32} (hw : wk_l f g s t i.toNatClampNeg = (bf.toInt, af.toInt)) (b3 : 0 ≤ i.toInt) (b4 : i.toInt ≤ cal.toInt) (hn : (n : Int) = 20 - i.toInt) : ex_wp ec_xt bx_X10_tooMuch cX10_tooMuch (some .int) (tz_B f g s t cal cs n) Q 90 8 [some (.ref 76), some (.int s), some (.int t), some (.int bf), some (.int af), some (.int i)] [] cs := by
  have z0 := hx_z0
  have hb := wx_l hw b3 (by omega)
  refine wq_iload dX10_tooMuch_8 rfl rfl ?_
  refine go_wp rfl (wq_aload_n dX10_tooMuch_10 rfl rfl ?_)
  refine go_wp rfl (wq_getfield dX10_tooMuch_11 fe_X10_292 h76 hs_calibrations rfl ?_)
  refine go_wp rfl (wq_icmp_ge (t := 94) dX10_tooMuch_14 (by decide) rfl (fun q1 => ?_) (fun q1 => ?_))
  · have q1' : Int32.toInt i ≥ Int32.toInt cal := (ab_ige (x := i) (y := cal)).1 q1
    refine go_wp rfl (wq_iload_n dX10_tooMuch_94 rfl rfl ?_)
    refine go_wp rfl (wq_if_lt (t := 103) dX10_tooMuch_95 (by decide) rfl (fun q2 => ?_) (fun q2 => ?_))
    · have q2' : Int32.toInt bf < Int32.toInt 0 := (ab_ilt (x := bf) (y := 0)).1 q2
      refine go_wp rfl (wq_iload_n dX10_tooMuch_103 rfl rfl ?_)
      refine go_wp rfl (wq_if_lt (t := 116) dX10_tooMuch_104 (by decide) rfl (fun q3 => ?_) (fun q3 => ?_))
      · have q3' : Int32.toInt bf < Int32.toInt 0 := (ab_ilt (x := bf) (y := 0)).1 q3
        refine go_wp rfl (wq_iload dX10_tooMuch_116 rfl rfl ?_)
        refine go_wp rfl (wq_if_lt (t := 131) dX10_tooMuch_118 (by decide) rfl (fun q4 => ?_) (fun q4 => ?_))
        · have q4' : Int32.toInt af < Int32.toInt 0 := (ab_ilt (x := af) (y := 0)).1 q4
          refine go_wp rfl (wq_iconst (v := 0) dX10_tooMuch_131 (by decide) rfl ?_)
          refine go_wp rfl (wq_ireturn dX10_tooMuch_132 trivial (by have ei : i = cal := Int32.toInt_inj.mp (by omega); rw [ei] at hw; exact hQ _ _ hk ab_rf0 (wy_0 hw (by omega) (by omega))))
        · have q4' : Int32.toInt af ≥ Int32.toInt 0 := (ab_ilt (x := af) (y := 0)).2 q4
          refine go_wp rfl (wq_aload_n dX10_tooMuch_121 rfl rfl ?_)
          refine go_wp rfl (wq_getfield dX10_tooMuch_122 fe_X10_128 h76 hs_over rfl ?_)
          refine go_wp rfl (wq_iload dX10_tooMuch_125 rfl rfl ?_)
          refine go_wp rfl (wq_iaload (v := (e af.toNatClampNeg)) dX10_tooMuch_127 (by decide) h_e (hx_vp (by omega) (by omega)) rfl rfl ?_)
          refine go_wp rfl (wq_goto (t := 132) dX10_tooMuch_128 (by decide) ?_)
          refine go_wp rfl (wq_ireturn dX10_tooMuch_132 trivial (by have ei : i = cal := Int32.toInt_inj.mp (by omega); rw [ei] at hw; exact hQ _ _ hk ab_rf0 (wy_1 hw (by omega) (by omega))))
      · have q3' : Int32.toInt bf ≥ Int32.toInt 0 := (ab_ilt (x := bf) (y := 0)).2 q3
        refine go_wp rfl (wq_aload_n dX10_tooMuch_107 rfl rfl ?_)
        refine go_wp rfl (wq_getfield dX10_tooMuch_108 fe_X10_128 h76 hs_over rfl ?_)
        refine go_wp rfl (wq_iload_n dX10_tooMuch_111 rfl rfl ?_)
        refine go_wp rfl (wq_iaload (v := (e bf.toNatClampNeg)) dX10_tooMuch_112 (by decide) h_e (hx_vp (by omega) (by omega)) rfl rfl ?_)
        refine go_wp rfl (wq_goto (t := 132) dX10_tooMuch_113 (by decide) ?_)
        refine go_wp rfl (wq_ireturn dX10_tooMuch_132 trivial (by exfalso; omega))
    · have q2' : Int32.toInt bf ≥ Int32.toInt 0 := (ab_ilt (x := bf) (y := 0)).2 q2
      refine go_wp rfl (wq_iload dX10_tooMuch_98 rfl rfl ?_)
      refine go_wp rfl (wq_if_ge (t := 133) dX10_tooMuch_100 (by decide) rfl (fun q5 => ?_) (fun q5 => ?_))
      · have q5' : Int32.toInt af ≥ Int32.toInt 0 := (ab_ige (x := af) (y := 0)).1 q5
        refine go_wp rfl (wq_aload_n dX10_tooMuch_133 rfl rfl ?_)
        refine go_wp rfl (wq_getfield dX10_tooMuch_134 fe_X10_128 h76 hs_over rfl ?_)
        refine go_wp rfl (wq_iload_n dX10_tooMuch_137 rfl rfl ?_)
        refine go_wp rfl (wq_iaload (v := (e bf.toNatClampNeg)) dX10_tooMuch_138 (by decide) h_e (hx_vp (by omega) (by omega)) rfl rfl ?_)
        refine go_wp rfl (wq_aload_n dX10_tooMuch_139 rfl rfl ?_)
        refine go_wp rfl (wq_getfield dX10_tooMuch_140 fe_X10_128 h76 hs_over rfl ?_)
        refine go_wp rfl (wq_iload dX10_tooMuch_143 rfl rfl ?_)
        refine go_wp rfl (wq_iaload (v := (e af.toNatClampNeg)) dX10_tooMuch_145 (by decide) h_e (hx_vp (by omega) (by omega)) rfl rfl ?_)
        refine go_wp rfl (wq_aload_n dX10_tooMuch_146 rfl rfl ?_)
        refine go_wp rfl (wq_getfield dX10_tooMuch_147 fe_X10_128 h76 hs_over rfl ?_)
        refine go_wp rfl (wq_iload_n dX10_tooMuch_150 rfl rfl ?_)
        refine go_wp rfl (wq_iaload (v := (e bf.toNatClampNeg)) dX10_tooMuch_151 (by decide) h_e (hx_vp (by omega) (by omega)) rfl rfl ?_)
        refine go_wp rfl (wq_isub (v := ((e af.toNatClampNeg) - (e bf.toNatClampNeg))) dX10_tooMuch_152 rfl rfl ?_)
        refine go_wp rfl (wq_iload_n dX10_tooMuch_153 rfl rfl ?_)
        refine go_wp rfl (wq_aload_n dX10_tooMuch_154 rfl rfl ?_)
        refine go_wp rfl (wq_getfield dX10_tooMuch_155 fe_X10_125 h76 hs_calAt rfl ?_)
        refine go_wp rfl (wq_iload_n dX10_tooMuch_158 rfl rfl ?_)
        refine go_wp rfl (wq_iaload (v := (g bf.toNatClampNeg)) dX10_tooMuch_159 (by decide) h_g (hx_vp (by omega) (by omega)) rfl rfl ?_)
        refine go_wp rfl (wq_isub (v := (t - (g bf.toNatClampNeg))) dX10_tooMuch_160 rfl rfl ?_)
        refine go_wp rfl (wq_imul (v := (((e af.toNatClampNeg) - (e bf.toNatClampNeg)) * (t - (g bf.toNatClampNeg)))) dX10_tooMuch_161 rfl rfl ?_)
        refine go_wp rfl (wq_aload_n dX10_tooMuch_162 rfl rfl ?_)
        refine go_wp rfl (wq_getfield dX10_tooMuch_163 fe_X10_125 h76 hs_calAt rfl ?_)
        refine go_wp rfl (wq_iload dX10_tooMuch_166 rfl rfl ?_)
        refine go_wp rfl (wq_iaload (v := (g af.toNatClampNeg)) dX10_tooMuch_168 (by decide) h_g (hx_vp (by omega) (by omega)) rfl rfl ?_)
        refine go_wp rfl (wq_aload_n dX10_tooMuch_169 rfl rfl ?_)
        refine go_wp rfl (wq_getfield dX10_tooMuch_170 fe_X10_125 h76 hs_calAt rfl ?_)
        refine go_wp rfl (wq_iload_n dX10_tooMuch_173 rfl rfl ?_)
        refine go_wp rfl (wq_iaload (v := (g bf.toNatClampNeg)) dX10_tooMuch_174 (by decide) h_g (hx_vp (by omega) (by omega)) rfl rfl ?_)
        refine go_wp rfl (wq_isub (v := ((g af.toNatClampNeg) - (g bf.toNatClampNeg))) dX10_tooMuch_175 rfl rfl ?_)
        refine go_wp rfl (wq_idiv (v := ((((e af.toNatClampNeg) - (e bf.toNatClampNeg)) * (t - (g bf.toNatClampNeg))) / ((g af.toNatClampNeg) - (g bf.toNatClampNeg)))) dX10_tooMuch_176 (hx_sub0 (wx_ne hw (by omega) (by omega))) rfl rfl ?_)
        refine go_wp rfl (wq_iadd (v := ((e bf.toNatClampNeg) + ((((e af.toNatClampNeg) - (e bf.toNatClampNeg)) * (t - (g bf.toNatClampNeg))) / ((g af.toNatClampNeg) - (g bf.toNatClampNeg))))) dX10_tooMuch_177 rfl rfl ?_)
        refine go_wp rfl (wq_ireturn dX10_tooMuch_178 trivial (by have ei : i = cal := Int32.toInt_inj.mp (by omega); rw [ei] at hw; exact hQ _ _ hk ab_rf0 (Eq.trans wy_4 (wy_3 hw (by omega) (by omega)))))
      · have q5' : Int32.toInt af < Int32.toInt 0 := (ab_ige (x := af) (y := 0)).2 q5
        refine go_wp rfl (wq_iload_n dX10_tooMuch_103 rfl rfl ?_)
        refine go_wp rfl (wq_if_lt (t := 116) dX10_tooMuch_104 (by decide) rfl (fun q6 => ?_) (fun q6 => ?_))
        · have q6' : Int32.toInt bf < Int32.toInt 0 := (ab_ilt (x := bf) (y := 0)).1 q6
          refine go_wp rfl (wq_iload dX10_tooMuch_116 rfl rfl ?_)
          refine go_wp rfl (wq_if_lt (t := 131) dX10_tooMuch_118 (by decide) rfl (fun q7 => ?_) (fun q7 => ?_))
          · have q7' : Int32.toInt af < Int32.toInt 0 := (ab_ilt (x := af) (y := 0)).1 q7
            refine go_wp rfl (wq_iconst (v := 0) dX10_tooMuch_131 (by decide) rfl ?_)
            refine go_wp rfl (wq_ireturn dX10_tooMuch_132 trivial (by exfalso; omega))
          · have q7' : Int32.toInt af ≥ Int32.toInt 0 := (ab_ilt (x := af) (y := 0)).2 q7
            refine go_wp rfl (wq_aload_n dX10_tooMuch_121 rfl rfl ?_)
            refine go_wp rfl (wq_getfield dX10_tooMuch_122 fe_X10_128 h76 hs_over rfl ?_)
            refine go_wp rfl (wq_iload dX10_tooMuch_125 rfl rfl ?_)
            refine go_wp rfl (wq_iaload (v := (e af.toNatClampNeg)) dX10_tooMuch_127 (by decide) h_e (hx_vp (by omega) (by omega)) rfl rfl ?_)
            refine go_wp rfl (wq_goto (t := 132) dX10_tooMuch_128 (by decide) ?_)
            refine go_wp rfl (wq_ireturn dX10_tooMuch_132 trivial (by exfalso; omega))
        · have q6' : Int32.toInt bf ≥ Int32.toInt 0 := (ab_ilt (x := bf) (y := 0)).2 q6
          refine go_wp rfl (wq_aload_n dX10_tooMuch_107 rfl rfl ?_)
          refine go_wp rfl (wq_getfield dX10_tooMuch_108 fe_X10_128 h76 hs_over rfl ?_)
          refine go_wp rfl (wq_iload_n dX10_tooMuch_111 rfl rfl ?_)
          refine go_wp rfl (wq_iaload (v := (e bf.toNatClampNeg)) dX10_tooMuch_112 (by decide) h_e (hx_vp (by omega) (by omega)) rfl rfl ?_)
          refine go_wp rfl (wq_goto (t := 132) dX10_tooMuch_113 (by decide) ?_)
          refine go_wp rfl (wq_ireturn dX10_tooMuch_132 trivial (by have ei : i = cal := Int32.toInt_inj.mp (by omega); rw [ei] at hw; exact hQ _ _ hk ab_rf0 (wy_2 hw (by omega) (by omega))))
  · have q1' : Int32.toInt i < Int32.toInt cal := (ab_ige (x := i) (y := cal)).2 q1
    refine go_wp rfl (wq_aload_n dX10_tooMuch_17 rfl rfl ?_)
    refine go_wp rfl (wq_getfield dX10_tooMuch_18 fe_X10_122 h76 hs_calSensor rfl ?_)
    refine go_wp rfl (wq_iload dX10_tooMuch_21 rfl rfl ?_)
    refine go_wp rfl (wq_iaload (v := (f i.toNatClampNeg)) dX10_tooMuch_23 (by decide) h_f (hx_vp (by omega) (by omega)) rfl rfl ?_)
    refine go_wp rfl (wq_iload_n dX10_tooMuch_24 rfl rfl ?_)
    refine go_wp rfl (wq_icmp_ne (t := 88) dX10_tooMuch_25 (by decide) rfl (fun q8 => ?_) (fun q8 => ?_))
    · have q8' : Int32.toInt (f i.toNatClampNeg) ≠ Int32.toInt s := (ab_ieq (x := (f i.toNatClampNeg)) (y := s)).2 q8
      refine go_wp rfl (wq_iinc (v := (i + Int32.ofInt 1)) (lv' := [some (.ref 76), some (.int s), some (.int t), some (.int bf), some (.int af), some (.int (i + Int32.ofInt 1))]) dX10_tooMuch_88 rfl ⟨Nat.le_of_ble_eq_true rfl, rfl⟩ rfl rfl rfl ?_)
      refine go_wp rfl (wq_goto (t := 8) dX10_tooMuch_91 (by decide) ?_)
      have hi := hx_inc (x := i) (by omega) (by omega)
      exact go_cut rfl ⟨(20 - (i.toInt + 1)).toNat, (by omega), rfl, rfl, _, _, _, rfl, wx_0 hw b3 (by omega) q8', (by omega), (by omega), (by omega)⟩
    · have q8' : Int32.toInt (f i.toNatClampNeg) = Int32.toInt s := (ab_ieq (x := (f i.toNatClampNeg)) (y := s)).1 q8
      refine go_wp rfl (wq_aload_n dX10_tooMuch_28 rfl rfl ?_)
      refine go_wp rfl (wq_getfield dX10_tooMuch_29 fe_X10_125 h76 hs_calAt rfl ?_)
      refine go_wp rfl (wq_iload dX10_tooMuch_32 rfl rfl ?_)
      refine go_wp rfl (wq_iaload (v := (g i.toNatClampNeg)) dX10_tooMuch_34 (by decide) h_g (hx_vp (by omega) (by omega)) rfl rfl ?_)
      refine go_wp rfl (wq_iload_n dX10_tooMuch_35 rfl rfl ?_)
      refine go_wp rfl (wq_icmp_gt (t := 44) dX10_tooMuch_36 (by decide) rfl (fun q9 => ?_) (fun q9 => ?_))
      · have q9' : Int32.toInt (g i.toNatClampNeg) > Int32.toInt t := (ab_igt (x := (g i.toNatClampNeg)) (y := t)).1 q9
        refine go_wp rfl (wq_iload_n dX10_tooMuch_44 rfl rfl ?_)
        refine go_wp rfl (wq_istore_n (lv' := [some (.ref 76), some (.int s), some (.int t), some (.int bf), some (.int af), some (.int i)]) dX10_tooMuch_45 ⟨Nat.le_of_ble_eq_true rfl, rfl⟩ rfl rfl ?_)
        refine go_wp rfl (wq_aload_n dX10_tooMuch_46 rfl rfl ?_)
        refine go_wp rfl (wq_getfield dX10_tooMuch_47 fe_X10_125 h76 hs_calAt rfl ?_)
        refine go_wp rfl (wq_iload dX10_tooMuch_50 rfl rfl ?_)
        refine go_wp rfl (wq_iaload (v := (g i.toNatClampNeg)) dX10_tooMuch_52 (by decide) h_g (hx_vp (by omega) (by omega)) rfl rfl ?_)
        refine go_wp rfl (wq_iload_n dX10_tooMuch_53 rfl rfl ?_)
        refine go_wp rfl (wq_icmp_le (t := 84) dX10_tooMuch_54 (by decide) rfl (fun q10 => ?_) (fun q10 => ?_))
        · have q10' : Int32.toInt (g i.toNatClampNeg) ≤ Int32.toInt t := (ab_ile (x := (g i.toNatClampNeg)) (y := t)).1 q10
          refine go_wp rfl (wq_iload dX10_tooMuch_84 rfl rfl ?_)
          refine go_wp rfl (wq_istore (lv' := [some (.ref 76), some (.int s), some (.int t), some (.int bf), some (.int af), some (.int i)]) dX10_tooMuch_86 ⟨Nat.le_of_ble_eq_true rfl, rfl⟩ rfl rfl ?_)
          refine go_wp rfl (wq_iinc (v := (i + Int32.ofInt 1)) (lv' := [some (.ref 76), some (.int s), some (.int t), some (.int bf), some (.int af), some (.int (i + Int32.ofInt 1))]) dX10_tooMuch_88 rfl ⟨Nat.le_of_ble_eq_true rfl, rfl⟩ rfl rfl rfl ?_)
          refine go_wp rfl (wq_goto (t := 8) dX10_tooMuch_91 (by decide) ?_)
          exfalso
          omega
        · have q10' : Int32.toInt (g i.toNatClampNeg) > Int32.toInt t := (ab_ile (x := (g i.toNatClampNeg)) (y := t)).2 q10
          refine go_wp rfl (wq_iload dX10_tooMuch_57 rfl rfl ?_)
          refine go_wp rfl (wq_if_lt (t := 79) dX10_tooMuch_59 (by decide) rfl (fun q11 => ?_) (fun q11 => ?_))
          · have q11' : Int32.toInt af < Int32.toInt 0 := (ab_ilt (x := af) (y := 0)).1 q11
            refine go_wp rfl (wq_iload dX10_tooMuch_79 rfl rfl ?_)
            refine go_wp rfl (wq_goto (t := 86) dX10_tooMuch_81 (by decide) ?_)
            refine go_wp rfl (wq_istore (lv' := [some (.ref 76), some (.int s), some (.int t), some (.int bf), some (.int i), some (.int i)]) dX10_tooMuch_86 ⟨Nat.le_of_ble_eq_true rfl, rfl⟩ rfl rfl ?_)
            refine go_wp rfl (wq_iinc (v := (i + Int32.ofInt 1)) (lv' := [some (.ref 76), some (.int s), some (.int t), some (.int bf), some (.int i), some (.int (i + Int32.ofInt 1))]) dX10_tooMuch_88 rfl ⟨Nat.le_of_ble_eq_true rfl, rfl⟩ rfl rfl rfl ?_)
            refine go_wp rfl (wq_goto (t := 8) dX10_tooMuch_91 (by decide) ?_)
            have hi := hx_inc (x := i) (by omega) (by omega)
            exact go_cut rfl ⟨(20 - (i.toInt + 1)).toNat, (by omega), rfl, rfl, _, _, _, rfl, wx_2 hw b3 (by omega) q8' q9' (Or.inl (by rw [hx_z0] at q11'; exact q11')), (by omega), (by omega), (by omega)⟩
          · have q11' : Int32.toInt af ≥ Int32.toInt 0 := (ab_ilt (x := af) (y := 0)).2 q11
            refine go_wp rfl (wq_aload_n dX10_tooMuch_62 rfl rfl ?_)
            refine go_wp rfl (wq_getfield dX10_tooMuch_63 fe_X10_125 h76 hs_calAt rfl ?_)
            refine go_wp rfl (wq_iload dX10_tooMuch_66 rfl rfl ?_)
            refine go_wp rfl (wq_iaload (v := (g i.toNatClampNeg)) dX10_tooMuch_68 (by decide) h_g (hx_vp (by omega) (by omega)) rfl rfl ?_)
            refine go_wp rfl (wq_aload_n dX10_tooMuch_69 rfl rfl ?_)
            refine go_wp rfl (wq_getfield dX10_tooMuch_70 fe_X10_125 h76 hs_calAt rfl ?_)
            refine go_wp rfl (wq_iload dX10_tooMuch_73 rfl rfl ?_)
            refine go_wp rfl (wq_iaload (v := (g af.toNatClampNeg)) dX10_tooMuch_75 (by decide) h_g (hx_vp (by omega) (by omega)) rfl rfl ?_)
            refine go_wp rfl (wq_icmp_ne (t := 84) dX10_tooMuch_76 (by decide) rfl (fun q12 => ?_) (fun q12 => ?_))
            · have q12' : Int32.toInt (g i.toNatClampNeg) ≠ Int32.toInt (g af.toNatClampNeg) := (ab_ieq (x := (g i.toNatClampNeg)) (y := (g af.toNatClampNeg))).2 q12
              refine go_wp rfl (wq_iload dX10_tooMuch_84 rfl rfl ?_)
              refine go_wp rfl (wq_istore (lv' := [some (.ref 76), some (.int s), some (.int t), some (.int bf), some (.int af), some (.int i)]) dX10_tooMuch_86 ⟨Nat.le_of_ble_eq_true rfl, rfl⟩ rfl rfl ?_)
              refine go_wp rfl (wq_iinc (v := (i + Int32.ofInt 1)) (lv' := [some (.ref 76), some (.int s), some (.int t), some (.int bf), some (.int af), some (.int (i + Int32.ofInt 1))]) dX10_tooMuch_88 rfl ⟨Nat.le_of_ble_eq_true rfl, rfl⟩ rfl rfl rfl ?_)
              refine go_wp rfl (wq_goto (t := 8) dX10_tooMuch_91 (by decide) ?_)
              have hi := hx_inc (x := i) (by omega) (by omega)
              exact go_cut rfl ⟨(20 - (i.toInt + 1)).toNat, (by omega), rfl, rfl, _, _, _, rfl, wx_3 hw b3 (by omega) q8' q9' (by omega) q12', (by omega), (by omega), (by omega)⟩
            · have q12' : Int32.toInt (g i.toNatClampNeg) = Int32.toInt (g af.toNatClampNeg) := (ab_ieq (x := (g i.toNatClampNeg)) (y := (g af.toNatClampNeg))).1 q12
              refine go_wp rfl (wq_iload dX10_tooMuch_79 rfl rfl ?_)
              refine go_wp rfl (wq_goto (t := 86) dX10_tooMuch_81 (by decide) ?_)
              refine go_wp rfl (wq_istore (lv' := [some (.ref 76), some (.int s), some (.int t), some (.int bf), some (.int i), some (.int i)]) dX10_tooMuch_86 ⟨Nat.le_of_ble_eq_true rfl, rfl⟩ rfl rfl ?_)
              refine go_wp rfl (wq_iinc (v := (i + Int32.ofInt 1)) (lv' := [some (.ref 76), some (.int s), some (.int t), some (.int bf), some (.int i), some (.int (i + Int32.ofInt 1))]) dX10_tooMuch_88 rfl ⟨Nat.le_of_ble_eq_true rfl, rfl⟩ rfl rfl rfl ?_)
              refine go_wp rfl (wq_goto (t := 8) dX10_tooMuch_91 (by decide) ?_)
              have hi := hx_inc (x := i) (by omega) (by omega)
              exact go_cut rfl ⟨(20 - (i.toInt + 1)).toNat, (by omega), rfl, rfl, _, _, _, rfl, wx_2 hw b3 (by omega) q8' q9' (Or.inr q12'), (by omega), (by omega), (by omega)⟩
      · have q9' : Int32.toInt (g i.toNatClampNeg) ≤ Int32.toInt t := (ab_igt (x := (g i.toNatClampNeg)) (y := t)).2 q9
        refine go_wp rfl (wq_iload dX10_tooMuch_39 rfl rfl ?_)
        refine go_wp rfl (wq_goto (t := 45) dX10_tooMuch_41 (by decide) ?_)
        refine go_wp rfl (wq_istore_n (lv' := [some (.ref 76), some (.int s), some (.int t), some (.int i), some (.int af), some (.int i)]) dX10_tooMuch_45 ⟨Nat.le_of_ble_eq_true rfl, rfl⟩ rfl rfl ?_)
        refine go_wp rfl (wq_aload_n dX10_tooMuch_46 rfl rfl ?_)
        refine go_wp rfl (wq_getfield dX10_tooMuch_47 fe_X10_125 h76 hs_calAt rfl ?_)
        refine go_wp rfl (wq_iload dX10_tooMuch_50 rfl rfl ?_)
        refine go_wp rfl (wq_iaload (v := (g i.toNatClampNeg)) dX10_tooMuch_52 (by decide) h_g (hx_vp (by omega) (by omega)) rfl rfl ?_)
        refine go_wp rfl (wq_iload_n dX10_tooMuch_53 rfl rfl ?_)
        refine go_wp rfl (wq_icmp_le (t := 84) dX10_tooMuch_54 (by decide) rfl (fun q13 => ?_) (fun q13 => ?_))
        · have q13' : Int32.toInt (g i.toNatClampNeg) ≤ Int32.toInt t := (ab_ile (x := (g i.toNatClampNeg)) (y := t)).1 q13
          refine go_wp rfl (wq_iload dX10_tooMuch_84 rfl rfl ?_)
          refine go_wp rfl (wq_istore (lv' := [some (.ref 76), some (.int s), some (.int t), some (.int i), some (.int af), some (.int i)]) dX10_tooMuch_86 ⟨Nat.le_of_ble_eq_true rfl, rfl⟩ rfl rfl ?_)
          refine go_wp rfl (wq_iinc (v := (i + Int32.ofInt 1)) (lv' := [some (.ref 76), some (.int s), some (.int t), some (.int i), some (.int af), some (.int (i + Int32.ofInt 1))]) dX10_tooMuch_88 rfl ⟨Nat.le_of_ble_eq_true rfl, rfl⟩ rfl rfl rfl ?_)
          refine go_wp rfl (wq_goto (t := 8) dX10_tooMuch_91 (by decide) ?_)
          have hi := hx_inc (x := i) (by omega) (by omega)
          exact go_cut rfl ⟨(20 - (i.toInt + 1)).toNat, (by omega), rfl, rfl, _, _, _, rfl, wx_1 hw b3 (by omega) q8' q9', (by omega), (by omega), (by omega)⟩
        · have q13' : Int32.toInt (g i.toNatClampNeg) > Int32.toInt t := (ab_ile (x := (g i.toNatClampNeg)) (y := t)).2 q13
          refine go_wp rfl (wq_iload dX10_tooMuch_57 rfl rfl ?_)
          refine go_wp rfl (wq_if_lt (t := 79) dX10_tooMuch_59 (by decide) rfl (fun q14 => ?_) (fun q14 => ?_))
          · have q14' : Int32.toInt af < Int32.toInt 0 := (ab_ilt (x := af) (y := 0)).1 q14
            refine go_wp rfl (wq_iload dX10_tooMuch_79 rfl rfl ?_)
            refine go_wp rfl (wq_goto (t := 86) dX10_tooMuch_81 (by decide) ?_)
            refine go_wp rfl (wq_istore (lv' := [some (.ref 76), some (.int s), some (.int t), some (.int i), some (.int i), some (.int i)]) dX10_tooMuch_86 ⟨Nat.le_of_ble_eq_true rfl, rfl⟩ rfl rfl ?_)
            refine go_wp rfl (wq_iinc (v := (i + Int32.ofInt 1)) (lv' := [some (.ref 76), some (.int s), some (.int t), some (.int i), some (.int i), some (.int (i + Int32.ofInt 1))]) dX10_tooMuch_88 rfl ⟨Nat.le_of_ble_eq_true rfl, rfl⟩ rfl rfl rfl ?_)
            refine go_wp rfl (wq_goto (t := 8) dX10_tooMuch_91 (by decide) ?_)
            exfalso
            omega
          · have q14' : Int32.toInt af ≥ Int32.toInt 0 := (ab_ilt (x := af) (y := 0)).2 q14
            refine go_wp rfl (wq_aload_n dX10_tooMuch_62 rfl rfl ?_)
            refine go_wp rfl (wq_getfield dX10_tooMuch_63 fe_X10_125 h76 hs_calAt rfl ?_)
            refine go_wp rfl (wq_iload dX10_tooMuch_66 rfl rfl ?_)
            refine go_wp rfl (wq_iaload (v := (g i.toNatClampNeg)) dX10_tooMuch_68 (by decide) h_g (hx_vp (by omega) (by omega)) rfl rfl ?_)
            refine go_wp rfl (wq_aload_n dX10_tooMuch_69 rfl rfl ?_)
            refine go_wp rfl (wq_getfield dX10_tooMuch_70 fe_X10_125 h76 hs_calAt rfl ?_)
            refine go_wp rfl (wq_iload dX10_tooMuch_73 rfl rfl ?_)
            refine go_wp rfl (wq_iaload (v := (g af.toNatClampNeg)) dX10_tooMuch_75 (by decide) h_g (hx_vp (by omega) (by omega)) rfl rfl ?_)
            refine go_wp rfl (wq_icmp_ne (t := 84) dX10_tooMuch_76 (by decide) rfl (fun q15 => ?_) (fun q15 => ?_))
            · have q15' : Int32.toInt (g i.toNatClampNeg) ≠ Int32.toInt (g af.toNatClampNeg) := (ab_ieq (x := (g i.toNatClampNeg)) (y := (g af.toNatClampNeg))).2 q15
              refine go_wp rfl (wq_iload dX10_tooMuch_84 rfl rfl ?_)
              refine go_wp rfl (wq_istore (lv' := [some (.ref 76), some (.int s), some (.int t), some (.int i), some (.int af), some (.int i)]) dX10_tooMuch_86 ⟨Nat.le_of_ble_eq_true rfl, rfl⟩ rfl rfl ?_)
              refine go_wp rfl (wq_iinc (v := (i + Int32.ofInt 1)) (lv' := [some (.ref 76), some (.int s), some (.int t), some (.int i), some (.int af), some (.int (i + Int32.ofInt 1))]) dX10_tooMuch_88 rfl ⟨Nat.le_of_ble_eq_true rfl, rfl⟩ rfl rfl rfl ?_)
              refine go_wp rfl (wq_goto (t := 8) dX10_tooMuch_91 (by decide) ?_)
              exfalso
              omega
            · have q15' : Int32.toInt (g i.toNatClampNeg) = Int32.toInt (g af.toNatClampNeg) := (ab_ieq (x := (g i.toNatClampNeg)) (y := (g af.toNatClampNeg))).1 q15
              refine go_wp rfl (wq_iload dX10_tooMuch_79 rfl rfl ?_)
              refine go_wp rfl (wq_goto (t := 86) dX10_tooMuch_81 (by decide) ?_)
              refine go_wp rfl (wq_istore (lv' := [some (.ref 76), some (.int s), some (.int t), some (.int i), some (.int i), some (.int i)]) dX10_tooMuch_86 ⟨Nat.le_of_ble_eq_true rfl, rfl⟩ rfl rfl ?_)
              refine go_wp rfl (wq_iinc (v := (i + Int32.ofInt 1)) (lv' := [some (.ref 76), some (.int s), some (.int t), some (.int i), some (.int i), some (.int (i + Int32.ofInt 1))]) dX10_tooMuch_88 rfl ⟨Nat.le_of_ble_eq_true rfl, rfl⟩ rfl rfl rfl ?_)
              refine go_wp rfl (wq_goto (t := 8) dX10_tooMuch_91 (by decide) ?_)
              exfalso
              omega
set_option maxRecDepth 100000 in
set_option maxHeartbeats 4000000 in
theorem tz_w0 {cs : ex_C} {Q : ex_Q} {f g : Nat → Int32} {s t cal : Int32} (cal1 : 0 ≤ cal.toInt) : ex_wp ec_xt bx_X10_tooMuch cX10_tooMuch (some .int) (tz_A f g s t cal cs) Q 90 0 [some (.ref 76), some (.int s), some (.int t), none, none, none] [] cs := by
  refine wq_iconst (v := (-1)) dX10_tooMuch_0 (by decide) rfl ?_
  refine go_wp rfl (wq_istore_n (lv' := [some (.ref 76), some (.int s), some (.int t), some (.int (-1)), none, none]) dX10_tooMuch_1 ⟨Nat.le_of_ble_eq_true rfl, rfl⟩ rfl rfl ?_)
  refine go_wp rfl (wq_iconst (v := (-1)) dX10_tooMuch_2 (by decide) rfl ?_)
  refine go_wp rfl (wq_istore (lv' := [some (.ref 76), some (.int s), some (.int t), some (.int (-1)), some (.int (-1)), none]) dX10_tooMuch_3 ⟨Nat.le_of_ble_eq_true rfl, rfl⟩ rfl rfl ?_)
  refine go_wp rfl (wq_iconst (v := 0) dX10_tooMuch_5 (by decide) rfl ?_)
  refine go_wp rfl (wq_istore (lv' := [some (.ref 76), some (.int s), some (.int t), some (.int (-1)), some (.int (-1)), some (.int 0)]) dX10_tooMuch_6 ⟨Nat.le_of_ble_eq_true rfl, rfl⟩ rfl rfl ?_)
  exact go_cut rfl ⟨20, rfl, rfl, _, _, _, rfl, rfl, (by rw [hx_z0]; omega), (by rw [hx_z0]; omega), (by rw [hx_z0]; omega)⟩
set_option maxRecDepth 100000 in
theorem bm_X10_tooMuch (l : Launch) : ex_Met l yX10_tooMuch cX10_tooMuch 6 (some .int) 0 0 (ab_sp ab_hd bc_X10_tooMuch) := by
  intro D ad ca n sz av cs Q h
  refine ex_lmet (by decide) rfl (bj_X10_tooMuch l) D ad ca n sz av cs Q ?_
  obtain ⟨c, hc, ⟨hp1, hp2, -⟩, hk, hQ⟩ := h
  have hc' : c = ([.inl 76, .inr (-2147483648, 2147483647), .inr (-2147483648, 2147483647)], [], [], [(some (-2147483648, 2147483647, some (900000003, 0)), [], [])]) := by
    unfold bc_X10_tooMuch bq_X10_tooMuch at hc
    simpa using hc
  subst hc'
  obtain ⟨v0, e0, h0⟩ := hp2 0 _ rfl
  obtain ⟨v1, e1, s, rfl, s1, s2⟩ := hp2 1 _ rfl
  obtain ⟨v2, e2, t, rfl, t1, t2⟩ := hp2 2 _ rfl
  cases h0
  have hav : av = [.ref 76, .int s, .int t] := hx_av3 hp1 e0 e1 e2
  subst hav
  obtain ⟨fs, h76, -, hj⟩ := hk.obj (a := 76) (ci := 10) rfl
  obtain ⟨hv_cal, hs_calibrations, cal, rfl, cal1, cal2⟩ := hj 45 (.inr (0, 20)) rfl
  have hs_calSensor : fs[46]? = some (.ref 110) := by
    obtain ⟨v, hv, hc⟩ := hj 46 (.inl 110) rfl
    cases hc
    exact hv
  obtain ⟨f, h_f, -⟩ := hk.arr (a := 110) (t := 0) (n := 20) (m := 20) (lo := -2147483648) (hi := 2147483647) rfl (by decide)
  have hs_calAt : fs[47]? = some (.ref 111) := by
    obtain ⟨v, hv, hc⟩ := hj 47 (.inl 111) rfl
    cases hc
    exact hv
  obtain ⟨g, h_g, -⟩ := hk.arr (a := 111) (t := 0) (n := 20) (m := 20) (lo := -2147483648) (hi := 2147483647) rfl (by decide)
  have hs_over : fs[48]? = some (.ref 112) := by
    obtain ⟨v, hv, hc⟩ := hj 48 (.inl 112) rfl
    cases hc
    exact hv
  obtain ⟨e, h_e, -⟩ := hk.arr (a := 112) (t := 0) (n := 20) (m := 20) (lo := -2147483648) (hi := 2147483647) rfl (by decide)
  have hQ' : ∀ r cs', ab_hk ab_hd cs' → ab_fr [] cs cs' → r = wk_t false f g e s t cal.toNatClampNeg → Q (some (.int r)) cs' := by
    intro r cs' hk' hf hr
    refine hQ _ _ ⟨hk', hf, _, List.mem_cons_self, ⟨r, rfl, hx_tb r, fun d hd => ?_⟩, fun q hq => (by cases hq), fun q hq => (by cases hq)⟩
    cases hd
    rw [hx_g3 (gi_a h_f) (gi_a h_g) (gi_a h_e) (gi_o h76 hs_calibrations), hr]
    show _ = _ + (0 : Int)
    omega
  refine sl_in 90 (tz_I f g s t cal cs) rfl (Nat.le_of_ble_eq_true rfl) rfl (tz_w0 cal1) (fun pc J n lv st cs' hI hJ => ?_)
  unfold tz_I at hI
  split at hI
  · rename_i e'
    subst e'
    cases hI
    obtain ⟨rfl, rfl, bf, af, i, rfl, hw, b3, b4, hn⟩ := hJ
    exact tz_w8 hk h76 hs_calibrations cal1 cal2 hs_calSensor h_f hs_calAt h_g hs_over h_e hQ' hw b3 b4 hn
  · cases hI
theorem ba_X10_worked : ec_al [(1558, Cond.code yX10_worked cX10_worked 2 (some .int)), (68, Cond.initialized yX10_worked.cls), (1556, Cond.instanceMethod yX10_worked), (1557, Cond.selects yX10_worked.cls yX10_worked yX10_worked), (1282, Cond.methodLink RX10 160 yX10_finding), (1559, Cond.methodLink RX10 295 yX10_tooMuch)] := ec_alk (by decide +kernel)
theorem bw_X10_worked : ec_cw yX10_worked cX10_worked 2 (some .int) := ⟨ba_X10_worked.1, ba_X10_worked.2.1, nc_RX10⟩
theorem bv_X10_worked : Cond.instanceMethod yX10_worked ∈ ec_tb ∧ Cond.selects yX10_worked.cls yX10_worked yX10_worked ∈ ec_tb := ⟨ba_X10_worked.2.2.1, ba_X10_worked.2.2.2.1⟩
theorem bp_X10_worked : (parseMethodDescriptor yX10_worked.desc).map (fun d => d.parameters.length) = some 1 := by decide +kernel
theorem bk_X10_worked (l : Launch) : ∀ (ix n : Nat) (rc : Option Nat) (sp : ex_S), (be_X10_worked ix).map (fun q => (q.1, q.2.1, ab_sp ab_hd q.2.2)) = some (n, rc, sp) → ex_cok l RX10 1 25 ix n rc sp := by
  intro ix n rc sp h
  obtain ⟨l0, h2, rfl⟩ := ab_dmk h
  clear h
  unfold be_X10_worked at h2
  split at h2
  · cases h2; exact ec_cV (bm_X10_finding l) bw_X10_finding bv_X10_finding (by decide) (by decide) (Or.inl ba_X10_worked.2.2.2.2.1) (T := TX10) (N := 57) rfl (by decide) bp_X10_finding
  · cases h2; exact ec_cV (bm_X10_tooMuch l) bw_X10_tooMuch bv_X10_tooMuch (by decide) (by decide) (Or.inl ba_X10_worked.2.2.2.2.2.1) (T := TX10) (N := 57) rfl (by decide) bp_X10_tooMuch
  · cases h2
theorem bj_X10_worked (l : Launch) : ex_ok l 1 25 bx_X10_worked := ec_okp fo_X10 co_X10 so_X10 (bk_X10_worked l)
theorem dX10_worked_0 : decode cX10_worked 0 = .ok (.iload_n 1, 1) := by decide +kernel
theorem dX10_worked_1 : decode cX10_worked 1 = .ok (.ifCond .lt 11, 3) := by decide +kernel
theorem dX10_worked_4 : decode cX10_worked 4 = .ok (.iload_n 1, 1) := by decide +kernel
theorem dX10_worked_5 : decode cX10_worked 5 = .ok (.aload_n 0, 1) := by decide +kernel
theorem dX10_worked_6 : decode cX10_worked 6 = .ok (.getfield 289, 3) := by decide +kernel
theorem dX10_worked_9 : decode cX10_worked 9 = .ok (.if_icmp .lt 9, 3) := by decide +kernel
theorem dX10_worked_12 : decode cX10_worked 12 = .ok (.aload_n 0, 1) := by decide +kernel
theorem dX10_worked_13 : decode cX10_worked 13 = .ok (.iconst 1, 1) := by decide +kernel
theorem dX10_worked_14 : decode cX10_worked 14 = .ok (.invokevirtual 160, 3) := by decide +kernel
theorem dX10_worked_17 : decode cX10_worked 17 = .ok (.ireturn, 1) := by decide +kernel
theorem dX10_worked_18 : decode cX10_worked 18 = .ok (.aload_n 0, 1) := by decide +kernel
theorem dX10_worked_19 : decode cX10_worked 19 = .ok (.getfield 116, 3) := by decide +kernel
theorem dX10_worked_22 : decode cX10_worked 22 = .ok (.iload_n 1, 1) := by decide +kernel
theorem dX10_worked_23 : decode cX10_worked 23 = .ok (.iaload, 1) := by decide +kernel
theorem dX10_worked_24 : decode cX10_worked 24 = .ok (.aload_n 0, 1) := by decide +kernel
theorem dX10_worked_25 : decode cX10_worked 25 = .ok (.aload_n 0, 1) := by decide +kernel
theorem dX10_worked_26 : decode cX10_worked 26 = .ok (.getfield 110, 3) := by decide +kernel
theorem dX10_worked_29 : decode cX10_worked 29 = .ok (.iload_n 1, 1) := by decide +kernel
theorem dX10_worked_30 : decode cX10_worked 30 = .ok (.iaload, 1) := by decide +kernel
theorem dX10_worked_31 : decode cX10_worked 31 = .ok (.aload_n 0, 1) := by decide +kernel
theorem dX10_worked_32 : decode cX10_worked 32 = .ok (.getfield 113, 3) := by decide +kernel
theorem dX10_worked_35 : decode cX10_worked 35 = .ok (.iload_n 1, 1) := by decide +kernel
theorem dX10_worked_36 : decode cX10_worked 36 = .ok (.iaload, 1) := by decide +kernel
theorem dX10_worked_37 : decode cX10_worked 37 = .ok (.invokevirtual 295, 3) := by decide +kernel
theorem dX10_worked_40 : decode cX10_worked 40 = .ok (.isub, 1) := by decide +kernel
theorem dX10_worked_41 : decode cX10_worked 41 = .ok (.ireturn, 1) := by decide +kernel
set_option maxRecDepth 100000 in
set_option maxHeartbeats 4000000 in
theorem wo_w0 {cs : ex_C} {Q : ex_Q} {I : Nat → Option (ex_L → ex_V → ex_C → Prop)} {r : Int32} (hI : ∀ pc, I pc = none) (hk : ab_hk ab_hd cs) {fs : List Value} (h76 : cs[76]? = some (.inr (10, fs))) {nr : Int32} (hs_readings : fs[40]? = some (.int nr)) (nr1 : 0 ≤ nr.toInt) (nr2 : nr.toInt ≤ 40) {cal : Int32} (hs_calibrations : fs[45]? = some (.int cal)) (cal1 : 0 ≤ cal.toInt) (cal2 : cal.toInt ≤ 20) {rs : Nat → Int32} (hs_sensor : fs[41]? = some (.ref 106)) (h_rs : cs[106]? = some (.inl (0, 40, .inl rs))) {rt : Nat → Int32} (hs_readAt : fs[42]? = some (.ref 107)) (h_rt : cs[107]? = some (.inl (0, 40, .inl rt))) {rv : Nat → Int32} (hs_value : fs[43]? = some (.ref 108)) (h_rv : cs[108]? = some (.inl (0, 40, .inl rv))) {f : Nat → Int32} (hs_calSensor : fs[46]? = some (.ref 110)) (h_f : cs[110]? = some (.inl (0, 20, .inl f))) {g : Nat → Int32} (hs_calAt : fs[47]? = some (.ref 111)) (h_g : cs[111]? = some (.inl (0, 20, .inl g))) {e : Nat → Int32} (hs_over : fs[48]? = some (.ref 112)) (h_e : cs[112]? = some (.inl (0, 20, .inl e))) (hQ : ∀ (x : Int32) cs', ab_hk ab_hd cs' → ab_fr [(114, some 1)] cs cs' → x.toInt = wk_w false nr cal rs rt rv f g e r.toInt → Q (some (.int x)) cs') : ex_wp ec_xt bx_X10_worked cX10_worked (some .int) I Q 60 0 [some (.ref 76), some (.int r)] [] cs := by
  have z0 := hx_z0
  refine wq_iload_n dX10_worked_0 rfl rfl ?_
  refine go_wp (hI _) (wq_if_lt (t := 12) dX10_worked_1 (by decide) rfl (fun q1 => ?_) (fun q1 => ?_))
  · have q1' : Int32.toInt r < Int32.toInt 0 := (ab_ilt (x := r) (y := 0)).1 q1
    refine go_wp (hI _) (wq_aload_n dX10_worked_12 rfl rfl ?_)
    refine go_wp (hI _) (wq_iconst (v := 1) dX10_worked_13 (by decide) rfl ?_)
    refine go_wp (hI _) (wq_virtual (q := 2) (ci := 10) (a := 76) (av := [.ref 76, .int 1]) (r := []) dX10_worked_14 rfl (Nat.le_of_ble_eq_true rfl) rfl rfl rfl (Nat.le_of_ble_eq_true rfl) h76 rfl (hx_call 1 (c := ([.inl 76, .inr (1, 1)], [], [(114, some 1)], [(some ((-1000000001), (-1000000001), none), [], [])])) rfl (hx_p1 (by decide)) hk (fun r1 cs1 hp => ?_)))
    obtain ⟨hk1, hf1, x, rfl, hx⟩ := hx_pin (z := -1000000001) rfl hp
    refine ret_int ?_
    refine go_wp (hI _) (wq_ireturn dX10_worked_17 trivial (hQ _ _ hk1 hf1 (hx.trans (wz_b (Or.inl (by omega))))))
  · have q1' : Int32.toInt r ≥ Int32.toInt 0 := (ab_ilt (x := r) (y := 0)).2 q1
    refine go_wp (hI _) (wq_iload_n dX10_worked_4 rfl rfl ?_)
    refine go_wp (hI _) (wq_aload_n dX10_worked_5 rfl rfl ?_)
    refine go_wp (hI _) (wq_getfield dX10_worked_6 fe_X10_289 h76 hs_readings rfl ?_)
    refine go_wp (hI _) (wq_icmp_lt (t := 18) dX10_worked_9 (by decide) rfl (fun q2 => ?_) (fun q2 => ?_))
    · have q2' : Int32.toInt r < Int32.toInt nr := (ab_ilt (x := r) (y := nr)).1 q2
      refine go_wp (hI _) (wq_aload_n dX10_worked_18 rfl rfl ?_)
      refine go_wp (hI _) (wq_getfield dX10_worked_19 fe_X10_116 h76 hs_value rfl ?_)
      refine go_wp (hI _) (wq_iload_n dX10_worked_22 rfl rfl ?_)
      refine go_wp (hI _) (wq_iaload (v := (rv r.toNatClampNeg)) dX10_worked_23 (by decide) h_rv (hx_vp (by omega) (by omega)) rfl rfl ?_)
      refine go_wp (hI _) (wq_aload_n dX10_worked_24 rfl rfl ?_)
      refine go_wp (hI _) (wq_aload_n dX10_worked_25 rfl rfl ?_)
      refine go_wp (hI _) (wq_getfield dX10_worked_26 fe_X10_110 h76 hs_sensor rfl ?_)
      refine go_wp (hI _) (wq_iload_n dX10_worked_29 rfl rfl ?_)
      refine go_wp (hI _) (wq_iaload (v := (rs r.toNatClampNeg)) dX10_worked_30 (by decide) h_rs (hx_vp (by omega) (by omega)) rfl rfl ?_)
      refine go_wp (hI _) (wq_aload_n dX10_worked_31 rfl rfl ?_)
      refine go_wp (hI _) (wq_getfield dX10_worked_32 fe_X10_113 h76 hs_readAt rfl ?_)
      refine go_wp (hI _) (wq_iload_n dX10_worked_35 rfl rfl ?_)
      refine go_wp (hI _) (wq_iaload (v := (rt r.toNatClampNeg)) dX10_worked_36 (by decide) h_rt (hx_vp (by omega) (by omega)) rfl rfl ?_)
      refine go_wp (hI _) (wq_virtual (q := 3) (ci := 10) (a := 76) (av := [.ref 76, .int (rs r.toNatClampNeg), .int (rt r.toNatClampNeg)]) (r := [.int (rv r.toNatClampNeg)]) dX10_worked_37 rfl (Nat.le_of_ble_eq_true rfl) rfl rfl rfl (Nat.le_of_ble_eq_true rfl) h76 rfl (hx_call 0 (c := ([.inl 76, .inr ((-2147483648), 2147483647), .inr ((-2147483648), 2147483647)], [], [], [(some ((-2147483648), 2147483647, some (900000003, 0)), [], [])])) rfl (hx_p2 (hx_tb _) (hx_tb _)) hk (fun r1 cs1 hp => ?_)))
      obtain ⟨hk1, hf1, x, rfl, hx⟩ := hx_ret hp
      rw [hx_g3 (gi_a h_f) (gi_a h_g) (gi_a h_e) (gi_o h76 hs_calibrations)] at hx
      have hxe := Int32.toInt_inj.mp hx
      refine ret_int ?_
      refine go_wp (hI _) (wq_isub (v := ((rv r.toNatClampNeg) - x)) dX10_worked_40 rfl rfl ?_)
      refine go_wp (hI _) (wq_ireturn dX10_worked_41 trivial (hQ _ _ hk1 (hx_fr hf1) (by rw [hxe]; exact wz_v (by omega))))
    · have q2' : Int32.toInt r ≥ Int32.toInt nr := (ab_ilt (x := r) (y := nr)).2 q2
      refine go_wp (hI _) (wq_aload_n dX10_worked_12 rfl rfl ?_)
      refine go_wp (hI _) (wq_iconst (v := 1) dX10_worked_13 (by decide) rfl ?_)
      refine go_wp (hI _) (wq_virtual (q := 2) (ci := 10) (a := 76) (av := [.ref 76, .int 1]) (r := []) dX10_worked_14 rfl (Nat.le_of_ble_eq_true rfl) rfl rfl rfl (Nat.le_of_ble_eq_true rfl) h76 rfl (hx_call 1 (c := ([.inl 76, .inr (1, 1)], [], [(114, some 1)], [(some ((-1000000001), (-1000000001), none), [], [])])) rfl (hx_p1 (by decide)) hk (fun r1 cs1 hp => ?_)))
      obtain ⟨hk1, hf1, x, rfl, hx⟩ := hx_pin (z := -1000000001) rfl hp
      refine ret_int ?_
      refine go_wp (hI _) (wq_ireturn dX10_worked_17 trivial (hQ _ _ hk1 hf1 (hx.trans (wz_b (Or.inr (by omega))))))
set_option maxRecDepth 100000 in
theorem bm_X10_worked (l : Launch) : ex_Met l yX10_worked cX10_worked 2 (some .int) 1 25 (ab_sp ab_hd bc_X10_worked) := by
  intro D ad ca n sz av cs Q h
  refine ex_lmet (by decide) rfl (bj_X10_worked l) D ad ca n sz av cs Q ?_
  obtain ⟨c, hc, ⟨hp1, hp2, -⟩, hk, hQ⟩ := h
  have hc' : c = ([.inl 76, .inr (-2147483648, 2147483647)], [], [(114, some 1)], [(some (-2147483648, 2147483647, some (900000001, 0)), [], [])]) := by
    unfold bc_X10_worked bq_X10_worked at hc
    simpa using hc
  subst hc'
  obtain ⟨v0, e0, h0⟩ := hp2 0 _ rfl
  obtain ⟨v1, e1, r, rfl, r1, r2⟩ := hp2 1 _ rfl
  cases h0
  have hav : av = [.ref 76, .int r] := hx_av2 hp1 e0 e1
  subst hav
  obtain ⟨fs, h76, -, hj⟩ := hk.obj (a := 76) (ci := 10) rfl
  obtain ⟨hv_nr, hs_readings, nr, rfl, nr1, nr2⟩ := hj 40 (.inr (0, 40)) rfl
  obtain ⟨hv_cal, hs_calibrations, cal, rfl, cal1, cal2⟩ := hj 45 (.inr (0, 20)) rfl
  have hs_sensor : fs[41]? = some (.ref 106) := by
    obtain ⟨v, hv, hc⟩ := hj 41 (.inl 106) rfl
    cases hc
    exact hv
  obtain ⟨rs, h_rs, -⟩ := hk.arr (a := 106) (t := 0) (n := 40) (m := 40) (lo := -2147483648) (hi := 2147483647) rfl (by decide)
  have hs_readAt : fs[42]? = some (.ref 107) := by
    obtain ⟨v, hv, hc⟩ := hj 42 (.inl 107) rfl
    cases hc
    exact hv
  obtain ⟨rt, h_rt, -⟩ := hk.arr (a := 107) (t := 0) (n := 40) (m := 40) (lo := -2147483648) (hi := 2147483647) rfl (by decide)
  have hs_value : fs[43]? = some (.ref 108) := by
    obtain ⟨v, hv, hc⟩ := hj 43 (.inl 108) rfl
    cases hc
    exact hv
  obtain ⟨rv, h_rv, -⟩ := hk.arr (a := 108) (t := 0) (n := 40) (m := 40) (lo := -2147483648) (hi := 2147483647) rfl (by decide)
  have hs_calSensor : fs[46]? = some (.ref 110) := by
    obtain ⟨v, hv, hc⟩ := hj 46 (.inl 110) rfl
    cases hc
    exact hv
  obtain ⟨f, h_f, -⟩ := hk.arr (a := 110) (t := 0) (n := 20) (m := 20) (lo := -2147483648) (hi := 2147483647) rfl (by decide)
  have hs_calAt : fs[47]? = some (.ref 111) := by
    obtain ⟨v, hv, hc⟩ := hj 47 (.inl 111) rfl
    cases hc
    exact hv
  obtain ⟨g, h_g, -⟩ := hk.arr (a := 111) (t := 0) (n := 20) (m := 20) (lo := -2147483648) (hi := 2147483647) rfl (by decide)
  have hs_over : fs[48]? = some (.ref 112) := by
    obtain ⟨v, hv, hc⟩ := hj 48 (.inl 112) rfl
    cases hc
    exact hv
  obtain ⟨e, h_e, -⟩ := hk.arr (a := 112) (t := 0) (n := 20) (m := 20) (lo := -2147483648) (hi := 2147483647) rfl (by decide)
  refine sl_in 60 (fun _ => none) rfl (Nat.le_of_ble_eq_true rfl) rfl (wo_w0 (fun _ => rfl) hk h76 hs_readings nr1 nr2 hs_calibrations cal1 cal2 hs_sensor h_rs hs_readAt h_rt hs_value h_rv hs_calSensor h_f hs_calAt h_g hs_over h_e (fun x cs' hk' hf hr => ?_)) (fun pc J n lv st cs' hI hJ => (by cases hI))
  refine hQ _ _ ⟨hk', hf, _, List.mem_cons_self, ⟨x, rfl, hx_tb x, fun d hd => ?_⟩, fun q hq => (by cases hq), fun q hq => (by cases hq)⟩
  cases hd
  have ho : ab_oo ([Value.ref 76, .int r].map some) cs 900000001 = wk_w false nr cal rs rt rv f g e r.toInt := by
    have h := hx_oo (lv := [Value.ref 76, .int r].map some) (cs := cs) (n := 1) (by omega)
    rw [ge_1] at h
    unfold gh_1 at h
    rw [gi_o h76 hs_readings, gi_o h76 hs_calibrations, gi_a h_rs, gi_a h_rt, gi_a h_rv, gi_a h_f, gi_a h_g, gi_a h_e] at h
    exact h
  rw [ho, hr]
  show _ = _ + (0 : Int)
  omega
theorem ba_X10_delay : ec_al [(1566, Cond.code yX10_delay cX10_delay 3 (some .int)), (68, Cond.initialized yX10_delay.cls), (1564, Cond.instanceMethod yX10_delay), (1565, Cond.selects yX10_delay.cls yX10_delay yX10_delay), (1303, Cond.methodLink RX10 171 yX10_isIn), (1282, Cond.methodLink RX10 160 yX10_finding)] := ec_alk (by decide +kernel)
theorem bw_X10_delay : ec_cw yX10_delay cX10_delay 3 (some .int) := ⟨ba_X10_delay.1, ba_X10_delay.2.1, nc_RX10⟩
theorem bv_X10_delay : Cond.instanceMethod yX10_delay ∈ ec_tb ∧ Cond.selects yX10_delay.cls yX10_delay yX10_delay ∈ ec_tb := ⟨ba_X10_delay.2.2.1, ba_X10_delay.2.2.2.1⟩
theorem bp_X10_delay : (parseMethodDescriptor yX10_delay.desc).map (fun d => d.parameters.length) = some 1 := by decide +kernel
theorem bk_X10_delay (l : Launch) : ∀ (ix n : Nat) (rc : Option Nat) (sp : ex_S), (be_X10_delay ix).map (fun q => (q.1, q.2.1, ab_sp ab_hd q.2.2)) = some (n, rc, sp) → ex_cok l RX10 1 22 ix n rc sp := by
  intro ix n rc sp h
  obtain ⟨l0, h2, rfl⟩ := ab_dmk h
  clear h
  unfold be_X10_delay at h2
  split at h2
  · cases h2; exact ec_cS (bm_X10_isIn l) bw_X10_isIn bv_X10_isIn (by decide) (by decide) (Or.inl ba_X10_delay.2.2.2.2.1) bp_X10_isIn
  · cases h2; exact ec_cV (bm_X10_finding l) bw_X10_finding bv_X10_finding (by decide) (by decide) (Or.inl ba_X10_delay.2.2.2.2.2.1) (T := TX10) (N := 57) rfl (by decide) bp_X10_finding
  · cases h2
theorem bj_X10_delay (l : Launch) : ex_ok l 1 22 bx_X10_delay := ec_okp fo_X10 co_X10 so_X10 (bk_X10_delay l)
theorem bm_X10_delay (l : Launch) : ex_Met l yX10_delay cX10_delay 3 (some .int) 1 22 (ab_sp ab_hd bc_X10_delay) := ab_met (by decide) pn_RX10 rfl (bj_X10_delay l) bd_X10_delay ab_hcm ab_xk bz_X10_delay
theorem ba_X10_known : ec_al [(1570, Cond.code yX10_known cX10_known 5 (some .int)), (68, Cond.initialized yX10_known.cls), (1568, Cond.instanceMethod yX10_known), (1569, Cond.selects yX10_known.cls yX10_known yX10_known), (1303, Cond.methodLink RX10 171 yX10_isIn), (1282, Cond.methodLink RX10 160 yX10_finding)] := ec_alk (by decide +kernel)
theorem bw_X10_known : ec_cw yX10_known cX10_known 5 (some .int) := ⟨ba_X10_known.1, ba_X10_known.2.1, nc_RX10⟩
theorem bv_X10_known : Cond.instanceMethod yX10_known ∈ ec_tb ∧ Cond.selects yX10_known.cls yX10_known yX10_known ∈ ec_tb := ⟨ba_X10_known.2.2.1, ba_X10_known.2.2.2.1⟩
theorem bp_X10_known : (parseMethodDescriptor yX10_known.desc).map (fun d => d.parameters.length) = some 2 := by decide +kernel
theorem bk_X10_known (l : Launch) : ∀ (ix n : Nat) (rc : Option Nat) (sp : ex_S), (be_X10_known ix).map (fun q => (q.1, q.2.1, ab_sp ab_hd q.2.2)) = some (n, rc, sp) → ex_cok l RX10 1 22 ix n rc sp := by
  intro ix n rc sp h
  obtain ⟨l0, h2, rfl⟩ := ab_dmk h
  clear h
  unfold be_X10_known at h2
  split at h2
  · cases h2; exact ec_cS (bm_X10_isIn l) bw_X10_isIn bv_X10_isIn (by decide) (by decide) (Or.inl ba_X10_known.2.2.2.2.1) bp_X10_isIn
  · cases h2; exact ec_cV (bm_X10_finding l) bw_X10_finding bv_X10_finding (by decide) (by decide) (Or.inl ba_X10_known.2.2.2.2.2.1) (T := TX10) (N := 57) rfl (by decide) bp_X10_finding
  · cases h2
theorem bj_X10_known (l : Launch) : ex_ok l 1 22 bx_X10_known := ec_okp fo_X10 co_X10 so_X10 (bk_X10_known l)
theorem bm_X10_known (l : Launch) : ex_Met l yX10_known cX10_known 5 (some .int) 1 22 (ab_sp ab_hd bc_X10_known) := ab_met (by decide) pn_RX10 rfl (bj_X10_known l) bd_X10_known ab_hcm ab_xk bz_X10_known
theorem ba_X10_mass : ec_al [(1574, Cond.code yX10_mass cX10_mass 4 (some .int)), (68, Cond.initialized yX10_mass.cls), (1572, Cond.instanceMethod yX10_mass), (1573, Cond.selects yX10_mass.cls yX10_mass yX10_mass), (1303, Cond.methodLink RX10 171 yX10_isIn), (1282, Cond.methodLink RX10 160 yX10_finding)] := ec_alk (by decide +kernel)
theorem bw_X10_mass : ec_cw yX10_mass cX10_mass 4 (some .int) := ⟨ba_X10_mass.1, ba_X10_mass.2.1, nc_RX10⟩
theorem bv_X10_mass : Cond.instanceMethod yX10_mass ∈ ec_tb ∧ Cond.selects yX10_mass.cls yX10_mass yX10_mass ∈ ec_tb := ⟨ba_X10_mass.2.2.1, ba_X10_mass.2.2.2.1⟩
theorem bp_X10_mass : (parseMethodDescriptor yX10_mass.desc).map (fun d => d.parameters.length) = some 2 := by decide +kernel
theorem bk_X10_mass (l : Launch) : ∀ (ix n : Nat) (rc : Option Nat) (sp : ex_S), (be_X10_mass ix).map (fun q => (q.1, q.2.1, ab_sp ab_hd q.2.2)) = some (n, rc, sp) → ex_cok l RX10 1 22 ix n rc sp := by
  intro ix n rc sp h
  obtain ⟨l0, h2, rfl⟩ := ab_dmk h
  clear h
  unfold be_X10_mass at h2
  split at h2
  · cases h2; exact ec_cS (bm_X10_isIn l) bw_X10_isIn bv_X10_isIn (by decide) (by decide) (Or.inl ba_X10_mass.2.2.2.2.1) bp_X10_isIn
  · cases h2; exact ec_cV (bm_X10_finding l) bw_X10_finding bv_X10_finding (by decide) (by decide) (Or.inl ba_X10_mass.2.2.2.2.2.1) (T := TX10) (N := 57) rfl (by decide) bp_X10_finding
  · cases h2
theorem bj_X10_mass (l : Launch) : ex_ok l 1 22 bx_X10_mass := ec_okp fo_X10 co_X10 so_X10 (bk_X10_mass l)
theorem bm_X10_mass (l : Launch) : ex_Met l yX10_mass cX10_mass 4 (some .int) 1 22 (ab_sp ab_hd bc_X10_mass) := ab_met (by decide) pn_RX10 rfl (bj_X10_mass l) bd_X10_mass ab_hcm ab_xk bz_X10_mass
theorem ba_X10_dock : ec_al [(1579, Cond.code yX10_dock cX10_dock 3 (some .int)), (68, Cond.initialized yX10_dock.cls), (1577, Cond.instanceMethod yX10_dock), (1578, Cond.selects yX10_dock.cls yX10_dock yX10_dock), (1303, Cond.methodLink RX10 171 yX10_isIn), (1282, Cond.methodLink RX10 160 yX10_finding)] := ec_alk (by decide +kernel)
theorem bw_X10_dock : ec_cw yX10_dock cX10_dock 3 (some .int) := ⟨ba_X10_dock.1, ba_X10_dock.2.1, nc_RX10⟩
theorem bv_X10_dock : Cond.instanceMethod yX10_dock ∈ ec_tb ∧ Cond.selects yX10_dock.cls yX10_dock yX10_dock ∈ ec_tb := ⟨ba_X10_dock.2.2.1, ba_X10_dock.2.2.2.1⟩
theorem bp_X10_dock : (parseMethodDescriptor yX10_dock.desc).map (fun d => d.parameters.length) = some 2 := by decide +kernel
theorem bk_X10_dock (l : Launch) : ∀ (ix n : Nat) (rc : Option Nat) (sp : ex_S), (be_X10_dock ix).map (fun q => (q.1, q.2.1, ab_sp ab_hd q.2.2)) = some (n, rc, sp) → ex_cok l RX10 1 22 ix n rc sp := by
  intro ix n rc sp h
  obtain ⟨l0, h2, rfl⟩ := ab_dmk h
  clear h
  unfold be_X10_dock at h2
  split at h2
  · cases h2; exact ec_cS (bm_X10_isIn l) bw_X10_isIn bv_X10_isIn (by decide) (by decide) (Or.inl ba_X10_dock.2.2.2.2.1) bp_X10_isIn
  · cases h2; exact ec_cV (bm_X10_finding l) bw_X10_finding bv_X10_finding (by decide) (by decide) (Or.inl ba_X10_dock.2.2.2.2.2.1) (T := TX10) (N := 57) rfl (by decide) bp_X10_finding
  · cases h2
theorem bj_X10_dock (l : Launch) : ex_ok l 1 22 bx_X10_dock := ec_okp fo_X10 co_X10 so_X10 (bk_X10_dock l)
theorem bm_X10_dock (l : Launch) : ex_Met l yX10_dock cX10_dock 3 (some .int) 1 22 (ab_sp ab_hd bc_X10_dock) := ab_met (by decide) pn_RX10 rfl (bj_X10_dock l) bd_X10_dock ab_hcm ab_xk bz_X10_dock
theorem ba_X10_undock : ec_al [(1583, Cond.code yX10_undock cX10_undock 2 (some .int)), (68, Cond.initialized yX10_undock.cls), (1581, Cond.instanceMethod yX10_undock), (1582, Cond.selects yX10_undock.cls yX10_undock yX10_undock), (1303, Cond.methodLink RX10 171 yX10_isIn), (1282, Cond.methodLink RX10 160 yX10_finding)] := ec_alk (by decide +kernel)
theorem bw_X10_undock : ec_cw yX10_undock cX10_undock 2 (some .int) := ⟨ba_X10_undock.1, ba_X10_undock.2.1, nc_RX10⟩
theorem bv_X10_undock : Cond.instanceMethod yX10_undock ∈ ec_tb ∧ Cond.selects yX10_undock.cls yX10_undock yX10_undock ∈ ec_tb := ⟨ba_X10_undock.2.2.1, ba_X10_undock.2.2.2.1⟩
theorem bp_X10_undock : (parseMethodDescriptor yX10_undock.desc).map (fun d => d.parameters.length) = some 1 := by decide +kernel
theorem bk_X10_undock (l : Launch) : ∀ (ix n : Nat) (rc : Option Nat) (sp : ex_S), (be_X10_undock ix).map (fun q => (q.1, q.2.1, ab_sp ab_hd q.2.2)) = some (n, rc, sp) → ex_cok l RX10 1 22 ix n rc sp := by
  intro ix n rc sp h
  obtain ⟨l0, h2, rfl⟩ := ab_dmk h
  clear h
  unfold be_X10_undock at h2
  split at h2
  · cases h2; exact ec_cS (bm_X10_isIn l) bw_X10_isIn bv_X10_isIn (by decide) (by decide) (Or.inl ba_X10_undock.2.2.2.2.1) bp_X10_isIn
  · cases h2; exact ec_cV (bm_X10_finding l) bw_X10_finding bv_X10_finding (by decide) (by decide) (Or.inl ba_X10_undock.2.2.2.2.2.1) (T := TX10) (N := 57) rfl (by decide) bp_X10_finding
  · cases h2
theorem bj_X10_undock (l : Launch) : ex_ok l 1 22 bx_X10_undock := ec_okp fo_X10 co_X10 so_X10 (bk_X10_undock l)
theorem bm_X10_undock (l : Launch) : ex_Met l yX10_undock cX10_undock 2 (some .int) 1 22 (ab_sp ab_hd bc_X10_undock) := ab_met (by decide) pn_RX10 rfl (bj_X10_undock l) bd_X10_undock ab_hcm ab_xk bz_X10_undock
theorem ba_X10_tell : ec_al [(1587, Cond.code yX10_tell cX10_tell 2 (some .int)), (68, Cond.initialized yX10_tell.cls), (1585, Cond.instanceMethod yX10_tell), (1586, Cond.selects yX10_tell.cls yX10_tell yX10_tell), (1282, Cond.methodLink RX10 160 yX10_finding)] := ec_alk (by decide +kernel)
theorem bw_X10_tell : ec_cw yX10_tell cX10_tell 2 (some .int) := ⟨ba_X10_tell.1, ba_X10_tell.2.1, nc_RX10⟩
theorem bv_X10_tell : Cond.instanceMethod yX10_tell ∈ ec_tb ∧ Cond.selects yX10_tell.cls yX10_tell yX10_tell ∈ ec_tb := ⟨ba_X10_tell.2.2.1, ba_X10_tell.2.2.2.1⟩
theorem bp_X10_tell : (parseMethodDescriptor yX10_tell.desc).map (fun d => d.parameters.length) = some 1 := by decide +kernel
theorem bk_X10_tell (l : Launch) : ∀ (ix n : Nat) (rc : Option Nat) (sp : ex_S), (be_X10_tell ix).map (fun q => (q.1, q.2.1, ab_sp ab_hd q.2.2)) = some (n, rc, sp) → ex_cok l RX10 1 21 ix n rc sp := by
  intro ix n rc sp h
  obtain ⟨l0, h2, rfl⟩ := ab_dmk h
  clear h
  unfold be_X10_tell at h2
  split at h2
  · cases h2; exact ec_cV (bm_X10_finding l) bw_X10_finding bv_X10_finding (by decide) (by decide) (Or.inl ba_X10_tell.2.2.2.2.1) (T := TX10) (N := 57) rfl (by decide) bp_X10_finding
  · cases h2
theorem bj_X10_tell (l : Launch) : ex_ok l 1 21 bx_X10_tell := ec_okp fo_X10 co_X10 so_X10 (bk_X10_tell l)
theorem bm_X10_tell (l : Launch) : ex_Met l yX10_tell cX10_tell 2 (some .int) 1 21 (ab_sp ab_hd bc_X10_tell) := ab_met (by decide) pn_RX10 rfl (bj_X10_tell l) bd_X10_tell ab_hcm ab_xk bz_X10_tell
theorem ba_X10_check : ec_al [(1591, Cond.code yX10_check cX10_check 7 (some .int)), (68, Cond.initialized yX10_check.cls), (1589, Cond.instanceMethod yX10_check), (1590, Cond.selects yX10_check.cls yX10_check yX10_check), (1291, Cond.methodLink RX10 164 yX10_isModule), (1303, Cond.methodLink RX10 171 yX10_isIn), (1282, Cond.methodLink RX10 160 yX10_finding), (1512, Cond.methodLink RX10 273 yX10_layAside), (1451, Cond.methodLink RX10 262 yX10_tick)] := ec_alk (by decide +kernel)
theorem bw_X10_check : ec_cw yX10_check cX10_check 7 (some .int) := ⟨ba_X10_check.1, ba_X10_check.2.1, nc_RX10⟩
theorem bv_X10_check : Cond.instanceMethod yX10_check ∈ ec_tb ∧ Cond.selects yX10_check.cls yX10_check yX10_check ∈ ec_tb := ⟨ba_X10_check.2.2.1, ba_X10_check.2.2.2.1⟩
theorem bp_X10_check : (parseMethodDescriptor yX10_check.desc).map (fun d => d.parameters.length) = some 2 := by decide +kernel
theorem bk_X10_check (l : Launch) : ∀ (ix n : Nat) (rc : Option Nat) (sp : ex_S), (be_X10_check ix).map (fun q => (q.1, q.2.1, ab_sp ab_hd q.2.2)) = some (n, rc, sp) → ex_cok l RX10 5 112 ix n rc sp := by
  intro ix n rc sp h
  obtain ⟨l0, h2, rfl⟩ := ab_dmk h
  clear h
  unfold be_X10_check at h2
  split at h2
  · cases h2; exact ec_cV (bm_X10_isModule l) bw_X10_isModule bv_X10_isModule (by decide) (by decide) (Or.inl ba_X10_check.2.2.2.2.1) (T := TX10) (N := 57) rfl (by decide) bp_X10_isModule
  · cases h2; exact ec_cS (bm_X10_isIn l) bw_X10_isIn bv_X10_isIn (by decide) (by decide) (Or.inl ba_X10_check.2.2.2.2.2.1) bp_X10_isIn
  · cases h2; exact ec_cV (bm_X10_finding l) bw_X10_finding bv_X10_finding (by decide) (by decide) (Or.inl ba_X10_check.2.2.2.2.2.2.1) (T := TX10) (N := 57) rfl (by decide) bp_X10_finding
  · cases h2; exact ec_cV (bm_X10_layAside l) bw_X10_layAside bv_X10_layAside (by decide) (by decide) (Or.inl ba_X10_check.2.2.2.2.2.2.2.1) (T := TX10) (N := 57) rfl (by decide) bp_X10_layAside
  · cases h2; exact ec_cV (bm_X10_tick l) bw_X10_tick bv_X10_tick (by decide) (by decide) (Or.inl ba_X10_check.2.2.2.2.2.2.2.2.1) (T := TX10) (N := 57) rfl (by decide) bp_X10_tick
  · cases h2
theorem bj_X10_check (l : Launch) : ex_ok l 5 112 bx_X10_check := ec_okp fo_X10 co_X10 so_X10 (bk_X10_check l)
theorem bm_X10_check (l : Launch) : ex_Met l yX10_check cX10_check 7 (some .int) 5 112 (ab_sp ab_hd bc_X10_check) := ab_met (by decide) pn_RX10 rfl (bj_X10_check l) bd_X10_check ab_hcm ab_xk bz_X10_check
theorem ba_X10_count : ec_al [(1595, Cond.code yX10_count cX10_count 4 (some .int)), (68, Cond.initialized yX10_count.cls), (1593, Cond.instanceMethod yX10_count), (1594, Cond.selects yX10_count.cls yX10_count yX10_count), (1282, Cond.methodLink RX10 160 yX10_finding)] := ec_alk (by decide +kernel)
theorem bw_X10_count : ec_cw yX10_count cX10_count 4 (some .int) := ⟨ba_X10_count.1, ba_X10_count.2.1, nc_RX10⟩
theorem bv_X10_count : Cond.instanceMethod yX10_count ∈ ec_tb ∧ Cond.selects yX10_count.cls yX10_count yX10_count ∈ ec_tb := ⟨ba_X10_count.2.2.1, ba_X10_count.2.2.2.1⟩
theorem bp_X10_count : (parseMethodDescriptor yX10_count.desc).map (fun d => d.parameters.length) = some 1 := by decide +kernel
theorem bk_X10_count (l : Launch) : ∀ (ix n : Nat) (rc : Option Nat) (sp : ex_S), (be_X10_count ix).map (fun q => (q.1, q.2.1, ab_sp ab_hd q.2.2)) = some (n, rc, sp) → ex_cok l RX10 1 21 ix n rc sp := by
  intro ix n rc sp h
  obtain ⟨l0, h2, rfl⟩ := ab_dmk h
  clear h
  unfold be_X10_count at h2
  split at h2
  · cases h2; exact ec_cV (bm_X10_finding l) bw_X10_finding bv_X10_finding (by decide) (by decide) (Or.inl ba_X10_count.2.2.2.2.1) (T := TX10) (N := 57) rfl (by decide) bp_X10_finding
  · cases h2
theorem bj_X10_count (l : Launch) : ex_ok l 1 21 bx_X10_count := ec_okp fo_X10 co_X10 so_X10 (bk_X10_count l)
theorem bm_X10_count (l : Launch) : ex_Met l yX10_count cX10_count 4 (some .int) 1 21 (ab_sp ab_hd bc_X10_count) := ab_met (by decide) pn_RX10 rfl (bj_X10_count l) bd_X10_count ab_hcm ab_xk bz_X10_count
theorem ba_X10_found : ec_al [(1599, Cond.code yX10_found cX10_found 2 (some .int)), (68, Cond.initialized yX10_found.cls), (1597, Cond.instanceMethod yX10_found), (1598, Cond.selects yX10_found.cls yX10_found yX10_found), (1303, Cond.methodLink RX10 171 yX10_isIn), (1282, Cond.methodLink RX10 160 yX10_finding)] := ec_alk (by decide +kernel)
theorem bw_X10_found : ec_cw yX10_found cX10_found 2 (some .int) := ⟨ba_X10_found.1, ba_X10_found.2.1, nc_RX10⟩
theorem bv_X10_found : Cond.instanceMethod yX10_found ∈ ec_tb ∧ Cond.selects yX10_found.cls yX10_found yX10_found ∈ ec_tb := ⟨ba_X10_found.2.2.1, ba_X10_found.2.2.2.1⟩
theorem bp_X10_found : (parseMethodDescriptor yX10_found.desc).map (fun d => d.parameters.length) = some 1 := by decide +kernel
theorem bk_X10_found (l : Launch) : ∀ (ix n : Nat) (rc : Option Nat) (sp : ex_S), (be_X10_found ix).map (fun q => (q.1, q.2.1, ab_sp ab_hd q.2.2)) = some (n, rc, sp) → ex_cok l RX10 1 22 ix n rc sp := by
  intro ix n rc sp h
  obtain ⟨l0, h2, rfl⟩ := ab_dmk h
  clear h
  unfold be_X10_found at h2
  split at h2
  · cases h2; exact ec_cS (bm_X10_isIn l) bw_X10_isIn bv_X10_isIn (by decide) (by decide) (Or.inl ba_X10_found.2.2.2.2.1) bp_X10_isIn
  · cases h2; exact ec_cV (bm_X10_finding l) bw_X10_finding bv_X10_finding (by decide) (by decide) (Or.inl ba_X10_found.2.2.2.2.2.1) (T := TX10) (N := 57) rfl (by decide) bp_X10_finding
  · cases h2
theorem bj_X10_found (l : Launch) : ex_ok l 1 22 bx_X10_found := ec_okp fo_X10 co_X10 so_X10 (bk_X10_found l)
theorem bm_X10_found (l : Launch) : ex_Met l yX10_found cX10_found 2 (some .int) 1 22 (ab_sp ab_hd bc_X10_found) := ab_met (by decide) pn_RX10 rfl (bj_X10_found l) bd_X10_found ab_hcm ab_xk bz_X10_found
