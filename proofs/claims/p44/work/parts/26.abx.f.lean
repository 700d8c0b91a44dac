theorem bw_X9_shut : ec_cw yX9_shut cX9_shut 3 (some .int) := ⟨ec_in (i := 446) (by decide +kernel) rfl, ec_in (i := 58) (by decide +kernel) rfl, by decide, by decide⟩
theorem bv_X9_shut : Cond.instanceMethod yX9_shut ∈ ec_tb ∧ Cond.selects yX9_shut.cls yX9_shut yX9_shut ∈ ec_tb := ⟨ec_in (i := 444) (by decide +kernel) rfl, ec_in (i := 445) (by decide +kernel) rfl⟩
def be_X9_shut : Nat → Option (Nat × Option Nat × List ab_C) := fun ix => match ix with
  | 72 => some (3, some 0, bc_X0_setOpen)
  | 64 => some (2, some 9, bc_X9_counted)
  | _ => none
theorem bk_X9_shut (l : Launch) : ∀ (ix n : Nat) (rc : Option Nat) (sp : ex_S), (be_X9_shut ix).map (fun q => (q.1, q.2.1, ab_sp ab_hd q.2.2)) = some (n, rc, sp) → ex_cok l RX9 2 44 ix n rc sp := by
  intro ix n rc sp h
  obtain ⟨l0, h2, rfl⟩ := ab_dmk h
  clear h
  unfold be_X9_shut at h2
  split at h2
  · cases h2; exact ec_cV (bm_X0_setOpen l) bw_X0_setOpen bv_X0_setOpen (by decide) (by decide) (Or.inl (ec_in (i := 447) (by decide +kernel) rfl)) (T := TX0) (N := 8) rfl (by decide) (by decide +kernel)
  · cases h2; exact ec_cV (bm_X9_counted l) bw_X9_counted bv_X9_counted (by decide) (by decide) (Or.inl (ec_in (i := 424) (by decide +kernel) rfl)) (T := TX9) (N := 10) rfl (by decide) (by decide +kernel)
  · cases h2
def bx_X9_shut : ex_K := (RX9, ec_fx fl_X9, ec_cx cl_X9, sl_X9, (fun ix => (be_X9_shut ix).map (fun q => (q.1, q.2.1, ab_sp ab_hd q.2.2))), ec_nz, ec_no)
theorem bj_X9_shut (l : Launch) : ex_ok l 2 44 bx_X9_shut := ⟨ec_fok fo_X9, ec_cok co_X9, so_X9, bk_X9_shut l, fun _ h => (by cases h), fun _ h => (by cases h), fun _ h => (by cases h), fun _ _ h => (by cases h)⟩
def bq_X9_shut : List (ab_C × List ab_Q) := [(([.inl 0, .inr ((-2147483648), 2147483647), .inr ((-2147483648), 2147483647)], [], [(12, none), (75, none)], [(some ((-2147483648), 2147483647, none), [], [])]), [])]
def bc_X9_shut : List ab_C := bq_X9_shut.map (fun c => c.1)
def bi_X9_shut : List (Nat × Instr × Nat) := [(0, .aload_n 0, 1), (1, .aload_n 0, 1), (2, .getfield 21, 3), (5, .getfield 54, 3), (8, .iload_n 1, 1), (9, .iload_n 2, 1), (10, .invokevirtual 72, 3), (13, .invokevirtual 64, 3), (16, .ireturn, 1)]
theorem bd_X9_shut : ∀ q ∈ bi_X9_shut, decode cX9_shut q.1 = .ok q.2 := by decide +kernel
theorem bz_X9_shut : bq_X9_shut.all (ab_ck ab_hd ab_xs ab_tr bx_X9_shut be_X9_shut bi_X9_shut (some .int) 3 11) = true := by decide +kernel
theorem bm_X9_shut (l : Launch) : ex_Met l yX9_shut cX9_shut 3 (some .int) 2 44 (ab_sp ab_hd bc_X9_shut) := ab_met (by decide) (by decide) rfl (bj_X9_shut l) bd_X9_shut ab_hcm ab_xk bz_X9_shut
theorem bw_X9_gas : ec_cw yX9_gas cX9_gas 4 (some .int) := ⟨ec_in (i := 464) (by decide +kernel) rfl, ec_in (i := 58) (by decide +kernel) rfl, by decide, by decide⟩
theorem bv_X9_gas : Cond.instanceMethod yX9_gas ∈ ec_tb ∧ Cond.selects yX9_gas.cls yX9_gas yX9_gas ∈ ec_tb := ⟨ec_in (i := 462) (by decide +kernel) rfl, ec_in (i := 463) (by decide +kernel) rfl⟩
def be_X9_gas : Nat → Option (Nat × Option Nat × List ab_C) := fun ix => match ix with
  | 75 => some (4, some 0, bc_X0_setHeld)
  | 64 => some (2, some 9, bc_X9_counted)
  | _ => none
theorem bk_X9_gas (l : Launch) : ∀ (ix n : Nat) (rc : Option Nat) (sp : ex_S), (be_X9_gas ix).map (fun q => (q.1, q.2.1, ab_sp ab_hd q.2.2)) = some (n, rc, sp) → ex_cok l RX9 2 45 ix n rc sp := by
  intro ix n rc sp h
  obtain ⟨l0, h2, rfl⟩ := ab_dmk h
  clear h
  unfold be_X9_gas at h2
  split at h2
  · cases h2; exact ec_cV (bm_X0_setHeld l) bw_X0_setHeld bv_X0_setHeld (by decide) (by decide) (Or.inl (ec_in (i := 465) (by decide +kernel) rfl)) (T := TX0) (N := 8) rfl (by decide) (by decide +kernel)
  · cases h2; exact ec_cV (bm_X9_counted l) bw_X9_counted bv_X9_counted (by decide) (by decide) (Or.inl (ec_in (i := 424) (by decide +kernel) rfl)) (T := TX9) (N := 10) rfl (by decide) (by decide +kernel)
  · cases h2
def bx_X9_gas : ex_K := (RX9, ec_fx fl_X9, ec_cx cl_X9, sl_X9, (fun ix => (be_X9_gas ix).map (fun q => (q.1, q.2.1, ab_sp ab_hd q.2.2))), ec_nz, ec_no)
theorem bj_X9_gas (l : Launch) : ex_ok l 2 45 bx_X9_gas := ⟨ec_fok fo_X9, ec_cok co_X9, so_X9, bk_X9_gas l, fun _ h => (by cases h), fun _ h => (by cases h), fun _ h => (by cases h), fun _ _ h => (by cases h)⟩
def bq_X9_gas : List (ab_C × List ab_Q) := [(([.inl 0, .inr ((-2147483648), 2147483647), .inr ((-2147483648), 2147483647), .inr ((-2147483648), 2147483647)], [], [(8, none), (75, none)], [(some ((-2147483648), 2147483647, none), [], [])]), [])]
def bc_X9_gas : List ab_C := bq_X9_gas.map (fun c => c.1)
def bi_X9_gas : List (Nat × Instr × Nat) := [(0, .aload_n 0, 1), (1, .aload_n 0, 1), (2, .getfield 21, 3), (5, .getfield 54, 3), (8, .iload_n 1, 1), (9, .iload_n 2, 1), (10, .iload_n 3, 1), (11, .invokevirtual 75, 3), (14, .invokevirtual 64, 3), (17, .ireturn, 1)]
theorem bd_X9_gas : ∀ q ∈ bi_X9_gas, decode cX9_gas q.1 = .ok q.2 := by decide +kernel
theorem bz_X9_gas : bq_X9_gas.all (ab_ck ab_hd ab_xs ab_tr bx_X9_gas be_X9_gas bi_X9_gas (some .int) 4 12) = true := by decide +kernel
theorem bm_X9_gas (l : Launch) : ex_Met l yX9_gas cX9_gas 4 (some .int) 2 45 (ab_sp ab_hd bc_X9_gas) := ab_met (by decide) (by decide) rfl (bj_X9_gas l) bd_X9_gas ab_hcm ab_xk bz_X9_gas
theorem bw_X9_leak : ec_cw yX9_leak cX9_leak 3 (some .int) := ⟨ec_in (i := 476) (by decide +kernel) rfl, ec_in (i := 58) (by decide +kernel) rfl, by decide, by decide⟩
theorem bv_X9_leak : Cond.instanceMethod yX9_leak ∈ ec_tb ∧ Cond.selects yX9_leak.cls yX9_leak yX9_leak ∈ ec_tb := ⟨ec_in (i := 474) (by decide +kernel) rfl, ec_in (i := 475) (by decide +kernel) rfl⟩
def be_X9_leak : Nat → Option (Nat × Option Nat × List ab_C) := fun ix => match ix with
  | 79 => some (3, some 0, bc_X0_setLeak)
  | 64 => some (2, some 9, bc_X9_counted)
  | _ => none
theorem bk_X9_leak (l : Launch) : ∀ (ix n : Nat) (rc : Option Nat) (sp : ex_S), (be_X9_leak ix).map (fun q => (q.1, q.2.1, ab_sp ab_hd q.2.2)) = some (n, rc, sp) → ex_cok l RX9 2 44 ix n rc sp := by
  intro ix n rc sp h
  obtain ⟨l0, h2, rfl⟩ := ab_dmk h
  clear h
  unfold be_X9_leak at h2
  split at h2
  · cases h2; exact ec_cV (bm_X0_setLeak l) bw_X0_setLeak bv_X0_setLeak (by decide) (by decide) (Or.inl (ec_in (i := 477) (by decide +kernel) rfl)) (T := TX0) (N := 8) rfl (by decide) (by decide +kernel)
  · cases h2; exact ec_cV (bm_X9_counted l) bw_X9_counted bv_X9_counted (by decide) (by decide) (Or.inl (ec_in (i := 424) (by decide +kernel) rfl)) (T := TX9) (N := 10) rfl (by decide) (by decide +kernel)
  · cases h2
def bx_X9_leak : ex_K := (RX9, ec_fx fl_X9, ec_cx cl_X9, sl_X9, (fun ix => (be_X9_leak ix).map (fun q => (q.1, q.2.1, ab_sp ab_hd q.2.2))), ec_nz, ec_no)
theorem bj_X9_leak (l : Launch) : ex_ok l 2 44 bx_X9_leak := ⟨ec_fok fo_X9, ec_cok co_X9, so_X9, bk_X9_leak l, fun _ h => (by cases h), fun _ h => (by cases h), fun _ h => (by cases h), fun _ _ h => (by cases h)⟩
def bq_X9_leak : List (ab_C × List ab_Q) := [(([.inl 0, .inr ((-2147483648), 2147483647), .inr ((-2147483648), 2147483647)], [], [(9, none), (75, none)], [(some ((-2147483648), 2147483647, none), [], [])]), [])]
def bc_X9_leak : List ab_C := bq_X9_leak.map (fun c => c.1)
def bi_X9_leak : List (Nat × Instr × Nat) := [(0, .aload_n 0, 1), (1, .aload_n 0, 1), (2, .getfield 21, 3), (5, .getfield 54, 3), (8, .iload_n 1, 1), (9, .iload_n 2, 1), (10, .invokevirtual 79, 3), (13, .invokevirtual 64, 3), (16, .ireturn, 1)]
theorem bd_X9_leak : ∀ q ∈ bi_X9_leak, decode cX9_leak q.1 = .ok q.2 := by decide +kernel
theorem bz_X9_leak : bq_X9_leak.all (ab_ck ab_hd ab_xs ab_tr bx_X9_leak be_X9_leak bi_X9_leak (some .int) 3 11) = true := by decide +kernel
theorem bm_X9_leak (l : Launch) : ex_Met l yX9_leak cX9_leak 3 (some .int) 2 44 (ab_sp ab_hd bc_X9_leak) := ab_met (by decide) (by decide) rfl (bj_X9_leak l) bd_X9_leak ab_hcm ab_xk bz_X9_leak
theorem bw_X9_tank : ec_cw yX9_tank cX9_tank 3 (some .int) := ⟨ec_in (i := 484) (by decide +kernel) rfl, ec_in (i := 58) (by decide +kernel) rfl, by decide, by decide⟩
theorem bv_X9_tank : Cond.instanceMethod yX9_tank ∈ ec_tb ∧ Cond.selects yX9_tank.cls yX9_tank yX9_tank ∈ ec_tb := ⟨ec_in (i := 482) (by decide +kernel) rfl, ec_in (i := 483) (by decide +kernel) rfl⟩
def be_X9_tank : Nat → Option (Nat × Option Nat × List ab_C) := fun ix => match ix with
  | 82 => some (3, some 0, bc_X0_setStored)
  | 64 => some (2, some 9, bc_X9_counted)
  | _ => none
theorem bk_X9_tank (l : Launch) : ∀ (ix n : Nat) (rc : Option Nat) (sp : ex_S), (be_X9_tank ix).map (fun q => (q.1, q.2.1, ab_sp ab_hd q.2.2)) = some (n, rc, sp) → ex_cok l RX9 1 23 ix n rc sp := by
  intro ix n rc sp h
  obtain ⟨l0, h2, rfl⟩ := ab_dmk h
  clear h
  unfold be_X9_tank at h2
  split at h2
  · cases h2; exact ec_cV (bm_X0_setStored l) bw_X0_setStored bv_X0_setStored (by decide) (by decide) (Or.inl (ec_in (i := 485) (by decide +kernel) rfl)) (T := TX0) (N := 8) rfl (by decide) (by decide +kernel)
  · cases h2; exact ec_cV (bm_X9_counted l) bw_X9_counted bv_X9_counted (by decide) (by decide) (Or.inl (ec_in (i := 424) (by decide +kernel) rfl)) (T := TX9) (N := 10) rfl (by decide) (by decide +kernel)
  · cases h2
def bx_X9_tank : ex_K := (RX9, ec_fx fl_X9, ec_cx cl_X9, sl_X9, (fun ix => (be_X9_tank ix).map (fun q => (q.1, q.2.1, ab_sp ab_hd q.2.2))), ec_nz, ec_no)
theorem bj_X9_tank (l : Launch) : ex_ok l 1 23 bx_X9_tank := ⟨ec_fok fo_X9, ec_cok co_X9, so_X9, bk_X9_tank l, fun _ h => (by cases h), fun _ h => (by cases h), fun _ h => (by cases h), fun _ _ h => (by cases h)⟩
def bq_X9_tank : List (ab_C × List ab_Q) := [(([.inl 0, .inr ((-2147483648), 2147483647), .inr ((-2147483648), 2147483647)], [], [(13, none), (75, none)], [(some ((-2147483648), 2147483647, none), [], [])]), [])]
def bc_X9_tank : List ab_C := bq_X9_tank.map (fun c => c.1)
def bi_X9_tank : List (Nat × Instr × Nat) := [(0, .aload_n 0, 1), (1, .aload_n 0, 1), (2, .getfield 21, 3), (5, .getfield 54, 3), (8, .iload_n 1, 1), (9, .iload_n 2, 1), (10, .invokevirtual 82, 3), (13, .invokevirtual 64, 3), (16, .ireturn, 1)]
theorem bd_X9_tank : ∀ q ∈ bi_X9_tank, decode cX9_tank q.1 = .ok q.2 := by decide +kernel
theorem bz_X9_tank : bq_X9_tank.all (ab_ck ab_hd ab_xs ab_tr bx_X9_tank be_X9_tank bi_X9_tank (some .int) 3 11) = true := by decide +kernel
theorem bm_X9_tank (l : Launch) : ex_Met l yX9_tank cX9_tank 3 (some .int) 1 23 (ab_sp ab_hd bc_X9_tank) := ab_met (by decide) (by decide) rfl (bj_X9_tank l) bd_X9_tank ab_hcm ab_xk bz_X9_tank
theorem bw_X9_grams : ec_cw yX9_grams cX9_grams 1 (some .int) := ⟨ec_in (i := 493) (by decide +kernel) rfl, ec_in (i := 58) (by decide +kernel) rfl, by decide, by decide⟩
theorem bv_X9_grams : Cond.instanceMethod yX9_grams ∈ ec_tb ∧ Cond.selects yX9_grams.cls yX9_grams yX9_grams ∈ ec_tb := ⟨ec_in (i := 491) (by decide +kernel) rfl, ec_in (i := 492) (by decide +kernel) rfl⟩
def be_X9_grams : Nat → Option (Nat × Option Nat × List ab_C) := fun ix => match ix with
  | 85 => some (1, some 0, bc_X0_allGrams)
  | _ => none
theorem bk_X9_grams (l : Launch) : ∀ (ix n : Nat) (rc : Option Nat) (sp : ex_S), (be_X9_grams ix).map (fun q => (q.1, q.2.1, ab_sp ab_hd q.2.2)) = some (n, rc, sp) → ex_cok l RX9 1 23 ix n rc sp := by
  intro ix n rc sp h
  obtain ⟨l0, h2, rfl⟩ := ab_dmk h
  clear h
  unfold be_X9_grams at h2
  split at h2
  · cases h2; exact ec_cV (bm_X0_allGrams l) bw_X0_allGrams bv_X0_allGrams (by decide) (by decide) (Or.inl (ec_in (i := 494) (by decide +kernel) rfl)) (T := TX0) (N := 8) rfl (by decide) (by decide +kernel)
  · cases h2
def bx_X9_grams : ex_K := (RX9, ec_fx fl_X9, ec_cx cl_X9, sl_X9, (fun ix => (be_X9_grams ix).map (fun q => (q.1, q.2.1, ab_sp ab_hd q.2.2))), ec_nz, ec_no)
theorem bj_X9_grams (l : Launch) : ex_ok l 1 23 bx_X9_grams := ⟨ec_fok fo_X9, ec_cok co_X9, so_X9, bk_X9_grams l, fun _ h => (by cases h), fun _ h => (by cases h), fun _ h => (by cases h), fun _ _ h => (by cases h)⟩
def bq_X9_grams : List (ab_C × List ab_Q) := [(([.inl 0], [], [], [(some ((-2147483648), 2147483647, none), [], [])]), [])]
def bc_X9_grams : List ab_C := bq_X9_grams.map (fun c => c.1)
def bi_X9_grams : List (Nat × Instr × Nat) := [(0, .aload_n 0, 1), (1, .getfield 21, 3), (4, .getfield 54, 3), (7, .invokevirtual 85, 3), (10, .ireturn, 1)]
theorem bd_X9_grams : ∀ q ∈ bi_X9_grams, decode cX9_grams q.1 = .ok q.2 := by decide +kernel
theorem bz_X9_grams : bq_X9_grams.all (ab_ck ab_hd ab_xs ab_tr bx_X9_grams be_X9_grams bi_X9_grams (some .int) 1 7) = true := by decide +kernel
theorem bm_X9_grams (l : Launch) : ex_Met l yX9_grams cX9_grams 1 (some .int) 1 23 (ab_sp ab_hd bc_X9_grams) := ab_met (by decide) (by decide) rfl (bj_X9_grams l) bd_X9_grams ab_hcm ab_xk bz_X9_grams
theorem bw_X9_person : ec_cw yX9_person cX9_person 2 (some .int) := ⟨ec_in (i := 501) (by decide +kernel) rfl, ec_in (i := 58) (by decide +kernel) rfl, by decide, by decide⟩
theorem bv_X9_person : Cond.instanceMethod yX9_person ∈ ec_tb ∧ Cond.selects yX9_person.cls yX9_person yX9_person ∈ ec_tb := ⟨ec_in (i := 499) (by decide +kernel) rfl, ec_in (i := 500) (by decide +kernel) rfl⟩
def be_X9_person : Nat → Option (Nat × Option Nat × List ab_C) := fun ix => match ix with
  | 88 => some (2, some 0, bc_X0_hasModule)
  | 64 => some (2, some 9, bc_X9_counted)
  | 97 => some (2, some 3, bc_X3_addPerson)
  | _ => none
theorem bk_X9_person (l : Launch) : ∀ (ix n : Nat) (rc : Option Nat) (sp : ex_S), (be_X9_person ix).map (fun q => (q.1, q.2.1, ab_sp ab_hd q.2.2)) = some (n, rc, sp) → ex_cok l RX9 1 21 ix n rc sp := by
  intro ix n rc sp h
  obtain ⟨l0, h2, rfl⟩ := ab_dmk h
  clear h
  unfold be_X9_person at h2
  split at h2
  · cases h2; exact ec_cV (bm_X0_hasModule l) bw_X0_hasModule bv_X0_hasModule (by decide) (by decide) (Or.inl (ec_in (i := 502) (by decide +kernel) rfl)) (T := TX0) (N := 8) rfl (by decide) (by decide +kernel)
  · cases h2; exact ec_cV (bm_X9_counted l) bw_X9_counted bv_X9_counted (by decide) (by decide) (Or.inl (ec_in (i := 424) (by decide +kernel) rfl)) (T := TX9) (N := 10) rfl (by decide) (by decide +kernel)
  · cases h2; exact ec_cV (bm_X3_addPerson l) bw_X3_addPerson bv_X3_addPerson (by decide) (by decide) (Or.inl (ec_in (i := 504) (by decide +kernel) rfl)) (T := TX3) (N := 7) rfl (by decide) (by decide +kernel)
  · cases h2
def bx_X9_person : ex_K := (RX9, ec_fx fl_X9, ec_cx cl_X9, sl_X9, (fun ix => (be_X9_person ix).map (fun q => (q.1, q.2.1, ab_sp ab_hd q.2.2))), ec_nz, ec_no)
theorem bj_X9_person (l : Launch) : ex_ok l 1 21 bx_X9_person := ⟨ec_fok fo_X9, ec_cok co_X9, so_X9, bk_X9_person l, fun _ h => (by cases h), fun _ h => (by cases h), fun _ h => (by cases h), fun _ _ h => (by cases h)⟩
def bq_X9_person : List (ab_C × List ab_Q) := [(([.inl 0, .inr ((-2147483648), 2147483647)], [], [(14, some 6), (15, none), (17, none), (75, none)], [(some ((-2147483648), 2147483647, none), [], [])]), [])]
def bc_X9_person : List ab_C := bq_X9_person.map (fun c => c.1)
def bi_X9_person : List (Nat × Instr × Nat) := [(0, .aload_n 0, 1), (1, .getfield 21, 3), (4, .getfield 54, 3), (7, .iload_n 1, 1), (8, .invokevirtual 88, 3), (11, .ifCond .ne 10, 3), (14, .aload_n 0, 1), (15, .ldc 92, 2), (17, .invokevirtual 64, 3), (20, .ireturn, 1), (21, .aload_n 0, 1), (22, .aload_n 0, 1), (23, .getfield 21, 3), (26, .getfield 93, 3), (29, .iload_n 1, 1), (30, .invokevirtual 97, 3), (33, .invokevirtual 64, 3), (36, .ireturn, 1)]
theorem bd_X9_person : ∀ q ∈ bi_X9_person, decode cX9_person q.1 = .ok q.2 := by decide +kernel
theorem bz_X9_person : bq_X9_person.all (ab_ck ab_hd ab_xs ab_tr bx_X9_person be_X9_person bi_X9_person (some .int) 2 16) = true := by decide +kernel
theorem bm_X9_person (l : Launch) : ex_Met l yX9_person cX9_person 2 (some .int) 1 21 (ab_sp ab_hd bc_X9_person) := ab_met (by decide) (by decide) rfl (bj_X9_person l) bd_X9_person ab_hcm ab_xk bz_X9_person
theorem bw_X9_go : ec_cw yX9_go cX9_go 3 (some .int) := ⟨ec_in (i := 512) (by decide +kernel) rfl, ec_in (i := 58) (by decide +kernel) rfl, by decide, by decide⟩
theorem bv_X9_go : Cond.instanceMethod yX9_go ∈ ec_tb ∧ Cond.selects yX9_go.cls yX9_go yX9_go ∈ ec_tb := ⟨ec_in (i := 510) (by decide +kernel) rfl, ec_in (i := 511) (by decide +kernel) rfl⟩
def be_X9_go : Nat → Option (Nat × Option Nat × List ab_C) := fun ix => match ix with
  | 102 => some (3, some 8, bc_X8_walk)
  | 64 => some (2, some 9, bc_X9_counted)
  | _ => none
theorem bk_X9_go (l : Launch) : ∀ (ix n : Nat) (rc : Option Nat) (sp : ex_S), (be_X9_go ix).map (fun q => (q.1, q.2.1, ab_sp ab_hd q.2.2)) = some (n, rc, sp) → ex_cok l RX9 2 46 ix n rc sp := by
  intro ix n rc sp h
  obtain ⟨l0, h2, rfl⟩ := ab_dmk h
  clear h
  unfold be_X9_go at h2
  split at h2
  · cases h2; exact ec_cV (bm_X8_walk l) bw_X8_walk bv_X8_walk (by decide) (by decide) (Or.inl (ec_in (i := 513) (by decide +kernel) rfl)) (T := TX8) (N := 7) rfl (by decide) (by decide +kernel)
  · cases h2; exact ec_cV (bm_X9_counted l) bw_X9_counted bv_X9_counted (by decide) (by decide) (Or.inl (ec_in (i := 424) (by decide +kernel) rfl)) (T := TX9) (N := 10) rfl (by decide) (by decide +kernel)
  · cases h2
def bx_X9_go : ex_K := (RX9, ec_fx fl_X9, ec_cx cl_X9, sl_X9, (fun ix => (be_X9_go ix).map (fun q => (q.1, q.2.1, ab_sp ab_hd q.2.2))), ec_nz, ec_no)
theorem bj_X9_go (l : Launch) : ex_ok l 2 46 bx_X9_go := ⟨ec_fok fo_X9, ec_cok co_X9, so_X9, bk_X9_go l, fun _ h => (by cases h), fun _ h => (by cases h), fun _ h => (by cases h), fun _ _ h => (by cases h)⟩
def bq_X9_go : List (ab_C × List ab_Q) := [(([.inl 0, .inr ((-2147483648), 2147483647), .inr ((-2147483648), 2147483647)], [], [(15, none), (75, none)], [(some ((-2147483648), 2147483647, none), [], [])]), [])]
def bc_X9_go : List ab_C := bq_X9_go.map (fun c => c.1)
def bi_X9_go : List (Nat × Instr × Nat) := [(0, .aload_n 0, 1), (1, .aload_n 0, 1), (2, .getfield 21, 3), (5, .iload_n 1, 1), (6, .iload_n 2, 1), (7, .invokevirtual 102, 3), (10, .invokevirtual 64, 3), (13, .ireturn, 1)]
theorem bd_X9_go : ∀ q ∈ bi_X9_go, decode cX9_go q.1 = .ok q.2 := by decide +kernel
theorem bz_X9_go : bq_X9_go.all (ab_ck ab_hd ab_xs ab_tr bx_X9_go be_X9_go bi_X9_go (some .int) 3 10) = true := by decide +kernel
theorem bm_X9_go (l : Launch) : ex_Met l yX9_go cX9_go 3 (some .int) 2 46 (ab_sp ab_hd bc_X9_go) := ab_met (by decide) (by decide) rfl (bj_X9_go l) bd_X9_go ab_hcm ab_xk bz_X9_go
theorem bw_X9_doing : ec_cw yX9_doing cX9_doing 3 (some .int) := ⟨ec_in (i := 535) (by decide +kernel) rfl, ec_in (i := 58) (by decide +kernel) rfl, by decide, by decide⟩
theorem bv_X9_doing : Cond.instanceMethod yX9_doing ∈ ec_tb ∧ Cond.selects yX9_doing.cls yX9_doing yX9_doing ∈ ec_tb := ⟨ec_in (i := 533) (by decide +kernel) rfl, ec_in (i := 534) (by decide +kernel) rfl⟩
def be_X9_doing : Nat → Option (Nat × Option Nat × List ab_C) := fun ix => match ix with
  | 105 => some (3, some 3, bc_X3_setDoing)
  | 64 => some (2, some 9, bc_X9_counted)
  | _ => none
theorem bk_X9_doing (l : Launch) : ∀ (ix n : Nat) (rc : Option Nat) (sp : ex_S), (be_X9_doing ix).map (fun q => (q.1, q.2.1, ab_sp ab_hd q.2.2)) = some (n, rc, sp) → ex_cok l RX9 2 44 ix n rc sp := by
  intro ix n rc sp h
  obtain ⟨l0, h2, rfl⟩ := ab_dmk h
  clear h
  unfold be_X9_doing at h2
  split at h2
  · cases h2; exact ec_cV (bm_X3_setDoing l) bw_X3_setDoing bv_X3_setDoing (by decide) (by decide) (Or.inl (ec_in (i := 536) (by decide +kernel) rfl)) (T := TX3) (N := 7) rfl (by decide) (by decide +kernel)
  · cases h2; exact ec_cV (bm_X9_counted l) bw_X9_counted bv_X9_counted (by decide) (by decide) (Or.inl (ec_in (i := 424) (by decide +kernel) rfl)) (T := TX9) (N := 10) rfl (by decide) (by decide +kernel)
  · cases h2
def bx_X9_doing : ex_K := (RX9, ec_fx fl_X9, ec_cx cl_X9, sl_X9, (fun ix => (be_X9_doing ix).map (fun q => (q.1, q.2.1, ab_sp ab_hd q.2.2))), ec_nz, ec_no)
theorem bj_X9_doing (l : Launch) : ex_ok l 2 44 bx_X9_doing := ⟨ec_fok fo_X9, ec_cok co_X9, so_X9, bk_X9_doing l, fun _ h => (by cases h), fun _ h => (by cases h), fun _ h => (by cases h), fun _ _ h => (by cases h)⟩
def bq_X9_doing : List (ab_C × List ab_Q) := [(([.inl 0, .inr ((-2147483648), 2147483647), .inr ((-2147483648), 2147483647)], [], [(16, none), (75, none)], [(some ((-2147483648), 2147483647, none), [], [])]), [])]
def bc_X9_doing : List ab_C := bq_X9_doing.map (fun c => c.1)
def bi_X9_doing : List (Nat × Instr × Nat) := [(0, .aload_n 0, 1), (1, .aload_n 0, 1), (2, .getfield 21, 3), (5, .getfield 93, 3), (8, .iload_n 1, 1), (9, .iload_n 2, 1), (10, .invokevirtual 105, 3), (13, .invokevirtual 64, 3), (16, .ireturn, 1)]
theorem bd_X9_doing : ∀ q ∈ bi_X9_doing, decode cX9_doing q.1 = .ok q.2 := by decide +kernel
theorem bz_X9_doing : bq_X9_doing.all (ab_ck ab_hd ab_xs ab_tr bx_X9_doing be_X9_doing bi_X9_doing (some .int) 3 11) = true := by decide +kernel
theorem bm_X9_doing (l : Launch) : ex_Met l yX9_doing cX9_doing 3 (some .int) 2 44 (ab_sp ab_hd bc_X9_doing) := ab_met (by decide) (by decide) rfl (bj_X9_doing l) bd_X9_doing ab_hcm ab_xk bz_X9_doing
theorem bw_X9_about : ec_cw yX9_about cX9_about 3 (some .int) := ⟨ec_in (i := 547) (by decide +kernel) rfl, ec_in (i := 58) (by decide +kernel) rfl, by decide, by decide⟩
theorem bv_X9_about : Cond.instanceMethod yX9_about ∈ ec_tb ∧ Cond.selects yX9_about.cls yX9_about yX9_about ∈ ec_tb := ⟨ec_in (i := 545) (by decide +kernel) rfl, ec_in (i := 546) (by decide +kernel) rfl⟩
def be_X9_about : Nat → Option (Nat × Option Nat × List ab_C) := fun ix => match ix with
  | 108 => some (3, some 3, bc_X3_tellOf)
  | 64 => some (2, some 9, bc_X9_counted)
  | _ => none
theorem bk_X9_about (l : Launch) : ∀ (ix n : Nat) (rc : Option Nat) (sp : ex_S), (be_X9_about ix).map (fun q => (q.1, q.2.1, ab_sp ab_hd q.2.2)) = some (n, rc, sp) → ex_cok l RX9 2 43 ix n rc sp := by
  intro ix n rc sp h
  obtain ⟨l0, h2, rfl⟩ := ab_dmk h
  clear h
  unfold be_X9_about at h2
  split at h2
  · cases h2; exact ec_cV (bm_X3_tellOf l) bw_X3_tellOf bv_X3_tellOf (by decide) (by decide) (Or.inl (ec_in (i := 548) (by decide +kernel) rfl)) (T := TX3) (N := 7) rfl (by decide) (by decide +kernel)
  · cases h2; exact ec_cV (bm_X9_counted l) bw_X9_counted bv_X9_counted (by decide) (by decide) (Or.inl (ec_in (i := 424) (by decide +kernel) rfl)) (T := TX9) (N := 10) rfl (by decide) (by decide +kernel)
  · cases h2
def bx_X9_about : ex_K := (RX9, ec_fx fl_X9, ec_cx cl_X9, sl_X9, (fun ix => (be_X9_about ix).map (fun q => (q.1, q.2.1, ab_sp ab_hd q.2.2))), ec_nz, ec_no)
theorem bj_X9_about (l : Launch) : ex_ok l 2 43 bx_X9_about := ⟨ec_fok fo_X9, ec_cok co_X9, so_X9, bk_X9_about l, fun _ h => (by cases h), fun _ h => (by cases h), fun _ h => (by cases h), fun _ _ h => (by cases h)⟩
def bq_X9_about : List (ab_C × List ab_Q) := [(([.inl 0, .inr ((-2147483648), 2147483647), .inr ((-2147483648), 2147483647)], [], [(75, none)], [(some ((-2147483648), 2147483647, none), [], [])]), [])]
def bc_X9_about : List ab_C := bq_X9_about.map (fun c => c.1)
def bi_X9_about : List (Nat × Instr × Nat) := [(0, .aload_n 0, 1), (1, .aload_n 0, 1), (2, .getfield 21, 3), (5, .getfield 93, 3), (8, .iload_n 1, 1), (9, .iload_n 2, 1), (10, .invokevirtual 108, 3), (13, .invokevirtual 64, 3), (16, .ireturn, 1)]
theorem bd_X9_about : ∀ q ∈ bi_X9_about, decode cX9_about q.1 = .ok q.2 := by decide +kernel
theorem bz_X9_about : bq_X9_about.all (ab_ck ab_hd ab_xs ab_tr bx_X9_about be_X9_about bi_X9_about (some .int) 3 11) = true := by decide +kernel
theorem bm_X9_about (l : Launch) : ex_Met l yX9_about cX9_about 3 (some .int) 2 43 (ab_sp ab_hd bc_X9_about) := ab_met (by decide) (by decide) rfl (bj_X9_about l) bd_X9_about ab_hcm ab_xk bz_X9_about
theorem bw_X9_machine : ec_cw yX9_machine cX9_machine 5 (some .int) := ⟨ec_in (i := 555) (by decide +kernel) rfl, ec_in (i := 58) (by decide +kernel) rfl, by decide, by decide⟩
theorem bv_X9_machine : Cond.instanceMethod yX9_machine ∈ ec_tb ∧ Cond.selects yX9_machine.cls yX9_machine yX9_machine ∈ ec_tb := ⟨ec_in (i := 553) (by decide +kernel) rfl, ec_in (i := 554) (by decide +kernel) rfl⟩
def be_X9_machine : Nat → Option (Nat × Option Nat × List ab_C) := fun ix => match ix with
  | 88 => some (2, some 0, bc_X0_hasModule)
  | 64 => some (2, some 9, bc_X9_counted)
  | 115 => some (5, some 6, bc_X6_addMachine)
  | _ => none
theorem bk_X9_machine (l : Launch) : ∀ (ix n : Nat) (rc : Option Nat) (sp : ex_S), (be_X9_machine ix).map (fun q => (q.1, q.2.1, ab_sp ab_hd q.2.2)) = some (n, rc, sp) → ex_cok l RX9 2 45 ix n rc sp := by
  intro ix n rc sp h
  obtain ⟨l0, h2, rfl⟩ := ab_dmk h
  clear h
  unfold be_X9_machine at h2
  split at h2
  · cases h2; exact ec_cV (bm_X0_hasModule l) bw_X0_hasModule bv_X0_hasModule (by decide) (by decide) (Or.inl (ec_in (i := 502) (by decide +kernel) rfl)) (T := TX0) (N := 8) rfl (by decide) (by decide +kernel)
  · cases h2; exact ec_cV (bm_X9_counted l) bw_X9_counted bv_X9_counted (by decide) (by decide) (Or.inl (ec_in (i := 424) (by decide +kernel) rfl)) (T := TX9) (N := 10) rfl (by decide) (by decide +kernel)
  · cases h2; exact ec_cV (bm_X6_addMachine l) bw_X6_addMachine bv_X6_addMachine (by decide) (by decide) (Or.inl (ec_in (i := 556) (by decide +kernel) rfl)) (T := TX6) (N := 15) rfl (by decide) (by decide +kernel)
  · cases h2
def bx_X9_machine : ex_K := (RX9, ec_fx fl_X9, ec_cx cl_X9, sl_X9, (fun ix => (be_X9_machine ix).map (fun q => (q.1, q.2.1, ab_sp ab_hd q.2.2))), ec_nz, ec_no)
theorem bj_X9_machine (l : Launch) : ex_ok l 2 45 bx_X9_machine := ⟨ec_fok fo_X9, ec_cok co_X9, so_X9, bk_X9_machine l, fun _ h => (by cases h), fun _ h => (by cases h), fun _ h => (by cases h), fun _ _ h => (by cases h)⟩
def bq_X9_machine : List (ab_C × List ab_Q) := [(([.inl 0, .inr ((-2147483648), 2147483647), .inr ((-2147483648), 2147483647), .inr ((-2147483648), 2147483647), .inr ((-2147483648), 2147483647)], [], [(21, some 11), (22, none), (23, none), (24, none), (25, none), (26, none), (27, none), (29, none), (75, none)], [(some ((-2147483648), 2147483647, none), [], [])]), [])]
def bc_X9_machine : List ab_C := bq_X9_machine.map (fun c => c.1)
def bi_X9_machine : List (Nat × Instr × Nat) := [(0, .aload_n 0, 1), (1, .getfield 21, 3), (4, .getfield 54, 3), (7, .iload_n 2, 1), (8, .invokevirtual 88, 3), (11, .ifCond .ne 10, 3), (14, .aload_n 0, 1), (15, .ldc 92, 2), (17, .invokevirtual 64, 3), (20, .ireturn, 1), (21, .aload_n 0, 1), (22, .aload_n 0, 1), (23, .getfield 21, 3), (26, .getfield 111, 3), (29, .iload_n 1, 1), (30, .iload_n 2, 1), (31, .iload_n 3, 1), (32, .iload 4, 2), (34, .invokevirtual 115, 3), (37, .invokevirtual 64, 3), (40, .ireturn, 1)]
theorem bd_X9_machine : ∀ q ∈ bi_X9_machine, decode cX9_machine q.1 = .ok q.2 := by decide +kernel
theorem bz_X9_machine : bq_X9_machine.all (ab_ck ab_hd ab_xs ab_tr bx_X9_machine be_X9_machine bi_X9_machine (some .int) 5 19) = true := by decide +kernel
theorem bm_X9_machine (l : Launch) : ex_Met l yX9_machine cX9_machine 5 (some .int) 2 45 (ab_sp ab_hd bc_X9_machine) := ab_met (by decide) (by decide) rfl (bj_X9_machine l) bd_X9_machine ab_hcm ab_xk bz_X9_machine
theorem bw_X9_as : ec_cw yX9_as cX9_as 3 (some .int) := ⟨ec_in (i := 572) (by decide +kernel) rfl, ec_in (i := 58) (by decide +kernel) rfl, by decide, by decide⟩
theorem bv_X9_as : Cond.instanceMethod yX9_as ∈ ec_tb ∧ Cond.selects yX9_as.cls yX9_as yX9_as ∈ ec_tb := ⟨ec_in (i := 570) (by decide +kernel) rfl, ec_in (i := 571) (by decide +kernel) rfl⟩
def be_X9_as : Nat → Option (Nat × Option Nat × List ab_C) := fun ix => match ix with
  | 121 => some (3, some 6, bc_X6_rateAs)
  | 64 => some (2, some 9, bc_X9_counted)
  | _ => none
theorem bk_X9_as (l : Launch) : ∀ (ix n : Nat) (rc : Option Nat) (sp : ex_S), (be_X9_as ix).map (fun q => (q.1, q.2.1, ab_sp ab_hd q.2.2)) = some (n, rc, sp) → ex_cok l RX9 3 65 ix n rc sp := by
  intro ix n rc sp h
  obtain ⟨l0, h2, rfl⟩ := ab_dmk h
  clear h
  unfold be_X9_as at h2
  split at h2
  · cases h2; exact ec_cV (bm_X6_rateAs l) bw_X6_rateAs bv_X6_rateAs (by decide) (by decide) (Or.inl (ec_in (i := 573) (by decide +kernel) rfl)) (T := TX6) (N := 15) rfl (by decide) (by decide +kernel)
  · cases h2; exact ec_cV (bm_X9_counted l) bw_X9_counted bv_X9_counted (by decide) (by decide) (Or.inl (ec_in (i := 424) (by decide +kernel) rfl)) (T := TX9) (N := 10) rfl (by decide) (by decide +kernel)
  · cases h2
def bx_X9_as : ex_K := (RX9, ec_fx fl_X9, ec_cx cl_X9, sl_X9, (fun ix => (be_X9_as ix).map (fun q => (q.1, q.2.1, ab_sp ab_hd q.2.2))), ec_nz, ec_no)
theorem bj_X9_as (l : Launch) : ex_ok l 3 65 bx_X9_as := ⟨ec_fok fo_X9, ec_cok co_X9, so_X9, bk_X9_as l, fun _ h => (by cases h), fun _ h => (by cases h), fun _ h => (by cases h), fun _ _ h => (by cases h)⟩
def bq_X9_as : List (ab_C × List ab_Q) := [(([.inl 0, .inr ((-2147483648), 2147483647), .inr ((-2147483648), 2147483647)], [], [(75, none)], [(some ((-2147483648), 2147483647, none), [], [])]), [])]
def bc_X9_as : List ab_C := bq_X9_as.map (fun c => c.1)
def bi_X9_as : List (Nat × Instr × Nat) := [(0, .aload_n 0, 1), (1, .aload_n 0, 1), (2, .getfield 21, 3), (5, .getfield 111, 3), (8, .iload_n 1, 1), (9, .iload_n 2, 1), (10, .invokevirtual 121, 3), (13, .invokevirtual 64, 3), (16, .ireturn, 1)]
theorem bd_X9_as : ∀ q ∈ bi_X9_as, decode cX9_as q.1 = .ok q.2 := by decide +kernel
theorem bz_X9_as : bq_X9_as.all (ab_ck ab_hd ab_xs ab_tr bx_X9_as be_X9_as bi_X9_as (some .int) 3 11) = true := by decide +kernel
theorem bm_X9_as (l : Launch) : ex_Met l yX9_as cX9_as 3 (some .int) 3 65 (ab_sp ab_hd bc_X9_as) := ab_met (by decide) (by decide) rfl (bj_X9_as l) bd_X9_as ab_hcm ab_xk bz_X9_as
theorem bw_X9_turn : ec_cw yX9_turn cX9_turn 3 (some .int) := ⟨ec_in (i := 590) (by decide +kernel) rfl, ec_in (i := 58) (by decide +kernel) rfl, by decide, by decide⟩
theorem bv_X9_turn : Cond.instanceMethod yX9_turn ∈ ec_tb ∧ Cond.selects yX9_turn.cls yX9_turn yX9_turn ∈ ec_tb := ⟨ec_in (i := 588) (by decide +kernel) rfl, ec_in (i := 589) (by decide +kernel) rfl⟩
def be_X9_turn : Nat → Option (Nat × Option Nat × List ab_C) := fun ix => match ix with
  | 124 => some (3, some 6, bc_X6_setOn)
  | 64 => some (2, some 9, bc_X9_counted)
  | _ => none
theorem bk_X9_turn (l : Launch) : ∀ (ix n : Nat) (rc : Option Nat) (sp : ex_S), (be_X9_turn ix).map (fun q => (q.1, q.2.1, ab_sp ab_hd q.2.2)) = some (n, rc, sp) → ex_cok l RX9 2 44 ix n rc sp := by
  intro ix n rc sp h
  obtain ⟨l0, h2, rfl⟩ := ab_dmk h
  clear h
  unfold be_X9_turn at h2
  split at h2
  · cases h2; exact ec_cV (bm_X6_setOn l) bw_X6_setOn bv_X6_setOn (by decide) (by decide) (Or.inl (ec_in (i := 591) (by decide +kernel) rfl)) (T := TX6) (N := 15) rfl (by decide) (by decide +kernel)
  · cases h2; exact ec_cV (bm_X9_counted l) bw_X9_counted bv_X9_counted (by decide) (by decide) (Or.inl (ec_in (i := 424) (by decide +kernel) rfl)) (T := TX9) (N := 10) rfl (by decide) (by decide +kernel)
  · cases h2
def bx_X9_turn : ex_K := (RX9, ec_fx fl_X9, ec_cx cl_X9, sl_X9, (fun ix => (be_X9_turn ix).map (fun q => (q.1, q.2.1, ab_sp ab_hd q.2.2))), ec_nz, ec_no)
theorem bj_X9_turn (l : Launch) : ex_ok l 2 44 bx_X9_turn := ⟨ec_fok fo_X9, ec_cok co_X9, so_X9, bk_X9_turn l, fun _ h => (by cases h), fun _ h => (by cases h), fun _ h => (by cases h), fun _ _ h => (by cases h)⟩
def bq_X9_turn : List (ab_C × List ab_Q) := [(([.inl 0, .inr ((-2147483648), 2147483647), .inr ((-2147483648), 2147483647)], [], [(29, none), (75, none)], [(some ((-2147483648), 2147483647, none), [], [])]), [])]
def bc_X9_turn : List ab_C := bq_X9_turn.map (fun c => c.1)
def bi_X9_turn : List (Nat × Instr × Nat) := [(0, .aload_n 0, 1), (1, .aload_n 0, 1), (2, .getfield 21, 3), (5, .getfield 111, 3), (8, .iload_n 1, 1), (9, .iload_n 2, 1), (10, .invokevirtual 124, 3), (13, .invokevirtual 64, 3), (16, .ireturn, 1)]
theorem bd_X9_turn : ∀ q ∈ bi_X9_turn, decode cX9_turn q.1 = .ok q.2 := by decide +kernel
theorem bz_X9_turn : bq_X9_turn.all (ab_ck ab_hd ab_xs ab_tr bx_X9_turn be_X9_turn bi_X9_turn (some .int) 3 11) = true := by decide +kernel
theorem bm_X9_turn (l : Launch) : ex_Met l yX9_turn cX9_turn 3 (some .int) 2 44 (ab_sp ab_hd bc_X9_turn) := ab_met (by decide) (by decide) rfl (bj_X9_turn l) bd_X9_turn ab_hcm ab_xk bz_X9_turn
theorem bw_X9_of : ec_cw yX9_of cX9_of 3 (some .int) := ⟨ec_in (i := 600) (by decide +kernel) rfl, ec_in (i := 58) (by decide +kernel) rfl, by decide, by decide⟩
theorem bv_X9_of : Cond.instanceMethod yX9_of ∈ ec_tb ∧ Cond.selects yX9_of.cls yX9_of yX9_of ∈ ec_tb := ⟨ec_in (i := 598) (by decide +kernel) rfl, ec_in (i := 599) (by decide +kernel) rfl⟩
def be_X9_of : Nat → Option (Nat × Option Nat × List ab_C) := fun ix => match ix with
  | 127 => some (3, some 6, bc_X6_tellOf)
  | 64 => some (2, some 9, bc_X9_counted)
  | _ => none
theorem bk_X9_of (l : Launch) : ∀ (ix n : Nat) (rc : Option Nat) (sp : ex_S), (be_X9_of ix).map (fun q => (q.1, q.2.1, ab_sp ab_hd q.2.2)) = some (n, rc, sp) → ex_cok l RX9 2 43 ix n rc sp := by
  intro ix n rc sp h
  obtain ⟨l0, h2, rfl⟩ := ab_dmk h
  clear h
  unfold be_X9_of at h2
  split at h2
  · cases h2; exact ec_cV (bm_X6_tellOf l) bw_X6_tellOf bv_X6_tellOf (by decide) (by decide) (Or.inl (ec_in (i := 601) (by decide +kernel) rfl)) (T := TX6) (N := 15) rfl (by decide) (by decide +kernel)
  · cases h2; exact ec_cV (bm_X9_counted l) bw_X9_counted bv_X9_counted (by decide) (by decide) (Or.inl (ec_in (i := 424) (by decide +kernel) rfl)) (T := TX9) (N := 10) rfl (by decide) (by decide +kernel)
  · cases h2
def bx_X9_of : ex_K := (RX9, ec_fx fl_X9, ec_cx cl_X9, sl_X9, (fun ix => (be_X9_of ix).map (fun q => (q.1, q.2.1, ab_sp ab_hd q.2.2))), ec_nz, ec_no)
theorem bj_X9_of (l : Launch) : ex_ok l 2 43 bx_X9_of := ⟨ec_fok fo_X9, ec_cok co_X9, so_X9, bk_X9_of l, fun _ h => (by cases h), fun _ h => (by cases h), fun _ h => (by cases h), fun _ _ h => (by cases h)⟩
def bq_X9_of : List (ab_C × List ab_Q) := [(([.inl 0, .inr ((-2147483648), 2147483647), .inr ((-2147483648), 2147483647)], [], [(75, none)], [(some ((-2147483648), 2147483647, none), [], [])]), [])]
def bc_X9_of : List ab_C := bq_X9_of.map (fun c => c.1)
def bi_X9_of : List (Nat × Instr × Nat) := [(0, .aload_n 0, 1), (1, .aload_n 0, 1), (2, .getfield 21, 3), (5, .getfield 111, 3), (8, .iload_n 1, 1), (9, .iload_n 2, 1), (10, .invokevirtual 127, 3), (13, .invokevirtual 64, 3), (16, .ireturn, 1)]
theorem bd_X9_of : ∀ q ∈ bi_X9_of, decode cX9_of q.1 = .ok q.2 := by decide +kernel
theorem bz_X9_of : bq_X9_of.all (ab_ck ab_hd ab_xs ab_tr bx_X9_of be_X9_of bi_X9_of (some .int) 3 11) = true := by decide +kernel
theorem bm_X9_of (l : Launch) : ex_Met l yX9_of cX9_of 3 (some .int) 2 43 (ab_sp ab_hd bc_X9_of) := ab_met (by decide) (by decide) rfl (bj_X9_of l) bd_X9_of ab_hcm ab_xk bz_X9_of
theorem bw_X9_spares : ec_cw yX9_spares cX9_spares 3 (some .int) := ⟨ec_in (i := 608) (by decide +kernel) rfl, ec_in (i := 58) (by decide +kernel) rfl, by decide, by decide⟩
theorem bv_X9_spares : Cond.instanceMethod yX9_spares ∈ ec_tb ∧ Cond.selects yX9_spares.cls yX9_spares yX9_spares ∈ ec_tb := ⟨ec_in (i := 606) (by decide +kernel) rfl, ec_in (i := 607) (by decide +kernel) rfl⟩
def be_X9_spares : Nat → Option (Nat × Option Nat × List ab_C) := fun ix => match ix with
  | 128 => some (3, some 6, bc_X6_setSpares)
  | 64 => some (2, some 9, bc_X9_counted)
  | _ => none
theorem bk_X9_spares (l : Launch) : ∀ (ix n : Nat) (rc : Option Nat) (sp : ex_S), (be_X9_spares ix).map (fun q => (q.1, q.2.1, ab_sp ab_hd q.2.2)) = some (n, rc, sp) → ex_cok l RX9 2 43 ix n rc sp := by
  intro ix n rc sp h
  obtain ⟨l0, h2, rfl⟩ := ab_dmk h
  clear h
  unfold be_X9_spares at h2
  split at h2
  · cases h2; exact ec_cV (bm_X6_setSpares l) bw_X6_setSpares bv_X6_setSpares (by decide) (by decide) (Or.inl (ec_in (i := 609) (by decide +kernel) rfl)) (T := TX6) (N := 15) rfl (by decide) (by decide +kernel)
  · cases h2; exact ec_cV (bm_X9_counted l) bw_X9_counted bv_X9_counted (by decide) (by decide) (Or.inl (ec_in (i := 424) (by decide +kernel) rfl)) (T := TX9) (N := 10) rfl (by decide) (by decide +kernel)
  · cases h2
def bx_X9_spares : ex_K := (RX9, ec_fx fl_X9, ec_cx cl_X9, sl_X9, (fun ix => (be_X9_spares ix).map (fun q => (q.1, q.2.1, ab_sp ab_hd q.2.2))), ec_nz, ec_no)
theorem bj_X9_spares (l : Launch) : ex_ok l 2 43 bx_X9_spares := ⟨ec_fok fo_X9, ec_cok co_X9, so_X9, bk_X9_spares l, fun _ h => (by cases h), fun _ h => (by cases h), fun _ h => (by cases h), fun _ _ h => (by cases h)⟩
def bq_X9_spares : List (ab_C × List ab_Q) := [(([.inl 0, .inr ((-2147483648), 2147483647), .inr ((-2147483648), 2147483647)], [], [(32, none), (75, none)], [(some ((-2147483648), 2147483647, none), [], [])]), [])]
def bc_X9_spares : List ab_C := bq_X9_spares.map (fun c => c.1)
def bi_X9_spares : List (Nat × Instr × Nat) := [(0, .aload_n 0, 1), (1, .aload_n 0, 1), (2, .getfield 21, 3), (5, .getfield 111, 3), (8, .iload_n 1, 1), (9, .iload_n 2, 1), (10, .invokevirtual 128, 3), (13, .invokevirtual 64, 3), (16, .ireturn, 1)]
theorem bd_X9_spares : ∀ q ∈ bi_X9_spares, decode cX9_spares q.1 = .ok q.2 := by decide +kernel
theorem bz_X9_spares : bq_X9_spares.all (ab_ck ab_hd ab_xs ab_tr bx_X9_spares be_X9_spares bi_X9_spares (some .int) 3 11) = true := by decide +kernel
theorem bm_X9_spares (l : Launch) : ex_Met l yX9_spares cX9_spares 3 (some .int) 2 43 (ab_sp ab_hd bc_X9_spares) := ab_met (by decide) (by decide) rfl (bj_X9_spares l) bd_X9_spares ab_hcm ab_xk bz_X9_spares
theorem bw_X9_repair : ec_cw yX9_repair cX9_repair 4 (some .int) := ⟨ec_in (i := 616) (by decide +kernel) rfl, ec_in (i := 58) (by decide +kernel) rfl, by decide, by decide⟩
theorem bv_X9_repair : Cond.instanceMethod yX9_repair ∈ ec_tb ∧ Cond.selects yX9_repair.cls yX9_repair yX9_repair ∈ ec_tb := ⟨ec_in (i := 614) (by decide +kernel) rfl, ec_in (i := 615) (by decide +kernel) rfl⟩
def be_X9_repair : Nat → Option (Nat × Option Nat × List ab_C) := fun ix => match ix with
  | 131 => some (4, some 8, bc_X8_mend)
  | 64 => some (2, some 9, bc_X9_counted)
  | _ => none
theorem bk_X9_repair (l : Launch) : ∀ (ix n : Nat) (rc : Option Nat) (sp : ex_S), (be_X9_repair ix).map (fun q => (q.1, q.2.1, ab_sp ab_hd q.2.2)) = some (n, rc, sp) → ex_cok l RX9 2 47 ix n rc sp := by
  intro ix n rc sp h
  obtain ⟨l0, h2, rfl⟩ := ab_dmk h
  clear h
  unfold be_X9_repair at h2
  split at h2
  · cases h2; exact ec_cV (bm_X8_mend l) bw_X8_mend bv_X8_mend (by decide) (by decide) (Or.inl (ec_in (i := 617) (by decide +kernel) rfl)) (T := TX8) (N := 7) rfl (by decide) (by decide +kernel)
  · cases h2; exact ec_cV (bm_X9_counted l) bw_X9_counted bv_X9_counted (by decide) (by decide) (Or.inl (ec_in (i := 424) (by decide +kernel) rfl)) (T := TX9) (N := 10) rfl (by decide) (by decide +kernel)
  · cases h2
def bx_X9_repair : ex_K := (RX9, ec_fx fl_X9, ec_cx cl_X9, sl_X9, (fun ix => (be_X9_repair ix).map (fun q => (q.1, q.2.1, ab_sp ab_hd q.2.2))), ec_nz, ec_no)
theorem bj_X9_repair (l : Launch) : ex_ok l 2 47 bx_X9_repair := ⟨ec_fok fo_X9, ec_cok co_X9, so_X9, bk_X9_repair l, fun _ h => (by cases h), fun _ h => (by cases h), fun _ h => (by cases h), fun _ _ h => (by cases h)⟩
def bq_X9_repair : List (ab_C × List ab_Q) := [(([.inl 0, .inr ((-2147483648), 2147483647), .inr ((-2147483648), 2147483647), .inr ((-2147483648), 2147483647)], [], [(16, none), (17, none), (18, none), (32, none), (75, none)], [(some ((-2147483648), 2147483647, none), [], [])]), [])]
def bc_X9_repair : List ab_C := bq_X9_repair.map (fun c => c.1)
def bi_X9_repair : List (Nat × Instr × Nat) := [(0, .aload_n 0, 1), (1, .aload_n 0, 1), (2, .getfield 21, 3), (5, .iload_n 1, 1), (6, .iload_n 2, 1), (7, .iload_n 3, 1), (8, .invokevirtual 131, 3), (11, .invokevirtual 64, 3), (14, .ireturn, 1)]
theorem bd_X9_repair : ∀ q ∈ bi_X9_repair, decode cX9_repair q.1 = .ok q.2 := by decide +kernel
theorem bz_X9_repair : bq_X9_repair.all (ab_ck ab_hd ab_xs ab_tr bx_X9_repair be_X9_repair bi_X9_repair (some .int) 4 11) = true := by decide +kernel
theorem bm_X9_repair (l : Launch) : ex_Met l yX9_repair cX9_repair 4 (some .int) 2 47 (ab_sp ab_hd bc_X9_repair) := ab_met (by decide) (by decide) rfl (bj_X9_repair l) bd_X9_repair ab_hcm ab_xk bz_X9_repair
theorem bw_X9_shed : ec_cw yX9_shed cX9_shed 3 (some .int) := ⟨ec_in (i := 634) (by decide +kernel) rfl, ec_in (i := 58) (by decide +kernel) rfl, by decide, by decide⟩
theorem bv_X9_shed : Cond.instanceMethod yX9_shed ∈ ec_tb ∧ Cond.selects yX9_shed.cls yX9_shed yX9_shed ∈ ec_tb := ⟨ec_in (i := 632) (by decide +kernel) rfl, ec_in (i := 633) (by decide +kernel) rfl⟩
def be_X9_shed : Nat → Option (Nat × Option Nat × List ab_C) := fun ix => match ix with
  | 134 => some (3, some 6, bc_X6_shedding)
  | 64 => some (2, some 9, bc_X9_counted)
  | _ => none
theorem bk_X9_shed (l : Launch) : ∀ (ix n : Nat) (rc : Option Nat) (sp : ex_S), (be_X9_shed ix).map (fun q => (q.1, q.2.1, ab_sp ab_hd q.2.2)) = some (n, rc, sp) → ex_cok l RX9 4 92 ix n rc sp := by
  intro ix n rc sp h
  obtain ⟨l0, h2, rfl⟩ := ab_dmk h
  clear h
  unfold be_X9_shed at h2
  split at h2
  · cases h2; exact ec_cV (bm_X6_shedding l) bw_X6_shedding bv_X6_shedding (by decide) (by decide) (Or.inl (ec_in (i := 635) (by decide +kernel) rfl)) (T := TX6) (N := 15) rfl (by decide) (by decide +kernel)
  · cases h2; exact ec_cV (bm_X9_counted l) bw_X9_counted bv_X9_counted (by decide) (by decide) (Or.inl (ec_in (i := 424) (by decide +kernel) rfl)) (T := TX9) (N := 10) rfl (by decide) (by decide +kernel)
  · cases h2
def bx_X9_shed : ex_K := (RX9, ec_fx fl_X9, ec_cx cl_X9, sl_X9, (fun ix => (be_X9_shed ix).map (fun q => (q.1, q.2.1, ab_sp ab_hd q.2.2))), ec_nz, ec_no)
theorem bj_X9_shed (l : Launch) : ex_ok l 4 92 bx_X9_shed := ⟨ec_fok fo_X9, ec_cok co_X9, so_X9, bk_X9_shed l, fun _ h => (by cases h), fun _ h => (by cases h), fun _ h => (by cases h), fun _ _ h => (by cases h)⟩
def bq_X9_shed : List (ab_C × List ab_Q) := [(([.inl 0, .inr ((-2147483648), 2147483647), .inr ((-2147483648), 2147483647)], [], [(75, none)], [(some ((-2147483648), 2147483647, none), [], [])]), [])]
def bc_X9_shed : List ab_C := bq_X9_shed.map (fun c => c.1)
def bi_X9_shed : List (Nat × Instr × Nat) := [(0, .aload_n 0, 1), (1, .aload_n 0, 1), (2, .getfield 21, 3), (5, .getfield 111, 3), (8, .iload_n 1, 1), (9, .iload_n 2, 1), (10, .invokevirtual 134, 3), (13, .invokevirtual 64, 3), (16, .ireturn, 1)]
theorem bd_X9_shed : ∀ q ∈ bi_X9_shed, decode cX9_shed q.1 = .ok q.2 := by decide +kernel
theorem bz_X9_shed : bq_X9_shed.all (ab_ck ab_hd ab_xs ab_tr bx_X9_shed be_X9_shed bi_X9_shed (some .int) 3 11) = true := by decide +kernel
theorem bm_X9_shed (l : Launch) : ex_Met l yX9_shed cX9_shed 3 (some .int) 4 92 (ab_sp ab_hd bc_X9_shed) := ab_met (by decide) (by decide) rfl (bj_X9_shed l) bd_X9_shed ab_hcm ab_xk bz_X9_shed
theorem bw_X9_sun : ec_cw yX9_sun cX9_sun 3 (some .int) := ⟨ec_in (i := 664) (by decide +kernel) rfl, ec_in (i := 58) (by decide +kernel) rfl, by decide, by decide⟩
theorem bv_X9_sun : Cond.instanceMethod yX9_sun ∈ ec_tb ∧ Cond.selects yX9_sun.cls yX9_sun yX9_sun ∈ ec_tb := ⟨ec_in (i := 662) (by decide +kernel) rfl, ec_in (i := 663) (by decide +kernel) rfl⟩
def be_X9_sun : Nat → Option (Nat × Option Nat × List ab_C) := fun ix => match ix with
  | 137 => some (3, some 6, bc_X6_setSun)
  | 64 => some (2, some 9, bc_X9_counted)
  | _ => none
theorem bk_X9_sun (l : Launch) : ∀ (ix n : Nat) (rc : Option Nat) (sp : ex_S), (be_X9_sun ix).map (fun q => (q.1, q.2.1, ab_sp ab_hd q.2.2)) = some (n, rc, sp) → ex_cok l RX9 2 43 ix n rc sp := by
  intro ix n rc sp h
  obtain ⟨l0, h2, rfl⟩ := ab_dmk h
  clear h
  unfold be_X9_sun at h2
  split at h2
  · cases h2; exact ec_cV (bm_X6_setSun l) bw_X6_setSun bv_X6_setSun (by decide) (by decide) (Or.inl (ec_in (i := 665) (by decide +kernel) rfl)) (T := TX6) (N := 15) rfl (by decide) (by decide +kernel)
  · cases h2; exact ec_cV (bm_X9_counted l) bw_X9_counted bv_X9_counted (by decide) (by decide) (Or.inl (ec_in (i := 424) (by decide +kernel) rfl)) (T := TX9) (N := 10) rfl (by decide) (by decide +kernel)
  · cases h2
def bx_X9_sun : ex_K := (RX9, ec_fx fl_X9, ec_cx cl_X9, sl_X9, (fun ix => (be_X9_sun ix).map (fun q => (q.1, q.2.1, ab_sp ab_hd q.2.2))), ec_nz, ec_no)
theorem bj_X9_sun (l : Launch) : ex_ok l 2 43 bx_X9_sun := ⟨ec_fok fo_X9, ec_cok co_X9, so_X9, bk_X9_sun l, fun _ h => (by cases h), fun _ h => (by cases h), fun _ h => (by cases h), fun _ _ h => (by cases h)⟩
def bq_X9_sun : List (ab_C × List ab_Q) := [(([.inl 0, .inr ((-2147483648), 2147483647), .inr ((-2147483648), 2147483647)], [], [(21, some 12), (21, some 13), (21, some 14), (75, none)], [(some ((-2147483648), 2147483647, none), [], [])]), [])]
def bc_X9_sun : List ab_C := bq_X9_sun.map (fun c => c.1)
def bi_X9_sun : List (Nat × Instr × Nat) := [(0, .aload_n 0, 1), (1, .aload_n 0, 1), (2, .getfield 21, 3), (5, .getfield 111, 3), (8, .iload_n 1, 1), (9, .iload_n 2, 1), (10, .invokevirtual 137, 3), (13, .invokevirtual 64, 3), (16, .ireturn, 1)]
theorem bd_X9_sun : ∀ q ∈ bi_X9_sun, decode cX9_sun q.1 = .ok q.2 := by decide +kernel
theorem bz_X9_sun : bq_X9_sun.all (ab_ck ab_hd ab_xs ab_tr bx_X9_sun be_X9_sun bi_X9_sun (some .int) 3 11) = true := by decide +kernel
theorem bm_X9_sun (l : Launch) : ex_Met l yX9_sun cX9_sun 3 (some .int) 2 43 (ab_sp ab_hd bc_X9_sun) := ab_met (by decide) (by decide) rfl (bj_X9_sun l) bd_X9_sun ab_hcm ab_xk bz_X9_sun
theorem bw_X9_battery : ec_cw yX9_battery cX9_battery 2 (some .int) := ⟨ec_in (i := 675) (by decide +kernel) rfl, ec_in (i := 58) (by decide +kernel) rfl, by decide, by decide⟩
theorem bv_X9_battery : Cond.instanceMethod yX9_battery ∈ ec_tb ∧ Cond.selects yX9_battery.cls yX9_battery yX9_battery ∈ ec_tb := ⟨ec_in (i := 673) (by decide +kernel) rfl, ec_in (i := 674) (by decide +kernel) rfl⟩
def be_X9_battery : Nat → Option (Nat × Option Nat × List ab_C) := fun ix => match ix with
  | 140 => some (2, some 6, bc_X6_setBattery)
  | 64 => some (2, some 9, bc_X9_counted)
  | _ => none
theorem bk_X9_battery (l : Launch) : ∀ (ix n : Nat) (rc : Option Nat) (sp : ex_S), (be_X9_battery ix).map (fun q => (q.1, q.2.1, ab_sp ab_hd q.2.2)) = some (n, rc, sp) → ex_cok l RX9 1 22 ix n rc sp := by
  intro ix n rc sp h
  obtain ⟨l0, h2, rfl⟩ := ab_dmk h
  clear h
  unfold be_X9_battery at h2
  split at h2
  · cases h2; exact ec_cV (bm_X6_setBattery l) bw_X6_setBattery bv_X6_setBattery (by decide) (by decide) (Or.inl (ec_in (i := 676) (by decide +kernel) rfl)) (T := TX6) (N := 15) rfl (by decide) (by decide +kernel)
  · cases h2; exact ec_cV (bm_X9_counted l) bw_X9_counted bv_X9_counted (by decide) (by decide) (Or.inl (ec_in (i := 424) (by decide +kernel) rfl)) (T := TX9) (N := 10) rfl (by decide) (by decide +kernel)
  · cases h2
def bx_X9_battery : ex_K := (RX9, ec_fx fl_X9, ec_cx cl_X9, sl_X9, (fun ix => (be_X9_battery ix).map (fun q => (q.1, q.2.1, ab_sp ab_hd q.2.2))), ec_nz, ec_no)
theorem bj_X9_battery (l : Launch) : ex_ok l 1 22 bx_X9_battery := ⟨ec_fok fo_X9, ec_cok co_X9, so_X9, bk_X9_battery l, fun _ h => (by cases h), fun _ h => (by cases h), fun _ h => (by cases h), fun _ _ h => (by cases h)⟩
def bq_X9_battery : List (ab_C × List ab_Q) := [(([.inl 0, .inr ((-2147483648), 2147483647)], [], [(21, some 14), (75, none)], [(some ((-2147483648), 2147483647, none), [], [])]), [])]
def bc_X9_battery : List ab_C := bq_X9_battery.map (fun c => c.1)
def bi_X9_battery : List (Nat × Instr × Nat) := [(0, .aload_n 0, 1), (1, .aload_n 0, 1), (2, .getfield 21, 3), (5, .getfield 111, 3), (8, .iload_n 1, 1), (9, .invokevirtual 140, 3), (12, .invokevirtual 64, 3), (15, .ireturn, 1)]
theorem bd_X9_battery : ∀ q ∈ bi_X9_battery, decode cX9_battery q.1 = .ok q.2 := by decide +kernel
theorem bz_X9_battery : bq_X9_battery.all (ab_ck ab_hd ab_xs ab_tr bx_X9_battery be_X9_battery bi_X9_battery (some .int) 2 10) = true := by decide +kernel
theorem bm_X9_battery (l : Launch) : ex_Met l yX9_battery cX9_battery 2 (some .int) 1 22 (ab_sp ab_hd bc_X9_battery) := ab_met (by decide) (by decide) rfl (bj_X9_battery l) bd_X9_battery ab_hcm ab_xk bz_X9_battery
theorem bw_X9_bounds : ec_cw yX9_bounds cX9_bounds 4 (some .int) := ⟨ec_in (i := 683) (by decide +kernel) rfl, ec_in (i := 58) (by decide +kernel) rfl, by decide, by decide⟩
theorem bv_X9_bounds : Cond.instanceMethod yX9_bounds ∈ ec_tb ∧ Cond.selects yX9_bounds.cls yX9_bounds yX9_bounds ∈ ec_tb := ⟨ec_in (i := 681) (by decide +kernel) rfl, ec_in (i := 682) (by decide +kernel) rfl⟩
def be_X9_bounds : Nat → Option (Nat × Option Nat × List ab_C) := fun ix => match ix with
  | 147 => some (4, some 1, bc_X1_setAll)
  | 64 => some (2, some 9, bc_X9_counted)
  | _ => none
theorem bk_X9_bounds (l : Launch) : ∀ (ix n : Nat) (rc : Option Nat) (sp : ex_S), (be_X9_bounds ix).map (fun q => (q.1, q.2.1, ab_sp ab_hd q.2.2)) = some (n, rc, sp) → ex_cok l RX9 2 43 ix n rc sp := by
  intro ix n rc sp h
  obtain ⟨l0, h2, rfl⟩ := ab_dmk h
  clear h
  unfold be_X9_bounds at h2
  split at h2
  · cases h2; exact ec_cV (bm_X1_setAll l) bw_X1_setAll bv_X1_setAll (by decide) (by decide) (Or.inl (ec_in (i := 684) (by decide +kernel) rfl)) (T := TX1) (N := 6) rfl (by decide) (by decide +kernel)
  · cases h2; exact ec_cV (bm_X9_counted l) bw_X9_counted bv_X9_counted (by decide) (by decide) (Or.inl (ec_in (i := 424) (by decide +kernel) rfl)) (T := TX9) (N := 10) rfl (by decide) (by decide +kernel)
  · cases h2
def bx_X9_bounds : ex_K := (RX9, ec_fx fl_X9, ec_cx cl_X9, sl_X9, (fun ix => (be_X9_bounds ix).map (fun q => (q.1, q.2.1, ab_sp ab_hd q.2.2))), ec_nz, ec_no)
theorem bj_X9_bounds (l : Launch) : ex_ok l 2 43 bx_X9_bounds := ⟨ec_fok fo_X9, ec_cok co_X9, so_X9, bk_X9_bounds l, fun _ h => (by cases h), fun _ h => (by cases h), fun _ h => (by cases h), fun _ _ h => (by cases h)⟩
def bq_X9_bounds : List (ab_C × List ab_Q) := [(([.inl 0, .inr ((-2147483648), 2147483647), .inr ((-2147483648), 2147483647), .inr ((-2147483648), 2147483647)], [], [(33, some 0), (33, some 1), (33, some 2), (75, none)], [(some ((-2147483648), 2147483647, none), [], [])]), [])]
def bc_X9_bounds : List ab_C := bq_X9_bounds.map (fun c => c.1)
def bi_X9_bounds : List (Nat × Instr × Nat) := [(0, .aload_n 0, 1), (1, .aload_n 0, 1), (2, .getfield 21, 3), (5, .getfield 143, 3), (8, .iload_n 1, 1), (9, .iload_n 2, 1), (10, .iload_n 3, 1), (11, .invokevirtual 147, 3), (14, .invokevirtual 64, 3), (17, .ireturn, 1)]
theorem bd_X9_bounds : ∀ q ∈ bi_X9_bounds, decode cX9_bounds q.1 = .ok q.2 := by decide +kernel
theorem bz_X9_bounds : bq_X9_bounds.all (ab_ck ab_hd ab_xs ab_tr bx_X9_bounds be_X9_bounds bi_X9_bounds (some .int) 4 12) = true := by decide +kernel
theorem bm_X9_bounds (l : Launch) : ex_Met l yX9_bounds cX9_bounds 4 (some .int) 2 43 (ab_sp ab_hd bc_X9_bounds) := ab_met (by decide) (by decide) rfl (bj_X9_bounds l) bd_X9_bounds ab_hcm ab_xk bz_X9_bounds
theorem bw_X9_ticks : ec_cw yX9_ticks cX9_ticks 3 (some .int) := ⟨ec_in (i := 696) (by decide +kernel) rfl, ec_in (i := 58) (by decide +kernel) rfl, by decide, by decide⟩
theorem bv_X9_ticks : Cond.instanceMethod yX9_ticks ∈ ec_tb ∧ Cond.selects yX9_ticks.cls yX9_ticks yX9_ticks ∈ ec_tb := ⟨ec_in (i := 694) (by decide +kernel) rfl, ec_in (i := 695) (by decide +kernel) rfl⟩
def be_X9_ticks : Nat → Option (Nat × Option Nat × List ab_C) := fun ix => match ix with
  | 64 => some (2, some 9, bc_X9_counted)
  | 156 => some (1, some 8, bc_X8_passTick)
  | _ => none
theorem bk_X9_ticks (l : Launch) : ∀ (ix n : Nat) (rc : Option Nat) (sp : ex_S), (be_X9_ticks ix).map (fun q => (q.1, q.2.1, ab_sp ab_hd q.2.2)) = some (n, rc, sp) → ex_cok l RX9 6 134 ix n rc sp := by
  intro ix n rc sp h
  obtain ⟨l0, h2, rfl⟩ := ab_dmk h
  clear h
  unfold be_X9_ticks at h2
  split at h2
  · cases h2; exact ec_cV (bm_X9_counted l) bw_X9_counted bv_X9_counted (by decide) (by decide) (Or.inl (ec_in (i := 424) (by decide +kernel) rfl)) (T := TX9) (N := 10) rfl (by decide) (by decide +kernel)
  · cases h2; exact ec_cV (bm_X8_passTick l) bw_X8_passTick bv_X8_passTick (by decide) (by decide) (Or.inl (ec_in (i := 698) (by decide +kernel) rfl)) (T := TX8) (N := 7) rfl (by decide) (by decide +kernel)
  · cases h2
def bx_X9_ticks : ex_K := (RX9, ec_fx fl_X9, ec_cx cl_X9, sl_X9, (fun ix => (be_X9_ticks ix).map (fun q => (q.1, q.2.1, ab_sp ab_hd q.2.2))), ec_nz, ec_no)
theorem bj_X9_ticks (l : Launch) : ex_ok l 6 134 bx_X9_ticks := ⟨ec_fok fo_X9, ec_cok co_X9, so_X9, bk_X9_ticks l, fun _ h => (by cases h), fun _ h => (by cases h), fun _ h => (by cases h), fun _ _ h => (by cases h)⟩
def bq_X9_ticks : List (ab_C × List ab_Q) := [(([.inl 0, .inr ((-2147483648), 2147483647)], [], [(6, some 6), (8, none), (12, none), (13, none), (15, none), (16, none), (17, none), (18, none), (19, none), (20, none), (21, some 14), (28, none), (29, none), (30, none), (31, none), (32, none), (33, some 3), (33, some 4), (33, some 5), (34, some 0), (34, some 1), (34, some 2), (34, some 3), (34, some 4), (34, some 5), (34, some 6), (75, some 1), (75, some 4)], [(some ((-2147483648), 2147483647, none), [], [])]), [(42, [some (.inl 0), some (.inr (.inl (1, 100, none, none))), some (.inr (.inl (0, 100, none, none)))], [((1, 0, 7), 0, 24, some (1007, 0)), ((1, 76, 52), 0, 24, some (77052, 0))], 201, [0, 0, (-2)])])]
def bc_X9_ticks : List ab_C := bq_X9_ticks.map (fun c => c.1)
def bi_X9_ticks : List (Nat × Instr × Nat) := [(0, .iload_n 1, 1), (1, .iconst 1, 1), (2, .if_icmp .lt 9, 3), (5, .iload_n 1, 1), (6, .bipush 100, 2), (8, .if_icmp .le 10, 3), (11, .aload_n 0, 1), (12, .ldc 92, 2), (14, .invokevirtual 64, 3), (17, .ireturn, 1), (18, .aload_n 0, 1), (19, .getfield 21, 3), (22, .getfield 152, 3), (25, .iload_n 1, 1), (26, .iadd, 1), (27, .sipush 3000, 3), (30, .if_icmp .le 10, 3), (33, .aload_n 0, 1), (34, .ldc 155, 2), (36, .invokevirtual 64, 3), (39, .ireturn, 1), (40, .iconst 0, 1), (41, .istore_n 2, 1), (42, .iload_n 2, 1), (43, .iload_n 1, 1), (44, .if_icmp .ge 17, 3), (47, .aload_n 0, 1), (48, .getfield 21, 3), (51, .invokevirtual 156, 3), (54, .pop, 1), (55, .iinc 2 1, 3), (58, .goto (-16), 3), (61, .aload_n 0, 1), (62, .getfield 21, 3), (65, .getfield 152, 3), (68, .ireturn, 1)]
theorem bd_X9_ticks : ∀ q ∈ bi_X9_ticks, decode cX9_ticks q.1 = .ok q.2 := by decide +kernel
theorem bz_X9_ticks : bq_X9_ticks.all (ab_ck ab_hd ab_xs ab_tr bx_X9_ticks be_X9_ticks bi_X9_ticks (some .int) 3 19) = true := by decide +kernel
theorem bm_X9_ticks (l : Launch) : ex_Met l yX9_ticks cX9_ticks 3 (some .int) 6 134 (ab_sp ab_hd bc_X9_ticks) := ab_met (by decide) (by decide) rfl (bj_X9_ticks l) bd_X9_ticks ab_hcm ab_xk bz_X9_ticks
theorem bw_X9_broke : ec_cw yX9_broke cX9_broke 2 (some .int) := ⟨ec_in (i := 854) (by decide +kernel) rfl, ec_in (i := 58) (by decide +kernel) rfl, by decide, by decide⟩
theorem bv_X9_broke : Cond.instanceMethod yX9_broke ∈ ec_tb ∧ Cond.selects yX9_broke.cls yX9_broke yX9_broke ∈ ec_tb := ⟨ec_in (i := 852) (by decide +kernel) rfl, ec_in (i := 853) (by decide +kernel) rfl⟩
def be_X9_broke : Nat → Option (Nat × Option Nat × List ab_C) := fun ix => match ix with
  | 160 => some (2, some 1, bc_X1_tellFirstBreak)
  | 64 => some (2, some 9, bc_X9_counted)
  | _ => none
theorem bk_X9_broke (l : Launch) : ∀ (ix n : Nat) (rc : Option Nat) (sp : ex_S), (be_X9_broke ix).map (fun q => (q.1, q.2.1, ab_sp ab_hd q.2.2)) = some (n, rc, sp) → ex_cok l RX9 1 21 ix n rc sp := by
  intro ix n rc sp h
  obtain ⟨l0, h2, rfl⟩ := ab_dmk h
  clear h
  unfold be_X9_broke at h2
  split at h2
  · cases h2; exact ec_cV (bm_X1_tellFirstBreak l) bw_X1_tellFirstBreak bv_X1_tellFirstBreak (by decide) (by decide) (Or.inl (ec_in (i := 855) (by decide +kernel) rfl)) (T := TX1) (N := 6) rfl (by decide) (by decide +kernel)
  · cases h2; exact ec_cV (bm_X9_counted l) bw_X9_counted bv_X9_counted (by decide) (by decide) (Or.inl (ec_in (i := 424) (by decide +kernel) rfl)) (T := TX9) (N := 10) rfl (by decide) (by decide +kernel)
  · cases h2
def bx_X9_broke : ex_K := (RX9, ec_fx fl_X9, ec_cx cl_X9, sl_X9, (fun ix => (be_X9_broke ix).map (fun q => (q.1, q.2.1, ab_sp ab_hd q.2.2))), ec_nz, ec_no)
theorem bj_X9_broke (l : Launch) : ex_ok l 1 21 bx_X9_broke := ⟨ec_fok fo_X9, ec_cok co_X9, so_X9, bk_X9_broke l, fun _ h => (by cases h), fun _ h => (by cases h), fun _ h => (by cases h), fun _ _ h => (by cases h)⟩
def bq_X9_broke : List (ab_C × List ab_Q) := [(([.inl 0, .inr ((-2147483648), 2147483647)], [], [(75, none)], [(some ((-2147483648), 2147483647, none), [], [])]), [])]
def bc_X9_broke : List ab_C := bq_X9_broke.map (fun c => c.1)
def bi_X9_broke : List (Nat × Instr × Nat) := [(0, .aload_n 0, 1), (1, .aload_n 0, 1), (2, .getfield 21, 3), (5, .getfield 143, 3), (8, .iload_n 1, 1), (9, .invokevirtual 160, 3), (12, .invokevirtual 64, 3), (15, .ireturn, 1)]
theorem bd_X9_broke : ∀ q ∈ bi_X9_broke, decode cX9_broke q.1 = .ok q.2 := by decide +kernel
theorem bz_X9_broke : bq_X9_broke.all (ab_ck ab_hd ab_xs ab_tr bx_X9_broke be_X9_broke bi_X9_broke (some .int) 2 10) = true := by decide +kernel
theorem bm_X9_broke (l : Launch) : ex_Met l yX9_broke cX9_broke 2 (some .int) 1 21 (ab_sp ab_hd bc_X9_broke) := ab_met (by decide) (by decide) rfl (bj_X9_broke l) bd_X9_broke ab_hcm ab_xk bz_X9_broke
theorem bw_X9_ahead : ec_cw yX9_ahead cX9_ahead 3 (some .int) := ⟨ec_in (i := 863) (by decide +kernel) rfl, ec_in (i := 58) (by decide +kernel) rfl, by decide, by decide⟩
theorem bv_X9_ahead : Cond.instanceMethod yX9_ahead ∈ ec_tb ∧ Cond.selects yX9_ahead.cls yX9_ahead yX9_ahead ∈ ec_tb := ⟨ec_in (i := 861) (by decide +kernel) rfl, ec_in (i := 862) (by decide +kernel) rfl⟩
def be_X9_ahead : Nat → Option (Nat × Option Nat × List ab_C) := fun ix => match ix with
  | 64 => some (2, some 9, bc_X9_counted)
  | 163 => some (2, some 8, bc_X8_becomeLike)
  | 156 => some (1, some 8, bc_X8_passTick)
  | _ => none
theorem bk_X9_ahead (l : Launch) : ∀ (ix n : Nat) (rc : Option Nat) (sp : ex_S), (be_X9_ahead ix).map (fun q => (q.1, q.2.1, ab_sp ab_hd q.2.2)) = some (n, rc, sp) → ex_cok l RX9 6 134 ix n rc sp := by
  intro ix n rc sp h
  obtain ⟨l0, h2, rfl⟩ := ab_dmk h
  clear h
  unfold be_X9_ahead at h2
  split at h2
  · cases h2; exact ec_cV (bm_X9_counted l) bw_X9_counted bv_X9_counted (by decide) (by decide) (Or.inl (ec_in (i := 424) (by decide +kernel) rfl)) (T := TX9) (N := 10) rfl (by decide) (by decide +kernel)
  · cases h2; exact ec_cV (bm_X8_becomeLike l) bw_X8_becomeLike bv_X8_becomeLike (by decide) (by decide) (Or.inl (ec_in (i := 864) (by decide +kernel) rfl)) (T := TX8) (N := 7) rfl (by decide) (by decide +kernel)
  · cases h2; exact ec_cV (bm_X8_passTick l) bw_X8_passTick bv_X8_passTick (by decide) (by decide) (Or.inl (ec_in (i := 698) (by decide +kernel) rfl)) (T := TX8) (N := 7) rfl (by decide) (by decide +kernel)
  · cases h2
def bx_X9_ahead : ex_K := (RX9, ec_fx fl_X9, ec_cx cl_X9, sl_X9, (fun ix => (be_X9_ahead ix).map (fun q => (q.1, q.2.1, ab_sp ab_hd q.2.2))), ec_nz, ec_no)
theorem bj_X9_ahead (l : Launch) : ex_ok l 6 134 bx_X9_ahead := ⟨ec_fok fo_X9, ec_cok co_X9, so_X9, bk_X9_ahead l, fun _ h => (by cases h), fun _ h => (by cases h), fun _ h => (by cases h), fun _ _ h => (by cases h)⟩
def bq_X9_ahead : List (ab_C × List ab_Q) := [(([.inl 0, .inr ((-2147483648), 2147483647)], [], [(35, some 6), (36, some 6), (36, some 7), (37, none), (38, none), (39, none), (40, none), (41, none), (42, none), (43, some 6), (44, none), (45, none), (46, none), (47, none), (48, none), (49, none), (50, some 11), (50, some 12), (50, some 13), (50, some 14), (51, none), (52, none), (53, none), (54, none), (55, none), (56, none), (57, none), (58, none), (59, none), (60, none), (61, none), (62, some 0), (62, some 1), (62, some 2), (62, some 3), (62, some 4), (62, some 5), (63, some 0), (63, some 1), (63, some 2), (63, some 3), (63, some 4), (63, some 5), (63, some 6), (75, some 1)], [(some ((-2147483648), 2147483647, none), [], [])]), [(32, [some (.inl 0), some (.inr (.inl (1, 200, none, none))), some (.inr (.inl (1, 201, none, none)))], [((1, 0, 7), 0, 24, some (1007, 0)), ((1, 76, 52), 0, 24, some (77052, 0))], 403, [0, 0, (-2)])])]
def bc_X9_ahead : List ab_C := bq_X9_ahead.map (fun c => c.1)
def bi_X9_ahead : List (Nat × Instr × Nat) := [(0, .iload_n 1, 1), (1, .iconst 1, 1), (2, .if_icmp .lt 10, 3), (5, .iload_n 1, 1), (6, .sipush 200, 3), (9, .if_icmp .le 10, 3), (12, .aload_n 0, 1), (13, .ldc 92, 2), (15, .invokevirtual 64, 3), (18, .ireturn, 1), (19, .aload_n 0, 1), (20, .getfield 25, 3), (23, .aload_n 0, 1), (24, .getfield 21, 3), (27, .invokevirtual 163, 3), (30, .iconst 1, 1), (31, .istore_n 2, 1), (32, .iload_n 2, 1), (33, .iload_n 1, 1), (34, .if_icmp .gt 21, 3), (37, .aload_n 0, 1), (38, .getfield 25, 3), (41, .invokevirtual 156, 3), (44, .ifCond .eq 5, 3), (47, .iload_n 2, 1), (48, .ireturn, 1), (49, .iinc 2 1, 3), (52, .goto (-20), 3), (55, .iconst 0, 1), (56, .ireturn, 1)]
theorem bd_X9_ahead : ∀ q ∈ bi_X9_ahead, decode cX9_ahead q.1 = .ok q.2 := by decide +kernel
theorem bz_X9_ahead : bq_X9_ahead.all (ab_ck ab_hd ab_xs ab_tr bx_X9_ahead be_X9_ahead bi_X9_ahead (some .int) 3 15) = true := by decide +kernel
theorem bm_X9_ahead (l : Launch) : ex_Met l yX9_ahead cX9_ahead 3 (some .int) 6 134 (ab_sp ab_hd bc_X9_ahead) := ab_met (by decide) (by decide) rfl (bj_X9_ahead l) bd_X9_ahead ab_hcm ab_xk bz_X9_ahead
