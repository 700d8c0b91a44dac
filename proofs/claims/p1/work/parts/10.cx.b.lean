theorem cw_X10_finding : ec_cw yX10_finding cX10_finding 2 (some .int) := ⟨ec_in (i := 1285) (by decide +kernel) rfl, ec_in (i := 68) (by decide +kernel) rfl, by decide, by decide⟩
theorem cv_X10_finding : Cond.instanceMethod yX10_finding ∈ ec_tb ∧ Cond.selects yX10_finding.cls yX10_finding yX10_finding ∈ ec_tb := ⟨ec_in (i := 1284) (by decide +kernel) rfl, ec_in (i := 26) (by decide +kernel) rfl⟩
def cx_X10_finding : ex_K := (RX10, ec_fx fl_X10, ec_cx cl_X10, sl_X10, ec_no, ec_nz, ec_no)
theorem ok_X10_finding (l : Launch) : ex_ok l 0 0 cx_X10_finding := ⟨ec_fok fo_X10, ec_cok co_X10, so_X10, fun _ _ _ _ h => (by cases h), fun _ h => (by cases h), fun _ h => (by cases h), fun _ h => (by cases h), fun _ _ h => (by cases h)⟩
def sp_X10_finding : ex_S := ex_sp cx_X10_finding cX10_finding 2 (some .int) 13
theorem mt_X10_finding (l : Launch) : ex_Met l yX10_finding cX10_finding 2 (some .int) 0 0 sp_X10_finding := ex_inl (by decide) rfl (ok_X10_finding l)
theorem cw_X10_isIn : ec_cw yX10_isIn cX10_isIn 3 (some .boolean) := ⟨ec_in (i := 1305) (by decide +kernel) rfl, ec_in (i := 68) (by decide +kernel) rfl, by decide, by decide⟩
theorem cv_X10_isIn : Cond.static yX10_isIn ∈ ec_tb := ec_in (i := 1304) (by decide +kernel) rfl
def cx_X10_isIn : ex_K := (RX10, ec_fx fl_X10, ec_cx cl_X10, sl_X10, ec_no, ec_nz, ec_no)
theorem ok_X10_isIn (l : Launch) : ex_ok l 0 0 cx_X10_isIn := ⟨ec_fok fo_X10, ec_cok co_X10, so_X10, fun _ _ _ _ h => (by cases h), fun _ h => (by cases h), fun _ h => (by cases h), fun _ h => (by cases h), fun _ _ h => (by cases h)⟩
def sp_X10_isIn : ex_S := ex_sp cx_X10_isIn cX10_isIn 3 (some .boolean) 11
theorem mt_X10_isIn (l : Launch) : ex_Met l yX10_isIn cX10_isIn 3 (some .boolean) 0 0 sp_X10_isIn := ex_inl (by decide) rfl (ok_X10_isIn l)
theorem cw_X10_isModule : ec_cw yX10_isModule cX10_isModule 2 (some .boolean) := ⟨ec_in (i := 1294) (by decide +kernel) rfl, ec_in (i := 68) (by decide +kernel) rfl, by decide, by decide⟩
theorem cv_X10_isModule : Cond.instanceMethod yX10_isModule ∈ ec_tb ∧ Cond.selects yX10_isModule.cls yX10_isModule yX10_isModule ∈ ec_tb := ⟨ec_in (i := 1293) (by decide +kernel) rfl, ec_in (i := 27) (by decide +kernel) rfl⟩
def cx_X10_isModule : ex_K := (RX10, ec_fx fl_X10, ec_cx cl_X10, sl_X10, ec_no, ec_nz, ec_no)
theorem ok_X10_isModule (l : Launch) : ex_ok l 0 0 cx_X10_isModule := ⟨ec_fok fo_X10, ec_cok co_X10, so_X10, fun _ _ _ _ h => (by cases h), fun _ h => (by cases h), fun _ h => (by cases h), fun _ h => (by cases h), fun _ _ h => (by cases h)⟩
def sp_X10_isModule : ex_S := ex_sp cx_X10_isModule cX10_isModule 2 (some .boolean) 11
theorem mt_X10_isModule (l : Launch) : ex_Met l yX10_isModule cX10_isModule 2 (some .boolean) 0 0 sp_X10_isModule := ex_inl (by decide) rfl (ok_X10_isModule l)
theorem cw_X10_isHatch : ec_cw yX10_isHatch cX10_isHatch 2 (some .boolean) := ⟨ec_in (i := 1302) (by decide +kernel) rfl, ec_in (i := 68) (by decide +kernel) rfl, by decide, by decide⟩
theorem cv_X10_isHatch : Cond.instanceMethod yX10_isHatch ∈ ec_tb ∧ Cond.selects yX10_isHatch.cls yX10_isHatch yX10_isHatch ∈ ec_tb := ⟨ec_in (i := 1301) (by decide +kernel) rfl, ec_in (i := 28) (by decide +kernel) rfl⟩
def cx_X10_isHatch : ex_K := (RX10, ec_fx fl_X10, ec_cx cl_X10, sl_X10, ec_no, ec_nz, ec_no)
theorem ok_X10_isHatch (l : Launch) : ex_ok l 0 0 cx_X10_isHatch := ⟨ec_fok fo_X10, ec_cok co_X10, so_X10, fun _ _ _ _ h => (by cases h), fun _ h => (by cases h), fun _ h => (by cases h), fun _ h => (by cases h), fun _ _ h => (by cases h)⟩
def sp_X10_isHatch : ex_S := ex_sp cx_X10_isHatch cX10_isHatch 2 (some .boolean) 11
theorem mt_X10_isHatch (l : Launch) : ex_Met l yX10_isHatch cX10_isHatch 2 (some .boolean) 0 0 sp_X10_isHatch := ex_inl (by decide) rfl (ok_X10_isHatch l)
theorem cw_X10_isPerson : ec_cw yX10_isPerson cX10_isPerson 2 (some .boolean) := ⟨ec_in (i := 1335) (by decide +kernel) rfl, ec_in (i := 68) (by decide +kernel) rfl, by decide, by decide⟩
theorem cv_X10_isPerson : Cond.instanceMethod yX10_isPerson ∈ ec_tb ∧ Cond.selects yX10_isPerson.cls yX10_isPerson yX10_isPerson ∈ ec_tb := ⟨ec_in (i := 1334) (by decide +kernel) rfl, ec_in (i := 29) (by decide +kernel) rfl⟩
def cx_X10_isPerson : ex_K := (RX10, ec_fx fl_X10, ec_cx cl_X10, sl_X10, ec_no, ec_nz, ec_no)
theorem ok_X10_isPerson (l : Launch) : ex_ok l 0 0 cx_X10_isPerson := ⟨ec_fok fo_X10, ec_cok co_X10, so_X10, fun _ _ _ _ h => (by cases h), fun _ h => (by cases h), fun _ h => (by cases h), fun _ h => (by cases h), fun _ _ h => (by cases h)⟩
def sp_X10_isPerson : ex_S := ex_sp cx_X10_isPerson cX10_isPerson 2 (some .boolean) 11
theorem mt_X10_isPerson (l : Launch) : ex_Met l yX10_isPerson cX10_isPerson 2 (some .boolean) 0 0 sp_X10_isPerson := ex_inl (by decide) rfl (ok_X10_isPerson l)
theorem cw_X10_isMachine : ec_cw yX10_isMachine cX10_isMachine 2 (some .boolean) := ⟨ec_in (i := 1359) (by decide +kernel) rfl, ec_in (i := 68) (by decide +kernel) rfl, by decide, by decide⟩
theorem cv_X10_isMachine : Cond.instanceMethod yX10_isMachine ∈ ec_tb ∧ Cond.selects yX10_isMachine.cls yX10_isMachine yX10_isMachine ∈ ec_tb := ⟨ec_in (i := 1358) (by decide +kernel) rfl, ec_in (i := 31) (by decide +kernel) rfl⟩
def cx_X10_isMachine : ex_K := (RX10, ec_fx fl_X10, ec_cx cl_X10, sl_X10, ec_no, ec_nz, ec_no)
theorem ok_X10_isMachine (l : Launch) : ex_ok l 0 0 cx_X10_isMachine := ⟨ec_fok fo_X10, ec_cok co_X10, so_X10, fun _ _ _ _ h => (by cases h), fun _ h => (by cases h), fun _ h => (by cases h), fun _ h => (by cases h), fun _ _ h => (by cases h)⟩
def sp_X10_isMachine : ex_S := ex_sp cx_X10_isMachine cX10_isMachine 2 (some .boolean) 11
theorem mt_X10_isMachine (l : Launch) : ex_Met l yX10_isMachine cX10_isMachine 2 (some .boolean) 0 0 sp_X10_isMachine := ex_inl (by decide) rfl (ok_X10_isMachine l)
theorem cw_X10_module : ec_cw yX10_module cX10_module 1 (some .int) := ⟨ec_in (i := 1281) (by decide +kernel) rfl, ec_in (i := 68) (by decide +kernel) rfl, by decide, by decide⟩
theorem cv_X10_module : Cond.instanceMethod yX10_module ∈ ec_tb ∧ Cond.selects yX10_module.cls yX10_module yX10_module ∈ ec_tb := ⟨ec_in (i := 1279) (by decide +kernel) rfl, ec_in (i := 1280) (by decide +kernel) rfl⟩
def ca_X10_module : Nat → Option (Nat × Option Nat × ex_S) := fun ix => match ix with
  | 160 => some (2, some 10, sp_X10_finding)
  | _ => none
theorem ck_X10_module (l : Launch) : ∀ (ix n : Nat) (rc : Option Nat) (sp : ex_S), ca_X10_module ix = some (n, rc, sp) → ex_cok l RX10 1 21 ix n rc sp := by
  intro ix n rc sp h
  unfold ca_X10_module at h
  split at h
  · cases h; exact ec_cV (mt_X10_finding l) cw_X10_finding cv_X10_finding (by decide) (by decide) (Or.inl (ec_in (i := 1282) (by decide +kernel) rfl)) (T := TX10) (N := 57) rfl (by decide) (by decide +kernel)
  · cases h
def cx_X10_module : ex_K := (RX10, ec_fx fl_X10, ec_cx cl_X10, sl_X10, ca_X10_module, ec_nz, ec_no)
theorem ok_X10_module (l : Launch) : ex_ok l 1 21 cx_X10_module := ⟨ec_fok fo_X10, ec_cok co_X10, so_X10, ck_X10_module l, fun _ h => (by cases h), fun _ h => (by cases h), fun _ h => (by cases h), fun _ _ h => (by cases h)⟩
def sp_X10_module : ex_S := ex_sp cx_X10_module cX10_module 1 (some .int) 20
theorem mt_X10_module (l : Launch) : ex_Met l yX10_module cX10_module 1 (some .int) 1 21 sp_X10_module := ex_inl (by decide) rfl (ok_X10_module l)
theorem cw_X10_hatch : ec_cw yX10_hatch cX10_hatch 3 (some .int) := ⟨ec_in (i := 1290) (by decide +kernel) rfl, ec_in (i := 68) (by decide +kernel) rfl, by decide, by decide⟩
theorem cv_X10_hatch : Cond.instanceMethod yX10_hatch ∈ ec_tb ∧ Cond.selects yX10_hatch.cls yX10_hatch yX10_hatch ∈ ec_tb := ⟨ec_in (i := 1288) (by decide +kernel) rfl, ec_in (i := 1289) (by decide +kernel) rfl⟩
def ca_X10_hatch : Nat → Option (Nat × Option Nat × ex_S) := fun ix => match ix with
  | 164 => some (2, some 10, sp_X10_isModule)
  | 160 => some (2, some 10, sp_X10_finding)
  | _ => none
theorem ck_X10_hatch (l : Launch) : ∀ (ix n : Nat) (rc : Option Nat) (sp : ex_S), ca_X10_hatch ix = some (n, rc, sp) → ex_cok l RX10 1 21 ix n rc sp := by
  intro ix n rc sp h
  unfold ca_X10_hatch at h
  split at h
  · cases h; exact ec_cV (mt_X10_isModule l) cw_X10_isModule cv_X10_isModule (by decide) (by decide) (Or.inl (ec_in (i := 1291) (by decide +kernel) rfl)) (T := TX10) (N := 57) rfl (by decide) (by decide +kernel)
  · cases h; exact ec_cV (mt_X10_finding l) cw_X10_finding cv_X10_finding (by decide) (by decide) (Or.inl (ec_in (i := 1282) (by decide +kernel) rfl)) (T := TX10) (N := 57) rfl (by decide) (by decide +kernel)
  · cases h
def cx_X10_hatch : ex_K := (RX10, ec_fx fl_X10, ec_cx cl_X10, sl_X10, ca_X10_hatch, ec_nz, ec_no)
theorem ok_X10_hatch (l : Launch) : ex_ok l 1 21 cx_X10_hatch := ⟨ec_fok fo_X10, ec_cok co_X10, so_X10, ck_X10_hatch l, fun _ h => (by cases h), fun _ h => (by cases h), fun _ h => (by cases h), fun _ _ h => (by cases h)⟩
def sp_X10_hatch : ex_S := ex_sp cx_X10_hatch cX10_hatch 3 (some .int) 53
theorem mt_X10_hatch (l : Launch) : ex_Met l yX10_hatch cX10_hatch 3 (some .int) 1 21 sp_X10_hatch := ex_inl (by decide) rfl (ok_X10_hatch l)
theorem cw_X10_shut : ec_cw yX10_shut cX10_shut 4 (some .int) := ⟨ec_in (i := 1298) (by decide +kernel) rfl, ec_in (i := 68) (by decide +kernel) rfl, by decide, by decide⟩
theorem cv_X10_shut : Cond.instanceMethod yX10_shut ∈ ec_tb ∧ Cond.selects yX10_shut.cls yX10_shut yX10_shut ∈ ec_tb := ⟨ec_in (i := 1296) (by decide +kernel) rfl, ec_in (i := 1297) (by decide +kernel) rfl⟩
def ca_X10_shut : Nat → Option (Nat × Option Nat × ex_S) := fun ix => match ix with
  | 168 => some (2, some 10, sp_X10_isHatch)
  | 171 => some (3, none, sp_X10_isIn)
  | 160 => some (2, some 10, sp_X10_finding)
  | _ => none
theorem ck_X10_shut (l : Launch) : ∀ (ix n : Nat) (rc : Option Nat) (sp : ex_S), ca_X10_shut ix = some (n, rc, sp) → ex_cok l RX10 1 22 ix n rc sp := by
  intro ix n rc sp h
  unfold ca_X10_shut at h
  split at h
  · cases h; exact ec_cV (mt_X10_isHatch l) cw_X10_isHatch cv_X10_isHatch (by decide) (by decide) (Or.inl (ec_in (i := 1299) (by decide +kernel) rfl)) (T := TX10) (N := 57) rfl (by decide) (by decide +kernel)
  · cases h; exact ec_cS (mt_X10_isIn l) cw_X10_isIn cv_X10_isIn (by decide) (by decide) (Or.inl (ec_in (i := 1303) (by decide +kernel) rfl)) (by decide +kernel)
  · cases h; exact ec_cV (mt_X10_finding l) cw_X10_finding cv_X10_finding (by decide) (by decide) (Or.inl (ec_in (i := 1282) (by decide +kernel) rfl)) (T := TX10) (N := 57) rfl (by decide) (by decide +kernel)
  · cases h
def cx_X10_shut : ex_K := (RX10, ec_fx fl_X10, ec_cx cl_X10, sl_X10, ca_X10_shut, ec_nz, ec_no)
theorem ok_X10_shut (l : Launch) : ex_ok l 1 22 cx_X10_shut := ⟨ec_fok fo_X10, ec_cok co_X10, so_X10, ck_X10_shut l, fun _ h => (by cases h), fun _ h => (by cases h), fun _ h => (by cases h), fun _ _ h => (by cases h)⟩
def sp_X10_shut : ex_S := ex_sp cx_X10_shut cX10_shut 4 (some .int) 26
theorem mt_X10_shut (l : Launch) : ex_Met l yX10_shut cX10_shut 4 (some .int) 1 22 sp_X10_shut := ex_inl (by decide) rfl (ok_X10_shut l)
theorem cw_X10_gas : ec_cw yX10_gas cX10_gas 5 (some .int) := ⟨ec_in (i := 1309) (by decide +kernel) rfl, ec_in (i := 68) (by decide +kernel) rfl, by decide, by decide⟩
theorem cv_X10_gas : Cond.instanceMethod yX10_gas ∈ ec_tb ∧ Cond.selects yX10_gas.cls yX10_gas yX10_gas ∈ ec_tb := ⟨ec_in (i := 1307) (by decide +kernel) rfl, ec_in (i := 1308) (by decide +kernel) rfl⟩
def ca_X10_gas : Nat → Option (Nat × Option Nat × ex_S) := fun ix => match ix with
  | 164 => some (2, some 10, sp_X10_isModule)
  | 171 => some (3, none, sp_X10_isIn)
  | 160 => some (2, some 10, sp_X10_finding)
  | _ => none
theorem ck_X10_gas (l : Launch) : ∀ (ix n : Nat) (rc : Option Nat) (sp : ex_S), ca_X10_gas ix = some (n, rc, sp) → ex_cok l RX10 1 22 ix n rc sp := by
  intro ix n rc sp h
  unfold ca_X10_gas at h
  split at h
  · cases h; exact ec_cV (mt_X10_isModule l) cw_X10_isModule cv_X10_isModule (by decide) (by decide) (Or.inl (ec_in (i := 1291) (by decide +kernel) rfl)) (T := TX10) (N := 57) rfl (by decide) (by decide +kernel)
  · cases h; exact ec_cS (mt_X10_isIn l) cw_X10_isIn cv_X10_isIn (by decide) (by decide) (Or.inl (ec_in (i := 1303) (by decide +kernel) rfl)) (by decide +kernel)
  · cases h; exact ec_cV (mt_X10_finding l) cw_X10_finding cv_X10_finding (by decide) (by decide) (Or.inl (ec_in (i := 1282) (by decide +kernel) rfl)) (T := TX10) (N := 57) rfl (by decide) (by decide +kernel)
  · cases h
def cx_X10_gas : ex_K := (RX10, ec_fx fl_X10, ec_cx cl_X10, sl_X10, ca_X10_gas, ec_nz, ec_no)
theorem ok_X10_gas (l : Launch) : ex_ok l 1 22 cx_X10_gas := ⟨ec_fok fo_X10, ec_cok co_X10, so_X10, ck_X10_gas l, fun _ h => (by cases h), fun _ h => (by cases h), fun _ h => (by cases h), fun _ _ h => (by cases h)⟩
def sp_X10_gas : ex_S := ex_sp cx_X10_gas cX10_gas 5 (some .int) 62
theorem mt_X10_gas (l : Launch) : ex_Met l yX10_gas cX10_gas 5 (some .int) 1 22 sp_X10_gas := ex_inl (by decide) rfl (ok_X10_gas l)
theorem cw_X10_leak : ec_cw yX10_leak cX10_leak 4 (some .int) := ⟨ec_in (i := 1314) (by decide +kernel) rfl, ec_in (i := 68) (by decide +kernel) rfl, by decide, by decide⟩
theorem cv_X10_leak : Cond.instanceMethod yX10_leak ∈ ec_tb ∧ Cond.selects yX10_leak.cls yX10_leak yX10_leak ∈ ec_tb := ⟨ec_in (i := 1312) (by decide +kernel) rfl, ec_in (i := 1313) (by decide +kernel) rfl⟩
def ca_X10_leak : Nat → Option (Nat × Option Nat × ex_S) := fun ix => match ix with
  | 164 => some (2, some 10, sp_X10_isModule)
  | 171 => some (3, none, sp_X10_isIn)
  | 160 => some (2, some 10, sp_X10_finding)
  | _ => none
theorem ck_X10_leak (l : Launch) : ∀ (ix n : Nat) (rc : Option Nat) (sp : ex_S), ca_X10_leak ix = some (n, rc, sp) → ex_cok l RX10 1 22 ix n rc sp := by
  intro ix n rc sp h
  unfold ca_X10_leak at h
  split at h
  · cases h; exact ec_cV (mt_X10_isModule l) cw_X10_isModule cv_X10_isModule (by decide) (by decide) (Or.inl (ec_in (i := 1291) (by decide +kernel) rfl)) (T := TX10) (N := 57) rfl (by decide) (by decide +kernel)
  · cases h; exact ec_cS (mt_X10_isIn l) cw_X10_isIn cv_X10_isIn (by decide) (by decide) (Or.inl (ec_in (i := 1303) (by decide +kernel) rfl)) (by decide +kernel)
  · cases h; exact ec_cV (mt_X10_finding l) cw_X10_finding cv_X10_finding (by decide) (by decide) (Or.inl (ec_in (i := 1282) (by decide +kernel) rfl)) (T := TX10) (N := 57) rfl (by decide) (by decide +kernel)
  · cases h
def cx_X10_leak : ex_K := (RX10, ec_fx fl_X10, ec_cx cl_X10, sl_X10, ca_X10_leak, ec_nz, ec_no)
theorem ok_X10_leak (l : Launch) : ex_ok l 1 22 cx_X10_leak := ⟨ec_fok fo_X10, ec_cok co_X10, so_X10, ck_X10_leak l, fun _ h => (by cases h), fun _ h => (by cases h), fun _ h => (by cases h), fun _ _ h => (by cases h)⟩
def sp_X10_leak : ex_S := ex_sp cx_X10_leak cX10_leak 4 (some .int) 26
theorem mt_X10_leak (l : Launch) : ex_Met l yX10_leak cX10_leak 4 (some .int) 1 22 sp_X10_leak := ex_inl (by decide) rfl (ok_X10_leak l)
theorem cw_X10_tank : ec_cw yX10_tank cX10_tank 4 (some .int) := ⟨ec_in (i := 1318) (by decide +kernel) rfl, ec_in (i := 68) (by decide +kernel) rfl, by decide, by decide⟩
theorem cv_X10_tank : Cond.instanceMethod yX10_tank ∈ ec_tb ∧ Cond.selects yX10_tank.cls yX10_tank yX10_tank ∈ ec_tb := ⟨ec_in (i := 1316) (by decide +kernel) rfl, ec_in (i := 1317) (by decide +kernel) rfl⟩
def ca_X10_tank : Nat → Option (Nat × Option Nat × ex_S) := fun ix => match ix with
  | 171 => some (3, none, sp_X10_isIn)
  | 160 => some (2, some 10, sp_X10_finding)
  | _ => none
theorem ck_X10_tank (l : Launch) : ∀ (ix n : Nat) (rc : Option Nat) (sp : ex_S), ca_X10_tank ix = some (n, rc, sp) → ex_cok l RX10 1 22 ix n rc sp := by
  intro ix n rc sp h
  unfold ca_X10_tank at h
  split at h
  · cases h; exact ec_cS (mt_X10_isIn l) cw_X10_isIn cv_X10_isIn (by decide) (by decide) (Or.inl (ec_in (i := 1303) (by decide +kernel) rfl)) (by decide +kernel)
  · cases h; exact ec_cV (mt_X10_finding l) cw_X10_finding cv_X10_finding (by decide) (by decide) (Or.inl (ec_in (i := 1282) (by decide +kernel) rfl)) (T := TX10) (N := 57) rfl (by decide) (by decide +kernel)
  · cases h
def cx_X10_tank : ex_K := (RX10, ec_fx fl_X10, ec_cx cl_X10, sl_X10, ca_X10_tank, ec_nz, ec_no)
theorem ok_X10_tank (l : Launch) : ex_ok l 1 22 cx_X10_tank := ⟨ec_fok fo_X10, ec_cok co_X10, so_X10, ck_X10_tank l, fun _ h => (by cases h), fun _ h => (by cases h), fun _ h => (by cases h), fun _ _ h => (by cases h)⟩
def sp_X10_tank : ex_S := ex_sp cx_X10_tank cX10_tank 4 (some .int) 31
theorem mt_X10_tank (l : Launch) : ex_Met l yX10_tank cX10_tank 4 (some .int) 1 22 sp_X10_tank := ex_inl (by decide) rfl (ok_X10_tank l)
theorem cw_X10_grams : ec_cw yX10_grams cX10_grams 3 (some .int) := ⟨ec_in (i := 1323) (by decide +kernel) rfl, ec_in (i := 68) (by decide +kernel) rfl, by decide, by decide⟩
theorem cv_X10_grams : Cond.instanceMethod yX10_grams ∈ ec_tb ∧ Cond.selects yX10_grams.cls yX10_grams yX10_grams ∈ ec_tb := ⟨ec_in (i := 1321) (by decide +kernel) rfl, ec_in (i := 1322) (by decide +kernel) rfl⟩
def cx_X10_grams : ex_K := (RX10, ec_fx fl_X10, ec_cx cl_X10, sl_X10, ec_no, ec_nz, ec_no)
theorem ok_X10_grams (l : Launch) : ex_ok l 0 0 cx_X10_grams := ⟨ec_fok fo_X10, ec_cok co_X10, so_X10, fun _ _ _ _ h => (by cases h), fun _ h => (by cases h), fun _ h => (by cases h), fun _ h => (by cases h), fun _ _ h => (by cases h)⟩
def sp_X10_grams : ex_S := ex_sp cx_X10_grams cX10_grams 3 (some .int) 400
theorem mt_X10_grams (l : Launch) : ex_Met l yX10_grams cX10_grams 3 (some .int) 0 0 sp_X10_grams := ex_inl (by decide) rfl (ok_X10_grams l)
theorem cw_X10_person : ec_cw yX10_person cX10_person 2 (some .int) := ⟨ec_in (i := 1327) (by decide +kernel) rfl, ec_in (i := 68) (by decide +kernel) rfl, by decide, by decide⟩
theorem cv_X10_person : Cond.instanceMethod yX10_person ∈ ec_tb ∧ Cond.selects yX10_person.cls yX10_person yX10_person ∈ ec_tb := ⟨ec_in (i := 1325) (by decide +kernel) rfl, ec_in (i := 1326) (by decide +kernel) rfl⟩
def ca_X10_person : Nat → Option (Nat × Option Nat × ex_S) := fun ix => match ix with
  | 164 => some (2, some 10, sp_X10_isModule)
  | 160 => some (2, some 10, sp_X10_finding)
  | _ => none
theorem ck_X10_person (l : Launch) : ∀ (ix n : Nat) (rc : Option Nat) (sp : ex_S), ca_X10_person ix = some (n, rc, sp) → ex_cok l RX10 1 21 ix n rc sp := by
  intro ix n rc sp h
  unfold ca_X10_person at h
  split at h
  · cases h; exact ec_cV (mt_X10_isModule l) cw_X10_isModule cv_X10_isModule (by decide) (by decide) (Or.inl (ec_in (i := 1291) (by decide +kernel) rfl)) (T := TX10) (N := 57) rfl (by decide) (by decide +kernel)
  · cases h; exact ec_cV (mt_X10_finding l) cw_X10_finding cv_X10_finding (by decide) (by decide) (Or.inl (ec_in (i := 1282) (by decide +kernel) rfl)) (T := TX10) (N := 57) rfl (by decide) (by decide +kernel)
  · cases h
def cx_X10_person : ex_K := (RX10, ec_fx fl_X10, ec_cx cl_X10, sl_X10, ca_X10_person, ec_nz, ec_no)
theorem ok_X10_person (l : Launch) : ex_ok l 1 21 cx_X10_person := ⟨ec_fok fo_X10, ec_cok co_X10, so_X10, ck_X10_person l, fun _ h => (by cases h), fun _ h => (by cases h), fun _ h => (by cases h), fun _ _ h => (by cases h)⟩
def sp_X10_person : ex_S := ex_sp cx_X10_person cX10_person 2 (some .int) 40
theorem mt_X10_person (l : Launch) : ex_Met l yX10_person cX10_person 2 (some .int) 1 21 sp_X10_person := ex_inl (by decide) rfl (ok_X10_person l)
theorem cw_X10_canGo : ec_cw yX10_canGo cX10_canGo 5 (some .boolean) := ⟨ec_in (i := 1339) (by decide +kernel) rfl, ec_in (i := 68) (by decide +kernel) rfl, by decide, by decide⟩
theorem cv_X10_canGo : Cond.instanceMethod yX10_canGo ∈ ec_tb ∧ Cond.selects yX10_canGo.cls yX10_canGo yX10_canGo ∈ ec_tb := ⟨ec_in (i := 1338) (by decide +kernel) rfl, ec_in (i := 30) (by decide +kernel) rfl⟩
def cx_X10_canGo : ex_K := (RX10, ec_fx fl_X10, ec_cx cl_X10, sl_X10, ec_no, ec_nz, ec_no)
theorem ok_X10_canGo (l : Launch) : ex_ok l 0 0 cx_X10_canGo := ⟨ec_fok fo_X10, ec_cok co_X10, so_X10, fun _ _ _ _ h => (by cases h), fun _ h => (by cases h), fun _ h => (by cases h), fun _ h => (by cases h), fun _ _ h => (by cases h)⟩
def sp_X10_canGo : ex_S := ex_sp cx_X10_canGo cX10_canGo 5 (some .boolean) 400
theorem mt_X10_canGo (l : Launch) : ex_Met l yX10_canGo cX10_canGo 5 (some .boolean) 0 0 sp_X10_canGo := ex_inl (by decide) rfl (ok_X10_canGo l)
theorem cw_X10_go : ec_cw yX10_go cX10_go 3 (some .int) := ⟨ec_in (i := 1331) (by decide +kernel) rfl, ec_in (i := 68) (by decide +kernel) rfl, by decide, by decide⟩
theorem cv_X10_go : Cond.instanceMethod yX10_go ∈ ec_tb ∧ Cond.selects yX10_go.cls yX10_go yX10_go ∈ ec_tb := ⟨ec_in (i := 1329) (by decide +kernel) rfl, ec_in (i := 1330) (by decide +kernel) rfl⟩
def ca_X10_go : Nat → Option (Nat × Option Nat × ex_S) := fun ix => match ix with
  | 177 => some (2, some 10, sp_X10_isPerson)
  | 164 => some (2, some 10, sp_X10_isModule)
  | 160 => some (2, some 10, sp_X10_finding)
  | 180 => some (3, some 10, sp_X10_canGo)
  | _ => none
theorem ck_X10_go (l : Launch) : ∀ (ix n : Nat) (rc : Option Nat) (sp : ex_S), ca_X10_go ix = some (n, rc, sp) → ex_cok l RX10 1 24 ix n rc sp := by
  intro ix n rc sp h
  unfold ca_X10_go at h
  split at h
  · cases h; exact ec_cV (mt_X10_isPerson l) cw_X10_isPerson cv_X10_isPerson (by decide) (by decide) (Or.inl (ec_in (i := 1332) (by decide +kernel) rfl)) (T := TX10) (N := 57) rfl (by decide) (by decide +kernel)
  · cases h; exact ec_cV (mt_X10_isModule l) cw_X10_isModule cv_X10_isModule (by decide) (by decide) (Or.inl (ec_in (i := 1291) (by decide +kernel) rfl)) (T := TX10) (N := 57) rfl (by decide) (by decide +kernel)
  · cases h; exact ec_cV (mt_X10_finding l) cw_X10_finding cv_X10_finding (by decide) (by decide) (Or.inl (ec_in (i := 1282) (by decide +kernel) rfl)) (T := TX10) (N := 57) rfl (by decide) (by decide +kernel)
  · cases h; exact ec_cV (mt_X10_canGo l) cw_X10_canGo cv_X10_canGo (by decide) (by decide) (Or.inl (ec_in (i := 1336) (by decide +kernel) rfl)) (T := TX10) (N := 57) rfl (by decide) (by decide +kernel)
  · cases h
def cx_X10_go : ex_K := (RX10, ec_fx fl_X10, ec_cx cl_X10, sl_X10, ca_X10_go, ec_nz, ec_no)
theorem ok_X10_go (l : Launch) : ex_ok l 1 24 cx_X10_go := ⟨ec_fok fo_X10, ec_cok co_X10, so_X10, ck_X10_go l, fun _ h => (by cases h), fun _ h => (by cases h), fun _ h => (by cases h), fun _ _ h => (by cases h)⟩
def sp_X10_go : ex_S := ex_sp cx_X10_go cX10_go 3 (some .int) 29
theorem mt_X10_go (l : Launch) : ex_Met l yX10_go cX10_go 3 (some .int) 1 24 sp_X10_go := ex_inl (by decide) rfl (ok_X10_go l)
theorem cw_X10_doing : ec_cw yX10_doing cX10_doing 4 (some .int) := ⟨ec_in (i := 1343) (by decide +kernel) rfl, ec_in (i := 68) (by decide +kernel) rfl, by decide, by decide⟩
theorem cv_X10_doing : Cond.instanceMethod yX10_doing ∈ ec_tb ∧ Cond.selects yX10_doing.cls yX10_doing yX10_doing ∈ ec_tb := ⟨ec_in (i := 1341) (by decide +kernel) rfl, ec_in (i := 1342) (by decide +kernel) rfl⟩
def ca_X10_doing : Nat → Option (Nat × Option Nat × ex_S) := fun ix => match ix with
  | 177 => some (2, some 10, sp_X10_isPerson)
  | 171 => some (3, none, sp_X10_isIn)
  | 160 => some (2, some 10, sp_X10_finding)
  | _ => none
theorem ck_X10_doing (l : Launch) : ∀ (ix n : Nat) (rc : Option Nat) (sp : ex_S), ca_X10_doing ix = some (n, rc, sp) → ex_cok l RX10 1 22 ix n rc sp := by
  intro ix n rc sp h
  unfold ca_X10_doing at h
  split at h
  · cases h; exact ec_cV (mt_X10_isPerson l) cw_X10_isPerson cv_X10_isPerson (by decide) (by decide) (Or.inl (ec_in (i := 1332) (by decide +kernel) rfl)) (T := TX10) (N := 57) rfl (by decide) (by decide +kernel)
  · cases h; exact ec_cS (mt_X10_isIn l) cw_X10_isIn cv_X10_isIn (by decide) (by decide) (Or.inl (ec_in (i := 1303) (by decide +kernel) rfl)) (by decide +kernel)
  · cases h; exact ec_cV (mt_X10_finding l) cw_X10_finding cv_X10_finding (by decide) (by decide) (Or.inl (ec_in (i := 1282) (by decide +kernel) rfl)) (T := TX10) (N := 57) rfl (by decide) (by decide +kernel)
  · cases h
def cx_X10_doing : ex_K := (RX10, ec_fx fl_X10, ec_cx cl_X10, sl_X10, ca_X10_doing, ec_nz, ec_no)
theorem ok_X10_doing (l : Launch) : ex_ok l 1 22 cx_X10_doing := ⟨ec_fok fo_X10, ec_cok co_X10, so_X10, ck_X10_doing l, fun _ h => (by cases h), fun _ h => (by cases h), fun _ h => (by cases h), fun _ _ h => (by cases h)⟩
def sp_X10_doing : ex_S := ex_sp cx_X10_doing cX10_doing 4 (some .int) 35
theorem mt_X10_doing (l : Launch) : ex_Met l yX10_doing cX10_doing 4 (some .int) 1 22 sp_X10_doing := ex_inl (by decide) rfl (ok_X10_doing l)
theorem cw_X10_about : ec_cw yX10_about cX10_about 3 (some .int) := ⟨ec_in (i := 1347) (by decide +kernel) rfl, ec_in (i := 68) (by decide +kernel) rfl, by decide, by decide⟩
theorem cv_X10_about : Cond.instanceMethod yX10_about ∈ ec_tb ∧ Cond.selects yX10_about.cls yX10_about yX10_about ∈ ec_tb := ⟨ec_in (i := 1345) (by decide +kernel) rfl, ec_in (i := 1346) (by decide +kernel) rfl⟩
def ca_X10_about : Nat → Option (Nat × Option Nat × ex_S) := fun ix => match ix with
  | 177 => some (2, some 10, sp_X10_isPerson)
  | 171 => some (3, none, sp_X10_isIn)
  | 160 => some (2, some 10, sp_X10_finding)
  | _ => none
theorem ck_X10_about (l : Launch) : ∀ (ix n : Nat) (rc : Option Nat) (sp : ex_S), ca_X10_about ix = some (n, rc, sp) → ex_cok l RX10 1 22 ix n rc sp := by
  intro ix n rc sp h
  unfold ca_X10_about at h
  split at h
  · cases h; exact ec_cV (mt_X10_isPerson l) cw_X10_isPerson cv_X10_isPerson (by decide) (by decide) (Or.inl (ec_in (i := 1332) (by decide +kernel) rfl)) (T := TX10) (N := 57) rfl (by decide) (by decide +kernel)
  · cases h; exact ec_cS (mt_X10_isIn l) cw_X10_isIn cv_X10_isIn (by decide) (by decide) (Or.inl (ec_in (i := 1303) (by decide +kernel) rfl)) (by decide +kernel)
  · cases h; exact ec_cV (mt_X10_finding l) cw_X10_finding cv_X10_finding (by decide) (by decide) (Or.inl (ec_in (i := 1282) (by decide +kernel) rfl)) (T := TX10) (N := 57) rfl (by decide) (by decide +kernel)
  · cases h
def cx_X10_about : ex_K := (RX10, ec_fx fl_X10, ec_cx cl_X10, sl_X10, ca_X10_about, ec_nz, ec_no)
theorem ok_X10_about (l : Launch) : ex_ok l 1 22 cx_X10_about := ⟨ec_fok fo_X10, ec_cok co_X10, so_X10, ck_X10_about l, fun _ h => (by cases h), fun _ h => (by cases h), fun _ h => (by cases h), fun _ _ h => (by cases h)⟩
def sp_X10_about : ex_S := ex_sp cx_X10_about cX10_about 3 (some .int) 46
theorem mt_X10_about (l : Launch) : ex_Met l yX10_about cX10_about 3 (some .int) 1 22 sp_X10_about := ex_inl (by decide) rfl (ok_X10_about l)
theorem cw_X10_machine : ec_cw yX10_machine cX10_machine 6 (some .int) := ⟨ec_in (i := 1351) (by decide +kernel) rfl, ec_in (i := 68) (by decide +kernel) rfl, by decide, by decide⟩
theorem cv_X10_machine : Cond.instanceMethod yX10_machine ∈ ec_tb ∧ Cond.selects yX10_machine.cls yX10_machine yX10_machine ∈ ec_tb := ⟨ec_in (i := 1349) (by decide +kernel) rfl, ec_in (i := 1350) (by decide +kernel) rfl⟩
def ca_X10_machine : Nat → Option (Nat × Option Nat × ex_S) := fun ix => match ix with
  | 171 => some (3, none, sp_X10_isIn)
  | 164 => some (2, some 10, sp_X10_isModule)
  | 160 => some (2, some 10, sp_X10_finding)
  | _ => none
theorem ck_X10_machine (l : Launch) : ∀ (ix n : Nat) (rc : Option Nat) (sp : ex_S), ca_X10_machine ix = some (n, rc, sp) → ex_cok l RX10 1 22 ix n rc sp := by
  intro ix n rc sp h
  unfold ca_X10_machine at h
  split at h
  · cases h; exact ec_cS (mt_X10_isIn l) cw_X10_isIn cv_X10_isIn (by decide) (by decide) (Or.inl (ec_in (i := 1303) (by decide +kernel) rfl)) (by decide +kernel)
  · cases h; exact ec_cV (mt_X10_isModule l) cw_X10_isModule cv_X10_isModule (by decide) (by decide) (Or.inl (ec_in (i := 1291) (by decide +kernel) rfl)) (T := TX10) (N := 57) rfl (by decide) (by decide +kernel)
  · cases h; exact ec_cV (mt_X10_finding l) cw_X10_finding cv_X10_finding (by decide) (by decide) (Or.inl (ec_in (i := 1282) (by decide +kernel) rfl)) (T := TX10) (N := 57) rfl (by decide) (by decide +kernel)
  · cases h
def cx_X10_machine : ex_K := (RX10, ec_fx fl_X10, ec_cx cl_X10, sl_X10, ca_X10_machine, ec_nz, ec_no)
theorem ok_X10_machine (l : Launch) : ex_ok l 1 22 cx_X10_machine := ⟨ec_fok fo_X10, ec_cok co_X10, so_X10, ck_X10_machine l, fun _ h => (by cases h), fun _ h => (by cases h), fun _ h => (by cases h), fun _ _ h => (by cases h)⟩
def sp_X10_machine : ex_S := ex_sp cx_X10_machine cX10_machine 6 (some .int) 119
theorem mt_X10_machine (l : Launch) : ex_Met l yX10_machine cX10_machine 6 (some .int) 1 22 sp_X10_machine := ex_inl (by decide) rfl (ok_X10_machine l)
theorem cw_X10_as : ec_cw yX10_as cX10_as 3 (some .int) := ⟨ec_in (i := 1355) (by decide +kernel) rfl, ec_in (i := 68) (by decide +kernel) rfl, by decide, by decide⟩
theorem cv_X10_as : Cond.instanceMethod yX10_as ∈ ec_tb ∧ Cond.selects yX10_as.cls yX10_as yX10_as ∈ ec_tb := ⟨ec_in (i := 1353) (by decide +kernel) rfl, ec_in (i := 1354) (by decide +kernel) rfl⟩
def ca_X10_as : Nat → Option (Nat × Option Nat × ex_S) := fun ix => match ix with
  | 184 => some (2, some 10, sp_X10_isMachine)
  | 171 => some (3, none, sp_X10_isIn)
  | 160 => some (2, some 10, sp_X10_finding)
  | _ => none
theorem ck_X10_as (l : Launch) : ∀ (ix n : Nat) (rc : Option Nat) (sp : ex_S), ca_X10_as ix = some (n, rc, sp) → ex_cok l RX10 1 22 ix n rc sp := by
  intro ix n rc sp h
  unfold ca_X10_as at h
  split at h
  · cases h; exact ec_cV (mt_X10_isMachine l) cw_X10_isMachine cv_X10_isMachine (by decide) (by decide) (Or.inl (ec_in (i := 1356) (by decide +kernel) rfl)) (T := TX10) (N := 57) rfl (by decide) (by decide +kernel)
  · cases h; exact ec_cS (mt_X10_isIn l) cw_X10_isIn cv_X10_isIn (by decide) (by decide) (Or.inl (ec_in (i := 1303) (by decide +kernel) rfl)) (by decide +kernel)
  · cases h; exact ec_cV (mt_X10_finding l) cw_X10_finding cv_X10_finding (by decide) (by decide) (Or.inl (ec_in (i := 1282) (by decide +kernel) rfl)) (T := TX10) (N := 57) rfl (by decide) (by decide +kernel)
  · cases h
def cx_X10_as : ex_K := (RX10, ec_fx fl_X10, ec_cx cl_X10, sl_X10, ca_X10_as, ec_nz, ec_no)
theorem ok_X10_as (l : Launch) : ex_ok l 1 22 cx_X10_as := ⟨ec_fok fo_X10, ec_cok co_X10, so_X10, ck_X10_as l, fun _ h => (by cases h), fun _ h => (by cases h), fun _ h => (by cases h), fun _ _ h => (by cases h)⟩
def sp_X10_as : ex_S := ex_sp cx_X10_as cX10_as 3 (some .int) 40
theorem mt_X10_as (l : Launch) : ex_Met l yX10_as cX10_as 3 (some .int) 1 22 sp_X10_as := ex_inl (by decide) rfl (ok_X10_as l)
theorem cw_X10_turn : ec_cw yX10_turn cX10_turn 4 (some .int) := ⟨ec_in (i := 1363) (by decide +kernel) rfl, ec_in (i := 68) (by decide +kernel) rfl, by decide, by decide⟩
theorem cv_X10_turn : Cond.instanceMethod yX10_turn ∈ ec_tb ∧ Cond.selects yX10_turn.cls yX10_turn yX10_turn ∈ ec_tb := ⟨ec_in (i := 1361) (by decide +kernel) rfl, ec_in (i := 1362) (by decide +kernel) rfl⟩
def ca_X10_turn : Nat → Option (Nat × Option Nat × ex_S) := fun ix => match ix with
  | 184 => some (2, some 10, sp_X10_isMachine)
  | 171 => some (3, none, sp_X10_isIn)
  | 160 => some (2, some 10, sp_X10_finding)
  | _ => none
theorem ck_X10_turn (l : Launch) : ∀ (ix n : Nat) (rc : Option Nat) (sp : ex_S), ca_X10_turn ix = some (n, rc, sp) → ex_cok l RX10 1 22 ix n rc sp := by
  intro ix n rc sp h
  unfold ca_X10_turn at h
  split at h
  · cases h; exact ec_cV (mt_X10_isMachine l) cw_X10_isMachine cv_X10_isMachine (by decide) (by decide) (Or.inl (ec_in (i := 1356) (by decide +kernel) rfl)) (T := TX10) (N := 57) rfl (by decide) (by decide +kernel)
  · cases h; exact ec_cS (mt_X10_isIn l) cw_X10_isIn cv_X10_isIn (by decide) (by decide) (Or.inl (ec_in (i := 1303) (by decide +kernel) rfl)) (by decide +kernel)
  · cases h; exact ec_cV (mt_X10_finding l) cw_X10_finding cv_X10_finding (by decide) (by decide) (Or.inl (ec_in (i := 1282) (by decide +kernel) rfl)) (T := TX10) (N := 57) rfl (by decide) (by decide +kernel)
  · cases h
def cx_X10_turn : ex_K := (RX10, ec_fx fl_X10, ec_cx cl_X10, sl_X10, ca_X10_turn, ec_nz, ec_no)
theorem ok_X10_turn (l : Launch) : ex_ok l 1 22 cx_X10_turn := ⟨ec_fok fo_X10, ec_cok co_X10, so_X10, ck_X10_turn l, fun _ h => (by cases h), fun _ h => (by cases h), fun _ h => (by cases h), fun _ _ h => (by cases h)⟩
def sp_X10_turn : ex_S := ex_sp cx_X10_turn cX10_turn 4 (some .int) 26
theorem mt_X10_turn (l : Launch) : ex_Met l yX10_turn cX10_turn 4 (some .int) 1 22 sp_X10_turn := ex_inl (by decide) rfl (ok_X10_turn l)
theorem cw_X10_of : ec_cw yX10_of cX10_of 3 (some .int) := ⟨ec_in (i := 1367) (by decide +kernel) rfl, ec_in (i := 68) (by decide +kernel) rfl, by decide, by decide⟩
theorem cv_X10_of : Cond.instanceMethod yX10_of ∈ ec_tb ∧ Cond.selects yX10_of.cls yX10_of yX10_of ∈ ec_tb := ⟨ec_in (i := 1365) (by decide +kernel) rfl, ec_in (i := 1366) (by decide +kernel) rfl⟩
def ca_X10_of : Nat → Option (Nat × Option Nat × ex_S) := fun ix => match ix with
  | 184 => some (2, some 10, sp_X10_isMachine)
  | 171 => some (3, none, sp_X10_isIn)
  | 160 => some (2, some 10, sp_X10_finding)
  | _ => none
theorem ck_X10_of (l : Launch) : ∀ (ix n : Nat) (rc : Option Nat) (sp : ex_S), ca_X10_of ix = some (n, rc, sp) → ex_cok l RX10 1 22 ix n rc sp := by
  intro ix n rc sp h
  unfold ca_X10_of at h
  split at h
  · cases h; exact ec_cV (mt_X10_isMachine l) cw_X10_isMachine cv_X10_isMachine (by decide) (by decide) (Or.inl (ec_in (i := 1356) (by decide +kernel) rfl)) (T := TX10) (N := 57) rfl (by decide) (by decide +kernel)
  · cases h; exact ec_cS (mt_X10_isIn l) cw_X10_isIn cv_X10_isIn (by decide) (by decide) (Or.inl (ec_in (i := 1303) (by decide +kernel) rfl)) (by decide +kernel)
  · cases h; exact ec_cV (mt_X10_finding l) cw_X10_finding cv_X10_finding (by decide) (by decide) (Or.inl (ec_in (i := 1282) (by decide +kernel) rfl)) (T := TX10) (N := 57) rfl (by decide) (by decide +kernel)
  · cases h
def cx_X10_of : ex_K := (RX10, ec_fx fl_X10, ec_cx cl_X10, sl_X10, ca_X10_of, ec_nz, ec_no)
theorem ok_X10_of (l : Launch) : ex_ok l 1 22 cx_X10_of := ⟨ec_fok fo_X10, ec_cok co_X10, so_X10, ck_X10_of l, fun _ h => (by cases h), fun _ h => (by cases h), fun _ h => (by cases h), fun _ _ h => (by cases h)⟩
def sp_X10_of : ex_S := ex_sp cx_X10_of cX10_of 3 (some .int) 61
theorem mt_X10_of (l : Launch) : ex_Met l yX10_of cX10_of 3 (some .int) 1 22 sp_X10_of := ex_inl (by decide) rfl (ok_X10_of l)
theorem cw_X10_spares : ec_cw yX10_spares cX10_spares 4 (some .int) := ⟨ec_in (i := 1371) (by decide +kernel) rfl, ec_in (i := 68) (by decide +kernel) rfl, by decide, by decide⟩
theorem cv_X10_spares : Cond.instanceMethod yX10_spares ∈ ec_tb ∧ Cond.selects yX10_spares.cls yX10_spares yX10_spares ∈ ec_tb := ⟨ec_in (i := 1369) (by decide +kernel) rfl, ec_in (i := 1370) (by decide +kernel) rfl⟩
def ca_X10_spares : Nat → Option (Nat × Option Nat × ex_S) := fun ix => match ix with
  | 171 => some (3, none, sp_X10_isIn)
  | 160 => some (2, some 10, sp_X10_finding)
  | _ => none
theorem ck_X10_spares (l : Launch) : ∀ (ix n : Nat) (rc : Option Nat) (sp : ex_S), ca_X10_spares ix = some (n, rc, sp) → ex_cok l RX10 1 22 ix n rc sp := by
  intro ix n rc sp h
  unfold ca_X10_spares at h
  split at h
  · cases h; exact ec_cS (mt_X10_isIn l) cw_X10_isIn cv_X10_isIn (by decide) (by decide) (Or.inl (ec_in (i := 1303) (by decide +kernel) rfl)) (by decide +kernel)
  · cases h; exact ec_cV (mt_X10_finding l) cw_X10_finding cv_X10_finding (by decide) (by decide) (Or.inl (ec_in (i := 1282) (by decide +kernel) rfl)) (T := TX10) (N := 57) rfl (by decide) (by decide +kernel)
  · cases h
def cx_X10_spares : ex_K := (RX10, ec_fx fl_X10, ec_cx cl_X10, sl_X10, ca_X10_spares, ec_nz, ec_no)
theorem ok_X10_spares (l : Launch) : ex_ok l 1 22 cx_X10_spares := ⟨ec_fok fo_X10, ec_cok co_X10, so_X10, ck_X10_spares l, fun _ h => (by cases h), fun _ h => (by cases h), fun _ h => (by cases h), fun _ _ h => (by cases h)⟩
def sp_X10_spares : ex_S := ex_sp cx_X10_spares cX10_spares 4 (some .int) 31
theorem mt_X10_spares (l : Launch) : ex_Met l yX10_spares cX10_spares 4 (some .int) 1 22 sp_X10_spares := ex_inl (by decide) rfl (ok_X10_spares l)
theorem cw_X10_isMended : ec_cw yX10_isMended cX10_isMended 4 (some .boolean) := ⟨ec_in (i := 1383) (by decide +kernel) rfl, ec_in (i := 68) (by decide +kernel) rfl, by decide, by decide⟩
theorem cv_X10_isMended : Cond.instanceMethod yX10_isMended ∈ ec_tb ∧ Cond.selects yX10_isMended.cls yX10_isMended yX10_isMended ∈ ec_tb := ⟨ec_in (i := 1382) (by decide +kernel) rfl, ec_in (i := 33) (by decide +kernel) rfl⟩
def cx_X10_isMended : ex_K := (RX10, ec_fx fl_X10, ec_cx cl_X10, sl_X10, ec_no, ec_nz, ec_no)
theorem ok_X10_isMended (l : Launch) : ex_ok l 0 0 cx_X10_isMended := ⟨ec_fok fo_X10, ec_cok co_X10, so_X10, fun _ _ _ _ h => (by cases h), fun _ h => (by cases h), fun _ h => (by cases h), fun _ h => (by cases h), fun _ _ h => (by cases h)⟩
def sp_X10_isMended : ex_S := ex_sp cx_X10_isMended cX10_isMended 4 (some .boolean) 400
theorem mt_X10_isMended (l : Launch) : ex_Met l yX10_isMended cX10_isMended 4 (some .boolean) 0 0 sp_X10_isMended := ex_inl (by decide) rfl (ok_X10_isMended l)
theorem cw_X10_refusesMend : ec_cw yX10_refusesMend cX10_refusesMend 4 (some .int) := ⟨ec_in (i := 1379) (by decide +kernel) rfl, ec_in (i := 68) (by decide +kernel) rfl, by decide, by decide⟩
theorem cv_X10_refusesMend : Cond.instanceMethod yX10_refusesMend ∈ ec_tb ∧ Cond.selects yX10_refusesMend.cls yX10_refusesMend yX10_refusesMend ∈ ec_tb := ⟨ec_in (i := 1378) (by decide +kernel) rfl, ec_in (i := 32) (by decide +kernel) rfl⟩
def ca_X10_refusesMend : Nat → Option (Nat × Option Nat × ex_S) := fun ix => match ix with
  | 177 => some (2, some 10, sp_X10_isPerson)
  | 184 => some (2, some 10, sp_X10_isMachine)
  | 171 => some (3, none, sp_X10_isIn)
  | 187 => some (2, some 10, sp_X10_isMended)
  | _ => none
theorem ck_X10_refusesMend (l : Launch) : ∀ (ix n : Nat) (rc : Option Nat) (sp : ex_S), ca_X10_refusesMend ix = some (n, rc, sp) → ex_cok l RX10 1 23 ix n rc sp := by
  intro ix n rc sp h
  unfold ca_X10_refusesMend at h
  split at h
  · cases h; exact ec_cV (mt_X10_isPerson l) cw_X10_isPerson cv_X10_isPerson (by decide) (by decide) (Or.inl (ec_in (i := 1332) (by decide +kernel) rfl)) (T := TX10) (N := 57) rfl (by decide) (by decide +kernel)
  · cases h; exact ec_cV (mt_X10_isMachine l) cw_X10_isMachine cv_X10_isMachine (by decide) (by decide) (Or.inl (ec_in (i := 1356) (by decide +kernel) rfl)) (T := TX10) (N := 57) rfl (by decide) (by decide +kernel)
  · cases h; exact ec_cS (mt_X10_isIn l) cw_X10_isIn cv_X10_isIn (by decide) (by decide) (Or.inl (ec_in (i := 1303) (by decide +kernel) rfl)) (by decide +kernel)
  · cases h; exact ec_cV (mt_X10_isMended l) cw_X10_isMended cv_X10_isMended (by decide) (by decide) (Or.inl (ec_in (i := 1380) (by decide +kernel) rfl)) (T := TX10) (N := 57) rfl (by decide) (by decide +kernel)
  · cases h
def cx_X10_refusesMend : ex_K := (RX10, ec_fx fl_X10, ec_cx cl_X10, sl_X10, ca_X10_refusesMend, ec_nz, ec_no)
theorem ok_X10_refusesMend (l : Launch) : ex_ok l 1 23 cx_X10_refusesMend := ⟨ec_fok fo_X10, ec_cok co_X10, so_X10, ck_X10_refusesMend l, fun _ h => (by cases h), fun _ h => (by cases h), fun _ h => (by cases h), fun _ _ h => (by cases h)⟩
def sp_X10_refusesMend : ex_S := ex_sp cx_X10_refusesMend cX10_refusesMend 4 (some .int) 53
theorem mt_X10_refusesMend (l : Launch) : ex_Met l yX10_refusesMend cX10_refusesMend 4 (some .int) 1 23 sp_X10_refusesMend := ex_inl (by decide) rfl (ok_X10_refusesMend l)
theorem cw_X10_beginMend : ec_cw yX10_beginMend cX10_beginMend 4 none := ⟨ec_in (i := 1387) (by decide +kernel) rfl, ec_in (i := 68) (by decide +kernel) rfl, by decide, by decide⟩
theorem cv_X10_beginMend : Cond.instanceMethod yX10_beginMend ∈ ec_tb ∧ Cond.selects yX10_beginMend.cls yX10_beginMend yX10_beginMend ∈ ec_tb := ⟨ec_in (i := 1386) (by decide +kernel) rfl, ec_in (i := 34) (by decide +kernel) rfl⟩
def cx_X10_beginMend : ex_K := (RX10, ec_fx fl_X10, ec_cx cl_X10, sl_X10, ec_no, ec_nz, ec_no)
theorem ok_X10_beginMend (l : Launch) : ex_ok l 0 0 cx_X10_beginMend := ⟨ec_fok fo_X10, ec_cok co_X10, so_X10, fun _ _ _ _ h => (by cases h), fun _ h => (by cases h), fun _ h => (by cases h), fun _ h => (by cases h), fun _ _ h => (by cases h)⟩
def sp_X10_beginMend : ex_S := ex_sp cx_X10_beginMend cX10_beginMend 4 none 28
theorem mt_X10_beginMend (l : Launch) : ex_Met l yX10_beginMend cX10_beginMend 4 none 0 0 sp_X10_beginMend := ex_inl (by decide) rfl (ok_X10_beginMend l)
theorem cw_X10_repair : ec_cw yX10_repair cX10_repair 5 (some .int) := ⟨ec_in (i := 1375) (by decide +kernel) rfl, ec_in (i := 68) (by decide +kernel) rfl, by decide, by decide⟩
theorem cv_X10_repair : Cond.instanceMethod yX10_repair ∈ ec_tb ∧ Cond.selects yX10_repair.cls yX10_repair yX10_repair ∈ ec_tb := ⟨ec_in (i := 1373) (by decide +kernel) rfl, ec_in (i := 1374) (by decide +kernel) rfl⟩
def ca_X10_repair : Nat → Option (Nat × Option Nat × ex_S) := fun ix => match ix with
  | 190 => some (4, some 10, sp_X10_refusesMend)
  | 160 => some (2, some 10, sp_X10_finding)
  | 194 => some (4, some 10, sp_X10_beginMend)
  | _ => none
theorem ck_X10_repair (l : Launch) : ∀ (ix n : Nat) (rc : Option Nat) (sp : ex_S), ca_X10_repair ix = some (n, rc, sp) → ex_cok l RX10 2 46 ix n rc sp := by
  intro ix n rc sp h
  unfold ca_X10_repair at h
  split at h
  · cases h; exact ec_cV (mt_X10_refusesMend l) cw_X10_refusesMend cv_X10_refusesMend (by decide) (by decide) (Or.inl (ec_in (i := 1376) (by decide +kernel) rfl)) (T := TX10) (N := 57) rfl (by decide) (by decide +kernel)
  · cases h; exact ec_cV (mt_X10_finding l) cw_X10_finding cv_X10_finding (by decide) (by decide) (Or.inl (ec_in (i := 1282) (by decide +kernel) rfl)) (T := TX10) (N := 57) rfl (by decide) (by decide +kernel)
  · cases h; exact ec_cV (mt_X10_beginMend l) cw_X10_beginMend cv_X10_beginMend (by decide) (by decide) (Or.inl (ec_in (i := 1384) (by decide +kernel) rfl)) (T := TX10) (N := 57) rfl (by decide) (by decide +kernel)
  · cases h
def cx_X10_repair : ex_K := (RX10, ec_fx fl_X10, ec_cx cl_X10, sl_X10, ca_X10_repair, ec_nz, ec_no)
theorem ok_X10_repair (l : Launch) : ex_ok l 2 46 cx_X10_repair := ⟨ec_fok fo_X10, ec_cok co_X10, so_X10, ck_X10_repair l, fun _ h => (by cases h), fun _ h => (by cases h), fun _ h => (by cases h), fun _ _ h => (by cases h)⟩
def sp_X10_repair : ex_S := ex_sp cx_X10_repair cX10_repair 5 (some .int) 26
theorem mt_X10_repair (l : Launch) : ex_Met l yX10_repair cX10_repair 5 (some .int) 2 46 sp_X10_repair := ex_inl (by decide) rfl (ok_X10_repair l)
theorem cw_X10_canShed : ec_cw yX10_canShed cX10_canShed 2 (some .boolean) := ⟨ec_in (i := 1395) (by decide +kernel) rfl, ec_in (i := 68) (by decide +kernel) rfl, by decide, by decide⟩
theorem cv_X10_canShed : Cond.instanceMethod yX10_canShed ∈ ec_tb ∧ Cond.selects yX10_canShed.cls yX10_canShed yX10_canShed ∈ ec_tb := ⟨ec_in (i := 1394) (by decide +kernel) rfl, ec_in (i := 35) (by decide +kernel) rfl⟩
def cx_X10_canShed : ex_K := (RX10, ec_fx fl_X10, ec_cx cl_X10, sl_X10, ec_no, ec_nz, ec_no)
theorem ok_X10_canShed (l : Launch) : ex_ok l 0 0 cx_X10_canShed := ⟨ec_fok fo_X10, ec_cok co_X10, so_X10, fun _ _ _ _ h => (by cases h), fun _ h => (by cases h), fun _ h => (by cases h), fun _ h => (by cases h), fun _ _ h => (by cases h)⟩
def sp_X10_canShed : ex_S := ex_sp cx_X10_canShed cX10_canShed 2 (some .boolean) 16
theorem mt_X10_canShed (l : Launch) : ex_Met l yX10_canShed cX10_canShed 2 (some .boolean) 0 0 sp_X10_canShed := ex_inl (by decide) rfl (ok_X10_canShed l)
theorem cw_X10_together : ec_cw yX10_together cX10_together 7 (some .int) := ⟨ec_in (i := 1399) (by decide +kernel) rfl, ec_in (i := 68) (by decide +kernel) rfl, by decide, by decide⟩
theorem cv_X10_together : Cond.instanceMethod yX10_together ∈ ec_tb ∧ Cond.selects yX10_together.cls yX10_together yX10_together ∈ ec_tb := ⟨ec_in (i := 1398) (by decide +kernel) rfl, ec_in (i := 36) (by decide +kernel) rfl⟩
def ca_X10_together : Nat → Option (Nat × Option Nat × ex_S) := fun ix => match ix with
  | 198 => some (2, some 10, sp_X10_canShed)
  | _ => none
theorem ck_X10_together (l : Launch) : ∀ (ix n : Nat) (rc : Option Nat) (sp : ex_S), ca_X10_together ix = some (n, rc, sp) → ex_cok l RX10 1 21 ix n rc sp := by
  intro ix n rc sp h
  unfold ca_X10_together at h
  split at h
  · cases h; exact ec_cV (mt_X10_canShed l) cw_X10_canShed cv_X10_canShed (by decide) (by decide) (Or.inl (ec_in (i := 1392) (by decide +kernel) rfl)) (T := TX10) (N := 57) rfl (by decide) (by decide +kernel)
  · cases h
def cx_X10_together : ex_K := (RX10, ec_fx fl_X10, ec_cx cl_X10, sl_X10, ca_X10_together, ec_nz, ec_no)
theorem ok_X10_together (l : Launch) : ex_ok l 1 21 cx_X10_together := ⟨ec_fok fo_X10, ec_cok co_X10, so_X10, ck_X10_together l, fun _ h => (by cases h), fun _ h => (by cases h), fun _ h => (by cases h), fun _ _ h => (by cases h)⟩
def sp_X10_together : ex_S := ex_sp cx_X10_together cX10_together 7 (some .int) 400
theorem mt_X10_together (l : Launch) : ex_Met l yX10_together cX10_together 7 (some .int) 1 21 sp_X10_together := ex_inl (by decide) rfl (ok_X10_together l)
theorem cw_X10_shed : ec_cw yX10_shed cX10_shed 8 (some .int) := ⟨ec_in (i := 1391) (by decide +kernel) rfl, ec_in (i := 68) (by decide +kernel) rfl, by decide, by decide⟩
theorem cv_X10_shed : Cond.instanceMethod yX10_shed ∈ ec_tb ∧ Cond.selects yX10_shed.cls yX10_shed yX10_shed ∈ ec_tb := ⟨ec_in (i := 1389) (by decide +kernel) rfl, ec_in (i := 1390) (by decide +kernel) rfl⟩
def ca_X10_shed : Nat → Option (Nat × Option Nat × ex_S) := fun ix => match ix with
  | 171 => some (3, none, sp_X10_isIn)
  | 160 => some (2, some 10, sp_X10_finding)
  | 198 => some (2, some 10, sp_X10_canShed)
  | 201 => some (4, some 10, sp_X10_together)
  | _ => none
theorem ck_X10_shed (l : Launch) : ∀ (ix n : Nat) (rc : Option Nat) (sp : ex_S), ca_X10_shed ix = some (n, rc, sp) → ex_cok l RX10 2 47 ix n rc sp := by
  intro ix n rc sp h
  unfold ca_X10_shed at h
  split at h
  · cases h; exact ec_cS (mt_X10_isIn l) cw_X10_isIn cv_X10_isIn (by decide) (by decide) (Or.inl (ec_in (i := 1303) (by decide +kernel) rfl)) (by decide +kernel)
  · cases h; exact ec_cV (mt_X10_finding l) cw_X10_finding cv_X10_finding (by decide) (by decide) (Or.inl (ec_in (i := 1282) (by decide +kernel) rfl)) (T := TX10) (N := 57) rfl (by decide) (by decide +kernel)
  · cases h; exact ec_cV (mt_X10_canShed l) cw_X10_canShed cv_X10_canShed (by decide) (by decide) (Or.inl (ec_in (i := 1392) (by decide +kernel) rfl)) (T := TX10) (N := 57) rfl (by decide) (by decide +kernel)
  · cases h; exact ec_cV (mt_X10_together l) cw_X10_together cv_X10_together (by decide) (by decide) (Or.inl (ec_in (i := 1396) (by decide +kernel) rfl)) (T := TX10) (N := 57) rfl (by decide) (by decide +kernel)
  · cases h
def cx_X10_shed : ex_K := (RX10, ec_fx fl_X10, ec_cx cl_X10, sl_X10, ca_X10_shed, ec_nz, ec_no)
theorem ok_X10_shed (l : Launch) : ex_ok l 2 47 cx_X10_shed := ⟨ec_fok fo_X10, ec_cok co_X10, so_X10, ck_X10_shed l, fun _ h => (by cases h), fun _ h => (by cases h), fun _ h => (by cases h), fun _ _ h => (by cases h)⟩
def sp_X10_shed : ex_S := ex_sp cx_X10_shed cX10_shed 8 (some .int) 400
theorem mt_X10_shed (l : Launch) : ex_Met l yX10_shed cX10_shed 8 (some .int) 2 47 sp_X10_shed := ex_inl (by decide) rfl (ok_X10_shed l)
theorem cw_X10_endText : ec_cw yX10_endText cX10_endText 2 none := ⟨ec_in (i := 1427) (by decide +kernel) rfl, ec_in (i := 68) (by decide +kernel) rfl, by decide, by decide⟩
theorem cv_X10_endText : Cond.instanceMethod yX10_endText ∈ ec_tb ∧ Cond.selects yX10_endText.cls yX10_endText yX10_endText ∈ ec_tb := ⟨ec_in (i := 1426) (by decide +kernel) rfl, ec_in (i := 38) (by decide +kernel) rfl⟩
def cx_X10_endText : ex_K := (RX10, ec_fx fl_X10, ec_cx cl_X10, sl_X10, ec_no, ec_nz, ec_no)
theorem ok_X10_endText (l : Launch) : ex_ok l 0 0 cx_X10_endText := ⟨ec_fok fo_X10, ec_cok co_X10, so_X10, fun _ _ _ _ h => (by cases h), fun _ h => (by cases h), fun _ h => (by cases h), fun _ h => (by cases h), fun _ _ h => (by cases h)⟩
def sp_X10_endText : ex_S := ex_sp cx_X10_endText cX10_endText 2 none 37
theorem mt_X10_endText (l : Launch) : ex_Met l yX10_endText cX10_endText 2 none 0 0 sp_X10_endText := ex_inl (by decide) rfl (ok_X10_endText l)
theorem cw_X10_abortText : ec_cw yX10_abortText cX10_abortText 1 none := ⟨ec_in (i := 1423) (by decide +kernel) rfl, ec_in (i := 68) (by decide +kernel) rfl, by decide, by decide⟩
theorem cv_X10_abortText : Cond.instanceMethod yX10_abortText ∈ ec_tb ∧ Cond.selects yX10_abortText.cls yX10_abortText yX10_abortText ∈ ec_tb := ⟨ec_in (i := 1422) (by decide +kernel) rfl, ec_in (i := 37) (by decide +kernel) rfl⟩
def ca_X10_abortText : Nat → Option (Nat × Option Nat × ex_S) := fun ix => match ix with
  | 205 => some (2, some 10, sp_X10_endText)
  | _ => none
theorem ck_X10_abortText (l : Launch) : ∀ (ix n : Nat) (rc : Option Nat) (sp : ex_S), ca_X10_abortText ix = some (n, rc, sp) → ex_cok l RX10 1 21 ix n rc sp := by
  intro ix n rc sp h
  unfold ca_X10_abortText at h
  split at h
  · cases h; exact ec_cV (mt_X10_endText l) cw_X10_endText cv_X10_endText (by decide) (by decide) (Or.inl (ec_in (i := 1424) (by decide +kernel) rfl)) (T := TX10) (N := 57) rfl (by decide) (by decide +kernel)
  · cases h
def cx_X10_abortText : ex_K := (RX10, ec_fx fl_X10, ec_cx cl_X10, sl_X10, ca_X10_abortText, ec_nz, ec_no)
theorem ok_X10_abortText (l : Launch) : ex_ok l 1 21 cx_X10_abortText := ⟨ec_fok fo_X10, ec_cok co_X10, so_X10, ck_X10_abortText l, fun _ h => (by cases h), fun _ h => (by cases h), fun _ h => (by cases h), fun _ _ h => (by cases h)⟩
def sp_X10_abortText : ex_S := ex_sp cx_X10_abortText cX10_abortText 1 none 40
theorem mt_X10_abortText (l : Launch) : ex_Met l yX10_abortText cX10_abortText 1 none 1 21 sp_X10_abortText := ex_inl (by decide) rfl (ok_X10_abortText l)
theorem cw_X10_isLine : ec_cw yX10_isLine cX10_isLine 2 (some .boolean) := ⟨ec_in (i := 1462) (by decide +kernel) rfl, ec_in (i := 68) (by decide +kernel) rfl, by decide, by decide⟩
theorem cv_X10_isLine : Cond.instanceMethod yX10_isLine ∈ ec_tb ∧ Cond.selects yX10_isLine.cls yX10_isLine yX10_isLine ∈ ec_tb := ⟨ec_in (i := 1461) (by decide +kernel) rfl, ec_in (i := 41) (by decide +kernel) rfl⟩
def cx_X10_isLine : ex_K := (RX10, ec_fx fl_X10, ec_cx cl_X10, sl_X10, ec_no, ec_nz, ec_no)
theorem ok_X10_isLine (l : Launch) : ex_ok l 0 0 cx_X10_isLine := ⟨ec_fok fo_X10, ec_cok co_X10, so_X10, fun _ _ _ _ h => (by cases h), fun _ h => (by cases h), fun _ h => (by cases h), fun _ h => (by cases h), fun _ _ h => (by cases h)⟩
def sp_X10_isLine : ex_S := ex_sp cx_X10_isLine cX10_isLine 2 (some .boolean) 11
theorem mt_X10_isLine (l : Launch) : ex_Met l yX10_isLine cX10_isLine 2 (some .boolean) 0 0 sp_X10_isLine := ex_inl (by decide) rfl (ok_X10_isLine l)
theorem cw_X10_canCheck : ec_cw yX10_canCheck cX10_canCheck 4 (some .boolean) := ⟨ec_in (i := 1470) (by decide +kernel) rfl, ec_in (i := 68) (by decide +kernel) rfl, by decide, by decide⟩
theorem cv_X10_canCheck : Cond.instanceMethod yX10_canCheck ∈ ec_tb ∧ Cond.selects yX10_canCheck.cls yX10_canCheck yX10_canCheck ∈ ec_tb := ⟨ec_in (i := 1469) (by decide +kernel) rfl, ec_in (i := 43) (by decide +kernel) rfl⟩
def ca_X10_canCheck : Nat → Option (Nat × Option Nat × ex_S) := fun ix => match ix with
  | 212 => some (2, some 10, sp_X10_isLine)
  | 171 => some (3, none, sp_X10_isIn)
  | 164 => some (2, some 10, sp_X10_isModule)
  | 184 => some (2, some 10, sp_X10_isMachine)
  | _ => none
theorem ck_X10_canCheck (l : Launch) : ∀ (ix n : Nat) (rc : Option Nat) (sp : ex_S), ca_X10_canCheck ix = some (n, rc, sp) → ex_cok l RX10 1 22 ix n rc sp := by
  intro ix n rc sp h
  unfold ca_X10_canCheck at h
  split at h
  · cases h; exact ec_cV (mt_X10_isLine l) cw_X10_isLine cv_X10_isLine (by decide) (by decide) (Or.inl (ec_in (i := 1459) (by decide +kernel) rfl)) (T := TX10) (N := 57) rfl (by decide) (by decide +kernel)
  · cases h; exact ec_cS (mt_X10_isIn l) cw_X10_isIn cv_X10_isIn (by decide) (by decide) (Or.inl (ec_in (i := 1303) (by decide +kernel) rfl)) (by decide +kernel)
  · cases h; exact ec_cV (mt_X10_isModule l) cw_X10_isModule cv_X10_isModule (by decide) (by decide) (Or.inl (ec_in (i := 1291) (by decide +kernel) rfl)) (T := TX10) (N := 57) rfl (by decide) (by decide +kernel)
  · cases h; exact ec_cV (mt_X10_isMachine l) cw_X10_isMachine cv_X10_isMachine (by decide) (by decide) (Or.inl (ec_in (i := 1356) (by decide +kernel) rfl)) (T := TX10) (N := 57) rfl (by decide) (by decide +kernel)
  · cases h
def cx_X10_canCheck : ex_K := (RX10, ec_fx fl_X10, ec_cx cl_X10, sl_X10, ca_X10_canCheck, ec_nz, ec_no)
theorem ok_X10_canCheck (l : Launch) : ex_ok l 1 22 cx_X10_canCheck := ⟨ec_fok fo_X10, ec_cok co_X10, so_X10, ck_X10_canCheck l, fun _ h => (by cases h), fun _ h => (by cases h), fun _ h => (by cases h), fun _ _ h => (by cases h)⟩
def sp_X10_canCheck : ex_S := ex_sp cx_X10_canCheck cX10_canCheck 4 (some .boolean) 52
theorem mt_X10_canCheck (l : Launch) : ex_Met l yX10_canCheck cX10_canCheck 4 (some .boolean) 1 22 sp_X10_canCheck := ex_inl (by decide) rfl (ok_X10_canCheck l)
theorem cw_X10_isSo : ec_cw yX10_isSo cX10_isSo 3 (some .boolean) := ⟨ec_in (i := 1474) (by decide +kernel) rfl, ec_in (i := 68) (by decide +kernel) rfl, by decide, by decide⟩
theorem cv_X10_isSo : Cond.instanceMethod yX10_isSo ∈ ec_tb ∧ Cond.selects yX10_isSo.cls yX10_isSo yX10_isSo ∈ ec_tb := ⟨ec_in (i := 1473) (by decide +kernel) rfl, ec_in (i := 44) (by decide +kernel) rfl⟩
def cx_X10_isSo : ex_K := (RX10, ec_fx fl_X10, ec_cx cl_X10, sl_X10, ec_no, ec_nz, ec_no)
theorem ok_X10_isSo (l : Launch) : ex_ok l 0 0 cx_X10_isSo := ⟨ec_fok fo_X10, ec_cok co_X10, so_X10, fun _ _ _ _ h => (by cases h), fun _ h => (by cases h), fun _ h => (by cases h), fun _ h => (by cases h), fun _ _ h => (by cases h)⟩
def sp_X10_isSo : ex_S := ex_sp cx_X10_isSo cX10_isSo 3 (some .boolean) 72
theorem mt_X10_isSo (l : Launch) : ex_Met l yX10_isSo cX10_isSo 3 (some .boolean) 0 0 sp_X10_isSo := ex_inl (by decide) rfl (ok_X10_isSo l)
theorem cw_X10_doLine : ec_cw yX10_doLine cX10_doLine 5 (some .boolean) := ⟨ec_in (i := 1466) (by decide +kernel) rfl, ec_in (i := 68) (by decide +kernel) rfl, by decide, by decide⟩
theorem cv_X10_doLine : Cond.instanceMethod yX10_doLine ∈ ec_tb ∧ Cond.selects yX10_doLine.cls yX10_doLine yX10_doLine ∈ ec_tb := ⟨ec_in (i := 1465) (by decide +kernel) rfl, ec_in (i := 42) (by decide +kernel) rfl⟩
def ca_X10_doLine : Nat → Option (Nat × Option Nat × ex_S) := fun ix => match ix with
  | 215 => some (4, some 10, sp_X10_canCheck)
  | 218 => some (3, some 10, sp_X10_isSo)
  | 184 => some (2, some 10, sp_X10_isMachine)
  | 168 => some (2, some 10, sp_X10_isHatch)
  | 171 => some (3, none, sp_X10_isIn)
  | 177 => some (2, some 10, sp_X10_isPerson)
  | 164 => some (2, some 10, sp_X10_isModule)
  | 180 => some (3, some 10, sp_X10_canGo)
  | 212 => some (2, some 10, sp_X10_isLine)
  | 190 => some (4, some 10, sp_X10_refusesMend)
  | 194 => some (4, some 10, sp_X10_beginMend)
  | _ => none
theorem ck_X10_doLine (l : Launch) : ∀ (ix n : Nat) (rc : Option Nat) (sp : ex_S), ca_X10_doLine ix = some (n, rc, sp) → ex_cok l RX10 2 46 ix n rc sp := by
  intro ix n rc sp h
  unfold ca_X10_doLine at h
  split at h
  · cases h; exact ec_cV (mt_X10_canCheck l) cw_X10_canCheck cv_X10_canCheck (by decide) (by decide) (Or.inl (ec_in (i := 1467) (by decide +kernel) rfl)) (T := TX10) (N := 57) rfl (by decide) (by decide +kernel)
  · cases h; exact ec_cV (mt_X10_isSo l) cw_X10_isSo cv_X10_isSo (by decide) (by decide) (Or.inl (ec_in (i := 1471) (by decide +kernel) rfl)) (T := TX10) (N := 57) rfl (by decide) (by decide +kernel)
  · cases h; exact ec_cV (mt_X10_isMachine l) cw_X10_isMachine cv_X10_isMachine (by decide) (by decide) (Or.inl (ec_in (i := 1356) (by decide +kernel) rfl)) (T := TX10) (N := 57) rfl (by decide) (by decide +kernel)
  · cases h; exact ec_cV (mt_X10_isHatch l) cw_X10_isHatch cv_X10_isHatch (by decide) (by decide) (Or.inl (ec_in (i := 1299) (by decide +kernel) rfl)) (T := TX10) (N := 57) rfl (by decide) (by decide +kernel)
  · cases h; exact ec_cS (mt_X10_isIn l) cw_X10_isIn cv_X10_isIn (by decide) (by decide) (Or.inl (ec_in (i := 1303) (by decide +kernel) rfl)) (by decide +kernel)
  · cases h; exact ec_cV (mt_X10_isPerson l) cw_X10_isPerson cv_X10_isPerson (by decide) (by decide) (Or.inl (ec_in (i := 1332) (by decide +kernel) rfl)) (T := TX10) (N := 57) rfl (by decide) (by decide +kernel)
  · cases h; exact ec_cV (mt_X10_isModule l) cw_X10_isModule cv_X10_isModule (by decide) (by decide) (Or.inl (ec_in (i := 1291) (by decide +kernel) rfl)) (T := TX10) (N := 57) rfl (by decide) (by decide +kernel)
  · cases h; exact ec_cV (mt_X10_canGo l) cw_X10_canGo cv_X10_canGo (by decide) (by decide) (Or.inl (ec_in (i := 1336) (by decide +kernel) rfl)) (T := TX10) (N := 57) rfl (by decide) (by decide +kernel)
  · cases h; exact ec_cV (mt_X10_isLine l) cw_X10_isLine cv_X10_isLine (by decide) (by decide) (Or.inl (ec_in (i := 1459) (by decide +kernel) rfl)) (T := TX10) (N := 57) rfl (by decide) (by decide +kernel)
  · cases h; exact ec_cV (mt_X10_refusesMend l) cw_X10_refusesMend cv_X10_refusesMend (by decide) (by decide) (Or.inl (ec_in (i := 1376) (by decide +kernel) rfl)) (T := TX10) (N := 57) rfl (by decide) (by decide +kernel)
  · cases h; exact ec_cV (mt_X10_beginMend l) cw_X10_beginMend cv_X10_beginMend (by decide) (by decide) (Or.inl (ec_in (i := 1384) (by decide +kernel) rfl)) (T := TX10) (N := 57) rfl (by decide) (by decide +kernel)
  · cases h
def cx_X10_doLine : ex_K := (RX10, ec_fx fl_X10, ec_cx cl_X10, sl_X10, ca_X10_doLine, ec_nz, ec_no)
theorem ok_X10_doLine (l : Launch) : ex_ok l 2 46 cx_X10_doLine := ⟨ec_fok fo_X10, ec_cok co_X10, so_X10, ck_X10_doLine l, fun _ h => (by cases h), fun _ h => (by cases h), fun _ h => (by cases h), fun _ _ h => (by cases h)⟩
def sp_X10_doLine : ex_S := ex_sp cx_X10_doLine cX10_doLine 5 (some .boolean) 151
theorem mt_X10_doLine (l : Launch) : ex_Met l yX10_doLine cX10_doLine 5 (some .boolean) 2 46 sp_X10_doLine := ex_inl (by decide) rfl (ok_X10_doLine l)
theorem cw_X10_runText : ec_cw yX10_runText cX10_runText 2 none := ⟨ec_in (i := 1458) (by decide +kernel) rfl, ec_in (i := 68) (by decide +kernel) rfl, by decide, by decide⟩
theorem cv_X10_runText : Cond.instanceMethod yX10_runText ∈ ec_tb ∧ Cond.selects yX10_runText.cls yX10_runText yX10_runText ∈ ec_tb := ⟨ec_in (i := 1457) (by decide +kernel) rfl, ec_in (i := 40) (by decide +kernel) rfl⟩
def ca_X10_runText : Nat → Option (Nat × Option Nat × ex_S) := fun ix => match ix with
  | 212 => some (2, some 10, sp_X10_isLine)
  | 205 => some (2, some 10, sp_X10_endText)
  | 221 => some (5, some 10, sp_X10_doLine)
  | 225 => some (1, some 10, sp_X10_abortText)
  | _ => none
theorem ck_X10_runText (l : Launch) : ∀ (ix n : Nat) (rc : Option Nat) (sp : ex_S), ca_X10_runText ix = some (n, rc, sp) → ex_cok l RX10 3 70 ix n rc sp := by
  intro ix n rc sp h
  unfold ca_X10_runText at h
  split at h
  · cases h; exact ec_cV (mt_X10_isLine l) cw_X10_isLine cv_X10_isLine (by decide) (by decide) (Or.inl (ec_in (i := 1459) (by decide +kernel) rfl)) (T := TX10) (N := 57) rfl (by decide) (by decide +kernel)
  · cases h; exact ec_cV (mt_X10_endText l) cw_X10_endText cv_X10_endText (by decide) (by decide) (Or.inl (ec_in (i := 1424) (by decide +kernel) rfl)) (T := TX10) (N := 57) rfl (by decide) (by decide +kernel)
  · cases h; exact ec_cV (mt_X10_doLine l) cw_X10_doLine cv_X10_doLine (by decide) (by decide) (Or.inl (ec_in (i := 1463) (by decide +kernel) rfl)) (T := TX10) (N := 57) rfl (by decide) (by decide +kernel)
  · cases h; exact ec_cV (mt_X10_abortText l) cw_X10_abortText cv_X10_abortText (by decide) (by decide) (Or.inl (ec_in (i := 1420) (by decide +kernel) rfl)) (T := TX10) (N := 57) rfl (by decide) (by decide +kernel)
  · cases h
def cx_X10_runText : ex_K := (RX10, ec_fx fl_X10, ec_cx cl_X10, sl_X10, ca_X10_runText, ec_nz, ec_no)
theorem ok_X10_runText (l : Launch) : ex_ok l 3 70 cx_X10_runText := ⟨ec_fok fo_X10, ec_cok co_X10, so_X10, ck_X10_runText l, fun _ h => (by cases h), fun _ h => (by cases h), fun _ h => (by cases h), fun _ _ h => (by cases h)⟩
def sp_X10_runText : ex_S := ex_sp cx_X10_runText cX10_runText 2 none 79
theorem mt_X10_runText (l : Launch) : ex_Met l yX10_runText cX10_runText 2 none 3 70 sp_X10_runText := ex_inl (by decide) rfl (ok_X10_runText l)
theorem cw_X10_line : ec_cw yX10_line cX10_line 5 (some .int) := ⟨ec_in (i := 1403) (by decide +kernel) rfl, ec_in (i := 68) (by decide +kernel) rfl, by decide, by decide⟩
theorem cv_X10_line : Cond.instanceMethod yX10_line ∈ ec_tb ∧ Cond.selects yX10_line.cls yX10_line yX10_line ∈ ec_tb := ⟨ec_in (i := 1401) (by decide +kernel) rfl, ec_in (i := 1402) (by decide +kernel) rfl⟩
def ca_X10_line : Nat → Option (Nat × Option Nat × ex_S) := fun ix => match ix with
  | 171 => some (3, none, sp_X10_isIn)
  | 160 => some (2, some 10, sp_X10_finding)
  | _ => none
theorem ck_X10_line (l : Launch) : ∀ (ix n : Nat) (rc : Option Nat) (sp : ex_S), ca_X10_line ix = some (n, rc, sp) → ex_cok l RX10 1 22 ix n rc sp := by
  intro ix n rc sp h
  unfold ca_X10_line at h
  split at h
  · cases h; exact ec_cS (mt_X10_isIn l) cw_X10_isIn cv_X10_isIn (by decide) (by decide) (Or.inl (ec_in (i := 1303) (by decide +kernel) rfl)) (by decide +kernel)
  · cases h; exact ec_cV (mt_X10_finding l) cw_X10_finding cv_X10_finding (by decide) (by decide) (Or.inl (ec_in (i := 1282) (by decide +kernel) rfl)) (T := TX10) (N := 57) rfl (by decide) (by decide +kernel)
  · cases h
def cx_X10_line : ex_K := (RX10, ec_fx fl_X10, ec_cx cl_X10, sl_X10, ca_X10_line, ec_nz, ec_no)
theorem ok_X10_line (l : Launch) : ex_ok l 1 22 cx_X10_line := ⟨ec_fok fo_X10, ec_cok co_X10, so_X10, ck_X10_line l, fun _ h => (by cases h), fun _ h => (by cases h), fun _ h => (by cases h), fun _ _ h => (by cases h)⟩
def sp_X10_line : ex_S := ex_sp cx_X10_line cX10_line 5 (some .int) 63
theorem mt_X10_line (l : Launch) : ex_Met l yX10_line cX10_line 5 (some .int) 1 22 sp_X10_line := ex_inl (by decide) rfl (ok_X10_line l)
theorem cw_X10_erase : ec_cw yX10_erase cX10_erase 2 (some .int) := ⟨ec_in (i := 1407) (by decide +kernel) rfl, ec_in (i := 68) (by decide +kernel) rfl, by decide, by decide⟩
theorem cv_X10_erase : Cond.instanceMethod yX10_erase ∈ ec_tb ∧ Cond.selects yX10_erase.cls yX10_erase yX10_erase ∈ ec_tb := ⟨ec_in (i := 1405) (by decide +kernel) rfl, ec_in (i := 1406) (by decide +kernel) rfl⟩
def ca_X10_erase : Nat → Option (Nat × Option Nat × ex_S) := fun ix => match ix with
  | 160 => some (2, some 10, sp_X10_finding)
  | _ => none
theorem ck_X10_erase (l : Launch) : ∀ (ix n : Nat) (rc : Option Nat) (sp : ex_S), ca_X10_erase ix = some (n, rc, sp) → ex_cok l RX10 1 21 ix n rc sp := by
  intro ix n rc sp h
  unfold ca_X10_erase at h
  split at h
  · cases h; exact ec_cV (mt_X10_finding l) cw_X10_finding cv_X10_finding (by decide) (by decide) (Or.inl (ec_in (i := 1282) (by decide +kernel) rfl)) (T := TX10) (N := 57) rfl (by decide) (by decide +kernel)
  · cases h
def cx_X10_erase : ex_K := (RX10, ec_fx fl_X10, ec_cx cl_X10, sl_X10, ca_X10_erase, ec_nz, ec_no)
theorem ok_X10_erase (l : Launch) : ex_ok l 1 21 cx_X10_erase := ⟨ec_fok fo_X10, ec_cok co_X10, so_X10, ck_X10_erase l, fun _ h => (by cases h), fun _ h => (by cases h), fun _ h => (by cases h), fun _ _ h => (by cases h)⟩
def sp_X10_erase : ex_S := ex_sp cx_X10_erase cX10_erase 2 (some .int) 19
theorem mt_X10_erase (l : Launch) : ex_Met l yX10_erase cX10_erase 2 (some .int) 1 21 sp_X10_erase := ex_inl (by decide) rfl (ok_X10_erase l)
theorem cw_X10_begin : ec_cw yX10_begin cX10_begin 1 (some .int) := ⟨ec_in (i := 1411) (by decide +kernel) rfl, ec_in (i := 68) (by decide +kernel) rfl, by decide, by decide⟩
theorem cv_X10_begin : Cond.instanceMethod yX10_begin ∈ ec_tb ∧ Cond.selects yX10_begin.cls yX10_begin yX10_begin ∈ ec_tb := ⟨ec_in (i := 1409) (by decide +kernel) rfl, ec_in (i := 1410) (by decide +kernel) rfl⟩
def ca_X10_begin : Nat → Option (Nat × Option Nat × ex_S) := fun ix => match ix with
  | 160 => some (2, some 10, sp_X10_finding)
  | _ => none
theorem ck_X10_begin (l : Launch) : ∀ (ix n : Nat) (rc : Option Nat) (sp : ex_S), ca_X10_begin ix = some (n, rc, sp) → ex_cok l RX10 1 21 ix n rc sp := by
  intro ix n rc sp h
  unfold ca_X10_begin at h
  split at h
  · cases h; exact ec_cV (mt_X10_finding l) cw_X10_finding cv_X10_finding (by decide) (by decide) (Or.inl (ec_in (i := 1282) (by decide +kernel) rfl)) (T := TX10) (N := 57) rfl (by decide) (by decide +kernel)
  · cases h
def cx_X10_begin : ex_K := (RX10, ec_fx fl_X10, ec_cx cl_X10, sl_X10, ca_X10_begin, ec_nz, ec_no)
theorem ok_X10_begin (l : Launch) : ex_ok l 1 21 cx_X10_begin := ⟨ec_fok fo_X10, ec_cok co_X10, so_X10, ck_X10_begin l, fun _ h => (by cases h), fun _ h => (by cases h), fun _ h => (by cases h), fun _ _ h => (by cases h)⟩
def sp_X10_begin : ex_S := ex_sp cx_X10_begin cX10_begin 1 (some .int) 26
theorem mt_X10_begin (l : Launch) : ex_Met l yX10_begin cX10_begin 1 (some .int) 1 21 sp_X10_begin := ex_inl (by decide) rfl (ok_X10_begin l)
theorem cw_X10_halt : ec_cw yX10_halt cX10_halt 2 (some .int) := ⟨ec_in (i := 1415) (by decide +kernel) rfl, ec_in (i := 68) (by decide +kernel) rfl, by decide, by decide⟩
theorem cv_X10_halt : Cond.instanceMethod yX10_halt ∈ ec_tb ∧ Cond.selects yX10_halt.cls yX10_halt yX10_halt ∈ ec_tb := ⟨ec_in (i := 1413) (by decide +kernel) rfl, ec_in (i := 1414) (by decide +kernel) rfl⟩
def ca_X10_halt : Nat → Option (Nat × Option Nat × ex_S) := fun ix => match ix with
  | 171 => some (3, none, sp_X10_isIn)
  | 160 => some (2, some 10, sp_X10_finding)
  | _ => none
theorem ck_X10_halt (l : Launch) : ∀ (ix n : Nat) (rc : Option Nat) (sp : ex_S), ca_X10_halt ix = some (n, rc, sp) → ex_cok l RX10 1 22 ix n rc sp := by
  intro ix n rc sp h
  unfold ca_X10_halt at h
  split at h
  · cases h; exact ec_cS (mt_X10_isIn l) cw_X10_isIn cv_X10_isIn (by decide) (by decide) (Or.inl (ec_in (i := 1303) (by decide +kernel) rfl)) (by decide +kernel)
  · cases h; exact ec_cV (mt_X10_finding l) cw_X10_finding cv_X10_finding (by decide) (by decide) (Or.inl (ec_in (i := 1282) (by decide +kernel) rfl)) (T := TX10) (N := 57) rfl (by decide) (by decide +kernel)
  · cases h
def cx_X10_halt : ex_K := (RX10, ec_fx fl_X10, ec_cx cl_X10, sl_X10, ca_X10_halt, ec_nz, ec_no)
theorem ok_X10_halt (l : Launch) : ex_ok l 1 22 cx_X10_halt := ⟨ec_fok fo_X10, ec_cok co_X10, so_X10, ck_X10_halt l, fun _ h => (by cases h), fun _ h => (by cases h), fun _ h => (by cases h), fun _ _ h => (by cases h)⟩
def sp_X10_halt : ex_S := ex_sp cx_X10_halt cX10_halt 2 (some .int) 32
theorem mt_X10_halt (l : Launch) : ex_Met l yX10_halt cX10_halt 2 (some .int) 1 22 sp_X10_halt := ex_inl (by decide) rfl (ok_X10_halt l)
theorem cw_X10_abort : ec_cw yX10_abort cX10_abort 1 (some .int) := ⟨ec_in (i := 1419) (by decide +kernel) rfl, ec_in (i := 68) (by decide +kernel) rfl, by decide, by decide⟩
theorem cv_X10_abort : Cond.instanceMethod yX10_abort ∈ ec_tb ∧ Cond.selects yX10_abort.cls yX10_abort yX10_abort ∈ ec_tb := ⟨ec_in (i := 1417) (by decide +kernel) rfl, ec_in (i := 1418) (by decide +kernel) rfl⟩
def ca_X10_abort : Nat → Option (Nat × Option Nat × ex_S) := fun ix => match ix with
  | 160 => some (2, some 10, sp_X10_finding)
  | 225 => some (1, some 10, sp_X10_abortText)
  | _ => none
theorem ck_X10_abort (l : Launch) : ∀ (ix n : Nat) (rc : Option Nat) (sp : ex_S), ca_X10_abort ix = some (n, rc, sp) → ex_cok l RX10 2 41 ix n rc sp := by
  intro ix n rc sp h
  unfold ca_X10_abort at h
  split at h
  · cases h; exact ec_cV (mt_X10_finding l) cw_X10_finding cv_X10_finding (by decide) (by decide) (Or.inl (ec_in (i := 1282) (by decide +kernel) rfl)) (T := TX10) (N := 57) rfl (by decide) (by decide +kernel)
  · cases h; exact ec_cV (mt_X10_abortText l) cw_X10_abortText cv_X10_abortText (by decide) (by decide) (Or.inl (ec_in (i := 1420) (by decide +kernel) rfl)) (T := TX10) (N := 57) rfl (by decide) (by decide +kernel)
  · cases h
def cx_X10_abort : ex_K := (RX10, ec_fx fl_X10, ec_cx cl_X10, sl_X10, ca_X10_abort, ec_nz, ec_no)
theorem ok_X10_abort (l : Launch) : ex_ok l 2 41 cx_X10_abort := ⟨ec_fok fo_X10, ec_cok co_X10, so_X10, ck_X10_abort l, fun _ h => (by cases h), fun _ h => (by cases h), fun _ h => (by cases h), fun _ _ h => (by cases h)⟩
def sp_X10_abort : ex_S := ex_sp cx_X10_abort cX10_abort 1 (some .int) 17
theorem mt_X10_abort (l : Launch) : ex_Met l yX10_abort cX10_abort 1 (some .int) 2 41 sp_X10_abort := ex_inl (by decide) rfl (ok_X10_abort l)
theorem cw_X10_text : ec_cw yX10_text cX10_text 2 (some .int) := ⟨ec_in (i := 1431) (by decide +kernel) rfl, ec_in (i := 68) (by decide +kernel) rfl, by decide, by decide⟩
theorem cv_X10_text : Cond.instanceMethod yX10_text ∈ ec_tb ∧ Cond.selects yX10_text.cls yX10_text yX10_text ∈ ec_tb := ⟨ec_in (i := 1429) (by decide +kernel) rfl, ec_in (i := 1430) (by decide +kernel) rfl⟩
def ca_X10_text : Nat → Option (Nat × Option Nat × ex_S) := fun ix => match ix with
  | 171 => some (3, none, sp_X10_isIn)
  | 160 => some (2, some 10, sp_X10_finding)
  | _ => none
theorem ck_X10_text (l : Launch) : ∀ (ix n : Nat) (rc : Option Nat) (sp : ex_S), ca_X10_text ix = some (n, rc, sp) → ex_cok l RX10 1 22 ix n rc sp := by
  intro ix n rc sp h
  unfold ca_X10_text at h
  split at h
  · cases h; exact ec_cS (mt_X10_isIn l) cw_X10_isIn cv_X10_isIn (by decide) (by decide) (Or.inl (ec_in (i := 1303) (by decide +kernel) rfl)) (by decide +kernel)
  · cases h; exact ec_cV (mt_X10_finding l) cw_X10_finding cv_X10_finding (by decide) (by decide) (Or.inl (ec_in (i := 1282) (by decide +kernel) rfl)) (T := TX10) (N := 57) rfl (by decide) (by decide +kernel)
  · cases h
def cx_X10_text : ex_K := (RX10, ec_fx fl_X10, ec_cx cl_X10, sl_X10, ca_X10_text, ec_nz, ec_no)
theorem ok_X10_text (l : Launch) : ex_ok l 1 22 cx_X10_text := ⟨ec_fok fo_X10, ec_cok co_X10, so_X10, ck_X10_text l, fun _ h => (by cases h), fun _ h => (by cases h), fun _ h => (by cases h), fun _ _ h => (by cases h)⟩
def sp_X10_text : ex_S := ex_sp cx_X10_text cX10_text 2 (some .int) 17
theorem mt_X10_text (l : Launch) : ex_Met l yX10_text cX10_text 2 (some .int) 1 22 sp_X10_text := ex_inl (by decide) rfl (ok_X10_text l)
theorem cw_X10_mendAll : ec_cw yX10_mendAll cX10_mendAll 2 none := ⟨ec_in (i := 1478) (by decide +kernel) rfl, ec_in (i := 68) (by decide +kernel) rfl, by decide, by decide⟩
theorem cv_X10_mendAll : Cond.instanceMethod yX10_mendAll ∈ ec_tb ∧ Cond.selects yX10_mendAll.cls yX10_mendAll yX10_mendAll ∈ ec_tb := ⟨ec_in (i := 1477) (by decide +kernel) rfl, ec_in (i := 45) (by decide +kernel) rfl⟩
def cx_X10_mendAll : ex_K := (RX10, ec_fx fl_X10, ec_cx cl_X10, sl_X10, ec_no, ec_nz, ec_no)
theorem ok_X10_mendAll (l : Launch) : ex_ok l 0 0 cx_X10_mendAll := ⟨ec_fok fo_X10, ec_cok co_X10, so_X10, fun _ _ _ _ h => (by cases h), fun _ h => (by cases h), fun _ h => (by cases h), fun _ h => (by cases h), fun _ _ h => (by cases h)⟩
def sp_X10_mendAll : ex_S := ex_sp cx_X10_mendAll cX10_mendAll 2 none 400
theorem mt_X10_mendAll (l : Launch) : ex_Met l yX10_mendAll cX10_mendAll 2 none 0 0 sp_X10_mendAll := ex_inl (by decide) rfl (ok_X10_mendAll l)
theorem cw_X10_feedAll : ec_cw yX10_feedAll cX10_feedAll 4 none := ⟨ec_in (i := 1482) (by decide +kernel) rfl, ec_in (i := 68) (by decide +kernel) rfl, by decide, by decide⟩
theorem cv_X10_feedAll : Cond.instanceMethod yX10_feedAll ∈ ec_tb ∧ Cond.selects yX10_feedAll.cls yX10_feedAll yX10_feedAll ∈ ec_tb := ⟨ec_in (i := 1481) (by decide +kernel) rfl, ec_in (i := 46) (by decide +kernel) rfl⟩
def ca_X10_feedAll : Nat → Option (Nat × Option Nat × ex_S) := fun ix => match ix with
  | 198 => some (2, some 10, sp_X10_canShed)
  | _ => none
theorem ck_X10_feedAll (l : Launch) : ∀ (ix n : Nat) (rc : Option Nat) (sp : ex_S), ca_X10_feedAll ix = some (n, rc, sp) → ex_cok l RX10 1 21 ix n rc sp := by
  intro ix n rc sp h
  unfold ca_X10_feedAll at h
  split at h
  · cases h; exact ec_cV (mt_X10_canShed l) cw_X10_canShed cv_X10_canShed (by decide) (by decide) (Or.inl (ec_in (i := 1392) (by decide +kernel) rfl)) (T := TX10) (N := 57) rfl (by decide) (by decide +kernel)
  · cases h
def cx_X10_feedAll : ex_K := (RX10, ec_fx fl_X10, ec_cx cl_X10, sl_X10, ca_X10_feedAll, ec_nz, ec_no)
theorem ok_X10_feedAll (l : Launch) : ex_ok l 1 21 cx_X10_feedAll := ⟨ec_fok fo_X10, ec_cok co_X10, so_X10, ck_X10_feedAll l, fun _ h => (by cases h), fun _ h => (by cases h), fun _ h => (by cases h), fun _ _ h => (by cases h)⟩
def sp_X10_feedAll : ex_S := ex_sp cx_X10_feedAll cX10_feedAll 4 none 400
theorem mt_X10_feedAll (l : Launch) : ex_Met l yX10_feedAll cX10_feedAll 4 none 1 21 sp_X10_feedAll := ex_inl (by decide) rfl (ok_X10_feedAll l)
theorem cw_X10_lesser : ec_cw yX10_lesser cX10_lesser 2 (some .int) := ⟨ec_in (i := 1438) (by decide +kernel) rfl, ec_in (i := 68) (by decide +kernel) rfl, by decide, by decide⟩
theorem cv_X10_lesser : Cond.static yX10_lesser ∈ ec_tb := ec_in (i := 1437) (by decide +kernel) rfl
def cx_X10_lesser : ex_K := (RX10, ec_fx fl_X10, ec_cx cl_X10, sl_X10, ec_no, ec_nz, ec_no)
theorem ok_X10_lesser (l : Launch) : ex_ok l 0 0 cx_X10_lesser := ⟨ec_fok fo_X10, ec_cok co_X10, so_X10, fun _ _ _ _ h => (by cases h), fun _ h => (by cases h), fun _ h => (by cases h), fun _ h => (by cases h), fun _ _ h => (by cases h)⟩
def sp_X10_lesser : ex_S := ex_sp cx_X10_lesser cX10_lesser 2 (some .int) 8
theorem mt_X10_lesser (l : Launch) : ex_Met l yX10_lesser cX10_lesser 2 (some .int) 0 0 sp_X10_lesser := ex_inl (by decide) rfl (ok_X10_lesser l)
theorem cw_X10_workOf : ec_cw yX10_workOf cX10_workOf 4 none := ⟨ec_in (i := 1486) (by decide +kernel) rfl, ec_in (i := 68) (by decide +kernel) rfl, by decide, by decide⟩
theorem cv_X10_workOf : Cond.instanceMethod yX10_workOf ∈ ec_tb ∧ Cond.selects yX10_workOf.cls yX10_workOf yX10_workOf ∈ ec_tb := ⟨ec_in (i := 1485) (by decide +kernel) rfl, ec_in (i := 47) (by decide +kernel) rfl⟩
def ca_X10_workOf : Nat → Option (Nat × Option Nat × ex_S) := fun ix => match ix with
  | 231 => some (2, none, sp_X10_lesser)
  | _ => none
theorem ck_X10_workOf (l : Launch) : ∀ (ix n : Nat) (rc : Option Nat) (sp : ex_S), ca_X10_workOf ix = some (n, rc, sp) → ex_cok l RX10 1 21 ix n rc sp := by
  intro ix n rc sp h
  unfold ca_X10_workOf at h
  split at h
  · cases h; exact ec_cS (mt_X10_lesser l) cw_X10_lesser cv_X10_lesser (by decide) (by decide) (Or.inl (ec_in (i := 1436) (by decide +kernel) rfl)) (by decide +kernel)
  · cases h
def cx_X10_workOf : ex_K := (RX10, ec_fx fl_X10, ec_cx cl_X10, sl_X10, ca_X10_workOf, ec_nz, ec_no)
theorem ok_X10_workOf (l : Launch) : ex_ok l 1 21 cx_X10_workOf := ⟨ec_fok fo_X10, ec_cok co_X10, so_X10, ck_X10_workOf l, fun _ h => (by cases h), fun _ h => (by cases h), fun _ h => (by cases h), fun _ _ h => (by cases h)⟩
def sp_X10_workOf : ex_S := ex_sp cx_X10_workOf cX10_workOf 4 none 241
theorem mt_X10_workOf (l : Launch) : ex_Met l yX10_workOf cX10_workOf 4 none 1 21 sp_X10_workOf := ex_inl (by decide) rfl (ok_X10_workOf l)
theorem cw_X10_breathe : ec_cw yX10_breathe cX10_breathe 5 none := ⟨ec_in (i := 1490) (by decide +kernel) rfl, ec_in (i := 68) (by decide +kernel) rfl, by decide, by decide⟩
theorem cv_X10_breathe : Cond.instanceMethod yX10_breathe ∈ ec_tb ∧ Cond.selects yX10_breathe.cls yX10_breathe yX10_breathe ∈ ec_tb := ⟨ec_in (i := 1489) (by decide +kernel) rfl, ec_in (i := 48) (by decide +kernel) rfl⟩
def ca_X10_breathe : Nat → Option (Nat × Option Nat × ex_S) := fun ix => match ix with
  | 231 => some (2, none, sp_X10_lesser)
  | _ => none
theorem ck_X10_breathe (l : Launch) : ∀ (ix n : Nat) (rc : Option Nat) (sp : ex_S), ca_X10_breathe ix = some (n, rc, sp) → ex_cok l RX10 1 21 ix n rc sp := by
  intro ix n rc sp h
  unfold ca_X10_breathe at h
  split at h
  · cases h; exact ec_cS (mt_X10_lesser l) cw_X10_lesser cv_X10_lesser (by decide) (by decide) (Or.inl (ec_in (i := 1436) (by decide +kernel) rfl)) (by decide +kernel)
  · cases h
def cx_X10_breathe : ex_K := (RX10, ec_fx fl_X10, ec_cx cl_X10, sl_X10, ca_X10_breathe, ec_nz, ec_no)
theorem ok_X10_breathe (l : Launch) : ex_ok l 1 21 cx_X10_breathe := ⟨ec_fok fo_X10, ec_cok co_X10, so_X10, ck_X10_breathe l, fun _ h => (by cases h), fun _ h => (by cases h), fun _ h => (by cases h), fun _ _ h => (by cases h)⟩
def sp_X10_breathe : ex_S := ex_sp cx_X10_breathe cX10_breathe 5 none 150
theorem mt_X10_breathe (l : Launch) : ex_Met l yX10_breathe cX10_breathe 5 none 1 21 sp_X10_breathe := ex_inl (by decide) rfl (ok_X10_breathe l)
theorem cw_X10_leakAll : ec_cw yX10_leakAll cX10_leakAll 3 none := ⟨ec_in (i := 1494) (by decide +kernel) rfl, ec_in (i := 68) (by decide +kernel) rfl, by decide, by decide⟩
theorem cv_X10_leakAll : Cond.instanceMethod yX10_leakAll ∈ ec_tb ∧ Cond.selects yX10_leakAll.cls yX10_leakAll yX10_leakAll ∈ ec_tb := ⟨ec_in (i := 1493) (by decide +kernel) rfl, ec_in (i := 49) (by decide +kernel) rfl⟩
def cx_X10_leakAll : ex_K := (RX10, ec_fx fl_X10, ec_cx cl_X10, sl_X10, ec_no, ec_nz, ll_X10)
theorem ok_X10_leakAll (l : Launch) : ex_ok l 0 0 cx_X10_leakAll := ⟨ec_fok fo_X10, ec_cok co_X10, so_X10, fun _ _ _ _ h => (by cases h), fun _ h => (by cases h), fun _ h => (by cases h), fun _ h => (by cases h), lo_X10⟩
def sp_X10_leakAll : ex_S := ex_sp cx_X10_leakAll cX10_leakAll 3 none 400
theorem mt_X10_leakAll (l : Launch) : ex_Met l yX10_leakAll cX10_leakAll 3 none 0 0 sp_X10_leakAll := ex_inl (by decide) rfl (ok_X10_leakAll l)
theorem cw_X10_mixAll : ec_cw yX10_mixAll cX10_mixAll 4 none := ⟨ec_in (i := 1499) (by decide +kernel) rfl, ec_in (i := 68) (by decide +kernel) rfl, by decide, by decide⟩
theorem cv_X10_mixAll : Cond.instanceMethod yX10_mixAll ∈ ec_tb ∧ Cond.selects yX10_mixAll.cls yX10_mixAll yX10_mixAll ∈ ec_tb := ⟨ec_in (i := 1498) (by decide +kernel) rfl, ec_in (i := 50) (by decide +kernel) rfl⟩
def cx_X10_mixAll : ex_K := (RX10, ec_fx fl_X10, ec_cx cl_X10, sl_X10, ec_no, ec_nz, ec_no)
theorem ok_X10_mixAll (l : Launch) : ex_ok l 0 0 cx_X10_mixAll := ⟨ec_fok fo_X10, ec_cok co_X10, so_X10, fun _ _ _ _ h => (by cases h), fun _ h => (by cases h), fun _ h => (by cases h), fun _ h => (by cases h), fun _ _ h => (by cases h)⟩
def sp_X10_mixAll : ex_S := ex_sp cx_X10_mixAll cX10_mixAll 4 none 400
theorem mt_X10_mixAll (l : Launch) : ex_Met l yX10_mixAll cX10_mixAll 4 none 0 0 sp_X10_mixAll := ex_inl (by decide) rfl (ok_X10_mixAll l)
theorem cw_X10_brokenAt : ec_cw yX10_brokenAt cX10_brokenAt 4 (some .int) := ⟨ec_in (i := 1503) (by decide +kernel) rfl, ec_in (i := 68) (by decide +kernel) rfl, by decide, by decide⟩
theorem cv_X10_brokenAt : Cond.instanceMethod yX10_brokenAt ∈ ec_tb ∧ Cond.selects yX10_brokenAt.cls yX10_brokenAt yX10_brokenAt ∈ ec_tb := ⟨ec_in (i := 1502) (by decide +kernel) rfl, ec_in (i := 51) (by decide +kernel) rfl⟩
def cx_X10_brokenAt : ex_K := (RX10, ec_fx fl_X10, ec_cx cl_X10, sl_X10, ec_no, ec_nz, ec_no)
theorem ok_X10_brokenAt (l : Launch) : ex_ok l 0 0 cx_X10_brokenAt := ⟨ec_fok fo_X10, ec_cok co_X10, so_X10, fun _ _ _ _ h => (by cases h), fun _ h => (by cases h), fun _ h => (by cases h), fun _ h => (by cases h), fun _ _ h => (by cases h)⟩
def sp_X10_brokenAt : ex_S := ex_sp cx_X10_brokenAt cX10_brokenAt 4 (some .int) 400
theorem mt_X10_brokenAt (l : Launch) : ex_Met l yX10_brokenAt cX10_brokenAt 4 (some .int) 0 0 sp_X10_brokenAt := ex_inl (by decide) rfl (ok_X10_brokenAt l)
theorem cw_X10_tick : ec_cw yX10_tick cX10_tick 2 (some .boolean) := ⟨ec_in (i := 1454) (by decide +kernel) rfl, ec_in (i := 68) (by decide +kernel) rfl, by decide, by decide⟩
theorem cv_X10_tick : Cond.instanceMethod yX10_tick ∈ ec_tb ∧ Cond.selects yX10_tick.cls yX10_tick yX10_tick ∈ ec_tb := ⟨ec_in (i := 1453) (by decide +kernel) rfl, ec_in (i := 39) (by decide +kernel) rfl⟩
def ca_X10_tick : Nat → Option (Nat × Option Nat × ex_S) := fun ix => match ix with
  | 237 => some (1, some 10, sp_X10_runText)
  | 240 => some (1, some 10, sp_X10_mendAll)
  | 243 => some (1, some 10, sp_X10_feedAll)
  | 246 => some (2, some 10, sp_X10_workOf)
  | 249 => some (2, some 10, sp_X10_breathe)
  | 252 => some (1, some 10, sp_X10_leakAll)
  | 255 => some (1, some 10, sp_X10_mixAll)
  | 258 => some (1, some 10, sp_X10_brokenAt)
  | _ => none
theorem ck_X10_tick (l : Launch) : ∀ (ix n : Nat) (rc : Option Nat) (sp : ex_S), ca_X10_tick ix = some (n, rc, sp) → ex_cok l RX10 4 91 ix n rc sp := by
  intro ix n rc sp h
  unfold ca_X10_tick at h
  split at h
  · cases h; exact ec_cV (mt_X10_runText l) cw_X10_runText cv_X10_runText (by decide) (by decide) (Or.inl (ec_in (i := 1455) (by decide +kernel) rfl)) (T := TX10) (N := 57) rfl (by decide) (by decide +kernel)
  · cases h; exact ec_cV (mt_X10_mendAll l) cw_X10_mendAll cv_X10_mendAll (by decide) (by decide) (Or.inl (ec_in (i := 1475) (by decide +kernel) rfl)) (T := TX10) (N := 57) rfl (by decide) (by decide +kernel)
  · cases h; exact ec_cV (mt_X10_feedAll l) cw_X10_feedAll cv_X10_feedAll (by decide) (by decide) (Or.inl (ec_in (i := 1479) (by decide +kernel) rfl)) (T := TX10) (N := 57) rfl (by decide) (by decide +kernel)
  · cases h; exact ec_cV (mt_X10_workOf l) cw_X10_workOf cv_X10_workOf (by decide) (by decide) (Or.inl (ec_in (i := 1483) (by decide +kernel) rfl)) (T := TX10) (N := 57) rfl (by decide) (by decide +kernel)
  · cases h; exact ec_cV (mt_X10_breathe l) cw_X10_breathe cv_X10_breathe (by decide) (by decide) (Or.inl (ec_in (i := 1487) (by decide +kernel) rfl)) (T := TX10) (N := 57) rfl (by decide) (by decide +kernel)
  · cases h; exact ec_cV (mt_X10_leakAll l) cw_X10_leakAll cv_X10_leakAll (by decide) (by decide) (Or.inl (ec_in (i := 1491) (by decide +kernel) rfl)) (T := TX10) (N := 57) rfl (by decide) (by decide +kernel)
  · cases h; exact ec_cV (mt_X10_mixAll l) cw_X10_mixAll cv_X10_mixAll (by decide) (by decide) (Or.inl (ec_in (i := 1496) (by decide +kernel) rfl)) (T := TX10) (N := 57) rfl (by decide) (by decide +kernel)
  · cases h; exact ec_cV (mt_X10_brokenAt l) cw_X10_brokenAt cv_X10_brokenAt (by decide) (by decide) (Or.inl (ec_in (i := 1500) (by decide +kernel) rfl)) (T := TX10) (N := 57) rfl (by decide) (by decide +kernel)
  · cases h
def cx_X10_tick : ex_K := (RX10, ec_fx fl_X10, ec_cx cl_X10, sl_X10, ca_X10_tick, ec_nz, ec_no)
theorem ok_X10_tick (l : Launch) : ex_ok l 4 91 cx_X10_tick := ⟨ec_fok fo_X10, ec_cok co_X10, so_X10, ck_X10_tick l, fun _ h => (by cases h), fun _ h => (by cases h), fun _ h => (by cases h), fun _ _ h => (by cases h)⟩
def sp_X10_tick : ex_S := ex_sp cx_X10_tick cX10_tick 2 (some .boolean) 400
theorem mt_X10_tick (l : Launch) : ex_Met l yX10_tick cX10_tick 2 (some .boolean) 4 91 sp_X10_tick := ex_inl (by decide) rfl (ok_X10_tick l)
theorem cw_X10_sun : ec_cw yX10_sun cX10_sun 3 (some .int) := ⟨ec_in (i := 1435) (by decide +kernel) rfl, ec_in (i := 68) (by decide +kernel) rfl, by decide, by decide⟩
theorem cv_X10_sun : Cond.instanceMethod yX10_sun ∈ ec_tb ∧ Cond.selects yX10_sun.cls yX10_sun yX10_sun ∈ ec_tb := ⟨ec_in (i := 1433) (by decide +kernel) rfl, ec_in (i := 1434) (by decide +kernel) rfl⟩
def ca_X10_sun : Nat → Option (Nat × Option Nat × ex_S) := fun ix => match ix with
  | 171 => some (3, none, sp_X10_isIn)
  | 160 => some (2, some 10, sp_X10_finding)
  | 231 => some (2, none, sp_X10_lesser)
  | _ => none
theorem ck_X10_sun (l : Launch) : ∀ (ix n : Nat) (rc : Option Nat) (sp : ex_S), ca_X10_sun ix = some (n, rc, sp) → ex_cok l RX10 1 22 ix n rc sp := by
  intro ix n rc sp h
  unfold ca_X10_sun at h
  split at h
  · cases h; exact ec_cS (mt_X10_isIn l) cw_X10_isIn cv_X10_isIn (by decide) (by decide) (Or.inl (ec_in (i := 1303) (by decide +kernel) rfl)) (by decide +kernel)
  · cases h; exact ec_cV (mt_X10_finding l) cw_X10_finding cv_X10_finding (by decide) (by decide) (Or.inl (ec_in (i := 1282) (by decide +kernel) rfl)) (T := TX10) (N := 57) rfl (by decide) (by decide +kernel)
  · cases h; exact ec_cS (mt_X10_lesser l) cw_X10_lesser cv_X10_lesser (by decide) (by decide) (Or.inl (ec_in (i := 1436) (by decide +kernel) rfl)) (by decide +kernel)
  · cases h
def cx_X10_sun : ex_K := (RX10, ec_fx fl_X10, ec_cx cl_X10, sl_X10, ca_X10_sun, ec_nz, ec_no)
theorem ok_X10_sun (l : Launch) : ex_ok l 1 22 cx_X10_sun := ⟨ec_fok fo_X10, ec_cok co_X10, so_X10, ck_X10_sun l, fun _ h => (by cases h), fun _ h => (by cases h), fun _ h => (by cases h), fun _ _ h => (by cases h)⟩
def sp_X10_sun : ex_S := ex_sp cx_X10_sun cX10_sun 3 (some .int) 37
theorem mt_X10_sun (l : Launch) : ex_Met l yX10_sun cX10_sun 3 (some .int) 1 22 sp_X10_sun := ex_inl (by decide) rfl (ok_X10_sun l)
theorem cw_X10_battery : ec_cw yX10_battery cX10_battery 3 (some .int) := ⟨ec_in (i := 1442) (by decide +kernel) rfl, ec_in (i := 68) (by decide +kernel) rfl, by decide, by decide⟩
theorem cv_X10_battery : Cond.instanceMethod yX10_battery ∈ ec_tb ∧ Cond.selects yX10_battery.cls yX10_battery yX10_battery ∈ ec_tb := ⟨ec_in (i := 1440) (by decide +kernel) rfl, ec_in (i := 1441) (by decide +kernel) rfl⟩
def ca_X10_battery : Nat → Option (Nat × Option Nat × ex_S) := fun ix => match ix with
  | 171 => some (3, none, sp_X10_isIn)
  | 160 => some (2, some 10, sp_X10_finding)
  | _ => none
theorem ck_X10_battery (l : Launch) : ∀ (ix n : Nat) (rc : Option Nat) (sp : ex_S), ca_X10_battery ix = some (n, rc, sp) → ex_cok l RX10 1 22 ix n rc sp := by
  intro ix n rc sp h
  unfold ca_X10_battery at h
  split at h
  · cases h; exact ec_cS (mt_X10_isIn l) cw_X10_isIn cv_X10_isIn (by decide) (by decide) (Or.inl (ec_in (i := 1303) (by decide +kernel) rfl)) (by decide +kernel)
  · cases h; exact ec_cV (mt_X10_finding l) cw_X10_finding cv_X10_finding (by decide) (by decide) (Or.inl (ec_in (i := 1282) (by decide +kernel) rfl)) (T := TX10) (N := 57) rfl (by decide) (by decide +kernel)
  · cases h
def cx_X10_battery : ex_K := (RX10, ec_fx fl_X10, ec_cx cl_X10, sl_X10, ca_X10_battery, ec_nz, ec_no)
theorem ok_X10_battery (l : Launch) : ex_ok l 1 22 cx_X10_battery := ⟨ec_fok fo_X10, ec_cok co_X10, so_X10, ck_X10_battery l, fun _ h => (by cases h), fun _ h => (by cases h), fun _ h => (by cases h), fun _ _ h => (by cases h)⟩
def sp_X10_battery : ex_S := ex_sp cx_X10_battery cX10_battery 3 (some .int) 27
theorem mt_X10_battery (l : Launch) : ex_Met l yX10_battery cX10_battery 3 (some .int) 1 22 sp_X10_battery := ex_inl (by decide) rfl (ok_X10_battery l)
theorem cw_X10_bounds : ec_cw yX10_bounds cX10_bounds 4 (some .int) := ⟨ec_in (i := 1446) (by decide +kernel) rfl, ec_in (i := 68) (by decide +kernel) rfl, by decide, by decide⟩
theorem cv_X10_bounds : Cond.instanceMethod yX10_bounds ∈ ec_tb ∧ Cond.selects yX10_bounds.cls yX10_bounds yX10_bounds ∈ ec_tb := ⟨ec_in (i := 1444) (by decide +kernel) rfl, ec_in (i := 1445) (by decide +kernel) rfl⟩
def ca_X10_bounds : Nat → Option (Nat × Option Nat × ex_S) := fun ix => match ix with
  | 171 => some (3, none, sp_X10_isIn)
  | 160 => some (2, some 10, sp_X10_finding)
  | _ => none
theorem ck_X10_bounds (l : Launch) : ∀ (ix n : Nat) (rc : Option Nat) (sp : ex_S), ca_X10_bounds ix = some (n, rc, sp) → ex_cok l RX10 1 22 ix n rc sp := by
  intro ix n rc sp h
  unfold ca_X10_bounds at h
  split at h
  · cases h; exact ec_cS (mt_X10_isIn l) cw_X10_isIn cv_X10_isIn (by decide) (by decide) (Or.inl (ec_in (i := 1303) (by decide +kernel) rfl)) (by decide +kernel)
  · cases h; exact ec_cV (mt_X10_finding l) cw_X10_finding cv_X10_finding (by decide) (by decide) (Or.inl (ec_in (i := 1282) (by decide +kernel) rfl)) (T := TX10) (N := 57) rfl (by decide) (by decide +kernel)
  · cases h
def cx_X10_bounds : ex_K := (RX10, ec_fx fl_X10, ec_cx cl_X10, sl_X10, ca_X10_bounds, ec_nz, ec_no)
theorem ok_X10_bounds (l : Launch) : ex_ok l 1 22 cx_X10_bounds := ⟨ec_fok fo_X10, ec_cok co_X10, so_X10, ck_X10_bounds l, fun _ h => (by cases h), fun _ h => (by cases h), fun _ h => (by cases h), fun _ _ h => (by cases h)⟩
def sp_X10_bounds : ex_S := ex_sp cx_X10_bounds cX10_bounds 4 (some .int) 31
theorem mt_X10_bounds (l : Launch) : ex_Met l yX10_bounds cX10_bounds 4 (some .int) 1 22 sp_X10_bounds := ex_inl (by decide) rfl (ok_X10_bounds l)
theorem cw_X10_ticks : ec_cw yX10_ticks cX10_ticks 4 (some .int) := ⟨ec_in (i := 1450) (by decide +kernel) rfl, ec_in (i := 68) (by decide +kernel) rfl, by decide, by decide⟩
theorem cv_X10_ticks : Cond.instanceMethod yX10_ticks ∈ ec_tb ∧ Cond.selects yX10_ticks.cls yX10_ticks yX10_ticks ∈ ec_tb := ⟨ec_in (i := 1448) (by decide +kernel) rfl, ec_in (i := 1449) (by decide +kernel) rfl⟩
def ca_X10_ticks : Nat → Option (Nat × Option Nat × ex_S) := fun ix => match ix with
  | 171 => some (3, none, sp_X10_isIn)
  | 160 => some (2, some 10, sp_X10_finding)
  | 262 => some (1, some 10, sp_X10_tick)
  | _ => none
theorem ck_X10_ticks (l : Launch) : ∀ (ix n : Nat) (rc : Option Nat) (sp : ex_S), ca_X10_ticks ix = some (n, rc, sp) → ex_cok l RX10 5 112 ix n rc sp := by
  intro ix n rc sp h
  unfold ca_X10_ticks at h
  split at h
  · cases h; exact ec_cS (mt_X10_isIn l) cw_X10_isIn cv_X10_isIn (by decide) (by decide) (Or.inl (ec_in (i := 1303) (by decide +kernel) rfl)) (by decide +kernel)
  · cases h; exact ec_cV (mt_X10_finding l) cw_X10_finding cv_X10_finding (by decide) (by decide) (Or.inl (ec_in (i := 1282) (by decide +kernel) rfl)) (T := TX10) (N := 57) rfl (by decide) (by decide +kernel)
  · cases h; exact ec_cV (mt_X10_tick l) cw_X10_tick cv_X10_tick (by decide) (by decide) (Or.inl (ec_in (i := 1451) (by decide +kernel) rfl)) (T := TX10) (N := 57) rfl (by decide) (by decide +kernel)
  · cases h
def cx_X10_ticks : ex_K := (RX10, ec_fx fl_X10, ec_cx cl_X10, sl_X10, ca_X10_ticks, ec_nz, ec_no)
theorem ok_X10_ticks (l : Launch) : ex_ok l 5 112 cx_X10_ticks := ⟨ec_fok fo_X10, ec_cok co_X10, so_X10, ck_X10_ticks l, fun _ h => (by cases h), fun _ h => (by cases h), fun _ h => (by cases h), fun _ _ h => (by cases h)⟩
def sp_X10_ticks : ex_S := ex_sp cx_X10_ticks cX10_ticks 4 (some .int) 400
theorem mt_X10_ticks (l : Launch) : ex_Met l yX10_ticks cX10_ticks 4 (some .int) 5 112 sp_X10_ticks := ex_inl (by decide) rfl (ok_X10_ticks l)
theorem cw_X10_broke : ec_cw yX10_broke cX10_broke 2 (some .int) := ⟨ec_in (i := 1507) (by decide +kernel) rfl, ec_in (i := 68) (by decide +kernel) rfl, by decide, by decide⟩
theorem cv_X10_broke : Cond.instanceMethod yX10_broke ∈ ec_tb ∧ Cond.selects yX10_broke.cls yX10_broke yX10_broke ∈ ec_tb := ⟨ec_in (i := 1505) (by decide +kernel) rfl, ec_in (i := 1506) (by decide +kernel) rfl⟩
def ca_X10_broke : Nat → Option (Nat × Option Nat × ex_S) := fun ix => match ix with
  | 171 => some (3, none, sp_X10_isIn)
  | 160 => some (2, some 10, sp_X10_finding)
  | _ => none
theorem ck_X10_broke (l : Launch) : ∀ (ix n : Nat) (rc : Option Nat) (sp : ex_S), ca_X10_broke ix = some (n, rc, sp) → ex_cok l RX10 1 22 ix n rc sp := by
  intro ix n rc sp h
  unfold ca_X10_broke at h
  split at h
  · cases h; exact ec_cS (mt_X10_isIn l) cw_X10_isIn cv_X10_isIn (by decide) (by decide) (Or.inl (ec_in (i := 1303) (by decide +kernel) rfl)) (by decide +kernel)
  · cases h; exact ec_cV (mt_X10_finding l) cw_X10_finding cv_X10_finding (by decide) (by decide) (Or.inl (ec_in (i := 1282) (by decide +kernel) rfl)) (T := TX10) (N := 57) rfl (by decide) (by decide +kernel)
  · cases h
def cx_X10_broke : ex_K := (RX10, ec_fx fl_X10, ec_cx cl_X10, sl_X10, ca_X10_broke, ec_nz, ec_no)
theorem ok_X10_broke (l : Launch) : ex_ok l 1 22 cx_X10_broke := ⟨ec_fok fo_X10, ec_cok co_X10, so_X10, ck_X10_broke l, fun _ h => (by cases h), fun _ h => (by cases h), fun _ h => (by cases h), fun _ _ h => (by cases h)⟩
def sp_X10_broke : ex_S := ex_sp cx_X10_broke cX10_broke 2 (some .int) 26
theorem mt_X10_broke (l : Launch) : ex_Met l yX10_broke cX10_broke 2 (some .int) 1 22 sp_X10_broke := ex_inl (by decide) rfl (ok_X10_broke l)
theorem cw_X10_lays : ec_cw yX10_lays cX10_lays 4 none := ⟨ec_in (i := 1519) (by decide +kernel) rfl, ec_in (i := 68) (by decide +kernel) rfl, by decide, by decide⟩
theorem cv_X10_lays : Cond.instanceMethod yX10_lays ∈ ec_tb ∧ Cond.selects yX10_lays.cls yX10_lays yX10_lays ∈ ec_tb := ⟨ec_in (i := 1518) (by decide +kernel) rfl, ec_in (i := 53) (by decide +kernel) rfl⟩
def cx_X10_lays : ex_K := (RX10, ec_fx fl_X10, ec_cx cl_X10, sl_X10, ec_no, ec_nz, ec_no)
theorem ok_X10_lays (l : Launch) : ex_ok l 0 0 cx_X10_lays := ⟨ec_fok fo_X10, ec_cok co_X10, so_X10, fun _ _ _ _ h => (by cases h), fun _ h => (by cases h), fun _ h => (by cases h), fun _ h => (by cases h), fun _ _ h => (by cases h)⟩
def sp_X10_lays : ex_S := ex_sp cx_X10_lays cX10_lays 4 none 1500
theorem mt_X10_lays (l : Launch) : ex_Met l yX10_lays cX10_lays 4 none 0 0 sp_X10_lays := ex_inl (by decide) rfl (ok_X10_lays l)
theorem cw_X10_layAside : ec_cw yX10_layAside cX10_layAside 2 none := ⟨ec_in (i := 1515) (by decide +kernel) rfl, ec_in (i := 68) (by decide +kernel) rfl, by decide, by decide⟩
theorem cv_X10_layAside : Cond.instanceMethod yX10_layAside ∈ ec_tb ∧ Cond.selects yX10_layAside.cls yX10_layAside yX10_layAside ∈ ec_tb := ⟨ec_in (i := 1514) (by decide +kernel) rfl, ec_in (i := 52) (by decide +kernel) rfl⟩
def ca_X10_layAside : Nat → Option (Nat × Option Nat × ex_S) := fun ix => match ix with
  | 269 => some (3, some 10, sp_X10_lays)
  | _ => none
theorem ck_X10_layAside (l : Launch) : ∀ (ix n : Nat) (rc : Option Nat) (sp : ex_S), ca_X10_layAside ix = some (n, rc, sp) → ex_cok l RX10 1 23 ix n rc sp := by
  intro ix n rc sp h
  unfold ca_X10_layAside at h
  split at h
  · cases h; exact ec_cV (mt_X10_lays l) cw_X10_lays cv_X10_lays (by decide) (by decide) (Or.inl (ec_in (i := 1516) (by decide +kernel) rfl)) (T := TX10) (N := 57) rfl (by decide) (by decide +kernel)
  · cases h
def cx_X10_layAside : ex_K := (RX10, ec_fx fl_X10, ec_cx cl_X10, sl_X10, ca_X10_layAside, ec_nz, ec_no)
theorem ok_X10_layAside (l : Launch) : ex_ok l 1 23 cx_X10_layAside := ⟨ec_fok fo_X10, ec_cok co_X10, so_X10, ck_X10_layAside l, fun _ h => (by cases h), fun _ h => (by cases h), fun _ h => (by cases h), fun _ _ h => (by cases h)⟩
def sp_X10_layAside : ex_S := ex_sp cx_X10_layAside cX10_layAside 2 none 85
theorem mt_X10_layAside (l : Launch) : ex_Met l yX10_layAside cX10_layAside 2 none 1 23 sp_X10_layAside := ex_inl (by decide) rfl (ok_X10_layAside l)
theorem cw_X10_ahead : ec_cw yX10_ahead cX10_ahead 4 (some .int) := ⟨ec_in (i := 1511) (by decide +kernel) rfl, ec_in (i := 68) (by decide +kernel) rfl, by decide, by decide⟩
theorem cv_X10_ahead : Cond.instanceMethod yX10_ahead ∈ ec_tb ∧ Cond.selects yX10_ahead.cls yX10_ahead yX10_ahead ∈ ec_tb := ⟨ec_in (i := 1509) (by decide +kernel) rfl, ec_in (i := 1510) (by decide +kernel) rfl⟩
def ca_X10_ahead : Nat → Option (Nat × Option Nat × ex_S) := fun ix => match ix with
  | 171 => some (3, none, sp_X10_isIn)
  | 160 => some (2, some 10, sp_X10_finding)
  | 273 => some (2, some 10, sp_X10_layAside)
  | 262 => some (1, some 10, sp_X10_tick)
  | _ => none
theorem ck_X10_ahead (l : Launch) : ∀ (ix n : Nat) (rc : Option Nat) (sp : ex_S), ca_X10_ahead ix = some (n, rc, sp) → ex_cok l RX10 5 112 ix n rc sp := by
  intro ix n rc sp h
  unfold ca_X10_ahead at h
  split at h
  · cases h; exact ec_cS (mt_X10_isIn l) cw_X10_isIn cv_X10_isIn (by decide) (by decide) (Or.inl (ec_in (i := 1303) (by decide +kernel) rfl)) (by decide +kernel)
  · cases h; exact ec_cV (mt_X10_finding l) cw_X10_finding cv_X10_finding (by decide) (by decide) (Or.inl (ec_in (i := 1282) (by decide +kernel) rfl)) (T := TX10) (N := 57) rfl (by decide) (by decide +kernel)
  · cases h; exact ec_cV (mt_X10_layAside l) cw_X10_layAside cv_X10_layAside (by decide) (by decide) (Or.inl (ec_in (i := 1512) (by decide +kernel) rfl)) (T := TX10) (N := 57) rfl (by decide) (by decide +kernel)
  · cases h; exact ec_cV (mt_X10_tick l) cw_X10_tick cv_X10_tick (by decide) (by decide) (Or.inl (ec_in (i := 1451) (by decide +kernel) rfl)) (T := TX10) (N := 57) rfl (by decide) (by decide +kernel)
  · cases h
def cx_X10_ahead : ex_K := (RX10, ec_fx fl_X10, ec_cx cl_X10, sl_X10, ca_X10_ahead, ec_nz, ec_no)
theorem ok_X10_ahead (l : Launch) : ex_ok l 5 112 cx_X10_ahead := ⟨ec_fok fo_X10, ec_cok co_X10, so_X10, ck_X10_ahead l, fun _ h => (by cases h), fun _ h => (by cases h), fun _ h => (by cases h), fun _ _ h => (by cases h)⟩
def sp_X10_ahead : ex_S := ex_sp cx_X10_ahead cX10_ahead 4 (some .int) 400
theorem mt_X10_ahead (l : Launch) : ex_Met l yX10_ahead cX10_ahead 4 (some .int) 5 112 sp_X10_ahead := ex_inl (by decide) rfl (ok_X10_ahead l)
theorem cw_X10_partOf : ec_cw yX10_partOf cX10_partOf 7 (some .int) := ⟨ec_in (i := 1531) (by decide +kernel) rfl, ec_in (i := 68) (by decide +kernel) rfl, by decide, by decide⟩
theorem cv_X10_partOf : Cond.instanceMethod yX10_partOf ∈ ec_tb ∧ Cond.selects yX10_partOf.cls yX10_partOf yX10_partOf ∈ ec_tb := ⟨ec_in (i := 1530) (by decide +kernel) rfl, ec_in (i := 54) (by decide +kernel) rfl⟩
def cx_X10_partOf : ex_K := (RX10, ec_fx fl_X10, ec_cx cl_X10, sl_X10, ec_no, ec_nz, ec_no)
theorem ok_X10_partOf (l : Launch) : ex_ok l 0 0 cx_X10_partOf := ⟨ec_fok fo_X10, ec_cok co_X10, so_X10, fun _ _ _ _ h => (by cases h), fun _ h => (by cases h), fun _ h => (by cases h), fun _ h => (by cases h), fun _ _ h => (by cases h)⟩
def sp_X10_partOf : ex_S := ex_sp cx_X10_partOf cX10_partOf 7 (some .int) 400
theorem mt_X10_partOf (l : Launch) : ex_Met l yX10_partOf cX10_partOf 7 (some .int) 0 0 sp_X10_partOf := ex_inl (by decide) rfl (ok_X10_partOf l)
theorem cw_X10_ones : ec_cw yX10_ones cX10_ones 3 (some .int) := ⟨ec_in (i := 1542) (by decide +kernel) rfl, ec_in (i := 68) (by decide +kernel) rfl, by decide, by decide⟩
theorem cv_X10_ones : Cond.static yX10_ones ∈ ec_tb := ec_in (i := 1541) (by decide +kernel) rfl
def cx_X10_ones : ex_K := (RX10, ec_fx fl_X10, ec_cx cl_X10, sl_X10, ec_no, ec_nz, ec_no)
theorem ok_X10_ones (l : Launch) : ex_ok l 0 0 cx_X10_ones := ⟨ec_fok fo_X10, ec_cok co_X10, so_X10, fun _ _ _ _ h => (by cases h), fun _ h => (by cases h), fun _ h => (by cases h), fun _ h => (by cases h), fun _ _ h => (by cases h)⟩
def sp_X10_ones : ex_S := ex_sp cx_X10_ones cX10_ones 3 (some .int) 400
theorem mt_X10_ones (l : Launch) : ex_Met l yX10_ones cX10_ones 3 (some .int) 0 0 sp_X10_ones := ex_inl (by decide) rfl (ok_X10_ones l)
theorem cw_X10_hunt : ec_cw yX10_hunt cX10_hunt 1 (some .int) := ⟨ec_in (i := 1523) (by decide +kernel) rfl, ec_in (i := 68) (by decide +kernel) rfl, by decide, by decide⟩
theorem cv_X10_hunt : Cond.instanceMethod yX10_hunt ∈ ec_tb ∧ Cond.selects yX10_hunt.cls yX10_hunt yX10_hunt ∈ ec_tb := ⟨ec_in (i := 1521) (by decide +kernel) rfl, ec_in (i := 1522) (by decide +kernel) rfl⟩
def cx_X10_hunt : ex_K := (RX10, ec_fx fl_X10, ec_cx cl_X10, sl_X10, ec_no, ec_nz, ec_no)
theorem ok_X10_hunt (l : Launch) : ex_ok l 0 0 cx_X10_hunt := ⟨ec_fok fo_X10, ec_cok co_X10, so_X10, fun _ _ _ _ h => (by cases h), fun _ h => (by cases h), fun _ h => (by cases h), fun _ h => (by cases h), fun _ _ h => (by cases h)⟩
def sp_X10_hunt : ex_S := ex_sp cx_X10_hunt cX10_hunt 1 (some .int) 12
theorem mt_X10_hunt (l : Launch) : ex_Met l yX10_hunt cX10_hunt 1 (some .int) 0 0 sp_X10_hunt := ex_inl (by decide) rfl (ok_X10_hunt l)
theorem cw_X10_test : ec_cw yX10_test cX10_test 4 (some .int) := ⟨ec_in (i := 1527) (by decide +kernel) rfl, ec_in (i := 68) (by decide +kernel) rfl, by decide, by decide⟩
theorem cv_X10_test : Cond.instanceMethod yX10_test ∈ ec_tb ∧ Cond.selects yX10_test.cls yX10_test yX10_test ∈ ec_tb := ⟨ec_in (i := 1525) (by decide +kernel) rfl, ec_in (i := 1526) (by decide +kernel) rfl⟩
def ca_X10_test : Nat → Option (Nat × Option Nat × ex_S) := fun ix => match ix with
  | 164 => some (2, some 10, sp_X10_isModule)
  | 171 => some (3, none, sp_X10_isIn)
  | 160 => some (2, some 10, sp_X10_finding)
  | 280 => some (3, some 10, sp_X10_partOf)
  | _ => none
theorem ck_X10_test (l : Launch) : ∀ (ix n : Nat) (rc : Option Nat) (sp : ex_S), ca_X10_test ix = some (n, rc, sp) → ex_cok l RX10 1 26 ix n rc sp := by
  intro ix n rc sp h
  unfold ca_X10_test at h
  split at h
  · cases h; exact ec_cV (mt_X10_isModule l) cw_X10_isModule cv_X10_isModule (by decide) (by decide) (Or.inl (ec_in (i := 1291) (by decide +kernel) rfl)) (T := TX10) (N := 57) rfl (by decide) (by decide +kernel)
  · cases h; exact ec_cS (mt_X10_isIn l) cw_X10_isIn cv_X10_isIn (by decide) (by decide) (Or.inl (ec_in (i := 1303) (by decide +kernel) rfl)) (by decide +kernel)
  · cases h; exact ec_cV (mt_X10_finding l) cw_X10_finding cv_X10_finding (by decide) (by decide) (Or.inl (ec_in (i := 1282) (by decide +kernel) rfl)) (T := TX10) (N := 57) rfl (by decide) (by decide +kernel)
  · cases h; exact ec_cV (mt_X10_partOf l) cw_X10_partOf cv_X10_partOf (by decide) (by decide) (Or.inl (ec_in (i := 1528) (by decide +kernel) rfl)) (T := TX10) (N := 57) rfl (by decide) (by decide +kernel)
  · cases h
def cx_X10_test : ex_K := (RX10, ec_fx fl_X10, ec_cx cl_X10, sl_X10, ca_X10_test, ec_nz, ec_no)
theorem ok_X10_test (l : Launch) : ex_ok l 1 26 cx_X10_test := ⟨ec_fok fo_X10, ec_cok co_X10, so_X10, ck_X10_test l, fun _ h => (by cases h), fun _ h => (by cases h), fun _ h => (by cases h), fun _ _ h => (by cases h)⟩
def sp_X10_test : ex_S := ex_sp cx_X10_test cX10_test 4 (some .int) 39
theorem mt_X10_test (l : Launch) : ex_Met l yX10_test cX10_test 4 (some .int) 1 26 sp_X10_test := ex_inl (by decide) rfl (ok_X10_test l)
theorem cw_X10_worst : ec_cw yX10_worst cX10_worst 5 (some .int) := ⟨ec_in (i := 1539) (by decide +kernel) rfl, ec_in (i := 68) (by decide +kernel) rfl, by decide, by decide⟩
theorem cv_X10_worst : Cond.instanceMethod yX10_worst ∈ ec_tb ∧ Cond.selects yX10_worst.cls yX10_worst yX10_worst ∈ ec_tb := ⟨ec_in (i := 1538) (by decide +kernel) rfl, ec_in (i := 55) (by decide +kernel) rfl⟩
def ca_X10_worst : Nat → Option (Nat × Option Nat × ex_S) := fun ix => match ix with
  | 280 => some (3, some 10, sp_X10_partOf)
  | 283 => some (1, none, sp_X10_ones)
  | _ => none
theorem ck_X10_worst (l : Launch) : ∀ (ix n : Nat) (rc : Option Nat) (sp : ex_S), ca_X10_worst ix = some (n, rc, sp) → ex_cok l RX10 1 26 ix n rc sp := by
  intro ix n rc sp h
  unfold ca_X10_worst at h
  split at h
  · cases h; exact ec_cV (mt_X10_partOf l) cw_X10_partOf cv_X10_partOf (by decide) (by decide) (Or.inl (ec_in (i := 1528) (by decide +kernel) rfl)) (T := TX10) (N := 57) rfl (by decide) (by decide +kernel)
  · cases h; exact ec_cS (mt_X10_ones l) cw_X10_ones cv_X10_ones (by decide) (by decide) (Or.inl (ec_in (i := 1540) (by decide +kernel) rfl)) (by decide +kernel)
  · cases h
def cx_X10_worst : ex_K := (RX10, ec_fx fl_X10, ec_cx cl_X10, sl_X10, ca_X10_worst, ec_nz, ec_no)
theorem ok_X10_worst (l : Launch) : ex_ok l 1 26 cx_X10_worst := ⟨ec_fok fo_X10, ec_cok co_X10, so_X10, ck_X10_worst l, fun _ h => (by cases h), fun _ h => (by cases h), fun _ h => (by cases h), fun _ _ h => (by cases h)⟩
def sp_X10_worst : ex_S := ex_sp cx_X10_worst cX10_worst 5 (some .int) 400
theorem mt_X10_worst (l : Launch) : ex_Met l yX10_worst cX10_worst 5 (some .int) 1 26 sp_X10_worst := ex_inl (by decide) rfl (ok_X10_worst l)
theorem cw_X10_best : ec_cw yX10_best cX10_best 5 (some .int) := ⟨ec_in (i := 1535) (by decide +kernel) rfl, ec_in (i := 68) (by decide +kernel) rfl, by decide, by decide⟩
theorem cv_X10_best : Cond.instanceMethod yX10_best ∈ ec_tb ∧ Cond.selects yX10_best.cls yX10_best yX10_best ∈ ec_tb := ⟨ec_in (i := 1533) (by decide +kernel) rfl, ec_in (i := 1534) (by decide +kernel) rfl⟩
def ca_X10_best : Nat → Option (Nat × Option Nat × ex_S) := fun ix => match ix with
  | 171 => some (3, none, sp_X10_isIn)
  | 160 => some (2, some 10, sp_X10_finding)
  | 286 => some (2, some 10, sp_X10_worst)
  | 283 => some (1, none, sp_X10_ones)
  | _ => none
theorem ck_X10_best (l : Launch) : ∀ (ix n : Nat) (rc : Option Nat) (sp : ex_S), ca_X10_best ix = some (n, rc, sp) → ex_cok l RX10 2 50 ix n rc sp := by
  intro ix n rc sp h
  unfold ca_X10_best at h
  split at h
  · cases h; exact ec_cS (mt_X10_isIn l) cw_X10_isIn cv_X10_isIn (by decide) (by decide) (Or.inl (ec_in (i := 1303) (by decide +kernel) rfl)) (by decide +kernel)
  · cases h; exact ec_cV (mt_X10_finding l) cw_X10_finding cv_X10_finding (by decide) (by decide) (Or.inl (ec_in (i := 1282) (by decide +kernel) rfl)) (T := TX10) (N := 57) rfl (by decide) (by decide +kernel)
  · cases h; exact ec_cV (mt_X10_worst l) cw_X10_worst cv_X10_worst (by decide) (by decide) (Or.inl (ec_in (i := 1536) (by decide +kernel) rfl)) (T := TX10) (N := 57) rfl (by decide) (by decide +kernel)
  · cases h; exact ec_cS (mt_X10_ones l) cw_X10_ones cv_X10_ones (by decide) (by decide) (Or.inl (ec_in (i := 1540) (by decide +kernel) rfl)) (by decide +kernel)
  · cases h
def cx_X10_best : ex_K := (RX10, ec_fx fl_X10, ec_cx cl_X10, sl_X10, ca_X10_best, ec_nz, ec_no)
theorem ok_X10_best (l : Launch) : ex_ok l 2 50 cx_X10_best := ⟨ec_fok fo_X10, ec_cok co_X10, so_X10, ck_X10_best l, fun _ h => (by cases h), fun _ h => (by cases h), fun _ h => (by cases h), fun _ _ h => (by cases h)⟩
def sp_X10_best : ex_S := ex_sp cx_X10_best cX10_best 5 (some .int) 400
theorem mt_X10_best (l : Launch) : ex_Met l yX10_best cX10_best 5 (some .int) 2 50 sp_X10_best := ex_inl (by decide) rfl (ok_X10_best l)
theorem cw_X10_suspects : ec_cw yX10_suspects cX10_suspects 1 (some .int) := ⟨ec_in (i := 1546) (by decide +kernel) rfl, ec_in (i := 68) (by decide +kernel) rfl, by decide, by decide⟩
theorem cv_X10_suspects : Cond.instanceMethod yX10_suspects ∈ ec_tb ∧ Cond.selects yX10_suspects.cls yX10_suspects yX10_suspects ∈ ec_tb := ⟨ec_in (i := 1544) (by decide +kernel) rfl, ec_in (i := 1545) (by decide +kernel) rfl⟩
def cx_X10_suspects : ex_K := (RX10, ec_fx fl_X10, ec_cx cl_X10, sl_X10, ec_no, ec_nz, ec_no)
theorem ok_X10_suspects (l : Launch) : ex_ok l 0 0 cx_X10_suspects := ⟨ec_fok fo_X10, ec_cok co_X10, so_X10, fun _ _ _ _ h => (by cases h), fun _ h => (by cases h), fun _ h => (by cases h), fun _ h => (by cases h), fun _ _ h => (by cases h)⟩
def sp_X10_suspects : ex_S := ex_sp cx_X10_suspects cX10_suspects 1 (some .int) 4
theorem mt_X10_suspects (l : Launch) : ex_Met l yX10_suspects cX10_suspects 1 (some .int) 0 0 sp_X10_suspects := ex_inl (by decide) rfl (ok_X10_suspects l)
theorem cw_X10_read : ec_cw yX10_read cX10_read 3 (some .int) := ⟨ec_in (i := 1550) (by decide +kernel) rfl, ec_in (i := 68) (by decide +kernel) rfl, by decide, by decide⟩
theorem cv_X10_read : Cond.instanceMethod yX10_read ∈ ec_tb ∧ Cond.selects yX10_read.cls yX10_read yX10_read ∈ ec_tb := ⟨ec_in (i := 1548) (by decide +kernel) rfl, ec_in (i := 1549) (by decide +kernel) rfl⟩
def ca_X10_read : Nat → Option (Nat × Option Nat × ex_S) := fun ix => match ix with
  | 171 => some (3, none, sp_X10_isIn)
  | 160 => some (2, some 10, sp_X10_finding)
  | _ => none
theorem ck_X10_read (l : Launch) : ∀ (ix n : Nat) (rc : Option Nat) (sp : ex_S), ca_X10_read ix = some (n, rc, sp) → ex_cok l RX10 1 22 ix n rc sp := by
  intro ix n rc sp h
  unfold ca_X10_read at h
  split at h
  · cases h; exact ec_cS (mt_X10_isIn l) cw_X10_isIn cv_X10_isIn (by decide) (by decide) (Or.inl (ec_in (i := 1303) (by decide +kernel) rfl)) (by decide +kernel)
  · cases h; exact ec_cV (mt_X10_finding l) cw_X10_finding cv_X10_finding (by decide) (by decide) (Or.inl (ec_in (i := 1282) (by decide +kernel) rfl)) (T := TX10) (N := 57) rfl (by decide) (by decide +kernel)
  · cases h
def cx_X10_read : ex_K := (RX10, ec_fx fl_X10, ec_cx cl_X10, sl_X10, ca_X10_read, ec_nz, ec_no)
theorem ok_X10_read (l : Launch) : ex_ok l 1 22 cx_X10_read := ⟨ec_fok fo_X10, ec_cok co_X10, so_X10, ck_X10_read l, fun _ h => (by cases h), fun _ h => (by cases h), fun _ h => (by cases h), fun _ _ h => (by cases h)⟩
def sp_X10_read : ex_S := ex_sp cx_X10_read cX10_read 3 (some .int) 67
theorem mt_X10_read (l : Launch) : ex_Met l yX10_read cX10_read 3 (some .int) 1 22 sp_X10_read := ex_inl (by decide) rfl (ok_X10_read l)
theorem cw_X10_calibrate : ec_cw yX10_calibrate cX10_calibrate 3 (some .int) := ⟨ec_in (i := 1554) (by decide +kernel) rfl, ec_in (i := 68) (by decide +kernel) rfl, by decide, by decide⟩
theorem cv_X10_calibrate : Cond.instanceMethod yX10_calibrate ∈ ec_tb ∧ Cond.selects yX10_calibrate.cls yX10_calibrate yX10_calibrate ∈ ec_tb := ⟨ec_in (i := 1552) (by decide +kernel) rfl, ec_in (i := 1553) (by decide +kernel) rfl⟩
def ca_X10_calibrate : Nat → Option (Nat × Option Nat × ex_S) := fun ix => match ix with
  | 171 => some (3, none, sp_X10_isIn)
  | 160 => some (2, some 10, sp_X10_finding)
  | _ => none
theorem ck_X10_calibrate (l : Launch) : ∀ (ix n : Nat) (rc : Option Nat) (sp : ex_S), ca_X10_calibrate ix = some (n, rc, sp) → ex_cok l RX10 1 22 ix n rc sp := by
  intro ix n rc sp h
  unfold ca_X10_calibrate at h
  split at h
  · cases h; exact ec_cS (mt_X10_isIn l) cw_X10_isIn cv_X10_isIn (by decide) (by decide) (Or.inl (ec_in (i := 1303) (by decide +kernel) rfl)) (by decide +kernel)
  · cases h; exact ec_cV (mt_X10_finding l) cw_X10_finding cv_X10_finding (by decide) (by decide) (Or.inl (ec_in (i := 1282) (by decide +kernel) rfl)) (T := TX10) (N := 57) rfl (by decide) (by decide +kernel)
  · cases h
def cx_X10_calibrate : ex_K := (RX10, ec_fx fl_X10, ec_cx cl_X10, sl_X10, ca_X10_calibrate, ec_nz, ec_no)
theorem ok_X10_calibrate (l : Launch) : ex_ok l 1 22 cx_X10_calibrate := ⟨ec_fok fo_X10, ec_cok co_X10, so_X10, ck_X10_calibrate l, fun _ h => (by cases h), fun _ h => (by cases h), fun _ h => (by cases h), fun _ _ h => (by cases h)⟩
def sp_X10_calibrate : ex_S := ex_sp cx_X10_calibrate cX10_calibrate 3 (some .int) 53
theorem mt_X10_calibrate (l : Launch) : ex_Met l yX10_calibrate cX10_calibrate 3 (some .int) 1 22 sp_X10_calibrate := ex_inl (by decide) rfl (ok_X10_calibrate l)
theorem cw_X10_tooMuch : ec_cw yX10_tooMuch cX10_tooMuch 6 (some .int) := ⟨ec_in (i := 1562) (by decide +kernel) rfl, ec_in (i := 68) (by decide +kernel) rfl, by decide, by decide⟩
theorem cv_X10_tooMuch : Cond.instanceMethod yX10_tooMuch ∈ ec_tb ∧ Cond.selects yX10_tooMuch.cls yX10_tooMuch yX10_tooMuch ∈ ec_tb := ⟨ec_in (i := 1561) (by decide +kernel) rfl, ec_in (i := 56) (by decide +kernel) rfl⟩
def cx_X10_tooMuch : ex_K := (RX10, ec_fx fl_X10, ec_cx cl_X10, sl_X10, ec_no, ec_nz, ec_no)
theorem ok_X10_tooMuch (l : Launch) : ex_ok l 0 0 cx_X10_tooMuch := ⟨ec_fok fo_X10, ec_cok co_X10, so_X10, fun _ _ _ _ h => (by cases h), fun _ h => (by cases h), fun _ h => (by cases h), fun _ h => (by cases h), fun _ _ h => (by cases h)⟩
def sp_X10_tooMuch : ex_S := ex_sp cx_X10_tooMuch cX10_tooMuch 6 (some .int) 400
theorem mt_X10_tooMuch (l : Launch) : ex_Met l yX10_tooMuch cX10_tooMuch 6 (some .int) 0 0 sp_X10_tooMuch := ex_inl (by decide) rfl (ok_X10_tooMuch l)
theorem cw_X10_worked : ec_cw yX10_worked cX10_worked 2 (some .int) := ⟨ec_in (i := 1558) (by decide +kernel) rfl, ec_in (i := 68) (by decide +kernel) rfl, by decide, by decide⟩
theorem cv_X10_worked : Cond.instanceMethod yX10_worked ∈ ec_tb ∧ Cond.selects yX10_worked.cls yX10_worked yX10_worked ∈ ec_tb := ⟨ec_in (i := 1556) (by decide +kernel) rfl, ec_in (i := 1557) (by decide +kernel) rfl⟩
def ca_X10_worked : Nat → Option (Nat × Option Nat × ex_S) := fun ix => match ix with
  | 160 => some (2, some 10, sp_X10_finding)
  | 295 => some (3, some 10, sp_X10_tooMuch)
  | _ => none
theorem ck_X10_worked (l : Launch) : ∀ (ix n : Nat) (rc : Option Nat) (sp : ex_S), ca_X10_worked ix = some (n, rc, sp) → ex_cok l RX10 1 25 ix n rc sp := by
  intro ix n rc sp h
  unfold ca_X10_worked at h
  split at h
  · cases h; exact ec_cV (mt_X10_finding l) cw_X10_finding cv_X10_finding (by decide) (by decide) (Or.inl (ec_in (i := 1282) (by decide +kernel) rfl)) (T := TX10) (N := 57) rfl (by decide) (by decide +kernel)
  · cases h; exact ec_cV (mt_X10_tooMuch l) cw_X10_tooMuch cv_X10_tooMuch (by decide) (by decide) (Or.inl (ec_in (i := 1559) (by decide +kernel) rfl)) (T := TX10) (N := 57) rfl (by decide) (by decide +kernel)
  · cases h
def cx_X10_worked : ex_K := (RX10, ec_fx fl_X10, ec_cx cl_X10, sl_X10, ca_X10_worked, ec_nz, ec_no)
theorem ok_X10_worked (l : Launch) : ex_ok l 1 25 cx_X10_worked := ⟨ec_fok fo_X10, ec_cok co_X10, so_X10, ck_X10_worked l, fun _ h => (by cases h), fun _ h => (by cases h), fun _ h => (by cases h), fun _ _ h => (by cases h)⟩
def sp_X10_worked : ex_S := ex_sp cx_X10_worked cX10_worked 2 (some .int) 27
theorem mt_X10_worked (l : Launch) : ex_Met l yX10_worked cX10_worked 2 (some .int) 1 25 sp_X10_worked := ex_inl (by decide) rfl (ok_X10_worked l)
theorem cw_X10_delay : ec_cw yX10_delay cX10_delay 3 (some .int) := ⟨ec_in (i := 1566) (by decide +kernel) rfl, ec_in (i := 68) (by decide +kernel) rfl, by decide, by decide⟩
theorem cv_X10_delay : Cond.instanceMethod yX10_delay ∈ ec_tb ∧ Cond.selects yX10_delay.cls yX10_delay yX10_delay ∈ ec_tb := ⟨ec_in (i := 1564) (by decide +kernel) rfl, ec_in (i := 1565) (by decide +kernel) rfl⟩
def ca_X10_delay : Nat → Option (Nat × Option Nat × ex_S) := fun ix => match ix with
  | 171 => some (3, none, sp_X10_isIn)
  | 160 => some (2, some 10, sp_X10_finding)
  | _ => none
theorem ck_X10_delay (l : Launch) : ∀ (ix n : Nat) (rc : Option Nat) (sp : ex_S), ca_X10_delay ix = some (n, rc, sp) → ex_cok l RX10 1 22 ix n rc sp := by
  intro ix n rc sp h
  unfold ca_X10_delay at h
  split at h
  · cases h; exact ec_cS (mt_X10_isIn l) cw_X10_isIn cv_X10_isIn (by decide) (by decide) (Or.inl (ec_in (i := 1303) (by decide +kernel) rfl)) (by decide +kernel)
  · cases h; exact ec_cV (mt_X10_finding l) cw_X10_finding cv_X10_finding (by decide) (by decide) (Or.inl (ec_in (i := 1282) (by decide +kernel) rfl)) (T := TX10) (N := 57) rfl (by decide) (by decide +kernel)
  · cases h
def cx_X10_delay : ex_K := (RX10, ec_fx fl_X10, ec_cx cl_X10, sl_X10, ca_X10_delay, ec_nz, ec_no)
theorem ok_X10_delay (l : Launch) : ex_ok l 1 22 cx_X10_delay := ⟨ec_fok fo_X10, ec_cok co_X10, so_X10, ck_X10_delay l, fun _ h => (by cases h), fun _ h => (by cases h), fun _ h => (by cases h), fun _ _ h => (by cases h)⟩
def sp_X10_delay : ex_S := ex_sp cx_X10_delay cX10_delay 3 (some .int) 18
theorem mt_X10_delay (l : Launch) : ex_Met l yX10_delay cX10_delay 3 (some .int) 1 22 sp_X10_delay := ex_inl (by decide) rfl (ok_X10_delay l)
theorem cw_X10_known : ec_cw yX10_known cX10_known 5 (some .int) := ⟨ec_in (i := 1570) (by decide +kernel) rfl, ec_in (i := 68) (by decide +kernel) rfl, by decide, by decide⟩
theorem cv_X10_known : Cond.instanceMethod yX10_known ∈ ec_tb ∧ Cond.selects yX10_known.cls yX10_known yX10_known ∈ ec_tb := ⟨ec_in (i := 1568) (by decide +kernel) rfl, ec_in (i := 1569) (by decide +kernel) rfl⟩
def ca_X10_known : Nat → Option (Nat × Option Nat × ex_S) := fun ix => match ix with
  | 171 => some (3, none, sp_X10_isIn)
  | 160 => some (2, some 10, sp_X10_finding)
  | _ => none
theorem ck_X10_known (l : Launch) : ∀ (ix n : Nat) (rc : Option Nat) (sp : ex_S), ca_X10_known ix = some (n, rc, sp) → ex_cok l RX10 1 22 ix n rc sp := by
  intro ix n rc sp h
  unfold ca_X10_known at h
  split at h
  · cases h; exact ec_cS (mt_X10_isIn l) cw_X10_isIn cv_X10_isIn (by decide) (by decide) (Or.inl (ec_in (i := 1303) (by decide +kernel) rfl)) (by decide +kernel)
  · cases h; exact ec_cV (mt_X10_finding l) cw_X10_finding cv_X10_finding (by decide) (by decide) (Or.inl (ec_in (i := 1282) (by decide +kernel) rfl)) (T := TX10) (N := 57) rfl (by decide) (by decide +kernel)
  · cases h
def cx_X10_known : ex_K := (RX10, ec_fx fl_X10, ec_cx cl_X10, sl_X10, ca_X10_known, ec_nz, ec_no)
theorem ok_X10_known (l : Launch) : ex_ok l 1 22 cx_X10_known := ⟨ec_fok fo_X10, ec_cok co_X10, so_X10, ck_X10_known l, fun _ h => (by cases h), fun _ h => (by cases h), fun _ h => (by cases h), fun _ _ h => (by cases h)⟩
def sp_X10_known : ex_S := ex_sp cx_X10_known cX10_known 5 (some .int) 400
theorem mt_X10_known (l : Launch) : ex_Met l yX10_known cX10_known 5 (some .int) 1 22 sp_X10_known := ex_inl (by decide) rfl (ok_X10_known l)
theorem cw_X10_mass : ec_cw yX10_mass cX10_mass 4 (some .int) := ⟨ec_in (i := 1574) (by decide +kernel) rfl, ec_in (i := 68) (by decide +kernel) rfl, by decide, by decide⟩
theorem cv_X10_mass : Cond.instanceMethod yX10_mass ∈ ec_tb ∧ Cond.selects yX10_mass.cls yX10_mass yX10_mass ∈ ec_tb := ⟨ec_in (i := 1572) (by decide +kernel) rfl, ec_in (i := 1573) (by decide +kernel) rfl⟩
def ca_X10_mass : Nat → Option (Nat × Option Nat × ex_S) := fun ix => match ix with
  | 171 => some (3, none, sp_X10_isIn)
  | 160 => some (2, some 10, sp_X10_finding)
  | _ => none
theorem ck_X10_mass (l : Launch) : ∀ (ix n : Nat) (rc : Option Nat) (sp : ex_S), ca_X10_mass ix = some (n, rc, sp) → ex_cok l RX10 1 22 ix n rc sp := by
  intro ix n rc sp h
  unfold ca_X10_mass at h
  split at h
  · cases h; exact ec_cS (mt_X10_isIn l) cw_X10_isIn cv_X10_isIn (by decide) (by decide) (Or.inl (ec_in (i := 1303) (by decide +kernel) rfl)) (by decide +kernel)
  · cases h; exact ec_cV (mt_X10_finding l) cw_X10_finding cv_X10_finding (by decide) (by decide) (Or.inl (ec_in (i := 1282) (by decide +kernel) rfl)) (T := TX10) (N := 57) rfl (by decide) (by decide +kernel)
  · cases h
def cx_X10_mass : ex_K := (RX10, ec_fx fl_X10, ec_cx cl_X10, sl_X10, ca_X10_mass, ec_nz, ec_no)
theorem ok_X10_mass (l : Launch) : ex_ok l 1 22 cx_X10_mass := ⟨ec_fok fo_X10, ec_cok co_X10, so_X10, ck_X10_mass l, fun _ h => (by cases h), fun _ h => (by cases h), fun _ h => (by cases h), fun _ _ h => (by cases h)⟩
def sp_X10_mass : ex_S := ex_sp cx_X10_mass cX10_mass 4 (some .int) 53
theorem mt_X10_mass (l : Launch) : ex_Met l yX10_mass cX10_mass 4 (some .int) 1 22 sp_X10_mass := ex_inl (by decide) rfl (ok_X10_mass l)
theorem cw_X10_dock : ec_cw yX10_dock cX10_dock 3 (some .int) := ⟨ec_in (i := 1579) (by decide +kernel) rfl, ec_in (i := 68) (by decide +kernel) rfl, by decide, by decide⟩
theorem cv_X10_dock : Cond.instanceMethod yX10_dock ∈ ec_tb ∧ Cond.selects yX10_dock.cls yX10_dock yX10_dock ∈ ec_tb := ⟨ec_in (i := 1577) (by decide +kernel) rfl, ec_in (i := 1578) (by decide +kernel) rfl⟩
def ca_X10_dock : Nat → Option (Nat × Option Nat × ex_S) := fun ix => match ix with
  | 171 => some (3, none, sp_X10_isIn)
  | 160 => some (2, some 10, sp_X10_finding)
  | _ => none
theorem ck_X10_dock (l : Launch) : ∀ (ix n : Nat) (rc : Option Nat) (sp : ex_S), ca_X10_dock ix = some (n, rc, sp) → ex_cok l RX10 1 22 ix n rc sp := by
  intro ix n rc sp h
  unfold ca_X10_dock at h
  split at h
  · cases h; exact ec_cS (mt_X10_isIn l) cw_X10_isIn cv_X10_isIn (by decide) (by decide) (Or.inl (ec_in (i := 1303) (by decide +kernel) rfl)) (by decide +kernel)
  · cases h; exact ec_cV (mt_X10_finding l) cw_X10_finding cv_X10_finding (by decide) (by decide) (Or.inl (ec_in (i := 1282) (by decide +kernel) rfl)) (T := TX10) (N := 57) rfl (by decide) (by decide +kernel)
  · cases h
def cx_X10_dock : ex_K := (RX10, ec_fx fl_X10, ec_cx cl_X10, sl_X10, ca_X10_dock, ec_nz, ec_no)
theorem ok_X10_dock (l : Launch) : ex_ok l 1 22 cx_X10_dock := ⟨ec_fok fo_X10, ec_cok co_X10, so_X10, ck_X10_dock l, fun _ h => (by cases h), fun _ h => (by cases h), fun _ h => (by cases h), fun _ _ h => (by cases h)⟩
def sp_X10_dock : ex_S := ex_sp cx_X10_dock cX10_dock 3 (some .int) 56
theorem mt_X10_dock (l : Launch) : ex_Met l yX10_dock cX10_dock 3 (some .int) 1 22 sp_X10_dock := ex_inl (by decide) rfl (ok_X10_dock l)
theorem cw_X10_undock : ec_cw yX10_undock cX10_undock 2 (some .int) := ⟨ec_in (i := 1583) (by decide +kernel) rfl, ec_in (i := 68) (by decide +kernel) rfl, by decide, by decide⟩
theorem cv_X10_undock : Cond.instanceMethod yX10_undock ∈ ec_tb ∧ Cond.selects yX10_undock.cls yX10_undock yX10_undock ∈ ec_tb := ⟨ec_in (i := 1581) (by decide +kernel) rfl, ec_in (i := 1582) (by decide +kernel) rfl⟩
def ca_X10_undock : Nat → Option (Nat × Option Nat × ex_S) := fun ix => match ix with
  | 171 => some (3, none, sp_X10_isIn)
  | 160 => some (2, some 10, sp_X10_finding)
  | _ => none
theorem ck_X10_undock (l : Launch) : ∀ (ix n : Nat) (rc : Option Nat) (sp : ex_S), ca_X10_undock ix = some (n, rc, sp) → ex_cok l RX10 1 22 ix n rc sp := by
  intro ix n rc sp h
  unfold ca_X10_undock at h
  split at h
  · cases h; exact ec_cS (mt_X10_isIn l) cw_X10_isIn cv_X10_isIn (by decide) (by decide) (Or.inl (ec_in (i := 1303) (by decide +kernel) rfl)) (by decide +kernel)
  · cases h; exact ec_cV (mt_X10_finding l) cw_X10_finding cv_X10_finding (by decide) (by decide) (Or.inl (ec_in (i := 1282) (by decide +kernel) rfl)) (T := TX10) (N := 57) rfl (by decide) (by decide +kernel)
  · cases h
def cx_X10_undock : ex_K := (RX10, ec_fx fl_X10, ec_cx cl_X10, sl_X10, ca_X10_undock, ec_nz, ec_no)
theorem ok_X10_undock (l : Launch) : ex_ok l 1 22 cx_X10_undock := ⟨ec_fok fo_X10, ec_cok co_X10, so_X10, ck_X10_undock l, fun _ h => (by cases h), fun _ h => (by cases h), fun _ h => (by cases h), fun _ _ h => (by cases h)⟩
def sp_X10_undock : ex_S := ex_sp cx_X10_undock cX10_undock 2 (some .int) 29
theorem mt_X10_undock (l : Launch) : ex_Met l yX10_undock cX10_undock 2 (some .int) 1 22 sp_X10_undock := ex_inl (by decide) rfl (ok_X10_undock l)
theorem cw_X10_tell : ec_cw yX10_tell cX10_tell 2 (some .int) := ⟨ec_in (i := 1587) (by decide +kernel) rfl, ec_in (i := 68) (by decide +kernel) rfl, by decide, by decide⟩
theorem cv_X10_tell : Cond.instanceMethod yX10_tell ∈ ec_tb ∧ Cond.selects yX10_tell.cls yX10_tell yX10_tell ∈ ec_tb := ⟨ec_in (i := 1585) (by decide +kernel) rfl, ec_in (i := 1586) (by decide +kernel) rfl⟩
def ca_X10_tell : Nat → Option (Nat × Option Nat × ex_S) := fun ix => match ix with
  | 160 => some (2, some 10, sp_X10_finding)
  | _ => none
theorem ck_X10_tell (l : Launch) : ∀ (ix n : Nat) (rc : Option Nat) (sp : ex_S), ca_X10_tell ix = some (n, rc, sp) → ex_cok l RX10 1 21 ix n rc sp := by
  intro ix n rc sp h
  unfold ca_X10_tell at h
  split at h
  · cases h; exact ec_cV (mt_X10_finding l) cw_X10_finding cv_X10_finding (by decide) (by decide) (Or.inl (ec_in (i := 1282) (by decide +kernel) rfl)) (T := TX10) (N := 57) rfl (by decide) (by decide +kernel)
  · cases h
def cx_X10_tell : ex_K := (RX10, ec_fx fl_X10, ec_cx cl_X10, sl_X10, ca_X10_tell, ec_nz, ec_no)
theorem ok_X10_tell (l : Launch) : ex_ok l 1 21 cx_X10_tell := ⟨ec_fok fo_X10, ec_cok co_X10, so_X10, ck_X10_tell l, fun _ h => (by cases h), fun _ h => (by cases h), fun _ h => (by cases h), fun _ _ h => (by cases h)⟩
def sp_X10_tell : ex_S := ex_sp cx_X10_tell cX10_tell 2 (some .int) 24
theorem mt_X10_tell (l : Launch) : ex_Met l yX10_tell cX10_tell 2 (some .int) 1 21 sp_X10_tell := ex_inl (by decide) rfl (ok_X10_tell l)
theorem cw_X10_check : ec_cw yX10_check cX10_check 7 (some .int) := ⟨ec_in (i := 1591) (by decide +kernel) rfl, ec_in (i := 68) (by decide +kernel) rfl, by decide, by decide⟩
theorem cv_X10_check : Cond.instanceMethod yX10_check ∈ ec_tb ∧ Cond.selects yX10_check.cls yX10_check yX10_check ∈ ec_tb := ⟨ec_in (i := 1589) (by decide +kernel) rfl, ec_in (i := 1590) (by decide +kernel) rfl⟩
def ca_X10_check : Nat → Option (Nat × Option Nat × ex_S) := fun ix => match ix with
  | 164 => some (2, some 10, sp_X10_isModule)
  | 171 => some (3, none, sp_X10_isIn)
  | 160 => some (2, some 10, sp_X10_finding)
  | 273 => some (2, some 10, sp_X10_layAside)
  | 262 => some (1, some 10, sp_X10_tick)
  | _ => none
theorem ck_X10_check (l : Launch) : ∀ (ix n : Nat) (rc : Option Nat) (sp : ex_S), ca_X10_check ix = some (n, rc, sp) → ex_cok l RX10 5 112 ix n rc sp := by
  intro ix n rc sp h
  unfold ca_X10_check at h
  split at h
  · cases h; exact ec_cV (mt_X10_isModule l) cw_X10_isModule cv_X10_isModule (by decide) (by decide) (Or.inl (ec_in (i := 1291) (by decide +kernel) rfl)) (T := TX10) (N := 57) rfl (by decide) (by decide +kernel)
  · cases h; exact ec_cS (mt_X10_isIn l) cw_X10_isIn cv_X10_isIn (by decide) (by decide) (Or.inl (ec_in (i := 1303) (by decide +kernel) rfl)) (by decide +kernel)
  · cases h; exact ec_cV (mt_X10_finding l) cw_X10_finding cv_X10_finding (by decide) (by decide) (Or.inl (ec_in (i := 1282) (by decide +kernel) rfl)) (T := TX10) (N := 57) rfl (by decide) (by decide +kernel)
  · cases h; exact ec_cV (mt_X10_layAside l) cw_X10_layAside cv_X10_layAside (by decide) (by decide) (Or.inl (ec_in (i := 1512) (by decide +kernel) rfl)) (T := TX10) (N := 57) rfl (by decide) (by decide +kernel)
  · cases h; exact ec_cV (mt_X10_tick l) cw_X10_tick cv_X10_tick (by decide) (by decide) (Or.inl (ec_in (i := 1451) (by decide +kernel) rfl)) (T := TX10) (N := 57) rfl (by decide) (by decide +kernel)
  · cases h
def cx_X10_check : ex_K := (RX10, ec_fx fl_X10, ec_cx cl_X10, sl_X10, ca_X10_check, ec_nz, ec_no)
theorem ok_X10_check (l : Launch) : ex_ok l 5 112 cx_X10_check := ⟨ec_fok fo_X10, ec_cok co_X10, so_X10, ck_X10_check l, fun _ h => (by cases h), fun _ h => (by cases h), fun _ h => (by cases h), fun _ _ h => (by cases h)⟩
def sp_X10_check : ex_S := ex_sp cx_X10_check cX10_check 7 (some .int) 400
theorem mt_X10_check (l : Launch) : ex_Met l yX10_check cX10_check 7 (some .int) 5 112 sp_X10_check := ex_inl (by decide) rfl (ok_X10_check l)
theorem cw_X10_count : ec_cw yX10_count cX10_count 4 (some .int) := ⟨ec_in (i := 1595) (by decide +kernel) rfl, ec_in (i := 68) (by decide +kernel) rfl, by decide, by decide⟩
theorem cv_X10_count : Cond.instanceMethod yX10_count ∈ ec_tb ∧ Cond.selects yX10_count.cls yX10_count yX10_count ∈ ec_tb := ⟨ec_in (i := 1593) (by decide +kernel) rfl, ec_in (i := 1594) (by decide +kernel) rfl⟩
def ca_X10_count : Nat → Option (Nat × Option Nat × ex_S) := fun ix => match ix with
  | 160 => some (2, some 10, sp_X10_finding)
  | _ => none
theorem ck_X10_count (l : Launch) : ∀ (ix n : Nat) (rc : Option Nat) (sp : ex_S), ca_X10_count ix = some (n, rc, sp) → ex_cok l RX10 1 21 ix n rc sp := by
  intro ix n rc sp h
  unfold ca_X10_count at h
  split at h
  · cases h; exact ec_cV (mt_X10_finding l) cw_X10_finding cv_X10_finding (by decide) (by decide) (Or.inl (ec_in (i := 1282) (by decide +kernel) rfl)) (T := TX10) (N := 57) rfl (by decide) (by decide +kernel)
  · cases h
def cx_X10_count : ex_K := (RX10, ec_fx fl_X10, ec_cx cl_X10, sl_X10, ca_X10_count, ec_nz, ec_no)
theorem ok_X10_count (l : Launch) : ex_ok l 1 21 cx_X10_count := ⟨ec_fok fo_X10, ec_cok co_X10, so_X10, ck_X10_count l, fun _ h => (by cases h), fun _ h => (by cases h), fun _ h => (by cases h), fun _ _ h => (by cases h)⟩
def sp_X10_count : ex_S := ex_sp cx_X10_count cX10_count 4 (some .int) 400
theorem mt_X10_count (l : Launch) : ex_Met l yX10_count cX10_count 4 (some .int) 1 21 sp_X10_count := ex_inl (by decide) rfl (ok_X10_count l)
theorem cw_X10_found : ec_cw yX10_found cX10_found 2 (some .int) := ⟨ec_in (i := 1599) (by decide +kernel) rfl, ec_in (i := 68) (by decide +kernel) rfl, by decide, by decide⟩
theorem cv_X10_found : Cond.instanceMethod yX10_found ∈ ec_tb ∧ Cond.selects yX10_found.cls yX10_found yX10_found ∈ ec_tb := ⟨ec_in (i := 1597) (by decide +kernel) rfl, ec_in (i := 1598) (by decide +kernel) rfl⟩
def ca_X10_found : Nat → Option (Nat × Option Nat × ex_S) := fun ix => match ix with
  | 171 => some (3, none, sp_X10_isIn)
  | 160 => some (2, some 10, sp_X10_finding)
  | _ => none
theorem ck_X10_found (l : Launch) : ∀ (ix n : Nat) (rc : Option Nat) (sp : ex_S), ca_X10_found ix = some (n, rc, sp) → ex_cok l RX10 1 22 ix n rc sp := by
  intro ix n rc sp h
  unfold ca_X10_found at h
  split at h
  · cases h; exact ec_cS (mt_X10_isIn l) cw_X10_isIn cv_X10_isIn (by decide) (by decide) (Or.inl (ec_in (i := 1303) (by decide +kernel) rfl)) (by decide +kernel)
  · cases h; exact ec_cV (mt_X10_finding l) cw_X10_finding cv_X10_finding (by decide) (by decide) (Or.inl (ec_in (i := 1282) (by decide +kernel) rfl)) (T := TX10) (N := 57) rfl (by decide) (by decide +kernel)
  · cases h
def cx_X10_found : ex_K := (RX10, ec_fx fl_X10, ec_cx cl_X10, sl_X10, ca_X10_found, ec_nz, ec_no)
theorem ok_X10_found (l : Launch) : ex_ok l 1 22 cx_X10_found := ⟨ec_fok fo_X10, ec_cok co_X10, so_X10, ck_X10_found l, fun _ h => (by cases h), fun _ h => (by cases h), fun _ h => (by cases h), fun _ _ h => (by cases h)⟩
def sp_X10_found : ex_S := ex_sp cx_X10_found cX10_found 2 (some .int) 15
theorem mt_X10_found (l : Launch) : ex_Met l yX10_found cX10_found 2 (some .int) 1 22 sp_X10_found := ex_inl (by decide) rfl (ok_X10_found l)
