theorem cw_X9_copy : ec_cw yX9_copy cX9_copy 2 none := ⟨ec_in (i := 874) (by decide +kernel) rfl, ec_in (i := 58) (by decide +kernel) rfl, by decide, by decide⟩
theorem cv_X9_copy : Cond.static yX9_copy ∈ ec_tb := ec_in (i := 873) (by decide +kernel) rfl
def cx_X9_copy : ex_K := (RX9, ec_fx fl_X9, ec_cx cl_X9, sl_X9, ec_no, al_X9, ec_no)
theorem ok_X9_copy (l : Launch) : ex_ok l 1 26 cx_X9_copy := ⟨ec_fok fo_X9, ec_cok co_X9, so_X9, fun _ _ _ _ h => (by cases h), am_X9 (by decide) (by decide), ax_X9, ao_X9 (by decide) (by decide), fun _ _ h => (by cases h)⟩
def sp_X9_copy : ex_S := ex_sp cx_X9_copy cX9_copy 2 none 12
theorem mt_X9_copy (l : Launch) : ex_Met l yX9_copy cX9_copy 2 none 1 26 sp_X9_copy := ex_inl (by decide) rfl (ok_X9_copy l)
theorem cw_X9_copyFlags : ec_cw yX9_copyFlags cX9_copyFlags 3 none := ⟨ec_in (i := 881) (by decide +kernel) rfl, ec_in (i := 58) (by decide +kernel) rfl, by decide, by decide⟩
theorem cv_X9_copyFlags : Cond.static yX9_copyFlags ∈ ec_tb := ec_in (i := 880) (by decide +kernel) rfl
def cx_X9_copyFlags : ex_K := (RX9, ec_fx fl_X9, ec_cx cl_X9, sl_X9, ec_no, ec_nz, ec_no)
theorem ok_X9_copyFlags (l : Launch) : ex_ok l 0 0 cx_X9_copyFlags := ⟨ec_fok fo_X9, ec_cok co_X9, so_X9, fun _ _ _ _ h => (by cases h), fun _ h => (by cases h), fun _ h => (by cases h), fun _ h => (by cases h), fun _ _ h => (by cases h)⟩
def sp_X9_copyFlags : ex_S := ex_sp cx_X9_copyFlags cX9_copyFlags 3 none 400
theorem mt_X9_copyFlags (l : Launch) : ex_Met l yX9_copyFlags cX9_copyFlags 3 none 0 0 sp_X9_copyFlags := ex_inl (by decide) rfl (ok_X9_copyFlags l)
theorem cw_X0_becomeLike : ec_cw yX0_becomeLike cX0_becomeLike 2 none := ⟨ec_in (i := 871) (by decide +kernel) rfl, ec_in (i := 61) (by decide +kernel) rfl, by decide, by decide⟩
theorem cv_X0_becomeLike : Cond.instanceMethod yX0_becomeLike ∈ ec_tb ∧ Cond.selects yX0_becomeLike.cls yX0_becomeLike yX0_becomeLike ∈ ec_tb := ⟨ec_in (i := 869) (by decide +kernel) rfl, ec_in (i := 870) (by decide +kernel) rfl⟩
def ca_X0_becomeLike : Nat → Option (Nat × Option Nat × ex_S) := fun ix => match ix with
  | 31 => some (2, none, sp_X9_copy)
  | 35 => some (2, none, sp_X9_copyFlags)
  | _ => none
theorem ck_X0_becomeLike (l : Launch) : ∀ (ix n : Nat) (rc : Option Nat) (sp : ex_S), ca_X0_becomeLike ix = some (n, rc, sp) → ex_cok l RX0 2 47 ix n rc sp := by
  intro ix n rc sp h
  unfold ca_X0_becomeLike at h
  split at h
  · cases h; exact ec_cS (mt_X9_copy l) cw_X9_copy cv_X9_copy (by decide) (by decide) (Or.inr ⟨"TinStation", by decide +kernel⟩) (by decide +kernel)
  · cases h; exact ec_cS (mt_X9_copyFlags l) cw_X9_copyFlags cv_X9_copyFlags (by decide) (by decide) (Or.inr ⟨"TinStation", by decide +kernel⟩) (by decide +kernel)
  · cases h
def cx_X0_becomeLike : ex_K := (RX0, ec_fx fl_X0, ec_cx cl_X0, sl_X0, ca_X0_becomeLike, ec_nz, ec_no)
theorem ok_X0_becomeLike (l : Launch) : ex_ok l 2 47 cx_X0_becomeLike := ⟨ec_fok fo_X0, ec_cok co_X0, so_X0, ck_X0_becomeLike l, fun _ h => (by cases h), fun _ h => (by cases h), fun _ h => (by cases h), fun _ _ h => (by cases h)⟩
def sp_X0_becomeLike : ex_S := ex_sp cx_X0_becomeLike cX0_becomeLike 2 none 40
theorem mt_X0_becomeLike (l : Launch) : ex_Met l yX0_becomeLike cX0_becomeLike 2 none 2 47 sp_X0_becomeLike := ex_inl (by decide) rfl (ok_X0_becomeLike l)
theorem cw_X0_isSort : ec_cw yX0_isSort cX0_isSort 1 (some .boolean) := ⟨ec_in (i := 471) (by decide +kernel) rfl, ec_in (i := 61) (by decide +kernel) rfl, by decide, by decide⟩
theorem cv_X0_isSort : Cond.static yX0_isSort ∈ ec_tb := ec_in (i := 470) (by decide +kernel) rfl
def cx_X0_isSort : ex_K := (RX0, ec_fx fl_X0, ec_cx cl_X0, sl_X0, ec_no, ec_nz, ec_no)
theorem ok_X0_isSort (l : Launch) : ex_ok l 0 0 cx_X0_isSort := ⟨ec_fok fo_X0, ec_cok co_X0, so_X0, fun _ _ _ _ h => (by cases h), fun _ h => (by cases h), fun _ h => (by cases h), fun _ h => (by cases h), fun _ _ h => (by cases h)⟩
def sp_X0_isSort : ex_S := ex_sp cx_X0_isSort cX0_isSort 1 (some .boolean) 10
theorem mt_X0_isSort (l : Launch) : ex_Met l yX0_isSort cX0_isSort 1 (some .boolean) 0 0 sp_X0_isSort := ex_inl (by decide) rfl (ok_X0_isSort l)
theorem cw_X0_hasModule : ec_cw yX0_hasModule cX0_hasModule 2 (some .boolean) := ⟨ec_in (i := 441) (by decide +kernel) rfl, ec_in (i := 61) (by decide +kernel) rfl, by decide, by decide⟩
theorem cv_X0_hasModule : Cond.instanceMethod yX0_hasModule ∈ ec_tb ∧ Cond.selects yX0_hasModule.cls yX0_hasModule yX0_hasModule ∈ ec_tb := ⟨ec_in (i := 439) (by decide +kernel) rfl, ec_in (i := 440) (by decide +kernel) rfl⟩
def cx_X0_hasModule : ex_K := (RX0, ec_fx fl_X0, ec_cx cl_X0, sl_X0, ec_no, ec_nz, ec_no)
theorem ok_X0_hasModule (l : Launch) : ex_ok l 0 0 cx_X0_hasModule := ⟨ec_fok fo_X0, ec_cok co_X0, so_X0, fun _ _ _ _ h => (by cases h), fun _ h => (by cases h), fun _ h => (by cases h), fun _ h => (by cases h), fun _ _ h => (by cases h)⟩
def sp_X0_hasModule : ex_S := ex_sp cx_X0_hasModule cX0_hasModule 2 (some .boolean) 11
theorem mt_X0_hasModule (l : Launch) : ex_Met l yX0_hasModule cX0_hasModule 2 (some .boolean) 0 0 sp_X0_hasModule := ex_inl (by decide) rfl (ok_X0_hasModule l)
theorem cw_X0_hasHatch : ec_cw yX0_hasHatch cX0_hasHatch 2 (some .boolean) := ⟨ec_in (i := 454) (by decide +kernel) rfl, ec_in (i := 61) (by decide +kernel) rfl, by decide, by decide⟩
theorem cv_X0_hasHatch : Cond.instanceMethod yX0_hasHatch ∈ ec_tb ∧ Cond.selects yX0_hasHatch.cls yX0_hasHatch yX0_hasHatch ∈ ec_tb := ⟨ec_in (i := 452) (by decide +kernel) rfl, ec_in (i := 453) (by decide +kernel) rfl⟩
def cx_X0_hasHatch : ex_K := (RX0, ec_fx fl_X0, ec_cx cl_X0, sl_X0, ec_no, ec_nz, ec_no)
theorem ok_X0_hasHatch (l : Launch) : ex_ok l 0 0 cx_X0_hasHatch := ⟨ec_fok fo_X0, ec_cok co_X0, so_X0, fun _ _ _ _ h => (by cases h), fun _ h => (by cases h), fun _ h => (by cases h), fun _ h => (by cases h), fun _ _ h => (by cases h)⟩
def sp_X0_hasHatch : ex_S := ex_sp cx_X0_hasHatch cX0_hasHatch 2 (some .boolean) 11
theorem mt_X0_hasHatch (l : Launch) : ex_Met l yX0_hasHatch cX0_hasHatch 2 (some .boolean) 0 0 sp_X0_hasHatch := ex_inl (by decide) rfl (ok_X0_hasHatch l)
theorem cw_X0_addModule : ec_cw yX0_addModule cX0_addModule 1 (some .int) := ⟨ec_in (i := 422) (by decide +kernel) rfl, ec_in (i := 61) (by decide +kernel) rfl, by decide, by decide⟩
theorem cv_X0_addModule : Cond.instanceMethod yX0_addModule ∈ ec_tb ∧ Cond.selects yX0_addModule.cls yX0_addModule yX0_addModule ∈ ec_tb := ⟨ec_in (i := 420) (by decide +kernel) rfl, ec_in (i := 421) (by decide +kernel) rfl⟩
def cx_X0_addModule : ex_K := (RX0, ec_fx fl_X0, ec_cx cl_X0, sl_X0, ec_no, ec_nz, ec_no)
theorem ok_X0_addModule (l : Launch) : ex_ok l 0 0 cx_X0_addModule := ⟨ec_fok fo_X0, ec_cok co_X0, so_X0, fun _ _ _ _ h => (by cases h), fun _ h => (by cases h), fun _ h => (by cases h), fun _ h => (by cases h), fun _ _ h => (by cases h)⟩
def sp_X0_addModule : ex_S := ex_sp cx_X0_addModule cX0_addModule 1 (some .int) 18
theorem mt_X0_addModule (l : Launch) : ex_Met l yX0_addModule cX0_addModule 1 (some .int) 0 0 sp_X0_addModule := ex_inl (by decide) rfl (ok_X0_addModule l)
theorem cw_X0_addHatch : ec_cw yX0_addHatch cX0_addHatch 3 (some .int) := ⟨ec_in (i := 437) (by decide +kernel) rfl, ec_in (i := 61) (by decide +kernel) rfl, by decide, by decide⟩
theorem cv_X0_addHatch : Cond.instanceMethod yX0_addHatch ∈ ec_tb ∧ Cond.selects yX0_addHatch.cls yX0_addHatch yX0_addHatch ∈ ec_tb := ⟨ec_in (i := 435) (by decide +kernel) rfl, ec_in (i := 436) (by decide +kernel) rfl⟩
def ca_X0_addHatch : Nat → Option (Nat × Option Nat × ex_S) := fun ix => match ix with
  | 47 => some (2, some 0, sp_X0_hasModule)
  | _ => none
theorem ck_X0_addHatch (l : Launch) : ∀ (ix n : Nat) (rc : Option Nat) (sp : ex_S), ca_X0_addHatch ix = some (n, rc, sp) → ex_cok l RX0 1 21 ix n rc sp := by
  intro ix n rc sp h
  unfold ca_X0_addHatch at h
  split at h
  · cases h; exact ec_cV (mt_X0_hasModule l) cw_X0_hasModule cv_X0_hasModule (by decide) (by decide) (Or.inl (ec_in (i := 438) (by decide +kernel) rfl)) (T := TX0) (N := 8) rfl (by decide) (by decide +kernel)
  · cases h
def cx_X0_addHatch : ex_K := (RX0, ec_fx fl_X0, ec_cx cl_X0, sl_X0, ca_X0_addHatch, ec_nz, ec_no)
theorem ok_X0_addHatch (l : Launch) : ex_ok l 1 21 cx_X0_addHatch := ⟨ec_fok fo_X0, ec_cok co_X0, so_X0, ck_X0_addHatch l, fun _ h => (by cases h), fun _ h => (by cases h), fun _ h => (by cases h), fun _ _ h => (by cases h)⟩
def sp_X0_addHatch : ex_S := ex_sp cx_X0_addHatch cX0_addHatch 3 (some .int) 49
theorem mt_X0_addHatch (l : Launch) : ex_Met l yX0_addHatch cX0_addHatch 3 (some .int) 1 21 sp_X0_addHatch := ex_inl (by decide) rfl (ok_X0_addHatch l)
theorem cw_X9_isSwitch : ec_cw yX9_isSwitch cX9_isSwitch 1 (some .boolean) := ⟨ec_in (i := 457) (by decide +kernel) rfl, ec_in (i := 58) (by decide +kernel) rfl, by decide, by decide⟩
theorem cv_X9_isSwitch : Cond.static yX9_isSwitch ∈ ec_tb := ec_in (i := 456) (by decide +kernel) rfl
def cx_X9_isSwitch : ex_K := (RX9, ec_fx fl_X9, ec_cx cl_X9, sl_X9, ec_no, ec_nz, ec_no)
theorem ok_X9_isSwitch (l : Launch) : ex_ok l 0 0 cx_X9_isSwitch := ⟨ec_fok fo_X9, ec_cok co_X9, so_X9, fun _ _ _ _ h => (by cases h), fun _ h => (by cases h), fun _ h => (by cases h), fun _ h => (by cases h), fun _ _ h => (by cases h)⟩
def sp_X9_isSwitch : ex_S := ex_sp cx_X9_isSwitch cX9_isSwitch 1 (some .boolean) 10
theorem mt_X9_isSwitch (l : Launch) : ex_Met l yX9_isSwitch cX9_isSwitch 1 (some .boolean) 0 0 sp_X9_isSwitch := ex_inl (by decide) rfl (ok_X9_isSwitch l)
theorem cw_X9_one : ec_cw yX9_one cX9_one 1 (some .int) := ⟨ec_in (i := 460) (by decide +kernel) rfl, ec_in (i := 58) (by decide +kernel) rfl, by decide, by decide⟩
theorem cv_X9_one : Cond.static yX9_one ∈ ec_tb := ec_in (i := 459) (by decide +kernel) rfl
def cx_X9_one : ex_K := (RX9, ec_fx fl_X9, ec_cx cl_X9, sl_X9, ec_no, ec_nz, ec_no)
theorem ok_X9_one (l : Launch) : ex_ok l 0 0 cx_X9_one := ⟨ec_fok fo_X9, ec_cok co_X9, so_X9, fun _ _ _ _ h => (by cases h), fun _ h => (by cases h), fun _ h => (by cases h), fun _ h => (by cases h), fun _ _ h => (by cases h)⟩
def sp_X9_one : ex_S := ex_sp cx_X9_one cX9_one 1 (some .int) 7
theorem mt_X9_one (l : Launch) : ex_Met l yX9_one cX9_one 1 (some .int) 0 0 sp_X9_one := ex_inl (by decide) rfl (ok_X9_one l)
theorem cw_X0_setOpen : ec_cw yX0_setOpen cX0_setOpen 4 (some .int) := ⟨ec_in (i := 450) (by decide +kernel) rfl, ec_in (i := 61) (by decide +kernel) rfl, by decide, by decide⟩
theorem cv_X0_setOpen : Cond.instanceMethod yX0_setOpen ∈ ec_tb ∧ Cond.selects yX0_setOpen.cls yX0_setOpen yX0_setOpen ∈ ec_tb := ⟨ec_in (i := 448) (by decide +kernel) rfl, ec_in (i := 449) (by decide +kernel) rfl⟩
def ca_X0_setOpen : Nat → Option (Nat × Option Nat × ex_S) := fun ix => match ix with
  | 52 => some (2, some 0, sp_X0_hasHatch)
  | 55 => some (1, none, sp_X9_isSwitch)
  | 58 => some (1, none, sp_X9_one)
  | _ => none
theorem ck_X0_setOpen (l : Launch) : ∀ (ix n : Nat) (rc : Option Nat) (sp : ex_S), ca_X0_setOpen ix = some (n, rc, sp) → ex_cok l RX0 1 21 ix n rc sp := by
  intro ix n rc sp h
  unfold ca_X0_setOpen at h
  split at h
  · cases h; exact ec_cV (mt_X0_hasHatch l) cw_X0_hasHatch cv_X0_hasHatch (by decide) (by decide) (Or.inl (ec_in (i := 451) (by decide +kernel) rfl)) (T := TX0) (N := 8) rfl (by decide) (by decide +kernel)
  · cases h; exact ec_cS (mt_X9_isSwitch l) cw_X9_isSwitch cv_X9_isSwitch (by decide) (by decide) (Or.inr ⟨"TinStation", by decide +kernel⟩) (by decide +kernel)
  · cases h; exact ec_cS (mt_X9_one l) cw_X9_one cv_X9_one (by decide) (by decide) (Or.inr ⟨"TinStation", by decide +kernel⟩) (by decide +kernel)
  · cases h
def cx_X0_setOpen : ex_K := (RX0, ec_fx fl_X0, ec_cx cl_X0, sl_X0, ca_X0_setOpen, ec_nz, ec_no)
theorem ok_X0_setOpen (l : Launch) : ex_ok l 1 21 cx_X0_setOpen := ⟨ec_fok fo_X0, ec_cok co_X0, so_X0, ck_X0_setOpen l, fun _ h => (by cases h), fun _ h => (by cases h), fun _ h => (by cases h), fun _ _ h => (by cases h)⟩
def sp_X0_setOpen : ex_S := ex_sp cx_X0_setOpen cX0_setOpen 4 (some .int) 28
theorem mt_X0_setOpen (l : Launch) : ex_Met l yX0_setOpen cX0_setOpen 4 (some .int) 1 21 sp_X0_setOpen := ex_inl (by decide) rfl (ok_X0_setOpen l)
theorem cw_X0_setHeld : ec_cw yX0_setHeld cX0_setHeld 5 (some .int) := ⟨ec_in (i := 468) (by decide +kernel) rfl, ec_in (i := 61) (by decide +kernel) rfl, by decide, by decide⟩
theorem cv_X0_setHeld : Cond.instanceMethod yX0_setHeld ∈ ec_tb ∧ Cond.selects yX0_setHeld.cls yX0_setHeld yX0_setHeld ∈ ec_tb := ⟨ec_in (i := 466) (by decide +kernel) rfl, ec_in (i := 467) (by decide +kernel) rfl⟩
def ca_X0_setHeld : Nat → Option (Nat × Option Nat × ex_S) := fun ix => match ix with
  | 47 => some (2, some 0, sp_X0_hasModule)
  | 62 => some (1, none, sp_X0_isSort)
  | _ => none
theorem ck_X0_setHeld (l : Launch) : ∀ (ix n : Nat) (rc : Option Nat) (sp : ex_S), ca_X0_setHeld ix = some (n, rc, sp) → ex_cok l RX0 1 21 ix n rc sp := by
  intro ix n rc sp h
  unfold ca_X0_setHeld at h
  split at h
  · cases h; exact ec_cV (mt_X0_hasModule l) cw_X0_hasModule cv_X0_hasModule (by decide) (by decide) (Or.inl (ec_in (i := 438) (by decide +kernel) rfl)) (T := TX0) (N := 8) rfl (by decide) (by decide +kernel)
  · cases h; exact ec_cS (mt_X0_isSort l) cw_X0_isSort cv_X0_isSort (by decide) (by decide) (Or.inl (ec_in (i := 469) (by decide +kernel) rfl)) (by decide +kernel)
  · cases h
def cx_X0_setHeld : ex_K := (RX0, ec_fx fl_X0, ec_cx cl_X0, sl_X0, ca_X0_setHeld, ec_nz, ec_no)
theorem ok_X0_setHeld (l : Launch) : ex_ok l 1 21 cx_X0_setHeld := ⟨ec_fok fo_X0, ec_cok co_X0, so_X0, ck_X0_setHeld l, fun _ h => (by cases h), fun _ h => (by cases h), fun _ h => (by cases h), fun _ _ h => (by cases h)⟩
def sp_X0_setHeld : ex_S := ex_sp cx_X0_setHeld cX0_setHeld 5 (some .int) 39
theorem mt_X0_setHeld (l : Launch) : ex_Met l yX0_setHeld cX0_setHeld 5 (some .int) 1 21 sp_X0_setHeld := ex_inl (by decide) rfl (ok_X0_setHeld l)
theorem cw_X0_setLeak : ec_cw yX0_setLeak cX0_setLeak 4 (some .int) := ⟨ec_in (i := 480) (by decide +kernel) rfl, ec_in (i := 61) (by decide +kernel) rfl, by decide, by decide⟩
theorem cv_X0_setLeak : Cond.instanceMethod yX0_setLeak ∈ ec_tb ∧ Cond.selects yX0_setLeak.cls yX0_setLeak yX0_setLeak ∈ ec_tb := ⟨ec_in (i := 478) (by decide +kernel) rfl, ec_in (i := 479) (by decide +kernel) rfl⟩
def ca_X0_setLeak : Nat → Option (Nat × Option Nat × ex_S) := fun ix => match ix with
  | 47 => some (2, some 0, sp_X0_hasModule)
  | _ => none
theorem ck_X0_setLeak (l : Launch) : ∀ (ix n : Nat) (rc : Option Nat) (sp : ex_S), ca_X0_setLeak ix = some (n, rc, sp) → ex_cok l RX0 1 21 ix n rc sp := by
  intro ix n rc sp h
  unfold ca_X0_setLeak at h
  split at h
  · cases h; exact ec_cV (mt_X0_hasModule l) cw_X0_hasModule cv_X0_hasModule (by decide) (by decide) (Or.inl (ec_in (i := 438) (by decide +kernel) rfl)) (T := TX0) (N := 8) rfl (by decide) (by decide +kernel)
  · cases h
def cx_X0_setLeak : ex_K := (RX0, ec_fx fl_X0, ec_cx cl_X0, sl_X0, ca_X0_setLeak, ec_nz, ec_no)
theorem ok_X0_setLeak (l : Launch) : ex_ok l 1 21 cx_X0_setLeak := ⟨ec_fok fo_X0, ec_cok co_X0, so_X0, ck_X0_setLeak l, fun _ h => (by cases h), fun _ h => (by cases h), fun _ h => (by cases h), fun _ _ h => (by cases h)⟩
def sp_X0_setLeak : ex_S := ex_sp cx_X0_setLeak cX0_setLeak 4 (some .int) 24
theorem mt_X0_setLeak (l : Launch) : ex_Met l yX0_setLeak cX0_setLeak 4 (some .int) 1 21 sp_X0_setLeak := ex_inl (by decide) rfl (ok_X0_setLeak l)
theorem cw_X0_setStored : ec_cw yX0_setStored cX0_setStored 4 (some .int) := ⟨ec_in (i := 488) (by decide +kernel) rfl, ec_in (i := 61) (by decide +kernel) rfl, by decide, by decide⟩
theorem cv_X0_setStored : Cond.instanceMethod yX0_setStored ∈ ec_tb ∧ Cond.selects yX0_setStored.cls yX0_setStored yX0_setStored ∈ ec_tb := ⟨ec_in (i := 486) (by decide +kernel) rfl, ec_in (i := 487) (by decide +kernel) rfl⟩
def cx_X0_setStored : ex_K := (RX0, ec_fx fl_X0, ec_cx cl_X0, sl_X0, ec_no, ec_nz, ec_no)
theorem ok_X0_setStored (l : Launch) : ex_ok l 0 0 cx_X0_setStored := ⟨ec_fok fo_X0, ec_cok co_X0, so_X0, fun _ _ _ _ h => (by cases h), fun _ h => (by cases h), fun _ h => (by cases h), fun _ h => (by cases h), fun _ _ h => (by cases h)⟩
def sp_X0_setStored : ex_S := ex_sp cx_X0_setStored cX0_setStored 4 (some .int) 29
theorem mt_X0_setStored (l : Launch) : ex_Met l yX0_setStored cX0_setStored 4 (some .int) 0 0 sp_X0_setStored := ex_inl (by decide) rfl (ok_X0_setStored l)
theorem cw_X0_allGrams : ec_cw yX0_allGrams cX0_allGrams 4 (some .int) := ⟨ec_in (i := 497) (by decide +kernel) rfl, ec_in (i := 61) (by decide +kernel) rfl, by decide, by decide⟩
theorem cv_X0_allGrams : Cond.instanceMethod yX0_allGrams ∈ ec_tb ∧ Cond.selects yX0_allGrams.cls yX0_allGrams yX0_allGrams ∈ ec_tb := ⟨ec_in (i := 495) (by decide +kernel) rfl, ec_in (i := 496) (by decide +kernel) rfl⟩
def cx_X0_allGrams : ex_K := (RX0, ec_fx fl_X0, ec_cx cl_X0, sl_X0, ec_no, ec_nz, ec_no)
theorem ok_X0_allGrams (l : Launch) : ex_ok l 0 0 cx_X0_allGrams := ⟨ec_fok fo_X0, ec_cok co_X0, so_X0, fun _ _ _ _ h => (by cases h), fun _ h => (by cases h), fun _ h => (by cases h), fun _ h => (by cases h), fun _ _ h => (by cases h)⟩
def sp_X0_allGrams : ex_S := ex_sp cx_X0_allGrams cX0_allGrams 4 (some .int) 400
theorem mt_X0_allGrams (l : Launch) : ex_Met l yX0_allGrams cX0_allGrams 4 (some .int) 0 0 sp_X0_allGrams := ex_inl (by decide) rfl (ok_X0_allGrams l)
theorem cw_X0_amount : ec_cw yX0_amount cX0_amount 3 (some .int) := ⟨ec_in (i := 734) (by decide +kernel) rfl, ec_in (i := 61) (by decide +kernel) rfl, by decide, by decide⟩
theorem cv_X0_amount : Cond.instanceMethod yX0_amount ∈ ec_tb ∧ Cond.selects yX0_amount.cls yX0_amount yX0_amount ∈ ec_tb := ⟨ec_in (i := 732) (by decide +kernel) rfl, ec_in (i := 733) (by decide +kernel) rfl⟩
def cx_X0_amount : ex_K := (RX0, ec_fx fl_X0, ec_cx cl_X0, sl_X0, ec_no, ec_nz, ec_no)
theorem ok_X0_amount (l : Launch) : ex_ok l 0 0 cx_X0_amount := ⟨ec_fok fo_X0, ec_cok co_X0, so_X0, fun _ _ _ _ h => (by cases h), fun _ h => (by cases h), fun _ h => (by cases h), fun _ h => (by cases h), fun _ _ h => (by cases h)⟩
def sp_X0_amount : ex_S := ex_sp cx_X0_amount cX0_amount 3 (some .int) 10
theorem mt_X0_amount (l : Launch) : ex_Met l yX0_amount cX0_amount 3 (some .int) 0 0 sp_X0_amount := ex_inl (by decide) rfl (ok_X0_amount l)
theorem cw_X0_give : ec_cw yX0_give cX0_give 4 none := ⟨ec_in (i := 793) (by decide +kernel) rfl, ec_in (i := 61) (by decide +kernel) rfl, by decide, by decide⟩
theorem cv_X0_give : Cond.instanceMethod yX0_give ∈ ec_tb ∧ Cond.selects yX0_give.cls yX0_give yX0_give ∈ ec_tb := ⟨ec_in (i := 791) (by decide +kernel) rfl, ec_in (i := 792) (by decide +kernel) rfl⟩
def cx_X0_give : ex_K := (RX0, ec_fx fl_X0, ec_cx cl_X0, sl_X0, ec_no, ec_nz, ec_no)
theorem ok_X0_give (l : Launch) : ex_ok l 0 0 cx_X0_give := ⟨ec_fok fo_X0, ec_cok co_X0, so_X0, fun _ _ _ _ h => (by cases h), fun _ h => (by cases h), fun _ h => (by cases h), fun _ h => (by cases h), fun _ _ h => (by cases h)⟩
def sp_X0_give : ex_S := ex_sp cx_X0_give cX0_give 4 none 14
theorem mt_X0_give (l : Launch) : ex_Met l yX0_give cX0_give 4 none 0 0 sp_X0_give := ex_inl (by decide) rfl (ok_X0_give l)
theorem cw_X0_take : ec_cw yX0_take cX0_take 5 (some .int) := ⟨ec_in (i := 776) (by decide +kernel) rfl, ec_in (i := 61) (by decide +kernel) rfl, by decide, by decide⟩
theorem cv_X0_take : Cond.instanceMethod yX0_take ∈ ec_tb ∧ Cond.selects yX0_take.cls yX0_take yX0_take ∈ ec_tb := ⟨ec_in (i := 774) (by decide +kernel) rfl, ec_in (i := 775) (by decide +kernel) rfl⟩
def cx_X0_take : ex_K := (RX0, ec_fx fl_X0, ec_cx cl_X0, sl_X0, ec_no, al_X0, ec_no)
theorem ok_X0_take (l : Launch) : ex_ok l 1 21 cx_X0_take := ⟨ec_fok fo_X0, ec_cok co_X0, so_X0, fun _ _ _ _ h => (by cases h), am_X0 (by decide) (by decide), ax_X0, ao_X0, fun _ _ h => (by cases h)⟩
def sp_X0_take : ex_S := ex_sp cx_X0_take cX0_take 5 (some .int) 26
theorem mt_X0_take (l : Launch) : ex_Met l yX0_take cX0_take 5 (some .int) 1 21 sp_X0_take := ex_inl (by decide) rfl (ok_X0_take l)
theorem cw_X0_fill : ec_cw yX0_fill cX0_fill 3 none := ⟨ec_in (i := 781) (by decide +kernel) rfl, ec_in (i := 61) (by decide +kernel) rfl, by decide, by decide⟩
theorem cv_X0_fill : Cond.instanceMethod yX0_fill ∈ ec_tb ∧ Cond.selects yX0_fill.cls yX0_fill yX0_fill ∈ ec_tb := ⟨ec_in (i := 779) (by decide +kernel) rfl, ec_in (i := 780) (by decide +kernel) rfl⟩
def cx_X0_fill : ex_K := (RX0, ec_fx fl_X0, ec_cx cl_X0, sl_X0, ec_no, ec_nz, ec_no)
theorem ok_X0_fill (l : Launch) : ex_ok l 0 0 cx_X0_fill := ⟨ec_fok fo_X0, ec_cok co_X0, so_X0, fun _ _ _ _ h => (by cases h), fun _ h => (by cases h), fun _ h => (by cases h), fun _ h => (by cases h), fun _ _ h => (by cases h)⟩
def sp_X0_fill : ex_S := ex_sp cx_X0_fill cX0_fill 3 none 10
theorem mt_X0_fill (l : Launch) : ex_Met l yX0_fill cX0_fill 3 none 0 0 sp_X0_fill := ex_inl (by decide) rfl (ok_X0_fill l)
theorem cw_X0_draw : ec_cw yX0_draw cX0_draw 4 (some .int) := ⟨ec_in (i := 789) (by decide +kernel) rfl, ec_in (i := 61) (by decide +kernel) rfl, by decide, by decide⟩
theorem cv_X0_draw : Cond.instanceMethod yX0_draw ∈ ec_tb ∧ Cond.selects yX0_draw.cls yX0_draw yX0_draw ∈ ec_tb := ⟨ec_in (i := 787) (by decide +kernel) rfl, ec_in (i := 788) (by decide +kernel) rfl⟩
def cx_X0_draw : ex_K := (RX0, ec_fx fl_X0, ec_cx cl_X0, sl_X0, ec_no, al_X0, ec_no)
theorem ok_X0_draw (l : Launch) : ex_ok l 1 21 cx_X0_draw := ⟨ec_fok fo_X0, ec_cok co_X0, so_X0, fun _ _ _ _ h => (by cases h), am_X0 (by decide) (by decide), ax_X0, ao_X0, fun _ _ h => (by cases h)⟩
def sp_X0_draw : ex_S := ex_sp cx_X0_draw cX0_draw 4 (some .int) 18
theorem mt_X0_draw (l : Launch) : ex_Met l yX0_draw cX0_draw 4 (some .int) 1 21 sp_X0_draw := ex_inl (by decide) rfl (ok_X0_draw l)
theorem cw_X0_openBetween : ec_cw yX0_openBetween cX0_openBetween 5 (some .boolean) := ⟨ec_in (i := 530) (by decide +kernel) rfl, ec_in (i := 61) (by decide +kernel) rfl, by decide, by decide⟩
theorem cv_X0_openBetween : Cond.instanceMethod yX0_openBetween ∈ ec_tb ∧ Cond.selects yX0_openBetween.cls yX0_openBetween yX0_openBetween ∈ ec_tb := ⟨ec_in (i := 528) (by decide +kernel) rfl, ec_in (i := 529) (by decide +kernel) rfl⟩
def cx_X0_openBetween : ex_K := (RX0, ec_fx fl_X0, ec_cx cl_X0, sl_X0, ec_no, ec_nz, ec_no)
theorem ok_X0_openBetween (l : Launch) : ex_ok l 0 0 cx_X0_openBetween := ⟨ec_fok fo_X0, ec_cok co_X0, so_X0, fun _ _ _ _ h => (by cases h), fun _ h => (by cases h), fun _ h => (by cases h), fun _ h => (by cases h), fun _ _ h => (by cases h)⟩
def sp_X0_openBetween : ex_S := ex_sp cx_X0_openBetween cX0_openBetween 5 (some .boolean) 400
theorem mt_X0_openBetween (l : Launch) : ex_Met l yX0_openBetween cX0_openBetween 5 (some .boolean) 0 0 sp_X0_openBetween := ex_inl (by decide) rfl (ok_X0_openBetween l)
theorem cw_X0_leakOut : ec_cw yX0_leakOut cX0_leakOut 4 none := ⟨ec_in (i := 822) (by decide +kernel) rfl, ec_in (i := 61) (by decide +kernel) rfl, by decide, by decide⟩
theorem cv_X0_leakOut : Cond.instanceMethod yX0_leakOut ∈ ec_tb ∧ Cond.selects yX0_leakOut.cls yX0_leakOut yX0_leakOut ∈ ec_tb := ⟨ec_in (i := 820) (by decide +kernel) rfl, ec_in (i := 821) (by decide +kernel) rfl⟩
def ca_X0_leakOut : Nat → Option (Nat × Option Nat × ex_S) := fun ix => match ix with
  | 73 => some (3, some 0, sp_X0_amount)
  | 76 => some (4, some 0, sp_X0_give)
  | 80 => some (3, some 0, sp_X0_fill)
  | _ => none
theorem ck_X0_leakOut (l : Launch) : ∀ (ix n : Nat) (rc : Option Nat) (sp : ex_S), ca_X0_leakOut ix = some (n, rc, sp) → ex_cok l RX0 1 23 ix n rc sp := by
  intro ix n rc sp h
  unfold ca_X0_leakOut at h
  split at h
  · cases h; exact ec_cV (mt_X0_amount l) cw_X0_amount cv_X0_amount (by decide) (by decide) (Or.inl (ec_in (i := 823) (by decide +kernel) rfl)) (T := TX0) (N := 8) rfl (by decide) (by decide +kernel)
  · cases h; exact ec_cV (mt_X0_give l) cw_X0_give cv_X0_give (by decide) (by decide) (Or.inl (ec_in (i := 824) (by decide +kernel) rfl)) (T := TX0) (N := 8) rfl (by decide) (by decide +kernel)
  · cases h; exact ec_cV (mt_X0_fill l) cw_X0_fill cv_X0_fill (by decide) (by decide) (Or.inl (ec_in (i := 825) (by decide +kernel) rfl)) (T := TX0) (N := 8) rfl (by decide) (by decide +kernel)
  · cases h
def cx_X0_leakOut : ex_K := (RX0, ec_fx fl_X0, ec_cx cl_X0, sl_X0, ca_X0_leakOut, ec_nz, ec_no)
theorem ok_X0_leakOut (l : Launch) : ex_ok l 1 23 cx_X0_leakOut := ⟨ec_fok fo_X0, ec_cok co_X0, so_X0, ck_X0_leakOut l, fun _ h => (by cases h), fun _ h => (by cases h), fun _ h => (by cases h), fun _ _ h => (by cases h)⟩
def sp_X0_leakOut : ex_S := ex_sp cx_X0_leakOut cX0_leakOut 4 none 400
theorem mt_X0_leakOut (l : Launch) : ex_Met l yX0_leakOut cX0_leakOut 4 none 1 23 sp_X0_leakOut := ex_inl (by decide) rfl (ok_X0_leakOut l)
theorem cw_X0_mix : ec_cw yX0_mix cX0_mix 5 none := ⟨ec_in (i := 833) (by decide +kernel) rfl, ec_in (i := 61) (by decide +kernel) rfl, by decide, by decide⟩
theorem cv_X0_mix : Cond.instanceMethod yX0_mix ∈ ec_tb ∧ Cond.selects yX0_mix.cls yX0_mix yX0_mix ∈ ec_tb := ⟨ec_in (i := 832) (by decide +kernel) rfl, ec_in (i := 16) (by decide +kernel) rfl⟩
def ca_X0_mix : Nat → Option (Nat × Option Nat × ex_S) := fun ix => match ix with
  | 73 => some (3, some 0, sp_X0_amount)
  | 76 => some (4, some 0, sp_X0_give)
  | _ => none
theorem ck_X0_mix (l : Launch) : ∀ (ix n : Nat) (rc : Option Nat) (sp : ex_S), ca_X0_mix ix = some (n, rc, sp) → ex_cok l RX0 1 23 ix n rc sp := by
  intro ix n rc sp h
  unfold ca_X0_mix at h
  split at h
  · cases h; exact ec_cV (mt_X0_amount l) cw_X0_amount cv_X0_amount (by decide) (by decide) (Or.inl (ec_in (i := 823) (by decide +kernel) rfl)) (T := TX0) (N := 8) rfl (by decide) (by decide +kernel)
  · cases h; exact ec_cV (mt_X0_give l) cw_X0_give cv_X0_give (by decide) (by decide) (Or.inl (ec_in (i := 824) (by decide +kernel) rfl)) (T := TX0) (N := 8) rfl (by decide) (by decide +kernel)
  · cases h
def cx_X0_mix : ex_K := (RX0, ec_fx fl_X0, ec_cx cl_X0, sl_X0, ca_X0_mix, ec_nz, ec_no)
theorem ok_X0_mix (l : Launch) : ex_ok l 1 23 cx_X0_mix := ⟨ec_fok fo_X0, ec_cok co_X0, so_X0, ck_X0_mix l, fun _ h => (by cases h), fun _ h => (by cases h), fun _ h => (by cases h), fun _ _ h => (by cases h)⟩
def sp_X0_mix : ex_S := ex_sp cx_X0_mix cX0_mix 5 none 400
theorem mt_X0_mix (l : Launch) : ex_Met l yX0_mix cX0_mix 5 none 1 23 sp_X0_mix := ex_inl (by decide) rfl (ok_X0_mix l)
theorem cw_X0_mixThroughHatches : ec_cw yX0_mixThroughHatches cX0_mixThroughHatches 2 none := ⟨ec_in (i := 829) (by decide +kernel) rfl, ec_in (i := 61) (by decide +kernel) rfl, by decide, by decide⟩
theorem cv_X0_mixThroughHatches : Cond.instanceMethod yX0_mixThroughHatches ∈ ec_tb ∧ Cond.selects yX0_mixThroughHatches.cls yX0_mixThroughHatches yX0_mixThroughHatches ∈ ec_tb := ⟨ec_in (i := 827) (by decide +kernel) rfl, ec_in (i := 828) (by decide +kernel) rfl⟩
def ca_X0_mixThroughHatches : Nat → Option (Nat × Option Nat × ex_S) := fun ix => match ix with
  | 84 => some (3, some 0, sp_X0_mix)
  | _ => none
theorem ck_X0_mixThroughHatches (l : Launch) : ∀ (ix n : Nat) (rc : Option Nat) (sp : ex_S), ca_X0_mixThroughHatches ix = some (n, rc, sp) → ex_cok l RX0 2 47 ix n rc sp := by
  intro ix n rc sp h
  unfold ca_X0_mixThroughHatches at h
  split at h
  · cases h; exact ec_cV (mt_X0_mix l) cw_X0_mix cv_X0_mix (by decide) (by decide) (Or.inl (ec_in (i := 830) (by decide +kernel) rfl)) (T := TX0) (N := 8) rfl (by decide) (by decide +kernel)
  · cases h
def cx_X0_mixThroughHatches : ex_K := (RX0, ec_fx fl_X0, ec_cx cl_X0, sl_X0, ca_X0_mixThroughHatches, ec_nz, ec_no)
theorem ok_X0_mixThroughHatches (l : Launch) : ex_ok l 2 47 cx_X0_mixThroughHatches := ⟨ec_fok fo_X0, ec_cok co_X0, so_X0, ck_X0_mixThroughHatches l, fun _ h => (by cases h), fun _ h => (by cases h), fun _ h => (by cases h), fun _ _ h => (by cases h)⟩
def sp_X0_mixThroughHatches : ex_S := ex_sp cx_X0_mixThroughHatches cX0_mixThroughHatches 2 none 400
theorem mt_X0_mixThroughHatches (l : Launch) : ex_Met l yX0_mixThroughHatches cX0_mixThroughHatches 2 none 2 47 sp_X0_mixThroughHatches := ex_inl (by decide) rfl (ok_X0_mixThroughHatches l)
theorem cw_X1_becomeLike : ec_cw yX1_becomeLike cX1_becomeLike 2 none := ⟨ec_in (i := 896) (by decide +kernel) rfl, ec_in (i := 64) (by decide +kernel) rfl, by decide, by decide⟩
theorem cv_X1_becomeLike : Cond.instanceMethod yX1_becomeLike ∈ ec_tb ∧ Cond.selects yX1_becomeLike.cls yX1_becomeLike yX1_becomeLike ∈ ec_tb := ⟨ec_in (i := 894) (by decide +kernel) rfl, ec_in (i := 895) (by decide +kernel) rfl⟩
def cx_X1_becomeLike : ex_K := (RX1, ec_fx fl_X1, ec_cx cl_X1, sl_X1, ec_no, ec_nz, ec_no)
theorem ok_X1_becomeLike (l : Launch) : ex_ok l 0 0 cx_X1_becomeLike := ⟨ec_fok fo_X1, ec_cok co_X1, so_X1, fun _ _ _ _ h => (by cases h), fun _ h => (by cases h), fun _ h => (by cases h), fun _ h => (by cases h), fun _ _ h => (by cases h)⟩
def sp_X1_becomeLike : ex_S := ex_sp cx_X1_becomeLike cX1_becomeLike 2 none 26
theorem mt_X1_becomeLike (l : Launch) : ex_Met l yX1_becomeLike cX1_becomeLike 2 none 0 0 sp_X1_becomeLike := ex_inl (by decide) rfl (ok_X1_becomeLike l)
theorem cw_X1_isBound : ec_cw yX1_isBound cX1_isBound 1 (some .boolean) := ⟨ec_in (i := 690) (by decide +kernel) rfl, ec_in (i := 64) (by decide +kernel) rfl, by decide, by decide⟩
theorem cv_X1_isBound : Cond.static yX1_isBound ∈ ec_tb := ec_in (i := 689) (by decide +kernel) rfl
def cx_X1_isBound : ex_K := (RX1, ec_fx fl_X1, ec_cx cl_X1, sl_X1, ec_no, ec_nz, ec_no)
theorem ok_X1_isBound (l : Launch) : ex_ok l 0 0 cx_X1_isBound := ⟨ec_fok fo_X1, ec_cok co_X1, so_X1, fun _ _ _ _ h => (by cases h), fun _ h => (by cases h), fun _ h => (by cases h), fun _ h => (by cases h), fun _ _ h => (by cases h)⟩
def sp_X1_isBound : ex_S := ex_sp cx_X1_isBound cX1_isBound 1 (some .boolean) 10
theorem mt_X1_isBound (l : Launch) : ex_Met l yX1_isBound cX1_isBound 1 (some .boolean) 0 0 sp_X1_isBound := ex_inl (by decide) rfl (ok_X1_isBound l)
theorem cw_X1_setAll : ec_cw yX1_setAll cX1_setAll 4 (some .int) := ⟨ec_in (i := 687) (by decide +kernel) rfl, ec_in (i := 64) (by decide +kernel) rfl, by decide, by decide⟩
theorem cv_X1_setAll : Cond.instanceMethod yX1_setAll ∈ ec_tb ∧ Cond.selects yX1_setAll.cls yX1_setAll yX1_setAll ∈ ec_tb := ⟨ec_in (i := 685) (by decide +kernel) rfl, ec_in (i := 686) (by decide +kernel) rfl⟩
def ca_X1_setAll : Nat → Option (Nat × Option Nat × ex_S) := fun ix => match ix with
  | 31 => some (1, none, sp_X1_isBound)
  | _ => none
theorem ck_X1_setAll (l : Launch) : ∀ (ix n : Nat) (rc : Option Nat) (sp : ex_S), ca_X1_setAll ix = some (n, rc, sp) → ex_cok l RX1 1 20 ix n rc sp := by
  intro ix n rc sp h
  unfold ca_X1_setAll at h
  split at h
  · cases h; exact ec_cS (mt_X1_isBound l) cw_X1_isBound cv_X1_isBound (by decide) (by decide) (Or.inl (ec_in (i := 688) (by decide +kernel) rfl)) (by decide +kernel)
  · cases h
def cx_X1_setAll : ex_K := (RX1, ec_fx fl_X1, ec_cx cl_X1, sl_X1, ca_X1_setAll, ec_nz, ec_no)
theorem ok_X1_setAll (l : Launch) : ex_ok l 1 20 cx_X1_setAll := ⟨ec_fok fo_X1, ec_cok co_X1, so_X1, ck_X1_setAll l, fun _ h => (by cases h), fun _ h => (by cases h), fun _ h => (by cases h), fun _ _ h => (by cases h)⟩
def sp_X1_setAll : ex_S := ex_sp cx_X1_setAll cX1_setAll 4 (some .int) 23
theorem mt_X1_setAll (l : Launch) : ex_Met l yX1_setAll cX1_setAll 4 (some .int) 1 20 sp_X1_setAll := ex_inl (by decide) rfl (ok_X1_setAll l)
theorem cw_X1_tellFirstBreak : ec_cw yX1_tellFirstBreak cX1_tellFirstBreak 2 (some .int) := ⟨ec_in (i := 858) (by decide +kernel) rfl, ec_in (i := 64) (by decide +kernel) rfl, by decide, by decide⟩
theorem cv_X1_tellFirstBreak : Cond.instanceMethod yX1_tellFirstBreak ∈ ec_tb ∧ Cond.selects yX1_tellFirstBreak.cls yX1_tellFirstBreak yX1_tellFirstBreak ∈ ec_tb := ⟨ec_in (i := 856) (by decide +kernel) rfl, ec_in (i := 857) (by decide +kernel) rfl⟩
def cx_X1_tellFirstBreak : ex_K := (RX1, ec_fx fl_X1, ec_cx cl_X1, sl_X1, ec_no, ec_nz, ec_no)
theorem ok_X1_tellFirstBreak (l : Launch) : ex_ok l 0 0 cx_X1_tellFirstBreak := ⟨ec_fok fo_X1, ec_cok co_X1, so_X1, fun _ _ _ _ h => (by cases h), fun _ h => (by cases h), fun _ h => (by cases h), fun _ h => (by cases h), fun _ _ h => (by cases h)⟩
def sp_X1_tellFirstBreak : ex_S := ex_sp cx_X1_tellFirstBreak cX1_tellFirstBreak 2 (some .int) 21
theorem mt_X1_tellFirstBreak (l : Launch) : ex_Met l yX1_tellFirstBreak cX1_tellFirstBreak 2 (some .int) 0 0 sp_X1_tellFirstBreak := ex_inl (by decide) rfl (ok_X1_tellFirstBreak l)
theorem cw_X3_anyoneIn : ec_cw yX3_anyoneIn cX3_anyoneIn 3 (some .boolean) := ⟨ec_in (i := 841) (by decide +kernel) rfl, ec_in (i := 62) (by decide +kernel) rfl, by decide, by decide⟩
theorem cv_X3_anyoneIn : Cond.instanceMethod yX3_anyoneIn ∈ ec_tb ∧ Cond.selects yX3_anyoneIn.cls yX3_anyoneIn yX3_anyoneIn ∈ ec_tb := ⟨ec_in (i := 839) (by decide +kernel) rfl, ec_in (i := 840) (by decide +kernel) rfl⟩
def cx_X3_anyoneIn : ex_K := (RX3, ec_fx fl_X3, ec_cx cl_X3, sl_X3, ec_no, ec_nz, ec_no)
theorem ok_X3_anyoneIn (l : Launch) : ex_ok l 0 0 cx_X3_anyoneIn := ⟨ec_fok fo_X3, ec_cok co_X3, so_X3, fun _ _ _ _ h => (by cases h), fun _ h => (by cases h), fun _ h => (by cases h), fun _ h => (by cases h), fun _ _ h => (by cases h)⟩
def sp_X3_anyoneIn : ex_S := ex_sp cx_X3_anyoneIn cX3_anyoneIn 3 (some .boolean) 400
theorem mt_X3_anyoneIn (l : Launch) : ex_Met l yX3_anyoneIn cX3_anyoneIn 3 (some .boolean) 0 0 sp_X3_anyoneIn := ex_inl (by decide) rfl (ok_X3_anyoneIn l)
theorem cw_X1_breaksIn : ec_cw yX1_breaksIn cX1_breaksIn 3 (some .boolean) := ⟨ec_in (i := 845) (by decide +kernel) rfl, ec_in (i := 64) (by decide +kernel) rfl, by decide, by decide⟩
theorem cv_X1_breaksIn : Cond.instanceMethod yX1_breaksIn ∈ ec_tb ∧ Cond.selects yX1_breaksIn.cls yX1_breaksIn yX1_breaksIn ∈ ec_tb := ⟨ec_in (i := 844) (by decide +kernel) rfl, ec_in (i := 17) (by decide +kernel) rfl⟩
def ca_X1_breaksIn : Nat → Option (Nat × Option Nat × ex_S) := fun ix => match ix with
  | 56 => some (3, some 0, sp_X0_amount)
  | _ => none
theorem ck_X1_breaksIn (l : Launch) : ∀ (ix n : Nat) (rc : Option Nat) (sp : ex_S), ca_X1_breaksIn ix = some (n, rc, sp) → ex_cok l RX1 1 22 ix n rc sp := by
  intro ix n rc sp h
  unfold ca_X1_breaksIn at h
  split at h
  · cases h; exact ec_cV (mt_X0_amount l) cw_X0_amount cv_X0_amount (by decide) (by decide) (Or.inl (ec_in (i := 846) (by decide +kernel) rfl)) (T := TX0) (N := 8) rfl (by decide) (by decide +kernel)
  · cases h
def cx_X1_breaksIn : ex_K := (RX1, ec_fx fl_X1, ec_cx cl_X1, sl_X1, ca_X1_breaksIn, ec_nz, ec_no)
theorem ok_X1_breaksIn (l : Launch) : ex_ok l 1 22 cx_X1_breaksIn := ⟨ec_fok fo_X1, ec_cok co_X1, so_X1, ck_X1_breaksIn l, fun _ h => (by cases h), fun _ h => (by cases h), fun _ h => (by cases h), fun _ _ h => (by cases h)⟩
def sp_X1_breaksIn : ex_S := ex_sp cx_X1_breaksIn cX1_breaksIn 3 (some .boolean) 26
theorem mt_X1_breaksIn (l : Launch) : ex_Met l yX1_breaksIn cX1_breaksIn 3 (some .boolean) 1 22 sp_X1_breaksIn := ex_inl (by decide) rfl (ok_X1_breaksIn l)
theorem cw_X1_keepFirst : ec_cw yX1_keepFirst cX1_keepFirst 3 none := ⟨ec_in (i := 850) (by decide +kernel) rfl, ec_in (i := 64) (by decide +kernel) rfl, by decide, by decide⟩
theorem cv_X1_keepFirst : Cond.instanceMethod yX1_keepFirst ∈ ec_tb ∧ Cond.selects yX1_keepFirst.cls yX1_keepFirst yX1_keepFirst ∈ ec_tb := ⟨ec_in (i := 849) (by decide +kernel) rfl, ec_in (i := 18) (by decide +kernel) rfl⟩
def cx_X1_keepFirst : ex_K := (RX1, ec_fx fl_X1, ec_cx cl_X1, sl_X1, ec_no, ec_nz, ec_no)
theorem ok_X1_keepFirst (l : Launch) : ex_ok l 0 0 cx_X1_keepFirst := ⟨ec_fok fo_X1, ec_cok co_X1, so_X1, fun _ _ _ _ h => (by cases h), fun _ h => (by cases h), fun _ h => (by cases h), fun _ h => (by cases h), fun _ _ h => (by cases h)⟩
def sp_X1_keepFirst : ex_S := ex_sp cx_X1_keepFirst cX1_keepFirst 3 none 14
theorem mt_X1_keepFirst (l : Launch) : ex_Met l yX1_keepFirst cX1_keepFirst 3 none 0 0 sp_X1_keepFirst := ex_inl (by decide) rfl (ok_X1_keepFirst l)
theorem cw_X1_look : ec_cw yX1_look cX1_look 5 (some .boolean) := ⟨ec_in (i := 837) (by decide +kernel) rfl, ec_in (i := 64) (by decide +kernel) rfl, by decide, by decide⟩
theorem cv_X1_look : Cond.instanceMethod yX1_look ∈ ec_tb ∧ Cond.selects yX1_look.cls yX1_look yX1_look ∈ ec_tb := ⟨ec_in (i := 835) (by decide +kernel) rfl, ec_in (i := 836) (by decide +kernel) rfl⟩
def ca_X1_look : Nat → Option (Nat × Option Nat × ex_S) := fun ix => match ix with
  | 43 => some (2, some 3, sp_X3_anyoneIn)
  | 48 => some (3, some 1, sp_X1_breaksIn)
  | 52 => some (3, some 1, sp_X1_keepFirst)
  | _ => none
theorem ck_X1_look (l : Launch) : ∀ (ix n : Nat) (rc : Option Nat) (sp : ex_S), ca_X1_look ix = some (n, rc, sp) → ex_cok l RX1 2 44 ix n rc sp := by
  intro ix n rc sp h
  unfold ca_X1_look at h
  split at h
  · cases h; exact ec_cV (mt_X3_anyoneIn l) cw_X3_anyoneIn cv_X3_anyoneIn (by decide) (by decide) (Or.inl (ec_in (i := 838) (by decide +kernel) rfl)) (T := TX3) (N := 7) rfl (by decide) (by decide +kernel)
  · cases h; exact ec_cV (mt_X1_breaksIn l) cw_X1_breaksIn cv_X1_breaksIn (by decide) (by decide) (Or.inl (ec_in (i := 842) (by decide +kernel) rfl)) (T := TX1) (N := 6) rfl (by decide) (by decide +kernel)
  · cases h; exact ec_cV (mt_X1_keepFirst l) cw_X1_keepFirst cv_X1_keepFirst (by decide) (by decide) (Or.inl (ec_in (i := 847) (by decide +kernel) rfl)) (T := TX1) (N := 6) rfl (by decide) (by decide +kernel)
  · cases h
def cx_X1_look : ex_K := (RX1, ec_fx fl_X1, ec_cx cl_X1, sl_X1, ca_X1_look, ec_nz, ec_no)
theorem ok_X1_look (l : Launch) : ex_ok l 2 44 cx_X1_look := ⟨ec_fok fo_X1, ec_cok co_X1, so_X1, ck_X1_look l, fun _ h => (by cases h), fun _ h => (by cases h), fun _ h => (by cases h), fun _ _ h => (by cases h)⟩
def sp_X1_look : ex_S := ex_sp cx_X1_look cX1_look 5 (some .boolean) 400
theorem mt_X1_look (l : Launch) : ex_Met l yX1_look cX1_look 5 (some .boolean) 2 44 sp_X1_look := ex_inl (by decide) rfl (ok_X1_look l)
theorem cw_X2_becomeLike : ec_cw yX2_becomeLike cX2_becomeLike 2 none := ⟨ec_in (i := 900) (by decide +kernel) rfl, ec_in (i := 65) (by decide +kernel) rfl, by decide, by decide⟩
theorem cv_X2_becomeLike : Cond.instanceMethod yX2_becomeLike ∈ ec_tb ∧ Cond.selects yX2_becomeLike.cls yX2_becomeLike yX2_becomeLike ∈ ec_tb := ⟨ec_in (i := 898) (by decide +kernel) rfl, ec_in (i := 899) (by decide +kernel) rfl⟩
def cx_X2_becomeLike : ex_K := (RX2, ec_fx fl_X2, ec_cx cl_X2, sl_X2, ec_no, ec_nz, ec_no)
theorem ok_X2_becomeLike (l : Launch) : ex_ok l 0 0 cx_X2_becomeLike := ⟨ec_fok fo_X2, ec_cok co_X2, so_X2, fun _ _ _ _ h => (by cases h), fun _ h => (by cases h), fun _ h => (by cases h), fun _ h => (by cases h), fun _ _ h => (by cases h)⟩
def sp_X2_becomeLike : ex_S := ex_sp cx_X2_becomeLike cX2_becomeLike 2 none 30
theorem mt_X2_becomeLike (l : Launch) : ex_Met l yX2_becomeLike cX2_becomeLike 2 none 0 0 sp_X2_becomeLike := ex_inl (by decide) rfl (ok_X2_becomeLike l)
theorem cw_X2_start : ec_cw yX2_start cX2_start 1 none := ⟨ec_in (i := 922) (by decide +kernel) rfl, ec_in (i := 65) (by decide +kernel) rfl, by decide, by decide⟩
theorem cv_X2_start : Cond.instanceMethod yX2_start ∈ ec_tb ∧ Cond.selects yX2_start.cls yX2_start yX2_start ∈ ec_tb := ⟨ec_in (i := 920) (by decide +kernel) rfl, ec_in (i := 921) (by decide +kernel) rfl⟩
def cx_X2_start : ex_K := (RX2, ec_fx fl_X2, ec_cx cl_X2, sl_X2, ec_no, ec_nz, ec_no)
theorem ok_X2_start (l : Launch) : ex_ok l 0 0 cx_X2_start := ⟨ec_fok fo_X2, ec_cok co_X2, so_X2, fun _ _ _ _ h => (by cases h), fun _ h => (by cases h), fun _ h => (by cases h), fun _ h => (by cases h), fun _ _ h => (by cases h)⟩
def sp_X2_start : ex_S := ex_sp cx_X2_start cX2_start 1 none 20
theorem mt_X2_start (l : Launch) : ex_Met l yX2_start cX2_start 1 none 0 0 sp_X2_start := ex_inl (by decide) rfl (ok_X2_start l)
theorem cw_X2_finish : ec_cw yX2_finish cX2_finish 2 none := ⟨ec_in (i := 713) (by decide +kernel) rfl, ec_in (i := 65) (by decide +kernel) rfl, by decide, by decide⟩
theorem cv_X2_finish : Cond.instanceMethod yX2_finish ∈ ec_tb ∧ Cond.selects yX2_finish.cls yX2_finish yX2_finish ∈ ec_tb := ⟨ec_in (i := 711) (by decide +kernel) rfl, ec_in (i := 712) (by decide +kernel) rfl⟩
def cx_X2_finish : ex_K := (RX2, ec_fx fl_X2, ec_cx cl_X2, sl_X2, ec_no, ec_nz, ec_no)
theorem ok_X2_finish (l : Launch) : ex_ok l 0 0 cx_X2_finish := ⟨ec_fok fo_X2, ec_cok co_X2, so_X2, fun _ _ _ _ h => (by cases h), fun _ h => (by cases h), fun _ h => (by cases h), fun _ h => (by cases h), fun _ _ h => (by cases h)⟩
def sp_X2_finish : ex_S := ex_sp cx_X2_finish cX2_finish 2 none 8
theorem mt_X2_finish (l : Launch) : ex_Met l yX2_finish cX2_finish 2 none 0 0 sp_X2_finish := ex_inl (by decide) rfl (ok_X2_finish l)
theorem cw_X2_giveUp : ec_cw yX2_giveUp cX2_giveUp 1 none := ⟨ec_in (i := 751) (by decide +kernel) rfl, ec_in (i := 65) (by decide +kernel) rfl, by decide, by decide⟩
theorem cv_X2_giveUp : Cond.instanceMethod yX2_giveUp ∈ ec_tb ∧ Cond.selects yX2_giveUp.cls yX2_giveUp yX2_giveUp ∈ ec_tb := ⟨ec_in (i := 749) (by decide +kernel) rfl, ec_in (i := 750) (by decide +kernel) rfl⟩
def ca_X2_giveUp : Nat → Option (Nat × Option Nat × ex_S) := fun ix => match ix with
  | 37 => some (2, some 2, sp_X2_finish)
  | _ => none
theorem ck_X2_giveUp (l : Launch) : ∀ (ix n : Nat) (rc : Option Nat) (sp : ex_S), ca_X2_giveUp ix = some (n, rc, sp) → ex_cok l RX2 1 21 ix n rc sp := by
  intro ix n rc sp h
  unfold ca_X2_giveUp at h
  split at h
  · cases h; exact ec_cV (mt_X2_finish l) cw_X2_finish cv_X2_finish (by decide) (by decide) (Or.inl (ec_in (i := 752) (by decide +kernel) rfl)) (T := TX2) (N := 7) rfl (by decide) (by decide +kernel)
  · cases h
def cx_X2_giveUp : ex_K := (RX2, ec_fx fl_X2, ec_cx cl_X2, sl_X2, ca_X2_giveUp, ec_nz, ec_no)
theorem ok_X2_giveUp (l : Launch) : ex_ok l 1 21 cx_X2_giveUp := ⟨ec_fok fo_X2, ec_cok co_X2, so_X2, ck_X2_giveUp l, fun _ h => (by cases h), fun _ h => (by cases h), fun _ h => (by cases h), fun _ _ h => (by cases h)⟩
def sp_X2_giveUp : ex_S := ex_sp cx_X2_giveUp cX2_giveUp 1 none 26
theorem mt_X2_giveUp (l : Launch) : ex_Met l yX2_giveUp cX2_giveUp 1 none 1 21 sp_X2_giveUp := ex_inl (by decide) rfl (ok_X2_giveUp l)
theorem cw_X2_goOnAt : ec_cw yX2_goOnAt cX2_goOnAt 2 none := ⟨ec_in (i := 747) (by decide +kernel) rfl, ec_in (i := 65) (by decide +kernel) rfl, by decide, by decide⟩
theorem cv_X2_goOnAt : Cond.instanceMethod yX2_goOnAt ∈ ec_tb ∧ Cond.selects yX2_goOnAt.cls yX2_goOnAt yX2_goOnAt ∈ ec_tb := ⟨ec_in (i := 745) (by decide +kernel) rfl, ec_in (i := 746) (by decide +kernel) rfl⟩
def ca_X2_goOnAt : Nat → Option (Nat × Option Nat × ex_S) := fun ix => match ix with
  | 34 => some (1, some 2, sp_X2_giveUp)
  | _ => none
theorem ck_X2_goOnAt (l : Launch) : ∀ (ix n : Nat) (rc : Option Nat) (sp : ex_S), ca_X2_goOnAt ix = some (n, rc, sp) → ex_cok l RX2 2 41 ix n rc sp := by
  intro ix n rc sp h
  unfold ca_X2_goOnAt at h
  split at h
  · cases h; exact ec_cV (mt_X2_giveUp l) cw_X2_giveUp cv_X2_giveUp (by decide) (by decide) (Or.inl (ec_in (i := 748) (by decide +kernel) rfl)) (T := TX2) (N := 7) rfl (by decide) (by decide +kernel)
  · cases h
def cx_X2_goOnAt : ex_K := (RX2, ec_fx fl_X2, ec_cx cl_X2, sl_X2, ca_X2_goOnAt, ec_nz, ec_no)
theorem ok_X2_goOnAt (l : Launch) : ex_ok l 2 41 cx_X2_goOnAt := ⟨ec_fok fo_X2, ec_cok co_X2, so_X2, ck_X2_goOnAt l, fun _ h => (by cases h), fun _ h => (by cases h), fun _ h => (by cases h), fun _ _ h => (by cases h)⟩
def sp_X2_goOnAt : ex_S := ex_sp cx_X2_goOnAt cX2_goOnAt 2 none 11
theorem mt_X2_goOnAt (l : Launch) : ex_Met l yX2_goOnAt cX2_goOnAt 2 none 2 41 sp_X2_goOnAt := ex_inl (by decide) rfl (ok_X2_goOnAt l)
theorem cw_X2_setHalted : ec_cw yX2_setHalted cX2_setHalted 2 (some .int) := ⟨ec_in (i := 930) (by decide +kernel) rfl, ec_in (i := 65) (by decide +kernel) rfl, by decide, by decide⟩
theorem cv_X2_setHalted : Cond.instanceMethod yX2_setHalted ∈ ec_tb ∧ Cond.selects yX2_setHalted.cls yX2_setHalted yX2_setHalted ∈ ec_tb := ⟨ec_in (i := 928) (by decide +kernel) rfl, ec_in (i := 929) (by decide +kernel) rfl⟩
def ca_X2_setHalted : Nat → Option (Nat × Option Nat × ex_S) := fun ix => match ix with
  | 41 => some (1, none, sp_X9_isSwitch)
  | _ => none
theorem ck_X2_setHalted (l : Launch) : ∀ (ix n : Nat) (rc : Option Nat) (sp : ex_S), ca_X2_setHalted ix = some (n, rc, sp) → ex_cok l RX2 1 20 ix n rc sp := by
  intro ix n rc sp h
  unfold ca_X2_setHalted at h
  split at h
  · cases h; exact ec_cS (mt_X9_isSwitch l) cw_X9_isSwitch cv_X9_isSwitch (by decide) (by decide) (Or.inr ⟨"TinStation", by decide +kernel⟩) (by decide +kernel)
  · cases h
def cx_X2_setHalted : ex_K := (RX2, ec_fx fl_X2, ec_cx cl_X2, sl_X2, ca_X2_setHalted, ec_nz, ec_no)
theorem ok_X2_setHalted (l : Launch) : ex_ok l 1 20 cx_X2_setHalted := ⟨ec_fok fo_X2, ec_cok co_X2, so_X2, ck_X2_setHalted l, fun _ h => (by cases h), fun _ h => (by cases h), fun _ h => (by cases h), fun _ _ h => (by cases h)⟩
def sp_X2_setHalted : ex_S := ex_sp cx_X2_setHalted cX2_setHalted 2 (some .int) 30
theorem mt_X2_setHalted (l : Launch) : ex_Met l yX2_setHalted cX2_setHalted 2 (some .int) 1 20 sp_X2_setHalted := ex_inl (by decide) rfl (ok_X2_setHalted l)
theorem cw_X2_tellOf : ec_cw yX2_tellOf cX2_tellOf 2 (some .int) := ⟨ec_in (i := 947) (by decide +kernel) rfl, ec_in (i := 65) (by decide +kernel) rfl, by decide, by decide⟩
theorem cv_X2_tellOf : Cond.instanceMethod yX2_tellOf ∈ ec_tb ∧ Cond.selects yX2_tellOf.cls yX2_tellOf yX2_tellOf ∈ ec_tb := ⟨ec_in (i := 945) (by decide +kernel) rfl, ec_in (i := 946) (by decide +kernel) rfl⟩
def ca_X2_tellOf : Nat → Option (Nat × Option Nat × ex_S) := fun ix => match ix with
  | 47 => some (1, none, sp_X9_one)
  | _ => none
theorem ck_X2_tellOf (l : Launch) : ∀ (ix n : Nat) (rc : Option Nat) (sp : ex_S), ca_X2_tellOf ix = some (n, rc, sp) → ex_cok l RX2 1 20 ix n rc sp := by
  intro ix n rc sp h
  unfold ca_X2_tellOf at h
  split at h
  · cases h; exact ec_cS (mt_X9_one l) cw_X9_one cv_X9_one (by decide) (by decide) (Or.inr ⟨"TinStation", by decide +kernel⟩) (by decide +kernel)
  · cases h
def cx_X2_tellOf : ex_K := (RX2, ec_fx fl_X2, ec_cx cl_X2, sl_X2, ca_X2_tellOf, ec_nz, ec_no)
theorem ok_X2_tellOf (l : Launch) : ex_ok l 1 20 cx_X2_tellOf := ⟨ec_fok fo_X2, ec_cok co_X2, so_X2, ck_X2_tellOf l, fun _ h => (by cases h), fun _ h => (by cases h), fun _ h => (by cases h), fun _ _ h => (by cases h)⟩
def sp_X2_tellOf : ex_S := ex_sp cx_X2_tellOf cX2_tellOf 2 (some .int) 34
theorem mt_X2_tellOf (l : Launch) : ex_Met l yX2_tellOf cX2_tellOf 2 (some .int) 1 20 sp_X2_tellOf := ex_inl (by decide) rfl (ok_X2_tellOf l)
theorem cw_X3_becomeLike : ec_cw yX3_becomeLike cX3_becomeLike 2 none := ⟨ec_in (i := 885) (by decide +kernel) rfl, ec_in (i := 62) (by decide +kernel) rfl, by decide, by decide⟩
theorem cv_X3_becomeLike : Cond.instanceMethod yX3_becomeLike ∈ ec_tb ∧ Cond.selects yX3_becomeLike.cls yX3_becomeLike yX3_becomeLike ∈ ec_tb := ⟨ec_in (i := 883) (by decide +kernel) rfl, ec_in (i := 884) (by decide +kernel) rfl⟩
def ca_X3_becomeLike : Nat → Option (Nat × Option Nat × ex_S) := fun ix => match ix with
  | 30 => some (2, none, sp_X9_copy)
  | _ => none
theorem ck_X3_becomeLike (l : Launch) : ∀ (ix n : Nat) (rc : Option Nat) (sp : ex_S), ca_X3_becomeLike ix = some (n, rc, sp) → ex_cok l RX3 2 47 ix n rc sp := by
  intro ix n rc sp h
  unfold ca_X3_becomeLike at h
  split at h
  · cases h; exact ec_cS (mt_X9_copy l) cw_X9_copy cv_X9_copy (by decide) (by decide) (Or.inr ⟨"TinStation", by decide +kernel⟩) (by decide +kernel)
  · cases h
def cx_X3_becomeLike : ex_K := (RX3, ec_fx fl_X3, ec_cx cl_X3, sl_X3, ca_X3_becomeLike, ec_nz, ec_no)
theorem ok_X3_becomeLike (l : Launch) : ex_ok l 2 47 cx_X3_becomeLike := ⟨ec_fok fo_X3, ec_cok co_X3, so_X3, ck_X3_becomeLike l, fun _ h => (by cases h), fun _ h => (by cases h), fun _ h => (by cases h), fun _ _ h => (by cases h)⟩
def sp_X3_becomeLike : ex_S := ex_sp cx_X3_becomeLike cX3_becomeLike 2 none 36
theorem mt_X3_becomeLike (l : Launch) : ex_Met l yX3_becomeLike cX3_becomeLike 2 none 2 47 sp_X3_becomeLike := ex_inl (by decide) rfl (ok_X3_becomeLike l)
theorem cw_X3_has : ec_cw yX3_has cX3_has 2 (some .boolean) := ⟨ec_in (i := 520) (by decide +kernel) rfl, ec_in (i := 62) (by decide +kernel) rfl, by decide, by decide⟩
theorem cv_X3_has : Cond.instanceMethod yX3_has ∈ ec_tb ∧ Cond.selects yX3_has.cls yX3_has yX3_has ∈ ec_tb := ⟨ec_in (i := 518) (by decide +kernel) rfl, ec_in (i := 519) (by decide +kernel) rfl⟩
def cx_X3_has : ex_K := (RX3, ec_fx fl_X3, ec_cx cl_X3, sl_X3, ec_no, ec_nz, ec_no)
theorem ok_X3_has (l : Launch) : ex_ok l 0 0 cx_X3_has := ⟨ec_fok fo_X3, ec_cok co_X3, so_X3, fun _ _ _ _ h => (by cases h), fun _ h => (by cases h), fun _ h => (by cases h), fun _ h => (by cases h), fun _ _ h => (by cases h)⟩
def sp_X3_has : ex_S := ex_sp cx_X3_has cX3_has 2 (some .boolean) 11
theorem mt_X3_has (l : Launch) : ex_Met l yX3_has cX3_has 2 (some .boolean) 0 0 sp_X3_has := ex_inl (by decide) rfl (ok_X3_has l)
theorem cw_X3_mends : ec_cw yX3_mends cX3_mends 2 (some .boolean) := ⟨ec_in (i := 526) (by decide +kernel) rfl, ec_in (i := 62) (by decide +kernel) rfl, by decide, by decide⟩
theorem cv_X3_mends : Cond.instanceMethod yX3_mends ∈ ec_tb ∧ Cond.selects yX3_mends.cls yX3_mends yX3_mends ∈ ec_tb := ⟨ec_in (i := 524) (by decide +kernel) rfl, ec_in (i := 525) (by decide +kernel) rfl⟩
def cx_X3_mends : ex_K := (RX3, ec_fx fl_X3, ec_cx cl_X3, sl_X3, ec_no, ec_nz, ec_no)
theorem ok_X3_mends (l : Launch) : ex_ok l 0 0 cx_X3_mends := ⟨ec_fok fo_X3, ec_cok co_X3, so_X3, fun _ _ _ _ h => (by cases h), fun _ h => (by cases h), fun _ h => (by cases h), fun _ h => (by cases h), fun _ _ h => (by cases h)⟩
def sp_X3_mends : ex_S := ex_sp cx_X3_mends cX3_mends 2 (some .boolean) 11
theorem mt_X3_mends (l : Launch) : ex_Met l yX3_mends cX3_mends 2 (some .boolean) 0 0 sp_X3_mends := ex_inl (by decide) rfl (ok_X3_mends l)
theorem cw_X3_addPerson : ec_cw yX3_addPerson cX3_addPerson 2 (some .int) := ⟨ec_in (i := 507) (by decide +kernel) rfl, ec_in (i := 62) (by decide +kernel) rfl, by decide, by decide⟩
theorem cv_X3_addPerson : Cond.instanceMethod yX3_addPerson ∈ ec_tb ∧ Cond.selects yX3_addPerson.cls yX3_addPerson yX3_addPerson ∈ ec_tb := ⟨ec_in (i := 505) (by decide +kernel) rfl, ec_in (i := 506) (by decide +kernel) rfl⟩
def cx_X3_addPerson : ex_K := (RX3, ec_fx fl_X3, ec_cx cl_X3, sl_X3, ec_no, ec_nz, ec_no)
theorem ok_X3_addPerson (l : Launch) : ex_ok l 0 0 cx_X3_addPerson := ⟨ec_fok fo_X3, ec_cok co_X3, so_X3, fun _ _ _ _ h => (by cases h), fun _ h => (by cases h), fun _ h => (by cases h), fun _ h => (by cases h), fun _ _ h => (by cases h)⟩
def sp_X3_addPerson : ex_S := ex_sp cx_X3_addPerson cX3_addPerson 2 (some .int) 30
theorem mt_X3_addPerson (l : Launch) : ex_Met l yX3_addPerson cX3_addPerson 2 (some .int) 0 0 sp_X3_addPerson := ex_inl (by decide) rfl (ok_X3_addPerson l)
theorem cw_X3_setDoing : ec_cw yX3_setDoing cX3_setDoing 4 (some .int) := ⟨ec_in (i := 539) (by decide +kernel) rfl, ec_in (i := 62) (by decide +kernel) rfl, by decide, by decide⟩
theorem cv_X3_setDoing : Cond.instanceMethod yX3_setDoing ∈ ec_tb ∧ Cond.selects yX3_setDoing.cls yX3_setDoing yX3_setDoing ∈ ec_tb := ⟨ec_in (i := 537) (by decide +kernel) rfl, ec_in (i := 538) (by decide +kernel) rfl⟩
def ca_X3_setDoing : Nat → Option (Nat × Option Nat × ex_S) := fun ix => match ix with
  | 39 => some (2, some 3, sp_X3_has)
  | 44 => some (2, some 3, sp_X3_mends)
  | _ => none
theorem ck_X3_setDoing (l : Launch) : ∀ (ix n : Nat) (rc : Option Nat) (sp : ex_S), ca_X3_setDoing ix = some (n, rc, sp) → ex_cok l RX3 1 21 ix n rc sp := by
  intro ix n rc sp h
  unfold ca_X3_setDoing at h
  split at h
  · cases h; exact ec_cV (mt_X3_has l) cw_X3_has cv_X3_has (by decide) (by decide) (Or.inl (ec_in (i := 540) (by decide +kernel) rfl)) (T := TX3) (N := 7) rfl (by decide) (by decide +kernel)
  · cases h; exact ec_cV (mt_X3_mends l) cw_X3_mends cv_X3_mends (by decide) (by decide) (Or.inl (ec_in (i := 542) (by decide +kernel) rfl)) (T := TX3) (N := 7) rfl (by decide) (by decide +kernel)
  · cases h
def cx_X3_setDoing : ex_K := (RX3, ec_fx fl_X3, ec_cx cl_X3, sl_X3, ca_X3_setDoing, ec_nz, ec_no)
theorem ok_X3_setDoing (l : Launch) : ex_ok l 1 21 cx_X3_setDoing := ⟨ec_fok fo_X3, ec_cok co_X3, so_X3, ck_X3_setDoing l, fun _ h => (by cases h), fun _ h => (by cases h), fun _ h => (by cases h), fun _ _ h => (by cases h)⟩
def sp_X3_setDoing : ex_S := ex_sp cx_X3_setDoing cX3_setDoing 4 (some .int) 30
theorem mt_X3_setDoing (l : Launch) : ex_Met l yX3_setDoing cX3_setDoing 4 (some .int) 1 21 sp_X3_setDoing := ex_inl (by decide) rfl (ok_X3_setDoing l)
theorem cw_X3_tellOf : ec_cw yX3_tellOf cX3_tellOf 3 (some .int) := ⟨ec_in (i := 551) (by decide +kernel) rfl, ec_in (i := 62) (by decide +kernel) rfl, by decide, by decide⟩
theorem cv_X3_tellOf : Cond.instanceMethod yX3_tellOf ∈ ec_tb ∧ Cond.selects yX3_tellOf.cls yX3_tellOf yX3_tellOf ∈ ec_tb := ⟨ec_in (i := 549) (by decide +kernel) rfl, ec_in (i := 550) (by decide +kernel) rfl⟩
def ca_X3_tellOf : Nat → Option (Nat × Option Nat × ex_S) := fun ix => match ix with
  | 39 => some (2, some 3, sp_X3_has)
  | _ => none
theorem ck_X3_tellOf (l : Launch) : ∀ (ix n : Nat) (rc : Option Nat) (sp : ex_S), ca_X3_tellOf ix = some (n, rc, sp) → ex_cok l RX3 1 21 ix n rc sp := by
  intro ix n rc sp h
  unfold ca_X3_tellOf at h
  split at h
  · cases h; exact ec_cV (mt_X3_has l) cw_X3_has cv_X3_has (by decide) (by decide) (Or.inl (ec_in (i := 540) (by decide +kernel) rfl)) (T := TX3) (N := 7) rfl (by decide) (by decide +kernel)
  · cases h
def cx_X3_tellOf : ex_K := (RX3, ec_fx fl_X3, ec_cx cl_X3, sl_X3, ca_X3_tellOf, ec_nz, ec_no)
theorem ok_X3_tellOf (l : Launch) : ex_ok l 1 21 cx_X3_tellOf := ⟨ec_fok fo_X3, ec_cok co_X3, so_X3, ck_X3_tellOf l, fun _ h => (by cases h), fun _ h => (by cases h), fun _ h => (by cases h), fun _ _ h => (by cases h)⟩
def sp_X3_tellOf : ex_S := ex_sp cx_X3_tellOf cX3_tellOf 3 (some .int) 41
theorem mt_X3_tellOf (l : Launch) : ex_Met l yX3_tellOf cX3_tellOf 3 (some .int) 1 21 sp_X3_tellOf := ex_inl (by decide) rfl (ok_X3_tellOf l)
theorem cw_X3_startMending : ec_cw yX3_startMending cX3_startMending 4 none := ⟨ec_in (i := 630) (by decide +kernel) rfl, ec_in (i := 62) (by decide +kernel) rfl, by decide, by decide⟩
theorem cv_X3_startMending : Cond.instanceMethod yX3_startMending ∈ ec_tb ∧ Cond.selects yX3_startMending.cls yX3_startMending yX3_startMending ∈ ec_tb := ⟨ec_in (i := 628) (by decide +kernel) rfl, ec_in (i := 629) (by decide +kernel) rfl⟩
def cx_X3_startMending : ex_K := (RX3, ec_fx fl_X3, ec_cx cl_X3, sl_X3, ec_no, ec_nz, ec_no)
theorem ok_X3_startMending (l : Launch) : ex_ok l 0 0 cx_X3_startMending := ⟨ec_fok fo_X3, ec_cok co_X3, so_X3, fun _ _ _ _ h => (by cases h), fun _ h => (by cases h), fun _ h => (by cases h), fun _ h => (by cases h), fun _ _ h => (by cases h)⟩
def sp_X3_startMending : ex_S := ex_sp cx_X3_startMending cX3_startMending 4 none 17
theorem mt_X3_startMending (l : Launch) : ex_Met l yX3_startMending cX3_startMending 4 none 0 0 sp_X3_startMending := ex_inl (by decide) rfl (ok_X3_startMending l)
theorem cw_X3_isMended : ec_cw yX3_isMended cX3_isMended 3 (some .boolean) := ⟨ec_in (i := 625) (by decide +kernel) rfl, ec_in (i := 62) (by decide +kernel) rfl, by decide, by decide⟩
theorem cv_X3_isMended : Cond.instanceMethod yX3_isMended ∈ ec_tb ∧ Cond.selects yX3_isMended.cls yX3_isMended yX3_isMended ∈ ec_tb := ⟨ec_in (i := 623) (by decide +kernel) rfl, ec_in (i := 624) (by decide +kernel) rfl⟩
def cx_X3_isMended : ex_K := (RX3, ec_fx fl_X3, ec_cx cl_X3, sl_X3, ec_no, ec_nz, ec_no)
theorem ok_X3_isMended (l : Launch) : ex_ok l 0 0 cx_X3_isMended := ⟨ec_fok fo_X3, ec_cok co_X3, so_X3, fun _ _ _ _ h => (by cases h), fun _ h => (by cases h), fun _ h => (by cases h), fun _ h => (by cases h), fun _ _ h => (by cases h)⟩
def sp_X3_isMended : ex_S := ex_sp cx_X3_isMended cX3_isMended 3 (some .boolean) 400
theorem mt_X3_isMended (l : Launch) : ex_Met l yX3_isMended cX3_isMended 3 (some .boolean) 0 0 sp_X3_isMended := ex_inl (by decide) rfl (ok_X3_isMended l)
theorem cw_X3_menders : ec_cw yX3_menders cX3_menders 3 (some .int) := ⟨ec_in (i := 1094) (by decide +kernel) rfl, ec_in (i := 62) (by decide +kernel) rfl, by decide, by decide⟩
theorem cv_X3_menders : Cond.instanceMethod yX3_menders ∈ ec_tb ∧ Cond.selects yX3_menders.cls yX3_menders yX3_menders ∈ ec_tb := ⟨ec_in (i := 1092) (by decide +kernel) rfl, ec_in (i := 1093) (by decide +kernel) rfl⟩
def ca_X3_menders : Nat → Option (Nat × Option Nat × ex_S) := fun ix => match ix with
  | 44 => some (2, some 3, sp_X3_mends)
  | 48 => some (1, none, sp_X9_one)
  | _ => none
theorem ck_X3_menders (l : Launch) : ∀ (ix n : Nat) (rc : Option Nat) (sp : ex_S), ca_X3_menders ix = some (n, rc, sp) → ex_cok l RX3 1 21 ix n rc sp := by
  intro ix n rc sp h
  unfold ca_X3_menders at h
  split at h
  · cases h; exact ec_cV (mt_X3_mends l) cw_X3_mends cv_X3_mends (by decide) (by decide) (Or.inl (ec_in (i := 542) (by decide +kernel) rfl)) (T := TX3) (N := 7) rfl (by decide) (by decide +kernel)
  · cases h; exact ec_cS (mt_X9_one l) cw_X9_one cv_X9_one (by decide) (by decide) (Or.inr ⟨"TinStation", by decide +kernel⟩) (by decide +kernel)
  · cases h
def cx_X3_menders : ex_K := (RX3, ec_fx fl_X3, ec_cx cl_X3, sl_X3, ca_X3_menders, ec_nz, ec_no)
theorem ok_X3_menders (l : Launch) : ex_ok l 1 21 cx_X3_menders := ⟨ec_fok fo_X3, ec_cok co_X3, so_X3, ck_X3_menders l, fun _ h => (by cases h), fun _ h => (by cases h), fun _ h => (by cases h), fun _ _ h => (by cases h)⟩
def sp_X3_menders : ex_S := ex_sp cx_X3_menders cX3_menders 3 (some .int) 400
theorem mt_X3_menders (l : Launch) : ex_Met l yX3_menders cX3_menders 3 (some .int) 1 21 sp_X3_menders := ex_inl (by decide) rfl (ok_X3_menders l)
theorem cw_X6_has : ec_cw yX6_has cX6_has 2 (some .boolean) := ⟨ec_in (i := 580) (by decide +kernel) rfl, ec_in (i := 63) (by decide +kernel) rfl, by decide, by decide⟩
theorem cv_X6_has : Cond.instanceMethod yX6_has ∈ ec_tb ∧ Cond.selects yX6_has.cls yX6_has yX6_has ∈ ec_tb := ⟨ec_in (i := 578) (by decide +kernel) rfl, ec_in (i := 579) (by decide +kernel) rfl⟩
def cx_X6_has : ex_K := (RX6, ec_fx fl_X6, ec_cx cl_X6, sl_X6, ec_no, ec_nz, ec_no)
theorem ok_X6_has (l : Launch) : ex_ok l 0 0 cx_X6_has := ⟨ec_fok fo_X6, ec_cok co_X6, so_X6, fun _ _ _ _ h => (by cases h), fun _ h => (by cases h), fun _ h => (by cases h), fun _ h => (by cases h), fun _ _ h => (by cases h)⟩
def sp_X6_has : ex_S := ex_sp cx_X6_has cX6_has 2 (some .boolean) 11
theorem mt_X6_has (l : Launch) : ex_Met l yX6_has cX6_has 2 (some .boolean) 0 0 sp_X6_has := ex_inl (by decide) rfl (ok_X6_has l)
theorem cw_X6_makeNew : ec_cw yX6_makeNew cX6_makeNew 2 none := ⟨ec_in (i := 760) (by decide +kernel) rfl, ec_in (i := 63) (by decide +kernel) rfl, by decide, by decide⟩
theorem cv_X6_makeNew : Cond.instanceMethod yX6_makeNew ∈ ec_tb ∧ Cond.selects yX6_makeNew.cls yX6_makeNew yX6_makeNew ∈ ec_tb := ⟨ec_in (i := 758) (by decide +kernel) rfl, ec_in (i := 759) (by decide +kernel) rfl⟩
def ca_X6_makeNew : Nat → Option (Nat × Option Nat × ex_S) := fun ix => match ix with
  | 77 => some (2, some 6, sp_X6_has)
  | _ => none
theorem ck_X6_makeNew (l : Launch) : ∀ (ix n : Nat) (rc : Option Nat) (sp : ex_S), ca_X6_makeNew ix = some (n, rc, sp) → ex_cok l RX6 1 21 ix n rc sp := by
  intro ix n rc sp h
  unfold ca_X6_makeNew at h
  split at h
  · cases h; exact ec_cV (mt_X6_has l) cw_X6_has cv_X6_has (by decide) (by decide) (Or.inl (ec_in (i := 577) (by decide +kernel) rfl)) (T := TX6) (N := 15) rfl (by decide) (by decide +kernel)
  · cases h
def cx_X6_makeNew : ex_K := (RX6, ec_fx fl_X6, ec_cx cl_X6, sl_X6, ca_X6_makeNew, ec_nz, ec_no)
theorem ok_X6_makeNew (l : Launch) : ex_ok l 1 21 cx_X6_makeNew := ⟨ec_fok fo_X6, ec_cok co_X6, so_X6, ck_X6_makeNew l, fun _ h => (by cases h), fun _ h => (by cases h), fun _ h => (by cases h), fun _ _ h => (by cases h)⟩
def sp_X6_makeNew : ex_S := ex_sp cx_X6_makeNew cX6_makeNew 2 none 16
theorem mt_X6_makeNew (l : Launch) : ex_Met l yX6_makeNew cX6_makeNew 2 none 1 21 sp_X6_makeNew := ex_inl (by decide) rfl (ok_X6_makeNew l)
theorem cw_X3_mendOn : ec_cw yX3_mendOn cX3_mendOn 3 none := ⟨ec_in (i := 756) (by decide +kernel) rfl, ec_in (i := 62) (by decide +kernel) rfl, by decide, by decide⟩
theorem cv_X3_mendOn : Cond.instanceMethod yX3_mendOn ∈ ec_tb ∧ Cond.selects yX3_mendOn.cls yX3_mendOn yX3_mendOn ∈ ec_tb := ⟨ec_in (i := 754) (by decide +kernel) rfl, ec_in (i := 755) (by decide +kernel) rfl⟩
def ca_X3_mendOn : Nat → Option (Nat × Option Nat × ex_S) := fun ix => match ix with
  | 44 => some (2, some 3, sp_X3_mends)
  | 52 => some (2, some 6, sp_X6_makeNew)
  | _ => none
theorem ck_X3_mendOn (l : Launch) : ∀ (ix n : Nat) (rc : Option Nat) (sp : ex_S), ca_X3_mendOn ix = some (n, rc, sp) → ex_cok l RX3 2 42 ix n rc sp := by
  intro ix n rc sp h
  unfold ca_X3_mendOn at h
  split at h
  · cases h; exact ec_cV (mt_X3_mends l) cw_X3_mends cv_X3_mends (by decide) (by decide) (Or.inl (ec_in (i := 542) (by decide +kernel) rfl)) (T := TX3) (N := 7) rfl (by decide) (by decide +kernel)
  · cases h; exact ec_cV (mt_X6_makeNew l) cw_X6_makeNew cv_X6_makeNew (by decide) (by decide) (Or.inl (ec_in (i := 757) (by decide +kernel) rfl)) (T := TX6) (N := 15) rfl (by decide) (by decide +kernel)
  · cases h
def cx_X3_mendOn : ex_K := (RX3, ec_fx fl_X3, ec_cx cl_X3, sl_X3, ca_X3_mendOn, ec_nz, ec_no)
theorem ok_X3_mendOn (l : Launch) : ex_ok l 2 42 cx_X3_mendOn := ⟨ec_fok fo_X3, ec_cok co_X3, so_X3, ck_X3_mendOn l, fun _ h => (by cases h), fun _ h => (by cases h), fun _ h => (by cases h), fun _ _ h => (by cases h)⟩
def sp_X3_mendOn : ex_S := ex_sp cx_X3_mendOn cX3_mendOn 3 none 400
theorem mt_X3_mendOn (l : Launch) : ex_Met l yX3_mendOn cX3_mendOn 3 none 2 42 sp_X3_mendOn := ex_inl (by decide) rfl (ok_X3_mendOn l)
theorem cw_X3_breathe : ec_cw yX3_breathe cX3_breathe 5 none := ⟨ec_in (i := 805) (by decide +kernel) rfl, ec_in (i := 62) (by decide +kernel) rfl, by decide, by decide⟩
theorem cv_X3_breathe : Cond.instanceMethod yX3_breathe ∈ ec_tb ∧ Cond.selects yX3_breathe.cls yX3_breathe yX3_breathe ∈ ec_tb := ⟨ec_in (i := 804) (by decide +kernel) rfl, ec_in (i := 14) (by decide +kernel) rfl⟩
def ca_X3_breathe : Nat → Option (Nat × Option Nat × ex_S) := fun ix => match ix with
  | 77 => some (4, some 0, sp_X0_take)
  | 68 => some (4, some 0, sp_X0_give)
  | 48 => some (1, none, sp_X9_one)
  | _ => none
theorem ck_X3_breathe (l : Launch) : ∀ (ix n : Nat) (rc : Option Nat) (sp : ex_S), ca_X3_breathe ix = some (n, rc, sp) → ex_cok l RX3 2 45 ix n rc sp := by
  intro ix n rc sp h
  unfold ca_X3_breathe at h
  split at h
  · cases h; exact ec_cV (mt_X0_take l) cw_X0_take cv_X0_take (by decide) (by decide) (Or.inl (ec_in (i := 808) (by decide +kernel) rfl)) (T := TX0) (N := 8) rfl (by decide) (by decide +kernel)
  · cases h; exact ec_cV (mt_X0_give l) cw_X0_give cv_X0_give (by decide) (by decide) (Or.inl (ec_in (i := 809) (by decide +kernel) rfl)) (T := TX0) (N := 8) rfl (by decide) (by decide +kernel)
  · cases h; exact ec_cS (mt_X9_one l) cw_X9_one cv_X9_one (by decide) (by decide) (Or.inr ⟨"TinStation", by decide +kernel⟩) (by decide +kernel)
  · cases h
def cx_X3_breathe : ex_K := (RX3, ec_fx fl_X3, ec_cx cl_X3, sl_X3, ca_X3_breathe, ec_nz, ec_no)
theorem ok_X3_breathe (l : Launch) : ex_ok l 2 45 cx_X3_breathe := ⟨ec_fok fo_X3, ec_cok co_X3, so_X3, ck_X3_breathe l, fun _ h => (by cases h), fun _ h => (by cases h), fun _ h => (by cases h), fun _ _ h => (by cases h)⟩
def sp_X3_breathe : ex_S := ex_sp cx_X3_breathe cX3_breathe 5 none 40
theorem mt_X3_breathe (l : Launch) : ex_Met l yX3_breathe cX3_breathe 5 none 2 45 sp_X3_breathe := ex_inl (by decide) rfl (ok_X3_breathe l)
theorem cw_X3_drink : ec_cw yX3_drink cX3_drink 5 none := ⟨ec_in (i := 814) (by decide +kernel) rfl, ec_in (i := 62) (by decide +kernel) rfl, by decide, by decide⟩
theorem cv_X3_drink : Cond.instanceMethod yX3_drink ∈ ec_tb ∧ Cond.selects yX3_drink.cls yX3_drink yX3_drink ∈ ec_tb := ⟨ec_in (i := 813) (by decide +kernel) rfl, ec_in (i := 15) (by decide +kernel) rfl⟩
def ca_X3_drink : Nat → Option (Nat × Option Nat × ex_S) := fun ix => match ix with
  | 81 => some (3, some 0, sp_X0_draw)
  | 68 => some (4, some 0, sp_X0_give)
  | 85 => some (3, some 0, sp_X0_fill)
  | 48 => some (1, none, sp_X9_one)
  | _ => none
theorem ck_X3_drink (l : Launch) : ∀ (ix n : Nat) (rc : Option Nat) (sp : ex_S), ca_X3_drink ix = some (n, rc, sp) → ex_cok l RX3 2 44 ix n rc sp := by
  intro ix n rc sp h
  unfold ca_X3_drink at h
  split at h
  · cases h; exact ec_cV (mt_X0_draw l) cw_X0_draw cv_X0_draw (by decide) (by decide) (Or.inl (ec_in (i := 815) (by decide +kernel) rfl)) (T := TX0) (N := 8) rfl (by decide) (by decide +kernel)
  · cases h; exact ec_cV (mt_X0_give l) cw_X0_give cv_X0_give (by decide) (by decide) (Or.inl (ec_in (i := 809) (by decide +kernel) rfl)) (T := TX0) (N := 8) rfl (by decide) (by decide +kernel)
  · cases h; exact ec_cV (mt_X0_fill l) cw_X0_fill cv_X0_fill (by decide) (by decide) (Or.inl (ec_in (i := 816) (by decide +kernel) rfl)) (T := TX0) (N := 8) rfl (by decide) (by decide +kernel)
  · cases h; exact ec_cS (mt_X9_one l) cw_X9_one cv_X9_one (by decide) (by decide) (Or.inr ⟨"TinStation", by decide +kernel⟩) (by decide +kernel)
  · cases h
def cx_X3_drink : ex_K := (RX3, ec_fx fl_X3, ec_cx cl_X3, sl_X3, ca_X3_drink, ec_nz, ec_no)
theorem ok_X3_drink (l : Launch) : ex_ok l 2 44 cx_X3_drink := ⟨ec_fok fo_X3, ec_cok co_X3, so_X3, ck_X3_drink l, fun _ h => (by cases h), fun _ h => (by cases h), fun _ h => (by cases h), fun _ _ h => (by cases h)⟩
def sp_X3_drink : ex_S := ex_sp cx_X3_drink cX3_drink 5 none 41
theorem mt_X3_drink (l : Launch) : ex_Met l yX3_drink cX3_drink 5 none 2 44 sp_X3_drink := ex_inl (by decide) rfl (ok_X3_drink l)
theorem cw_X3_live : ec_cw yX3_live cX3_live 3 none := ⟨ec_in (i := 801) (by decide +kernel) rfl, ec_in (i := 62) (by decide +kernel) rfl, by decide, by decide⟩
theorem cv_X3_live : Cond.instanceMethod yX3_live ∈ ec_tb ∧ Cond.selects yX3_live.cls yX3_live yX3_live ∈ ec_tb := ⟨ec_in (i := 799) (by decide +kernel) rfl, ec_in (i := 800) (by decide +kernel) rfl⟩
def ca_X3_live : Nat → Option (Nat × Option Nat × ex_S) := fun ix => match ix with
  | 58 => some (3, some 3, sp_X3_breathe)
  | 62 => some (3, some 3, sp_X3_drink)
  | 68 => some (4, some 0, sp_X0_give)
  | _ => none
theorem ck_X3_live (l : Launch) : ∀ (ix n : Nat) (rc : Option Nat) (sp : ex_S), ca_X3_live ix = some (n, rc, sp) → ex_cok l RX3 3 69 ix n rc sp := by
  intro ix n rc sp h
  unfold ca_X3_live at h
  split at h
  · cases h; exact ec_cV (mt_X3_breathe l) cw_X3_breathe cv_X3_breathe (by decide) (by decide) (Or.inl (ec_in (i := 802) (by decide +kernel) rfl)) (T := TX3) (N := 7) rfl (by decide) (by decide +kernel)
  · cases h; exact ec_cV (mt_X3_drink l) cw_X3_drink cv_X3_drink (by decide) (by decide) (Or.inl (ec_in (i := 811) (by decide +kernel) rfl)) (T := TX3) (N := 7) rfl (by decide) (by decide +kernel)
  · cases h; exact ec_cV (mt_X0_give l) cw_X0_give cv_X0_give (by decide) (by decide) (Or.inl (ec_in (i := 809) (by decide +kernel) rfl)) (T := TX0) (N := 8) rfl (by decide) (by decide +kernel)
  · cases h
def cx_X3_live : ex_K := (RX3, ec_fx fl_X3, ec_cx cl_X3, sl_X3, ca_X3_live, ec_nz, ec_no)
theorem ok_X3_live (l : Launch) : ex_ok l 3 69 cx_X3_live := ⟨ec_fok fo_X3, ec_cok co_X3, so_X3, ck_X3_live l, fun _ h => (by cases h), fun _ h => (by cases h), fun _ h => (by cases h), fun _ _ h => (by cases h)⟩
def sp_X3_live : ex_S := ex_sp cx_X3_live cX3_live 3 none 400
theorem mt_X3_live (l : Launch) : ex_Met l yX3_live cX3_live 3 none 3 69 sp_X3_live := ex_inl (by decide) rfl (ok_X3_live l)
theorem cw_X4_startOver : ec_cw yX4_startOver cX4_startOver 2 (some .int) := ⟨ec_in (i := 956) (by decide +kernel) rfl, ec_in (i := 66) (by decide +kernel) rfl, by decide, by decide⟩
theorem cv_X4_startOver : Cond.instanceMethod yX4_startOver ∈ ec_tb ∧ Cond.selects yX4_startOver.cls yX4_startOver yX4_startOver ∈ ec_tb := ⟨ec_in (i := 954) (by decide +kernel) rfl, ec_in (i := 955) (by decide +kernel) rfl⟩
def cx_X4_startOver : ex_K := (RX4, ec_fx fl_X4, ec_cx cl_X4, sl_X4, ec_no, ec_nz, ec_no)
theorem ok_X4_startOver (l : Launch) : ex_ok l 0 0 cx_X4_startOver := ⟨ec_fok fo_X4, ec_cok co_X4, so_X4, fun _ _ _ _ h => (by cases h), fun _ h => (by cases h), fun _ h => (by cases h), fun _ h => (by cases h), fun _ _ h => (by cases h)⟩
def sp_X4_startOver : ex_S := ex_sp cx_X4_startOver cX4_startOver 2 (some .int) 12
theorem mt_X4_startOver (l : Launch) : ex_Met l yX4_startOver cX4_startOver 2 (some .int) 0 0 sp_X4_startOver := ex_inl (by decide) rfl (ok_X4_startOver l)
theorem cw_X4_join : ec_cw yX4_join cX4_join 4 none := ⟨ec_in (i := 974) (by decide +kernel) rfl, ec_in (i := 66) (by decide +kernel) rfl, by decide, by decide⟩
theorem cv_X4_join : Cond.instanceMethod yX4_join ∈ ec_tb ∧ Cond.selects yX4_join.cls yX4_join yX4_join ∈ ec_tb := ⟨ec_in (i := 973) (by decide +kernel) rfl, ec_in (i := 20) (by decide +kernel) rfl⟩
def cx_X4_join : ex_K := (RX4, ec_fx fl_X4, ec_cx cl_X4, sl_X4, ec_no, ec_nz, ec_no)
theorem ok_X4_join (l : Launch) : ex_ok l 0 0 cx_X4_join := ⟨ec_fok fo_X4, ec_cok co_X4, so_X4, fun _ _ _ _ h => (by cases h), fun _ h => (by cases h), fun _ h => (by cases h), fun _ h => (by cases h), fun _ _ h => (by cases h)⟩
def sp_X4_join : ex_S := ex_sp cx_X4_join cX4_join 4 none 400
theorem mt_X4_join (l : Launch) : ex_Met l yX4_join cX4_join 4 none 0 0 sp_X4_join := ex_inl (by decide) rfl (ok_X4_join l)
theorem cw_X4_findParts : ec_cw yX4_findParts cX4_findParts 4 none := ⟨ec_in (i := 970) (by decide +kernel) rfl, ec_in (i := 66) (by decide +kernel) rfl, by decide, by decide⟩
theorem cv_X4_findParts : Cond.instanceMethod yX4_findParts ∈ ec_tb ∧ Cond.selects yX4_findParts.cls yX4_findParts yX4_findParts ∈ ec_tb := ⟨ec_in (i := 969) (by decide +kernel) rfl, ec_in (i := 19) (by decide +kernel) rfl⟩
def ca_X4_findParts : Nat → Option (Nat × Option Nat × ex_S) := fun ix => match ix with
  | 59 => some (3, some 4, sp_X4_join)
  | _ => none
theorem ck_X4_findParts (l : Launch) : ∀ (ix n : Nat) (rc : Option Nat) (sp : ex_S), ca_X4_findParts ix = some (n, rc, sp) → ex_cok l RX4 1 23 ix n rc sp := by
  intro ix n rc sp h
  unfold ca_X4_findParts at h
  split at h
  · cases h; exact ec_cV (mt_X4_join l) cw_X4_join cv_X4_join (by decide) (by decide) (Or.inl (ec_in (i := 971) (by decide +kernel) rfl)) (T := TX4) (N := 2) rfl (by decide) (by decide +kernel)
  · cases h
def cx_X4_findParts : ex_K := (RX4, ec_fx fl_X4, ec_cx cl_X4, sl_X4, ca_X4_findParts, ec_nz, ec_no)
theorem ok_X4_findParts (l : Launch) : ex_ok l 1 23 cx_X4_findParts := ⟨ec_fok fo_X4, ec_cok co_X4, so_X4, ck_X4_findParts l, fun _ h => (by cases h), fun _ h => (by cases h), fun _ h => (by cases h), fun _ _ h => (by cases h)⟩
def sp_X4_findParts : ex_S := ex_sp cx_X4_findParts cX4_findParts 4 none 400
theorem mt_X4_findParts (l : Launch) : ex_Met l yX4_findParts cX4_findParts 4 none 1 23 sp_X4_findParts := ex_inl (by decide) rfl (ok_X4_findParts l)
theorem cw_X4_narrow : ec_cw yX4_narrow cX4_narrow 5 (some .int) := ⟨ec_in (i := 964) (by decide +kernel) rfl, ec_in (i := 66) (by decide +kernel) rfl, by decide, by decide⟩
theorem cv_X4_narrow : Cond.instanceMethod yX4_narrow ∈ ec_tb ∧ Cond.selects yX4_narrow.cls yX4_narrow yX4_narrow ∈ ec_tb := ⟨ec_in (i := 962) (by decide +kernel) rfl, ec_in (i := 963) (by decide +kernel) rfl⟩
def ca_X4_narrow : Nat → Option (Nat × Option Nat × ex_S) := fun ix => match ix with
  | 24 => some (2, some 0, sp_X0_hasModule)
  | 32 => some (3, some 4, sp_X4_findParts)
  | _ => none
theorem ck_X4_narrow (l : Launch) : ∀ (ix n : Nat) (rc : Option Nat) (sp : ex_S), ca_X4_narrow ix = some (n, rc, sp) → ex_cok l RX4 2 46 ix n rc sp := by
  intro ix n rc sp h
  unfold ca_X4_narrow at h
  split at h
  · cases h; exact ec_cV (mt_X0_hasModule l) cw_X0_hasModule cv_X0_hasModule (by decide) (by decide) (Or.inl (ec_in (i := 965) (by decide +kernel) rfl)) (T := TX0) (N := 8) rfl (by decide) (by decide +kernel)
  · cases h; exact ec_cV (mt_X4_findParts l) cw_X4_findParts cv_X4_findParts (by decide) (by decide) (Or.inl (ec_in (i := 967) (by decide +kernel) rfl)) (T := TX4) (N := 2) rfl (by decide) (by decide +kernel)
  · cases h
def cx_X4_narrow : ex_K := (RX4, ec_fx fl_X4, ec_cx cl_X4, sl_X4, ca_X4_narrow, ec_nz, ec_no)
theorem ok_X4_narrow (l : Launch) : ex_ok l 2 46 cx_X4_narrow := ⟨ec_fok fo_X4, ec_cok co_X4, so_X4, ck_X4_narrow l, fun _ h => (by cases h), fun _ h => (by cases h), fun _ h => (by cases h), fun _ _ h => (by cases h)⟩
def sp_X4_narrow : ex_S := ex_sp cx_X4_narrow cX4_narrow 5 (some .int) 36
theorem mt_X4_narrow (l : Launch) : ex_Met l yX4_narrow cX4_narrow 5 (some .int) 2 46 sp_X4_narrow := ex_inl (by decide) rfl (ok_X4_narrow l)
theorem cw_J6_bitCount_0f7a4 : ec_cw yJ6_bitCount_0f7a4 cJ6_bitCount_0f7a4 1 (some .int) := ⟨ec_in (i := 657) (by decide +kernel) rfl, ec_in (i := 69) (by decide +kernel) rfl, by decide, by decide⟩
theorem cv_J6_bitCount_0f7a4 : Cond.static yJ6_bitCount_0f7a4 ∈ ec_tb := ec_in (i := 656) (by decide +kernel) rfl
def cl_J6_bitCount_0f7a4 : List (Nat × Int32) := [(265, 1431655765), (266, 858993459), (267, 252645135)]
theorem co_J6_bitCount_0f7a4 : cl_J6_bitCount_0f7a4.all (fun q => decide (Cond.constant RJ6 q.1 q.2 ∈ lw_tbl) && goodWord (Cond.constant RJ6 q.1 q.2)) = true := by decide +kernel
theorem ce_J6_bitCount_0f7a4_265 : ec_cx cl_J6_bitCount_0f7a4 265 = some (1431655765) := rfl
theorem ce_J6_bitCount_0f7a4_266 : ec_cx cl_J6_bitCount_0f7a4 266 = some (858993459) := rfl
theorem ce_J6_bitCount_0f7a4_267 : ec_cx cl_J6_bitCount_0f7a4 267 = some (252645135) := rfl
def cx_J6_bitCount_0f7a4 : ex_K := (RJ6, ec_no, ec_cx cl_J6_bitCount_0f7a4, ec_no, ec_no, ec_nz, ec_no)
theorem ok_J6_bitCount_0f7a4 (l : Launch) : ex_ok l 0 0 cx_J6_bitCount_0f7a4 := ⟨fun _ _ _ _ _ h => (by cases h), ec_cok co_J6_bitCount_0f7a4, fun _ _ h => (by cases h), fun _ _ _ _ h => (by cases h), fun _ h => (by cases h), fun _ h => (by cases h), fun _ h => (by cases h), fun _ _ h => (by cases h)⟩
def sp_J6_bitCount_0f7a4 : ex_S := ex_sp cx_J6_bitCount_0f7a4 cJ6_bitCount_0f7a4 1 (some .int) 43
theorem mt_J6_bitCount_0f7a4 (l : Launch) : ex_Met l yJ6_bitCount_0f7a4 cJ6_bitCount_0f7a4 1 (some .int) 0 0 sp_J6_bitCount_0f7a4 := ex_inl (by decide) rfl (ok_J6_bitCount_0f7a4 l)
theorem cw_X4_leftAtWorst : ec_cw yX4_leftAtWorst cX4_leftAtWorst 5 (some .int) := ⟨ec_in (i := 987) (by decide +kernel) rfl, ec_in (i := 66) (by decide +kernel) rfl, by decide, by decide⟩
theorem cv_X4_leftAtWorst : Cond.instanceMethod yX4_leftAtWorst ∈ ec_tb ∧ Cond.selects yX4_leftAtWorst.cls yX4_leftAtWorst yX4_leftAtWorst ∈ ec_tb := ⟨ec_in (i := 986) (by decide +kernel) rfl, ec_in (i := 21) (by decide +kernel) rfl⟩
def ca_X4_leftAtWorst : Nat → Option (Nat × Option Nat × ex_S) := fun ix => match ix with
  | 32 => some (3, some 4, sp_X4_findParts)
  | 41 => some (1, none, sp_J6_bitCount_0f7a4)
  | _ => none
theorem ck_X4_leftAtWorst (l : Launch) : ∀ (ix n : Nat) (rc : Option Nat) (sp : ex_S), ca_X4_leftAtWorst ix = some (n, rc, sp) → ex_cok l RX4 2 46 ix n rc sp := by
  intro ix n rc sp h
  unfold ca_X4_leftAtWorst at h
  split at h
  · cases h; exact ec_cV (mt_X4_findParts l) cw_X4_findParts cv_X4_findParts (by decide) (by decide) (Or.inl (ec_in (i := 967) (by decide +kernel) rfl)) (T := TX4) (N := 2) rfl (by decide) (by decide +kernel)
  · cases h; exact ec_cS (mt_J6_bitCount_0f7a4 l) cw_J6_bitCount_0f7a4 cv_J6_bitCount_0f7a4 (by decide) (by decide) (Or.inl (ec_in (i := 988) (by decide +kernel) rfl)) (by decide +kernel)
  · cases h
def cx_X4_leftAtWorst : ex_K := (RX4, ec_fx fl_X4, ec_cx cl_X4, sl_X4, ca_X4_leftAtWorst, al_X4, ec_no)
theorem ok_X4_leftAtWorst (l : Launch) : ex_ok l 2 46 cx_X4_leftAtWorst := ⟨ec_fok fo_X4, ec_cok co_X4, so_X4, ck_X4_leftAtWorst l, am_X4, ax_X4 (by decide) (by decide), ao_X4, fun _ _ h => (by cases h)⟩
def sp_X4_leftAtWorst : ex_S := ex_sp cx_X4_leftAtWorst cX4_leftAtWorst 5 (some .int) 400
theorem mt_X4_leftAtWorst (l : Launch) : ex_Met l yX4_leftAtWorst cX4_leftAtWorst 5 (some .int) 2 46 sp_X4_leftAtWorst := ex_inl (by decide) rfl (ok_X4_leftAtWorst l)
theorem cw_X4_bestTest : ec_cw yX4_bestTest cX4_bestTest 9 (some .int) := ⟨ec_in (i := 983) (by decide +kernel) rfl, ec_in (i := 66) (by decide +kernel) rfl, by decide, by decide⟩
theorem cv_X4_bestTest : Cond.instanceMethod yX4_bestTest ∈ ec_tb ∧ Cond.selects yX4_bestTest.cls yX4_bestTest yX4_bestTest ∈ ec_tb := ⟨ec_in (i := 981) (by decide +kernel) rfl, ec_in (i := 982) (by decide +kernel) rfl⟩
def ca_X4_bestTest : Nat → Option (Nat × Option Nat × ex_S) := fun ix => match ix with
  | 37 => some (3, some 4, sp_X4_leftAtWorst)
  | 41 => some (1, none, sp_J6_bitCount_0f7a4)
  | _ => none
theorem ck_X4_bestTest (l : Launch) : ∀ (ix n : Nat) (rc : Option Nat) (sp : ex_S), ca_X4_bestTest ix = some (n, rc, sp) → ex_cok l RX4 3 70 ix n rc sp := by
  intro ix n rc sp h
  unfold ca_X4_bestTest at h
  split at h
  · cases h; exact ec_cV (mt_X4_leftAtWorst l) cw_X4_leftAtWorst cv_X4_leftAtWorst (by decide) (by decide) (Or.inl (ec_in (i := 984) (by decide +kernel) rfl)) (T := TX4) (N := 2) rfl (by decide) (by decide +kernel)
  · cases h; exact ec_cS (mt_J6_bitCount_0f7a4 l) cw_J6_bitCount_0f7a4 cv_J6_bitCount_0f7a4 (by decide) (by decide) (Or.inl (ec_in (i := 988) (by decide +kernel) rfl)) (by decide +kernel)
  · cases h
def cx_X4_bestTest : ex_K := (RX4, ec_fx fl_X4, ec_cx cl_X4, sl_X4, ca_X4_bestTest, ec_nz, ec_no)
theorem ok_X4_bestTest (l : Launch) : ex_ok l 3 70 cx_X4_bestTest := ⟨ec_fok fo_X4, ec_cok co_X4, so_X4, ck_X4_bestTest l, fun _ h => (by cases h), fun _ h => (by cases h), fun _ h => (by cases h), fun _ _ h => (by cases h)⟩
def sp_X4_bestTest : ex_S := ex_sp cx_X4_bestTest cX4_bestTest 9 (some .int) 400
theorem mt_X4_bestTest (l : Launch) : ex_Met l yX4_bestTest cX4_bestTest 9 (some .int) 3 70 sp_X4_bestTest := ex_inl (by decide) rfl (ok_X4_bestTest l)
theorem cw_X5_isSensor : ec_cw yX5_isSensor cX5_isSensor 1 (some .boolean) := ⟨ec_in (i := 1006) (by decide +kernel) rfl, ec_in (i := 67) (by decide +kernel) rfl, by decide, by decide⟩
theorem cv_X5_isSensor : Cond.static yX5_isSensor ∈ ec_tb := ec_in (i := 1005) (by decide +kernel) rfl
def cx_X5_isSensor : ex_K := (RX5, ec_fx fl_X5, ec_cx cl_X5, sl_X5, ec_no, ec_nz, ec_no)
theorem ok_X5_isSensor (l : Launch) : ex_ok l 0 0 cx_X5_isSensor := ⟨ec_fok fo_X5, ec_cok co_X5, so_X5, fun _ _ _ _ h => (by cases h), fun _ h => (by cases h), fun _ h => (by cases h), fun _ h => (by cases h), fun _ _ h => (by cases h)⟩
def sp_X5_isSensor : ex_S := ex_sp cx_X5_isSensor cX5_isSensor 1 (some .boolean) 10
theorem mt_X5_isSensor (l : Launch) : ex_Met l yX5_isSensor cX5_isSensor 1 (some .boolean) 0 0 sp_X5_isSensor := ex_inl (by decide) rfl (ok_X5_isSensor l)
theorem cw_X5_addReading : ec_cw yX5_addReading cX5_addReading 4 (some .int) := ⟨ec_in (i := 1003) (by decide +kernel) rfl, ec_in (i := 67) (by decide +kernel) rfl, by decide, by decide⟩
theorem cv_X5_addReading : Cond.instanceMethod yX5_addReading ∈ ec_tb ∧ Cond.selects yX5_addReading.cls yX5_addReading yX5_addReading ∈ ec_tb := ⟨ec_in (i := 1001) (by decide +kernel) rfl, ec_in (i := 1002) (by decide +kernel) rfl⟩
def ca_X5_addReading : Nat → Option (Nat × Option Nat × ex_S) := fun ix => match ix with
  | 37 => some (1, none, sp_X5_isSensor)
  | _ => none
theorem ck_X5_addReading (l : Launch) : ∀ (ix n : Nat) (rc : Option Nat) (sp : ex_S), ca_X5_addReading ix = some (n, rc, sp) → ex_cok l RX5 1 20 ix n rc sp := by
  intro ix n rc sp h
  unfold ca_X5_addReading at h
  split at h
  · cases h; exact ec_cS (mt_X5_isSensor l) cw_X5_isSensor cv_X5_isSensor (by decide) (by decide) (Or.inl (ec_in (i := 1004) (by decide +kernel) rfl)) (by decide +kernel)
  · cases h
def cx_X5_addReading : ex_K := (RX5, ec_fx fl_X5, ec_cx cl_X5, sl_X5, ca_X5_addReading, ec_nz, ec_no)
theorem ok_X5_addReading (l : Launch) : ex_ok l 1 20 cx_X5_addReading := ⟨ec_fok fo_X5, ec_cok co_X5, so_X5, ck_X5_addReading l, fun _ h => (by cases h), fun _ h => (by cases h), fun _ h => (by cases h), fun _ _ h => (by cases h)⟩
def sp_X5_addReading : ex_S := ex_sp cx_X5_addReading cX5_addReading 4 (some .int) 56
theorem mt_X5_addReading (l : Launch) : ex_Met l yX5_addReading cX5_addReading 4 (some .int) 1 20 sp_X5_addReading := ex_inl (by decide) rfl (ok_X5_addReading l)
theorem cw_X5_addCalibration : ec_cw yX5_addCalibration cX5_addCalibration 4 (some .int) := ⟨ec_in (i := 1016) (by decide +kernel) rfl, ec_in (i := 67) (by decide +kernel) rfl, by decide, by decide⟩
theorem cv_X5_addCalibration : Cond.instanceMethod yX5_addCalibration ∈ ec_tb ∧ Cond.selects yX5_addCalibration.cls yX5_addCalibration yX5_addCalibration ∈ ec_tb := ⟨ec_in (i := 1014) (by decide +kernel) rfl, ec_in (i := 1015) (by decide +kernel) rfl⟩
def ca_X5_addCalibration : Nat → Option (Nat × Option Nat × ex_S) := fun ix => match ix with
  | 37 => some (1, none, sp_X5_isSensor)
  | _ => none
theorem ck_X5_addCalibration (l : Launch) : ∀ (ix n : Nat) (rc : Option Nat) (sp : ex_S), ca_X5_addCalibration ix = some (n, rc, sp) → ex_cok l RX5 1 20 ix n rc sp := by
  intro ix n rc sp h
  unfold ca_X5_addCalibration at h
  split at h
  · cases h; exact ec_cS (mt_X5_isSensor l) cw_X5_isSensor cv_X5_isSensor (by decide) (by decide) (Or.inl (ec_in (i := 1004) (by decide +kernel) rfl)) (by decide +kernel)
  · cases h
def cx_X5_addCalibration : ex_K := (RX5, ec_fx fl_X5, ec_cx cl_X5, sl_X5, ca_X5_addCalibration, ec_nz, ec_no)
theorem ok_X5_addCalibration (l : Launch) : ex_ok l 1 20 cx_X5_addCalibration := ⟨ec_fok fo_X5, ec_cok co_X5, so_X5, ck_X5_addCalibration l, fun _ h => (by cases h), fun _ h => (by cases h), fun _ h => (by cases h), fun _ _ h => (by cases h)⟩
def sp_X5_addCalibration : ex_S := ex_sp cx_X5_addCalibration cX5_addCalibration 4 (some .int) 45
theorem mt_X5_addCalibration (l : Launch) : ex_Met l yX5_addCalibration cX5_addCalibration 4 (some .int) 1 20 sp_X5_addCalibration := ex_inl (by decide) rfl (ok_X5_addCalibration l)
theorem cw_X5_setDelay : ec_cw yX5_setDelay cX5_setDelay 3 (some .int) := ⟨ec_in (i := 1040) (by decide +kernel) rfl, ec_in (i := 67) (by decide +kernel) rfl, by decide, by decide⟩
theorem cv_X5_setDelay : Cond.instanceMethod yX5_setDelay ∈ ec_tb ∧ Cond.selects yX5_setDelay.cls yX5_setDelay yX5_setDelay ∈ ec_tb := ⟨ec_in (i := 1038) (by decide +kernel) rfl, ec_in (i := 1039) (by decide +kernel) rfl⟩
def cx_X5_setDelay : ex_K := (RX5, ec_fx fl_X5, ec_cx cl_X5, sl_X5, ec_no, ec_nz, ec_no)
theorem ok_X5_setDelay (l : Launch) : ex_ok l 0 0 cx_X5_setDelay := ⟨ec_fok fo_X5, ec_cok co_X5, so_X5, fun _ _ _ _ h => (by cases h), fun _ h => (by cases h), fun _ h => (by cases h), fun _ h => (by cases h), fun _ _ h => (by cases h)⟩
def sp_X5_setDelay : ex_S := ex_sp cx_X5_setDelay cX5_setDelay 3 (some .int) 16
theorem mt_X5_setDelay (l : Launch) : ex_Met l yX5_setDelay cX5_setDelay 3 (some .int) 0 0 sp_X5_setDelay := ex_inl (by decide) rfl (ok_X5_setDelay l)
theorem cw_X5_latestHeard : ec_cw yX5_latestHeard cX5_latestHeard 4 (some .int) := ⟨ec_in (i := 1048) (by decide +kernel) rfl, ec_in (i := 67) (by decide +kernel) rfl, by decide, by decide⟩
theorem cv_X5_latestHeard : Cond.instanceMethod yX5_latestHeard ∈ ec_tb ∧ Cond.selects yX5_latestHeard.cls yX5_latestHeard yX5_latestHeard ∈ ec_tb := ⟨ec_in (i := 1046) (by decide +kernel) rfl, ec_in (i := 1047) (by decide +kernel) rfl⟩
def ca_X5_latestHeard : Nat → Option (Nat × Option Nat × ex_S) := fun ix => match ix with
  | 37 => some (1, none, sp_X5_isSensor)
  | _ => none
theorem ck_X5_latestHeard (l : Launch) : ∀ (ix n : Nat) (rc : Option Nat) (sp : ex_S), ca_X5_latestHeard ix = some (n, rc, sp) → ex_cok l RX5 1 20 ix n rc sp := by
  intro ix n rc sp h
  unfold ca_X5_latestHeard at h
  split at h
  · cases h; exact ec_cS (mt_X5_isSensor l) cw_X5_isSensor cv_X5_isSensor (by decide) (by decide) (Or.inl (ec_in (i := 1004) (by decide +kernel) rfl)) (by decide +kernel)
  · cases h
def cx_X5_latestHeard : ex_K := (RX5, ec_fx fl_X5, ec_cx cl_X5, sl_X5, ca_X5_latestHeard, ec_nz, ec_no)
theorem ok_X5_latestHeard (l : Launch) : ex_ok l 1 20 cx_X5_latestHeard := ⟨ec_fok fo_X5, ec_cok co_X5, so_X5, ck_X5_latestHeard l, fun _ h => (by cases h), fun _ h => (by cases h), fun _ h => (by cases h), fun _ _ h => (by cases h)⟩
def sp_X5_latestHeard : ex_S := ex_sp cx_X5_latestHeard cX5_latestHeard 4 (some .int) 400
theorem mt_X5_latestHeard (l : Launch) : ex_Met l yX5_latestHeard cX5_latestHeard 4 (some .int) 1 20 sp_X5_latestHeard := ex_inl (by decide) rfl (ok_X5_latestHeard l)
theorem cw_X5_between : ec_cw yX5_between cX5_between 6 (some .int) := ⟨ec_in (i := 1032) (by decide +kernel) rfl, ec_in (i := 67) (by decide +kernel) rfl, by decide, by decide⟩
theorem cv_X5_between : Cond.instanceMethod yX5_between ∈ ec_tb ∧ Cond.selects yX5_between.cls yX5_between yX5_between ∈ ec_tb := ⟨ec_in (i := 1031) (by decide +kernel) rfl, ec_in (i := 23) (by decide +kernel) rfl⟩
def cx_X5_between : ex_K := (RX5, ec_fx fl_X5, ec_cx cl_X5, sl_X5, ec_no, ec_nz, ec_no)
theorem ok_X5_between (l : Launch) : ex_ok l 0 0 cx_X5_between := ⟨ec_fok fo_X5, ec_cok co_X5, so_X5, fun _ _ _ _ h => (by cases h), fun _ h => (by cases h), fun _ h => (by cases h), fun _ h => (by cases h), fun _ _ h => (by cases h)⟩
def sp_X5_between : ex_S := ex_sp cx_X5_between cX5_between 6 (some .int) 44
theorem mt_X5_between (l : Launch) : ex_Met l yX5_between cX5_between 6 (some .int) 0 0 sp_X5_between := ex_inl (by decide) rfl (ok_X5_between l)
theorem cw_X5_tooMuch : ec_cw yX5_tooMuch cX5_tooMuch 6 (some .int) := ⟨ec_in (i := 1028) (by decide +kernel) rfl, ec_in (i := 67) (by decide +kernel) rfl, by decide, by decide⟩
theorem cv_X5_tooMuch : Cond.instanceMethod yX5_tooMuch ∈ ec_tb ∧ Cond.selects yX5_tooMuch.cls yX5_tooMuch yX5_tooMuch ∈ ec_tb := ⟨ec_in (i := 1027) (by decide +kernel) rfl, ec_in (i := 22) (by decide +kernel) rfl⟩
def ca_X5_tooMuch : Nat → Option (Nat × Option Nat × ex_S) := fun ix => match ix with
  | 54 => some (4, some 5, sp_X5_between)
  | _ => none
theorem ck_X5_tooMuch (l : Launch) : ∀ (ix n : Nat) (rc : Option Nat) (sp : ex_S), ca_X5_tooMuch ix = some (n, rc, sp) → ex_cok l RX5 1 25 ix n rc sp := by
  intro ix n rc sp h
  unfold ca_X5_tooMuch at h
  split at h
  · cases h; exact ec_cV (mt_X5_between l) cw_X5_between cv_X5_between (by decide) (by decide) (Or.inl (ec_in (i := 1029) (by decide +kernel) rfl)) (T := TX5) (N := 10) rfl (by decide) (by decide +kernel)
  · cases h
def cx_X5_tooMuch : ex_K := (RX5, ec_fx fl_X5, ec_cx cl_X5, sl_X5, ca_X5_tooMuch, ec_nz, ec_no)
theorem ok_X5_tooMuch (l : Launch) : ex_ok l 1 25 cx_X5_tooMuch := ⟨ec_fok fo_X5, ec_cok co_X5, so_X5, ck_X5_tooMuch l, fun _ h => (by cases h), fun _ h => (by cases h), fun _ h => (by cases h), fun _ _ h => (by cases h)⟩
def sp_X5_tooMuch : ex_S := ex_sp cx_X5_tooMuch cX5_tooMuch 6 (some .int) 400
theorem mt_X5_tooMuch (l : Launch) : ex_Met l yX5_tooMuch cX5_tooMuch 6 (some .int) 1 25 sp_X5_tooMuch := ex_inl (by decide) rfl (ok_X5_tooMuch l)
theorem cw_X5_workedBack : ec_cw yX5_workedBack cX5_workedBack 2 (some .int) := ⟨ec_in (i := 1024) (by decide +kernel) rfl, ec_in (i := 67) (by decide +kernel) rfl, by decide, by decide⟩
theorem cv_X5_workedBack : Cond.instanceMethod yX5_workedBack ∈ ec_tb ∧ Cond.selects yX5_workedBack.cls yX5_workedBack yX5_workedBack ∈ ec_tb := ⟨ec_in (i := 1022) (by decide +kernel) rfl, ec_in (i := 1023) (by decide +kernel) rfl⟩
def ca_X5_workedBack : Nat → Option (Nat × Option Nat × ex_S) := fun ix => match ix with
  | 50 => some (3, some 5, sp_X5_tooMuch)
  | _ => none
theorem ck_X5_workedBack (l : Launch) : ∀ (ix n : Nat) (rc : Option Nat) (sp : ex_S), ca_X5_workedBack ix = some (n, rc, sp) → ex_cok l RX5 2 50 ix n rc sp := by
  intro ix n rc sp h
  unfold ca_X5_workedBack at h
  split at h
  · cases h; exact ec_cV (mt_X5_tooMuch l) cw_X5_tooMuch cv_X5_tooMuch (by decide) (by decide) (Or.inl (ec_in (i := 1025) (by decide +kernel) rfl)) (T := TX5) (N := 10) rfl (by decide) (by decide +kernel)
  · cases h
def cx_X5_workedBack : ex_K := (RX5, ec_fx fl_X5, ec_cx cl_X5, sl_X5, ca_X5_workedBack, ec_nz, ec_no)
theorem ok_X5_workedBack (l : Launch) : ex_ok l 2 50 cx_X5_workedBack := ⟨ec_fok fo_X5, ec_cok co_X5, so_X5, ck_X5_workedBack l, fun _ h => (by cases h), fun _ h => (by cases h), fun _ h => (by cases h), fun _ _ h => (by cases h)⟩
def sp_X5_workedBack : ex_S := ex_sp cx_X5_workedBack cX5_workedBack 2 (some .int) 25
theorem mt_X5_workedBack (l : Launch) : ex_Met l yX5_workedBack cX5_workedBack 2 (some .int) 2 50 sp_X5_workedBack := ex_inl (by decide) rfl (ok_X5_workedBack l)
theorem cw_X6_becomeLike : ec_cw yX6_becomeLike cX6_becomeLike 2 none := ⟨ec_in (i := 890) (by decide +kernel) rfl, ec_in (i := 63) (by decide +kernel) rfl, by decide, by decide⟩
theorem cv_X6_becomeLike : Cond.instanceMethod yX6_becomeLike ∈ ec_tb ∧ Cond.selects yX6_becomeLike.cls yX6_becomeLike yX6_becomeLike ∈ ec_tb := ⟨ec_in (i := 888) (by decide +kernel) rfl, ec_in (i := 889) (by decide +kernel) rfl⟩
def ca_X6_becomeLike : Nat → Option (Nat × Option Nat × ex_S) := fun ix => match ix with
  | 50 => some (2, none, sp_X9_copy)
  | 54 => some (2, none, sp_X9_copyFlags)
  | _ => none
theorem ck_X6_becomeLike (l : Launch) : ∀ (ix n : Nat) (rc : Option Nat) (sp : ex_S), ca_X6_becomeLike ix = some (n, rc, sp) → ex_cok l RX6 2 47 ix n rc sp := by
  intro ix n rc sp h
  unfold ca_X6_becomeLike at h
  split at h
  · cases h; exact ec_cS (mt_X9_copy l) cw_X9_copy cv_X9_copy (by decide) (by decide) (Or.inr ⟨"TinStation", by decide +kernel⟩) (by decide +kernel)
  · cases h; exact ec_cS (mt_X9_copyFlags l) cw_X9_copyFlags cv_X9_copyFlags (by decide) (by decide) (Or.inr ⟨"TinStation", by decide +kernel⟩) (by decide +kernel)
  · cases h
def cx_X6_becomeLike : ex_K := (RX6, ec_fx fl_X6, ec_cx cl_X6, sl_X6, ca_X6_becomeLike, ec_nz, ec_no)
theorem ok_X6_becomeLike (l : Launch) : ex_ok l 2 47 cx_X6_becomeLike := ⟨ec_fok fo_X6, ec_cok co_X6, so_X6, ck_X6_becomeLike l, fun _ h => (by cases h), fun _ h => (by cases h), fun _ h => (by cases h), fun _ _ h => (by cases h)⟩
def sp_X6_becomeLike : ex_S := ex_sp cx_X6_becomeLike cX6_becomeLike 2 none 73
theorem mt_X6_becomeLike (l : Launch) : ex_Met l yX6_becomeLike cX6_becomeLike 2 none 2 47 sp_X6_becomeLike := ex_inl (by decide) rfl (ok_X6_becomeLike l)
theorem cw_X6_isKind : ec_cw yX6_isKind cX6_isKind 1 (some .boolean) := ⟨ec_in (i := 562) (by decide +kernel) rfl, ec_in (i := 63) (by decide +kernel) rfl, by decide, by decide⟩
theorem cv_X6_isKind : Cond.static yX6_isKind ∈ ec_tb := ec_in (i := 561) (by decide +kernel) rfl
def cx_X6_isKind : ex_K := (RX6, ec_fx fl_X6, ec_cx cl_X6, sl_X6, ec_no, ec_nz, ec_no)
theorem ok_X6_isKind (l : Launch) : ex_ok l 0 0 cx_X6_isKind := ⟨ec_fok fo_X6, ec_cok co_X6, so_X6, fun _ _ _ _ h => (by cases h), fun _ h => (by cases h), fun _ h => (by cases h), fun _ h => (by cases h), fun _ _ h => (by cases h)⟩
def sp_X6_isKind : ex_S := ex_sp cx_X6_isKind cX6_isKind 1 (some .boolean) 10
theorem mt_X6_isKind (l : Launch) : ex_Met l yX6_isKind cX6_isKind 1 (some .boolean) 0 0 sp_X6_isKind := ex_inl (by decide) rfl (ok_X6_isKind l)
theorem cw_X6_isUse : ec_cw yX6_isUse cX6_isUse 1 (some .boolean) := ⟨ec_in (i := 565) (by decide +kernel) rfl, ec_in (i := 63) (by decide +kernel) rfl, by decide, by decide⟩
theorem cv_X6_isUse : Cond.static yX6_isUse ∈ ec_tb := ec_in (i := 564) (by decide +kernel) rfl
def cx_X6_isUse : ex_K := (RX6, ec_fx fl_X6, ec_cx cl_X6, sl_X6, ec_no, ec_nz, ec_no)
theorem ok_X6_isUse (l : Launch) : ex_ok l 0 0 cx_X6_isUse := ⟨ec_fok fo_X6, ec_cok co_X6, so_X6, fun _ _ _ _ h => (by cases h), fun _ h => (by cases h), fun _ h => (by cases h), fun _ h => (by cases h), fun _ _ h => (by cases h)⟩
def sp_X6_isUse : ex_S := ex_sp cx_X6_isUse cX6_isUse 1 (some .boolean) 24
theorem mt_X6_isUse (l : Launch) : ex_Met l yX6_isUse cX6_isUse 1 (some .boolean) 0 0 sp_X6_isUse := ex_inl (by decide) rfl (ok_X6_isUse l)
theorem cw_X6_addMachine : ec_cw yX6_addMachine cX6_addMachine 6 (some .int) := ⟨ec_in (i := 559) (by decide +kernel) rfl, ec_in (i := 63) (by decide +kernel) rfl, by decide, by decide⟩
theorem cv_X6_addMachine : Cond.instanceMethod yX6_addMachine ∈ ec_tb ∧ Cond.selects yX6_addMachine.cls yX6_addMachine yX6_addMachine ∈ ec_tb := ⟨ec_in (i := 557) (by decide +kernel) rfl, ec_in (i := 558) (by decide +kernel) rfl⟩
def ca_X6_addMachine : Nat → Option (Nat × Option Nat × ex_S) := fun ix => match ix with
  | 67 => some (1, none, sp_X6_isKind)
  | 71 => some (1, none, sp_X6_isUse)
  | _ => none
theorem ck_X6_addMachine (l : Launch) : ∀ (ix n : Nat) (rc : Option Nat) (sp : ex_S), ca_X6_addMachine ix = some (n, rc, sp) → ex_cok l RX6 1 20 ix n rc sp := by
  intro ix n rc sp h
  unfold ca_X6_addMachine at h
  split at h
  · cases h; exact ec_cS (mt_X6_isKind l) cw_X6_isKind cv_X6_isKind (by decide) (by decide) (Or.inl (ec_in (i := 560) (by decide +kernel) rfl)) (by decide +kernel)
  · cases h; exact ec_cS (mt_X6_isUse l) cw_X6_isUse cv_X6_isUse (by decide) (by decide) (Or.inl (ec_in (i := 563) (by decide +kernel) rfl)) (by decide +kernel)
  · cases h
def cx_X6_addMachine : ex_K := (RX6, ec_fx fl_X6, ec_cx cl_X6, sl_X6, ca_X6_addMachine, ec_nz, ec_no)
theorem ok_X6_addMachine (l : Launch) : ex_ok l 1 20 cx_X6_addMachine := ⟨ec_fok fo_X6, ec_cok co_X6, so_X6, ck_X6_addMachine l, fun _ h => (by cases h), fun _ h => (by cases h), fun _ h => (by cases h), fun _ _ h => (by cases h)⟩
def sp_X6_addMachine : ex_S := ex_sp cx_X6_addMachine cX6_addMachine 6 (some .int) 75
theorem mt_X6_addMachine (l : Launch) : ex_Met l yX6_addMachine cX6_addMachine 6 (some .int) 1 20 sp_X6_addMachine := ex_inl (by decide) rfl (ok_X6_addMachine l)
theorem cw_X6_isUnder : ec_cw yX6_isUnder cX6_isUnder 4 (some .boolean) := ⟨ec_in (i := 583) (by decide +kernel) rfl, ec_in (i := 63) (by decide +kernel) rfl, by decide, by decide⟩
theorem cv_X6_isUnder : Cond.static yX6_isUnder ∈ ec_tb := ec_in (i := 582) (by decide +kernel) rfl
def ca_X6_isUnder : Nat → Option (Nat × Option Nat × ex_S) := fun ix => match ix with
  | 67 => some (1, none, sp_X6_isKind)
  | _ => none
theorem ck_X6_isUnder (l : Launch) : ∀ (ix n : Nat) (rc : Option Nat) (sp : ex_S), ca_X6_isUnder ix = some (n, rc, sp) → ex_cok l RX6 1 20 ix n rc sp := by
  intro ix n rc sp h
  unfold ca_X6_isUnder at h
  split at h
  · cases h; exact ec_cS (mt_X6_isKind l) cw_X6_isKind cv_X6_isKind (by decide) (by decide) (Or.inl (ec_in (i := 560) (by decide +kernel) rfl)) (by decide +kernel)
  · cases h
def cx_X6_isUnder : ex_K := (RX6, ec_fx fl_X6, ec_cx cl_X6, sl_X6, ca_X6_isUnder, ec_nz, ec_no)
theorem ok_X6_isUnder (l : Launch) : ex_ok l 1 20 cx_X6_isUnder := ⟨ec_fok fo_X6, ec_cok co_X6, so_X6, ck_X6_isUnder l, fun _ h => (by cases h), fun _ h => (by cases h), fun _ h => (by cases h), fun _ _ h => (by cases h)⟩
def sp_X6_isUnder : ex_S := ex_sp cx_X6_isUnder cX6_isUnder 4 (some .boolean) 400
theorem mt_X6_isUnder (l : Launch) : ex_Met l yX6_isUnder cX6_isUnder 4 (some .boolean) 1 20 sp_X6_isUnder := ex_inl (by decide) rfl (ok_X6_isUnder l)
theorem cw_X6_rateAs : ec_cw yX6_rateAs cX6_rateAs 3 (some .int) := ⟨ec_in (i := 576) (by decide +kernel) rfl, ec_in (i := 63) (by decide +kernel) rfl, by decide, by decide⟩
theorem cv_X6_rateAs : Cond.instanceMethod yX6_rateAs ∈ ec_tb ∧ Cond.selects yX6_rateAs.cls yX6_rateAs yX6_rateAs ∈ ec_tb := ⟨ec_in (i := 574) (by decide +kernel) rfl, ec_in (i := 575) (by decide +kernel) rfl⟩
def ca_X6_rateAs : Nat → Option (Nat × Option Nat × ex_S) := fun ix => match ix with
  | 77 => some (2, some 6, sp_X6_has)
  | 67 => some (1, none, sp_X6_isKind)
  | 80 => some (2, none, sp_X6_isUnder)
  | _ => none
theorem ck_X6_rateAs (l : Launch) : ∀ (ix n : Nat) (rc : Option Nat) (sp : ex_S), ca_X6_rateAs ix = some (n, rc, sp) → ex_cok l RX6 2 43 ix n rc sp := by
  intro ix n rc sp h
  unfold ca_X6_rateAs at h
  split at h
  · cases h; exact ec_cV (mt_X6_has l) cw_X6_has cv_X6_has (by decide) (by decide) (Or.inl (ec_in (i := 577) (by decide +kernel) rfl)) (T := TX6) (N := 15) rfl (by decide) (by decide +kernel)
  · cases h; exact ec_cS (mt_X6_isKind l) cw_X6_isKind cv_X6_isKind (by decide) (by decide) (Or.inl (ec_in (i := 560) (by decide +kernel) rfl)) (by decide +kernel)
  · cases h; exact ec_cS (mt_X6_isUnder l) cw_X6_isUnder cv_X6_isUnder (by decide) (by decide) (Or.inl (ec_in (i := 581) (by decide +kernel) rfl)) (by decide +kernel)
  · cases h
def cx_X6_rateAs : ex_K := (RX6, ec_fx fl_X6, ec_cx cl_X6, sl_X6, ca_X6_rateAs, ec_nz, ec_no)
theorem ok_X6_rateAs (l : Launch) : ex_ok l 2 43 cx_X6_rateAs := ⟨ec_fok fo_X6, ec_cok co_X6, so_X6, ck_X6_rateAs l, fun _ h => (by cases h), fun _ h => (by cases h), fun _ h => (by cases h), fun _ _ h => (by cases h)⟩
def sp_X6_rateAs : ex_S := ex_sp cx_X6_rateAs cX6_rateAs 3 (some .int) 24
theorem mt_X6_rateAs (l : Launch) : ex_Met l yX6_rateAs cX6_rateAs 3 (some .int) 2 43 sp_X6_rateAs := ex_inl (by decide) rfl (ok_X6_rateAs l)
theorem cw_X6_setOn : ec_cw yX6_setOn cX6_setOn 4 (some .int) := ⟨ec_in (i := 594) (by decide +kernel) rfl, ec_in (i := 63) (by decide +kernel) rfl, by decide, by decide⟩
theorem cv_X6_setOn : Cond.instanceMethod yX6_setOn ∈ ec_tb ∧ Cond.selects yX6_setOn.cls yX6_setOn yX6_setOn ∈ ec_tb := ⟨ec_in (i := 592) (by decide +kernel) rfl, ec_in (i := 593) (by decide +kernel) rfl⟩
def ca_X6_setOn : Nat → Option (Nat × Option Nat × ex_S) := fun ix => match ix with
  | 77 => some (2, some 6, sp_X6_has)
  | 88 => some (1, none, sp_X9_isSwitch)
  | 91 => some (1, none, sp_X9_one)
  | _ => none
theorem ck_X6_setOn (l : Launch) : ∀ (ix n : Nat) (rc : Option Nat) (sp : ex_S), ca_X6_setOn ix = some (n, rc, sp) → ex_cok l RX6 1 21 ix n rc sp := by
  intro ix n rc sp h
  unfold ca_X6_setOn at h
  split at h
  · cases h; exact ec_cV (mt_X6_has l) cw_X6_has cv_X6_has (by decide) (by decide) (Or.inl (ec_in (i := 577) (by decide +kernel) rfl)) (T := TX6) (N := 15) rfl (by decide) (by decide +kernel)
  · cases h; exact ec_cS (mt_X9_isSwitch l) cw_X9_isSwitch cv_X9_isSwitch (by decide) (by decide) (Or.inr ⟨"TinStation", by decide +kernel⟩) (by decide +kernel)
  · cases h; exact ec_cS (mt_X9_one l) cw_X9_one cv_X9_one (by decide) (by decide) (Or.inr ⟨"TinStation", by decide +kernel⟩) (by decide +kernel)
  · cases h
def cx_X6_setOn : ex_K := (RX6, ec_fx fl_X6, ec_cx cl_X6, sl_X6, ca_X6_setOn, ec_nz, ec_no)
theorem ok_X6_setOn (l : Launch) : ex_ok l 1 21 cx_X6_setOn := ⟨ec_fok fo_X6, ec_cok co_X6, so_X6, ck_X6_setOn l, fun _ h => (by cases h), fun _ h => (by cases h), fun _ h => (by cases h), fun _ _ h => (by cases h)⟩
def sp_X6_setOn : ex_S := ex_sp cx_X6_setOn cX6_setOn 4 (some .int) 28
theorem mt_X6_setOn (l : Launch) : ex_Met l yX6_setOn cX6_setOn 4 (some .int) 1 21 sp_X6_setOn := ex_inl (by decide) rfl (ok_X6_setOn l)
theorem cw_X6_tellOf : ec_cw yX6_tellOf cX6_tellOf 3 (some .int) := ⟨ec_in (i := 604) (by decide +kernel) rfl, ec_in (i := 63) (by decide +kernel) rfl, by decide, by decide⟩
theorem cv_X6_tellOf : Cond.instanceMethod yX6_tellOf ∈ ec_tb ∧ Cond.selects yX6_tellOf.cls yX6_tellOf yX6_tellOf ∈ ec_tb := ⟨ec_in (i := 602) (by decide +kernel) rfl, ec_in (i := 603) (by decide +kernel) rfl⟩
def ca_X6_tellOf : Nat → Option (Nat × Option Nat × ex_S) := fun ix => match ix with
  | 77 => some (2, some 6, sp_X6_has)
  | 91 => some (1, none, sp_X9_one)
  | _ => none
theorem ck_X6_tellOf (l : Launch) : ∀ (ix n : Nat) (rc : Option Nat) (sp : ex_S), ca_X6_tellOf ix = some (n, rc, sp) → ex_cok l RX6 1 21 ix n rc sp := by
  intro ix n rc sp h
  unfold ca_X6_tellOf at h
  split at h
  · cases h; exact ec_cV (mt_X6_has l) cw_X6_has cv_X6_has (by decide) (by decide) (Or.inl (ec_in (i := 577) (by decide +kernel) rfl)) (T := TX6) (N := 15) rfl (by decide) (by decide +kernel)
  · cases h; exact ec_cS (mt_X9_one l) cw_X9_one cv_X9_one (by decide) (by decide) (Or.inr ⟨"TinStation", by decide +kernel⟩) (by decide +kernel)
  · cases h
def cx_X6_tellOf : ex_K := (RX6, ec_fx fl_X6, ec_cx cl_X6, sl_X6, ca_X6_tellOf, ec_nz, ec_no)
theorem ok_X6_tellOf (l : Launch) : ex_ok l 1 21 cx_X6_tellOf := ⟨ec_fok fo_X6, ec_cok co_X6, so_X6, ck_X6_tellOf l, fun _ h => (by cases h), fun _ h => (by cases h), fun _ h => (by cases h), fun _ _ h => (by cases h)⟩
def sp_X6_tellOf : ex_S := ex_sp cx_X6_tellOf cX6_tellOf 3 (some .int) 59
theorem mt_X6_tellOf (l : Launch) : ex_Met l yX6_tellOf cX6_tellOf 3 (some .int) 1 21 sp_X6_tellOf := ex_inl (by decide) rfl (ok_X6_tellOf l)
theorem cw_X6_setSpares : ec_cw yX6_setSpares cX6_setSpares 4 (some .int) := ⟨ec_in (i := 612) (by decide +kernel) rfl, ec_in (i := 63) (by decide +kernel) rfl, by decide, by decide⟩
theorem cv_X6_setSpares : Cond.instanceMethod yX6_setSpares ∈ ec_tb ∧ Cond.selects yX6_setSpares.cls yX6_setSpares yX6_setSpares ∈ ec_tb := ⟨ec_in (i := 610) (by decide +kernel) rfl, ec_in (i := 611) (by decide +kernel) rfl⟩
def ca_X6_setSpares : Nat → Option (Nat × Option Nat × ex_S) := fun ix => match ix with
  | 67 => some (1, none, sp_X6_isKind)
  | _ => none
theorem ck_X6_setSpares (l : Launch) : ∀ (ix n : Nat) (rc : Option Nat) (sp : ex_S), ca_X6_setSpares ix = some (n, rc, sp) → ex_cok l RX6 1 20 ix n rc sp := by
  intro ix n rc sp h
  unfold ca_X6_setSpares at h
  split at h
  · cases h; exact ec_cS (mt_X6_isKind l) cw_X6_isKind cv_X6_isKind (by decide) (by decide) (Or.inl (ec_in (i := 560) (by decide +kernel) rfl)) (by decide +kernel)
  · cases h
def cx_X6_setSpares : ex_K := (RX6, ec_fx fl_X6, ec_cx cl_X6, sl_X6, ca_X6_setSpares, ec_nz, ec_no)
theorem ok_X6_setSpares (l : Launch) : ex_ok l 1 20 cx_X6_setSpares := ⟨ec_fok fo_X6, ec_cok co_X6, so_X6, ck_X6_setSpares l, fun _ h => (by cases h), fun _ h => (by cases h), fun _ h => (by cases h), fun _ _ h => (by cases h)⟩
def sp_X6_setSpares : ex_S := ex_sp cx_X6_setSpares cX6_setSpares 4 (some .int) 27
theorem mt_X6_setSpares (l : Launch) : ex_Met l yX6_setSpares cX6_setSpares 4 (some .int) 1 20 sp_X6_setSpares := ex_inl (by decide) rfl (ok_X6_setSpares l)
theorem cw_X6_setSun : ec_cw yX6_setSun cX6_setSun 3 (some .int) := ⟨ec_in (i := 668) (by decide +kernel) rfl, ec_in (i := 63) (by decide +kernel) rfl, by decide, by decide⟩
theorem cv_X6_setSun : Cond.instanceMethod yX6_setSun ∈ ec_tb ∧ Cond.selects yX6_setSun.cls yX6_setSun yX6_setSun ∈ ec_tb := ⟨ec_in (i := 666) (by decide +kernel) rfl, ec_in (i := 667) (by decide +kernel) rfl⟩
def cx_X6_setSun : ex_K := (RX6, ec_fx fl_X6, ec_cx cl_X6, sl_X6, ec_no, al_X6, ec_no)
theorem ok_X6_setSun (l : Launch) : ex_ok l 1 21 cx_X6_setSun := ⟨ec_fok fo_X6, ec_cok co_X6, so_X6, fun _ _ _ _ h => (by cases h), am_X6 (by decide) (by decide), ax_X6, ao_X6, fun _ _ h => (by cases h)⟩
def sp_X6_setSun : ex_S := ex_sp cx_X6_setSun cX6_setSun 3 (some .int) 29
theorem mt_X6_setSun (l : Launch) : ex_Met l yX6_setSun cX6_setSun 3 (some .int) 1 21 sp_X6_setSun := ex_inl (by decide) rfl (ok_X6_setSun l)
theorem cw_X6_setBattery : ec_cw yX6_setBattery cX6_setBattery 3 (some .int) := ⟨ec_in (i := 679) (by decide +kernel) rfl, ec_in (i := 63) (by decide +kernel) rfl, by decide, by decide⟩
theorem cv_X6_setBattery : Cond.instanceMethod yX6_setBattery ∈ ec_tb ∧ Cond.selects yX6_setBattery.cls yX6_setBattery yX6_setBattery ∈ ec_tb := ⟨ec_in (i := 677) (by decide +kernel) rfl, ec_in (i := 678) (by decide +kernel) rfl⟩
def cx_X6_setBattery : ex_K := (RX6, ec_fx fl_X6, ec_cx cl_X6, sl_X6, ec_no, ec_nz, ec_no)
theorem ok_X6_setBattery (l : Launch) : ex_ok l 0 0 cx_X6_setBattery := ⟨ec_fok fo_X6, ec_cok co_X6, so_X6, fun _ _ _ _ h => (by cases h), fun _ h => (by cases h), fun _ h => (by cases h), fun _ h => (by cases h), fun _ _ h => (by cases h)⟩
def sp_X6_setBattery : ex_S := ex_sp cx_X6_setBattery cX6_setBattery 3 (some .int) 21
theorem mt_X6_setBattery (l : Launch) : ex_Met l yX6_setBattery cX6_setBattery 3 (some .int) 0 0 sp_X6_setBattery := ex_inl (by decide) rfl (ok_X6_setBattery l)
theorem cw_X6_isReady : ec_cw yX6_isReady cX6_isReady 2 (some .boolean) := ⟨ec_in (i := 650) (by decide +kernel) rfl, ec_in (i := 63) (by decide +kernel) rfl, by decide, by decide⟩
theorem cv_X6_isReady : Cond.instanceMethod yX6_isReady ∈ ec_tb ∧ Cond.selects yX6_isReady.cls yX6_isReady yX6_isReady ∈ ec_tb := ⟨ec_in (i := 649) (by decide +kernel) rfl, ec_in (i := 3) (by decide +kernel) rfl⟩
def cx_X6_isReady : ex_K := (RX6, ec_fx fl_X6, ec_cx cl_X6, sl_X6, ec_no, ec_nz, ec_no)
theorem ok_X6_isReady (l : Launch) : ex_ok l 0 0 cx_X6_isReady := ⟨ec_fok fo_X6, ec_cok co_X6, so_X6, fun _ _ _ _ h => (by cases h), fun _ h => (by cases h), fun _ h => (by cases h), fun _ h => (by cases h), fun _ _ h => (by cases h)⟩
def sp_X6_isReady : ex_S := ex_sp cx_X6_isReady cX6_isReady 2 (some .boolean) 15
theorem mt_X6_isReady (l : Launch) : ex_Met l yX6_isReady cX6_isReady 2 (some .boolean) 0 0 sp_X6_isReady := ex_inl (by decide) rfl (ok_X6_isReady l)
theorem cw_X6_sharePower : ec_cw yX6_sharePower cX6_sharePower 5 none := ⟨ec_in (i := 764) (by decide +kernel) rfl, ec_in (i := 63) (by decide +kernel) rfl, by decide, by decide⟩
theorem cv_X6_sharePower : Cond.instanceMethod yX6_sharePower ∈ ec_tb ∧ Cond.selects yX6_sharePower.cls yX6_sharePower yX6_sharePower ∈ ec_tb := ⟨ec_in (i := 762) (by decide +kernel) rfl, ec_in (i := 763) (by decide +kernel) rfl⟩
def ca_X6_sharePower : Nat → Option (Nat × Option Nat × ex_S) := fun ix => match ix with
  | 101 => some (2, some 6, sp_X6_isReady)
  | _ => none
theorem ck_X6_sharePower (l : Launch) : ∀ (ix n : Nat) (rc : Option Nat) (sp : ex_S), ca_X6_sharePower ix = some (n, rc, sp) → ex_cok l RX6 1 21 ix n rc sp := by
  intro ix n rc sp h
  unfold ca_X6_sharePower at h
  split at h
  · cases h; exact ec_cV (mt_X6_isReady l) cw_X6_isReady cv_X6_isReady (by decide) (by decide) (Or.inl (ec_in (i := 647) (by decide +kernel) rfl)) (T := TX6) (N := 15) rfl (by decide) (by decide +kernel)
  · cases h
def cx_X6_sharePower : ex_K := (RX6, ec_fx fl_X6, ec_cx cl_X6, sl_X6, ca_X6_sharePower, al_X6, ec_no)
theorem ok_X6_sharePower (l : Launch) : ex_ok l 1 21 cx_X6_sharePower := ⟨ec_fok fo_X6, ec_cok co_X6, so_X6, ck_X6_sharePower l, am_X6 (by decide) (by decide), ax_X6, ao_X6, fun _ _ h => (by cases h)⟩
def sp_X6_sharePower : ex_S := ex_sp cx_X6_sharePower cX6_sharePower 5 none 400
theorem mt_X6_sharePower (l : Launch) : ex_Met l yX6_sharePower cX6_sharePower 5 none 1 21 sp_X6_sharePower := ex_inl (by decide) rfl (ok_X6_sharePower l)
theorem cw_X6_split : ec_cw yX6_split cX6_split 5 none := ⟨ec_in (i := 785) (by decide +kernel) rfl, ec_in (i := 63) (by decide +kernel) rfl, by decide, by decide⟩
theorem cv_X6_split : Cond.instanceMethod yX6_split ∈ ec_tb ∧ Cond.selects yX6_split.cls yX6_split yX6_split ∈ ec_tb := ⟨ec_in (i := 784) (by decide +kernel) rfl, ec_in (i := 12) (by decide +kernel) rfl⟩
def ca_X6_split : Nat → Option (Nat × Option Nat × ex_S) := fun ix => match ix with
  | 128 => some (3, some 0, sp_X0_draw)
  | 108 => some (4, some 0, sp_X0_give)
  | 118 => some (3, some 0, sp_X0_fill)
  | _ => none
theorem ck_X6_split (l : Launch) : ∀ (ix n : Nat) (rc : Option Nat) (sp : ex_S), ca_X6_split ix = some (n, rc, sp) → ex_cok l RX6 2 44 ix n rc sp := by
  intro ix n rc sp h
  unfold ca_X6_split at h
  split at h
  · cases h; exact ec_cV (mt_X0_draw l) cw_X0_draw cv_X0_draw (by decide) (by decide) (Or.inl (ec_in (i := 786) (by decide +kernel) rfl)) (T := TX0) (N := 8) rfl (by decide) (by decide +kernel)
  · cases h; exact ec_cV (mt_X0_give l) cw_X0_give cv_X0_give (by decide) (by decide) (Or.inl (ec_in (i := 790) (by decide +kernel) rfl)) (T := TX0) (N := 8) rfl (by decide) (by decide +kernel)
  · cases h; exact ec_cV (mt_X0_fill l) cw_X0_fill cv_X0_fill (by decide) (by decide) (Or.inl (ec_in (i := 778) (by decide +kernel) rfl)) (T := TX0) (N := 8) rfl (by decide) (by decide +kernel)
  · cases h
def cx_X6_split : ex_K := (RX6, ec_fx fl_X6, ec_cx cl_X6, sl_X6, ca_X6_split, ec_nz, ec_no)
theorem ok_X6_split (l : Launch) : ex_ok l 2 44 cx_X6_split := ⟨ec_fok fo_X6, ec_cok co_X6, so_X6, ck_X6_split l, fun _ h => (by cases h), fun _ h => (by cases h), fun _ h => (by cases h), fun _ _ h => (by cases h)⟩
def sp_X6_split : ex_S := ex_sp cx_X6_split cX6_split 5 none 30
theorem mt_X6_split (l : Launch) : ex_Met l yX6_split cX6_split 5 none 2 44 sp_X6_split := ex_inl (by decide) rfl (ok_X6_split l)
theorem cw_X6_distil : ec_cw yX6_distil cX6_distil 5 none := ⟨ec_in (i := 797) (by decide +kernel) rfl, ec_in (i := 63) (by decide +kernel) rfl, by decide, by decide⟩
theorem cv_X6_distil : Cond.instanceMethod yX6_distil ∈ ec_tb ∧ Cond.selects yX6_distil.cls yX6_distil yX6_distil ∈ ec_tb := ⟨ec_in (i := 796) (by decide +kernel) rfl, ec_in (i := 13) (by decide +kernel) rfl⟩
def ca_X6_distil : Nat → Option (Nat × Option Nat × ex_S) := fun ix => match ix with
  | 128 => some (3, some 0, sp_X0_draw)
  | 118 => some (3, some 0, sp_X0_fill)
  | _ => none
theorem ck_X6_distil (l : Launch) : ∀ (ix n : Nat) (rc : Option Nat) (sp : ex_S), ca_X6_distil ix = some (n, rc, sp) → ex_cok l RX6 2 44 ix n rc sp := by
  intro ix n rc sp h
  unfold ca_X6_distil at h
  split at h
  · cases h; exact ec_cV (mt_X0_draw l) cw_X0_draw cv_X0_draw (by decide) (by decide) (Or.inl (ec_in (i := 786) (by decide +kernel) rfl)) (T := TX0) (N := 8) rfl (by decide) (by decide +kernel)
  · cases h; exact ec_cV (mt_X0_fill l) cw_X0_fill cv_X0_fill (by decide) (by decide) (Or.inl (ec_in (i := 778) (by decide +kernel) rfl)) (T := TX0) (N := 8) rfl (by decide) (by decide +kernel)
  · cases h
def cx_X6_distil : ex_K := (RX6, ec_fx fl_X6, ec_cx cl_X6, sl_X6, ca_X6_distil, ec_nz, ec_no)
theorem ok_X6_distil (l : Launch) : ex_ok l 2 44 cx_X6_distil := ⟨ec_fok fo_X6, ec_cok co_X6, so_X6, ck_X6_distil l, fun _ h => (by cases h), fun _ h => (by cases h), fun _ h => (by cases h), fun _ _ h => (by cases h)⟩
def sp_X6_distil : ex_S := ex_sp cx_X6_distil cX6_distil 5 none 26
theorem mt_X6_distil (l : Launch) : ex_Met l yX6_distil cX6_distil 5 none 2 44 sp_X6_distil := ex_inl (by decide) rfl (ok_X6_distil l)
theorem cw_X6_work : ec_cw yX6_work cX6_work 3 none := ⟨ec_in (i := 772) (by decide +kernel) rfl, ec_in (i := 63) (by decide +kernel) rfl, by decide, by decide⟩
theorem cv_X6_work : Cond.instanceMethod yX6_work ∈ ec_tb ∧ Cond.selects yX6_work.cls yX6_work yX6_work ∈ ec_tb := ⟨ec_in (i := 771) (by decide +kernel) rfl, ec_in (i := 11) (by decide +kernel) rfl⟩
def ca_X6_work : Nat → Option (Nat × Option Nat × ex_S) := fun ix => match ix with
  | 114 => some (4, some 0, sp_X0_take)
  | 118 => some (3, some 0, sp_X0_fill)
  | 122 => some (3, some 6, sp_X6_split)
  | 125 => some (3, some 6, sp_X6_distil)
  | _ => none
theorem ck_X6_work (l : Launch) : ∀ (ix n : Nat) (rc : Option Nat) (sp : ex_S), ca_X6_work ix = some (n, rc, sp) → ex_cok l RX6 3 68 ix n rc sp := by
  intro ix n rc sp h
  unfold ca_X6_work at h
  split at h
  · cases h; exact ec_cV (mt_X0_take l) cw_X0_take cv_X0_take (by decide) (by decide) (Or.inl (ec_in (i := 773) (by decide +kernel) rfl)) (T := TX0) (N := 8) rfl (by decide) (by decide +kernel)
  · cases h; exact ec_cV (mt_X0_fill l) cw_X0_fill cv_X0_fill (by decide) (by decide) (Or.inl (ec_in (i := 778) (by decide +kernel) rfl)) (T := TX0) (N := 8) rfl (by decide) (by decide +kernel)
  · cases h; exact ec_cV (mt_X6_split l) cw_X6_split cv_X6_split (by decide) (by decide) (Or.inl (ec_in (i := 782) (by decide +kernel) rfl)) (T := TX6) (N := 15) rfl (by decide) (by decide +kernel)
  · cases h; exact ec_cV (mt_X6_distil l) cw_X6_distil cv_X6_distil (by decide) (by decide) (Or.inl (ec_in (i := 794) (by decide +kernel) rfl)) (T := TX6) (N := 15) rfl (by decide) (by decide +kernel)
  · cases h
def cx_X6_work : ex_K := (RX6, ec_fx fl_X6, ec_cx cl_X6, sl_X6, ca_X6_work, ec_nz, ec_no)
theorem ok_X6_work (l : Launch) : ex_ok l 3 68 cx_X6_work := ⟨ec_fok fo_X6, ec_cok co_X6, so_X6, ck_X6_work l, fun _ h => (by cases h), fun _ h => (by cases h), fun _ h => (by cases h), fun _ _ h => (by cases h)⟩
def sp_X6_work : ex_S := ex_sp cx_X6_work cX6_work 3 none 64
theorem mt_X6_work (l : Launch) : ex_Met l yX6_work cX6_work 3 none 3 68 sp_X6_work := ex_inl (by decide) rfl (ok_X6_work l)
theorem cw_X6_workAll : ec_cw yX6_workAll cX6_workAll 3 none := ⟨ec_in (i := 768) (by decide +kernel) rfl, ec_in (i := 63) (by decide +kernel) rfl, by decide, by decide⟩
theorem cv_X6_workAll : Cond.instanceMethod yX6_workAll ∈ ec_tb ∧ Cond.selects yX6_workAll.cls yX6_workAll yX6_workAll ∈ ec_tb := ⟨ec_in (i := 766) (by decide +kernel) rfl, ec_in (i := 767) (by decide +kernel) rfl⟩
def ca_X6_workAll : Nat → Option (Nat × Option Nat × ex_S) := fun ix => match ix with
  | 104 => some (3, some 6, sp_X6_work)
  | 108 => some (4, some 0, sp_X0_give)
  | _ => none
theorem ck_X6_workAll (l : Launch) : ∀ (ix n : Nat) (rc : Option Nat) (sp : ex_S), ca_X6_workAll ix = some (n, rc, sp) → ex_cok l RX6 4 90 ix n rc sp := by
  intro ix n rc sp h
  unfold ca_X6_workAll at h
  split at h
  · cases h; exact ec_cV (mt_X6_work l) cw_X6_work cv_X6_work (by decide) (by decide) (Or.inl (ec_in (i := 769) (by decide +kernel) rfl)) (T := TX6) (N := 15) rfl (by decide) (by decide +kernel)
  · cases h; exact ec_cV (mt_X0_give l) cw_X0_give cv_X0_give (by decide) (by decide) (Or.inl (ec_in (i := 790) (by decide +kernel) rfl)) (T := TX0) (N := 8) rfl (by decide) (by decide +kernel)
  · cases h
def cx_X6_workAll : ex_K := (RX6, ec_fx fl_X6, ec_cx cl_X6, sl_X6, ca_X6_workAll, ec_nz, ec_no)
theorem ok_X6_workAll (l : Launch) : ex_ok l 4 90 cx_X6_workAll := ⟨ec_fok fo_X6, ec_cok co_X6, so_X6, ck_X6_workAll l, fun _ h => (by cases h), fun _ h => (by cases h), fun _ h => (by cases h), fun _ _ h => (by cases h)⟩
def sp_X6_workAll : ex_S := ex_sp cx_X6_workAll cX6_workAll 3 none 400
theorem mt_X6_workAll (l : Launch) : ex_Met l yX6_workAll cX6_workAll 3 none 4 90 sp_X6_workAll := ex_inl (by decide) rfl (ok_X6_workAll l)
theorem cw_X6_readySet : ec_cw yX6_readySet cX6_readySet 3 (some .int) := ⟨ec_in (i := 646) (by decide +kernel) rfl, ec_in (i := 63) (by decide +kernel) rfl, by decide, by decide⟩
theorem cv_X6_readySet : Cond.instanceMethod yX6_readySet ∈ ec_tb ∧ Cond.selects yX6_readySet.cls yX6_readySet yX6_readySet ∈ ec_tb := ⟨ec_in (i := 645) (by decide +kernel) rfl, ec_in (i := 2) (by decide +kernel) rfl⟩
def ca_X6_readySet : Nat → Option (Nat × Option Nat × ex_S) := fun ix => match ix with
  | 101 => some (2, some 6, sp_X6_isReady)
  | _ => none
theorem ck_X6_readySet (l : Launch) : ∀ (ix n : Nat) (rc : Option Nat) (sp : ex_S), ca_X6_readySet ix = some (n, rc, sp) → ex_cok l RX6 1 21 ix n rc sp := by
  intro ix n rc sp h
  unfold ca_X6_readySet at h
  split at h
  · cases h; exact ec_cV (mt_X6_isReady l) cw_X6_isReady cv_X6_isReady (by decide) (by decide) (Or.inl (ec_in (i := 647) (by decide +kernel) rfl)) (T := TX6) (N := 15) rfl (by decide) (by decide +kernel)
  · cases h
def cx_X6_readySet : ex_K := (RX6, ec_fx fl_X6, ec_cx cl_X6, sl_X6, ca_X6_readySet, ec_nz, ec_no)
theorem ok_X6_readySet (l : Launch) : ex_ok l 1 21 cx_X6_readySet := ⟨ec_fok fo_X6, ec_cok co_X6, so_X6, ck_X6_readySet l, fun _ h => (by cases h), fun _ h => (by cases h), fun _ h => (by cases h), fun _ _ h => (by cases h)⟩
def sp_X6_readySet : ex_S := ex_sp cx_X6_readySet cX6_readySet 3 (some .int) 400
theorem mt_X6_readySet (l : Launch) : ex_Met l yX6_readySet cX6_readySet 3 (some .int) 1 21 sp_X6_readySet := ex_inl (by decide) rfl (ok_X6_readySet l)
theorem cw_X6_sumOver : ec_cw yX6_sumOver cX6_sumOver 5 (some .int) := ⟨ec_in (i := 654) (by decide +kernel) rfl, ec_in (i := 63) (by decide +kernel) rfl, by decide, by decide⟩
theorem cv_X6_sumOver : Cond.instanceMethod yX6_sumOver ∈ ec_tb ∧ Cond.selects yX6_sumOver.cls yX6_sumOver yX6_sumOver ∈ ec_tb := ⟨ec_in (i := 653) (by decide +kernel) rfl, ec_in (i := 4) (by decide +kernel) rfl⟩
def cx_X6_sumOver : ex_K := (RX6, ec_fx fl_X6, ec_cx cl_X6, sl_X6, ec_no, ec_nz, ec_no)
theorem ok_X6_sumOver (l : Launch) : ex_ok l 0 0 cx_X6_sumOver := ⟨ec_fok fo_X6, ec_cok co_X6, so_X6, fun _ _ _ _ h => (by cases h), fun _ h => (by cases h), fun _ h => (by cases h), fun _ h => (by cases h), fun _ _ h => (by cases h)⟩
def sp_X6_sumOver : ex_S := ex_sp cx_X6_sumOver cX6_sumOver 5 (some .int) 400
theorem mt_X6_sumOver (l : Launch) : ex_Met l yX6_sumOver cX6_sumOver 5 (some .int) 0 0 sp_X6_sumOver := ex_inl (by decide) rfl (ok_X6_sumOver l)
theorem cw_X6_leastHarm : ec_cw yX6_leastHarm cX6_leastHarm 8 (some .int) := ⟨ec_in (i := 642) (by decide +kernel) rfl, ec_in (i := 63) (by decide +kernel) rfl, by decide, by decide⟩
theorem cv_X6_leastHarm : Cond.instanceMethod yX6_leastHarm ∈ ec_tb ∧ Cond.selects yX6_leastHarm.cls yX6_leastHarm yX6_leastHarm ∈ ec_tb := ⟨ec_in (i := 641) (by decide +kernel) rfl, ec_in (i := 1) (by decide +kernel) rfl⟩
def ca_X6_leastHarm : Nat → Option (Nat × Option Nat × ex_S) := fun ix => match ix with
  | 139 => some (1, some 6, sp_X6_readySet)
  | 135 => some (3, some 6, sp_X6_sumOver)
  | 143 => some (1, none, sp_J6_bitCount_0f7a4)
  | _ => none
theorem ck_X6_leastHarm (l : Launch) : ∀ (ix n : Nat) (rc : Option Nat) (sp : ex_S), ca_X6_leastHarm ix = some (n, rc, sp) → ex_cok l RX6 2 43 ix n rc sp := by
  intro ix n rc sp h
  unfold ca_X6_leastHarm at h
  split at h
  · cases h; exact ec_cV (mt_X6_readySet l) cw_X6_readySet cv_X6_readySet (by decide) (by decide) (Or.inl (ec_in (i := 643) (by decide +kernel) rfl)) (T := TX6) (N := 15) rfl (by decide) (by decide +kernel)
  · cases h; exact ec_cV (mt_X6_sumOver l) cw_X6_sumOver cv_X6_sumOver (by decide) (by decide) (Or.inl (ec_in (i := 651) (by decide +kernel) rfl)) (T := TX6) (N := 15) rfl (by decide) (by decide +kernel)
  · cases h; exact ec_cS (mt_J6_bitCount_0f7a4 l) cw_J6_bitCount_0f7a4 cv_J6_bitCount_0f7a4 (by decide) (by decide) (Or.inl (ec_in (i := 655) (by decide +kernel) rfl)) (by decide +kernel)
  · cases h
def cx_X6_leastHarm : ex_K := (RX6, ec_fx fl_X6, ec_cx cl_X6, sl_X6, ca_X6_leastHarm, ec_nz, ec_no)
theorem ok_X6_leastHarm (l : Launch) : ex_ok l 2 43 cx_X6_leastHarm := ⟨ec_fok fo_X6, ec_cok co_X6, so_X6, ck_X6_leastHarm l, fun _ h => (by cases h), fun _ h => (by cases h), fun _ h => (by cases h), fun _ _ h => (by cases h)⟩
def sp_X6_leastHarm : ex_S := ex_sp cx_X6_leastHarm cX6_leastHarm 8 (some .int) 400
theorem mt_X6_leastHarm (l : Launch) : ex_Met l yX6_leastHarm cX6_leastHarm 8 (some .int) 2 43 sp_X6_leastHarm := ex_inl (by decide) rfl (ok_X6_leastHarm l)
theorem cw_X6_shedding : ec_cw yX6_shedding cX6_shedding 3 (some .int) := ⟨ec_in (i := 638) (by decide +kernel) rfl, ec_in (i := 63) (by decide +kernel) rfl, by decide, by decide⟩
theorem cv_X6_shedding : Cond.instanceMethod yX6_shedding ∈ ec_tb ∧ Cond.selects yX6_shedding.cls yX6_shedding yX6_shedding ∈ ec_tb := ⟨ec_in (i := 636) (by decide +kernel) rfl, ec_in (i := 637) (by decide +kernel) rfl⟩
def ca_X6_shedding : Nat → Option (Nat × Option Nat × ex_S) := fun ix => match ix with
  | 131 => some (2, some 6, sp_X6_leastHarm)
  | 135 => some (3, some 6, sp_X6_sumOver)
  | 139 => some (1, some 6, sp_X6_readySet)
  | _ => none
theorem ck_X6_shedding (l : Launch) : ∀ (ix n : Nat) (rc : Option Nat) (sp : ex_S), ca_X6_shedding ix = some (n, rc, sp) → ex_cok l RX6 3 70 ix n rc sp := by
  intro ix n rc sp h
  unfold ca_X6_shedding at h
  split at h
  · cases h; exact ec_cV (mt_X6_leastHarm l) cw_X6_leastHarm cv_X6_leastHarm (by decide) (by decide) (Or.inl (ec_in (i := 639) (by decide +kernel) rfl)) (T := TX6) (N := 15) rfl (by decide) (by decide +kernel)
  · cases h; exact ec_cV (mt_X6_sumOver l) cw_X6_sumOver cv_X6_sumOver (by decide) (by decide) (Or.inl (ec_in (i := 651) (by decide +kernel) rfl)) (T := TX6) (N := 15) rfl (by decide) (by decide +kernel)
  · cases h; exact ec_cV (mt_X6_readySet l) cw_X6_readySet cv_X6_readySet (by decide) (by decide) (Or.inl (ec_in (i := 643) (by decide +kernel) rfl)) (T := TX6) (N := 15) rfl (by decide) (by decide +kernel)
  · cases h
def cx_X6_shedding : ex_K := (RX6, ec_fx fl_X6, ec_cx cl_X6, sl_X6, ca_X6_shedding, ec_nz, ec_no)
theorem ok_X6_shedding (l : Launch) : ex_ok l 3 70 cx_X6_shedding := ⟨ec_fok fo_X6, ec_cok co_X6, so_X6, ck_X6_shedding l, fun _ h => (by cases h), fun _ h => (by cases h), fun _ h => (by cases h), fun _ _ h => (by cases h)⟩
def sp_X6_shedding : ex_S := ex_sp cx_X6_shedding cX6_shedding 3 (some .int) 37
theorem mt_X6_shedding (l : Launch) : ex_Met l yX6_shedding cX6_shedding 3 (some .int) 3 70 sp_X6_shedding := ex_inl (by decide) rfl (ok_X6_shedding l)
theorem cw_X7_has : ec_cw yX7_has cX7_has 2 (some .boolean) := ⟨ec_in (i := 709) (by decide +kernel) rfl, ec_in (i := 59) (by decide +kernel) rfl, by decide, by decide⟩
theorem cv_X7_has : Cond.instanceMethod yX7_has ∈ ec_tb ∧ Cond.selects yX7_has.cls yX7_has yX7_has ∈ ec_tb := ⟨ec_in (i := 707) (by decide +kernel) rfl, ec_in (i := 708) (by decide +kernel) rfl⟩
def cx_X7_has : ex_K := (RX7, ec_fx fl_X7, ec_cx cl_X7, sl_X7, ec_no, ec_nz, ec_no)
theorem ok_X7_has (l : Launch) : ex_ok l 0 0 cx_X7_has := ⟨ec_fok fo_X7, ec_cok co_X7, so_X7, fun _ _ _ _ h => (by cases h), fun _ h => (by cases h), fun _ h => (by cases h), fun _ h => (by cases h), fun _ _ h => (by cases h)⟩
def sp_X7_has : ex_S := ex_sp cx_X7_has cX7_has 2 (some .boolean) 11
theorem mt_X7_has (l : Launch) : ex_Met l yX7_has cX7_has 2 (some .boolean) 0 0 sp_X7_has := ex_inl (by decide) rfl (ok_X7_has l)
theorem cw_X7_addLine : ec_cw yX7_addLine cX7_addLine 5 (some .int) := ⟨ec_in (i := 909) (by decide +kernel) rfl, ec_in (i := 59) (by decide +kernel) rfl, by decide, by decide⟩
theorem cv_X7_addLine : Cond.instanceMethod yX7_addLine ∈ ec_tb ∧ Cond.selects yX7_addLine.cls yX7_addLine yX7_addLine ∈ ec_tb := ⟨ec_in (i := 907) (by decide +kernel) rfl, ec_in (i := 908) (by decide +kernel) rfl⟩
def cx_X7_addLine : ex_K := (RX7, ec_fx fl_X7, ec_cx cl_X7, sl_X7, ec_no, ec_nz, ec_no)
theorem ok_X7_addLine (l : Launch) : ex_ok l 0 0 cx_X7_addLine := ⟨ec_fok fo_X7, ec_cok co_X7, so_X7, fun _ _ _ _ h => (by cases h), fun _ h => (by cases h), fun _ h => (by cases h), fun _ h => (by cases h), fun _ _ h => (by cases h)⟩
def sp_X7_addLine : ex_S := ex_sp cx_X7_addLine cX7_addLine 5 (some .int) 42
theorem mt_X7_addLine (l : Launch) : ex_Met l yX7_addLine cX7_addLine 5 (some .int) 0 0 sp_X7_addLine := ex_inl (by decide) rfl (ok_X7_addLine l)
theorem cw_X8_becomeLike : ec_cw yX8_becomeLike cX8_becomeLike 2 none := ⟨ec_in (i := 867) (by decide +kernel) rfl, ec_in (i := 60) (by decide +kernel) rfl, by decide, by decide⟩
theorem cv_X8_becomeLike : Cond.instanceMethod yX8_becomeLike ∈ ec_tb ∧ Cond.selects yX8_becomeLike.cls yX8_becomeLike yX8_becomeLike ∈ ec_tb := ⟨ec_in (i := 865) (by decide +kernel) rfl, ec_in (i := 866) (by decide +kernel) rfl⟩
def ca_X8_becomeLike : Nat → Option (Nat × Option Nat × ex_S) := fun ix => match ix with
  | 50 => some (2, some 0, sp_X0_becomeLike)
  | 54 => some (2, some 3, sp_X3_becomeLike)
  | 57 => some (2, some 6, sp_X6_becomeLike)
  | 60 => some (2, some 1, sp_X1_becomeLike)
  | 63 => some (2, some 2, sp_X2_becomeLike)
  | _ => none
theorem ck_X8_becomeLike (l : Launch) : ∀ (ix n : Nat) (rc : Option Nat) (sp : ex_S), ca_X8_becomeLike ix = some (n, rc, sp) → ex_cok l RX8 3 68 ix n rc sp := by
  intro ix n rc sp h
  unfold ca_X8_becomeLike at h
  split at h
  · cases h; exact ec_cV (mt_X0_becomeLike l) cw_X0_becomeLike cv_X0_becomeLike (by decide) (by decide) (Or.inl (ec_in (i := 868) (by decide +kernel) rfl)) (T := TX0) (N := 8) rfl (by decide) (by decide +kernel)
  · cases h; exact ec_cV (mt_X3_becomeLike l) cw_X3_becomeLike cv_X3_becomeLike (by decide) (by decide) (Or.inl (ec_in (i := 882) (by decide +kernel) rfl)) (T := TX3) (N := 7) rfl (by decide) (by decide +kernel)
  · cases h; exact ec_cV (mt_X6_becomeLike l) cw_X6_becomeLike cv_X6_becomeLike (by decide) (by decide) (Or.inl (ec_in (i := 887) (by decide +kernel) rfl)) (T := TX6) (N := 15) rfl (by decide) (by decide +kernel)
  · cases h; exact ec_cV (mt_X1_becomeLike l) cw_X1_becomeLike cv_X1_becomeLike (by decide) (by decide) (Or.inl (ec_in (i := 893) (by decide +kernel) rfl)) (T := TX1) (N := 6) rfl (by decide) (by decide +kernel)
  · cases h; exact ec_cV (mt_X2_becomeLike l) cw_X2_becomeLike cv_X2_becomeLike (by decide) (by decide) (Or.inl (ec_in (i := 897) (by decide +kernel) rfl)) (T := TX2) (N := 7) rfl (by decide) (by decide +kernel)
  · cases h
def cx_X8_becomeLike : ex_K := (RX8, ec_fx fl_X8, ec_cx cl_X8, sl_X8, ca_X8_becomeLike, ec_nz, ec_no)
theorem ok_X8_becomeLike (l : Launch) : ex_ok l 3 68 cx_X8_becomeLike := ⟨ec_fok fo_X8, ec_cok co_X8, so_X8, ck_X8_becomeLike l, fun _ h => (by cases h), fun _ h => (by cases h), fun _ h => (by cases h), fun _ _ h => (by cases h)⟩
def sp_X8_becomeLike : ex_S := ex_sp cx_X8_becomeLike cX8_becomeLike 2 none 31
theorem mt_X8_becomeLike (l : Launch) : ex_Met l yX8_becomeLike cX8_becomeLike 2 none 3 68 sp_X8_becomeLike := ex_inl (by decide) rfl (ok_X8_becomeLike l)
theorem cw_X8_isCheck : ec_cw yX8_isCheck cX8_isCheck 4 (some .boolean) := ⟨ec_in (i := 725) (by decide +kernel) rfl, ec_in (i := 60) (by decide +kernel) rfl, by decide, by decide⟩
theorem cv_X8_isCheck : Cond.instanceMethod yX8_isCheck ∈ ec_tb ∧ Cond.selects yX8_isCheck.cls yX8_isCheck yX8_isCheck ∈ ec_tb := ⟨ec_in (i := 724) (by decide +kernel) rfl, ec_in (i := 8) (by decide +kernel) rfl⟩
def ca_X8_isCheck : Nat → Option (Nat × Option Nat × ex_S) := fun ix => match ix with
  | 116 => some (2, some 6, sp_X6_has)
  | 208 => some (1, none, sp_X0_isSort)
  | 100 => some (2, some 0, sp_X0_hasModule)
  | _ => none
theorem ck_X8_isCheck (l : Launch) : ∀ (ix n : Nat) (rc : Option Nat) (sp : ex_S), ca_X8_isCheck ix = some (n, rc, sp) → ex_cok l RX8 1 21 ix n rc sp := by
  intro ix n rc sp h
  unfold ca_X8_isCheck at h
  split at h
  · cases h; exact ec_cV (mt_X6_has l) cw_X6_has cv_X6_has (by decide) (by decide) (Or.inl (ec_in (i := 621) (by decide +kernel) rfl)) (T := TX6) (N := 15) rfl (by decide) (by decide +kernel)
  · cases h; exact ec_cS (mt_X0_isSort l) cw_X0_isSort cv_X0_isSort (by decide) (by decide) (Or.inl (ec_in (i := 726) (by decide +kernel) rfl)) (by decide +kernel)
  · cases h; exact ec_cV (mt_X0_hasModule l) cw_X0_hasModule cv_X0_hasModule (by decide) (by decide) (Or.inl (ec_in (i := 521) (by decide +kernel) rfl)) (T := TX0) (N := 8) rfl (by decide) (by decide +kernel)
  · cases h
def cx_X8_isCheck : ex_K := (RX8, ec_fx fl_X8, ec_cx cl_X8, sl_X8, ca_X8_isCheck, ec_nz, ec_no)
theorem ok_X8_isCheck (l : Launch) : ex_ok l 1 21 cx_X8_isCheck := ⟨ec_fok fo_X8, ec_cok co_X8, so_X8, ck_X8_isCheck l, fun _ h => (by cases h), fun _ h => (by cases h), fun _ h => (by cases h), fun _ _ h => (by cases h)⟩
def sp_X8_isCheck : ex_S := ex_sp cx_X8_isCheck cX8_isCheck 4 (some .boolean) 37
theorem mt_X8_isCheck (l : Launch) : ex_Met l yX8_isCheck cX8_isCheck 4 (some .boolean) 1 21 sp_X8_isCheck := ex_inl (by decide) rfl (ok_X8_isCheck l)
theorem cw_X8_holds : ec_cw yX8_holds cX8_holds 4 (some .boolean) := ⟨ec_in (i := 730) (by decide +kernel) rfl, ec_in (i := 60) (by decide +kernel) rfl, by decide, by decide⟩
theorem cv_X8_holds : Cond.instanceMethod yX8_holds ∈ ec_tb ∧ Cond.selects yX8_holds.cls yX8_holds yX8_holds ∈ ec_tb := ⟨ec_in (i := 729) (by decide +kernel) rfl, ec_in (i := 9) (by decide +kernel) rfl⟩
def ca_X8_holds : Nat → Option (Nat × Option Nat × ex_S) := fun ix => match ix with
  | 217 => some (3, some 0, sp_X0_amount)
  | _ => none
theorem ck_X8_holds (l : Launch) : ∀ (ix n : Nat) (rc : Option Nat) (sp : ex_S), ca_X8_holds ix = some (n, rc, sp) → ex_cok l RX8 1 22 ix n rc sp := by
  intro ix n rc sp h
  unfold ca_X8_holds at h
  split at h
  · cases h; exact ec_cV (mt_X0_amount l) cw_X0_amount cv_X0_amount (by decide) (by decide) (Or.inl (ec_in (i := 731) (by decide +kernel) rfl)) (T := TX0) (N := 8) rfl (by decide) (by decide +kernel)
  · cases h
def cx_X8_holds : ex_K := (RX8, ec_fx fl_X8, ec_cx cl_X8, sl_X8, ca_X8_holds, ec_nz, ec_no)
theorem ok_X8_holds (l : Launch) : ex_ok l 1 22 cx_X8_holds := ⟨ec_fok fo_X8, ec_cok co_X8, so_X8, ck_X8_holds l, fun _ h => (by cases h), fun _ h => (by cases h), fun _ h => (by cases h), fun _ _ h => (by cases h)⟩
def sp_X8_holds : ex_S := ex_sp cx_X8_holds cX8_holds 4 (some .boolean) 44
theorem mt_X8_holds (l : Launch) : ex_Met l yX8_holds cX8_holds 4 (some .boolean) 1 22 sp_X8_holds := ex_inl (by decide) rfl (ok_X8_holds l)
theorem cw_X8_lineAfterCheck : ec_cw yX8_lineAfterCheck cX8_lineAfterCheck 6 (some .int) := ⟨ec_in (i := 721) (by decide +kernel) rfl, ec_in (i := 60) (by decide +kernel) rfl, by decide, by decide⟩
theorem cv_X8_lineAfterCheck : Cond.instanceMethod yX8_lineAfterCheck ∈ ec_tb ∧ Cond.selects yX8_lineAfterCheck.cls yX8_lineAfterCheck yX8_lineAfterCheck ∈ ec_tb := ⟨ec_in (i := 720) (by decide +kernel) rfl, ec_in (i := 7) (by decide +kernel) rfl⟩
def ca_X8_lineAfterCheck : Nat → Option (Nat × Option Nat × ex_S) := fun ix => match ix with
  | 149 => some (2, some 7, sp_X7_has)
  | 201 => some (4, some 8, sp_X8_isCheck)
  | 205 => some (4, some 8, sp_X8_holds)
  | _ => none
theorem ck_X8_lineAfterCheck (l : Launch) : ∀ (ix n : Nat) (rc : Option Nat) (sp : ex_S), ca_X8_lineAfterCheck ix = some (n, rc, sp) → ex_cok l RX8 2 45 ix n rc sp := by
  intro ix n rc sp h
  unfold ca_X8_lineAfterCheck at h
  split at h
  · cases h; exact ec_cV (mt_X7_has l) cw_X7_has cv_X7_has (by decide) (by decide) (Or.inl (ec_in (i := 706) (by decide +kernel) rfl)) (T := TX7) (N := 5) rfl (by decide) (by decide +kernel)
  · cases h; exact ec_cV (mt_X8_isCheck l) cw_X8_isCheck cv_X8_isCheck (by decide) (by decide) (Or.inl (ec_in (i := 722) (by decide +kernel) rfl)) (T := TX8) (N := 7) rfl (by decide) (by decide +kernel)
  · cases h; exact ec_cV (mt_X8_holds l) cw_X8_holds cv_X8_holds (by decide) (by decide) (Or.inl (ec_in (i := 727) (by decide +kernel) rfl)) (T := TX8) (N := 7) rfl (by decide) (by decide +kernel)
  · cases h
def cx_X8_lineAfterCheck : ex_K := (RX8, ec_fx fl_X8, ec_cx cl_X8, sl_X8, ca_X8_lineAfterCheck, ec_nz, ec_no)
theorem ok_X8_lineAfterCheck (l : Launch) : ex_ok l 2 45 cx_X8_lineAfterCheck := ⟨ec_fok fo_X8, ec_cok co_X8, so_X8, ck_X8_lineAfterCheck l, fun _ h => (by cases h), fun _ h => (by cases h), fun _ h => (by cases h), fun _ _ h => (by cases h)⟩
def sp_X8_lineAfterCheck : ex_S := ex_sp cx_X8_lineAfterCheck cX8_lineAfterCheck 6 (some .int) 54
theorem mt_X8_lineAfterCheck (l : Launch) : ex_Met l yX8_lineAfterCheck cX8_lineAfterCheck 6 (some .int) 2 45 sp_X8_lineAfterCheck := ex_inl (by decide) rfl (ok_X8_lineAfterCheck l)
theorem cw_X8_walk : ec_cw yX8_walk cX8_walk 3 (some .int) := ⟨ec_in (i := 516) (by decide +kernel) rfl, ec_in (i := 60) (by decide +kernel) rfl, by decide, by decide⟩
theorem cv_X8_walk : Cond.instanceMethod yX8_walk ∈ ec_tb ∧ Cond.selects yX8_walk.cls yX8_walk yX8_walk ∈ ec_tb := ⟨ec_in (i := 514) (by decide +kernel) rfl, ec_in (i := 515) (by decide +kernel) rfl⟩
def ca_X8_walk : Nat → Option (Nat × Option Nat × ex_S) := fun ix => match ix with
  | 96 => some (2, some 3, sp_X3_has)
  | 100 => some (2, some 0, sp_X0_hasModule)
  | 104 => some (2, some 3, sp_X3_mends)
  | 111 => some (3, some 0, sp_X0_openBetween)
  | _ => none
theorem ck_X8_walk (l : Launch) : ∀ (ix n : Nat) (rc : Option Nat) (sp : ex_S), ca_X8_walk ix = some (n, rc, sp) → ex_cok l RX8 1 24 ix n rc sp := by
  intro ix n rc sp h
  unfold ca_X8_walk at h
  split at h
  · cases h; exact ec_cV (mt_X3_has l) cw_X3_has cv_X3_has (by decide) (by decide) (Or.inl (ec_in (i := 517) (by decide +kernel) rfl)) (T := TX3) (N := 7) rfl (by decide) (by decide +kernel)
  · cases h; exact ec_cV (mt_X0_hasModule l) cw_X0_hasModule cv_X0_hasModule (by decide) (by decide) (Or.inl (ec_in (i := 521) (by decide +kernel) rfl)) (T := TX0) (N := 8) rfl (by decide) (by decide +kernel)
  · cases h; exact ec_cV (mt_X3_mends l) cw_X3_mends cv_X3_mends (by decide) (by decide) (Or.inl (ec_in (i := 523) (by decide +kernel) rfl)) (T := TX3) (N := 7) rfl (by decide) (by decide +kernel)
  · cases h; exact ec_cV (mt_X0_openBetween l) cw_X0_openBetween cv_X0_openBetween (by decide) (by decide) (Or.inl (ec_in (i := 527) (by decide +kernel) rfl)) (T := TX0) (N := 8) rfl (by decide) (by decide +kernel)
  · cases h
def cx_X8_walk : ex_K := (RX8, ec_fx fl_X8, ec_cx cl_X8, sl_X8, ca_X8_walk, ec_nz, ec_no)
theorem ok_X8_walk (l : Launch) : ex_ok l 1 24 cx_X8_walk := ⟨ec_fok fo_X8, ec_cok co_X8, so_X8, ck_X8_walk l, fun _ h => (by cases h), fun _ h => (by cases h), fun _ h => (by cases h), fun _ _ h => (by cases h)⟩
def sp_X8_walk : ex_S := ex_sp cx_X8_walk cX8_walk 3 (some .int) 45
theorem mt_X8_walk (l : Launch) : ex_Met l yX8_walk cX8_walk 3 (some .int) 1 24 sp_X8_walk := ex_inl (by decide) rfl (ok_X8_walk l)
theorem cw_X8_mend : ec_cw yX8_mend cX8_mend 5 (some .int) := ⟨ec_in (i := 620) (by decide +kernel) rfl, ec_in (i := 60) (by decide +kernel) rfl, by decide, by decide⟩
theorem cv_X8_mend : Cond.instanceMethod yX8_mend ∈ ec_tb ∧ Cond.selects yX8_mend.cls yX8_mend yX8_mend ∈ ec_tb := ⟨ec_in (i := 618) (by decide +kernel) rfl, ec_in (i := 619) (by decide +kernel) rfl⟩
def ca_X8_mend : Nat → Option (Nat × Option Nat × ex_S) := fun ix => match ix with
  | 96 => some (2, some 3, sp_X3_has)
  | 116 => some (2, some 6, sp_X6_has)
  | 121 => some (2, some 3, sp_X3_isMended)
  | 104 => some (2, some 3, sp_X3_mends)
  | 132 => some (4, some 3, sp_X3_startMending)
  | _ => none
theorem ck_X8_mend (l : Launch) : ∀ (ix n : Nat) (rc : Option Nat) (sp : ex_S), ca_X8_mend ix = some (n, rc, sp) → ex_cok l RX8 1 23 ix n rc sp := by
  intro ix n rc sp h
  unfold ca_X8_mend at h
  split at h
  · cases h; exact ec_cV (mt_X3_has l) cw_X3_has cv_X3_has (by decide) (by decide) (Or.inl (ec_in (i := 517) (by decide +kernel) rfl)) (T := TX3) (N := 7) rfl (by decide) (by decide +kernel)
  · cases h; exact ec_cV (mt_X6_has l) cw_X6_has cv_X6_has (by decide) (by decide) (Or.inl (ec_in (i := 621) (by decide +kernel) rfl)) (T := TX6) (N := 15) rfl (by decide) (by decide +kernel)
  · cases h; exact ec_cV (mt_X3_isMended l) cw_X3_isMended cv_X3_isMended (by decide) (by decide) (Or.inl (ec_in (i := 622) (by decide +kernel) rfl)) (T := TX3) (N := 7) rfl (by decide) (by decide +kernel)
  · cases h; exact ec_cV (mt_X3_mends l) cw_X3_mends cv_X3_mends (by decide) (by decide) (Or.inl (ec_in (i := 523) (by decide +kernel) rfl)) (T := TX3) (N := 7) rfl (by decide) (by decide +kernel)
  · cases h; exact ec_cV (mt_X3_startMending l) cw_X3_startMending cv_X3_startMending (by decide) (by decide) (Or.inl (ec_in (i := 627) (by decide +kernel) rfl)) (T := TX3) (N := 7) rfl (by decide) (by decide +kernel)
  · cases h
def cx_X8_mend : ex_K := (RX8, ec_fx fl_X8, ec_cx cl_X8, sl_X8, ca_X8_mend, ec_nz, ec_no)
theorem ok_X8_mend (l : Launch) : ex_ok l 1 23 cx_X8_mend := ⟨ec_fok fo_X8, ec_cok co_X8, so_X8, ck_X8_mend l, fun _ h => (by cases h), fun _ h => (by cases h), fun _ h => (by cases h), fun _ _ h => (by cases h)⟩
def sp_X8_mend : ex_S := ex_sp cx_X8_mend cX8_mend 5 (some .int) 84
theorem mt_X8_mend (l : Launch) : ex_Met l yX8_mend cX8_mend 5 (some .int) 1 23 sp_X8_mend := ex_inl (by decide) rfl (ok_X8_mend l)
theorem cw_X8_actByText : ec_cw yX8_actByText cX8_actByText 4 (some .int) := ⟨ec_in (i := 738) (by decide +kernel) rfl, ec_in (i := 60) (by decide +kernel) rfl, by decide, by decide⟩
theorem cv_X8_actByText : Cond.instanceMethod yX8_actByText ∈ ec_tb ∧ Cond.selects yX8_actByText.cls yX8_actByText yX8_actByText ∈ ec_tb := ⟨ec_in (i := 737) (by decide +kernel) rfl, ec_in (i := 10) (by decide +kernel) rfl⟩
def ca_X8_actByText : Nat → Option (Nat × Option Nat × ex_S) := fun ix => match ix with
  | 184 => some (3, some 6, sp_X6_setOn)
  | 188 => some (3, some 0, sp_X0_setOpen)
  | 191 => some (3, some 8, sp_X8_walk)
  | 197 => some (4, some 8, sp_X8_mend)
  | _ => none
theorem ck_X8_actByText (l : Launch) : ∀ (ix n : Nat) (rc : Option Nat) (sp : ex_S), ca_X8_actByText ix = some (n, rc, sp) → ex_cok l RX8 2 47 ix n rc sp := by
  intro ix n rc sp h
  unfold ca_X8_actByText at h
  split at h
  · cases h; exact ec_cV (mt_X6_setOn l) cw_X6_setOn cv_X6_setOn (by decide) (by decide) (Or.inl (ec_in (i := 739) (by decide +kernel) rfl)) (T := TX6) (N := 15) rfl (by decide) (by decide +kernel)
  · cases h; exact ec_cV (mt_X0_setOpen l) cw_X0_setOpen cv_X0_setOpen (by decide) (by decide) (Or.inl (ec_in (i := 740) (by decide +kernel) rfl)) (T := TX0) (N := 8) rfl (by decide) (by decide +kernel)
  · cases h; exact ec_cV (mt_X8_walk l) cw_X8_walk cv_X8_walk (by decide) (by decide) (Or.inl (ec_in (i := 741) (by decide +kernel) rfl)) (T := TX8) (N := 7) rfl (by decide) (by decide +kernel)
  · cases h; exact ec_cV (mt_X8_mend l) cw_X8_mend cv_X8_mend (by decide) (by decide) (Or.inl (ec_in (i := 742) (by decide +kernel) rfl)) (T := TX8) (N := 7) rfl (by decide) (by decide +kernel)
  · cases h
def cx_X8_actByText : ex_K := (RX8, ec_fx fl_X8, ec_cx cl_X8, sl_X8, ca_X8_actByText, ec_nz, ec_no)
theorem ok_X8_actByText (l : Launch) : ex_ok l 2 47 cx_X8_actByText := ⟨ec_fok fo_X8, ec_cok co_X8, so_X8, ck_X8_actByText l, fun _ h => (by cases h), fun _ h => (by cases h), fun _ h => (by cases h), fun _ _ h => (by cases h)⟩
def sp_X8_actByText : ex_S := ex_sp cx_X8_actByText cX8_actByText 4 (some .int) 60
theorem mt_X8_actByText (l : Launch) : ex_Met l yX8_actByText cX8_actByText 4 (some .int) 2 47 sp_X8_actByText := ex_inl (by decide) rfl (ok_X8_actByText l)
theorem cw_X8_lineAfter : ec_cw yX8_lineAfter cX8_lineAfter 3 (some .int) := ⟨ec_in (i := 717) (by decide +kernel) rfl, ec_in (i := 60) (by decide +kernel) rfl, by decide, by decide⟩
theorem cv_X8_lineAfter : Cond.instanceMethod yX8_lineAfter ∈ ec_tb ∧ Cond.selects yX8_lineAfter.cls yX8_lineAfter yX8_lineAfter ∈ ec_tb := ⟨ec_in (i := 716) (by decide +kernel) rfl, ec_in (i := 6) (by decide +kernel) rfl⟩
def ca_X8_lineAfter : Nat → Option (Nat × Option Nat × ex_S) := fun ix => match ix with
  | 171 => some (2, some 8, sp_X8_lineAfterCheck)
  | 149 => some (2, some 7, sp_X7_has)
  | 177 => some (2, some 8, sp_X8_actByText)
  | _ => none
theorem ck_X8_lineAfter (l : Launch) : ∀ (ix n : Nat) (rc : Option Nat) (sp : ex_S), ca_X8_lineAfter ix = some (n, rc, sp) → ex_cok l RX8 3 70 ix n rc sp := by
  intro ix n rc sp h
  unfold ca_X8_lineAfter at h
  split at h
  · cases h; exact ec_cV (mt_X8_lineAfterCheck l) cw_X8_lineAfterCheck cv_X8_lineAfterCheck (by decide) (by decide) (Or.inl (ec_in (i := 718) (by decide +kernel) rfl)) (T := TX8) (N := 7) rfl (by decide) (by decide +kernel)
  · cases h; exact ec_cV (mt_X7_has l) cw_X7_has cv_X7_has (by decide) (by decide) (Or.inl (ec_in (i := 706) (by decide +kernel) rfl)) (T := TX7) (N := 5) rfl (by decide) (by decide +kernel)
  · cases h; exact ec_cV (mt_X8_actByText l) cw_X8_actByText cv_X8_actByText (by decide) (by decide) (Or.inl (ec_in (i := 735) (by decide +kernel) rfl)) (T := TX8) (N := 7) rfl (by decide) (by decide +kernel)
  · cases h
def cx_X8_lineAfter : ex_K := (RX8, ec_fx fl_X8, ec_cx cl_X8, sl_X8, ca_X8_lineAfter, ec_nz, ec_no)
theorem ok_X8_lineAfter (l : Launch) : ex_ok l 3 70 cx_X8_lineAfter := ⟨ec_fok fo_X8, ec_cok co_X8, so_X8, ck_X8_lineAfter l, fun _ h => (by cases h), fun _ h => (by cases h), fun _ h => (by cases h), fun _ _ h => (by cases h)⟩
def sp_X8_lineAfter : ex_S := ex_sp cx_X8_lineAfter cX8_lineAfter 3 (some .int) 72
theorem mt_X8_lineAfter (l : Launch) : ex_Met l yX8_lineAfter cX8_lineAfter 3 (some .int) 3 70 sp_X8_lineAfter := ex_inl (by decide) rfl (ok_X8_lineAfter l)
theorem cw_X8_doText : ec_cw yX8_doText cX8_doText 2 none := ⟨ec_in (i := 705) (by decide +kernel) rfl, ec_in (i := 60) (by decide +kernel) rfl, by decide, by decide⟩
theorem cv_X8_doText : Cond.instanceMethod yX8_doText ∈ ec_tb ∧ Cond.selects yX8_doText.cls yX8_doText yX8_doText ∈ ec_tb := ⟨ec_in (i := 704) (by decide +kernel) rfl, ec_in (i := 5) (by decide +kernel) rfl⟩
def ca_X8_doText : Nat → Option (Nat × Option Nat × ex_S) := fun ix => match ix with
  | 149 => some (2, some 7, sp_X7_has)
  | 152 => some (2, some 2, sp_X2_finish)
  | 161 => some (2, some 8, sp_X8_lineAfter)
  | 165 => some (2, some 2, sp_X2_goOnAt)
  | _ => none
theorem ck_X8_doText (l : Launch) : ∀ (ix n : Nat) (rc : Option Nat) (sp : ex_S), ca_X8_doText ix = some (n, rc, sp) → ex_cok l RX8 4 92 ix n rc sp := by
  intro ix n rc sp h
  unfold ca_X8_doText at h
  split at h
  · cases h; exact ec_cV (mt_X7_has l) cw_X7_has cv_X7_has (by decide) (by decide) (Or.inl (ec_in (i := 706) (by decide +kernel) rfl)) (T := TX7) (N := 5) rfl (by decide) (by decide +kernel)
  · cases h; exact ec_cV (mt_X2_finish l) cw_X2_finish cv_X2_finish (by decide) (by decide) (Or.inl (ec_in (i := 710) (by decide +kernel) rfl)) (T := TX2) (N := 7) rfl (by decide) (by decide +kernel)
  · cases h; exact ec_cV (mt_X8_lineAfter l) cw_X8_lineAfter cv_X8_lineAfter (by decide) (by decide) (Or.inl (ec_in (i := 714) (by decide +kernel) rfl)) (T := TX8) (N := 7) rfl (by decide) (by decide +kernel)
  · cases h; exact ec_cV (mt_X2_goOnAt l) cw_X2_goOnAt cv_X2_goOnAt (by decide) (by decide) (Or.inl (ec_in (i := 744) (by decide +kernel) rfl)) (T := TX2) (N := 7) rfl (by decide) (by decide +kernel)
  · cases h
def cx_X8_doText : ex_K := (RX8, ec_fx fl_X8, ec_cx cl_X8, sl_X8, ca_X8_doText, ec_nz, ec_no)
theorem ok_X8_doText (l : Launch) : ex_ok l 4 92 cx_X8_doText := ⟨ec_fok fo_X8, ec_cok co_X8, so_X8, ck_X8_doText l, fun _ h => (by cases h), fun _ h => (by cases h), fun _ h => (by cases h), fun _ _ h => (by cases h)⟩
def sp_X8_doText : ex_S := ex_sp cx_X8_doText cX8_doText 2 none 60
theorem mt_X8_doText (l : Launch) : ex_Met l yX8_doText cX8_doText 2 none 4 92 sp_X8_doText := ex_inl (by decide) rfl (ok_X8_doText l)
theorem cw_X8_passTick : ec_cw yX8_passTick cX8_passTick 2 (some .boolean) := ⟨ec_in (i := 701) (by decide +kernel) rfl, ec_in (i := 60) (by decide +kernel) rfl, by decide, by decide⟩
theorem cv_X8_passTick : Cond.instanceMethod yX8_passTick ∈ ec_tb ∧ Cond.selects yX8_passTick.cls yX8_passTick yX8_passTick ∈ ec_tb := ⟨ec_in (i := 699) (by decide +kernel) rfl, ec_in (i := 700) (by decide +kernel) rfl⟩
def ca_X8_passTick : Nat → Option (Nat × Option Nat × ex_S) := fun ix => match ix with
  | 70 => some (1, some 8, sp_X8_doText)
  | 73 => some (2, some 3, sp_X3_mendOn)
  | 76 => some (2, some 6, sp_X6_sharePower)
  | 80 => some (2, some 6, sp_X6_workAll)
  | 83 => some (2, some 3, sp_X3_live)
  | 86 => some (1, some 0, sp_X0_leakOut)
  | 89 => some (1, some 0, sp_X0_mixThroughHatches)
  | 92 => some (4, some 1, sp_X1_look)
  | _ => none
theorem ck_X8_passTick (l : Launch) : ∀ (ix n : Nat) (rc : Option Nat) (sp : ex_S), ca_X8_passTick ix = some (n, rc, sp) → ex_cok l RX8 5 113 ix n rc sp := by
  intro ix n rc sp h
  unfold ca_X8_passTick at h
  split at h
  · cases h; exact ec_cV (mt_X8_doText l) cw_X8_doText cv_X8_doText (by decide) (by decide) (Or.inl (ec_in (i := 702) (by decide +kernel) rfl)) (T := TX8) (N := 7) rfl (by decide) (by decide +kernel)
  · cases h; exact ec_cV (mt_X3_mendOn l) cw_X3_mendOn cv_X3_mendOn (by decide) (by decide) (Or.inl (ec_in (i := 753) (by decide +kernel) rfl)) (T := TX3) (N := 7) rfl (by decide) (by decide +kernel)
  · cases h; exact ec_cV (mt_X6_sharePower l) cw_X6_sharePower cv_X6_sharePower (by decide) (by decide) (Or.inl (ec_in (i := 761) (by decide +kernel) rfl)) (T := TX6) (N := 15) rfl (by decide) (by decide +kernel)
  · cases h; exact ec_cV (mt_X6_workAll l) cw_X6_workAll cv_X6_workAll (by decide) (by decide) (Or.inl (ec_in (i := 765) (by decide +kernel) rfl)) (T := TX6) (N := 15) rfl (by decide) (by decide +kernel)
  · cases h; exact ec_cV (mt_X3_live l) cw_X3_live cv_X3_live (by decide) (by decide) (Or.inl (ec_in (i := 798) (by decide +kernel) rfl)) (T := TX3) (N := 7) rfl (by decide) (by decide +kernel)
  · cases h; exact ec_cV (mt_X0_leakOut l) cw_X0_leakOut cv_X0_leakOut (by decide) (by decide) (Or.inl (ec_in (i := 819) (by decide +kernel) rfl)) (T := TX0) (N := 8) rfl (by decide) (by decide +kernel)
  · cases h; exact ec_cV (mt_X0_mixThroughHatches l) cw_X0_mixThroughHatches cv_X0_mixThroughHatches (by decide) (by decide) (Or.inl (ec_in (i := 826) (by decide +kernel) rfl)) (T := TX0) (N := 8) rfl (by decide) (by decide +kernel)
  · cases h; exact ec_cV (mt_X1_look l) cw_X1_look cv_X1_look (by decide) (by decide) (Or.inl (ec_in (i := 834) (by decide +kernel) rfl)) (T := TX1) (N := 6) rfl (by decide) (by decide +kernel)
  · cases h
def cx_X8_passTick : ex_K := (RX8, ec_fx fl_X8, ec_cx cl_X8, sl_X8, ca_X8_passTick, ec_nz, ec_no)
theorem ok_X8_passTick (l : Launch) : ex_ok l 5 113 cx_X8_passTick := ⟨ec_fok fo_X8, ec_cok co_X8, so_X8, ck_X8_passTick l, fun _ h => (by cases h), fun _ h => (by cases h), fun _ h => (by cases h), fun _ _ h => (by cases h)⟩
def sp_X8_passTick : ex_S := ex_sp cx_X8_passTick cX8_passTick 2 (some .boolean) 47
theorem mt_X8_passTick (l : Launch) : ex_Met l yX8_passTick cX8_passTick 2 (some .boolean) 5 113 sp_X8_passTick := ex_inl (by decide) rfl (ok_X8_passTick l)
theorem cw_X9_counted : ec_cw yX9_counted cX9_counted 2 (some .int) := ⟨ec_in (i := 427) (by decide +kernel) rfl, ec_in (i := 58) (by decide +kernel) rfl, by decide, by decide⟩
theorem cv_X9_counted : Cond.instanceMethod yX9_counted ∈ ec_tb ∧ Cond.selects yX9_counted.cls yX9_counted yX9_counted ∈ ec_tb := ⟨ec_in (i := 426) (by decide +kernel) rfl, ec_in (i := 0) (by decide +kernel) rfl⟩
def cx_X9_counted : ex_K := (RX9, ec_fx fl_X9, ec_cx cl_X9, sl_X9, ec_no, ec_nz, ec_no)
theorem ok_X9_counted (l : Launch) : ex_ok l 0 0 cx_X9_counted := ⟨ec_fok fo_X9, ec_cok co_X9, so_X9, fun _ _ _ _ h => (by cases h), fun _ h => (by cases h), fun _ h => (by cases h), fun _ h => (by cases h), fun _ _ h => (by cases h)⟩
def sp_X9_counted : ex_S := ex_sp cx_X9_counted cX9_counted 2 (some .int) 19
theorem mt_X9_counted (l : Launch) : ex_Met l yX9_counted cX9_counted 2 (some .int) 0 0 sp_X9_counted := ex_inl (by decide) rfl (ok_X9_counted l)
theorem cw_X9_module : ec_cw yX9_module cX9_module 1 (some .int) := ⟨ec_in (i := 418) (by decide +kernel) rfl, ec_in (i := 58) (by decide +kernel) rfl, by decide, by decide⟩
theorem cv_X9_module : Cond.instanceMethod yX9_module ∈ ec_tb ∧ Cond.selects yX9_module.cls yX9_module yX9_module ∈ ec_tb := ⟨ec_in (i := 416) (by decide +kernel) rfl, ec_in (i := 417) (by decide +kernel) rfl⟩
def ca_X9_module : Nat → Option (Nat × Option Nat × ex_S) := fun ix => match ix with
  | 58 => some (1, some 0, sp_X0_addModule)
  | 64 => some (2, some 9, sp_X9_counted)
  | _ => none
theorem ck_X9_module (l : Launch) : ∀ (ix n : Nat) (rc : Option Nat) (sp : ex_S), ca_X9_module ix = some (n, rc, sp) → ex_cok l RX9 1 21 ix n rc sp := by
  intro ix n rc sp h
  unfold ca_X9_module at h
  split at h
  · cases h; exact ec_cV (mt_X0_addModule l) cw_X0_addModule cv_X0_addModule (by decide) (by decide) (Or.inl (ec_in (i := 419) (by decide +kernel) rfl)) (T := TX0) (N := 8) rfl (by decide) (by decide +kernel)
  · cases h; exact ec_cV (mt_X9_counted l) cw_X9_counted cv_X9_counted (by decide) (by decide) (Or.inl (ec_in (i := 424) (by decide +kernel) rfl)) (T := TX9) (N := 10) rfl (by decide) (by decide +kernel)
  · cases h
def cx_X9_module : ex_K := (RX9, ec_fx fl_X9, ec_cx cl_X9, sl_X9, ca_X9_module, ec_nz, ec_no)
theorem ok_X9_module (l : Launch) : ex_ok l 1 21 cx_X9_module := ⟨ec_fok fo_X9, ec_cok co_X9, so_X9, ck_X9_module l, fun _ h => (by cases h), fun _ h => (by cases h), fun _ h => (by cases h), fun _ _ h => (by cases h)⟩
def sp_X9_module : ex_S := ex_sp cx_X9_module cX9_module 1 (some .int) 8
theorem mt_X9_module (l : Launch) : ex_Met l yX9_module cX9_module 1 (some .int) 1 21 sp_X9_module := ex_inl (by decide) rfl (ok_X9_module l)
theorem cw_X9_hatch : ec_cw yX9_hatch cX9_hatch 3 (some .int) := ⟨ec_in (i := 433) (by decide +kernel) rfl, ec_in (i := 58) (by decide +kernel) rfl, by decide, by decide⟩
theorem cv_X9_hatch : Cond.instanceMethod yX9_hatch ∈ ec_tb ∧ Cond.selects yX9_hatch.cls yX9_hatch yX9_hatch ∈ ec_tb := ⟨ec_in (i := 431) (by decide +kernel) rfl, ec_in (i := 432) (by decide +kernel) rfl⟩
def ca_X9_hatch : Nat → Option (Nat × Option Nat × ex_S) := fun ix => match ix with
  | 68 => some (3, some 0, sp_X0_addHatch)
  | 64 => some (2, some 9, sp_X9_counted)
  | _ => none
theorem ck_X9_hatch (l : Launch) : ∀ (ix n : Nat) (rc : Option Nat) (sp : ex_S), ca_X9_hatch ix = some (n, rc, sp) → ex_cok l RX9 2 43 ix n rc sp := by
  intro ix n rc sp h
  unfold ca_X9_hatch at h
  split at h
  · cases h; exact ec_cV (mt_X0_addHatch l) cw_X0_addHatch cv_X0_addHatch (by decide) (by decide) (Or.inl (ec_in (i := 434) (by decide +kernel) rfl)) (T := TX0) (N := 8) rfl (by decide) (by decide +kernel)
  · cases h; exact ec_cV (mt_X9_counted l) cw_X9_counted cv_X9_counted (by decide) (by decide) (Or.inl (ec_in (i := 424) (by decide +kernel) rfl)) (T := TX9) (N := 10) rfl (by decide) (by decide +kernel)
  · cases h
def cx_X9_hatch : ex_K := (RX9, ec_fx fl_X9, ec_cx cl_X9, sl_X9, ca_X9_hatch, ec_nz, ec_no)
theorem ok_X9_hatch (l : Launch) : ex_ok l 2 43 cx_X9_hatch := ⟨ec_fok fo_X9, ec_cok co_X9, so_X9, ck_X9_hatch l, fun _ h => (by cases h), fun _ h => (by cases h), fun _ h => (by cases h), fun _ _ h => (by cases h)⟩
def sp_X9_hatch : ex_S := ex_sp cx_X9_hatch cX9_hatch 3 (some .int) 10
theorem mt_X9_hatch (l : Launch) : ex_Met l yX9_hatch cX9_hatch 3 (some .int) 2 43 sp_X9_hatch := ex_inl (by decide) rfl (ok_X9_hatch l)
theorem cw_X9_shut : ec_cw yX9_shut cX9_shut 3 (some .int) := ⟨ec_in (i := 446) (by decide +kernel) rfl, ec_in (i := 58) (by decide +kernel) rfl, by decide, by decide⟩
theorem cv_X9_shut : Cond.instanceMethod yX9_shut ∈ ec_tb ∧ Cond.selects yX9_shut.cls yX9_shut yX9_shut ∈ ec_tb := ⟨ec_in (i := 444) (by decide +kernel) rfl, ec_in (i := 445) (by decide +kernel) rfl⟩
def ca_X9_shut : Nat → Option (Nat × Option Nat × ex_S) := fun ix => match ix with
  | 72 => some (3, some 0, sp_X0_setOpen)
  | 64 => some (2, some 9, sp_X9_counted)
  | _ => none
theorem ck_X9_shut (l : Launch) : ∀ (ix n : Nat) (rc : Option Nat) (sp : ex_S), ca_X9_shut ix = some (n, rc, sp) → ex_cok l RX9 2 44 ix n rc sp := by
  intro ix n rc sp h
  unfold ca_X9_shut at h
  split at h
  · cases h; exact ec_cV (mt_X0_setOpen l) cw_X0_setOpen cv_X0_setOpen (by decide) (by decide) (Or.inl (ec_in (i := 447) (by decide +kernel) rfl)) (T := TX0) (N := 8) rfl (by decide) (by decide +kernel)
  · cases h; exact ec_cV (mt_X9_counted l) cw_X9_counted cv_X9_counted (by decide) (by decide) (Or.inl (ec_in (i := 424) (by decide +kernel) rfl)) (T := TX9) (N := 10) rfl (by decide) (by decide +kernel)
  · cases h
def cx_X9_shut : ex_K := (RX9, ec_fx fl_X9, ec_cx cl_X9, sl_X9, ca_X9_shut, ec_nz, ec_no)
theorem ok_X9_shut (l : Launch) : ex_ok l 2 44 cx_X9_shut := ⟨ec_fok fo_X9, ec_cok co_X9, so_X9, ck_X9_shut l, fun _ h => (by cases h), fun _ h => (by cases h), fun _ h => (by cases h), fun _ _ h => (by cases h)⟩
def sp_X9_shut : ex_S := ex_sp cx_X9_shut cX9_shut 3 (some .int) 10
theorem mt_X9_shut (l : Launch) : ex_Met l yX9_shut cX9_shut 3 (some .int) 2 44 sp_X9_shut := ex_inl (by decide) rfl (ok_X9_shut l)
theorem cw_X9_gas : ec_cw yX9_gas cX9_gas 4 (some .int) := ⟨ec_in (i := 464) (by decide +kernel) rfl, ec_in (i := 58) (by decide +kernel) rfl, by decide, by decide⟩
theorem cv_X9_gas : Cond.instanceMethod yX9_gas ∈ ec_tb ∧ Cond.selects yX9_gas.cls yX9_gas yX9_gas ∈ ec_tb := ⟨ec_in (i := 462) (by decide +kernel) rfl, ec_in (i := 463) (by decide +kernel) rfl⟩
def ca_X9_gas : Nat → Option (Nat × Option Nat × ex_S) := fun ix => match ix with
  | 75 => some (4, some 0, sp_X0_setHeld)
  | 64 => some (2, some 9, sp_X9_counted)
  | _ => none
theorem ck_X9_gas (l : Launch) : ∀ (ix n : Nat) (rc : Option Nat) (sp : ex_S), ca_X9_gas ix = some (n, rc, sp) → ex_cok l RX9 2 45 ix n rc sp := by
  intro ix n rc sp h
  unfold ca_X9_gas at h
  split at h
  · cases h; exact ec_cV (mt_X0_setHeld l) cw_X0_setHeld cv_X0_setHeld (by decide) (by decide) (Or.inl (ec_in (i := 465) (by decide +kernel) rfl)) (T := TX0) (N := 8) rfl (by decide) (by decide +kernel)
  · cases h; exact ec_cV (mt_X9_counted l) cw_X9_counted cv_X9_counted (by decide) (by decide) (Or.inl (ec_in (i := 424) (by decide +kernel) rfl)) (T := TX9) (N := 10) rfl (by decide) (by decide +kernel)
  · cases h
def cx_X9_gas : ex_K := (RX9, ec_fx fl_X9, ec_cx cl_X9, sl_X9, ca_X9_gas, ec_nz, ec_no)
theorem ok_X9_gas (l : Launch) : ex_ok l 2 45 cx_X9_gas := ⟨ec_fok fo_X9, ec_cok co_X9, so_X9, ck_X9_gas l, fun _ h => (by cases h), fun _ h => (by cases h), fun _ h => (by cases h), fun _ _ h => (by cases h)⟩
def sp_X9_gas : ex_S := ex_sp cx_X9_gas cX9_gas 4 (some .int) 11
theorem mt_X9_gas (l : Launch) : ex_Met l yX9_gas cX9_gas 4 (some .int) 2 45 sp_X9_gas := ex_inl (by decide) rfl (ok_X9_gas l)
theorem cw_X9_leak : ec_cw yX9_leak cX9_leak 3 (some .int) := ⟨ec_in (i := 476) (by decide +kernel) rfl, ec_in (i := 58) (by decide +kernel) rfl, by decide, by decide⟩
theorem cv_X9_leak : Cond.instanceMethod yX9_leak ∈ ec_tb ∧ Cond.selects yX9_leak.cls yX9_leak yX9_leak ∈ ec_tb := ⟨ec_in (i := 474) (by decide +kernel) rfl, ec_in (i := 475) (by decide +kernel) rfl⟩
def ca_X9_leak : Nat → Option (Nat × Option Nat × ex_S) := fun ix => match ix with
  | 79 => some (3, some 0, sp_X0_setLeak)
  | 64 => some (2, some 9, sp_X9_counted)
  | _ => none
theorem ck_X9_leak (l : Launch) : ∀ (ix n : Nat) (rc : Option Nat) (sp : ex_S), ca_X9_leak ix = some (n, rc, sp) → ex_cok l RX9 2 44 ix n rc sp := by
  intro ix n rc sp h
  unfold ca_X9_leak at h
  split at h
  · cases h; exact ec_cV (mt_X0_setLeak l) cw_X0_setLeak cv_X0_setLeak (by decide) (by decide) (Or.inl (ec_in (i := 477) (by decide +kernel) rfl)) (T := TX0) (N := 8) rfl (by decide) (by decide +kernel)
  · cases h; exact ec_cV (mt_X9_counted l) cw_X9_counted cv_X9_counted (by decide) (by decide) (Or.inl (ec_in (i := 424) (by decide +kernel) rfl)) (T := TX9) (N := 10) rfl (by decide) (by decide +kernel)
  · cases h
def cx_X9_leak : ex_K := (RX9, ec_fx fl_X9, ec_cx cl_X9, sl_X9, ca_X9_leak, ec_nz, ec_no)
theorem ok_X9_leak (l : Launch) : ex_ok l 2 44 cx_X9_leak := ⟨ec_fok fo_X9, ec_cok co_X9, so_X9, ck_X9_leak l, fun _ h => (by cases h), fun _ h => (by cases h), fun _ h => (by cases h), fun _ _ h => (by cases h)⟩
def sp_X9_leak : ex_S := ex_sp cx_X9_leak cX9_leak 3 (some .int) 10
theorem mt_X9_leak (l : Launch) : ex_Met l yX9_leak cX9_leak 3 (some .int) 2 44 sp_X9_leak := ex_inl (by decide) rfl (ok_X9_leak l)
theorem cw_X9_tank : ec_cw yX9_tank cX9_tank 3 (some .int) := ⟨ec_in (i := 484) (by decide +kernel) rfl, ec_in (i := 58) (by decide +kernel) rfl, by decide, by decide⟩
theorem cv_X9_tank : Cond.instanceMethod yX9_tank ∈ ec_tb ∧ Cond.selects yX9_tank.cls yX9_tank yX9_tank ∈ ec_tb := ⟨ec_in (i := 482) (by decide +kernel) rfl, ec_in (i := 483) (by decide +kernel) rfl⟩
def ca_X9_tank : Nat → Option (Nat × Option Nat × ex_S) := fun ix => match ix with
  | 82 => some (3, some 0, sp_X0_setStored)
  | 64 => some (2, some 9, sp_X9_counted)
  | _ => none
theorem ck_X9_tank (l : Launch) : ∀ (ix n : Nat) (rc : Option Nat) (sp : ex_S), ca_X9_tank ix = some (n, rc, sp) → ex_cok l RX9 1 23 ix n rc sp := by
  intro ix n rc sp h
  unfold ca_X9_tank at h
  split at h
  · cases h; exact ec_cV (mt_X0_setStored l) cw_X0_setStored cv_X0_setStored (by decide) (by decide) (Or.inl (ec_in (i := 485) (by decide +kernel) rfl)) (T := TX0) (N := 8) rfl (by decide) (by decide +kernel)
  · cases h; exact ec_cV (mt_X9_counted l) cw_X9_counted cv_X9_counted (by decide) (by decide) (Or.inl (ec_in (i := 424) (by decide +kernel) rfl)) (T := TX9) (N := 10) rfl (by decide) (by decide +kernel)
  · cases h
def cx_X9_tank : ex_K := (RX9, ec_fx fl_X9, ec_cx cl_X9, sl_X9, ca_X9_tank, ec_nz, ec_no)
theorem ok_X9_tank (l : Launch) : ex_ok l 1 23 cx_X9_tank := ⟨ec_fok fo_X9, ec_cok co_X9, so_X9, ck_X9_tank l, fun _ h => (by cases h), fun _ h => (by cases h), fun _ h => (by cases h), fun _ _ h => (by cases h)⟩
def sp_X9_tank : ex_S := ex_sp cx_X9_tank cX9_tank 3 (some .int) 10
theorem mt_X9_tank (l : Launch) : ex_Met l yX9_tank cX9_tank 3 (some .int) 1 23 sp_X9_tank := ex_inl (by decide) rfl (ok_X9_tank l)
theorem cw_X9_grams : ec_cw yX9_grams cX9_grams 1 (some .int) := ⟨ec_in (i := 493) (by decide +kernel) rfl, ec_in (i := 58) (by decide +kernel) rfl, by decide, by decide⟩
theorem cv_X9_grams : Cond.instanceMethod yX9_grams ∈ ec_tb ∧ Cond.selects yX9_grams.cls yX9_grams yX9_grams ∈ ec_tb := ⟨ec_in (i := 491) (by decide +kernel) rfl, ec_in (i := 492) (by decide +kernel) rfl⟩
def ca_X9_grams : Nat → Option (Nat × Option Nat × ex_S) := fun ix => match ix with
  | 85 => some (1, some 0, sp_X0_allGrams)
  | _ => none
theorem ck_X9_grams (l : Launch) : ∀ (ix n : Nat) (rc : Option Nat) (sp : ex_S), ca_X9_grams ix = some (n, rc, sp) → ex_cok l RX9 1 23 ix n rc sp := by
  intro ix n rc sp h
  unfold ca_X9_grams at h
  split at h
  · cases h; exact ec_cV (mt_X0_allGrams l) cw_X0_allGrams cv_X0_allGrams (by decide) (by decide) (Or.inl (ec_in (i := 494) (by decide +kernel) rfl)) (T := TX0) (N := 8) rfl (by decide) (by decide +kernel)
  · cases h
def cx_X9_grams : ex_K := (RX9, ec_fx fl_X9, ec_cx cl_X9, sl_X9, ca_X9_grams, ec_nz, ec_no)
theorem ok_X9_grams (l : Launch) : ex_ok l 1 23 cx_X9_grams := ⟨ec_fok fo_X9, ec_cok co_X9, so_X9, ck_X9_grams l, fun _ h => (by cases h), fun _ h => (by cases h), fun _ h => (by cases h), fun _ _ h => (by cases h)⟩
def sp_X9_grams : ex_S := ex_sp cx_X9_grams cX9_grams 1 (some .int) 6
theorem mt_X9_grams (l : Launch) : ex_Met l yX9_grams cX9_grams 1 (some .int) 1 23 sp_X9_grams := ex_inl (by decide) rfl (ok_X9_grams l)
theorem cw_X9_person : ec_cw yX9_person cX9_person 2 (some .int) := ⟨ec_in (i := 501) (by decide +kernel) rfl, ec_in (i := 58) (by decide +kernel) rfl, by decide, by decide⟩
theorem cv_X9_person : Cond.instanceMethod yX9_person ∈ ec_tb ∧ Cond.selects yX9_person.cls yX9_person yX9_person ∈ ec_tb := ⟨ec_in (i := 499) (by decide +kernel) rfl, ec_in (i := 500) (by decide +kernel) rfl⟩
def ca_X9_person : Nat → Option (Nat × Option Nat × ex_S) := fun ix => match ix with
  | 88 => some (2, some 0, sp_X0_hasModule)
  | 64 => some (2, some 9, sp_X9_counted)
  | 97 => some (2, some 3, sp_X3_addPerson)
  | _ => none
theorem ck_X9_person (l : Launch) : ∀ (ix n : Nat) (rc : Option Nat) (sp : ex_S), ca_X9_person ix = some (n, rc, sp) → ex_cok l RX9 1 21 ix n rc sp := by
  intro ix n rc sp h
  unfold ca_X9_person at h
  split at h
  · cases h; exact ec_cV (mt_X0_hasModule l) cw_X0_hasModule cv_X0_hasModule (by decide) (by decide) (Or.inl (ec_in (i := 502) (by decide +kernel) rfl)) (T := TX0) (N := 8) rfl (by decide) (by decide +kernel)
  · cases h; exact ec_cV (mt_X9_counted l) cw_X9_counted cv_X9_counted (by decide) (by decide) (Or.inl (ec_in (i := 424) (by decide +kernel) rfl)) (T := TX9) (N := 10) rfl (by decide) (by decide +kernel)
  · cases h; exact ec_cV (mt_X3_addPerson l) cw_X3_addPerson cv_X3_addPerson (by decide) (by decide) (Or.inl (ec_in (i := 504) (by decide +kernel) rfl)) (T := TX3) (N := 7) rfl (by decide) (by decide +kernel)
  · cases h
def cx_X9_person : ex_K := (RX9, ec_fx fl_X9, ec_cx cl_X9, sl_X9, ca_X9_person, ec_nz, ec_no)
theorem ok_X9_person (l : Launch) : ex_ok l 1 21 cx_X9_person := ⟨ec_fok fo_X9, ec_cok co_X9, so_X9, ck_X9_person l, fun _ h => (by cases h), fun _ h => (by cases h), fun _ h => (by cases h), fun _ _ h => (by cases h)⟩
def sp_X9_person : ex_S := ex_sp cx_X9_person cX9_person 2 (some .int) 19
theorem mt_X9_person (l : Launch) : ex_Met l yX9_person cX9_person 2 (some .int) 1 21 sp_X9_person := ex_inl (by decide) rfl (ok_X9_person l)
theorem cw_X9_go : ec_cw yX9_go cX9_go 3 (some .int) := ⟨ec_in (i := 512) (by decide +kernel) rfl, ec_in (i := 58) (by decide +kernel) rfl, by decide, by decide⟩
theorem cv_X9_go : Cond.instanceMethod yX9_go ∈ ec_tb ∧ Cond.selects yX9_go.cls yX9_go yX9_go ∈ ec_tb := ⟨ec_in (i := 510) (by decide +kernel) rfl, ec_in (i := 511) (by decide +kernel) rfl⟩
def ca_X9_go : Nat → Option (Nat × Option Nat × ex_S) := fun ix => match ix with
  | 102 => some (3, some 8, sp_X8_walk)
  | 64 => some (2, some 9, sp_X9_counted)
  | _ => none
theorem ck_X9_go (l : Launch) : ∀ (ix n : Nat) (rc : Option Nat) (sp : ex_S), ca_X9_go ix = some (n, rc, sp) → ex_cok l RX9 2 46 ix n rc sp := by
  intro ix n rc sp h
  unfold ca_X9_go at h
  split at h
  · cases h; exact ec_cV (mt_X8_walk l) cw_X8_walk cv_X8_walk (by decide) (by decide) (Or.inl (ec_in (i := 513) (by decide +kernel) rfl)) (T := TX8) (N := 7) rfl (by decide) (by decide +kernel)
  · cases h; exact ec_cV (mt_X9_counted l) cw_X9_counted cv_X9_counted (by decide) (by decide) (Or.inl (ec_in (i := 424) (by decide +kernel) rfl)) (T := TX9) (N := 10) rfl (by decide) (by decide +kernel)
  · cases h
def cx_X9_go : ex_K := (RX9, ec_fx fl_X9, ec_cx cl_X9, sl_X9, ca_X9_go, ec_nz, ec_no)
theorem ok_X9_go (l : Launch) : ex_ok l 2 46 cx_X9_go := ⟨ec_fok fo_X9, ec_cok co_X9, so_X9, ck_X9_go l, fun _ h => (by cases h), fun _ h => (by cases h), fun _ h => (by cases h), fun _ _ h => (by cases h)⟩
def sp_X9_go : ex_S := ex_sp cx_X9_go cX9_go 3 (some .int) 9
theorem mt_X9_go (l : Launch) : ex_Met l yX9_go cX9_go 3 (some .int) 2 46 sp_X9_go := ex_inl (by decide) rfl (ok_X9_go l)
theorem cw_X9_doing : ec_cw yX9_doing cX9_doing 3 (some .int) := ⟨ec_in (i := 535) (by decide +kernel) rfl, ec_in (i := 58) (by decide +kernel) rfl, by decide, by decide⟩
theorem cv_X9_doing : Cond.instanceMethod yX9_doing ∈ ec_tb ∧ Cond.selects yX9_doing.cls yX9_doing yX9_doing ∈ ec_tb := ⟨ec_in (i := 533) (by decide +kernel) rfl, ec_in (i := 534) (by decide +kernel) rfl⟩
def ca_X9_doing : Nat → Option (Nat × Option Nat × ex_S) := fun ix => match ix with
  | 105 => some (3, some 3, sp_X3_setDoing)
  | 64 => some (2, some 9, sp_X9_counted)
  | _ => none
theorem ck_X9_doing (l : Launch) : ∀ (ix n : Nat) (rc : Option Nat) (sp : ex_S), ca_X9_doing ix = some (n, rc, sp) → ex_cok l RX9 2 44 ix n rc sp := by
  intro ix n rc sp h
  unfold ca_X9_doing at h
  split at h
  · cases h; exact ec_cV (mt_X3_setDoing l) cw_X3_setDoing cv_X3_setDoing (by decide) (by decide) (Or.inl (ec_in (i := 536) (by decide +kernel) rfl)) (T := TX3) (N := 7) rfl (by decide) (by decide +kernel)
  · cases h; exact ec_cV (mt_X9_counted l) cw_X9_counted cv_X9_counted (by decide) (by decide) (Or.inl (ec_in (i := 424) (by decide +kernel) rfl)) (T := TX9) (N := 10) rfl (by decide) (by decide +kernel)
  · cases h
def cx_X9_doing : ex_K := (RX9, ec_fx fl_X9, ec_cx cl_X9, sl_X9, ca_X9_doing, ec_nz, ec_no)
theorem ok_X9_doing (l : Launch) : ex_ok l 2 44 cx_X9_doing := ⟨ec_fok fo_X9, ec_cok co_X9, so_X9, ck_X9_doing l, fun _ h => (by cases h), fun _ h => (by cases h), fun _ h => (by cases h), fun _ _ h => (by cases h)⟩
def sp_X9_doing : ex_S := ex_sp cx_X9_doing cX9_doing 3 (some .int) 10
theorem mt_X9_doing (l : Launch) : ex_Met l yX9_doing cX9_doing 3 (some .int) 2 44 sp_X9_doing := ex_inl (by decide) rfl (ok_X9_doing l)
theorem cw_X9_about : ec_cw yX9_about cX9_about 3 (some .int) := ⟨ec_in (i := 547) (by decide +kernel) rfl, ec_in (i := 58) (by decide +kernel) rfl, by decide, by decide⟩
theorem cv_X9_about : Cond.instanceMethod yX9_about ∈ ec_tb ∧ Cond.selects yX9_about.cls yX9_about yX9_about ∈ ec_tb := ⟨ec_in (i := 545) (by decide +kernel) rfl, ec_in (i := 546) (by decide +kernel) rfl⟩
def ca_X9_about : Nat → Option (Nat × Option Nat × ex_S) := fun ix => match ix with
  | 108 => some (3, some 3, sp_X3_tellOf)
  | 64 => some (2, some 9, sp_X9_counted)
  | _ => none
theorem ck_X9_about (l : Launch) : ∀ (ix n : Nat) (rc : Option Nat) (sp : ex_S), ca_X9_about ix = some (n, rc, sp) → ex_cok l RX9 2 43 ix n rc sp := by
  intro ix n rc sp h
  unfold ca_X9_about at h
  split at h
  · cases h; exact ec_cV (mt_X3_tellOf l) cw_X3_tellOf cv_X3_tellOf (by decide) (by decide) (Or.inl (ec_in (i := 548) (by decide +kernel) rfl)) (T := TX3) (N := 7) rfl (by decide) (by decide +kernel)
  · cases h; exact ec_cV (mt_X9_counted l) cw_X9_counted cv_X9_counted (by decide) (by decide) (Or.inl (ec_in (i := 424) (by decide +kernel) rfl)) (T := TX9) (N := 10) rfl (by decide) (by decide +kernel)
  · cases h
def cx_X9_about : ex_K := (RX9, ec_fx fl_X9, ec_cx cl_X9, sl_X9, ca_X9_about, ec_nz, ec_no)
theorem ok_X9_about (l : Launch) : ex_ok l 2 43 cx_X9_about := ⟨ec_fok fo_X9, ec_cok co_X9, so_X9, ck_X9_about l, fun _ h => (by cases h), fun _ h => (by cases h), fun _ h => (by cases h), fun _ _ h => (by cases h)⟩
def sp_X9_about : ex_S := ex_sp cx_X9_about cX9_about 3 (some .int) 10
theorem mt_X9_about (l : Launch) : ex_Met l yX9_about cX9_about 3 (some .int) 2 43 sp_X9_about := ex_inl (by decide) rfl (ok_X9_about l)
theorem cw_X9_machine : ec_cw yX9_machine cX9_machine 5 (some .int) := ⟨ec_in (i := 555) (by decide +kernel) rfl, ec_in (i := 58) (by decide +kernel) rfl, by decide, by decide⟩
theorem cv_X9_machine : Cond.instanceMethod yX9_machine ∈ ec_tb ∧ Cond.selects yX9_machine.cls yX9_machine yX9_machine ∈ ec_tb := ⟨ec_in (i := 553) (by decide +kernel) rfl, ec_in (i := 554) (by decide +kernel) rfl⟩
def ca_X9_machine : Nat → Option (Nat × Option Nat × ex_S) := fun ix => match ix with
  | 88 => some (2, some 0, sp_X0_hasModule)
  | 64 => some (2, some 9, sp_X9_counted)
  | 115 => some (5, some 6, sp_X6_addMachine)
  | _ => none
theorem ck_X9_machine (l : Launch) : ∀ (ix n : Nat) (rc : Option Nat) (sp : ex_S), ca_X9_machine ix = some (n, rc, sp) → ex_cok l RX9 2 45 ix n rc sp := by
  intro ix n rc sp h
  unfold ca_X9_machine at h
  split at h
  · cases h; exact ec_cV (mt_X0_hasModule l) cw_X0_hasModule cv_X0_hasModule (by decide) (by decide) (Or.inl (ec_in (i := 502) (by decide +kernel) rfl)) (T := TX0) (N := 8) rfl (by decide) (by decide +kernel)
  · cases h; exact ec_cV (mt_X9_counted l) cw_X9_counted cv_X9_counted (by decide) (by decide) (Or.inl (ec_in (i := 424) (by decide +kernel) rfl)) (T := TX9) (N := 10) rfl (by decide) (by decide +kernel)
  · cases h; exact ec_cV (mt_X6_addMachine l) cw_X6_addMachine cv_X6_addMachine (by decide) (by decide) (Or.inl (ec_in (i := 556) (by decide +kernel) rfl)) (T := TX6) (N := 15) rfl (by decide) (by decide +kernel)
  · cases h
def cx_X9_machine : ex_K := (RX9, ec_fx fl_X9, ec_cx cl_X9, sl_X9, ca_X9_machine, ec_nz, ec_no)
theorem ok_X9_machine (l : Launch) : ex_ok l 2 45 cx_X9_machine := ⟨ec_fok fo_X9, ec_cok co_X9, so_X9, ck_X9_machine l, fun _ h => (by cases h), fun _ h => (by cases h), fun _ h => (by cases h), fun _ _ h => (by cases h)⟩
def sp_X9_machine : ex_S := ex_sp cx_X9_machine cX9_machine 5 (some .int) 22
theorem mt_X9_machine (l : Launch) : ex_Met l yX9_machine cX9_machine 5 (some .int) 2 45 sp_X9_machine := ex_inl (by decide) rfl (ok_X9_machine l)
theorem cw_X9_as : ec_cw yX9_as cX9_as 3 (some .int) := ⟨ec_in (i := 572) (by decide +kernel) rfl, ec_in (i := 58) (by decide +kernel) rfl, by decide, by decide⟩
theorem cv_X9_as : Cond.instanceMethod yX9_as ∈ ec_tb ∧ Cond.selects yX9_as.cls yX9_as yX9_as ∈ ec_tb := ⟨ec_in (i := 570) (by decide +kernel) rfl, ec_in (i := 571) (by decide +kernel) rfl⟩
def ca_X9_as : Nat → Option (Nat × Option Nat × ex_S) := fun ix => match ix with
  | 121 => some (3, some 6, sp_X6_rateAs)
  | 64 => some (2, some 9, sp_X9_counted)
  | _ => none
theorem ck_X9_as (l : Launch) : ∀ (ix n : Nat) (rc : Option Nat) (sp : ex_S), ca_X9_as ix = some (n, rc, sp) → ex_cok l RX9 3 65 ix n rc sp := by
  intro ix n rc sp h
  unfold ca_X9_as at h
  split at h
  · cases h; exact ec_cV (mt_X6_rateAs l) cw_X6_rateAs cv_X6_rateAs (by decide) (by decide) (Or.inl (ec_in (i := 573) (by decide +kernel) rfl)) (T := TX6) (N := 15) rfl (by decide) (by decide +kernel)
  · cases h; exact ec_cV (mt_X9_counted l) cw_X9_counted cv_X9_counted (by decide) (by decide) (Or.inl (ec_in (i := 424) (by decide +kernel) rfl)) (T := TX9) (N := 10) rfl (by decide) (by decide +kernel)
  · cases h
def cx_X9_as : ex_K := (RX9, ec_fx fl_X9, ec_cx cl_X9, sl_X9, ca_X9_as, ec_nz, ec_no)
theorem ok_X9_as (l : Launch) : ex_ok l 3 65 cx_X9_as := ⟨ec_fok fo_X9, ec_cok co_X9, so_X9, ck_X9_as l, fun _ h => (by cases h), fun _ h => (by cases h), fun _ h => (by cases h), fun _ _ h => (by cases h)⟩
def sp_X9_as : ex_S := ex_sp cx_X9_as cX9_as 3 (some .int) 10
theorem mt_X9_as (l : Launch) : ex_Met l yX9_as cX9_as 3 (some .int) 3 65 sp_X9_as := ex_inl (by decide) rfl (ok_X9_as l)
theorem cw_X9_turn : ec_cw yX9_turn cX9_turn 3 (some .int) := ⟨ec_in (i := 590) (by decide +kernel) rfl, ec_in (i := 58) (by decide +kernel) rfl, by decide, by decide⟩
theorem cv_X9_turn : Cond.instanceMethod yX9_turn ∈ ec_tb ∧ Cond.selects yX9_turn.cls yX9_turn yX9_turn ∈ ec_tb := ⟨ec_in (i := 588) (by decide +kernel) rfl, ec_in (i := 589) (by decide +kernel) rfl⟩
def ca_X9_turn : Nat → Option (Nat × Option Nat × ex_S) := fun ix => match ix with
  | 124 => some (3, some 6, sp_X6_setOn)
  | 64 => some (2, some 9, sp_X9_counted)
  | _ => none
theorem ck_X9_turn (l : Launch) : ∀ (ix n : Nat) (rc : Option Nat) (sp : ex_S), ca_X9_turn ix = some (n, rc, sp) → ex_cok l RX9 2 44 ix n rc sp := by
  intro ix n rc sp h
  unfold ca_X9_turn at h
  split at h
  · cases h; exact ec_cV (mt_X6_setOn l) cw_X6_setOn cv_X6_setOn (by decide) (by decide) (Or.inl (ec_in (i := 591) (by decide +kernel) rfl)) (T := TX6) (N := 15) rfl (by decide) (by decide +kernel)
  · cases h; exact ec_cV (mt_X9_counted l) cw_X9_counted cv_X9_counted (by decide) (by decide) (Or.inl (ec_in (i := 424) (by decide +kernel) rfl)) (T := TX9) (N := 10) rfl (by decide) (by decide +kernel)
  · cases h
def cx_X9_turn : ex_K := (RX9, ec_fx fl_X9, ec_cx cl_X9, sl_X9, ca_X9_turn, ec_nz, ec_no)
theorem ok_X9_turn (l : Launch) : ex_ok l 2 44 cx_X9_turn := ⟨ec_fok fo_X9, ec_cok co_X9, so_X9, ck_X9_turn l, fun _ h => (by cases h), fun _ h => (by cases h), fun _ h => (by cases h), fun _ _ h => (by cases h)⟩
def sp_X9_turn : ex_S := ex_sp cx_X9_turn cX9_turn 3 (some .int) 10
theorem mt_X9_turn (l : Launch) : ex_Met l yX9_turn cX9_turn 3 (some .int) 2 44 sp_X9_turn := ex_inl (by decide) rfl (ok_X9_turn l)
theorem cw_X9_of : ec_cw yX9_of cX9_of 3 (some .int) := ⟨ec_in (i := 600) (by decide +kernel) rfl, ec_in (i := 58) (by decide +kernel) rfl, by decide, by decide⟩
theorem cv_X9_of : Cond.instanceMethod yX9_of ∈ ec_tb ∧ Cond.selects yX9_of.cls yX9_of yX9_of ∈ ec_tb := ⟨ec_in (i := 598) (by decide +kernel) rfl, ec_in (i := 599) (by decide +kernel) rfl⟩
def ca_X9_of : Nat → Option (Nat × Option Nat × ex_S) := fun ix => match ix with
  | 127 => some (3, some 6, sp_X6_tellOf)
  | 64 => some (2, some 9, sp_X9_counted)
  | _ => none
theorem ck_X9_of (l : Launch) : ∀ (ix n : Nat) (rc : Option Nat) (sp : ex_S), ca_X9_of ix = some (n, rc, sp) → ex_cok l RX9 2 43 ix n rc sp := by
  intro ix n rc sp h
  unfold ca_X9_of at h
  split at h
  · cases h; exact ec_cV (mt_X6_tellOf l) cw_X6_tellOf cv_X6_tellOf (by decide) (by decide) (Or.inl (ec_in (i := 601) (by decide +kernel) rfl)) (T := TX6) (N := 15) rfl (by decide) (by decide +kernel)
  · cases h; exact ec_cV (mt_X9_counted l) cw_X9_counted cv_X9_counted (by decide) (by decide) (Or.inl (ec_in (i := 424) (by decide +kernel) rfl)) (T := TX9) (N := 10) rfl (by decide) (by decide +kernel)
  · cases h
def cx_X9_of : ex_K := (RX9, ec_fx fl_X9, ec_cx cl_X9, sl_X9, ca_X9_of, ec_nz, ec_no)
theorem ok_X9_of (l : Launch) : ex_ok l 2 43 cx_X9_of := ⟨ec_fok fo_X9, ec_cok co_X9, so_X9, ck_X9_of l, fun _ h => (by cases h), fun _ h => (by cases h), fun _ h => (by cases h), fun _ _ h => (by cases h)⟩
def sp_X9_of : ex_S := ex_sp cx_X9_of cX9_of 3 (some .int) 10
theorem mt_X9_of (l : Launch) : ex_Met l yX9_of cX9_of 3 (some .int) 2 43 sp_X9_of := ex_inl (by decide) rfl (ok_X9_of l)
theorem cw_X9_spares : ec_cw yX9_spares cX9_spares 3 (some .int) := ⟨ec_in (i := 608) (by decide +kernel) rfl, ec_in (i := 58) (by decide +kernel) rfl, by decide, by decide⟩
theorem cv_X9_spares : Cond.instanceMethod yX9_spares ∈ ec_tb ∧ Cond.selects yX9_spares.cls yX9_spares yX9_spares ∈ ec_tb := ⟨ec_in (i := 606) (by decide +kernel) rfl, ec_in (i := 607) (by decide +kernel) rfl⟩
def ca_X9_spares : Nat → Option (Nat × Option Nat × ex_S) := fun ix => match ix with
  | 128 => some (3, some 6, sp_X6_setSpares)
  | 64 => some (2, some 9, sp_X9_counted)
  | _ => none
theorem ck_X9_spares (l : Launch) : ∀ (ix n : Nat) (rc : Option Nat) (sp : ex_S), ca_X9_spares ix = some (n, rc, sp) → ex_cok l RX9 2 43 ix n rc sp := by
  intro ix n rc sp h
  unfold ca_X9_spares at h
  split at h
  · cases h; exact ec_cV (mt_X6_setSpares l) cw_X6_setSpares cv_X6_setSpares (by decide) (by decide) (Or.inl (ec_in (i := 609) (by decide +kernel) rfl)) (T := TX6) (N := 15) rfl (by decide) (by decide +kernel)
  · cases h; exact ec_cV (mt_X9_counted l) cw_X9_counted cv_X9_counted (by decide) (by decide) (Or.inl (ec_in (i := 424) (by decide +kernel) rfl)) (T := TX9) (N := 10) rfl (by decide) (by decide +kernel)
  · cases h
def cx_X9_spares : ex_K := (RX9, ec_fx fl_X9, ec_cx cl_X9, sl_X9, ca_X9_spares, ec_nz, ec_no)
theorem ok_X9_spares (l : Launch) : ex_ok l 2 43 cx_X9_spares := ⟨ec_fok fo_X9, ec_cok co_X9, so_X9, ck_X9_spares l, fun _ h => (by cases h), fun _ h => (by cases h), fun _ h => (by cases h), fun _ _ h => (by cases h)⟩
def sp_X9_spares : ex_S := ex_sp cx_X9_spares cX9_spares 3 (some .int) 10
theorem mt_X9_spares (l : Launch) : ex_Met l yX9_spares cX9_spares 3 (some .int) 2 43 sp_X9_spares := ex_inl (by decide) rfl (ok_X9_spares l)
theorem cw_X9_repair : ec_cw yX9_repair cX9_repair 4 (some .int) := ⟨ec_in (i := 616) (by decide +kernel) rfl, ec_in (i := 58) (by decide +kernel) rfl, by decide, by decide⟩
theorem cv_X9_repair : Cond.instanceMethod yX9_repair ∈ ec_tb ∧ Cond.selects yX9_repair.cls yX9_repair yX9_repair ∈ ec_tb := ⟨ec_in (i := 614) (by decide +kernel) rfl, ec_in (i := 615) (by decide +kernel) rfl⟩
def ca_X9_repair : Nat → Option (Nat × Option Nat × ex_S) := fun ix => match ix with
  | 131 => some (4, some 8, sp_X8_mend)
  | 64 => some (2, some 9, sp_X9_counted)
  | _ => none
theorem ck_X9_repair (l : Launch) : ∀ (ix n : Nat) (rc : Option Nat) (sp : ex_S), ca_X9_repair ix = some (n, rc, sp) → ex_cok l RX9 2 47 ix n rc sp := by
  intro ix n rc sp h
  unfold ca_X9_repair at h
  split at h
  · cases h; exact ec_cV (mt_X8_mend l) cw_X8_mend cv_X8_mend (by decide) (by decide) (Or.inl (ec_in (i := 617) (by decide +kernel) rfl)) (T := TX8) (N := 7) rfl (by decide) (by decide +kernel)
  · cases h; exact ec_cV (mt_X9_counted l) cw_X9_counted cv_X9_counted (by decide) (by decide) (Or.inl (ec_in (i := 424) (by decide +kernel) rfl)) (T := TX9) (N := 10) rfl (by decide) (by decide +kernel)
  · cases h
def cx_X9_repair : ex_K := (RX9, ec_fx fl_X9, ec_cx cl_X9, sl_X9, ca_X9_repair, ec_nz, ec_no)
theorem ok_X9_repair (l : Launch) : ex_ok l 2 47 cx_X9_repair := ⟨ec_fok fo_X9, ec_cok co_X9, so_X9, ck_X9_repair l, fun _ h => (by cases h), fun _ h => (by cases h), fun _ h => (by cases h), fun _ _ h => (by cases h)⟩
def sp_X9_repair : ex_S := ex_sp cx_X9_repair cX9_repair 4 (some .int) 10
theorem mt_X9_repair (l : Launch) : ex_Met l yX9_repair cX9_repair 4 (some .int) 2 47 sp_X9_repair := ex_inl (by decide) rfl (ok_X9_repair l)
theorem cw_X9_shed : ec_cw yX9_shed cX9_shed 3 (some .int) := ⟨ec_in (i := 634) (by decide +kernel) rfl, ec_in (i := 58) (by decide +kernel) rfl, by decide, by decide⟩
theorem cv_X9_shed : Cond.instanceMethod yX9_shed ∈ ec_tb ∧ Cond.selects yX9_shed.cls yX9_shed yX9_shed ∈ ec_tb := ⟨ec_in (i := 632) (by decide +kernel) rfl, ec_in (i := 633) (by decide +kernel) rfl⟩
def ca_X9_shed : Nat → Option (Nat × Option Nat × ex_S) := fun ix => match ix with
  | 134 => some (3, some 6, sp_X6_shedding)
  | 64 => some (2, some 9, sp_X9_counted)
  | _ => none
theorem ck_X9_shed (l : Launch) : ∀ (ix n : Nat) (rc : Option Nat) (sp : ex_S), ca_X9_shed ix = some (n, rc, sp) → ex_cok l RX9 4 92 ix n rc sp := by
  intro ix n rc sp h
  unfold ca_X9_shed at h
  split at h
  · cases h; exact ec_cV (mt_X6_shedding l) cw_X6_shedding cv_X6_shedding (by decide) (by decide) (Or.inl (ec_in (i := 635) (by decide +kernel) rfl)) (T := TX6) (N := 15) rfl (by decide) (by decide +kernel)
  · cases h; exact ec_cV (mt_X9_counted l) cw_X9_counted cv_X9_counted (by decide) (by decide) (Or.inl (ec_in (i := 424) (by decide +kernel) rfl)) (T := TX9) (N := 10) rfl (by decide) (by decide +kernel)
  · cases h
def cx_X9_shed : ex_K := (RX9, ec_fx fl_X9, ec_cx cl_X9, sl_X9, ca_X9_shed, ec_nz, ec_no)
theorem ok_X9_shed (l : Launch) : ex_ok l 4 92 cx_X9_shed := ⟨ec_fok fo_X9, ec_cok co_X9, so_X9, ck_X9_shed l, fun _ h => (by cases h), fun _ h => (by cases h), fun _ h => (by cases h), fun _ _ h => (by cases h)⟩
def sp_X9_shed : ex_S := ex_sp cx_X9_shed cX9_shed 3 (some .int) 10
theorem mt_X9_shed (l : Launch) : ex_Met l yX9_shed cX9_shed 3 (some .int) 4 92 sp_X9_shed := ex_inl (by decide) rfl (ok_X9_shed l)
theorem cw_X9_sun : ec_cw yX9_sun cX9_sun 3 (some .int) := ⟨ec_in (i := 664) (by decide +kernel) rfl, ec_in (i := 58) (by decide +kernel) rfl, by decide, by decide⟩
theorem cv_X9_sun : Cond.instanceMethod yX9_sun ∈ ec_tb ∧ Cond.selects yX9_sun.cls yX9_sun yX9_sun ∈ ec_tb := ⟨ec_in (i := 662) (by decide +kernel) rfl, ec_in (i := 663) (by decide +kernel) rfl⟩
def ca_X9_sun : Nat → Option (Nat × Option Nat × ex_S) := fun ix => match ix with
  | 137 => some (3, some 6, sp_X6_setSun)
  | 64 => some (2, some 9, sp_X9_counted)
  | _ => none
theorem ck_X9_sun (l : Launch) : ∀ (ix n : Nat) (rc : Option Nat) (sp : ex_S), ca_X9_sun ix = some (n, rc, sp) → ex_cok l RX9 2 43 ix n rc sp := by
  intro ix n rc sp h
  unfold ca_X9_sun at h
  split at h
  · cases h; exact ec_cV (mt_X6_setSun l) cw_X6_setSun cv_X6_setSun (by decide) (by decide) (Or.inl (ec_in (i := 665) (by decide +kernel) rfl)) (T := TX6) (N := 15) rfl (by decide) (by decide +kernel)
  · cases h; exact ec_cV (mt_X9_counted l) cw_X9_counted cv_X9_counted (by decide) (by decide) (Or.inl (ec_in (i := 424) (by decide +kernel) rfl)) (T := TX9) (N := 10) rfl (by decide) (by decide +kernel)
  · cases h
def cx_X9_sun : ex_K := (RX9, ec_fx fl_X9, ec_cx cl_X9, sl_X9, ca_X9_sun, ec_nz, ec_no)
theorem ok_X9_sun (l : Launch) : ex_ok l 2 43 cx_X9_sun := ⟨ec_fok fo_X9, ec_cok co_X9, so_X9, ck_X9_sun l, fun _ h => (by cases h), fun _ h => (by cases h), fun _ h => (by cases h), fun _ _ h => (by cases h)⟩
def sp_X9_sun : ex_S := ex_sp cx_X9_sun cX9_sun 3 (some .int) 10
theorem mt_X9_sun (l : Launch) : ex_Met l yX9_sun cX9_sun 3 (some .int) 2 43 sp_X9_sun := ex_inl (by decide) rfl (ok_X9_sun l)
theorem cw_X9_battery : ec_cw yX9_battery cX9_battery 2 (some .int) := ⟨ec_in (i := 675) (by decide +kernel) rfl, ec_in (i := 58) (by decide +kernel) rfl, by decide, by decide⟩
theorem cv_X9_battery : Cond.instanceMethod yX9_battery ∈ ec_tb ∧ Cond.selects yX9_battery.cls yX9_battery yX9_battery ∈ ec_tb := ⟨ec_in (i := 673) (by decide +kernel) rfl, ec_in (i := 674) (by decide +kernel) rfl⟩
def ca_X9_battery : Nat → Option (Nat × Option Nat × ex_S) := fun ix => match ix with
  | 140 => some (2, some 6, sp_X6_setBattery)
  | 64 => some (2, some 9, sp_X9_counted)
  | _ => none
theorem ck_X9_battery (l : Launch) : ∀ (ix n : Nat) (rc : Option Nat) (sp : ex_S), ca_X9_battery ix = some (n, rc, sp) → ex_cok l RX9 1 22 ix n rc sp := by
  intro ix n rc sp h
  unfold ca_X9_battery at h
  split at h
  · cases h; exact ec_cV (mt_X6_setBattery l) cw_X6_setBattery cv_X6_setBattery (by decide) (by decide) (Or.inl (ec_in (i := 676) (by decide +kernel) rfl)) (T := TX6) (N := 15) rfl (by decide) (by decide +kernel)
  · cases h; exact ec_cV (mt_X9_counted l) cw_X9_counted cv_X9_counted (by decide) (by decide) (Or.inl (ec_in (i := 424) (by decide +kernel) rfl)) (T := TX9) (N := 10) rfl (by decide) (by decide +kernel)
  · cases h
def cx_X9_battery : ex_K := (RX9, ec_fx fl_X9, ec_cx cl_X9, sl_X9, ca_X9_battery, ec_nz, ec_no)
theorem ok_X9_battery (l : Launch) : ex_ok l 1 22 cx_X9_battery := ⟨ec_fok fo_X9, ec_cok co_X9, so_X9, ck_X9_battery l, fun _ h => (by cases h), fun _ h => (by cases h), fun _ h => (by cases h), fun _ _ h => (by cases h)⟩
def sp_X9_battery : ex_S := ex_sp cx_X9_battery cX9_battery 2 (some .int) 9
theorem mt_X9_battery (l : Launch) : ex_Met l yX9_battery cX9_battery 2 (some .int) 1 22 sp_X9_battery := ex_inl (by decide) rfl (ok_X9_battery l)
theorem cw_X9_bounds : ec_cw yX9_bounds cX9_bounds 4 (some .int) := ⟨ec_in (i := 683) (by decide +kernel) rfl, ec_in (i := 58) (by decide +kernel) rfl, by decide, by decide⟩
theorem cv_X9_bounds : Cond.instanceMethod yX9_bounds ∈ ec_tb ∧ Cond.selects yX9_bounds.cls yX9_bounds yX9_bounds ∈ ec_tb := ⟨ec_in (i := 681) (by decide +kernel) rfl, ec_in (i := 682) (by decide +kernel) rfl⟩
def ca_X9_bounds : Nat → Option (Nat × Option Nat × ex_S) := fun ix => match ix with
  | 147 => some (4, some 1, sp_X1_setAll)
  | 64 => some (2, some 9, sp_X9_counted)
  | _ => none
theorem ck_X9_bounds (l : Launch) : ∀ (ix n : Nat) (rc : Option Nat) (sp : ex_S), ca_X9_bounds ix = some (n, rc, sp) → ex_cok l RX9 2 43 ix n rc sp := by
  intro ix n rc sp h
  unfold ca_X9_bounds at h
  split at h
  · cases h; exact ec_cV (mt_X1_setAll l) cw_X1_setAll cv_X1_setAll (by decide) (by decide) (Or.inl (ec_in (i := 684) (by decide +kernel) rfl)) (T := TX1) (N := 6) rfl (by decide) (by decide +kernel)
  · cases h; exact ec_cV (mt_X9_counted l) cw_X9_counted cv_X9_counted (by decide) (by decide) (Or.inl (ec_in (i := 424) (by decide +kernel) rfl)) (T := TX9) (N := 10) rfl (by decide) (by decide +kernel)
  · cases h
def cx_X9_bounds : ex_K := (RX9, ec_fx fl_X9, ec_cx cl_X9, sl_X9, ca_X9_bounds, ec_nz, ec_no)
theorem ok_X9_bounds (l : Launch) : ex_ok l 2 43 cx_X9_bounds := ⟨ec_fok fo_X9, ec_cok co_X9, so_X9, ck_X9_bounds l, fun _ h => (by cases h), fun _ h => (by cases h), fun _ h => (by cases h), fun _ _ h => (by cases h)⟩
def sp_X9_bounds : ex_S := ex_sp cx_X9_bounds cX9_bounds 4 (some .int) 11
theorem mt_X9_bounds (l : Launch) : ex_Met l yX9_bounds cX9_bounds 4 (some .int) 2 43 sp_X9_bounds := ex_inl (by decide) rfl (ok_X9_bounds l)
theorem cw_X9_ticks : ec_cw yX9_ticks cX9_ticks 3 (some .int) := ⟨ec_in (i := 696) (by decide +kernel) rfl, ec_in (i := 58) (by decide +kernel) rfl, by decide, by decide⟩
theorem cv_X9_ticks : Cond.instanceMethod yX9_ticks ∈ ec_tb ∧ Cond.selects yX9_ticks.cls yX9_ticks yX9_ticks ∈ ec_tb := ⟨ec_in (i := 694) (by decide +kernel) rfl, ec_in (i := 695) (by decide +kernel) rfl⟩
def ca_X9_ticks : Nat → Option (Nat × Option Nat × ex_S) := fun ix => match ix with
  | 64 => some (2, some 9, sp_X9_counted)
  | 156 => some (1, some 8, sp_X8_passTick)
  | _ => none
theorem ck_X9_ticks (l : Launch) : ∀ (ix n : Nat) (rc : Option Nat) (sp : ex_S), ca_X9_ticks ix = some (n, rc, sp) → ex_cok l RX9 6 134 ix n rc sp := by
  intro ix n rc sp h
  unfold ca_X9_ticks at h
  split at h
  · cases h; exact ec_cV (mt_X9_counted l) cw_X9_counted cv_X9_counted (by decide) (by decide) (Or.inl (ec_in (i := 424) (by decide +kernel) rfl)) (T := TX9) (N := 10) rfl (by decide) (by decide +kernel)
  · cases h; exact ec_cV (mt_X8_passTick l) cw_X8_passTick cv_X8_passTick (by decide) (by decide) (Or.inl (ec_in (i := 698) (by decide +kernel) rfl)) (T := TX8) (N := 7) rfl (by decide) (by decide +kernel)
  · cases h
def cx_X9_ticks : ex_K := (RX9, ec_fx fl_X9, ec_cx cl_X9, sl_X9, ca_X9_ticks, ec_nz, ec_no)
theorem ok_X9_ticks (l : Launch) : ex_ok l 6 134 cx_X9_ticks := ⟨ec_fok fo_X9, ec_cok co_X9, so_X9, ck_X9_ticks l, fun _ h => (by cases h), fun _ h => (by cases h), fun _ h => (by cases h), fun _ _ h => (by cases h)⟩
def sp_X9_ticks : ex_S := ex_sp cx_X9_ticks cX9_ticks 3 (some .int) 400
theorem mt_X9_ticks (l : Launch) : ex_Met l yX9_ticks cX9_ticks 3 (some .int) 6 134 sp_X9_ticks := ex_inl (by decide) rfl (ok_X9_ticks l)
theorem cw_X9_broke : ec_cw yX9_broke cX9_broke 2 (some .int) := ⟨ec_in (i := 854) (by decide +kernel) rfl, ec_in (i := 58) (by decide +kernel) rfl, by decide, by decide⟩
theorem cv_X9_broke : Cond.instanceMethod yX9_broke ∈ ec_tb ∧ Cond.selects yX9_broke.cls yX9_broke yX9_broke ∈ ec_tb := ⟨ec_in (i := 852) (by decide +kernel) rfl, ec_in (i := 853) (by decide +kernel) rfl⟩
def ca_X9_broke : Nat → Option (Nat × Option Nat × ex_S) := fun ix => match ix with
  | 160 => some (2, some 1, sp_X1_tellFirstBreak)
  | 64 => some (2, some 9, sp_X9_counted)
  | _ => none
theorem ck_X9_broke (l : Launch) : ∀ (ix n : Nat) (rc : Option Nat) (sp : ex_S), ca_X9_broke ix = some (n, rc, sp) → ex_cok l RX9 1 21 ix n rc sp := by
  intro ix n rc sp h
  unfold ca_X9_broke at h
  split at h
  · cases h; exact ec_cV (mt_X1_tellFirstBreak l) cw_X1_tellFirstBreak cv_X1_tellFirstBreak (by decide) (by decide) (Or.inl (ec_in (i := 855) (by decide +kernel) rfl)) (T := TX1) (N := 6) rfl (by decide) (by decide +kernel)
  · cases h; exact ec_cV (mt_X9_counted l) cw_X9_counted cv_X9_counted (by decide) (by decide) (Or.inl (ec_in (i := 424) (by decide +kernel) rfl)) (T := TX9) (N := 10) rfl (by decide) (by decide +kernel)
  · cases h
def cx_X9_broke : ex_K := (RX9, ec_fx fl_X9, ec_cx cl_X9, sl_X9, ca_X9_broke, ec_nz, ec_no)
theorem ok_X9_broke (l : Launch) : ex_ok l 1 21 cx_X9_broke := ⟨ec_fok fo_X9, ec_cok co_X9, so_X9, ck_X9_broke l, fun _ h => (by cases h), fun _ h => (by cases h), fun _ h => (by cases h), fun _ _ h => (by cases h)⟩
def sp_X9_broke : ex_S := ex_sp cx_X9_broke cX9_broke 2 (some .int) 9
theorem mt_X9_broke (l : Launch) : ex_Met l yX9_broke cX9_broke 2 (some .int) 1 21 sp_X9_broke := ex_inl (by decide) rfl (ok_X9_broke l)
theorem cw_X9_ahead : ec_cw yX9_ahead cX9_ahead 3 (some .int) := ⟨ec_in (i := 863) (by decide +kernel) rfl, ec_in (i := 58) (by decide +kernel) rfl, by decide, by decide⟩
theorem cv_X9_ahead : Cond.instanceMethod yX9_ahead ∈ ec_tb ∧ Cond.selects yX9_ahead.cls yX9_ahead yX9_ahead ∈ ec_tb := ⟨ec_in (i := 861) (by decide +kernel) rfl, ec_in (i := 862) (by decide +kernel) rfl⟩
def ca_X9_ahead : Nat → Option (Nat × Option Nat × ex_S) := fun ix => match ix with
  | 64 => some (2, some 9, sp_X9_counted)
  | 163 => some (2, some 8, sp_X8_becomeLike)
  | 156 => some (1, some 8, sp_X8_passTick)
  | _ => none
theorem ck_X9_ahead (l : Launch) : ∀ (ix n : Nat) (rc : Option Nat) (sp : ex_S), ca_X9_ahead ix = some (n, rc, sp) → ex_cok l RX9 6 134 ix n rc sp := by
  intro ix n rc sp h
  unfold ca_X9_ahead at h
  split at h
  · cases h; exact ec_cV (mt_X9_counted l) cw_X9_counted cv_X9_counted (by decide) (by decide) (Or.inl (ec_in (i := 424) (by decide +kernel) rfl)) (T := TX9) (N := 10) rfl (by decide) (by decide +kernel)
  · cases h; exact ec_cV (mt_X8_becomeLike l) cw_X8_becomeLike cv_X8_becomeLike (by decide) (by decide) (Or.inl (ec_in (i := 864) (by decide +kernel) rfl)) (T := TX8) (N := 7) rfl (by decide) (by decide +kernel)
  · cases h; exact ec_cV (mt_X8_passTick l) cw_X8_passTick cv_X8_passTick (by decide) (by decide) (Or.inl (ec_in (i := 698) (by decide +kernel) rfl)) (T := TX8) (N := 7) rfl (by decide) (by decide +kernel)
  · cases h
def cx_X9_ahead : ex_K := (RX9, ec_fx fl_X9, ec_cx cl_X9, sl_X9, ca_X9_ahead, ec_nz, ec_no)
theorem ok_X9_ahead (l : Launch) : ex_ok l 6 134 cx_X9_ahead := ⟨ec_fok fo_X9, ec_cok co_X9, so_X9, ck_X9_ahead l, fun _ h => (by cases h), fun _ h => (by cases h), fun _ h => (by cases h), fun _ _ h => (by cases h)⟩
def sp_X9_ahead : ex_S := ex_sp cx_X9_ahead cX9_ahead 3 (some .int) 400
theorem mt_X9_ahead (l : Launch) : ex_Met l yX9_ahead cX9_ahead 3 (some .int) 6 134 sp_X9_ahead := ex_inl (by decide) rfl (ok_X9_ahead l)
theorem cw_X9_line : ec_cw yX9_line cX9_line 5 (some .int) := ⟨ec_in (i := 904) (by decide +kernel) rfl, ec_in (i := 58) (by decide +kernel) rfl, by decide, by decide⟩
theorem cv_X9_line : Cond.instanceMethod yX9_line ∈ ec_tb ∧ Cond.selects yX9_line.cls yX9_line yX9_line ∈ ec_tb := ⟨ec_in (i := 902) (by decide +kernel) rfl, ec_in (i := 903) (by decide +kernel) rfl⟩
def ca_X9_line : Nat → Option (Nat × Option Nat × ex_S) := fun ix => match ix with
  | 64 => some (2, some 9, sp_X9_counted)
  | 178 => some (5, some 7, sp_X7_addLine)
  | _ => none
theorem ck_X9_line (l : Launch) : ∀ (ix n : Nat) (rc : Option Nat) (sp : ex_S), ca_X9_line ix = some (n, rc, sp) → ex_cok l RX9 1 24 ix n rc sp := by
  intro ix n rc sp h
  unfold ca_X9_line at h
  split at h
  · cases h; exact ec_cV (mt_X9_counted l) cw_X9_counted cv_X9_counted (by decide) (by decide) (Or.inl (ec_in (i := 424) (by decide +kernel) rfl)) (T := TX9) (N := 10) rfl (by decide) (by decide +kernel)
  · cases h; exact ec_cV (mt_X7_addLine l) cw_X7_addLine cv_X7_addLine (by decide) (by decide) (Or.inl (ec_in (i := 906) (by decide +kernel) rfl)) (T := TX7) (N := 5) rfl (by decide) (by decide +kernel)
  · cases h
def cx_X9_line : ex_K := (RX9, ec_fx fl_X9, ec_cx cl_X9, sl_X9, ca_X9_line, ec_nz, ec_no)
theorem ok_X9_line (l : Launch) : ex_ok l 1 24 cx_X9_line := ⟨ec_fok fo_X9, ec_cok co_X9, so_X9, ck_X9_line l, fun _ h => (by cases h), fun _ h => (by cases h), fun _ h => (by cases h), fun _ _ h => (by cases h)⟩
def sp_X9_line : ex_S := ex_sp cx_X9_line cX9_line 5 (some .int) 29
theorem mt_X9_line (l : Launch) : ex_Met l yX9_line cX9_line 5 (some .int) 1 24 sp_X9_line := ex_inl (by decide) rfl (ok_X9_line l)
theorem cw_X9_erase : ec_cw yX9_erase cX9_erase 2 (some .int) := ⟨ec_in (i := 914) (by decide +kernel) rfl, ec_in (i := 58) (by decide +kernel) rfl, by decide, by decide⟩
theorem cv_X9_erase : Cond.instanceMethod yX9_erase ∈ ec_tb ∧ Cond.selects yX9_erase.cls yX9_erase yX9_erase ∈ ec_tb := ⟨ec_in (i := 912) (by decide +kernel) rfl, ec_in (i := 913) (by decide +kernel) rfl⟩
def ca_X9_erase : Nat → Option (Nat × Option Nat × ex_S) := fun ix => match ix with
  | 64 => some (2, some 9, sp_X9_counted)
  | _ => none
theorem ck_X9_erase (l : Launch) : ∀ (ix n : Nat) (rc : Option Nat) (sp : ex_S), ca_X9_erase ix = some (n, rc, sp) → ex_cok l RX9 1 21 ix n rc sp := by
  intro ix n rc sp h
  unfold ca_X9_erase at h
  split at h
  · cases h; exact ec_cV (mt_X9_counted l) cw_X9_counted cv_X9_counted (by decide) (by decide) (Or.inl (ec_in (i := 424) (by decide +kernel) rfl)) (T := TX9) (N := 10) rfl (by decide) (by decide +kernel)
  · cases h
def cx_X9_erase : ex_K := (RX9, ec_fx fl_X9, ec_cx cl_X9, sl_X9, ca_X9_erase, ec_nz, ec_no)
theorem ok_X9_erase (l : Launch) : ex_ok l 1 21 cx_X9_erase := ⟨ec_fok fo_X9, ec_cok co_X9, so_X9, ck_X9_erase l, fun _ h => (by cases h), fun _ h => (by cases h), fun _ h => (by cases h), fun _ _ h => (by cases h)⟩
def sp_X9_erase : ex_S := ex_sp cx_X9_erase cX9_erase 2 (some .int) 20
theorem mt_X9_erase (l : Launch) : ex_Met l yX9_erase cX9_erase 2 (some .int) 1 21 sp_X9_erase := ex_inl (by decide) rfl (ok_X9_erase l)
theorem cw_X9_begin : ec_cw yX9_begin cX9_begin 1 (some .int) := ⟨ec_in (i := 918) (by decide +kernel) rfl, ec_in (i := 58) (by decide +kernel) rfl, by decide, by decide⟩
theorem cv_X9_begin : Cond.instanceMethod yX9_begin ∈ ec_tb ∧ Cond.selects yX9_begin.cls yX9_begin yX9_begin ∈ ec_tb := ⟨ec_in (i := 916) (by decide +kernel) rfl, ec_in (i := 917) (by decide +kernel) rfl⟩
def ca_X9_begin : Nat → Option (Nat × Option Nat × ex_S) := fun ix => match ix with
  | 64 => some (2, some 9, sp_X9_counted)
  | 184 => some (1, some 2, sp_X2_start)
  | _ => none
theorem ck_X9_begin (l : Launch) : ∀ (ix n : Nat) (rc : Option Nat) (sp : ex_S), ca_X9_begin ix = some (n, rc, sp) → ex_cok l RX9 1 21 ix n rc sp := by
  intro ix n rc sp h
  unfold ca_X9_begin at h
  split at h
  · cases h; exact ec_cV (mt_X9_counted l) cw_X9_counted cv_X9_counted (by decide) (by decide) (Or.inl (ec_in (i := 424) (by decide +kernel) rfl)) (T := TX9) (N := 10) rfl (by decide) (by decide +kernel)
  · cases h; exact ec_cV (mt_X2_start l) cw_X2_start cv_X2_start (by decide) (by decide) (Or.inl (ec_in (i := 919) (by decide +kernel) rfl)) (T := TX2) (N := 7) rfl (by decide) (by decide +kernel)
  · cases h
def cx_X9_begin : ex_K := (RX9, ec_fx fl_X9, ec_cx cl_X9, sl_X9, ca_X9_begin, ec_nz, ec_no)
theorem ok_X9_begin (l : Launch) : ex_ok l 1 21 cx_X9_begin := ⟨ec_fok fo_X9, ec_cok co_X9, so_X9, ck_X9_begin l, fun _ h => (by cases h), fun _ h => (by cases h), fun _ h => (by cases h), fun _ _ h => (by cases h)⟩
def sp_X9_begin : ex_S := ex_sp cx_X9_begin cX9_begin 1 (some .int) 20
theorem mt_X9_begin (l : Launch) : ex_Met l yX9_begin cX9_begin 1 (some .int) 1 21 sp_X9_begin := ex_inl (by decide) rfl (ok_X9_begin l)
theorem cw_X9_halt : ec_cw yX9_halt cX9_halt 2 (some .int) := ⟨ec_in (i := 926) (by decide +kernel) rfl, ec_in (i := 58) (by decide +kernel) rfl, by decide, by decide⟩
theorem cv_X9_halt : Cond.instanceMethod yX9_halt ∈ ec_tb ∧ Cond.selects yX9_halt.cls yX9_halt yX9_halt ∈ ec_tb := ⟨ec_in (i := 924) (by decide +kernel) rfl, ec_in (i := 925) (by decide +kernel) rfl⟩
def ca_X9_halt : Nat → Option (Nat × Option Nat × ex_S) := fun ix => match ix with
  | 187 => some (2, some 2, sp_X2_setHalted)
  | 64 => some (2, some 9, sp_X9_counted)
  | _ => none
theorem ck_X9_halt (l : Launch) : ∀ (ix n : Nat) (rc : Option Nat) (sp : ex_S), ca_X9_halt ix = some (n, rc, sp) → ex_cok l RX9 2 41 ix n rc sp := by
  intro ix n rc sp h
  unfold ca_X9_halt at h
  split at h
  · cases h; exact ec_cV (mt_X2_setHalted l) cw_X2_setHalted cv_X2_setHalted (by decide) (by decide) (Or.inl (ec_in (i := 927) (by decide +kernel) rfl)) (T := TX2) (N := 7) rfl (by decide) (by decide +kernel)
  · cases h; exact ec_cV (mt_X9_counted l) cw_X9_counted cv_X9_counted (by decide) (by decide) (Or.inl (ec_in (i := 424) (by decide +kernel) rfl)) (T := TX9) (N := 10) rfl (by decide) (by decide +kernel)
  · cases h
def cx_X9_halt : ex_K := (RX9, ec_fx fl_X9, ec_cx cl_X9, sl_X9, ca_X9_halt, ec_nz, ec_no)
theorem ok_X9_halt (l : Launch) : ex_ok l 2 41 cx_X9_halt := ⟨ec_fok fo_X9, ec_cok co_X9, so_X9, ck_X9_halt l, fun _ h => (by cases h), fun _ h => (by cases h), fun _ h => (by cases h), fun _ _ h => (by cases h)⟩
def sp_X9_halt : ex_S := ex_sp cx_X9_halt cX9_halt 2 (some .int) 9
theorem mt_X9_halt (l : Launch) : ex_Met l yX9_halt cX9_halt 2 (some .int) 2 41 sp_X9_halt := ex_inl (by decide) rfl (ok_X9_halt l)
theorem cw_X9_abort : ec_cw yX9_abort cX9_abort 1 (some .int) := ⟨ec_in (i := 937) (by decide +kernel) rfl, ec_in (i := 58) (by decide +kernel) rfl, by decide, by decide⟩
theorem cv_X9_abort : Cond.instanceMethod yX9_abort ∈ ec_tb ∧ Cond.selects yX9_abort.cls yX9_abort yX9_abort ∈ ec_tb := ⟨ec_in (i := 935) (by decide +kernel) rfl, ec_in (i := 936) (by decide +kernel) rfl⟩
def ca_X9_abort : Nat → Option (Nat × Option Nat × ex_S) := fun ix => match ix with
  | 64 => some (2, some 9, sp_X9_counted)
  | 190 => some (1, some 2, sp_X2_giveUp)
  | 193 => some (1, none, sp_X9_one)
  | _ => none
theorem ck_X9_abort (l : Launch) : ∀ (ix n : Nat) (rc : Option Nat) (sp : ex_S), ca_X9_abort ix = some (n, rc, sp) → ex_cok l RX9 2 41 ix n rc sp := by
  intro ix n rc sp h
  unfold ca_X9_abort at h
  split at h
  · cases h; exact ec_cV (mt_X9_counted l) cw_X9_counted cv_X9_counted (by decide) (by decide) (Or.inl (ec_in (i := 424) (by decide +kernel) rfl)) (T := TX9) (N := 10) rfl (by decide) (by decide +kernel)
  · cases h; exact ec_cV (mt_X2_giveUp l) cw_X2_giveUp cv_X2_giveUp (by decide) (by decide) (Or.inl (ec_in (i := 938) (by decide +kernel) rfl)) (T := TX2) (N := 7) rfl (by decide) (by decide +kernel)
  · cases h; exact ec_cS (mt_X9_one l) cw_X9_one cv_X9_one (by decide) (by decide) (Or.inl (ec_in (i := 939) (by decide +kernel) rfl)) (by decide +kernel)
  · cases h
def cx_X9_abort : ex_K := (RX9, ec_fx fl_X9, ec_cx cl_X9, sl_X9, ca_X9_abort, ec_nz, ec_no)
theorem ok_X9_abort (l : Launch) : ex_ok l 2 41 cx_X9_abort := ⟨ec_fok fo_X9, ec_cok co_X9, so_X9, ck_X9_abort l, fun _ h => (by cases h), fun _ h => (by cases h), fun _ h => (by cases h), fun _ _ h => (by cases h)⟩
def sp_X9_abort : ex_S := ex_sp cx_X9_abort cX9_abort 1 (some .int) 20
theorem mt_X9_abort (l : Launch) : ex_Met l yX9_abort cX9_abort 1 (some .int) 2 41 sp_X9_abort := ex_inl (by decide) rfl (ok_X9_abort l)
theorem cw_X9_text : ec_cw yX9_text cX9_text 2 (some .int) := ⟨ec_in (i := 943) (by decide +kernel) rfl, ec_in (i := 58) (by decide +kernel) rfl, by decide, by decide⟩
theorem cv_X9_text : Cond.instanceMethod yX9_text ∈ ec_tb ∧ Cond.selects yX9_text.cls yX9_text yX9_text ∈ ec_tb := ⟨ec_in (i := 941) (by decide +kernel) rfl, ec_in (i := 942) (by decide +kernel) rfl⟩
def ca_X9_text : Nat → Option (Nat × Option Nat × ex_S) := fun ix => match ix with
  | 197 => some (2, some 2, sp_X2_tellOf)
  | 64 => some (2, some 9, sp_X9_counted)
  | _ => none
theorem ck_X9_text (l : Launch) : ∀ (ix n : Nat) (rc : Option Nat) (sp : ex_S), ca_X9_text ix = some (n, rc, sp) → ex_cok l RX9 2 41 ix n rc sp := by
  intro ix n rc sp h
  unfold ca_X9_text at h
  split at h
  · cases h; exact ec_cV (mt_X2_tellOf l) cw_X2_tellOf cv_X2_tellOf (by decide) (by decide) (Or.inl (ec_in (i := 944) (by decide +kernel) rfl)) (T := TX2) (N := 7) rfl (by decide) (by decide +kernel)
  · cases h; exact ec_cV (mt_X9_counted l) cw_X9_counted cv_X9_counted (by decide) (by decide) (Or.inl (ec_in (i := 424) (by decide +kernel) rfl)) (T := TX9) (N := 10) rfl (by decide) (by decide +kernel)
  · cases h
def cx_X9_text : ex_K := (RX9, ec_fx fl_X9, ec_cx cl_X9, sl_X9, ca_X9_text, ec_nz, ec_no)
theorem ok_X9_text (l : Launch) : ex_ok l 2 41 cx_X9_text := ⟨ec_fok fo_X9, ec_cok co_X9, so_X9, ck_X9_text l, fun _ h => (by cases h), fun _ h => (by cases h), fun _ h => (by cases h), fun _ _ h => (by cases h)⟩
def sp_X9_text : ex_S := ex_sp cx_X9_text cX9_text 2 (some .int) 9
theorem mt_X9_text (l : Launch) : ex_Met l yX9_text cX9_text 2 (some .int) 2 41 sp_X9_text := ex_inl (by decide) rfl (ok_X9_text l)
theorem cw_X9_hunt : ec_cw yX9_hunt cX9_hunt 1 (some .int) := ⟨ec_in (i := 952) (by decide +kernel) rfl, ec_in (i := 58) (by decide +kernel) rfl, by decide, by decide⟩
theorem cv_X9_hunt : Cond.instanceMethod yX9_hunt ∈ ec_tb ∧ Cond.selects yX9_hunt.cls yX9_hunt yX9_hunt ∈ ec_tb := ⟨ec_in (i := 950) (by decide +kernel) rfl, ec_in (i := 951) (by decide +kernel) rfl⟩
def ca_X9_hunt : Nat → Option (Nat × Option Nat × ex_S) := fun ix => match ix with
  | 199 => some (2, some 4, sp_X4_startOver)
  | _ => none
theorem ck_X9_hunt (l : Launch) : ∀ (ix n : Nat) (rc : Option Nat) (sp : ex_S), ca_X9_hunt ix = some (n, rc, sp) → ex_cok l RX9 1 21 ix n rc sp := by
  intro ix n rc sp h
  unfold ca_X9_hunt at h
  split at h
  · cases h; exact ec_cV (mt_X4_startOver l) cw_X4_startOver cv_X4_startOver (by decide) (by decide) (Or.inl (ec_in (i := 953) (by decide +kernel) rfl)) (T := TX4) (N := 2) rfl (by decide) (by decide +kernel)
  · cases h
def cx_X9_hunt : ex_K := (RX9, ec_fx fl_X9, ec_cx cl_X9, sl_X9, ca_X9_hunt, ec_nz, ec_no)
theorem ok_X9_hunt (l : Launch) : ex_ok l 1 21 cx_X9_hunt := ⟨ec_fok fo_X9, ec_cok co_X9, so_X9, ck_X9_hunt l, fun _ h => (by cases h), fun _ h => (by cases h), fun _ h => (by cases h), fun _ _ h => (by cases h)⟩
def sp_X9_hunt : ex_S := ex_sp cx_X9_hunt cX9_hunt 1 (some .int) 8
theorem mt_X9_hunt (l : Launch) : ex_Met l yX9_hunt cX9_hunt 1 (some .int) 1 21 sp_X9_hunt := ex_inl (by decide) rfl (ok_X9_hunt l)
theorem cw_X9_test : ec_cw yX9_test cX9_test 3 (some .int) := ⟨ec_in (i := 960) (by decide +kernel) rfl, ec_in (i := 58) (by decide +kernel) rfl, by decide, by decide⟩
theorem cv_X9_test : Cond.instanceMethod yX9_test ∈ ec_tb ∧ Cond.selects yX9_test.cls yX9_test yX9_test ∈ ec_tb := ⟨ec_in (i := 958) (by decide +kernel) rfl, ec_in (i := 959) (by decide +kernel) rfl⟩
def ca_X9_test : Nat → Option (Nat × Option Nat × ex_S) := fun ix => match ix with
  | 203 => some (4, some 4, sp_X4_narrow)
  | 64 => some (2, some 9, sp_X9_counted)
  | _ => none
theorem ck_X9_test (l : Launch) : ∀ (ix n : Nat) (rc : Option Nat) (sp : ex_S), ca_X9_test ix = some (n, rc, sp) → ex_cok l RX9 3 70 ix n rc sp := by
  intro ix n rc sp h
  unfold ca_X9_test at h
  split at h
  · cases h; exact ec_cV (mt_X4_narrow l) cw_X4_narrow cv_X4_narrow (by decide) (by decide) (Or.inl (ec_in (i := 961) (by decide +kernel) rfl)) (T := TX4) (N := 2) rfl (by decide) (by decide +kernel)
  · cases h; exact ec_cV (mt_X9_counted l) cw_X9_counted cv_X9_counted (by decide) (by decide) (Or.inl (ec_in (i := 424) (by decide +kernel) rfl)) (T := TX9) (N := 10) rfl (by decide) (by decide +kernel)
  · cases h
def cx_X9_test : ex_K := (RX9, ec_fx fl_X9, ec_cx cl_X9, sl_X9, ca_X9_test, ec_nz, ec_no)
theorem ok_X9_test (l : Launch) : ex_ok l 3 70 cx_X9_test := ⟨ec_fok fo_X9, ec_cok co_X9, so_X9, ck_X9_test l, fun _ h => (by cases h), fun _ h => (by cases h), fun _ h => (by cases h), fun _ _ h => (by cases h)⟩
def sp_X9_test : ex_S := ex_sp cx_X9_test cX9_test 3 (some .int) 12
theorem mt_X9_test (l : Launch) : ex_Met l yX9_test cX9_test 3 (some .int) 3 70 sp_X9_test := ex_inl (by decide) rfl (ok_X9_test l)
theorem cw_X9_best : ec_cw yX9_best cX9_best 2 (some .int) := ⟨ec_in (i := 979) (by decide +kernel) rfl, ec_in (i := 58) (by decide +kernel) rfl, by decide, by decide⟩
theorem cv_X9_best : Cond.instanceMethod yX9_best ∈ ec_tb ∧ Cond.selects yX9_best.cls yX9_best yX9_best ∈ ec_tb := ⟨ec_in (i := 977) (by decide +kernel) rfl, ec_in (i := 978) (by decide +kernel) rfl⟩
def ca_X9_best : Nat → Option (Nat × Option Nat × ex_S) := fun ix => match ix with
  | 207 => some (3, some 4, sp_X4_bestTest)
  | 64 => some (2, some 9, sp_X9_counted)
  | _ => none
theorem ck_X9_best (l : Launch) : ∀ (ix n : Nat) (rc : Option Nat) (sp : ex_S), ca_X9_best ix = some (n, rc, sp) → ex_cok l RX9 4 98 ix n rc sp := by
  intro ix n rc sp h
  unfold ca_X9_best at h
  split at h
  · cases h; exact ec_cV (mt_X4_bestTest l) cw_X4_bestTest cv_X4_bestTest (by decide) (by decide) (Or.inl (ec_in (i := 980) (by decide +kernel) rfl)) (T := TX4) (N := 2) rfl (by decide) (by decide +kernel)
  · cases h; exact ec_cV (mt_X9_counted l) cw_X9_counted cv_X9_counted (by decide) (by decide) (Or.inl (ec_in (i := 424) (by decide +kernel) rfl)) (T := TX9) (N := 10) rfl (by decide) (by decide +kernel)
  · cases h
def cx_X9_best : ex_K := (RX9, ec_fx fl_X9, ec_cx cl_X9, sl_X9, ca_X9_best, ec_nz, ec_no)
theorem ok_X9_best (l : Launch) : ex_ok l 4 98 cx_X9_best := ⟨ec_fok fo_X9, ec_cok co_X9, so_X9, ck_X9_best l, fun _ h => (by cases h), fun _ h => (by cases h), fun _ h => (by cases h), fun _ _ h => (by cases h)⟩
def sp_X9_best : ex_S := ex_sp cx_X9_best cX9_best 2 (some .int) 11
theorem mt_X9_best (l : Launch) : ex_Met l yX9_best cX9_best 2 (some .int) 4 98 sp_X9_best := ex_inl (by decide) rfl (ok_X9_best l)
theorem cw_X9_suspects : ec_cw yX9_suspects cX9_suspects 1 (some .int) := ⟨ec_in (i := 995) (by decide +kernel) rfl, ec_in (i := 58) (by decide +kernel) rfl, by decide, by decide⟩
theorem cv_X9_suspects : Cond.instanceMethod yX9_suspects ∈ ec_tb ∧ Cond.selects yX9_suspects.cls yX9_suspects yX9_suspects ∈ ec_tb := ⟨ec_in (i := 993) (by decide +kernel) rfl, ec_in (i := 994) (by decide +kernel) rfl⟩
def cx_X9_suspects : ex_K := (RX9, ec_fx fl_X9, ec_cx cl_X9, sl_X9, ec_no, ec_nz, ec_no)
theorem ok_X9_suspects (l : Launch) : ex_ok l 0 0 cx_X9_suspects := ⟨ec_fok fo_X9, ec_cok co_X9, so_X9, fun _ _ _ _ h => (by cases h), fun _ h => (by cases h), fun _ h => (by cases h), fun _ h => (by cases h), fun _ _ h => (by cases h)⟩
def sp_X9_suspects : ex_S := ex_sp cx_X9_suspects cX9_suspects 1 (some .int) 5
theorem mt_X9_suspects (l : Launch) : ex_Met l yX9_suspects cX9_suspects 1 (some .int) 0 0 sp_X9_suspects := ex_inl (by decide) rfl (ok_X9_suspects l)
theorem cw_X9_read : ec_cw yX9_read cX9_read 3 (some .int) := ⟨ec_in (i := 999) (by decide +kernel) rfl, ec_in (i := 58) (by decide +kernel) rfl, by decide, by decide⟩
theorem cv_X9_read : Cond.instanceMethod yX9_read ∈ ec_tb ∧ Cond.selects yX9_read.cls yX9_read yX9_read ∈ ec_tb := ⟨ec_in (i := 997) (by decide +kernel) rfl, ec_in (i := 998) (by decide +kernel) rfl⟩
def ca_X9_read : Nat → Option (Nat × Option Nat × ex_S) := fun ix => match ix with
  | 214 => some (4, some 5, sp_X5_addReading)
  | 64 => some (2, some 9, sp_X9_counted)
  | _ => none
theorem ck_X9_read (l : Launch) : ∀ (ix n : Nat) (rc : Option Nat) (sp : ex_S), ca_X9_read ix = some (n, rc, sp) → ex_cok l RX9 2 43 ix n rc sp := by
  intro ix n rc sp h
  unfold ca_X9_read at h
  split at h
  · cases h; exact ec_cV (mt_X5_addReading l) cw_X5_addReading cv_X5_addReading (by decide) (by decide) (Or.inl (ec_in (i := 1000) (by decide +kernel) rfl)) (T := TX5) (N := 10) rfl (by decide) (by decide +kernel)
  · cases h; exact ec_cV (mt_X9_counted l) cw_X9_counted cv_X9_counted (by decide) (by decide) (Or.inl (ec_in (i := 424) (by decide +kernel) rfl)) (T := TX9) (N := 10) rfl (by decide) (by decide +kernel)
  · cases h
def cx_X9_read : ex_K := (RX9, ec_fx fl_X9, ec_cx cl_X9, sl_X9, ca_X9_read, ec_nz, ec_no)
theorem ok_X9_read (l : Launch) : ex_ok l 2 43 cx_X9_read := ⟨ec_fok fo_X9, ec_cok co_X9, so_X9, ck_X9_read l, fun _ h => (by cases h), fun _ h => (by cases h), fun _ h => (by cases h), fun _ _ h => (by cases h)⟩
def sp_X9_read : ex_S := ex_sp cx_X9_read cX9_read 3 (some .int) 12
theorem mt_X9_read (l : Launch) : ex_Met l yX9_read cX9_read 3 (some .int) 2 43 sp_X9_read := ex_inl (by decide) rfl (ok_X9_read l)
theorem cw_X9_calibrate : ec_cw yX9_calibrate cX9_calibrate 3 (some .int) := ⟨ec_in (i := 1012) (by decide +kernel) rfl, ec_in (i := 58) (by decide +kernel) rfl, by decide, by decide⟩
theorem cv_X9_calibrate : Cond.instanceMethod yX9_calibrate ∈ ec_tb ∧ Cond.selects yX9_calibrate.cls yX9_calibrate yX9_calibrate ∈ ec_tb := ⟨ec_in (i := 1010) (by decide +kernel) rfl, ec_in (i := 1011) (by decide +kernel) rfl⟩
def ca_X9_calibrate : Nat → Option (Nat × Option Nat × ex_S) := fun ix => match ix with
  | 217 => some (4, some 5, sp_X5_addCalibration)
  | 64 => some (2, some 9, sp_X9_counted)
  | _ => none
theorem ck_X9_calibrate (l : Launch) : ∀ (ix n : Nat) (rc : Option Nat) (sp : ex_S), ca_X9_calibrate ix = some (n, rc, sp) → ex_cok l RX9 2 43 ix n rc sp := by
  intro ix n rc sp h
  unfold ca_X9_calibrate at h
  split at h
  · cases h; exact ec_cV (mt_X5_addCalibration l) cw_X5_addCalibration cv_X5_addCalibration (by decide) (by decide) (Or.inl (ec_in (i := 1013) (by decide +kernel) rfl)) (T := TX5) (N := 10) rfl (by decide) (by decide +kernel)
  · cases h; exact ec_cV (mt_X9_counted l) cw_X9_counted cv_X9_counted (by decide) (by decide) (Or.inl (ec_in (i := 424) (by decide +kernel) rfl)) (T := TX9) (N := 10) rfl (by decide) (by decide +kernel)
  · cases h
def cx_X9_calibrate : ex_K := (RX9, ec_fx fl_X9, ec_cx cl_X9, sl_X9, ca_X9_calibrate, ec_nz, ec_no)
theorem ok_X9_calibrate (l : Launch) : ex_ok l 2 43 cx_X9_calibrate := ⟨ec_fok fo_X9, ec_cok co_X9, so_X9, ck_X9_calibrate l, fun _ h => (by cases h), fun _ h => (by cases h), fun _ h => (by cases h), fun _ _ h => (by cases h)⟩
def sp_X9_calibrate : ex_S := ex_sp cx_X9_calibrate cX9_calibrate 3 (some .int) 12
theorem mt_X9_calibrate (l : Launch) : ex_Met l yX9_calibrate cX9_calibrate 3 (some .int) 2 43 sp_X9_calibrate := ex_inl (by decide) rfl (ok_X9_calibrate l)
theorem cw_X9_worked : ec_cw yX9_worked cX9_worked 2 (some .int) := ⟨ec_in (i := 1020) (by decide +kernel) rfl, ec_in (i := 58) (by decide +kernel) rfl, by decide, by decide⟩
theorem cv_X9_worked : Cond.instanceMethod yX9_worked ∈ ec_tb ∧ Cond.selects yX9_worked.cls yX9_worked yX9_worked ∈ ec_tb := ⟨ec_in (i := 1018) (by decide +kernel) rfl, ec_in (i := 1019) (by decide +kernel) rfl⟩
def ca_X9_worked : Nat → Option (Nat × Option Nat × ex_S) := fun ix => match ix with
  | 220 => some (2, some 5, sp_X5_workedBack)
  | 64 => some (2, some 9, sp_X9_counted)
  | _ => none
theorem ck_X9_worked (l : Launch) : ∀ (ix n : Nat) (rc : Option Nat) (sp : ex_S), ca_X9_worked ix = some (n, rc, sp) → ex_cok l RX9 3 71 ix n rc sp := by
  intro ix n rc sp h
  unfold ca_X9_worked at h
  split at h
  · cases h; exact ec_cV (mt_X5_workedBack l) cw_X5_workedBack cv_X5_workedBack (by decide) (by decide) (Or.inl (ec_in (i := 1021) (by decide +kernel) rfl)) (T := TX5) (N := 10) rfl (by decide) (by decide +kernel)
  · cases h; exact ec_cV (mt_X9_counted l) cw_X9_counted cv_X9_counted (by decide) (by decide) (Or.inl (ec_in (i := 424) (by decide +kernel) rfl)) (T := TX9) (N := 10) rfl (by decide) (by decide +kernel)
  · cases h
def cx_X9_worked : ex_K := (RX9, ec_fx fl_X9, ec_cx cl_X9, sl_X9, ca_X9_worked, ec_nz, ec_no)
theorem ok_X9_worked (l : Launch) : ex_ok l 3 71 cx_X9_worked := ⟨ec_fok fo_X9, ec_cok co_X9, so_X9, ck_X9_worked l, fun _ h => (by cases h), fun _ h => (by cases h), fun _ h => (by cases h), fun _ _ h => (by cases h)⟩
def sp_X9_worked : ex_S := ex_sp cx_X9_worked cX9_worked 2 (some .int) 8
theorem mt_X9_worked (l : Launch) : ex_Met l yX9_worked cX9_worked 2 (some .int) 3 71 sp_X9_worked := ex_inl (by decide) rfl (ok_X9_worked l)
theorem cw_X9_delay : ec_cw yX9_delay cX9_delay 2 (some .int) := ⟨ec_in (i := 1036) (by decide +kernel) rfl, ec_in (i := 58) (by decide +kernel) rfl, by decide, by decide⟩
theorem cv_X9_delay : Cond.instanceMethod yX9_delay ∈ ec_tb ∧ Cond.selects yX9_delay.cls yX9_delay yX9_delay ∈ ec_tb := ⟨ec_in (i := 1034) (by decide +kernel) rfl, ec_in (i := 1035) (by decide +kernel) rfl⟩
def ca_X9_delay : Nat → Option (Nat × Option Nat × ex_S) := fun ix => match ix with
  | 223 => some (2, some 5, sp_X5_setDelay)
  | 64 => some (2, some 9, sp_X9_counted)
  | _ => none
theorem ck_X9_delay (l : Launch) : ∀ (ix n : Nat) (rc : Option Nat) (sp : ex_S), ca_X9_delay ix = some (n, rc, sp) → ex_cok l RX9 1 22 ix n rc sp := by
  intro ix n rc sp h
  unfold ca_X9_delay at h
  split at h
  · cases h; exact ec_cV (mt_X5_setDelay l) cw_X5_setDelay cv_X5_setDelay (by decide) (by decide) (Or.inl (ec_in (i := 1037) (by decide +kernel) rfl)) (T := TX5) (N := 10) rfl (by decide) (by decide +kernel)
  · cases h; exact ec_cV (mt_X9_counted l) cw_X9_counted cv_X9_counted (by decide) (by decide) (Or.inl (ec_in (i := 424) (by decide +kernel) rfl)) (T := TX9) (N := 10) rfl (by decide) (by decide +kernel)
  · cases h
def cx_X9_delay : ex_K := (RX9, ec_fx fl_X9, ec_cx cl_X9, sl_X9, ca_X9_delay, ec_nz, ec_no)
theorem ok_X9_delay (l : Launch) : ex_ok l 1 22 cx_X9_delay := ⟨ec_fok fo_X9, ec_cok co_X9, so_X9, ck_X9_delay l, fun _ h => (by cases h), fun _ h => (by cases h), fun _ h => (by cases h), fun _ _ h => (by cases h)⟩
def sp_X9_delay : ex_S := ex_sp cx_X9_delay cX9_delay 2 (some .int) 8
theorem mt_X9_delay (l : Launch) : ex_Met l yX9_delay cX9_delay 2 (some .int) 1 22 sp_X9_delay := ex_inl (by decide) rfl (ok_X9_delay l)
theorem cw_X9_known : ec_cw yX9_known cX9_known 3 (some .int) := ⟨ec_in (i := 1044) (by decide +kernel) rfl, ec_in (i := 58) (by decide +kernel) rfl, by decide, by decide⟩
theorem cv_X9_known : Cond.instanceMethod yX9_known ∈ ec_tb ∧ Cond.selects yX9_known.cls yX9_known yX9_known ∈ ec_tb := ⟨ec_in (i := 1042) (by decide +kernel) rfl, ec_in (i := 1043) (by decide +kernel) rfl⟩
def ca_X9_known : Nat → Option (Nat × Option Nat × ex_S) := fun ix => match ix with
  | 226 => some (3, some 5, sp_X5_latestHeard)
  | 64 => some (2, some 9, sp_X9_counted)
  | _ => none
theorem ck_X9_known (l : Launch) : ∀ (ix n : Nat) (rc : Option Nat) (sp : ex_S), ca_X9_known ix = some (n, rc, sp) → ex_cok l RX9 2 43 ix n rc sp := by
  intro ix n rc sp h
  unfold ca_X9_known at h
  split at h
  · cases h; exact ec_cV (mt_X5_latestHeard l) cw_X5_latestHeard cv_X5_latestHeard (by decide) (by decide) (Or.inl (ec_in (i := 1045) (by decide +kernel) rfl)) (T := TX5) (N := 10) rfl (by decide) (by decide +kernel)
  · cases h; exact ec_cV (mt_X9_counted l) cw_X9_counted cv_X9_counted (by decide) (by decide) (Or.inl (ec_in (i := 424) (by decide +kernel) rfl)) (T := TX9) (N := 10) rfl (by decide) (by decide +kernel)
  · cases h
def cx_X9_known : ex_K := (RX9, ec_fx fl_X9, ec_cx cl_X9, sl_X9, ca_X9_known, ec_nz, ec_no)
theorem ok_X9_known (l : Launch) : ex_ok l 2 43 cx_X9_known := ⟨ec_fok fo_X9, ec_cok co_X9, so_X9, ck_X9_known l, fun _ h => (by cases h), fun _ h => (by cases h), fun _ h => (by cases h), fun _ _ h => (by cases h)⟩
def sp_X9_known : ex_S := ex_sp cx_X9_known cX9_known 3 (some .int) 9
theorem mt_X9_known (l : Launch) : ex_Met l yX9_known cX9_known 3 (some .int) 2 43 sp_X9_known := ex_inl (by decide) rfl (ok_X9_known l)
theorem cw_X9_isMass : ec_cw yX9_isMass cX9_isMass 1 (some .boolean) := ⟨ec_in (i := 1060) (by decide +kernel) rfl, ec_in (i := 58) (by decide +kernel) rfl, by decide, by decide⟩
theorem cv_X9_isMass : Cond.static yX9_isMass ∈ ec_tb := ec_in (i := 1059) (by decide +kernel) rfl
def cx_X9_isMass : ex_K := (RX9, ec_fx fl_X9, ec_cx cl_X9, sl_X9, ec_no, ec_nz, ec_no)
theorem ok_X9_isMass (l : Launch) : ex_ok l 0 0 cx_X9_isMass := ⟨ec_fok fo_X9, ec_cok co_X9, so_X9, fun _ _ _ _ h => (by cases h), fun _ h => (by cases h), fun _ h => (by cases h), fun _ h => (by cases h), fun _ _ h => (by cases h)⟩
def sp_X9_isMass : ex_S := ex_sp cx_X9_isMass cX9_isMass 1 (some .boolean) 11
theorem mt_X9_isMass (l : Launch) : ex_Met l yX9_isMass cX9_isMass 1 (some .boolean) 0 0 sp_X9_isMass := ex_inl (by decide) rfl (ok_X9_isMass l)
theorem cw_X9_setMass : ec_cw yX9_setMass cX9_setMass 3 (some .int) := ⟨ec_in (i := 1057) (by decide +kernel) rfl, ec_in (i := 58) (by decide +kernel) rfl, by decide, by decide⟩
theorem cv_X9_setMass : Cond.instanceMethod yX9_setMass ∈ ec_tb ∧ Cond.selects yX9_setMass.cls yX9_setMass yX9_setMass ∈ ec_tb := ⟨ec_in (i := 1056) (by decide +kernel) rfl, ec_in (i := 24) (by decide +kernel) rfl⟩
def ca_X9_setMass : Nat → Option (Nat × Option Nat × ex_S) := fun ix => match ix with
  | 235 => some (1, none, sp_X9_isMass)
  | _ => none
theorem ck_X9_setMass (l : Launch) : ∀ (ix n : Nat) (rc : Option Nat) (sp : ex_S), ca_X9_setMass ix = some (n, rc, sp) → ex_cok l RX9 1 20 ix n rc sp := by
  intro ix n rc sp h
  unfold ca_X9_setMass at h
  split at h
  · cases h; exact ec_cS (mt_X9_isMass l) cw_X9_isMass cv_X9_isMass (by decide) (by decide) (Or.inl (ec_in (i := 1058) (by decide +kernel) rfl)) (by decide +kernel)
  · cases h
def cx_X9_setMass : ex_K := (RX9, ec_fx fl_X9, ec_cx cl_X9, sl_X9, ca_X9_setMass, ec_nz, ec_no)
theorem ok_X9_setMass (l : Launch) : ex_ok l 1 20 cx_X9_setMass := ⟨ec_fok fo_X9, ec_cok co_X9, so_X9, ck_X9_setMass l, fun _ h => (by cases h), fun _ h => (by cases h), fun _ h => (by cases h), fun _ _ h => (by cases h)⟩
def sp_X9_setMass : ex_S := ex_sp cx_X9_setMass cX9_setMass 3 (some .int) 20
theorem mt_X9_setMass (l : Launch) : ex_Met l yX9_setMass cX9_setMass 3 (some .int) 1 20 sp_X9_setMass := ex_inl (by decide) rfl (ok_X9_setMass l)
theorem cw_X9_isSpeed : ec_cw yX9_isSpeed cX9_isSpeed 1 (some .boolean) := ⟨ec_in (i := 1068) (by decide +kernel) rfl, ec_in (i := 58) (by decide +kernel) rfl, by decide, by decide⟩
theorem cv_X9_isSpeed : Cond.static yX9_isSpeed ∈ ec_tb := ec_in (i := 1067) (by decide +kernel) rfl
def cx_X9_isSpeed : ex_K := (RX9, ec_fx fl_X9, ec_cx cl_X9, sl_X9, ec_no, ec_nz, ec_no)
theorem ok_X9_isSpeed (l : Launch) : ex_ok l 0 0 cx_X9_isSpeed := ⟨ec_fok fo_X9, ec_cok co_X9, so_X9, fun _ _ _ _ h => (by cases h), fun _ h => (by cases h), fun _ h => (by cases h), fun _ h => (by cases h), fun _ _ h => (by cases h)⟩
def sp_X9_isSpeed : ex_S := ex_sp cx_X9_isSpeed cX9_isSpeed 1 (some .boolean) 11
theorem mt_X9_isSpeed (l : Launch) : ex_Met l yX9_isSpeed cX9_isSpeed 1 (some .boolean) 0 0 sp_X9_isSpeed := ex_inl (by decide) rfl (ok_X9_isSpeed l)
theorem cw_X9_setSpeed : ec_cw yX9_setSpeed cX9_setSpeed 3 (some .int) := ⟨ec_in (i := 1065) (by decide +kernel) rfl, ec_in (i := 58) (by decide +kernel) rfl, by decide, by decide⟩
theorem cv_X9_setSpeed : Cond.instanceMethod yX9_setSpeed ∈ ec_tb ∧ Cond.selects yX9_setSpeed.cls yX9_setSpeed yX9_setSpeed ∈ ec_tb := ⟨ec_in (i := 1064) (by decide +kernel) rfl, ec_in (i := 25) (by decide +kernel) rfl⟩
def ca_X9_setSpeed : Nat → Option (Nat × Option Nat × ex_S) := fun ix => match ix with
  | 238 => some (1, none, sp_X9_isSpeed)
  | _ => none
theorem ck_X9_setSpeed (l : Launch) : ∀ (ix n : Nat) (rc : Option Nat) (sp : ex_S), ca_X9_setSpeed ix = some (n, rc, sp) → ex_cok l RX9 1 20 ix n rc sp := by
  intro ix n rc sp h
  unfold ca_X9_setSpeed at h
  split at h
  · cases h; exact ec_cS (mt_X9_isSpeed l) cw_X9_isSpeed cv_X9_isSpeed (by decide) (by decide) (Or.inl (ec_in (i := 1066) (by decide +kernel) rfl)) (by decide +kernel)
  · cases h
def cx_X9_setSpeed : ex_K := (RX9, ec_fx fl_X9, ec_cx cl_X9, sl_X9, ca_X9_setSpeed, ec_nz, ec_no)
theorem ok_X9_setSpeed (l : Launch) : ex_ok l 1 20 cx_X9_setSpeed := ⟨ec_fok fo_X9, ec_cok co_X9, so_X9, ck_X9_setSpeed l, fun _ h => (by cases h), fun _ h => (by cases h), fun _ h => (by cases h), fun _ _ h => (by cases h)⟩
def sp_X9_setSpeed : ex_S := ex_sp cx_X9_setSpeed cX9_setSpeed 3 (some .int) 20
theorem mt_X9_setSpeed (l : Launch) : ex_Met l yX9_setSpeed cX9_setSpeed 3 (some .int) 1 20 sp_X9_setSpeed := ex_inl (by decide) rfl (ok_X9_setSpeed l)
theorem cw_X9_mass : ec_cw yX9_mass cX9_mass 3 (some .int) := ⟨ec_in (i := 1053) (by decide +kernel) rfl, ec_in (i := 58) (by decide +kernel) rfl, by decide, by decide⟩
theorem cv_X9_mass : Cond.instanceMethod yX9_mass ∈ ec_tb ∧ Cond.selects yX9_mass.cls yX9_mass yX9_mass ∈ ec_tb := ⟨ec_in (i := 1051) (by decide +kernel) rfl, ec_in (i := 1052) (by decide +kernel) rfl⟩
def ca_X9_mass : Nat → Option (Nat × Option Nat × ex_S) := fun ix => match ix with
  | 229 => some (2, some 9, sp_X9_setMass)
  | 64 => some (2, some 9, sp_X9_counted)
  | 232 => some (2, some 9, sp_X9_setSpeed)
  | _ => none
theorem ck_X9_mass (l : Launch) : ∀ (ix n : Nat) (rc : Option Nat) (sp : ex_S), ca_X9_mass ix = some (n, rc, sp) → ex_cok l RX9 2 42 ix n rc sp := by
  intro ix n rc sp h
  unfold ca_X9_mass at h
  split at h
  · cases h; exact ec_cV (mt_X9_setMass l) cw_X9_setMass cv_X9_setMass (by decide) (by decide) (Or.inl (ec_in (i := 1054) (by decide +kernel) rfl)) (T := TX9) (N := 10) rfl (by decide) (by decide +kernel)
  · cases h; exact ec_cV (mt_X9_counted l) cw_X9_counted cv_X9_counted (by decide) (by decide) (Or.inl (ec_in (i := 424) (by decide +kernel) rfl)) (T := TX9) (N := 10) rfl (by decide) (by decide +kernel)
  · cases h; exact ec_cV (mt_X9_setSpeed l) cw_X9_setSpeed cv_X9_setSpeed (by decide) (by decide) (Or.inl (ec_in (i := 1062) (by decide +kernel) rfl)) (T := TX9) (N := 10) rfl (by decide) (by decide +kernel)
  · cases h
def cx_X9_mass : ex_K := (RX9, ec_fx fl_X9, ec_cx cl_X9, sl_X9, ca_X9_mass, ec_nz, ec_no)
theorem ok_X9_mass (l : Launch) : ex_ok l 2 42 cx_X9_mass := ⟨ec_fok fo_X9, ec_cok co_X9, so_X9, ck_X9_mass l, fun _ h => (by cases h), fun _ h => (by cases h), fun _ h => (by cases h), fun _ _ h => (by cases h)⟩
def sp_X9_mass : ex_S := ex_sp cx_X9_mass cX9_mass 3 (some .int) 22
theorem mt_X9_mass (l : Launch) : ex_Met l yX9_mass cX9_mass 3 (some .int) 2 42 sp_X9_mass := ex_inl (by decide) rfl (ok_X9_mass l)
theorem cw_X9_dock : ec_cw yX9_dock cX9_dock 6 (some .int) := ⟨ec_in (i := 1072) (by decide +kernel) rfl, ec_in (i := 58) (by decide +kernel) rfl, by decide, by decide⟩
theorem cv_X9_dock : Cond.instanceMethod yX9_dock ∈ ec_tb ∧ Cond.selects yX9_dock.cls yX9_dock yX9_dock ∈ ec_tb := ⟨ec_in (i := 1070) (by decide +kernel) rfl, ec_in (i := 1071) (by decide +kernel) rfl⟩
def ca_X9_dock : Nat → Option (Nat × Option Nat × ex_S) := fun ix => match ix with
  | 235 => some (1, none, sp_X9_isMass)
  | 238 => some (1, none, sp_X9_isSpeed)
  | 64 => some (2, some 9, sp_X9_counted)
  | _ => none
theorem ck_X9_dock (l : Launch) : ∀ (ix n : Nat) (rc : Option Nat) (sp : ex_S), ca_X9_dock ix = some (n, rc, sp) → ex_cok l RX9 1 21 ix n rc sp := by
  intro ix n rc sp h
  unfold ca_X9_dock at h
  split at h
  · cases h; exact ec_cS (mt_X9_isMass l) cw_X9_isMass cv_X9_isMass (by decide) (by decide) (Or.inl (ec_in (i := 1058) (by decide +kernel) rfl)) (by decide +kernel)
  · cases h; exact ec_cS (mt_X9_isSpeed l) cw_X9_isSpeed cv_X9_isSpeed (by decide) (by decide) (Or.inl (ec_in (i := 1066) (by decide +kernel) rfl)) (by decide +kernel)
  · cases h; exact ec_cV (mt_X9_counted l) cw_X9_counted cv_X9_counted (by decide) (by decide) (Or.inl (ec_in (i := 424) (by decide +kernel) rfl)) (T := TX9) (N := 10) rfl (by decide) (by decide +kernel)
  · cases h
def cx_X9_dock : ex_K := (RX9, ec_fx fl_X9, ec_cx cl_X9, sl_X9, ca_X9_dock, ec_nz, ec_no)
theorem ok_X9_dock (l : Launch) : ex_ok l 1 21 cx_X9_dock := ⟨ec_fok fo_X9, ec_cok co_X9, so_X9, ck_X9_dock l, fun _ h => (by cases h), fun _ h => (by cases h), fun _ h => (by cases h), fun _ _ h => (by cases h)⟩
def sp_X9_dock : ex_S := ex_sp cx_X9_dock cX9_dock 6 (some .int) 50
theorem mt_X9_dock (l : Launch) : ex_Met l yX9_dock cX9_dock 6 (some .int) 1 21 sp_X9_dock := ex_inl (by decide) rfl (ok_X9_dock l)
theorem cw_X9_undock : ec_cw yX9_undock cX9_undock 2 (some .int) := ⟨ec_in (i := 1076) (by decide +kernel) rfl, ec_in (i := 58) (by decide +kernel) rfl, by decide, by decide⟩
theorem cv_X9_undock : Cond.instanceMethod yX9_undock ∈ ec_tb ∧ Cond.selects yX9_undock.cls yX9_undock yX9_undock ∈ ec_tb := ⟨ec_in (i := 1074) (by decide +kernel) rfl, ec_in (i := 1075) (by decide +kernel) rfl⟩
def ca_X9_undock : Nat → Option (Nat × Option Nat × ex_S) := fun ix => match ix with
  | 235 => some (1, none, sp_X9_isMass)
  | 64 => some (2, some 9, sp_X9_counted)
  | _ => none
theorem ck_X9_undock (l : Launch) : ∀ (ix n : Nat) (rc : Option Nat) (sp : ex_S), ca_X9_undock ix = some (n, rc, sp) → ex_cok l RX9 1 21 ix n rc sp := by
  intro ix n rc sp h
  unfold ca_X9_undock at h
  split at h
  · cases h; exact ec_cS (mt_X9_isMass l) cw_X9_isMass cv_X9_isMass (by decide) (by decide) (Or.inl (ec_in (i := 1058) (by decide +kernel) rfl)) (by decide +kernel)
  · cases h; exact ec_cV (mt_X9_counted l) cw_X9_counted cv_X9_counted (by decide) (by decide) (Or.inl (ec_in (i := 424) (by decide +kernel) rfl)) (T := TX9) (N := 10) rfl (by decide) (by decide +kernel)
  · cases h
def cx_X9_undock : ex_K := (RX9, ec_fx fl_X9, ec_cx cl_X9, sl_X9, ca_X9_undock, ec_nz, ec_no)
theorem ok_X9_undock (l : Launch) : ex_ok l 1 21 cx_X9_undock := ⟨ec_fok fo_X9, ec_cok co_X9, so_X9, ck_X9_undock l, fun _ h => (by cases h), fun _ h => (by cases h), fun _ h => (by cases h), fun _ _ h => (by cases h)⟩
def sp_X9_undock : ex_S := ex_sp cx_X9_undock cX9_undock 2 (some .int) 27
theorem mt_X9_undock (l : Launch) : ex_Met l yX9_undock cX9_undock 2 (some .int) 1 21 sp_X9_undock := ex_inl (by decide) rfl (ok_X9_undock l)
theorem cw_X9_tell : ec_cw yX9_tell cX9_tell 2 (some .int) := ⟨ec_in (i := 1080) (by decide +kernel) rfl, ec_in (i := 58) (by decide +kernel) rfl, by decide, by decide⟩
theorem cv_X9_tell : Cond.instanceMethod yX9_tell ∈ ec_tb ∧ Cond.selects yX9_tell.cls yX9_tell yX9_tell ∈ ec_tb := ⟨ec_in (i := 1078) (by decide +kernel) rfl, ec_in (i := 1079) (by decide +kernel) rfl⟩
def ca_X9_tell : Nat → Option (Nat × Option Nat × ex_S) := fun ix => match ix with
  | 64 => some (2, some 9, sp_X9_counted)
  | _ => none
theorem ck_X9_tell (l : Launch) : ∀ (ix n : Nat) (rc : Option Nat) (sp : ex_S), ca_X9_tell ix = some (n, rc, sp) → ex_cok l RX9 1 21 ix n rc sp := by
  intro ix n rc sp h
  unfold ca_X9_tell at h
  split at h
  · cases h; exact ec_cV (mt_X9_counted l) cw_X9_counted cv_X9_counted (by decide) (by decide) (Or.inl (ec_in (i := 424) (by decide +kernel) rfl)) (T := TX9) (N := 10) rfl (by decide) (by decide +kernel)
  · cases h
def cx_X9_tell : ex_K := (RX9, ec_fx fl_X9, ec_cx cl_X9, sl_X9, ca_X9_tell, ec_nz, ec_no)
theorem ok_X9_tell (l : Launch) : ex_ok l 1 21 cx_X9_tell := ⟨ec_fok fo_X9, ec_cok co_X9, so_X9, ck_X9_tell l, fun _ h => (by cases h), fun _ h => (by cases h), fun _ h => (by cases h), fun _ _ h => (by cases h)⟩
def sp_X9_tell : ex_S := ex_sp cx_X9_tell cX9_tell 2 (some .int) 24
theorem mt_X9_tell (l : Launch) : ex_Met l yX9_tell cX9_tell 2 (some .int) 1 21 sp_X9_tell := ex_inl (by decide) rfl (ok_X9_tell l)
theorem cw_X9_check : ec_cw yX9_check cX9_check 5 (some .int) := ⟨ec_in (i := 1084) (by decide +kernel) rfl, ec_in (i := 58) (by decide +kernel) rfl, by decide, by decide⟩
theorem cv_X9_check : Cond.instanceMethod yX9_check ∈ ec_tb ∧ Cond.selects yX9_check.cls yX9_check yX9_check ∈ ec_tb := ⟨ec_in (i := 1082) (by decide +kernel) rfl, ec_in (i := 1083) (by decide +kernel) rfl⟩
def ca_X9_check : Nat → Option (Nat × Option Nat × ex_S) := fun ix => match ix with
  | 88 => some (2, some 0, sp_X0_hasModule)
  | 248 => some (1, none, sp_X0_isSort)
  | 64 => some (2, some 9, sp_X9_counted)
  | 163 => some (2, some 8, sp_X8_becomeLike)
  | 156 => some (1, some 8, sp_X8_passTick)
  | 251 => some (3, some 0, sp_X0_amount)
  | _ => none
theorem ck_X9_check (l : Launch) : ∀ (ix n : Nat) (rc : Option Nat) (sp : ex_S), ca_X9_check ix = some (n, rc, sp) → ex_cok l RX9 6 134 ix n rc sp := by
  intro ix n rc sp h
  unfold ca_X9_check at h
  split at h
  · cases h; exact ec_cV (mt_X0_hasModule l) cw_X0_hasModule cv_X0_hasModule (by decide) (by decide) (Or.inl (ec_in (i := 502) (by decide +kernel) rfl)) (T := TX0) (N := 8) rfl (by decide) (by decide +kernel)
  · cases h; exact ec_cS (mt_X0_isSort l) cw_X0_isSort cv_X0_isSort (by decide) (by decide) (Or.inl (ec_in (i := 1085) (by decide +kernel) rfl)) (by decide +kernel)
  · cases h; exact ec_cV (mt_X9_counted l) cw_X9_counted cv_X9_counted (by decide) (by decide) (Or.inl (ec_in (i := 424) (by decide +kernel) rfl)) (T := TX9) (N := 10) rfl (by decide) (by decide +kernel)
  · cases h; exact ec_cV (mt_X8_becomeLike l) cw_X8_becomeLike cv_X8_becomeLike (by decide) (by decide) (Or.inl (ec_in (i := 864) (by decide +kernel) rfl)) (T := TX8) (N := 7) rfl (by decide) (by decide +kernel)
  · cases h; exact ec_cV (mt_X8_passTick l) cw_X8_passTick cv_X8_passTick (by decide) (by decide) (Or.inl (ec_in (i := 698) (by decide +kernel) rfl)) (T := TX8) (N := 7) rfl (by decide) (by decide +kernel)
  · cases h; exact ec_cV (mt_X0_amount l) cw_X0_amount cv_X0_amount (by decide) (by decide) (Or.inl (ec_in (i := 1086) (by decide +kernel) rfl)) (T := TX0) (N := 8) rfl (by decide) (by decide +kernel)
  · cases h
def cx_X9_check : ex_K := (RX9, ec_fx fl_X9, ec_cx cl_X9, sl_X9, ca_X9_check, ec_nz, ec_no)
theorem ok_X9_check (l : Launch) : ex_ok l 6 134 cx_X9_check := ⟨ec_fok fo_X9, ec_cok co_X9, so_X9, ck_X9_check l, fun _ h => (by cases h), fun _ h => (by cases h), fun _ h => (by cases h), fun _ _ h => (by cases h)⟩
def sp_X9_check : ex_S := ex_sp cx_X9_check cX9_check 5 (some .int) 400
theorem mt_X9_check (l : Launch) : ex_Met l yX9_check cX9_check 5 (some .int) 6 134 sp_X9_check := ex_inl (by decide) rfl (ok_X9_check l)
theorem cw_X9_count : ec_cw yX9_count cX9_count 2 (some .int) := ⟨ec_in (i := 1090) (by decide +kernel) rfl, ec_in (i := 58) (by decide +kernel) rfl, by decide, by decide⟩
theorem cv_X9_count : Cond.instanceMethod yX9_count ∈ ec_tb ∧ Cond.selects yX9_count.cls yX9_count yX9_count ∈ ec_tb := ⟨ec_in (i := 1088) (by decide +kernel) rfl, ec_in (i := 1089) (by decide +kernel) rfl⟩
def ca_X9_count : Nat → Option (Nat × Option Nat × ex_S) := fun ix => match ix with
  | 272 => some (1, some 3, sp_X3_menders)
  | 64 => some (2, some 9, sp_X9_counted)
  | _ => none
theorem ck_X9_count (l : Launch) : ∀ (ix n : Nat) (rc : Option Nat) (sp : ex_S), ca_X9_count ix = some (n, rc, sp) → ex_cok l RX9 2 43 ix n rc sp := by
  intro ix n rc sp h
  unfold ca_X9_count at h
  split at h
  · cases h; exact ec_cV (mt_X3_menders l) cw_X3_menders cv_X3_menders (by decide) (by decide) (Or.inl (ec_in (i := 1091) (by decide +kernel) rfl)) (T := TX3) (N := 7) rfl (by decide) (by decide +kernel)
  · cases h; exact ec_cV (mt_X9_counted l) cw_X9_counted cv_X9_counted (by decide) (by decide) (Or.inl (ec_in (i := 424) (by decide +kernel) rfl)) (T := TX9) (N := 10) rfl (by decide) (by decide +kernel)
  · cases h
def cx_X9_count : ex_K := (RX9, ec_fx fl_X9, ec_cx cl_X9, sl_X9, ca_X9_count, ec_nz, ec_no)
theorem ok_X9_count (l : Launch) : ex_ok l 2 43 cx_X9_count := ⟨ec_fok fo_X9, ec_cok co_X9, so_X9, ck_X9_count l, fun _ h => (by cases h), fun _ h => (by cases h), fun _ h => (by cases h), fun _ _ h => (by cases h)⟩
def sp_X9_count : ex_S := ex_sp cx_X9_count cX9_count 2 (some .int) 51
theorem mt_X9_count (l : Launch) : ex_Met l yX9_count cX9_count 2 (some .int) 2 43 sp_X9_count := ex_inl (by decide) rfl (ok_X9_count l)
theorem cw_X9_found : ec_cw yX9_found cX9_found 2 (some .int) := ⟨ec_in (i := 1098) (by decide +kernel) rfl, ec_in (i := 58) (by decide +kernel) rfl, by decide, by decide⟩
theorem cv_X9_found : Cond.instanceMethod yX9_found ∈ ec_tb ∧ Cond.selects yX9_found.cls yX9_found yX9_found ∈ ec_tb := ⟨ec_in (i := 1096) (by decide +kernel) rfl, ec_in (i := 1097) (by decide +kernel) rfl⟩
def ca_X9_found : Nat → Option (Nat × Option Nat × ex_S) := fun ix => match ix with
  | 64 => some (2, some 9, sp_X9_counted)
  | _ => none
theorem ck_X9_found (l : Launch) : ∀ (ix n : Nat) (rc : Option Nat) (sp : ex_S), ca_X9_found ix = some (n, rc, sp) → ex_cok l RX9 1 21 ix n rc sp := by
  intro ix n rc sp h
  unfold ca_X9_found at h
  split at h
  · cases h; exact ec_cV (mt_X9_counted l) cw_X9_counted cv_X9_counted (by decide) (by decide) (Or.inl (ec_in (i := 424) (by decide +kernel) rfl)) (T := TX9) (N := 10) rfl (by decide) (by decide +kernel)
  · cases h
def cx_X9_found : ex_K := (RX9, ec_fx fl_X9, ec_cx cl_X9, sl_X9, ca_X9_found, ec_nz, ec_no)
theorem ok_X9_found (l : Launch) : ex_ok l 1 21 cx_X9_found := ⟨ec_fok fo_X9, ec_cok co_X9, so_X9, ck_X9_found l, fun _ h => (by cases h), fun _ h => (by cases h), fun _ h => (by cases h), fun _ _ h => (by cases h)⟩
def sp_X9_found : ex_S := ex_sp cx_X9_found cX9_found 2 (some .int) 16
theorem mt_X9_found (l : Launch) : ex_Met l yX9_found cX9_found 2 (some .int) 1 21 sp_X9_found := ex_inl (by decide) rfl (ok_X9_found l)
