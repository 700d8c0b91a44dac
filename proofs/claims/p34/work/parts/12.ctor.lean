theorem ec_oi (own : String) (ix : Nat) (h : [Cond.methodLink own ix Lib.objectInit, Cond.instanceMethod Lib.objectInit, Cond.code Lib.objectInit ⟨#[0xb1]⟩ 1 none].all (fun w => decide (w ∈ lw_tbl) && goodWord w) = true) {fr lo : Nat} (h1 : 1 ≤ fr) (h2 : 20 ≤ lo) : Cond.methodLink own ix Lib.objectInit ∈ ec_tb ∧ Cond.instanceMethod Lib.objectInit ∈ ec_tb ∧ Cond.code Lib.objectInit ⟨#[0xb1]⟩ 1 none ∈ ec_tb ∧ 1 ≤ fr ∧ 8 + 12 ≤ lo := by
  have hw := ec_ins h
  exact ⟨hw _ (by simp), hw _ (by simp), hw _ (by simp), h1, h2⟩
theorem ec_arr : Cond.arrayClass .int ∈ ec_tb ∧ Cond.arrayClass .boolean ∈ ec_tb := by
  have hw := ec_ins (ws := [Cond.arrayClass .int, Cond.arrayClass .boolean]) (by decide +kernel)
  exact ⟨hw _ (by simp), hw _ (by simp)⟩
def al_X7_init : ex_J := (ec_no, fun ix => match ix with
  | 3 => some none
  | _ => none)
def fn_X7_init : List (Nat × Nat × Nat × Bool × FieldType) := [(9, 7, 0, false, (.array .int)), (15, 7, 1, false, (.array .int)), (18, 7, 2, false, (.array .int)), (21, 7, 3, false, (.array .int))]
theorem fno_X7_init : fn_X7_init.all (ec_nchk RX7 fp_X7) = true := by decide +kernel
theorem fnp_X7_init : fn_X7_init.all (ec_fchk RX7 fp_X7) = true := by decide +kernel
theorem fne_X7_init_9 : ec_fx fn_X7_init 9 = some (7, 0, false, (.array .int)) := rfl
theorem fne_X7_init_15 : ec_fx fn_X7_init 15 = some (7, 1, false, (.array .int)) := rfl
theorem fne_X7_init_18 : ec_fx fn_X7_init 18 = some (7, 2, false, (.array .int)) := rfl
theorem fne_X7_init_21 : ec_fx fn_X7_init 21 = some (7, 3, false, (.array .int)) := rfl
def cx_X7_init : ex_K := (RX7, ec_fx fn_X7_init, ec_cx cl_X7, ec_no, ec_no, ec_nz, ec_no)
theorem ok_X7_init (l : Launch) : ex_ok l 1 20 cx_X7_init := ⟨ec_fok fnp_X7_init, ec_cok co_X7, fun _ _ h => (by cases h), fun _ _ _ _ h => (by cases h), fun _ h => (by cases h), fun _ h => (by cases h), fun _ h => (by cases h), fun _ _ h => (by cases h)⟩
theorem nk_X7_init (l : Launch) : ex_nok l 1 20 4 160 cx_X7_init al_X7_init := by
  refine ⟨fun ix ci fs N h => ?_, fun ix h => ?_, fun ix n mc' ms' sp h => ?_, ec_nfok fno_X7_init, ec_arr⟩
  · cases h
  · unfold al_X7_init at h
    dsimp only at h
    split at h
    · exact ec_oi RX7 3 (by decide +kernel) (by decide) (by decide)
    · cases h
  · unfold al_X7_init at h
    dsimp only at h
    split at h
    · cases h
    · cases h
def sn_X7_init : ex_SN := ex_sn cx_X7_init al_X7_init cX7_init 1 4 160 20
theorem mn_X7_init (l : Launch) : ex_MetN l yX7_init cX7_init 1 1 20 4 160 sn_X7_init := ex_inn (by decide) rfl rfl (ok_X7_init l) (nk_X7_init l)
def al_X0_init : ex_J := (ec_no, fun ix => match ix with
  | 3 => some none
  | _ => none)
def fn_X0_init : List (Nat × Nat × Nat × Bool × FieldType) := [(9, 0, 0, false, (.array .int)), (15, 0, 1, false, (.array .int)), (18, 0, 2, false, (.array .int)), (21, 0, 3, false, (.array .int)), (24, 0, 4, false, (.array .boolean)), (28, 0, 5, false, (.array .int))]
theorem fno_X0_init : fn_X0_init.all (ec_nchk RX0 fp_X0) = true := by decide +kernel
theorem fnp_X0_init : fn_X0_init.all (ec_fchk RX0 fp_X0) = true := by decide +kernel
theorem fne_X0_init_9 : ec_fx fn_X0_init 9 = some (0, 0, false, (.array .int)) := rfl
theorem fne_X0_init_15 : ec_fx fn_X0_init 15 = some (0, 1, false, (.array .int)) := rfl
theorem fne_X0_init_18 : ec_fx fn_X0_init 18 = some (0, 2, false, (.array .int)) := rfl
theorem fne_X0_init_21 : ec_fx fn_X0_init 21 = some (0, 3, false, (.array .int)) := rfl
theorem fne_X0_init_24 : ec_fx fn_X0_init 24 = some (0, 4, false, (.array .boolean)) := rfl
theorem fne_X0_init_28 : ec_fx fn_X0_init 28 = some (0, 5, false, (.array .int)) := rfl
def cx_X0_init : ex_K := (RX0, ec_fx fn_X0_init, ec_cx cl_X0, ec_no, ec_no, ec_nz, ec_no)
theorem ok_X0_init (l : Launch) : ex_ok l 1 20 cx_X0_init := ⟨ec_fok fnp_X0_init, ec_cok co_X0, fun _ _ h => (by cases h), fun _ _ _ _ h => (by cases h), fun _ h => (by cases h), fun _ h => (by cases h), fun _ h => (by cases h), fun _ _ h => (by cases h)⟩
theorem nk_X0_init (l : Launch) : ex_nok l 1 20 6 66 cx_X0_init al_X0_init := by
  refine ⟨fun ix ci fs N h => ?_, fun ix h => ?_, fun ix n mc' ms' sp h => ?_, ec_nfok fno_X0_init, ec_arr⟩
  · cases h
  · unfold al_X0_init at h
    dsimp only at h
    split at h
    · exact ec_oi RX0 3 (by decide +kernel) (by decide) (by decide)
    · cases h
  · unfold al_X0_init at h
    dsimp only at h
    split at h
    · cases h
    · cases h
def sn_X0_init : ex_SN := ex_sn cx_X0_init al_X0_init cX0_init 1 6 66 28
theorem mn_X0_init (l : Launch) : ex_MetN l yX0_init cX0_init 1 1 20 6 66 sn_X0_init := ex_inn (by decide) rfl rfl (ok_X0_init l) (nk_X0_init l)
def al_X3_init : ex_J := (ec_no, fun ix => match ix with
  | 3 => some none
  | _ => none)
def fn_X3_init : List (Nat × Nat × Nat × Bool × FieldType) := [(9, 3, 0, false, (.array .int)), (15, 3, 1, false, (.array .int)), (18, 3, 2, false, (.array .int)), (21, 3, 3, false, (.array .int)), (24, 3, 4, false, (.array .int)), (27, 3, 5, false, (.array .int))]
theorem fno_X3_init : fn_X3_init.all (ec_nchk RX3 fp_X3) = true := by decide +kernel
theorem fnp_X3_init : fn_X3_init.all (ec_fchk RX3 fp_X3) = true := by decide +kernel
theorem fne_X3_init_9 : ec_fx fn_X3_init 9 = some (3, 0, false, (.array .int)) := rfl
theorem fne_X3_init_15 : ec_fx fn_X3_init 15 = some (3, 1, false, (.array .int)) := rfl
theorem fne_X3_init_18 : ec_fx fn_X3_init 18 = some (3, 2, false, (.array .int)) := rfl
theorem fne_X3_init_21 : ec_fx fn_X3_init 21 = some (3, 3, false, (.array .int)) := rfl
theorem fne_X3_init_24 : ec_fx fn_X3_init 24 = some (3, 4, false, (.array .int)) := rfl
theorem fne_X3_init_27 : ec_fx fn_X3_init 27 = some (3, 5, false, (.array .int)) := rfl
def cx_X3_init : ex_K := (RX3, ec_fx fn_X3_init, ec_cx cl_X3, ec_no, ec_no, ec_nz, ec_no)
theorem ok_X3_init (l : Launch) : ex_ok l 1 20 cx_X3_init := ⟨ec_fok fnp_X3_init, ec_cok co_X3, fun _ _ h => (by cases h), fun _ _ _ _ h => (by cases h), fun _ h => (by cases h), fun _ h => (by cases h), fun _ h => (by cases h), fun _ _ h => (by cases h)⟩
theorem nk_X3_init (l : Launch) : ex_nok l 1 20 6 36 cx_X3_init al_X3_init := by
  refine ⟨fun ix ci fs N h => ?_, fun ix h => ?_, fun ix n mc' ms' sp h => ?_, ec_nfok fno_X3_init, ec_arr⟩
  · cases h
  · unfold al_X3_init at h
    dsimp only at h
    split at h
    · exact ec_oi RX3 3 (by decide +kernel) (by decide) (by decide)
    · cases h
  · unfold al_X3_init at h
    dsimp only at h
    split at h
    · cases h
    · cases h
def sn_X3_init : ex_SN := ex_sn cx_X3_init al_X3_init cX3_init 1 6 36 28
theorem mn_X3_init (l : Launch) : ex_MetN l yX3_init cX3_init 1 1 20 6 36 sn_X3_init := ex_inn (by decide) rfl rfl (ok_X3_init l) (nk_X3_init l)
def al_X6_init : ex_J := (ec_no, fun ix => match ix with
  | 3 => some none
  | _ => none)
def fn_X6_init : List (Nat × Nat × Nat × Bool × FieldType) := [(9, 6, 0, false, (.array .int)), (15, 6, 1, false, (.array .int)), (18, 6, 2, false, (.array .int)), (21, 6, 3, false, (.array .int)), (24, 6, 4, false, (.array .int)), (27, 6, 5, false, (.array .int)), (30, 6, 6, false, (.array .int)), (33, 6, 7, false, (.array .boolean)), (37, 6, 8, false, (.array .boolean)), (40, 6, 9, false, (.array .boolean)), (43, 6, 10, false, (.array .int)), (46, 6, 13, true, .int)]
theorem fno_X6_init : fn_X6_init.all (ec_nchk RX6 fp_X6) = true := by decide +kernel
theorem fnp_X6_init : fn_X6_init.all (ec_fchk RX6 fp_X6) = true := by decide +kernel
theorem fne_X6_init_9 : ec_fx fn_X6_init 9 = some (6, 0, false, (.array .int)) := rfl
theorem fne_X6_init_15 : ec_fx fn_X6_init 15 = some (6, 1, false, (.array .int)) := rfl
theorem fne_X6_init_18 : ec_fx fn_X6_init 18 = some (6, 2, false, (.array .int)) := rfl
theorem fne_X6_init_21 : ec_fx fn_X6_init 21 = some (6, 3, false, (.array .int)) := rfl
theorem fne_X6_init_24 : ec_fx fn_X6_init 24 = some (6, 4, false, (.array .int)) := rfl
theorem fne_X6_init_27 : ec_fx fn_X6_init 27 = some (6, 5, false, (.array .int)) := rfl
theorem fne_X6_init_30 : ec_fx fn_X6_init 30 = some (6, 6, false, (.array .int)) := rfl
theorem fne_X6_init_33 : ec_fx fn_X6_init 33 = some (6, 7, false, (.array .boolean)) := rfl
theorem fne_X6_init_37 : ec_fx fn_X6_init 37 = some (6, 8, false, (.array .boolean)) := rfl
theorem fne_X6_init_40 : ec_fx fn_X6_init 40 = some (6, 9, false, (.array .boolean)) := rfl
theorem fne_X6_init_43 : ec_fx fn_X6_init 43 = some (6, 10, false, (.array .int)) := rfl
theorem fne_X6_init_46 : ec_fx fn_X6_init 46 = some (6, 13, true, .int) := rfl
def cx_X6_init : ex_K := (RX6, ec_fx fn_X6_init, ec_cx cl_X6, ec_no, ec_no, ec_nz, ec_no)
theorem ok_X6_init (l : Launch) : ex_ok l 1 20 cx_X6_init := ⟨ec_fok fnp_X6_init, ec_cok co_X6, fun _ _ h => (by cases h), fun _ _ _ _ h => (by cases h), fun _ h => (by cases h), fun _ h => (by cases h), fun _ h => (by cases h), fun _ _ h => (by cases h)⟩
theorem nk_X6_init (l : Launch) : ex_nok l 1 20 11 106 cx_X6_init al_X6_init := by
  refine ⟨fun ix ci fs N h => ?_, fun ix h => ?_, fun ix n mc' ms' sp h => ?_, ec_nfok fno_X6_init, ec_arr⟩
  · cases h
  · unfold al_X6_init at h
    dsimp only at h
    split at h
    · exact ec_oi RX6 3 (by decide +kernel) (by decide) (by decide)
    · cases h
  · unfold al_X6_init at h
    dsimp only at h
    split at h
    · cases h
    · cases h
def sn_X6_init : ex_SN := ex_sn cx_X6_init al_X6_init cX6_init 1 11 106 51
theorem mn_X6_init (l : Launch) : ex_MetN l yX6_init cX6_init 1 1 20 11 106 sn_X6_init := ex_inn (by decide) rfl rfl (ok_X6_init l) (nk_X6_init l)
def al_X1_init : ex_J := (ec_no, fun ix => match ix with
  | 3 => some none
  | _ => none)
def fn_X1_init : List (Nat × Nat × Nat × Bool × FieldType) := [(9, 1, 0, true, .int), (15, 1, 1, true, .int), (18, 1, 2, true, .int)]
theorem fno_X1_init : fn_X1_init.all (ec_nchk RX1 fp_X1) = true := by decide +kernel
theorem fnp_X1_init : fn_X1_init.all (ec_fchk RX1 fp_X1) = true := by decide +kernel
theorem fne_X1_init_9 : ec_fx fn_X1_init 9 = some (1, 0, true, .int) := rfl
theorem fne_X1_init_15 : ec_fx fn_X1_init 15 = some (1, 1, true, .int) := rfl
theorem fne_X1_init_18 : ec_fx fn_X1_init 18 = some (1, 2, true, .int) := rfl
def cx_X1_init : ex_K := (RX1, ec_fx fn_X1_init, ec_cx cl_X1, ec_no, ec_no, ec_nz, ec_no)
theorem ok_X1_init (l : Launch) : ex_ok l 1 20 cx_X1_init := ⟨ec_fok fnp_X1_init, ec_cok co_X1, fun _ _ h => (by cases h), fun _ _ _ _ h => (by cases h), fun _ h => (by cases h), fun _ h => (by cases h), fun _ h => (by cases h), fun _ _ h => (by cases h)⟩
theorem nk_X1_init (l : Launch) : ex_nok l 1 20 0 0 cx_X1_init al_X1_init := by
  refine ⟨fun ix ci fs N h => ?_, fun ix h => ?_, fun ix n mc' ms' sp h => ?_, ec_nfok fno_X1_init, ec_arr⟩
  · cases h
  · unfold al_X1_init at h
    dsimp only at h
    split at h
    · exact ec_oi RX1 3 (by decide +kernel) (by decide) (by decide)
    · cases h
  · unfold al_X1_init at h
    dsimp only at h
    split at h
    · cases h
    · cases h
def sn_X1_init : ex_SN := ex_sn cx_X1_init al_X1_init cX1_init 1 0 0 13
theorem mn_X1_init (l : Launch) : ex_MetN l yX1_init cX1_init 1 1 20 0 0 sn_X1_init := ex_inn (by decide) rfl rfl (ok_X1_init l) (nk_X1_init l)
def al_X2_init : ex_J := (ec_no, fun ix => match ix with
  | 3 => some none
  | _ => none)
def fn_X2_init : List (Nat × Nat × Nat × Bool × FieldType) := [(11, 2, 4, true, .int)]
theorem fno_X2_init : fn_X2_init.all (ec_nchk RX2 fp_X2) = true := by decide +kernel
theorem fnp_X2_init : fn_X2_init.all (ec_fchk RX2 fp_X2) = true := by decide +kernel
theorem fne_X2_init_11 : ec_fx fn_X2_init 11 = some (2, 4, true, .int) := rfl
def cx_X2_init : ex_K := (RX2, ec_fx fn_X2_init, ec_cx cl_X2, ec_no, ec_no, ec_nz, ec_no)
theorem ok_X2_init (l : Launch) : ex_ok l 1 20 cx_X2_init := ⟨ec_fok fnp_X2_init, ec_cok co_X2, fun _ _ h => (by cases h), fun _ _ _ _ h => (by cases h), fun _ h => (by cases h), fun _ h => (by cases h), fun _ h => (by cases h), fun _ _ h => (by cases h)⟩
theorem nk_X2_init (l : Launch) : ex_nok l 1 20 0 0 cx_X2_init al_X2_init := by
  refine ⟨fun ix ci fs N h => ?_, fun ix h => ?_, fun ix n mc' ms' sp h => ?_, ec_nfok fno_X2_init, ec_arr⟩
  · cases h
  · unfold al_X2_init at h
    dsimp only at h
    split at h
    · exact ec_oi RX2 3 (by decide +kernel) (by decide) (by decide)
    · cases h
  · unfold al_X2_init at h
    dsimp only at h
    split at h
    · cases h
    · cases h
def sn_X2_init : ex_SN := ex_sn cx_X2_init al_X2_init cX2_init 1 0 0 7
theorem mn_X2_init (l : Launch) : ex_MetN l yX2_init cX2_init 1 1 20 0 0 sn_X2_init := ex_inn (by decide) rfl rfl (ok_X2_init l) (nk_X2_init l)
def al_X8_init : ex_J := (fun ix => match ix with
  | 9 => some (0, [.null, .null, .null, .null, .null, .null, .int 0, .int 0], 8)
  | 18 => some (3, [.null, .null, .null, .null, .null, .null, .int 0], 7)
  | 25 => some (6, [.null, .null, .null, .null, .null, .null, .null, .null, .null, .null, .null, .int 0, .int 0, .int 0, .int 0], 15)
  | 32 => some (1, [.int 0, .int 0, .int 0, .int 0, .int 0, .int 0], 6)
  | 39 => some (2, [.int 0, .int 0, .int 0, .int 0, .int 0, .int 0, .int 0], 7)
  | _ => none, fun ix => match ix with
  | 3 => some none
  | 11 => some (some (1, 6, 66, sn_X0_init))
  | 20 => some (some (1, 6, 36, sn_X3_init))
  | 27 => some (some (1, 11, 106, sn_X6_init))
  | 34 => some (some (1, 0, 0, sn_X1_init))
  | 41 => some (some (1, 0, 0, sn_X2_init))
  | _ => none)
def fn_X8_init : List (Nat × Nat × Nat × Bool × FieldType) := [(12, 8, 1, false, (.object "TinStation$Air")), (21, 8, 2, false, (.object "TinStation$Crew")), (28, 8, 3, false, (.object "TinStation$Plant")), (35, 8, 4, false, (.object "TinStation$Bounds")), (42, 8, 5, false, (.object "TinStation$Course")), (46, 8, 0, false, (.object "TinStation$Script"))]
theorem fno_X8_init : fn_X8_init.all (ec_nchk RX8 fp_X8) = true := by decide +kernel
theorem fnp_X8_init : fn_X8_init.all (ec_fchk RX8 fp_X8) = true := by decide +kernel
theorem fne_X8_init_12 : ec_fx fn_X8_init 12 = some (8, 1, false, (.object "TinStation$Air")) := rfl
theorem fne_X8_init_21 : ec_fx fn_X8_init 21 = some (8, 2, false, (.object "TinStation$Crew")) := rfl
theorem fne_X8_init_28 : ec_fx fn_X8_init 28 = some (8, 3, false, (.object "TinStation$Plant")) := rfl
theorem fne_X8_init_35 : ec_fx fn_X8_init 35 = some (8, 4, false, (.object "TinStation$Bounds")) := rfl
theorem fne_X8_init_42 : ec_fx fn_X8_init 42 = some (8, 5, false, (.object "TinStation$Course")) := rfl
theorem fne_X8_init_46 : ec_fx fn_X8_init 46 = some (8, 0, false, (.object "TinStation$Script")) := rfl
def cx_X8_init : ex_K := (RX8, ec_fx fn_X8_init, ec_cx cl_X8, ec_no, ec_no, ec_nz, ec_no)
theorem ok_X8_init (l : Launch) : ex_ok l 2 40 cx_X8_init := ⟨ec_fok fnp_X8_init, ec_cok co_X8, fun _ _ h => (by cases h), fun _ _ _ _ h => (by cases h), fun _ h => (by cases h), fun _ h => (by cases h), fun _ h => (by cases h), fun _ _ h => (by cases h)⟩
theorem nk_X8_init (l : Launch) : ex_nok l 2 40 28 251 cx_X8_init al_X8_init := by
  refine ⟨fun ix ci fs N h => ?_, fun ix h => ?_, fun ix n mc' ms' sp h => ?_, ec_nfok fno_X8_init, ec_arr⟩
  · unfold al_X8_init at h
    dsimp only at h
    split at h
    · cases h; exact ⟨RX0, TX0, tyX0, rfl, ec_in (i := 114) (by decide +kernel) rfl, ec_in (i := 115) (by decide +kernel) rfl, ec_in (i := 61) (by decide +kernel) rfl, tyX0_ok, by decide +kernel, rfl⟩
    · cases h; exact ⟨RX3, TX3, tyX3, rfl, ec_in (i := 154) (by decide +kernel) rfl, ec_in (i := 155) (by decide +kernel) rfl, ec_in (i := 62) (by decide +kernel) rfl, tyX3_ok, by decide +kernel, rfl⟩
    · cases h; exact ⟨RX6, TX6, tyX6, rfl, ec_in (i := 184) (by decide +kernel) rfl, ec_in (i := 185) (by decide +kernel) rfl, ec_in (i := 63) (by decide +kernel) rfl, tyX6_ok, by decide +kernel, rfl⟩
    · cases h; exact ⟨RX1, TX1, tyX1, rfl, ec_in (i := 242) (by decide +kernel) rfl, ec_in (i := 243) (by decide +kernel) rfl, ec_in (i := 64) (by decide +kernel) rfl, tyX1_ok, by decide +kernel, rfl⟩
    · cases h; exact ⟨RX2, TX2, tyX2, rfl, ec_in (i := 267) (by decide +kernel) rfl, ec_in (i := 268) (by decide +kernel) rfl, ec_in (i := 65) (by decide +kernel) rfl, tyX2_ok, by decide +kernel, rfl⟩
    · cases h
  · unfold al_X8_init at h
    dsimp only at h
    split at h
    · exact ec_oi RX8 3 (by decide +kernel) (by decide) (by decide)
    · cases h
    · cases h
    · cases h
    · cases h
    · cases h
    · cases h
  · unfold al_X8_init at h
    dsimp only at h
    split at h
    · cases h
    · cases h; exact ⟨yX0_init, cX0_init, 1, 1, 20, by decide, by decide, mn_X0_init l, ec_in (i := 118) (by decide +kernel) rfl, ec_in (i := 61) (by decide +kernel) rfl, by decide, Or.inr ⟨"TinStation", by decide +kernel⟩, rfl, ec_in (i := 117) (by decide +kernel) rfl, by decide, by decide +kernel⟩
    · cases h; exact ⟨yX3_init, cX3_init, 1, 1, 20, by decide, by decide, mn_X3_init l, ec_in (i := 158) (by decide +kernel) rfl, ec_in (i := 62) (by decide +kernel) rfl, by decide, Or.inr ⟨"TinStation", by decide +kernel⟩, rfl, ec_in (i := 157) (by decide +kernel) rfl, by decide, by decide +kernel⟩
    · cases h; exact ⟨yX6_init, cX6_init, 1, 1, 20, by decide, by decide, mn_X6_init l, ec_in (i := 188) (by decide +kernel) rfl, ec_in (i := 63) (by decide +kernel) rfl, by decide, Or.inr ⟨"TinStation", by decide +kernel⟩, rfl, ec_in (i := 187) (by decide +kernel) rfl, by decide, by decide +kernel⟩
    · cases h; exact ⟨yX1_init, cX1_init, 1, 1, 20, by decide, by decide, mn_X1_init l, ec_in (i := 246) (by decide +kernel) rfl, ec_in (i := 64) (by decide +kernel) rfl, by decide, Or.inr ⟨"TinStation", by decide +kernel⟩, rfl, ec_in (i := 245) (by decide +kernel) rfl, by decide, by decide +kernel⟩
    · cases h; exact ⟨yX2_init, cX2_init, 1, 1, 20, by decide, by decide, mn_X2_init l, ec_in (i := 271) (by decide +kernel) rfl, ec_in (i := 65) (by decide +kernel) rfl, by decide, Or.inr ⟨"TinStation", by decide +kernel⟩, rfl, ec_in (i := 270) (by decide +kernel) rfl, by decide, by decide +kernel⟩
    · cases h
def sn_X8_init : ex_SN := ex_sn cx_X8_init al_X8_init cX8_init 2 28 251 32
theorem mn_X8_init (l : Launch) : ex_MetN l yX8_init cX8_init 2 2 40 28 251 sn_X8_init := ex_inn (by decide) rfl rfl (ok_X8_init l) (nk_X8_init l)
def al_X4_init : ex_J := (ec_no, fun ix => match ix with
  | 3 => some none
  | _ => none)
def fn_X4_init : List (Nat × Nat × Nat × Bool × FieldType) := [(9, 4, 0, false, (.array .int))]
theorem fno_X4_init : fn_X4_init.all (ec_nchk RX4 fp_X4) = true := by decide +kernel
theorem fnp_X4_init : fn_X4_init.all (ec_fchk RX4 fp_X4) = true := by decide +kernel
theorem fne_X4_init_9 : ec_fx fn_X4_init 9 = some (4, 0, false, (.array .int)) := rfl
def cx_X4_init : ex_K := (RX4, ec_fx fn_X4_init, ec_cx cl_X4, ec_no, ec_no, ec_nz, ec_no)
theorem ok_X4_init (l : Launch) : ex_ok l 1 20 cx_X4_init := ⟨ec_fok fnp_X4_init, ec_cok co_X4, fun _ _ h => (by cases h), fun _ _ _ _ h => (by cases h), fun _ h => (by cases h), fun _ h => (by cases h), fun _ h => (by cases h), fun _ _ h => (by cases h)⟩
theorem nk_X4_init (l : Launch) : ex_nok l 1 20 1 6 cx_X4_init al_X4_init := by
  refine ⟨fun ix ci fs N h => ?_, fun ix h => ?_, fun ix n mc' ms' sp h => ?_, ec_nfok fno_X4_init, ec_arr⟩
  · cases h
  · unfold al_X4_init at h
    dsimp only at h
    split at h
    · exact ec_oi RX4 3 (by decide +kernel) (by decide) (by decide)
    · cases h
  · unfold al_X4_init at h
    dsimp only at h
    split at h
    · cases h
    · cases h
def sn_X4_init : ex_SN := ex_sn cx_X4_init al_X4_init cX4_init 1 1 6 8
theorem mn_X4_init (l : Launch) : ex_MetN l yX4_init cX4_init 1 1 20 1 6 sn_X4_init := ex_inn (by decide) rfl rfl (ok_X4_init l) (nk_X4_init l)
def al_X5_init : ex_J := (ec_no, fun ix => match ix with
  | 3 => some none
  | _ => none)
def fn_X5_init : List (Nat × Nat × Nat × Bool × FieldType) := [(9, 5, 0, false, (.array .int)), (15, 5, 1, false, (.array .int)), (18, 5, 2, false, (.array .int)), (21, 5, 3, false, (.array .int)), (24, 5, 4, false, (.array .int)), (27, 5, 5, false, (.array .int)), (30, 5, 6, false, (.array .int)), (33, 5, 9, true, .int)]
theorem fno_X5_init : fn_X5_init.all (ec_nchk RX5 fp_X5) = true := by decide +kernel
theorem fnp_X5_init : fn_X5_init.all (ec_fchk RX5 fp_X5) = true := by decide +kernel
theorem fne_X5_init_9 : ec_fx fn_X5_init 9 = some (5, 0, false, (.array .int)) := rfl
theorem fne_X5_init_15 : ec_fx fn_X5_init 15 = some (5, 1, false, (.array .int)) := rfl
theorem fne_X5_init_18 : ec_fx fn_X5_init 18 = some (5, 2, false, (.array .int)) := rfl
theorem fne_X5_init_21 : ec_fx fn_X5_init 21 = some (5, 3, false, (.array .int)) := rfl
theorem fne_X5_init_24 : ec_fx fn_X5_init 24 = some (5, 4, false, (.array .int)) := rfl
theorem fne_X5_init_27 : ec_fx fn_X5_init 27 = some (5, 5, false, (.array .int)) := rfl
theorem fne_X5_init_30 : ec_fx fn_X5_init 30 = some (5, 6, false, (.array .int)) := rfl
theorem fne_X5_init_33 : ec_fx fn_X5_init 33 = some (5, 9, true, .int) := rfl
def cx_X5_init : ex_K := (RX5, ec_fx fn_X5_init, ec_cx cl_X5, ec_no, ec_no, ec_nz, ec_no)
theorem ok_X5_init (l : Launch) : ex_ok l 1 20 cx_X5_init := ⟨ec_fok fnp_X5_init, ec_cok co_X5, fun _ _ h => (by cases h), fun _ _ _ _ h => (by cases h), fun _ h => (by cases h), fun _ h => (by cases h), fun _ h => (by cases h), fun _ _ h => (by cases h)⟩
theorem nk_X5_init (l : Launch) : ex_nok l 1 20 7 220 cx_X5_init al_X5_init := by
  refine ⟨fun ix ci fs N h => ?_, fun ix h => ?_, fun ix n mc' ms' sp h => ?_, ec_nfok fno_X5_init, ec_arr⟩
  · cases h
  · unfold al_X5_init at h
    dsimp only at h
    split at h
    · exact ec_oi RX5 3 (by decide +kernel) (by decide) (by decide)
    · cases h
  · unfold al_X5_init at h
    dsimp only at h
    split at h
    · cases h
    · cases h
def sn_X5_init : ex_SN := ex_sn cx_X5_init al_X5_init cX5_init 1 7 220 35
theorem mn_X5_init (l : Launch) : ex_MetN l yX5_init cX5_init 1 1 20 7 220 sn_X5_init := ex_inn (by decide) rfl rfl (ok_X5_init l) (nk_X5_init l)
def al_X9_init : ex_J := (fun ix => match ix with
  | 9 => some (7, [.null, .null, .null, .null, .int 0], 5)
  | 16 => some (8, [.null, .null, .null, .null, .null, .null, .int 0], 7)
  | 28 => some (4, [.null, .int 0], 2)
  | 35 => some (5, [.null, .null, .null, .null, .null, .null, .null, .int 0, .int 0, .int 0], 10)
  | _ => none, fun ix => match ix with
  | 3 => some none
  | 11 => some (some (1, 4, 160, sn_X7_init))
  | 18 => some (some (2, 28, 251, sn_X8_init))
  | 30 => some (some (1, 1, 6, sn_X4_init))
  | 37 => some (some (1, 7, 220, sn_X5_init))
  | _ => none)
def fn_X9_init : List (Nat × Nat × Nat × Bool × FieldType) := [(12, 9, 0, false, (.object "TinStation$Script")), (21, 9, 1, false, (.object "TinStation$World")), (25, 9, 2, false, (.object "TinStation$World")), (31, 9, 3, false, (.object "TinStation$Hunt")), (38, 9, 4, false, (.object "TinStation$Journal")), (42, 9, 5, false, (.array .int)), (46, 9, 6, false, (.array .int)), (50, 9, 8, true, .int)]
theorem fno_X9_init : fn_X9_init.all (ec_nchk RX9 fp_X9) = true := by decide +kernel
theorem fnp_X9_init : fn_X9_init.all (ec_fchk RX9 fp_X9) = true := by decide +kernel
theorem fne_X9_init_12 : ec_fx fn_X9_init 12 = some (9, 0, false, (.object "TinStation$Script")) := rfl
theorem fne_X9_init_21 : ec_fx fn_X9_init 21 = some (9, 1, false, (.object "TinStation$World")) := rfl
theorem fne_X9_init_25 : ec_fx fn_X9_init 25 = some (9, 2, false, (.object "TinStation$World")) := rfl
theorem fne_X9_init_31 : ec_fx fn_X9_init 31 = some (9, 3, false, (.object "TinStation$Hunt")) := rfl
theorem fne_X9_init_38 : ec_fx fn_X9_init 38 = some (9, 4, false, (.object "TinStation$Journal")) := rfl
theorem fne_X9_init_42 : ec_fx fn_X9_init 42 = some (9, 5, false, (.array .int)) := rfl
theorem fne_X9_init_46 : ec_fx fn_X9_init 46 = some (9, 6, false, (.array .int)) := rfl
theorem fne_X9_init_50 : ec_fx fn_X9_init 50 = some (9, 8, true, .int) := rfl
def cx_X9_init : ex_K := (RX9, ec_fx fn_X9_init, ec_cx cl_X9, ec_no, ec_no, ec_nz, ec_no)
theorem ok_X9_init (l : Launch) : ex_ok l 3 61 cx_X9_init := ⟨ec_fok fnp_X9_init, ec_cok co_X9, fun _ _ h => (by cases h), fun _ _ _ _ h => (by cases h), fun _ h => (by cases h), fun _ h => (by cases h), fun _ h => (by cases h), fun _ _ h => (by cases h)⟩
theorem nk_X9_init (l : Launch) : ex_nok l 3 61 75 949 cx_X9_init al_X9_init := by
  refine ⟨fun ix ci fs N h => ?_, fun ix h => ?_, fun ix n mc' ms' sp h => ?_, ec_nfok fno_X9_init, ec_arr⟩
  · unfold al_X9_init at h
    dsimp only at h
    split at h
    · cases h; exact ⟨RX7, TX7, tyX7, rfl, ec_in (i := 80) (by decide +kernel) rfl, ec_in (i := 81) (by decide +kernel) rfl, ec_in (i := 59) (by decide +kernel) rfl, tyX7_ok, by decide +kernel, rfl⟩
    · cases h; exact ⟨RX8, TX8, tyX8, rfl, ec_in (i := 108) (by decide +kernel) rfl, ec_in (i := 109) (by decide +kernel) rfl, ec_in (i := 60) (by decide +kernel) rfl, tyX8_ok, by decide +kernel, rfl⟩
    · cases h; exact ⟨RX4, TX4, tyX4, rfl, ec_in (i := 330) (by decide +kernel) rfl, ec_in (i := 331) (by decide +kernel) rfl, ec_in (i := 66) (by decide +kernel) rfl, tyX4_ok, by decide +kernel, rfl⟩
    · cases h; exact ⟨RX5, TX5, tyX5, rfl, ec_in (i := 344) (by decide +kernel) rfl, ec_in (i := 345) (by decide +kernel) rfl, ec_in (i := 67) (by decide +kernel) rfl, tyX5_ok, by decide +kernel, rfl⟩
    · cases h
  · unfold al_X9_init at h
    dsimp only at h
    split at h
    · exact ec_oi RX9 3 (by decide +kernel) (by decide) (by decide)
    · cases h
    · cases h
    · cases h
    · cases h
    · cases h
  · unfold al_X9_init at h
    dsimp only at h
    split at h
    · cases h
    · cases h; exact ⟨yX7_init, cX7_init, 1, 1, 20, by decide, by decide, mn_X7_init l, ec_in (i := 84) (by decide +kernel) rfl, ec_in (i := 59) (by decide +kernel) rfl, by decide, Or.inr ⟨"TinStation", by decide +kernel⟩, rfl, ec_in (i := 83) (by decide +kernel) rfl, by decide, by decide +kernel⟩
    · cases h; exact ⟨yX8_init, cX8_init, 2, 2, 40, by decide, by decide, mn_X8_init l, ec_in (i := 112) (by decide +kernel) rfl, ec_in (i := 60) (by decide +kernel) rfl, by decide, Or.inl (ec_in (i := 110) (by decide +kernel) rfl), rfl, ec_in (i := 111) (by decide +kernel) rfl, by decide, by decide +kernel⟩
    · cases h; exact ⟨yX4_init, cX4_init, 1, 1, 20, by decide, by decide, mn_X4_init l, ec_in (i := 334) (by decide +kernel) rfl, ec_in (i := 66) (by decide +kernel) rfl, by decide, Or.inr ⟨"TinStation", by decide +kernel⟩, rfl, ec_in (i := 333) (by decide +kernel) rfl, by decide, by decide +kernel⟩
    · cases h; exact ⟨yX5_init, cX5_init, 1, 1, 20, by decide, by decide, mn_X5_init l, ec_in (i := 348) (by decide +kernel) rfl, ec_in (i := 67) (by decide +kernel) rfl, by decide, Or.inr ⟨"TinStation", by decide +kernel⟩, rfl, ec_in (i := 347) (by decide +kernel) rfl, by decide, by decide +kernel⟩
    · cases h
def sn_X9_init : ex_SN := ex_sn cx_X9_init al_X9_init cX9_init 1 75 949 44
theorem mn_X9_init (l : Launch) : ex_MetN l yX9_init cX9_init 1 3 61 75 949 sn_X9_init := ex_inn (by decide) rfl rfl (ok_X9_init l) (nk_X9_init l)
def al_X10_init : ex_J := (ec_no, fun ix => match ix with
  | 1 => some none
  | _ => none)
def fn_X10_init : List (Nat × Nat × Nat × Bool × FieldType) := [(7, 10, 1, false, (.array .int)), (13, 10, 2, false, (.array .int)), (16, 10, 3, false, (.array .int)), (19, 10, 5, false, (.array .int)), (22, 10, 6, false, (.array .int)), (25, 10, 7, false, (.array .int)), (28, 10, 8, false, (.array .int)), (31, 10, 10, false, (.array .int)), (34, 10, 11, false, (.array .int)), (37, 10, 12, false, (.array .int)), (40, 10, 13, false, (.array .int)), (43, 10, 14, false, (.array .int)), (46, 10, 15, false, (.array .int)), (49, 10, 17, false, (.array .int)), (52, 10, 18, false, (.array .int)), (55, 10, 19, false, (.array .int)), (58, 10, 20, false, (.array .int)), (61, 10, 21, false, (.array .int)), (64, 10, 22, false, (.array .int)), (67, 10, 23, false, (.array .int)), (70, 10, 24, false, (.array .int)), (73, 10, 25, false, (.array .int)), (76, 10, 26, false, (.array .int)), (79, 10, 27, false, (.array .int)), (82, 10, 28, false, (.array .int)), (85, 10, 30, true, .int), (89, 10, 31, true, .int), (92, 10, 32, true, .int), (95, 10, 33, true, .int), (98, 10, 35, false, (.array .int)), (101, 10, 36, false, (.array .int)), (104, 10, 37, false, (.array .int)), (107, 10, 38, false, (.array .int)), (110, 10, 41, false, (.array .int)), (113, 10, 42, false, (.array .int)), (116, 10, 43, false, (.array .int)), (119, 10, 44, false, (.array .int)), (122, 10, 46, false, (.array .int)), (125, 10, 47, false, (.array .int)), (128, 10, 48, false, (.array .int)), (131, 10, 49, true, .int), (135, 10, 50, true, .int), (138, 10, 53, false, (.array .int)), (141, 10, 54, false, (.array .int)), (144, 10, 55, false, (.array .int))]
theorem fno_X10_init : fn_X10_init.all (ec_nchk RX10 fp_X10) = true := by decide +kernel
theorem fnp_X10_init : fn_X10_init.all (ec_fchk RX10 fp_X10) = true := by decide +kernel
theorem fne_X10_init_7 : ec_fx fn_X10_init 7 = some (10, 1, false, (.array .int)) := rfl
theorem fne_X10_init_13 : ec_fx fn_X10_init 13 = some (10, 2, false, (.array .int)) := rfl
theorem fne_X10_init_16 : ec_fx fn_X10_init 16 = some (10, 3, false, (.array .int)) := rfl
theorem fne_X10_init_19 : ec_fx fn_X10_init 19 = some (10, 5, false, (.array .int)) := rfl
theorem fne_X10_init_22 : ec_fx fn_X10_init 22 = some (10, 6, false, (.array .int)) := rfl
theorem fne_X10_init_25 : ec_fx fn_X10_init 25 = some (10, 7, false, (.array .int)) := rfl
theorem fne_X10_init_28 : ec_fx fn_X10_init 28 = some (10, 8, false, (.array .int)) := rfl
theorem fne_X10_init_31 : ec_fx fn_X10_init 31 = some (10, 10, false, (.array .int)) := rfl
theorem fne_X10_init_34 : ec_fx fn_X10_init 34 = some (10, 11, false, (.array .int)) := rfl
theorem fne_X10_init_37 : ec_fx fn_X10_init 37 = some (10, 12, false, (.array .int)) := rfl
theorem fne_X10_init_40 : ec_fx fn_X10_init 40 = some (10, 13, false, (.array .int)) := rfl
theorem fne_X10_init_43 : ec_fx fn_X10_init 43 = some (10, 14, false, (.array .int)) := rfl
theorem fne_X10_init_46 : ec_fx fn_X10_init 46 = some (10, 15, false, (.array .int)) := rfl
theorem fne_X10_init_49 : ec_fx fn_X10_init 49 = some (10, 17, false, (.array .int)) := rfl
theorem fne_X10_init_52 : ec_fx fn_X10_init 52 = some (10, 18, false, (.array .int)) := rfl
theorem fne_X10_init_55 : ec_fx fn_X10_init 55 = some (10, 19, false, (.array .int)) := rfl
theorem fne_X10_init_58 : ec_fx fn_X10_init 58 = some (10, 20, false, (.array .int)) := rfl
theorem fne_X10_init_61 : ec_fx fn_X10_init 61 = some (10, 21, false, (.array .int)) := rfl
theorem fne_X10_init_64 : ec_fx fn_X10_init 64 = some (10, 22, false, (.array .int)) := rfl
theorem fne_X10_init_67 : ec_fx fn_X10_init 67 = some (10, 23, false, (.array .int)) := rfl
theorem fne_X10_init_70 : ec_fx fn_X10_init 70 = some (10, 24, false, (.array .int)) := rfl
theorem fne_X10_init_73 : ec_fx fn_X10_init 73 = some (10, 25, false, (.array .int)) := rfl
theorem fne_X10_init_76 : ec_fx fn_X10_init 76 = some (10, 26, false, (.array .int)) := rfl
theorem fne_X10_init_79 : ec_fx fn_X10_init 79 = some (10, 27, false, (.array .int)) := rfl
theorem fne_X10_init_82 : ec_fx fn_X10_init 82 = some (10, 28, false, (.array .int)) := rfl
theorem fne_X10_init_85 : ec_fx fn_X10_init 85 = some (10, 30, true, .int) := rfl
theorem fne_X10_init_89 : ec_fx fn_X10_init 89 = some (10, 31, true, .int) := rfl
theorem fne_X10_init_92 : ec_fx fn_X10_init 92 = some (10, 32, true, .int) := rfl
theorem fne_X10_init_95 : ec_fx fn_X10_init 95 = some (10, 33, true, .int) := rfl
theorem fne_X10_init_98 : ec_fx fn_X10_init 98 = some (10, 35, false, (.array .int)) := rfl
theorem fne_X10_init_101 : ec_fx fn_X10_init 101 = some (10, 36, false, (.array .int)) := rfl
theorem fne_X10_init_104 : ec_fx fn_X10_init 104 = some (10, 37, false, (.array .int)) := rfl
theorem fne_X10_init_107 : ec_fx fn_X10_init 107 = some (10, 38, false, (.array .int)) := rfl
theorem fne_X10_init_110 : ec_fx fn_X10_init 110 = some (10, 41, false, (.array .int)) := rfl
theorem fne_X10_init_113 : ec_fx fn_X10_init 113 = some (10, 42, false, (.array .int)) := rfl
theorem fne_X10_init_116 : ec_fx fn_X10_init 116 = some (10, 43, false, (.array .int)) := rfl
theorem fne_X10_init_119 : ec_fx fn_X10_init 119 = some (10, 44, false, (.array .int)) := rfl
theorem fne_X10_init_122 : ec_fx fn_X10_init 122 = some (10, 46, false, (.array .int)) := rfl
theorem fne_X10_init_125 : ec_fx fn_X10_init 125 = some (10, 47, false, (.array .int)) := rfl
theorem fne_X10_init_128 : ec_fx fn_X10_init 128 = some (10, 48, false, (.array .int)) := rfl
theorem fne_X10_init_131 : ec_fx fn_X10_init 131 = some (10, 49, true, .int) := rfl
theorem fne_X10_init_135 : ec_fx fn_X10_init 135 = some (10, 50, true, .int) := rfl
theorem fne_X10_init_138 : ec_fx fn_X10_init 138 = some (10, 53, false, (.array .int)) := rfl
theorem fne_X10_init_141 : ec_fx fn_X10_init 141 = some (10, 54, false, (.array .int)) := rfl
theorem fne_X10_init_144 : ec_fx fn_X10_init 144 = some (10, 55, false, (.array .int)) := rfl
def cx_X10_init : ex_K := (RX10, ec_fx fn_X10_init, ec_cx cl_X10, ec_no, ec_no, ec_nz, ec_no)
theorem ok_X10_init (l : Launch) : ex_ok l 1 20 cx_X10_init := ⟨ec_fok fnp_X10_init, ec_cok co_X10, fun _ _ h => (by cases h), fun _ _ _ _ h => (by cases h), fun _ h => (by cases h), fun _ h => (by cases h), fun _ h => (by cases h), fun _ _ h => (by cases h)⟩
theorem nk_X10_init (l : Launch) : ex_nok l 1 20 39 789 cx_X10_init al_X10_init := by
  refine ⟨fun ix ci fs N h => ?_, fun ix h => ?_, fun ix n mc' ms' sp h => ?_, ec_nfok fno_X10_init, ec_arr⟩
  · cases h
  · unfold al_X10_init at h
    dsimp only at h
    split at h
    · exact ec_oi RX10 1 (by decide +kernel) (by decide) (by decide)
    · cases h
  · unfold al_X10_init at h
    dsimp only at h
    split at h
    · cases h
    · cases h
def sn_X10_init : ex_SN := ex_sn cx_X10_init al_X10_init cX10_init 1 39 789 193
theorem mn_X10_init (l : Launch) : ex_MetN l yX10_init cX10_init 1 1 20 39 789 sn_X10_init := ex_inn (by decide) rfl rfl (ok_X10_init l) (nk_X10_init l)
