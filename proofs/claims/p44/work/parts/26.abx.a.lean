theorem bw_X9_copy : ec_cw yX9_copy cX9_copy 2 none := ⟨ec_in (i := 874) (by decide +kernel) rfl, ec_in (i := 58) (by decide +kernel) rfl, by decide, by decide⟩
theorem bv_X9_copy : Cond.static yX9_copy ∈ ec_tb := ec_in (i := 873) (by decide +kernel) rfl
def bx_X9_copy : ex_K := (RX9, ec_fx fl_X9, ec_cx cl_X9, sl_X9, (fun ix => (ec_no ix).map (fun (q : Nat × Option Nat × List ab_C) => (q.1, q.2.1, ab_sp ab_hd q.2.2))), al_X9, ec_no)
theorem bj_X9_copy (l : Launch) : ex_ok l 1 26 bx_X9_copy := ⟨ec_fok fo_X9, ec_cok co_X9, so_X9, fun _ _ _ _ h => (by cases h), am_X9 (by decide) (by decide), ax_X9, ao_X9 (by decide) (by decide), fun _ _ h => (by cases h)⟩
def bq_X9_copy : List (ab_C × List ab_Q) := [(([.inl 8, .inl 37], [], [(37, none)], [(none, [], [])]), []),
  (([.inl 9, .inl 38], [], [(38, none)], [(none, [], [])]), []),
  (([.inl 10, .inl 39], [], [(39, none)], [(none, [], [])]), []),
  (([.inl 11, .inl 40], [], [(40, none)], [(none, [], [])]), []),
  (([.inl 13, .inl 42], [], [(42, none)], [(none, [], [])]), []),
  (([.inl 15, .inl 44], [], [(44, none)], [(none, [], [])]), []),
  (([.inl 16, .inl 45], [], [(45, none)], [(none, [], [])]), []),
  (([.inl 17, .inl 46], [], [(46, none)], [(none, [], [])]), []),
  (([.inl 18, .inl 47], [], [(47, none)], [(none, [], [])]), []),
  (([.inl 19, .inl 48], [], [(48, none)], [(none, [], [])]), []),
  (([.inl 20, .inl 49], [], [(49, none)], [(none, [], [])]), []),
  (([.inl 22, .inl 51], [], [(51, none)], [(none, [], [])]), []),
  (([.inl 23, .inl 52], [], [(52, none)], [(none, [], [])]), []),
  (([.inl 24, .inl 53], [], [(53, none)], [(none, [], [])]), []),
  (([.inl 25, .inl 54], [], [(54, none)], [(none, [], [])]), []),
  (([.inl 26, .inl 55], [], [(55, none)], [(none, [], [])]), []),
  (([.inl 27, .inl 56], [], [(56, none)], [(none, [], [])]), []),
  (([.inl 28, .inl 57], [], [(57, none)], [(none, [], [])]), []),
  (([.inl 32, .inl 61], [], [(61, none)], [(none, [], [])]), [])]
def bc_X9_copy : List ab_C := bq_X9_copy.map (fun c => c.1)
def bi_X9_copy : List (Nat × Instr × Nat) := [(0, .aload_n 0, 1), (1, .iconst 0, 1), (2, .aload_n 1, 1), (3, .iconst 0, 1), (4, .aload_n 0, 1), (5, .arraylength, 1), (6, .aload_n 1, 1), (7, .arraylength, 1), (8, .invokestatic 277, 3), (11, .invokestatic 282, 3), (14, .return_, 1)]
theorem bd_X9_copy : ∀ q ∈ bi_X9_copy, decode cX9_copy q.1 = .ok q.2 := by decide +kernel
theorem bz_X9_copy : bq_X9_copy.all (ab_ck ab_hd ab_xs ab_tr bx_X9_copy ec_no bi_X9_copy none 2 13) = true := by decide +kernel
theorem bm_X9_copy (l : Launch) : ex_Met l yX9_copy cX9_copy 2 none 1 26 (ab_sp ab_hd bc_X9_copy) := ab_met (by decide) (by decide) rfl (bj_X9_copy l) bd_X9_copy ab_hcm ab_xk bz_X9_copy
theorem bw_X9_copyFlags : ec_cw yX9_copyFlags cX9_copyFlags 3 none := ⟨ec_in (i := 881) (by decide +kernel) rfl, ec_in (i := 58) (by decide +kernel) rfl, by decide, by decide⟩
theorem bv_X9_copyFlags : Cond.static yX9_copyFlags ∈ ec_tb := ec_in (i := 880) (by decide +kernel) rfl
def bx_X9_copyFlags : ex_K := (RX9, ec_fx fl_X9, ec_cx cl_X9, sl_X9, (fun ix => (ec_no ix).map (fun (q : Nat × Option Nat × List ab_C) => (q.1, q.2.1, ab_sp ab_hd q.2.2))), ec_nz, ec_no)
theorem bj_X9_copyFlags (l : Launch) : ex_ok l 0 0 bx_X9_copyFlags := ⟨ec_fok fo_X9, ec_cok co_X9, so_X9, fun _ _ _ _ h => (by cases h), fun _ h => (by cases h), fun _ h => (by cases h), fun _ h => (by cases h), fun _ _ h => (by cases h)⟩
def bq_X9_copyFlags : List (ab_C × List ab_Q) := [(([.inl 12, .inl 41], [], [(41, none)], [(none, [], [])]), [(2, [some (.inl 12), some (.inl 41), some (.inr (.inl (0, 8, none, none)))], [((1, 0, 7), 0, 24, some (1007, 0)), ((1, 76, 52), 0, 24, some (77052, 0))], 17, [0, 0, (-2)])]),
  (([.inl 29, .inl 58], [], [(58, none)], [(none, [], [])]), [(2, [some (.inl 29), some (.inl 58), some (.inr (.inl (0, 10, none, none)))], [((1, 0, 7), 0, 24, some (1007, 0)), ((1, 76, 52), 0, 24, some (77052, 0))], 21, [0, 0, (-2)])]),
  (([.inl 30, .inl 59], [], [(59, none)], [(none, [], [])]), [(2, [some (.inl 30), some (.inl 59), some (.inr (.inl (0, 10, none, none)))], [((1, 0, 7), 0, 24, some (1007, 0)), ((1, 76, 52), 0, 24, some (77052, 0))], 21, [0, 0, (-2)])]),
  (([.inl 31, .inl 60], [], [(60, none)], [(none, [], [])]), [(2, [some (.inl 31), some (.inl 60), some (.inr (.inl (0, 10, none, none)))], [((1, 0, 7), 0, 24, some (1007, 0)), ((1, 76, 52), 0, 24, some (77052, 0))], 21, [0, 0, (-2)])])]
def bc_X9_copyFlags : List ab_C := bq_X9_copyFlags.map (fun c => c.1)
def bi_X9_copyFlags : List (Nat × Instr × Nat) := [(0, .iconst 0, 1), (1, .istore_n 2, 1), (2, .iload_n 2, 1), (3, .aload_n 0, 1), (4, .arraylength, 1), (5, .if_icmp .ge 21, 3), (8, .iload_n 2, 1), (9, .aload_n 1, 1), (10, .arraylength, 1), (11, .if_icmp .ge 15, 3), (14, .aload_n 1, 1), (15, .iload_n 2, 1), (16, .aload_n 0, 1), (17, .iload_n 2, 1), (18, .baload, 1), (19, .bastore, 1), (20, .iinc 2 1, 3), (23, .goto (-21), 3), (26, .return_, 1)]
theorem bd_X9_copyFlags : ∀ q ∈ bi_X9_copyFlags, decode cX9_copyFlags q.1 = .ok q.2 := by decide +kernel
theorem bz_X9_copyFlags : bq_X9_copyFlags.all (ab_ck ab_hd ab_xs ab_tr bx_X9_copyFlags ec_no bi_X9_copyFlags none 3 18) = true := by decide +kernel
theorem bm_X9_copyFlags (l : Launch) : ex_Met l yX9_copyFlags cX9_copyFlags 3 none 0 0 (ab_sp ab_hd bc_X9_copyFlags) := ab_met (by decide) (by decide) rfl (bj_X9_copyFlags l) bd_X9_copyFlags ab_hcm ab_xk bz_X9_copyFlags
theorem bw_X0_becomeLike : ec_cw yX0_becomeLike cX0_becomeLike 2 none := ⟨ec_in (i := 871) (by decide +kernel) rfl, ec_in (i := 61) (by decide +kernel) rfl, by decide, by decide⟩
theorem bv_X0_becomeLike : Cond.instanceMethod yX0_becomeLike ∈ ec_tb ∧ Cond.selects yX0_becomeLike.cls yX0_becomeLike yX0_becomeLike ∈ ec_tb := ⟨ec_in (i := 869) (by decide +kernel) rfl, ec_in (i := 870) (by decide +kernel) rfl⟩
def be_X0_becomeLike : Nat → Option (Nat × Option Nat × List ab_C) := fun ix => match ix with
  | 31 => some (2, none, bc_X9_copy)
  | 35 => some (2, none, bc_X9_copyFlags)
  | _ => none
theorem bk_X0_becomeLike (l : Launch) : ∀ (ix n : Nat) (rc : Option Nat) (sp : ex_S), (be_X0_becomeLike ix).map (fun q => (q.1, q.2.1, ab_sp ab_hd q.2.2)) = some (n, rc, sp) → ex_cok l RX0 2 47 ix n rc sp := by
  intro ix n rc sp h
  obtain ⟨l0, h2, rfl⟩ := ab_dmk h
  clear h
  unfold be_X0_becomeLike at h2
  split at h2
  · cases h2; exact ec_cS (bm_X9_copy l) bw_X9_copy bv_X9_copy (by decide) (by decide) (Or.inr ⟨"TinStation", by decide +kernel⟩) (by decide +kernel)
  · cases h2; exact ec_cS (bm_X9_copyFlags l) bw_X9_copyFlags bv_X9_copyFlags (by decide) (by decide) (Or.inr ⟨"TinStation", by decide +kernel⟩) (by decide +kernel)
  · cases h2
def bx_X0_becomeLike : ex_K := (RX0, ec_fx fl_X0, ec_cx cl_X0, sl_X0, (fun ix => (be_X0_becomeLike ix).map (fun q => (q.1, q.2.1, ab_sp ab_hd q.2.2))), ec_nz, ec_no)
theorem bj_X0_becomeLike (l : Launch) : ex_ok l 2 47 bx_X0_becomeLike := ⟨ec_fok fo_X0, ec_cok co_X0, so_X0, bk_X0_becomeLike l, fun _ h => (by cases h), fun _ h => (by cases h), fun _ h => (by cases h), fun _ _ h => (by cases h)⟩
def bq_X0_becomeLike : List (ab_C × List ab_Q) := [(([.inl 36, .inl 7], [], [(36, some 6), (36, some 7), (37, none), (38, none), (39, none), (40, none), (41, none), (42, none)], [(none, [], [])]), [])]
def bc_X0_becomeLike : List ab_C := bq_X0_becomeLike.map (fun c => c.1)
def bi_X0_becomeLike : List (Nat × Instr × Nat) := [(0, .aload_n 1, 1), (1, .getfield 9, 3), (4, .aload_n 0, 1), (5, .getfield 9, 3), (8, .invokestatic 31, 3), (11, .aload_n 1, 1), (12, .getfield 15, 3), (15, .aload_n 0, 1), (16, .getfield 15, 3), (19, .invokestatic 31, 3), (22, .aload_n 1, 1), (23, .getfield 18, 3), (26, .aload_n 0, 1), (27, .getfield 18, 3), (30, .invokestatic 31, 3), (33, .aload_n 1, 1), (34, .getfield 21, 3), (37, .aload_n 0, 1), (38, .getfield 21, 3), (41, .invokestatic 31, 3), (44, .aload_n 1, 1), (45, .getfield 24, 3), (48, .aload_n 0, 1), (49, .getfield 24, 3), (52, .invokestatic 35, 3), (55, .aload_n 1, 1), (56, .getfield 28, 3), (59, .aload_n 0, 1), (60, .getfield 28, 3), (63, .invokestatic 31, 3), (66, .aload_n 0, 1), (67, .aload_n 1, 1), (68, .getfield 39, 3), (71, .putfield 39, 3), (74, .aload_n 0, 1), (75, .aload_n 1, 1), (76, .getfield 43, 3), (79, .putfield 43, 3), (82, .return_, 1)]
theorem bd_X0_becomeLike : ∀ q ∈ bi_X0_becomeLike, decode cX0_becomeLike q.1 = .ok q.2 := by decide +kernel
theorem bz_X0_becomeLike : bq_X0_becomeLike.all (ab_ck ab_hd ab_xs ab_tr bx_X0_becomeLike be_X0_becomeLike bi_X0_becomeLike none 2 41) = true := by decide +kernel
theorem bm_X0_becomeLike (l : Launch) : ex_Met l yX0_becomeLike cX0_becomeLike 2 none 2 47 (ab_sp ab_hd bc_X0_becomeLike) := ab_met (by decide) (by decide) rfl (bj_X0_becomeLike l) bd_X0_becomeLike ab_hcm ab_xk bz_X0_becomeLike
theorem bw_X0_isSort : ec_cw yX0_isSort cX0_isSort 1 (some .boolean) := ⟨ec_in (i := 471) (by decide +kernel) rfl, ec_in (i := 61) (by decide +kernel) rfl, by decide, by decide⟩
theorem bv_X0_isSort : Cond.static yX0_isSort ∈ ec_tb := ec_in (i := 470) (by decide +kernel) rfl
def bx_X0_isSort : ex_K := (RX0, ec_fx fl_X0, ec_cx cl_X0, sl_X0, (fun ix => (ec_no ix).map (fun (q : Nat × Option Nat × List ab_C) => (q.1, q.2.1, ab_sp ab_hd q.2.2))), ec_nz, ec_no)
theorem bj_X0_isSort (l : Launch) : ex_ok l 0 0 bx_X0_isSort := ⟨ec_fok fo_X0, ec_cok co_X0, so_X0, fun _ _ _ _ h => (by cases h), fun _ h => (by cases h), fun _ h => (by cases h), fun _ h => (by cases h), fun _ _ h => (by cases h)⟩
def bq_X0_isSort : List (ab_C × List ab_Q) := [(([.inr ((-2147483648), 2147483647)], [], [], [(some (0, 0, none), [], []), (some (1, 1, none), [((0, 0, 0), 0, 4, none)], [])]), [])]
def bc_X0_isSort : List ab_C := bq_X0_isSort.map (fun c => c.1)
def bi_X0_isSort : List (Nat × Instr × Nat) := [(0, .iload_n 0, 1), (1, .ifCond .lt 12, 3), (4, .iload_n 0, 1), (5, .iconst 5, 1), (6, .if_icmp .ge 7, 3), (9, .iconst 1, 1), (10, .goto 4, 3), (13, .iconst 0, 1), (14, .ireturn, 1)]
theorem bd_X0_isSort : ∀ q ∈ bi_X0_isSort, decode cX0_isSort q.1 = .ok q.2 := by decide +kernel
theorem bz_X0_isSort : bq_X0_isSort.all (ab_ck ab_hd ab_xs ab_tr bx_X0_isSort ec_no bi_X0_isSort (some .boolean) 1 10) = true := by decide +kernel
theorem bm_X0_isSort (l : Launch) : ex_Met l yX0_isSort cX0_isSort 1 (some .boolean) 0 0 (ab_sp ab_hd bc_X0_isSort) := ab_met (by decide) (by decide) rfl (bj_X0_isSort l) bd_X0_isSort ab_hcm ab_xk bz_X0_isSort
theorem bw_X0_hasModule : ec_cw yX0_hasModule cX0_hasModule 2 (some .boolean) := ⟨ec_in (i := 441) (by decide +kernel) rfl, ec_in (i := 61) (by decide +kernel) rfl, by decide, by decide⟩
theorem bv_X0_hasModule : Cond.instanceMethod yX0_hasModule ∈ ec_tb ∧ Cond.selects yX0_hasModule.cls yX0_hasModule yX0_hasModule ∈ ec_tb := ⟨ec_in (i := 439) (by decide +kernel) rfl, ec_in (i := 440) (by decide +kernel) rfl⟩
def bx_X0_hasModule : ex_K := (RX0, ec_fx fl_X0, ec_cx cl_X0, sl_X0, (fun ix => (ec_no ix).map (fun (q : Nat × Option Nat × List ab_C) => (q.1, q.2.1, ab_sp ab_hd q.2.2))), ec_nz, ec_no)
theorem bj_X0_hasModule (l : Launch) : ex_ok l 0 0 bx_X0_hasModule := ⟨ec_fok fo_X0, ec_cok co_X0, so_X0, fun _ _ _ _ h => (by cases h), fun _ h => (by cases h), fun _ h => (by cases h), fun _ h => (by cases h), fun _ _ h => (by cases h)⟩
def bq_X0_hasModule : List (ab_C × List ab_Q) := [(([.inl 7, .inr ((-2147483648), 2147483647)], [], [], [(some (0, 0, none), [], []), (some (1, 1, none), [((0, 1, 0), 0, 5, none)], [])]), []),
  (([.inl 36, .inr ((-2147483648), 2147483647)], [], [], [(some (0, 0, none), [], []), (some (1, 1, none), [((0, 1, 0), 0, 5, none)], [])]), [])]
def bc_X0_hasModule : List ab_C := bq_X0_hasModule.map (fun c => c.1)
def bi_X0_hasModule : List (Nat × Instr × Nat) := [(0, .iload_n 1, 1), (1, .ifCond .lt 15, 3), (4, .iload_n 1, 1), (5, .aload_n 0, 1), (6, .getfield 39, 3), (9, .if_icmp .ge 7, 3), (12, .iconst 1, 1), (13, .goto 4, 3), (16, .iconst 0, 1), (17, .ireturn, 1)]
theorem bd_X0_hasModule : ∀ q ∈ bi_X0_hasModule, decode cX0_hasModule q.1 = .ok q.2 := by decide +kernel
theorem bz_X0_hasModule : bq_X0_hasModule.all (ab_ck ab_hd ab_xs ab_tr bx_X0_hasModule ec_no bi_X0_hasModule (some .boolean) 2 11) = true := by decide +kernel
theorem bm_X0_hasModule (l : Launch) : ex_Met l yX0_hasModule cX0_hasModule 2 (some .boolean) 0 0 (ab_sp ab_hd bc_X0_hasModule) := ab_met (by decide) (by decide) rfl (bj_X0_hasModule l) bd_X0_hasModule ab_hcm ab_xk bz_X0_hasModule
theorem bw_X0_hasHatch : ec_cw yX0_hasHatch cX0_hasHatch 2 (some .boolean) := ⟨ec_in (i := 454) (by decide +kernel) rfl, ec_in (i := 61) (by decide +kernel) rfl, by decide, by decide⟩
theorem bv_X0_hasHatch : Cond.instanceMethod yX0_hasHatch ∈ ec_tb ∧ Cond.selects yX0_hasHatch.cls yX0_hasHatch yX0_hasHatch ∈ ec_tb := ⟨ec_in (i := 452) (by decide +kernel) rfl, ec_in (i := 453) (by decide +kernel) rfl⟩
def bx_X0_hasHatch : ex_K := (RX0, ec_fx fl_X0, ec_cx cl_X0, sl_X0, (fun ix => (ec_no ix).map (fun (q : Nat × Option Nat × List ab_C) => (q.1, q.2.1, ab_sp ab_hd q.2.2))), ec_nz, ec_no)
theorem bj_X0_hasHatch (l : Launch) : ex_ok l 0 0 bx_X0_hasHatch := ⟨ec_fok fo_X0, ec_cok co_X0, so_X0, fun _ _ _ _ h => (by cases h), fun _ h => (by cases h), fun _ h => (by cases h), fun _ h => (by cases h), fun _ _ h => (by cases h)⟩
def bq_X0_hasHatch : List (ab_C × List ab_Q) := [(([.inl 7, .inr ((-2147483648), 2147483647)], [], [], [(some (0, 0, none), [], []), (some (1, 1, none), [((0, 1, 0), 0, 7, none)], [])]), []),
  (([.inl 36, .inr ((-2147483648), 2147483647)], [], [], [(some (0, 0, none), [], []), (some (1, 1, none), [((0, 1, 0), 0, 7, none)], [])]), [])]
def bc_X0_hasHatch : List ab_C := bq_X0_hasHatch.map (fun c => c.1)
def bi_X0_hasHatch : List (Nat × Instr × Nat) := [(0, .iload_n 1, 1), (1, .ifCond .lt 15, 3), (4, .iload_n 1, 1), (5, .aload_n 0, 1), (6, .getfield 43, 3), (9, .if_icmp .ge 7, 3), (12, .iconst 1, 1), (13, .goto 4, 3), (16, .iconst 0, 1), (17, .ireturn, 1)]
theorem bd_X0_hasHatch : ∀ q ∈ bi_X0_hasHatch, decode cX0_hasHatch q.1 = .ok q.2 := by decide +kernel
theorem bz_X0_hasHatch : bq_X0_hasHatch.all (ab_ck ab_hd ab_xs ab_tr bx_X0_hasHatch ec_no bi_X0_hasHatch (some .boolean) 2 11) = true := by decide +kernel
theorem bm_X0_hasHatch (l : Launch) : ex_Met l yX0_hasHatch cX0_hasHatch 2 (some .boolean) 0 0 (ab_sp ab_hd bc_X0_hasHatch) := ab_met (by decide) (by decide) rfl (bj_X0_hasHatch l) bd_X0_hasHatch ab_hcm ab_xk bz_X0_hasHatch
theorem bw_X0_addModule : ec_cw yX0_addModule cX0_addModule 1 (some .int) := ⟨ec_in (i := 422) (by decide +kernel) rfl, ec_in (i := 61) (by decide +kernel) rfl, by decide, by decide⟩
theorem bv_X0_addModule : Cond.instanceMethod yX0_addModule ∈ ec_tb ∧ Cond.selects yX0_addModule.cls yX0_addModule yX0_addModule ∈ ec_tb := ⟨ec_in (i := 420) (by decide +kernel) rfl, ec_in (i := 421) (by decide +kernel) rfl⟩
def bx_X0_addModule : ex_K := (RX0, ec_fx fl_X0, ec_cx cl_X0, sl_X0, (fun ix => (ec_no ix).map (fun (q : Nat × Option Nat × List ab_C) => (q.1, q.2.1, ab_sp ab_hd q.2.2))), ec_nz, ec_no)
theorem bj_X0_addModule (l : Launch) : ex_ok l 0 0 bx_X0_addModule := ⟨ec_fok fo_X0, ec_cok co_X0, so_X0, fun _ _ _ _ h => (by cases h), fun _ h => (by cases h), fun _ h => (by cases h), fun _ h => (by cases h), fun _ _ h => (by cases h)⟩
def bq_X0_addModule : List (ab_C × List ab_Q) := [(([.inl 7], [], [(7, some 6)], [(some ((-2147483648), 2147483647, none), [], [])]), [])]
def bc_X0_addModule : List ab_C := bq_X0_addModule.map (fun c => c.1)
def bi_X0_addModule : List (Nat × Instr × Nat) := [(0, .aload_n 0, 1), (1, .getfield 39, 3), (4, .bipush 6, 2), (6, .if_icmp .lt 6, 3), (9, .ldc 46, 2), (11, .ireturn, 1), (12, .aload_n 0, 1), (13, .dup, 1), (14, .getfield 39, 3), (17, .iconst 1, 1), (18, .iadd, 1), (19, .putfield 39, 3), (22, .aload_n 0, 1), (23, .getfield 39, 3), (26, .iconst 1, 1), (27, .isub, 1), (28, .ireturn, 1)]
theorem bd_X0_addModule : ∀ q ∈ bi_X0_addModule, decode cX0_addModule q.1 = .ok q.2 := by decide +kernel
theorem bz_X0_addModule : bq_X0_addModule.all (ab_ck ab_hd ab_xs ab_tr bx_X0_addModule ec_no bi_X0_addModule (some .int) 1 17) = true := by decide +kernel
theorem bm_X0_addModule (l : Launch) : ex_Met l yX0_addModule cX0_addModule 1 (some .int) 0 0 (ab_sp ab_hd bc_X0_addModule) := ab_met (by decide) (by decide) rfl (bj_X0_addModule l) bd_X0_addModule ab_hcm ab_xk bz_X0_addModule
theorem bw_X0_addHatch : ec_cw yX0_addHatch cX0_addHatch 3 (some .int) := ⟨ec_in (i := 437) (by decide +kernel) rfl, ec_in (i := 61) (by decide +kernel) rfl, by decide, by decide⟩
theorem bv_X0_addHatch : Cond.instanceMethod yX0_addHatch ∈ ec_tb ∧ Cond.selects yX0_addHatch.cls yX0_addHatch yX0_addHatch ∈ ec_tb := ⟨ec_in (i := 435) (by decide +kernel) rfl, ec_in (i := 436) (by decide +kernel) rfl⟩
def be_X0_addHatch : Nat → Option (Nat × Option Nat × List ab_C) := fun ix => match ix with
  | 47 => some (2, some 0, bc_X0_hasModule)
  | _ => none
theorem bk_X0_addHatch (l : Launch) : ∀ (ix n : Nat) (rc : Option Nat) (sp : ex_S), (be_X0_addHatch ix).map (fun q => (q.1, q.2.1, ab_sp ab_hd q.2.2)) = some (n, rc, sp) → ex_cok l RX0 1 21 ix n rc sp := by
  intro ix n rc sp h
  obtain ⟨l0, h2, rfl⟩ := ab_dmk h
  clear h
  unfold be_X0_addHatch at h2
  split at h2
  · cases h2; exact ec_cV (bm_X0_hasModule l) bw_X0_hasModule bv_X0_hasModule (by decide) (by decide) (Or.inl (ec_in (i := 438) (by decide +kernel) rfl)) (T := TX0) (N := 8) rfl (by decide) (by decide +kernel)
  · cases h2
def bx_X0_addHatch : ex_K := (RX0, ec_fx fl_X0, ec_cx cl_X0, sl_X0, (fun ix => (be_X0_addHatch ix).map (fun q => (q.1, q.2.1, ab_sp ab_hd q.2.2))), ec_nz, ec_no)
theorem bj_X0_addHatch (l : Launch) : ex_ok l 1 21 bx_X0_addHatch := ⟨ec_fok fo_X0, ec_cok co_X0, so_X0, bk_X0_addHatch l, fun _ h => (by cases h), fun _ h => (by cases h), fun _ h => (by cases h), fun _ _ h => (by cases h)⟩
def bq_X0_addHatch : List (ab_C × List ab_Q) := [(([.inl 7, .inr ((-2147483648), 2147483647), .inr ((-2147483648), 2147483647)], [], [(7, some 7), (10, none), (11, none), (12, none)], [(some ((-2147483648), 2147483647, none), [], [])]), [])]
def bc_X0_addHatch : List ab_C := bq_X0_addHatch.map (fun c => c.1)
def bi_X0_addHatch : List (Nat × Instr × Nat) := [(0, .aload_n 0, 1), (1, .iload_n 1, 1), (2, .invokevirtual 47, 3), (5, .ifCond .eq 16, 3), (8, .aload_n 0, 1), (9, .iload_n 2, 1), (10, .invokevirtual 47, 3), (13, .ifCond .eq 8, 3), (16, .iload_n 1, 1), (17, .iload_n 2, 1), (18, .if_icmp .ne 6, 3), (21, .ldc 51, 2), (23, .ireturn, 1), (24, .aload_n 0, 1), (25, .getfield 43, 3), (28, .bipush 8, 2), (30, .if_icmp .lt 6, 3), (33, .ldc 46, 2), (35, .ireturn, 1), (36, .aload_n 0, 1), (37, .getfield 18, 3), (40, .aload_n 0, 1), (41, .getfield 43, 3), (44, .iload_n 1, 1), (45, .iastore, 1), (46, .aload_n 0, 1), (47, .getfield 21, 3), (50, .aload_n 0, 1), (51, .getfield 43, 3), (54, .iload_n 2, 1), (55, .iastore, 1), (56, .aload_n 0, 1), (57, .getfield 24, 3), (60, .aload_n 0, 1), (61, .getfield 43, 3), (64, .iconst 1, 1), (65, .bastore, 1), (66, .aload_n 0, 1), (67, .dup, 1), (68, .getfield 43, 3), (71, .iconst 1, 1), (72, .iadd, 1), (73, .putfield 43, 3), (76, .aload_n 0, 1), (77, .getfield 43, 3), (80, .iconst 1, 1), (81, .isub, 1), (82, .ireturn, 1)]
theorem bd_X0_addHatch : ∀ q ∈ bi_X0_addHatch, decode cX0_addHatch q.1 = .ok q.2 := by decide +kernel
theorem bz_X0_addHatch : bq_X0_addHatch.all (ab_ck ab_hd ab_xs ab_tr bx_X0_addHatch be_X0_addHatch bi_X0_addHatch (some .int) 3 46) = true := by decide +kernel
theorem bm_X0_addHatch (l : Launch) : ex_Met l yX0_addHatch cX0_addHatch 3 (some .int) 1 21 (ab_sp ab_hd bc_X0_addHatch) := ab_met (by decide) (by decide) rfl (bj_X0_addHatch l) bd_X0_addHatch ab_hcm ab_xk bz_X0_addHatch
theorem bw_X9_isSwitch : ec_cw yX9_isSwitch cX9_isSwitch 1 (some .boolean) := ⟨ec_in (i := 457) (by decide +kernel) rfl, ec_in (i := 58) (by decide +kernel) rfl, by decide, by decide⟩
theorem bv_X9_isSwitch : Cond.static yX9_isSwitch ∈ ec_tb := ec_in (i := 456) (by decide +kernel) rfl
def bx_X9_isSwitch : ex_K := (RX9, ec_fx fl_X9, ec_cx cl_X9, sl_X9, (fun ix => (ec_no ix).map (fun (q : Nat × Option Nat × List ab_C) => (q.1, q.2.1, ab_sp ab_hd q.2.2))), ec_nz, ec_no)
theorem bj_X9_isSwitch (l : Launch) : ex_ok l 0 0 bx_X9_isSwitch := ⟨ec_fok fo_X9, ec_cok co_X9, so_X9, fun _ _ _ _ h => (by cases h), fun _ h => (by cases h), fun _ h => (by cases h), fun _ h => (by cases h), fun _ _ h => (by cases h)⟩
def bq_X9_isSwitch : List (ab_C × List ab_Q) := [(([.inr ((-2147483648), 2147483647)], [], [], [(some (0, 0, none), [], []), (some (1, 1, none), [((0, 0, 0), 0, 1, none)], [])]), [])]
def bc_X9_isSwitch : List ab_C := bq_X9_isSwitch.map (fun c => c.1)
def bi_X9_isSwitch : List (Nat × Instr × Nat) := [(0, .iload_n 0, 1), (1, .ifCond .eq 8, 3), (4, .iload_n 0, 1), (5, .iconst 1, 1), (6, .if_icmp .ne 7, 3), (9, .iconst 1, 1), (10, .goto 4, 3), (13, .iconst 0, 1), (14, .ireturn, 1)]
theorem bd_X9_isSwitch : ∀ q ∈ bi_X9_isSwitch, decode cX9_isSwitch q.1 = .ok q.2 := by decide +kernel
theorem bz_X9_isSwitch : bq_X9_isSwitch.all (ab_ck ab_hd ab_xs ab_tr bx_X9_isSwitch ec_no bi_X9_isSwitch (some .boolean) 1 10) = true := by decide +kernel
theorem bm_X9_isSwitch (l : Launch) : ex_Met l yX9_isSwitch cX9_isSwitch 1 (some .boolean) 0 0 (ab_sp ab_hd bc_X9_isSwitch) := ab_met (by decide) (by decide) rfl (bj_X9_isSwitch l) bd_X9_isSwitch ab_hcm ab_xk bz_X9_isSwitch
theorem bw_X9_one : ec_cw yX9_one cX9_one 1 (some .int) := ⟨ec_in (i := 460) (by decide +kernel) rfl, ec_in (i := 58) (by decide +kernel) rfl, by decide, by decide⟩
theorem bv_X9_one : Cond.static yX9_one ∈ ec_tb := ec_in (i := 459) (by decide +kernel) rfl
def bx_X9_one : ex_K := (RX9, ec_fx fl_X9, ec_cx cl_X9, sl_X9, (fun ix => (ec_no ix).map (fun (q : Nat × Option Nat × List ab_C) => (q.1, q.2.1, ab_sp ab_hd q.2.2))), ec_nz, ec_no)
theorem bj_X9_one (l : Launch) : ex_ok l 0 0 bx_X9_one := ⟨ec_fok fo_X9, ec_cok co_X9, so_X9, fun _ _ _ _ h => (by cases h), fun _ h => (by cases h), fun _ h => (by cases h), fun _ h => (by cases h), fun _ _ h => (by cases h)⟩
def bq_X9_one : List (ab_C × List ab_Q) := [(([.inr (0, 1)], [], [], [(some ((-2147483648), 2147483647, none), [], [])]), [])]
def bc_X9_one : List ab_C := bq_X9_one.map (fun c => c.1)
def bi_X9_one : List (Nat × Instr × Nat) := [(0, .iload_n 0, 1), (1, .ifCond .eq 7, 3), (4, .iconst 1, 1), (5, .goto 4, 3), (8, .iconst 0, 1), (9, .ireturn, 1)]
theorem bd_X9_one : ∀ q ∈ bi_X9_one, decode cX9_one q.1 = .ok q.2 := by decide +kernel
theorem bz_X9_one : bq_X9_one.all (ab_ck ab_hd ab_xs ab_tr bx_X9_one ec_no bi_X9_one (some .int) 1 7) = true := by decide +kernel
theorem bm_X9_one (l : Launch) : ex_Met l yX9_one cX9_one 1 (some .int) 0 0 (ab_sp ab_hd bc_X9_one) := ab_met (by decide) (by decide) rfl (bj_X9_one l) bd_X9_one ab_hcm ab_xk bz_X9_one
theorem bw_X0_setOpen : ec_cw yX0_setOpen cX0_setOpen 4 (some .int) := ⟨ec_in (i := 450) (by decide +kernel) rfl, ec_in (i := 61) (by decide +kernel) rfl, by decide, by decide⟩
theorem bv_X0_setOpen : Cond.instanceMethod yX0_setOpen ∈ ec_tb ∧ Cond.selects yX0_setOpen.cls yX0_setOpen yX0_setOpen ∈ ec_tb := ⟨ec_in (i := 448) (by decide +kernel) rfl, ec_in (i := 449) (by decide +kernel) rfl⟩
def be_X0_setOpen : Nat → Option (Nat × Option Nat × List ab_C) := fun ix => match ix with
  | 52 => some (2, some 0, bc_X0_hasHatch)
  | 55 => some (1, none, bc_X9_isSwitch)
  | 58 => some (1, none, bc_X9_one)
  | _ => none
theorem bk_X0_setOpen (l : Launch) : ∀ (ix n : Nat) (rc : Option Nat) (sp : ex_S), (be_X0_setOpen ix).map (fun q => (q.1, q.2.1, ab_sp ab_hd q.2.2)) = some (n, rc, sp) → ex_cok l RX0 1 21 ix n rc sp := by
  intro ix n rc sp h
  obtain ⟨l0, h2, rfl⟩ := ab_dmk h
  clear h
  unfold be_X0_setOpen at h2
  split at h2
  · cases h2; exact ec_cV (bm_X0_hasHatch l) bw_X0_hasHatch bv_X0_hasHatch (by decide) (by decide) (Or.inl (ec_in (i := 451) (by decide +kernel) rfl)) (T := TX0) (N := 8) rfl (by decide) (by decide +kernel)
  · cases h2; exact ec_cS (bm_X9_isSwitch l) bw_X9_isSwitch bv_X9_isSwitch (by decide) (by decide) (Or.inr ⟨"TinStation", by decide +kernel⟩) (by decide +kernel)
  · cases h2; exact ec_cS (bm_X9_one l) bw_X9_one bv_X9_one (by decide) (by decide) (Or.inr ⟨"TinStation", by decide +kernel⟩) (by decide +kernel)
  · cases h2
def bx_X0_setOpen : ex_K := (RX0, ec_fx fl_X0, ec_cx cl_X0, sl_X0, (fun ix => (be_X0_setOpen ix).map (fun q => (q.1, q.2.1, ab_sp ab_hd q.2.2))), ec_nz, ec_no)
theorem bj_X0_setOpen (l : Launch) : ex_ok l 1 21 bx_X0_setOpen := ⟨ec_fok fo_X0, ec_cok co_X0, so_X0, bk_X0_setOpen l, fun _ h => (by cases h), fun _ h => (by cases h), fun _ h => (by cases h), fun _ _ h => (by cases h)⟩
def bq_X0_setOpen : List (ab_C × List ab_Q) := [(([.inl 7, .inr ((-2147483648), 2147483647), .inr ((-2147483648), 2147483647)], [], [(12, none)], [(some ((-2147483648), 2147483647, none), [], [])]), []),
  (([.inl 36, .inr ((-2147483648), 2147483647), .inr (0, 1)], [], [(41, none)], [(some ((-2147483648), 2147483647, none), [], [])]), [])]
def bc_X0_setOpen : List ab_C := bq_X0_setOpen.map (fun c => c.1)
def bi_X0_setOpen : List (Nat × Instr × Nat) := [(0, .aload_n 0, 1), (1, .iload_n 1, 1), (2, .invokevirtual 52, 3), (5, .ifCond .eq 10, 3), (8, .iload_n 2, 1), (9, .invokestatic 55, 3), (12, .ifCond .ne 6, 3), (15, .ldc 51, 2), (17, .ireturn, 1), (18, .aload_n 0, 1), (19, .getfield 24, 3), (22, .iload_n 1, 1), (23, .baload, 1), (24, .invokestatic 58, 3), (27, .istore_n 3, 1), (28, .aload_n 0, 1), (29, .getfield 24, 3), (32, .iload_n 1, 1), (33, .iload_n 2, 1), (34, .iconst 1, 1), (35, .if_icmp .ne 7, 3), (38, .iconst 1, 1), (39, .goto 4, 3), (42, .iconst 0, 1), (43, .bastore, 1), (44, .iload_n 3, 1), (45, .ireturn, 1)]
theorem bd_X0_setOpen : ∀ q ∈ bi_X0_setOpen, decode cX0_setOpen q.1 = .ok q.2 := by decide +kernel
theorem bz_X0_setOpen : bq_X0_setOpen.all (ab_ck ab_hd ab_xs ab_tr bx_X0_setOpen be_X0_setOpen bi_X0_setOpen (some .int) 4 26) = true := by decide +kernel
theorem bm_X0_setOpen (l : Launch) : ex_Met l yX0_setOpen cX0_setOpen 4 (some .int) 1 21 (ab_sp ab_hd bc_X0_setOpen) := ab_met (by decide) (by decide) rfl (bj_X0_setOpen l) bd_X0_setOpen ab_hcm ab_xk bz_X0_setOpen
theorem bw_X0_setHeld : ec_cw yX0_setHeld cX0_setHeld 5 (some .int) := ⟨ec_in (i := 468) (by decide +kernel) rfl, ec_in (i := 61) (by decide +kernel) rfl, by decide, by decide⟩
theorem bv_X0_setHeld : Cond.instanceMethod yX0_setHeld ∈ ec_tb ∧ Cond.selects yX0_setHeld.cls yX0_setHeld yX0_setHeld ∈ ec_tb := ⟨ec_in (i := 466) (by decide +kernel) rfl, ec_in (i := 467) (by decide +kernel) rfl⟩
def be_X0_setHeld : Nat → Option (Nat × Option Nat × List ab_C) := fun ix => match ix with
  | 47 => some (2, some 0, bc_X0_hasModule)
  | 62 => some (1, none, bc_X0_isSort)
  | _ => none
theorem bk_X0_setHeld (l : Launch) : ∀ (ix n : Nat) (rc : Option Nat) (sp : ex_S), (be_X0_setHeld ix).map (fun q => (q.1, q.2.1, ab_sp ab_hd q.2.2)) = some (n, rc, sp) → ex_cok l RX0 1 21 ix n rc sp := by
  intro ix n rc sp h
  obtain ⟨l0, h2, rfl⟩ := ab_dmk h
  clear h
  unfold be_X0_setHeld at h2
  split at h2
  · cases h2; exact ec_cV (bm_X0_hasModule l) bw_X0_hasModule bv_X0_hasModule (by decide) (by decide) (Or.inl (ec_in (i := 438) (by decide +kernel) rfl)) (T := TX0) (N := 8) rfl (by decide) (by decide +kernel)
  · cases h2; exact ec_cS (bm_X0_isSort l) bw_X0_isSort bv_X0_isSort (by decide) (by decide) (Or.inl (ec_in (i := 469) (by decide +kernel) rfl)) (by decide +kernel)
  · cases h2
def bx_X0_setHeld : ex_K := (RX0, ec_fx fl_X0, ec_cx cl_X0, sl_X0, (fun ix => (be_X0_setHeld ix).map (fun q => (q.1, q.2.1, ab_sp ab_hd q.2.2))), ec_nz, ec_no)
theorem bj_X0_setHeld (l : Launch) : ex_ok l 1 21 bx_X0_setHeld := ⟨ec_fok fo_X0, ec_cok co_X0, so_X0, bk_X0_setHeld l, fun _ h => (by cases h), fun _ h => (by cases h), fun _ h => (by cases h), fun _ _ h => (by cases h)⟩
def bq_X0_setHeld : List (ab_C × List ab_Q) := [(([.inl 7, .inr ((-2147483648), 2147483647), .inr ((-2147483648), 2147483647), .inr ((-2147483648), 2147483647)], [], [(8, none)], [(some ((-2147483648), 2147483647, none), [], [])]), [])]
def bc_X0_setHeld : List ab_C := bq_X0_setHeld.map (fun c => c.1)
def bi_X0_setHeld : List (Nat × Instr × Nat) := [(0, .aload_n 0, 1), (1, .iload_n 1, 1), (2, .invokevirtual 47, 3), (5, .ifCond .eq 21, 3), (8, .iload_n 2, 1), (9, .invokestatic 62, 3), (12, .ifCond .eq 14, 3), (15, .iload_n 3, 1), (16, .iconst (-1), 1), (17, .if_icmp .lt 9, 3), (20, .iload_n 3, 1), (21, .ldc 65, 2), (23, .if_icmp .le 6, 3), (26, .ldc 51, 2), (28, .ireturn, 1), (29, .aload_n 0, 1), (30, .getfield 9, 3), (33, .iload_n 1, 1), (34, .iconst 5, 1), (35, .imul, 1), (36, .iload_n 2, 1), (37, .iadd, 1), (38, .iaload, 1), (39, .istore 4, 2), (41, .iload_n 3, 1), (42, .iconst (-1), 1), (43, .if_icmp .eq 14, 3), (46, .aload_n 0, 1), (47, .getfield 9, 3), (50, .iload_n 1, 1), (51, .iconst 5, 1), (52, .imul, 1), (53, .iload_n 2, 1), (54, .iadd, 1), (55, .iload_n 3, 1), (56, .iastore, 1), (57, .iload 4, 2), (59, .ireturn, 1)]
theorem bd_X0_setHeld : ∀ q ∈ bi_X0_setHeld, decode cX0_setHeld q.1 = .ok q.2 := by decide +kernel
theorem bz_X0_setHeld : bq_X0_setHeld.all (ab_ck ab_hd ab_xs ab_tr bx_X0_setHeld be_X0_setHeld bi_X0_setHeld (some .int) 5 38) = true := by decide +kernel
theorem bm_X0_setHeld (l : Launch) : ex_Met l yX0_setHeld cX0_setHeld 5 (some .int) 1 21 (ab_sp ab_hd bc_X0_setHeld) := ab_met (by decide) (by decide) rfl (bj_X0_setHeld l) bd_X0_setHeld ab_hcm ab_xk bz_X0_setHeld
theorem bw_X0_setLeak : ec_cw yX0_setLeak cX0_setLeak 4 (some .int) := ⟨ec_in (i := 480) (by decide +kernel) rfl, ec_in (i := 61) (by decide +kernel) rfl, by decide, by decide⟩
theorem bv_X0_setLeak : Cond.instanceMethod yX0_setLeak ∈ ec_tb ∧ Cond.selects yX0_setLeak.cls yX0_setLeak yX0_setLeak ∈ ec_tb := ⟨ec_in (i := 478) (by decide +kernel) rfl, ec_in (i := 479) (by decide +kernel) rfl⟩
def be_X0_setLeak : Nat → Option (Nat × Option Nat × List ab_C) := fun ix => match ix with
  | 47 => some (2, some 0, bc_X0_hasModule)
  | _ => none
theorem bk_X0_setLeak (l : Launch) : ∀ (ix n : Nat) (rc : Option Nat) (sp : ex_S), (be_X0_setLeak ix).map (fun q => (q.1, q.2.1, ab_sp ab_hd q.2.2)) = some (n, rc, sp) → ex_cok l RX0 1 21 ix n rc sp := by
  intro ix n rc sp h
  obtain ⟨l0, h2, rfl⟩ := ab_dmk h
  clear h
  unfold be_X0_setLeak at h2
  split at h2
  · cases h2; exact ec_cV (bm_X0_hasModule l) bw_X0_hasModule bv_X0_hasModule (by decide) (by decide) (Or.inl (ec_in (i := 438) (by decide +kernel) rfl)) (T := TX0) (N := 8) rfl (by decide) (by decide +kernel)
  · cases h2
def bx_X0_setLeak : ex_K := (RX0, ec_fx fl_X0, ec_cx cl_X0, sl_X0, (fun ix => (be_X0_setLeak ix).map (fun q => (q.1, q.2.1, ab_sp ab_hd q.2.2))), ec_nz, ec_no)
theorem bj_X0_setLeak (l : Launch) : ex_ok l 1 21 bx_X0_setLeak := ⟨ec_fok fo_X0, ec_cok co_X0, so_X0, bk_X0_setLeak l, fun _ h => (by cases h), fun _ h => (by cases h), fun _ h => (by cases h), fun _ _ h => (by cases h)⟩
def bq_X0_setLeak : List (ab_C × List ab_Q) := [(([.inl 7, .inr ((-2147483648), 2147483647), .inr ((-2147483648), 2147483647)], [], [(9, none)], [(some ((-2147483648), 2147483647, none), [], [])]), [])]
def bc_X0_setLeak : List ab_C := bq_X0_setLeak.map (fun c => c.1)
def bi_X0_setLeak : List (Nat × Instr × Nat) := [(0, .aload_n 0, 1), (1, .iload_n 1, 1), (2, .invokevirtual 47, 3), (5, .ifCond .eq 13, 3), (8, .iload_n 2, 1), (9, .ifCond .lt 9, 3), (12, .iload_n 2, 1), (13, .bipush 50, 2), (15, .if_icmp .le 6, 3), (18, .ldc 51, 2), (20, .ireturn, 1), (21, .aload_n 0, 1), (22, .getfield 15, 3), (25, .iload_n 1, 1), (26, .iaload, 1), (27, .istore_n 3, 1), (28, .aload_n 0, 1), (29, .getfield 15, 3), (32, .iload_n 1, 1), (33, .iload_n 2, 1), (34, .iastore, 1), (35, .iload_n 3, 1), (36, .ireturn, 1)]
theorem bd_X0_setLeak : ∀ q ∈ bi_X0_setLeak, decode cX0_setLeak q.1 = .ok q.2 := by decide +kernel
theorem bz_X0_setLeak : bq_X0_setLeak.all (ab_ck ab_hd ab_xs ab_tr bx_X0_setLeak be_X0_setLeak bi_X0_setLeak (some .int) 4 23) = true := by decide +kernel
theorem bm_X0_setLeak (l : Launch) : ex_Met l yX0_setLeak cX0_setLeak 4 (some .int) 1 21 (ab_sp ab_hd bc_X0_setLeak) := ab_met (by decide) (by decide) rfl (bj_X0_setLeak l) bd_X0_setLeak ab_hcm ab_xk bz_X0_setLeak
theorem bw_X0_setStored : ec_cw yX0_setStored cX0_setStored 4 (some .int) := ⟨ec_in (i := 488) (by decide +kernel) rfl, ec_in (i := 61) (by decide +kernel) rfl, by decide, by decide⟩
theorem bv_X0_setStored : Cond.instanceMethod yX0_setStored ∈ ec_tb ∧ Cond.selects yX0_setStored.cls yX0_setStored yX0_setStored ∈ ec_tb := ⟨ec_in (i := 486) (by decide +kernel) rfl, ec_in (i := 487) (by decide +kernel) rfl⟩
def bx_X0_setStored : ex_K := (RX0, ec_fx fl_X0, ec_cx cl_X0, sl_X0, (fun ix => (ec_no ix).map (fun (q : Nat × Option Nat × List ab_C) => (q.1, q.2.1, ab_sp ab_hd q.2.2))), ec_nz, ec_no)
theorem bj_X0_setStored (l : Launch) : ex_ok l 0 0 bx_X0_setStored := ⟨ec_fok fo_X0, ec_cok co_X0, so_X0, fun _ _ _ _ h => (by cases h), fun _ h => (by cases h), fun _ h => (by cases h), fun _ h => (by cases h), fun _ _ h => (by cases h)⟩
def bq_X0_setStored : List (ab_C × List ab_Q) := [(([.inl 7, .inr ((-2147483648), 2147483647), .inr ((-2147483648), 2147483647)], [], [(13, none)], [(some ((-2147483648), 2147483647, none), [], [])]), [])]
def bc_X0_setStored : List ab_C := bq_X0_setStored.map (fun c => c.1)
def bi_X0_setStored : List (Nat × Instr × Nat) := [(0, .iload_n 1, 1), (1, .ifCond .lt 20, 3), (4, .iload_n 1, 1), (5, .bipush 6, 2), (7, .if_icmp .ge 14, 3), (10, .iload_n 2, 1), (11, .iconst (-1), 1), (12, .if_icmp .lt 9, 3), (15, .iload_n 2, 1), (16, .ldc 66, 2), (18, .if_icmp .le 6, 3), (21, .ldc 51, 2), (23, .ireturn, 1), (24, .aload_n 0, 1), (25, .getfield 28, 3), (28, .iload_n 1, 1), (29, .iaload, 1), (30, .istore_n 3, 1), (31, .iload_n 2, 1), (32, .iconst (-1), 1), (33, .if_icmp .eq 10, 3), (36, .aload_n 0, 1), (37, .getfield 28, 3), (40, .iload_n 1, 1), (41, .iload_n 2, 1), (42, .iastore, 1), (43, .iload_n 3, 1), (44, .ireturn, 1)]
theorem bd_X0_setStored : ∀ q ∈ bi_X0_setStored, decode cX0_setStored q.1 = .ok q.2 := by decide +kernel
theorem bz_X0_setStored : bq_X0_setStored.all (ab_ck ab_hd ab_xs ab_tr bx_X0_setStored ec_no bi_X0_setStored (some .int) 4 28) = true := by decide +kernel
theorem bm_X0_setStored (l : Launch) : ex_Met l yX0_setStored cX0_setStored 4 (some .int) 0 0 (ab_sp ab_hd bc_X0_setStored) := ab_met (by decide) (by decide) rfl (bj_X0_setStored l) bd_X0_setStored ab_hcm ab_xk bz_X0_setStored
theorem bw_X0_allGrams : ec_cw yX0_allGrams cX0_allGrams 4 (some .int) := ⟨ec_in (i := 497) (by decide +kernel) rfl, ec_in (i := 61) (by decide +kernel) rfl, by decide, by decide⟩
theorem bv_X0_allGrams : Cond.instanceMethod yX0_allGrams ∈ ec_tb ∧ Cond.selects yX0_allGrams.cls yX0_allGrams yX0_allGrams ∈ ec_tb := ⟨ec_in (i := 495) (by decide +kernel) rfl, ec_in (i := 496) (by decide +kernel) rfl⟩
def bx_X0_allGrams : ex_K := (RX0, ec_fx fl_X0, ec_cx cl_X0, sl_X0, (fun ix => (ec_no ix).map (fun (q : Nat × Option Nat × List ab_C) => (q.1, q.2.1, ab_sp ab_hd q.2.2))), ec_nz, ec_no)
theorem bj_X0_allGrams (l : Launch) : ex_ok l 0 0 bx_X0_allGrams := ⟨ec_fok fo_X0, ec_cok co_X0, so_X0, fun _ _ _ _ h => (by cases h), fun _ h => (by cases h), fun _ h => (by cases h), fun _ h => (by cases h), fun _ _ h => (by cases h)⟩
def bq_X0_allGrams : List (ab_C × List ab_Q) := [(([.inl 7], [], [], [(some ((-2147483648), 2147483647, none), [], [])]), [(9, [some (.inl 7), some (.inr (.inl ((-2147483648), 2147483647, none, none))), some (.inr (.inl (0, 4, none, none))), none], [((1, 0, 7), 0, 24, some (1007, 0)), ((1, 76, 52), 0, 24, some (77052, 0))], 93, [0, 0, (-2), 0]), (31, [some (.inl 7), some (.inr (.inl ((-2147483648), 2147483647, none, none))), some (.inr (.inl (0, 6, none, none))), none], [((1, 0, 7), 0, 24, some (1007, 0)), ((1, 76, 52), 0, 24, some (77052, 0))], 83, [0, 0, (-12), 0]), (41, [some (.inl 7), some (.inr (.inl ((-2147483648), 2147483647, none, none))), some (.inr (.inl (0, 5, none, none))), some (.inr (.inl (0, 4, none, none)))], [((1, 0, 7), 0, 24, some (1007, 0)), ((1, 76, 52), 0, 24, some (77052, 0))], 81, [0, 0, (-12), (-2)])])]
def bc_X0_allGrams : List ab_C := bq_X0_allGrams.map (fun c => c.1)
def bi_X0_allGrams : List (Nat × Instr × Nat) := [(0, .aload_n 0, 1), (1, .getfield 28, 3), (4, .iconst 4, 1), (5, .iaload, 1), (6, .istore_n 1, 1), (7, .iconst 0, 1), (8, .istore_n 2, 1), (9, .iload_n 2, 1), (10, .iconst 4, 1), (11, .if_icmp .ge 18, 3), (14, .iload_n 1, 1), (15, .aload_n 0, 1), (16, .getfield 28, 3), (19, .iload_n 2, 1), (20, .iaload, 1), (21, .iadd, 1), (22, .istore_n 1, 1), (23, .iinc 2 1, 3), (26, .goto (-17), 3), (29, .iconst 0, 1), (30, .istore_n 2, 1), (31, .iload_n 2, 1), (32, .aload_n 0, 1), (33, .getfield 39, 3), (36, .if_icmp .ge 35, 3), (39, .iconst 0, 1), (40, .istore_n 3, 1), (41, .iload_n 3, 1), (42, .iconst 4, 1), (43, .if_icmp .ge 22, 3), (46, .iload_n 1, 1), (47, .aload_n 0, 1), (48, .getfield 9, 3), (51, .iload_n 2, 1), (52, .iconst 5, 1), (53, .imul, 1), (54, .iload_n 3, 1), (55, .iadd, 1), (56, .iaload, 1), (57, .iadd, 1), (58, .istore_n 1, 1), (59, .iinc 3 1, 3), (62, .goto (-21), 3), (65, .iinc 2 1, 3), (68, .goto (-37), 3), (71, .iload_n 1, 1), (72, .ireturn, 1)]
theorem bd_X0_allGrams : ∀ q ∈ bi_X0_allGrams, decode cX0_allGrams q.1 = .ok q.2 := by decide +kernel
theorem bz_X0_allGrams : bq_X0_allGrams.all (ab_ck ab_hd ab_xs ab_tr bx_X0_allGrams ec_no bi_X0_allGrams (some .int) 4 18) = true := by decide +kernel
theorem bm_X0_allGrams (l : Launch) : ex_Met l yX0_allGrams cX0_allGrams 4 (some .int) 0 0 (ab_sp ab_hd bc_X0_allGrams) := ab_met (by decide) (by decide) rfl (bj_X0_allGrams l) bd_X0_allGrams ab_hcm ab_xk bz_X0_allGrams
theorem bw_X0_amount : ec_cw yX0_amount cX0_amount 3 (some .int) := ⟨ec_in (i := 734) (by decide +kernel) rfl, ec_in (i := 61) (by decide +kernel) rfl, by decide, by decide⟩
theorem bv_X0_amount : Cond.instanceMethod yX0_amount ∈ ec_tb ∧ Cond.selects yX0_amount.cls yX0_amount yX0_amount ∈ ec_tb := ⟨ec_in (i := 732) (by decide +kernel) rfl, ec_in (i := 733) (by decide +kernel) rfl⟩
def bx_X0_amount : ex_K := (RX0, ec_fx fl_X0, ec_cx cl_X0, sl_X0, (fun ix => (ec_no ix).map (fun (q : Nat × Option Nat × List ab_C) => (q.1, q.2.1, ab_sp ab_hd q.2.2))), ec_nz, ec_no)
theorem bj_X0_amount (l : Launch) : ex_ok l 0 0 bx_X0_amount := ⟨ec_fok fo_X0, ec_cok co_X0, so_X0, fun _ _ _ _ h => (by cases h), fun _ h => (by cases h), fun _ h => (by cases h), fun _ h => (by cases h), fun _ _ h => (by cases h)⟩
def bq_X0_amount : List (ab_C × List ab_Q) := [(([.inl 7, .inr (0, 5), .inr (0, 4)], [], [], [(some ((-2147483648), 2147483647, none), [], [])]), []),
  (([.inl 36, .inr (0, 5), .inr (0, 4)], [], [], [(some ((-2147483648), 2147483647, none), [], [])]), [])]
def bc_X0_amount : List ab_C := bq_X0_amount.map (fun c => c.1)
def bi_X0_amount : List (Nat × Instr × Nat) := [(0, .aload_n 0, 1), (1, .getfield 9, 3), (4, .iload_n 1, 1), (5, .iconst 5, 1), (6, .imul, 1), (7, .iload_n 2, 1), (8, .iadd, 1), (9, .iaload, 1), (10, .ireturn, 1)]
theorem bd_X0_amount : ∀ q ∈ bi_X0_amount, decode cX0_amount q.1 = .ok q.2 := by decide +kernel
theorem bz_X0_amount : bq_X0_amount.all (ab_ck ab_hd ab_xs ab_tr bx_X0_amount ec_no bi_X0_amount (some .int) 3 11) = true := by decide +kernel
theorem bm_X0_amount (l : Launch) : ex_Met l yX0_amount cX0_amount 3 (some .int) 0 0 (ab_sp ab_hd bc_X0_amount) := ab_met (by decide) (by decide) rfl (bj_X0_amount l) bd_X0_amount ab_hcm ab_xk bz_X0_amount
theorem bw_X0_give : ec_cw yX0_give cX0_give 4 none := ⟨ec_in (i := 793) (by decide +kernel) rfl, ec_in (i := 61) (by decide +kernel) rfl, by decide, by decide⟩
theorem bv_X0_give : Cond.instanceMethod yX0_give ∈ ec_tb ∧ Cond.selects yX0_give.cls yX0_give yX0_give ∈ ec_tb := ⟨ec_in (i := 791) (by decide +kernel) rfl, ec_in (i := 792) (by decide +kernel) rfl⟩
def bx_X0_give : ex_K := (RX0, ec_fx fl_X0, ec_cx cl_X0, sl_X0, (fun ix => (ec_no ix).map (fun (q : Nat × Option Nat × List ab_C) => (q.1, q.2.1, ab_sp ab_hd q.2.2))), ec_nz, ec_no)
theorem bj_X0_give (l : Launch) : ex_ok l 0 0 bx_X0_give := ⟨ec_fok fo_X0, ec_cok co_X0, so_X0, fun _ _ _ _ h => (by cases h), fun _ h => (by cases h), fun _ h => (by cases h), fun _ h => (by cases h), fun _ _ h => (by cases h)⟩
def bq_X0_give : List (ab_C × List ab_Q) := [(([.inl 7, .inr (0, 5), .inr (0, 4), .inr ((-2147483648), 2147483647)], [], [(8, none)], [(none, [], [])]), []),
  (([.inl 36, .inr (0, 5), .inr (0, 4), .inr ((-2147483648), 2147483647)], [], [(37, none)], [(none, [], [])]), [])]
def bc_X0_give : List ab_C := bq_X0_give.map (fun c => c.1)
def bi_X0_give : List (Nat × Instr × Nat) := [(0, .aload_n 0, 1), (1, .getfield 9, 3), (4, .iload_n 1, 1), (5, .iconst 5, 1), (6, .imul, 1), (7, .iload_n 2, 1), (8, .iadd, 1), (9, .dup2, 1), (10, .iaload, 1), (11, .iload_n 3, 1), (12, .iadd, 1), (13, .iastore, 1), (14, .return_, 1)]
theorem bd_X0_give : ∀ q ∈ bi_X0_give, decode cX0_give q.1 = .ok q.2 := by decide +kernel
theorem bz_X0_give : bq_X0_give.all (ab_ck ab_hd ab_xs ab_tr bx_X0_give ec_no bi_X0_give none 4 15) = true := by decide +kernel
theorem bm_X0_give (l : Launch) : ex_Met l yX0_give cX0_give 4 none 0 0 (ab_sp ab_hd bc_X0_give) := ab_met (by decide) (by decide) rfl (bj_X0_give l) bd_X0_give ab_hcm ab_xk bz_X0_give
theorem bw_X0_take : ec_cw yX0_take cX0_take 5 (some .int) := ⟨ec_in (i := 776) (by decide +kernel) rfl, ec_in (i := 61) (by decide +kernel) rfl, by decide, by decide⟩
theorem bv_X0_take : Cond.instanceMethod yX0_take ∈ ec_tb ∧ Cond.selects yX0_take.cls yX0_take yX0_take ∈ ec_tb := ⟨ec_in (i := 774) (by decide +kernel) rfl, ec_in (i := 775) (by decide +kernel) rfl⟩
def bx_X0_take : ex_K := (RX0, ec_fx fl_X0, ec_cx cl_X0, sl_X0, (fun ix => (ec_no ix).map (fun (q : Nat × Option Nat × List ab_C) => (q.1, q.2.1, ab_sp ab_hd q.2.2))), al_X0, ec_no)
theorem bj_X0_take (l : Launch) : ex_ok l 1 21 bx_X0_take := ⟨ec_fok fo_X0, ec_cok co_X0, so_X0, fun _ _ _ _ h => (by cases h), am_X0 (by decide) (by decide), ax_X0, ao_X0, fun _ _ h => (by cases h)⟩
def bq_X0_take : List (ab_C × List ab_Q) := [(([.inl 7, .inr (0, 5), .inr (0, 4), .inr ((-2147483648), 2147483647)], [], [(8, none)], [(some ((-2147483648), 2147483647, none), [], [])]), []),
  (([.inl 36, .inr (0, 5), .inr (0, 4), .inr ((-2147483648), 2147483647)], [], [(37, none)], [(some ((-2147483648), 2147483647, none), [], [])]), [])]
def bc_X0_take : List ab_C := bq_X0_take.map (fun c => c.1)
def bi_X0_take : List (Nat × Instr × Nat) := [(0, .iload_n 3, 1), (1, .aload_n 0, 1), (2, .getfield 9, 3), (5, .iload_n 1, 1), (6, .iconst 5, 1), (7, .imul, 1), (8, .iload_n 2, 1), (9, .iadd, 1), (10, .iaload, 1), (11, .invokestatic 67, 3), (14, .istore 4, 2), (16, .aload_n 0, 1), (17, .getfield 9, 3), (20, .iload_n 1, 1), (21, .iconst 5, 1), (22, .imul, 1), (23, .iload_n 2, 1), (24, .iadd, 1), (25, .dup2, 1), (26, .iaload, 1), (27, .iload 4, 2), (29, .isub, 1), (30, .iastore, 1), (31, .iload 4, 2), (33, .ireturn, 1)]
theorem bd_X0_take : ∀ q ∈ bi_X0_take, decode cX0_take q.1 = .ok q.2 := by decide +kernel
theorem bz_X0_take : bq_X0_take.all (ab_ck ab_hd ab_xs ab_tr bx_X0_take ec_no bi_X0_take (some .int) 5 27) = true := by decide +kernel
theorem bm_X0_take (l : Launch) : ex_Met l yX0_take cX0_take 5 (some .int) 1 21 (ab_sp ab_hd bc_X0_take) := ab_met (by decide) (by decide) rfl (bj_X0_take l) bd_X0_take ab_hcm ab_xk bz_X0_take
theorem bw_X0_fill : ec_cw yX0_fill cX0_fill 3 none := ⟨ec_in (i := 781) (by decide +kernel) rfl, ec_in (i := 61) (by decide +kernel) rfl, by decide, by decide⟩
theorem bv_X0_fill : Cond.instanceMethod yX0_fill ∈ ec_tb ∧ Cond.selects yX0_fill.cls yX0_fill yX0_fill ∈ ec_tb := ⟨ec_in (i := 779) (by decide +kernel) rfl, ec_in (i := 780) (by decide +kernel) rfl⟩
def bx_X0_fill : ex_K := (RX0, ec_fx fl_X0, ec_cx cl_X0, sl_X0, (fun ix => (ec_no ix).map (fun (q : Nat × Option Nat × List ab_C) => (q.1, q.2.1, ab_sp ab_hd q.2.2))), ec_nz, ec_no)
theorem bj_X0_fill (l : Launch) : ex_ok l 0 0 bx_X0_fill := ⟨ec_fok fo_X0, ec_cok co_X0, so_X0, fun _ _ _ _ h => (by cases h), fun _ h => (by cases h), fun _ h => (by cases h), fun _ h => (by cases h), fun _ _ h => (by cases h)⟩
def bq_X0_fill : List (ab_C × List ab_Q) := [(([.inl 7, .inr (0, 5), .inr ((-2147483648), 2147483647)], [], [(13, none)], [(none, [], [])]), []),
  (([.inl 36, .inr (0, 5), .inr ((-2147483648), 2147483647)], [], [(42, none)], [(none, [], [])]), [])]
def bc_X0_fill : List ab_C := bq_X0_fill.map (fun c => c.1)
def bi_X0_fill : List (Nat × Instr × Nat) := [(0, .aload_n 0, 1), (1, .getfield 28, 3), (4, .iload_n 1, 1), (5, .dup2, 1), (6, .iaload, 1), (7, .iload_n 2, 1), (8, .iadd, 1), (9, .iastore, 1), (10, .return_, 1)]
theorem bd_X0_fill : ∀ q ∈ bi_X0_fill, decode cX0_fill q.1 = .ok q.2 := by decide +kernel
theorem bz_X0_fill : bq_X0_fill.all (ab_ck ab_hd ab_xs ab_tr bx_X0_fill ec_no bi_X0_fill none 3 11) = true := by decide +kernel
theorem bm_X0_fill (l : Launch) : ex_Met l yX0_fill cX0_fill 3 none 0 0 (ab_sp ab_hd bc_X0_fill) := ab_met (by decide) (by decide) rfl (bj_X0_fill l) bd_X0_fill ab_hcm ab_xk bz_X0_fill
theorem bw_X0_draw : ec_cw yX0_draw cX0_draw 4 (some .int) := ⟨ec_in (i := 789) (by decide +kernel) rfl, ec_in (i := 61) (by decide +kernel) rfl, by decide, by decide⟩
theorem bv_X0_draw : Cond.instanceMethod yX0_draw ∈ ec_tb ∧ Cond.selects yX0_draw.cls yX0_draw yX0_draw ∈ ec_tb := ⟨ec_in (i := 787) (by decide +kernel) rfl, ec_in (i := 788) (by decide +kernel) rfl⟩
def bx_X0_draw : ex_K := (RX0, ec_fx fl_X0, ec_cx cl_X0, sl_X0, (fun ix => (ec_no ix).map (fun (q : Nat × Option Nat × List ab_C) => (q.1, q.2.1, ab_sp ab_hd q.2.2))), al_X0, ec_no)
theorem bj_X0_draw (l : Launch) : ex_ok l 1 21 bx_X0_draw := ⟨ec_fok fo_X0, ec_cok co_X0, so_X0, fun _ _ _ _ h => (by cases h), am_X0 (by decide) (by decide), ax_X0, ao_X0, fun _ _ h => (by cases h)⟩
def bq_X0_draw : List (ab_C × List ab_Q) := [(([.inl 7, .inr (0, 1), .inr ((-2147483648), 2147483647)], [], [(13, none)], [(some ((-2147483648), 2147483647, none), [], [])]), []),
  (([.inl 36, .inr (0, 1), .inr ((-2147483648), 2147483647)], [], [(42, none)], [(some ((-2147483648), 2147483647, none), [], [])]), [])]
def bc_X0_draw : List ab_C := bq_X0_draw.map (fun c => c.1)
def bi_X0_draw : List (Nat × Instr × Nat) := [(0, .iload_n 2, 1), (1, .aload_n 0, 1), (2, .getfield 28, 3), (5, .iload_n 1, 1), (6, .iaload, 1), (7, .invokestatic 67, 3), (10, .istore_n 3, 1), (11, .aload_n 0, 1), (12, .getfield 28, 3), (15, .iload_n 1, 1), (16, .dup2, 1), (17, .iaload, 1), (18, .iload_n 3, 1), (19, .isub, 1), (20, .iastore, 1), (21, .iload_n 3, 1), (22, .ireturn, 1)]
theorem bd_X0_draw : ∀ q ∈ bi_X0_draw, decode cX0_draw q.1 = .ok q.2 := by decide +kernel
theorem bz_X0_draw : bq_X0_draw.all (ab_ck ab_hd ab_xs ab_tr bx_X0_draw ec_no bi_X0_draw (some .int) 4 19) = true := by decide +kernel
theorem bm_X0_draw (l : Launch) : ex_Met l yX0_draw cX0_draw 4 (some .int) 1 21 (ab_sp ab_hd bc_X0_draw) := ab_met (by decide) (by decide) rfl (bj_X0_draw l) bd_X0_draw ab_hcm ab_xk bz_X0_draw
theorem bw_X0_openBetween : ec_cw yX0_openBetween cX0_openBetween 5 (some .boolean) := ⟨ec_in (i := 530) (by decide +kernel) rfl, ec_in (i := 61) (by decide +kernel) rfl, by decide, by decide⟩
theorem bv_X0_openBetween : Cond.instanceMethod yX0_openBetween ∈ ec_tb ∧ Cond.selects yX0_openBetween.cls yX0_openBetween yX0_openBetween ∈ ec_tb := ⟨ec_in (i := 528) (by decide +kernel) rfl, ec_in (i := 529) (by decide +kernel) rfl⟩
def bx_X0_openBetween : ex_K := (RX0, ec_fx fl_X0, ec_cx cl_X0, sl_X0, (fun ix => (ec_no ix).map (fun (q : Nat × Option Nat × List ab_C) => (q.1, q.2.1, ab_sp ab_hd q.2.2))), ec_nz, ec_no)
theorem bj_X0_openBetween (l : Launch) : ex_ok l 0 0 bx_X0_openBetween := ⟨ec_fok fo_X0, ec_cok co_X0, so_X0, fun _ _ _ _ h => (by cases h), fun _ h => (by cases h), fun _ h => (by cases h), fun _ h => (by cases h), fun _ _ h => (by cases h)⟩
def bq_X0_openBetween : List (ab_C × List ab_Q) := [(([.inl 7, .inr (0, 5), .inr (0, 5)], [], [], [(some (0, 1, none), [], [])]), [(2, [some (.inl 7), some (.inr (.inl (0, 5, none, none))), some (.inr (.inl (0, 5, none, none))), some (.inr (.inl (0, 8, none, none))), none], [((1, 0, 7), 0, 24, some (1007, 0)), ((1, 76, 52), 0, 24, some (77052, 0))], 17, [0, 0, 0, (-2), 0])]),
  (([.inl 36, .inr (0, 5), .inr (0, 5)], [], [], [(some (0, 1, none), [], [])]), [(2, [some (.inl 36), some (.inr (.inl (0, 5, none, none))), some (.inr (.inl (0, 5, none, none))), some (.inr (.inl (0, 8, none, none))), none], [((1, 0, 7), 0, 24, some (1007, 0)), ((1, 76, 52), 0, 24, some (77052, 0))], 17, [0, 0, 0, (-2), 0])])]
def bc_X0_openBetween : List ab_C := bq_X0_openBetween.map (fun c => c.1)
def bi_X0_openBetween : List (Nat × Instr × Nat) := [(0, .iconst 0, 1), (1, .istore_n 3, 1), (2, .iload_n 3, 1), (3, .aload_n 0, 1), (4, .getfield 43, 3), (7, .if_icmp .ge 72, 3), (10, .aload_n 0, 1), (11, .getfield 18, 3), (14, .iload_n 3, 1), (15, .iaload, 1), (16, .iload_n 1, 1), (17, .if_icmp .ne 13, 3), (20, .aload_n 0, 1), (21, .getfield 21, 3), (24, .iload_n 3, 1), (25, .iaload, 1), (26, .iload_n 2, 1), (27, .if_icmp .eq 23, 3), (30, .aload_n 0, 1), (31, .getfield 18, 3), (34, .iload_n 3, 1), (35, .iaload, 1), (36, .iload_n 2, 1), (37, .if_icmp .ne 17, 3), (40, .aload_n 0, 1), (41, .getfield 21, 3), (44, .iload_n 3, 1), (45, .iaload, 1), (46, .iload_n 1, 1), (47, .if_icmp .ne 7, 3), (50, .iconst 1, 1), (51, .goto 4, 3), (54, .iconst 0, 1), (55, .istore 4, 2), (57, .iload 4, 2), (59, .ifCond .eq 14, 3), (62, .aload_n 0, 1), (63, .getfield 24, 3), (66, .iload_n 3, 1), (67, .baload, 1), (68, .ifCond .eq 5, 3), (71, .iconst 1, 1), (72, .ireturn, 1), (73, .iinc 3 1, 3), (76, .goto (-74), 3), (79, .iconst 0, 1), (80, .ireturn, 1)]
theorem bd_X0_openBetween : ∀ q ∈ bi_X0_openBetween, decode cX0_openBetween q.1 = .ok q.2 := by decide +kernel
theorem bz_X0_openBetween : bq_X0_openBetween.all (ab_ck ab_hd ab_xs ab_tr bx_X0_openBetween ec_no bi_X0_openBetween (some .boolean) 5 42) = true := by decide +kernel
theorem bm_X0_openBetween (l : Launch) : ex_Met l yX0_openBetween cX0_openBetween 5 (some .boolean) 0 0 (ab_sp ab_hd bc_X0_openBetween) := ab_met (by decide) (by decide) rfl (bj_X0_openBetween l) bd_X0_openBetween ab_hcm ab_xk bz_X0_openBetween
theorem bw_X0_leakOut : ec_cw yX0_leakOut cX0_leakOut 4 none := ⟨ec_in (i := 822) (by decide +kernel) rfl, ec_in (i := 61) (by decide +kernel) rfl, by decide, by decide⟩
theorem bv_X0_leakOut : Cond.instanceMethod yX0_leakOut ∈ ec_tb ∧ Cond.selects yX0_leakOut.cls yX0_leakOut yX0_leakOut ∈ ec_tb := ⟨ec_in (i := 820) (by decide +kernel) rfl, ec_in (i := 821) (by decide +kernel) rfl⟩
def be_X0_leakOut : Nat → Option (Nat × Option Nat × List ab_C) := fun ix => match ix with
  | 73 => some (3, some 0, bc_X0_amount)
  | 76 => some (4, some 0, bc_X0_give)
  | 80 => some (3, some 0, bc_X0_fill)
  | _ => none
theorem bk_X0_leakOut (l : Launch) : ∀ (ix n : Nat) (rc : Option Nat) (sp : ex_S), (be_X0_leakOut ix).map (fun q => (q.1, q.2.1, ab_sp ab_hd q.2.2)) = some (n, rc, sp) → ex_cok l RX0 1 23 ix n rc sp := by
  intro ix n rc sp h
  obtain ⟨l0, h2, rfl⟩ := ab_dmk h
  clear h
  unfold be_X0_leakOut at h2
  split at h2
  · cases h2; exact ec_cV (bm_X0_amount l) bw_X0_amount bv_X0_amount (by decide) (by decide) (Or.inl (ec_in (i := 823) (by decide +kernel) rfl)) (T := TX0) (N := 8) rfl (by decide) (by decide +kernel)
  · cases h2; exact ec_cV (bm_X0_give l) bw_X0_give bv_X0_give (by decide) (by decide) (Or.inl (ec_in (i := 824) (by decide +kernel) rfl)) (T := TX0) (N := 8) rfl (by decide) (by decide +kernel)
  · cases h2; exact ec_cV (bm_X0_fill l) bw_X0_fill bv_X0_fill (by decide) (by decide) (Or.inl (ec_in (i := 825) (by decide +kernel) rfl)) (T := TX0) (N := 8) rfl (by decide) (by decide +kernel)
  · cases h2
def bx_X0_leakOut : ex_K := (RX0, ec_fx fl_X0, ec_cx cl_X0, sl_X0, (fun ix => (be_X0_leakOut ix).map (fun q => (q.1, q.2.1, ab_sp ab_hd q.2.2))), ec_nz, ec_no)
theorem bj_X0_leakOut (l : Launch) : ex_ok l 1 23 bx_X0_leakOut := ⟨ec_fok fo_X0, ec_cok co_X0, so_X0, bk_X0_leakOut l, fun _ h => (by cases h), fun _ h => (by cases h), fun _ h => (by cases h), fun _ _ h => (by cases h)⟩
def bq_X0_leakOut : List (ab_C × List ab_Q) := [(([.inl 7], [], [(8, none), (13, none)], [(none, [], [])]), [(2, [some (.inl 7), some (.inr (.inl (0, 6, none, none))), none, none], [((1, 0, 7), 0, 24, some (1007, 0)), ((1, 76, 52), 0, 24, some (77052, 0))], 83, [0, (-12), 0, 0]), (12, [some (.inl 7), some (.inr (.inl (0, 5, none, none))), some (.inr (.inl (0, 4, none, none))), none], [((1, 0, 7), 0, 24, some (1007, 0)), ((1, 76, 52), 0, 24, some (77052, 0))], 81, [0, (-12), (-2), 0])]),
  (([.inl 36], [], [(37, none), (42, none)], [(none, [], [])]), [(2, [some (.inl 36), some (.inr (.inl (0, 6, none, none))), none, none], [((1, 0, 7), 0, 24, some (1007, 0)), ((1, 76, 52), 0, 24, some (77052, 0))], 83, [0, (-12), 0, 0]), (12, [some (.inl 36), some (.inr (.inl (0, 5, none, none))), some (.inr (.inl (0, 4, none, none))), none], [((1, 0, 7), 0, 24, some (1007, 0)), ((1, 76, 52), 0, 24, some (77052, 0))], 81, [0, (-12), (-2), 0])])]
def bc_X0_leakOut : List ab_C := bq_X0_leakOut.map (fun c => c.1)
def bi_X0_leakOut : List (Nat × Instr × Nat) := [(0, .iconst 0, 1), (1, .istore_n 1, 1), (2, .iload_n 1, 1), (3, .aload_n 0, 1), (4, .getfield 39, 3), (7, .if_icmp .ge 54, 3), (10, .iconst 0, 1), (11, .istore_n 2, 1), (12, .iload_n 2, 1), (13, .iconst 4, 1), (14, .if_icmp .ge 41, 3), (17, .aload_n 0, 1), (18, .iload_n 1, 1), (19, .iload_n 2, 1), (20, .invokevirtual 73, 3), (23, .aload_n 0, 1), (24, .getfield 15, 3), (27, .iload_n 1, 1), (28, .iaload, 1), (29, .imul, 1), (30, .sipush 1000, 3), (33, .idiv, 1), (34, .istore_n 3, 1), (35, .aload_n 0, 1), (36, .iload_n 1, 1), (37, .iload_n 2, 1), (38, .iload_n 3, 1), (39, .ineg, 1), (40, .invokevirtual 76, 3), (43, .aload_n 0, 1), (44, .iconst 4, 1), (45, .iload_n 3, 1), (46, .invokevirtual 80, 3), (49, .iinc 2 1, 3), (52, .goto (-40), 3), (55, .iinc 1 1, 3), (58, .goto (-56), 3), (61, .return_, 1)]
theorem bd_X0_leakOut : ∀ q ∈ bi_X0_leakOut, decode cX0_leakOut q.1 = .ok q.2 := by decide +kernel
theorem bz_X0_leakOut : bq_X0_leakOut.all (ab_ck ab_hd ab_xs ab_tr bx_X0_leakOut be_X0_leakOut bi_X0_leakOut none 4 29) = true := by decide +kernel
theorem bm_X0_leakOut (l : Launch) : ex_Met l yX0_leakOut cX0_leakOut 4 none 1 23 (ab_sp ab_hd bc_X0_leakOut) := ab_met (by decide) (by decide) rfl (bj_X0_leakOut l) bd_X0_leakOut ab_hcm ab_xk bz_X0_leakOut
theorem bw_X0_mix : ec_cw yX0_mix cX0_mix 5 none := ⟨ec_in (i := 833) (by decide +kernel) rfl, ec_in (i := 61) (by decide +kernel) rfl, by decide, by decide⟩
theorem bv_X0_mix : Cond.instanceMethod yX0_mix ∈ ec_tb ∧ Cond.selects yX0_mix.cls yX0_mix yX0_mix ∈ ec_tb := ⟨ec_in (i := 832) (by decide +kernel) rfl, ec_in (i := 16) (by decide +kernel) rfl⟩
def be_X0_mix : Nat → Option (Nat × Option Nat × List ab_C) := fun ix => match ix with
  | 73 => some (3, some 0, bc_X0_amount)
  | 76 => some (4, some 0, bc_X0_give)
  | _ => none
theorem bk_X0_mix (l : Launch) : ∀ (ix n : Nat) (rc : Option Nat) (sp : ex_S), (be_X0_mix ix).map (fun q => (q.1, q.2.1, ab_sp ab_hd q.2.2)) = some (n, rc, sp) → ex_cok l RX0 1 23 ix n rc sp := by
  intro ix n rc sp h
  obtain ⟨l0, h2, rfl⟩ := ab_dmk h
  clear h
  unfold be_X0_mix at h2
  split at h2
  · cases h2; exact ec_cV (bm_X0_amount l) bw_X0_amount bv_X0_amount (by decide) (by decide) (Or.inl (ec_in (i := 823) (by decide +kernel) rfl)) (T := TX0) (N := 8) rfl (by decide) (by decide +kernel)
  · cases h2; exact ec_cV (bm_X0_give l) bw_X0_give bv_X0_give (by decide) (by decide) (Or.inl (ec_in (i := 824) (by decide +kernel) rfl)) (T := TX0) (N := 8) rfl (by decide) (by decide +kernel)
  · cases h2
def bx_X0_mix : ex_K := (RX0, ec_fx fl_X0, ec_cx cl_X0, sl_X0, (fun ix => (be_X0_mix ix).map (fun q => (q.1, q.2.1, ab_sp ab_hd q.2.2))), ec_nz, ec_no)
theorem bj_X0_mix (l : Launch) : ex_ok l 1 23 bx_X0_mix := ⟨ec_fok fo_X0, ec_cok co_X0, so_X0, bk_X0_mix l, fun _ h => (by cases h), fun _ h => (by cases h), fun _ h => (by cases h), fun _ _ h => (by cases h)⟩
def bq_X0_mix : List (ab_C × List ab_Q) := [(([.inl 7, .inr (0, 5), .inr (0, 5)], [], [(8, none)], [(none, [], [])]), [(2, [some (.inl 7), some (.inr (.inl (0, 5, none, none))), some (.inr (.inl (0, 5, none, none))), some (.inr (.inl (0, 5, none, none))), none], [((1, 0, 7), 0, 24, some (1007, 0)), ((1, 76, 52), 0, 24, some (77052, 0))], 11, [0, 0, 0, (-2), 0])]),
  (([.inl 36, .inr (0, 5), .inr (0, 5)], [], [(37, none)], [(none, [], [])]), [(2, [some (.inl 36), some (.inr (.inl (0, 5, none, none))), some (.inr (.inl (0, 5, none, none))), some (.inr (.inl (0, 5, none, none))), none], [((1, 0, 7), 0, 24, some (1007, 0)), ((1, 76, 52), 0, 24, some (77052, 0))], 11, [0, 0, 0, (-2), 0])])]
def bc_X0_mix : List ab_C := bq_X0_mix.map (fun c => c.1)
def bi_X0_mix : List (Nat × Instr × Nat) := [(0, .iconst 0, 1), (1, .istore_n 3, 1), (2, .iload_n 3, 1), (3, .iconst 5, 1), (4, .if_icmp .ge 43, 3), (7, .aload_n 0, 1), (8, .iload_n 1, 1), (9, .iload_n 3, 1), (10, .invokevirtual 73, 3), (13, .aload_n 0, 1), (14, .iload_n 2, 1), (15, .iload_n 3, 1), (16, .invokevirtual 73, 3), (19, .isub, 1), (20, .iconst 4, 1), (21, .idiv, 1), (22, .istore 4, 2), (24, .aload_n 0, 1), (25, .iload_n 1, 1), (26, .iload_n 3, 1), (27, .iload 4, 2), (29, .ineg, 1), (30, .invokevirtual 76, 3), (33, .aload_n 0, 1), (34, .iload_n 2, 1), (35, .iload_n 3, 1), (36, .iload 4, 2), (38, .invokevirtual 76, 3), (41, .iinc 3 1, 3), (44, .goto (-42), 3), (47, .return_, 1)]
theorem bd_X0_mix : ∀ q ∈ bi_X0_mix, decode cX0_mix q.1 = .ok q.2 := by decide +kernel
theorem bz_X0_mix : bq_X0_mix.all (ab_ck ab_hd ab_xs ab_tr bx_X0_mix be_X0_mix bi_X0_mix none 5 30) = true := by decide +kernel
theorem bm_X0_mix (l : Launch) : ex_Met l yX0_mix cX0_mix 5 none 1 23 (ab_sp ab_hd bc_X0_mix) := ab_met (by decide) (by decide) rfl (bj_X0_mix l) bd_X0_mix ab_hcm ab_xk bz_X0_mix
theorem bw_X0_mixThroughHatches : ec_cw yX0_mixThroughHatches cX0_mixThroughHatches 2 none := ⟨ec_in (i := 829) (by decide +kernel) rfl, ec_in (i := 61) (by decide +kernel) rfl, by decide, by decide⟩
theorem bv_X0_mixThroughHatches : Cond.instanceMethod yX0_mixThroughHatches ∈ ec_tb ∧ Cond.selects yX0_mixThroughHatches.cls yX0_mixThroughHatches yX0_mixThroughHatches ∈ ec_tb := ⟨ec_in (i := 827) (by decide +kernel) rfl, ec_in (i := 828) (by decide +kernel) rfl⟩
def be_X0_mixThroughHatches : Nat → Option (Nat × Option Nat × List ab_C) := fun ix => match ix with
  | 84 => some (3, some 0, bc_X0_mix)
  | _ => none
theorem bk_X0_mixThroughHatches (l : Launch) : ∀ (ix n : Nat) (rc : Option Nat) (sp : ex_S), (be_X0_mixThroughHatches ix).map (fun q => (q.1, q.2.1, ab_sp ab_hd q.2.2)) = some (n, rc, sp) → ex_cok l RX0 2 47 ix n rc sp := by
  intro ix n rc sp h
  obtain ⟨l0, h2, rfl⟩ := ab_dmk h
  clear h
  unfold be_X0_mixThroughHatches at h2
  split at h2
  · cases h2; exact ec_cV (bm_X0_mix l) bw_X0_mix bv_X0_mix (by decide) (by decide) (Or.inl (ec_in (i := 830) (by decide +kernel) rfl)) (T := TX0) (N := 8) rfl (by decide) (by decide +kernel)
  · cases h2
def bx_X0_mixThroughHatches : ex_K := (RX0, ec_fx fl_X0, ec_cx cl_X0, sl_X0, (fun ix => (be_X0_mixThroughHatches ix).map (fun q => (q.1, q.2.1, ab_sp ab_hd q.2.2))), ec_nz, ec_no)
theorem bj_X0_mixThroughHatches (l : Launch) : ex_ok l 2 47 bx_X0_mixThroughHatches := ⟨ec_fok fo_X0, ec_cok co_X0, so_X0, bk_X0_mixThroughHatches l, fun _ h => (by cases h), fun _ h => (by cases h), fun _ h => (by cases h), fun _ _ h => (by cases h)⟩
def bq_X0_mixThroughHatches : List (ab_C × List ab_Q) := [(([.inl 7], [], [(8, none)], [(none, [], [])]), [(2, [some (.inl 7), some (.inr (.inl (0, 8, none, none)))], [((1, 0, 7), 0, 24, some (1007, 0)), ((1, 76, 52), 0, 24, some (77052, 0))], 17, [0, (-2)])]),
  (([.inl 36], [], [(37, none)], [(none, [], [])]), [(2, [some (.inl 36), some (.inr (.inl (0, 8, none, none)))], [((1, 0, 7), 0, 24, some (1007, 0)), ((1, 76, 52), 0, 24, some (77052, 0))], 17, [0, (-2)])])]
def bc_X0_mixThroughHatches : List ab_C := bq_X0_mixThroughHatches.map (fun c => c.1)
def bi_X0_mixThroughHatches : List (Nat × Instr × Nat) := [(0, .iconst 0, 1), (1, .istore_n 1, 1), (2, .iload_n 1, 1), (3, .aload_n 0, 1), (4, .getfield 43, 3), (7, .if_icmp .ge 34, 3), (10, .aload_n 0, 1), (11, .getfield 24, 3), (14, .iload_n 1, 1), (15, .baload, 1), (16, .ifCond .eq 19, 3), (19, .aload_n 0, 1), (20, .aload_n 0, 1), (21, .getfield 18, 3), (24, .iload_n 1, 1), (25, .iaload, 1), (26, .aload_n 0, 1), (27, .getfield 21, 3), (30, .iload_n 1, 1), (31, .iaload, 1), (32, .invokevirtual 84, 3), (35, .iinc 1 1, 3), (38, .goto (-36), 3), (41, .return_, 1)]
theorem bd_X0_mixThroughHatches : ∀ q ∈ bi_X0_mixThroughHatches, decode cX0_mixThroughHatches q.1 = .ok q.2 := by decide +kernel
theorem bz_X0_mixThroughHatches : bq_X0_mixThroughHatches.all (ab_ck ab_hd ab_xs ab_tr bx_X0_mixThroughHatches be_X0_mixThroughHatches bi_X0_mixThroughHatches none 2 23) = true := by decide +kernel
theorem bm_X0_mixThroughHatches (l : Launch) : ex_Met l yX0_mixThroughHatches cX0_mixThroughHatches 2 none 2 47 (ab_sp ab_hd bc_X0_mixThroughHatches) := ab_met (by decide) (by decide) rfl (bj_X0_mixThroughHatches l) bd_X0_mixThroughHatches ab_hcm ab_xk bz_X0_mixThroughHatches
