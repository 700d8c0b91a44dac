theorem bw_X6_becomeLike : ec_cw yX6_becomeLike cX6_becomeLike 2 none := ⟨ec_in (i := 890) (by decide +kernel) rfl, ec_in (i := 63) (by decide +kernel) rfl, by decide, by decide⟩
theorem bv_X6_becomeLike : Cond.instanceMethod yX6_becomeLike ∈ ec_tb ∧ Cond.selects yX6_becomeLike.cls yX6_becomeLike yX6_becomeLike ∈ ec_tb := ⟨ec_in (i := 888) (by decide +kernel) rfl, ec_in (i := 889) (by decide +kernel) rfl⟩
def be_X6_becomeLike : Nat → Option (Nat × Option Nat × List ab_C) := fun ix => match ix with
  | 50 => some (2, none, bc_X9_copy)
  | 54 => some (2, none, bc_X9_copyFlags)
  | _ => none
theorem bk_X6_becomeLike (l : Launch) : ∀ (ix n : Nat) (rc : Option Nat) (sp : ex_S), (be_X6_becomeLike ix).map (fun q => (q.1, q.2.1, ab_sp ab_hd q.2.2)) = some (n, rc, sp) → ex_cok l RX6 2 47 ix n rc sp := by
  intro ix n rc sp h
  obtain ⟨l0, h2, rfl⟩ := ab_dmk h
  clear h
  unfold be_X6_becomeLike at h2
  split at h2
  · cases h2; exact ec_cS (bm_X9_copy l) bw_X9_copy bv_X9_copy (by decide) (by decide) (Or.inr ⟨"TinStation", by decide +kernel⟩) (by decide +kernel)
  · cases h2; exact ec_cS (bm_X9_copyFlags l) bw_X9_copyFlags bv_X9_copyFlags (by decide) (by decide) (Or.inr ⟨"TinStation", by decide +kernel⟩) (by decide +kernel)
  · cases h2
def bx_X6_becomeLike : ex_K := (RX6, ec_fx fl_X6, ec_cx cl_X6, sl_X6, (fun ix => (be_X6_becomeLike ix).map (fun q => (q.1, q.2.1, ab_sp ab_hd q.2.2))), ec_nz, ec_no)
theorem bj_X6_becomeLike (l : Launch) : ex_ok l 2 47 bx_X6_becomeLike := ⟨ec_fok fo_X6, ec_cok co_X6, so_X6, bk_X6_becomeLike l, fun _ h => (by cases h), fun _ h => (by cases h), fun _ h => (by cases h), fun _ _ h => (by cases h)⟩
def bq_X6_becomeLike : List (ab_C × List ab_Q) := [(([.inl 50, .inl 21], [], [(50, some 11), (50, some 12), (50, some 13), (50, some 14), (51, none), (52, none), (53, none), (54, none), (55, none), (56, none), (57, none), (58, none), (59, none), (60, none), (61, none)], [(none, [], [])]), [])]
def bc_X6_becomeLike : List ab_C := bq_X6_becomeLike.map (fun c => c.1)
def bi_X6_becomeLike : List (Nat × Instr × Nat) := [(0, .aload_n 1, 1), (1, .getfield 9, 3), (4, .aload_n 0, 1), (5, .getfield 9, 3), (8, .invokestatic 50, 3), (11, .aload_n 1, 1), (12, .getfield 15, 3), (15, .aload_n 0, 1), (16, .getfield 15, 3), (19, .invokestatic 50, 3), (22, .aload_n 1, 1), (23, .getfield 18, 3), (26, .aload_n 0, 1), (27, .getfield 18, 3), (30, .invokestatic 50, 3), (33, .aload_n 1, 1), (34, .getfield 21, 3), (37, .aload_n 0, 1), (38, .getfield 21, 3), (41, .invokestatic 50, 3), (44, .aload_n 1, 1), (45, .getfield 24, 3), (48, .aload_n 0, 1), (49, .getfield 24, 3), (52, .invokestatic 50, 3), (55, .aload_n 1, 1), (56, .getfield 27, 3), (59, .aload_n 0, 1), (60, .getfield 27, 3), (63, .invokestatic 50, 3), (66, .aload_n 1, 1), (67, .getfield 30, 3), (70, .aload_n 0, 1), (71, .getfield 30, 3), (74, .invokestatic 50, 3), (77, .aload_n 1, 1), (78, .getfield 33, 3), (81, .aload_n 0, 1), (82, .getfield 33, 3), (85, .invokestatic 54, 3), (88, .aload_n 1, 1), (89, .getfield 37, 3), (92, .aload_n 0, 1), (93, .getfield 37, 3), (96, .invokestatic 54, 3), (99, .aload_n 1, 1), (100, .getfield 40, 3), (103, .aload_n 0, 1), (104, .getfield 40, 3), (107, .invokestatic 54, 3), (110, .aload_n 1, 1), (111, .getfield 43, 3), (114, .aload_n 0, 1), (115, .getfield 43, 3), (118, .invokestatic 50, 3), (121, .aload_n 0, 1), (122, .aload_n 1, 1), (123, .getfield 58, 3), (126, .putfield 58, 3), (129, .aload_n 0, 1), (130, .aload_n 1, 1), (131, .getfield 61, 3), (134, .putfield 61, 3), (137, .aload_n 0, 1), (138, .aload_n 1, 1), (139, .getfield 46, 3), (142, .putfield 46, 3), (145, .aload_n 0, 1), (146, .aload_n 1, 1), (147, .getfield 64, 3), (150, .putfield 64, 3), (153, .return_, 1)]
theorem bd_X6_becomeLike : ∀ q ∈ bi_X6_becomeLike, decode cX6_becomeLike q.1 = .ok q.2 := by decide +kernel
theorem bz_X6_becomeLike : bq_X6_becomeLike.all (ab_ck ab_hd ab_xs ab_tr bx_X6_becomeLike be_X6_becomeLike bi_X6_becomeLike none 2 74) = true := by decide +kernel
theorem bm_X6_becomeLike (l : Launch) : ex_Met l yX6_becomeLike cX6_becomeLike 2 none 2 47 (ab_sp ab_hd bc_X6_becomeLike) := ab_met (by decide) (by decide) rfl (bj_X6_becomeLike l) bd_X6_becomeLike ab_hcm ab_xk bz_X6_becomeLike
theorem bw_X6_isKind : ec_cw yX6_isKind cX6_isKind 1 (some .boolean) := ⟨ec_in (i := 562) (by decide +kernel) rfl, ec_in (i := 63) (by decide +kernel) rfl, by decide, by decide⟩
theorem bv_X6_isKind : Cond.static yX6_isKind ∈ ec_tb := ec_in (i := 561) (by decide +kernel) rfl
def bx_X6_isKind : ex_K := (RX6, ec_fx fl_X6, ec_cx cl_X6, sl_X6, (fun ix => (ec_no ix).map (fun (q : Nat × Option Nat × List ab_C) => (q.1, q.2.1, ab_sp ab_hd q.2.2))), ec_nz, ec_no)
theorem bj_X6_isKind (l : Launch) : ex_ok l 0 0 bx_X6_isKind := ⟨ec_fok fo_X6, ec_cok co_X6, so_X6, fun _ _ _ _ h => (by cases h), fun _ h => (by cases h), fun _ h => (by cases h), fun _ h => (by cases h), fun _ _ h => (by cases h)⟩
def bq_X6_isKind : List (ab_C × List ab_Q) := [(([.inr ((-2147483648), 2147483647)], [], [], [(some (0, 0, none), [], []), (some (1, 1, none), [((0, 0, 0), 0, 5, none)], [])]), [])]
def bc_X6_isKind : List ab_C := bq_X6_isKind.map (fun c => c.1)
def bi_X6_isKind : List (Nat × Instr × Nat) := [(0, .iload_n 0, 1), (1, .ifCond .lt 13, 3), (4, .iload_n 0, 1), (5, .bipush 6, 2), (7, .if_icmp .ge 7, 3), (10, .iconst 1, 1), (11, .goto 4, 3), (14, .iconst 0, 1), (15, .ireturn, 1)]
theorem bd_X6_isKind : ∀ q ∈ bi_X6_isKind, decode cX6_isKind q.1 = .ok q.2 := by decide +kernel
theorem bz_X6_isKind : bq_X6_isKind.all (ab_ck ab_hd ab_xs ab_tr bx_X6_isKind ec_no bi_X6_isKind (some .boolean) 1 10) = true := by decide +kernel
theorem bm_X6_isKind (l : Launch) : ex_Met l yX6_isKind cX6_isKind 1 (some .boolean) 0 0 (ab_sp ab_hd bc_X6_isKind) := ab_met (by decide) (by decide) rfl (bj_X6_isKind l) bd_X6_isKind ab_hcm ab_xk bz_X6_isKind
theorem bw_X6_isUse : ec_cw yX6_isUse cX6_isUse 1 (some .boolean) := ⟨ec_in (i := 565) (by decide +kernel) rfl, ec_in (i := 63) (by decide +kernel) rfl, by decide, by decide⟩
theorem bv_X6_isUse : Cond.static yX6_isUse ∈ ec_tb := ec_in (i := 564) (by decide +kernel) rfl
def bx_X6_isUse : ex_K := (RX6, ec_fx fl_X6, ec_cx cl_X6, sl_X6, (fun ix => (ec_no ix).map (fun (q : Nat × Option Nat × List ab_C) => (q.1, q.2.1, ab_sp ab_hd q.2.2))), ec_nz, ec_no)
theorem bj_X6_isUse (l : Launch) : ex_ok l 0 0 bx_X6_isUse := ⟨ec_fok fo_X6, ec_cok co_X6, so_X6, fun _ _ _ _ h => (by cases h), fun _ h => (by cases h), fun _ h => (by cases h), fun _ h => (by cases h), fun _ _ h => (by cases h)⟩
def bq_X6_isUse : List (ab_C × List ab_Q) := [(([.inr ((-2147483648), 2147483647)], [], [], [(some (0, 0, none), [], []), (some (1, 1, none), [((0, 0, 0), 0, 2147483647, none)], [])]), [])]
def bc_X6_isUse : List ab_C := bq_X6_isUse.map (fun c => c.1)
def bi_X6_isUse : List (Nat × Instr × Nat) := [(0, .iload_n 0, 1), (1, .ifCond .lt 40, 3), (4, .iload_n 0, 1), (5, .ldc 76, 2), (7, .idiv, 1), (8, .bipush 100, 2), (10, .if_icmp .gt 31, 3), (13, .iload_n 0, 1), (14, .sipush 1000, 3), (17, .idiv, 1), (18, .sipush 1000, 3), (21, .irem, 1), (22, .bipush 100, 2), (24, .if_icmp .gt 17, 3), (27, .iload_n 0, 1), (28, .sipush 1000, 3), (31, .irem, 1), (32, .bipush 100, 2), (34, .if_icmp .gt 7, 3), (37, .iconst 1, 1), (38, .goto 4, 3), (41, .iconst 0, 1), (42, .ireturn, 1)]
theorem bd_X6_isUse : ∀ q ∈ bi_X6_isUse, decode cX6_isUse q.1 = .ok q.2 := by decide +kernel
theorem bz_X6_isUse : bq_X6_isUse.all (ab_ck ab_hd ab_xs ab_tr bx_X6_isUse ec_no bi_X6_isUse (some .boolean) 1 24) = true := by decide +kernel
theorem bm_X6_isUse (l : Launch) : ex_Met l yX6_isUse cX6_isUse 1 (some .boolean) 0 0 (ab_sp ab_hd bc_X6_isUse) := ab_met (by decide) (by decide) rfl (bj_X6_isUse l) bd_X6_isUse ab_hcm ab_xk bz_X6_isUse
theorem bw_X6_addMachine : ec_cw yX6_addMachine cX6_addMachine 6 (some .int) := ⟨ec_in (i := 559) (by decide +kernel) rfl, ec_in (i := 63) (by decide +kernel) rfl, by decide, by decide⟩
theorem bv_X6_addMachine : Cond.instanceMethod yX6_addMachine ∈ ec_tb ∧ Cond.selects yX6_addMachine.cls yX6_addMachine yX6_addMachine ∈ ec_tb := ⟨ec_in (i := 557) (by decide +kernel) rfl, ec_in (i := 558) (by decide +kernel) rfl⟩
def be_X6_addMachine : Nat → Option (Nat × Option Nat × List ab_C) := fun ix => match ix with
  | 67 => some (1, none, bc_X6_isKind)
  | 71 => some (1, none, bc_X6_isUse)
  | _ => none
theorem bk_X6_addMachine (l : Launch) : ∀ (ix n : Nat) (rc : Option Nat) (sp : ex_S), (be_X6_addMachine ix).map (fun q => (q.1, q.2.1, ab_sp ab_hd q.2.2)) = some (n, rc, sp) → ex_cok l RX6 1 20 ix n rc sp := by
  intro ix n rc sp h
  obtain ⟨l0, h2, rfl⟩ := ab_dmk h
  clear h
  unfold be_X6_addMachine at h2
  split at h2
  · cases h2; exact ec_cS (bm_X6_isKind l) bw_X6_isKind bv_X6_isKind (by decide) (by decide) (Or.inl (ec_in (i := 560) (by decide +kernel) rfl)) (by decide +kernel)
  · cases h2; exact ec_cS (bm_X6_isUse l) bw_X6_isUse bv_X6_isUse (by decide) (by decide) (Or.inl (ec_in (i := 563) (by decide +kernel) rfl)) (by decide +kernel)
  · cases h2
def bx_X6_addMachine : ex_K := (RX6, ec_fx fl_X6, ec_cx cl_X6, sl_X6, (fun ix => (be_X6_addMachine ix).map (fun q => (q.1, q.2.1, ab_sp ab_hd q.2.2))), ec_nz, ec_no)
theorem bj_X6_addMachine (l : Launch) : ex_ok l 1 20 bx_X6_addMachine := ⟨ec_fok fo_X6, ec_cok co_X6, so_X6, bk_X6_addMachine l, fun _ h => (by cases h), fun _ h => (by cases h), fun _ h => (by cases h), fun _ _ h => (by cases h)⟩
def bq_X6_addMachine : List (ab_C × List ab_Q) := [(([.inl 21, .inr ((-2147483648), 2147483647), .inr (0, 5), .inr ((-2147483648), 2147483647), .inr ((-2147483648), 2147483647)], [], [(21, some 11), (22, none), (23, none), (24, none), (25, none), (26, none), (27, none), (29, none)], [(some ((-2147483648), 2147483647, none), [], [])]), [])]
def bc_X6_addMachine : List ab_C := bq_X6_addMachine.map (fun c => c.1)
def bi_X6_addMachine : List (Nat × Instr × Nat) := [(0, .iload_n 1, 1), (1, .invokestatic 67, 3), (4, .ifCond .eq 24, 3), (7, .iload_n 3, 1), (8, .invokestatic 71, 3), (11, .ifCond .eq 17, 3), (14, .iload 4, 2), (16, .iconst 1, 1), (17, .if_icmp .lt 11, 3), (20, .iload 4, 2), (22, .sipush 1000, 3), (25, .if_icmp .le 6, 3), (28, .ldc 74, 2), (30, .ireturn, 1), (31, .aload_n 0, 1), (32, .getfield 58, 3), (35, .bipush 10, 2), (37, .if_icmp .lt 6, 3), (40, .ldc 75, 2), (42, .ireturn, 1), (43, .aload_n 0, 1), (44, .getfield 58, 3), (47, .istore 5, 2), (49, .aload_n 0, 1), (50, .getfield 9, 3), (53, .iload 5, 2), (55, .iload_n 1, 1), (56, .iastore, 1), (57, .aload_n 0, 1), (58, .getfield 15, 3), (61, .iload 5, 2), (63, .iload_n 2, 1), (64, .iastore, 1), (65, .aload_n 0, 1), (66, .getfield 18, 3), (69, .iload 5, 2), (71, .iload_n 3, 1), (72, .ldc 76, 2), (74, .idiv, 1), (75, .iastore, 1), (76, .aload_n 0, 1), (77, .getfield 21, 3), (80, .iload 5, 2), (82, .iload_n 3, 1), (83, .sipush 1000, 3), (86, .idiv, 1), (87, .sipush 1000, 3), (90, .irem, 1), (91, .iastore, 1), (92, .aload_n 0, 1), (93, .getfield 24, 3), (96, .iload 5, 2), (98, .iload_n 3, 1), (99, .sipush 1000, 3), (102, .irem, 1), (103, .iastore, 1), (104, .aload_n 0, 1), (105, .getfield 27, 3), (108, .iload 5, 2), (110, .iload 4, 2), (112, .iastore, 1), (113, .aload_n 0, 1), (114, .getfield 33, 3), (117, .iload 5, 2), (119, .iconst 1, 1), (120, .bastore, 1), (121, .aload_n 0, 1), (122, .dup, 1), (123, .getfield 58, 3), (126, .iconst 1, 1), (127, .iadd, 1), (128, .putfield 58, 3), (131, .iload 5, 2), (133, .ireturn, 1)]
theorem bd_X6_addMachine : ∀ q ∈ bi_X6_addMachine, decode cX6_addMachine q.1 = .ok q.2 := by decide +kernel
theorem bz_X6_addMachine : bq_X6_addMachine.all (ab_ck ab_hd ab_xs ab_tr bx_X6_addMachine be_X6_addMachine bi_X6_addMachine (some .int) 6 72) = true := by decide +kernel
theorem bm_X6_addMachine (l : Launch) : ex_Met l yX6_addMachine cX6_addMachine 6 (some .int) 1 20 (ab_sp ab_hd bc_X6_addMachine) := ab_met (by decide) (by decide) rfl (bj_X6_addMachine l) bd_X6_addMachine ab_hcm ab_xk bz_X6_addMachine
theorem bw_X6_isUnder : ec_cw yX6_isUnder cX6_isUnder 4 (some .boolean) := ⟨ec_in (i := 583) (by decide +kernel) rfl, ec_in (i := 63) (by decide +kernel) rfl, by decide, by decide⟩
theorem bv_X6_isUnder : Cond.static yX6_isUnder ∈ ec_tb := ec_in (i := 582) (by decide +kernel) rfl
def be_X6_isUnder : Nat → Option (Nat × Option Nat × List ab_C) := fun ix => match ix with
  | 67 => some (1, none, bc_X6_isKind)
  | _ => none
theorem bk_X6_isUnder (l : Launch) : ∀ (ix n : Nat) (rc : Option Nat) (sp : ex_S), (be_X6_isUnder ix).map (fun q => (q.1, q.2.1, ab_sp ab_hd q.2.2)) = some (n, rc, sp) → ex_cok l RX6 1 20 ix n rc sp := by
  intro ix n rc sp h
  obtain ⟨l0, h2, rfl⟩ := ab_dmk h
  clear h
  unfold be_X6_isUnder at h2
  split at h2
  · cases h2; exact ec_cS (bm_X6_isKind l) bw_X6_isKind bv_X6_isKind (by decide) (by decide) (Or.inl (ec_in (i := 560) (by decide +kernel) rfl)) (by decide +kernel)
  · cases h2
def bx_X6_isUnder : ex_K := (RX6, ec_fx fl_X6, ec_cx cl_X6, sl_X6, (fun ix => (be_X6_isUnder ix).map (fun q => (q.1, q.2.1, ab_sp ab_hd q.2.2))), ec_nz, ec_no)
theorem bj_X6_isUnder (l : Launch) : ex_ok l 1 20 bx_X6_isUnder := ⟨ec_fok fo_X6, ec_cok co_X6, so_X6, bk_X6_isUnder l, fun _ h => (by cases h), fun _ h => (by cases h), fun _ h => (by cases h), fun _ _ h => (by cases h)⟩
def bq_X6_isUnder : List (ab_C × List ab_Q) := [(([.inr (0, 5), .inr (0, 5)], [], [], [(some (0, 1, none), [], [])]), [(4, [some (.inr (.inl (0, 5, none, none))), some (.inr (.inl (0, 5, none, none))), some (.inr (.inl ((-1), 5, none, none))), some (.inr (.inl (0, 6, none, none)))], [((1, 0, 7), 0, 24, some (1007, 0)), ((1, 76, 52), 0, 24, some (77052, 0))], 13, [0, 0, 0, (-2)])])]
def bc_X6_isUnder : List ab_C := bq_X6_isUnder.map (fun c => c.1)
def bi_X6_isUnder : List (Nat × Instr × Nat) := [(0, .iload_n 0, 1), (1, .istore_n 2, 1), (2, .iconst 0, 1), (3, .istore_n 3, 1), (4, .iload_n 3, 1), (5, .bipush 6, 2), (7, .if_icmp .ge 29, 3), (10, .iload_n 2, 1), (11, .invokestatic 67, 3), (14, .ifCond .eq 22, 3), (17, .iload_n 2, 1), (18, .iload_n 1, 1), (19, .if_icmp .ne 5, 3), (22, .iconst 1, 1), (23, .ireturn, 1), (24, .getstatic 85, 3), (27, .iload_n 2, 1), (28, .iaload, 1), (29, .istore_n 2, 1), (30, .iinc 3 1, 3), (33, .goto (-29), 3), (36, .iconst 0, 1), (37, .ireturn, 1)]
theorem bd_X6_isUnder : ∀ q ∈ bi_X6_isUnder, decode cX6_isUnder q.1 = .ok q.2 := by decide +kernel
theorem bz_X6_isUnder : bq_X6_isUnder.all (ab_ck ab_hd ab_xs ab_tr bx_X6_isUnder be_X6_isUnder bi_X6_isUnder (some .boolean) 4 17) = true := by decide +kernel
theorem bm_X6_isUnder (l : Launch) : ex_Met l yX6_isUnder cX6_isUnder 4 (some .boolean) 1 20 (ab_sp ab_hd bc_X6_isUnder) := ab_met (by decide) (by decide) rfl (bj_X6_isUnder l) bd_X6_isUnder ab_hcm ab_xk bz_X6_isUnder
theorem bw_X6_rateAs : ec_cw yX6_rateAs cX6_rateAs 3 (some .int) := ⟨ec_in (i := 576) (by decide +kernel) rfl, ec_in (i := 63) (by decide +kernel) rfl, by decide, by decide⟩
theorem bv_X6_rateAs : Cond.instanceMethod yX6_rateAs ∈ ec_tb ∧ Cond.selects yX6_rateAs.cls yX6_rateAs yX6_rateAs ∈ ec_tb := ⟨ec_in (i := 574) (by decide +kernel) rfl, ec_in (i := 575) (by decide +kernel) rfl⟩
def be_X6_rateAs : Nat → Option (Nat × Option Nat × List ab_C) := fun ix => match ix with
  | 77 => some (2, some 6, bc_X6_has)
  | 67 => some (1, none, bc_X6_isKind)
  | 80 => some (2, none, bc_X6_isUnder)
  | _ => none
theorem bk_X6_rateAs (l : Launch) : ∀ (ix n : Nat) (rc : Option Nat) (sp : ex_S), (be_X6_rateAs ix).map (fun q => (q.1, q.2.1, ab_sp ab_hd q.2.2)) = some (n, rc, sp) → ex_cok l RX6 2 43 ix n rc sp := by
  intro ix n rc sp h
  obtain ⟨l0, h2, rfl⟩ := ab_dmk h
  clear h
  unfold be_X6_rateAs at h2
  split at h2
  · cases h2; exact ec_cV (bm_X6_has l) bw_X6_has bv_X6_has (by decide) (by decide) (Or.inl (ec_in (i := 577) (by decide +kernel) rfl)) (T := TX6) (N := 15) rfl (by decide) (by decide +kernel)
  · cases h2; exact ec_cS (bm_X6_isKind l) bw_X6_isKind bv_X6_isKind (by decide) (by decide) (Or.inl (ec_in (i := 560) (by decide +kernel) rfl)) (by decide +kernel)
  · cases h2; exact ec_cS (bm_X6_isUnder l) bw_X6_isUnder bv_X6_isUnder (by decide) (by decide) (Or.inl (ec_in (i := 581) (by decide +kernel) rfl)) (by decide +kernel)
  · cases h2
def bx_X6_rateAs : ex_K := (RX6, ec_fx fl_X6, ec_cx cl_X6, sl_X6, (fun ix => (be_X6_rateAs ix).map (fun q => (q.1, q.2.1, ab_sp ab_hd q.2.2))), ec_nz, ec_no)
theorem bj_X6_rateAs (l : Launch) : ex_ok l 2 43 bx_X6_rateAs := ⟨ec_fok fo_X6, ec_cok co_X6, so_X6, bk_X6_rateAs l, fun _ h => (by cases h), fun _ h => (by cases h), fun _ h => (by cases h), fun _ _ h => (by cases h)⟩
def bq_X6_rateAs : List (ab_C × List ab_Q) := [(([.inl 21, .inr ((-2147483648), 2147483647), .inr ((-2147483648), 2147483647)], [], [], [(some ((-2147483648), 2147483647, none), [], [])]), [])]
def bc_X6_rateAs : List ab_C := bq_X6_rateAs.map (fun c => c.1)
def bi_X6_rateAs : List (Nat × Instr × Nat) := [(0, .aload_n 0, 1), (1, .iload_n 1, 1), (2, .invokevirtual 77, 3), (5, .ifCond .eq 10, 3), (8, .iload_n 2, 1), (9, .invokestatic 67, 3), (12, .ifCond .ne 6, 3), (15, .ldc 74, 2), (17, .ireturn, 1), (18, .aload_n 0, 1), (19, .getfield 9, 3), (22, .iload_n 1, 1), (23, .iaload, 1), (24, .iload_n 2, 1), (25, .invokestatic 80, 3), (28, .ifCond .eq 12, 3), (31, .aload_n 0, 1), (32, .getfield 18, 3), (35, .iload_n 1, 1), (36, .iaload, 1), (37, .goto 5, 3), (40, .ldc 84, 2), (42, .ireturn, 1)]
theorem bd_X6_rateAs : ∀ q ∈ bi_X6_rateAs, decode cX6_rateAs q.1 = .ok q.2 := by decide +kernel
theorem bz_X6_rateAs : bq_X6_rateAs.all (ab_ck ab_hd ab_xs ab_tr bx_X6_rateAs be_X6_rateAs bi_X6_rateAs (some .int) 3 22) = true := by decide +kernel
theorem bm_X6_rateAs (l : Launch) : ex_Met l yX6_rateAs cX6_rateAs 3 (some .int) 2 43 (ab_sp ab_hd bc_X6_rateAs) := ab_met (by decide) (by decide) rfl (bj_X6_rateAs l) bd_X6_rateAs ab_hcm ab_xk bz_X6_rateAs
theorem bw_X6_setOn : ec_cw yX6_setOn cX6_setOn 4 (some .int) := ⟨ec_in (i := 594) (by decide +kernel) rfl, ec_in (i := 63) (by decide +kernel) rfl, by decide, by decide⟩
theorem bv_X6_setOn : Cond.instanceMethod yX6_setOn ∈ ec_tb ∧ Cond.selects yX6_setOn.cls yX6_setOn yX6_setOn ∈ ec_tb := ⟨ec_in (i := 592) (by decide +kernel) rfl, ec_in (i := 593) (by decide +kernel) rfl⟩
def be_X6_setOn : Nat → Option (Nat × Option Nat × List ab_C) := fun ix => match ix with
  | 77 => some (2, some 6, bc_X6_has)
  | 88 => some (1, none, bc_X9_isSwitch)
  | 91 => some (1, none, bc_X9_one)
  | _ => none
theorem bk_X6_setOn (l : Launch) : ∀ (ix n : Nat) (rc : Option Nat) (sp : ex_S), (be_X6_setOn ix).map (fun q => (q.1, q.2.1, ab_sp ab_hd q.2.2)) = some (n, rc, sp) → ex_cok l RX6 1 21 ix n rc sp := by
  intro ix n rc sp h
  obtain ⟨l0, h2, rfl⟩ := ab_dmk h
  clear h
  unfold be_X6_setOn at h2
  split at h2
  · cases h2; exact ec_cV (bm_X6_has l) bw_X6_has bv_X6_has (by decide) (by decide) (Or.inl (ec_in (i := 577) (by decide +kernel) rfl)) (T := TX6) (N := 15) rfl (by decide) (by decide +kernel)
  · cases h2; exact ec_cS (bm_X9_isSwitch l) bw_X9_isSwitch bv_X9_isSwitch (by decide) (by decide) (Or.inr ⟨"TinStation", by decide +kernel⟩) (by decide +kernel)
  · cases h2; exact ec_cS (bm_X9_one l) bw_X9_one bv_X9_one (by decide) (by decide) (Or.inr ⟨"TinStation", by decide +kernel⟩) (by decide +kernel)
  · cases h2
def bx_X6_setOn : ex_K := (RX6, ec_fx fl_X6, ec_cx cl_X6, sl_X6, (fun ix => (be_X6_setOn ix).map (fun q => (q.1, q.2.1, ab_sp ab_hd q.2.2))), ec_nz, ec_no)
theorem bj_X6_setOn (l : Launch) : ex_ok l 1 21 bx_X6_setOn := ⟨ec_fok fo_X6, ec_cok co_X6, so_X6, bk_X6_setOn l, fun _ h => (by cases h), fun _ h => (by cases h), fun _ h => (by cases h), fun _ _ h => (by cases h)⟩
def bq_X6_setOn : List (ab_C × List ab_Q) := [(([.inl 21, .inr ((-2147483648), 2147483647), .inr ((-2147483648), 2147483647)], [], [(29, none)], [(some ((-2147483648), 2147483647, none), [], [])]), []),
  (([.inl 50, .inr ((-2147483648), 2147483647), .inr (0, 1)], [], [(58, none)], [(some ((-2147483648), 2147483647, none), [], [])]), [])]
def bc_X6_setOn : List ab_C := bq_X6_setOn.map (fun c => c.1)
def bi_X6_setOn : List (Nat × Instr × Nat) := [(0, .aload_n 0, 1), (1, .iload_n 1, 1), (2, .invokevirtual 77, 3), (5, .ifCond .eq 10, 3), (8, .iload_n 2, 1), (9, .invokestatic 88, 3), (12, .ifCond .ne 6, 3), (15, .ldc 74, 2), (17, .ireturn, 1), (18, .aload_n 0, 1), (19, .getfield 33, 3), (22, .iload_n 1, 1), (23, .baload, 1), (24, .invokestatic 91, 3), (27, .istore_n 3, 1), (28, .aload_n 0, 1), (29, .getfield 33, 3), (32, .iload_n 1, 1), (33, .iload_n 2, 1), (34, .iconst 1, 1), (35, .if_icmp .ne 7, 3), (38, .iconst 1, 1), (39, .goto 4, 3), (42, .iconst 0, 1), (43, .bastore, 1), (44, .iload_n 3, 1), (45, .ireturn, 1)]
theorem bd_X6_setOn : ∀ q ∈ bi_X6_setOn, decode cX6_setOn q.1 = .ok q.2 := by decide +kernel
theorem bz_X6_setOn : bq_X6_setOn.all (ab_ck ab_hd ab_xs ab_tr bx_X6_setOn be_X6_setOn bi_X6_setOn (some .int) 4 26) = true := by decide +kernel
theorem bm_X6_setOn (l : Launch) : ex_Met l yX6_setOn cX6_setOn 4 (some .int) 1 21 (ab_sp ab_hd bc_X6_setOn) := ab_met (by decide) (by decide) rfl (bj_X6_setOn l) bd_X6_setOn ab_hcm ab_xk bz_X6_setOn
theorem bw_X6_tellOf : ec_cw yX6_tellOf cX6_tellOf 3 (some .int) := ⟨ec_in (i := 604) (by decide +kernel) rfl, ec_in (i := 63) (by decide +kernel) rfl, by decide, by decide⟩
theorem bv_X6_tellOf : Cond.instanceMethod yX6_tellOf ∈ ec_tb ∧ Cond.selects yX6_tellOf.cls yX6_tellOf yX6_tellOf ∈ ec_tb := ⟨ec_in (i := 602) (by decide +kernel) rfl, ec_in (i := 603) (by decide +kernel) rfl⟩
def be_X6_tellOf : Nat → Option (Nat × Option Nat × List ab_C) := fun ix => match ix with
  | 77 => some (2, some 6, bc_X6_has)
  | 91 => some (1, none, bc_X9_one)
  | _ => none
theorem bk_X6_tellOf (l : Launch) : ∀ (ix n : Nat) (rc : Option Nat) (sp : ex_S), (be_X6_tellOf ix).map (fun q => (q.1, q.2.1, ab_sp ab_hd q.2.2)) = some (n, rc, sp) → ex_cok l RX6 1 21 ix n rc sp := by
  intro ix n rc sp h
  obtain ⟨l0, h2, rfl⟩ := ab_dmk h
  clear h
  unfold be_X6_tellOf at h2
  split at h2
  · cases h2; exact ec_cV (bm_X6_has l) bw_X6_has bv_X6_has (by decide) (by decide) (Or.inl (ec_in (i := 577) (by decide +kernel) rfl)) (T := TX6) (N := 15) rfl (by decide) (by decide +kernel)
  · cases h2; exact ec_cS (bm_X9_one l) bw_X9_one bv_X9_one (by decide) (by decide) (Or.inr ⟨"TinStation", by decide +kernel⟩) (by decide +kernel)
  · cases h2
def bx_X6_tellOf : ex_K := (RX6, ec_fx fl_X6, ec_cx cl_X6, sl_X6, (fun ix => (be_X6_tellOf ix).map (fun q => (q.1, q.2.1, ab_sp ab_hd q.2.2))), ec_nz, ec_no)
theorem bj_X6_tellOf (l : Launch) : ex_ok l 1 21 bx_X6_tellOf := ⟨ec_fok fo_X6, ec_cok co_X6, so_X6, bk_X6_tellOf l, fun _ h => (by cases h), fun _ h => (by cases h), fun _ h => (by cases h), fun _ _ h => (by cases h)⟩
def bq_X6_tellOf : List (ab_C × List ab_Q) := [(([.inl 21, .inr ((-2147483648), 2147483647), .inr ((-2147483648), 2147483647)], [], [], [(some ((-2147483648), 2147483647, none), [], [])]), [])]
def bc_X6_tellOf : List ab_C := bq_X6_tellOf.map (fun c => c.1)
def bi_X6_tellOf : List (Nat × Instr × Nat) := [(0, .aload_n 0, 1), (1, .iload_n 1, 1), (2, .invokevirtual 77, 3), (5, .ifCond .ne 6, 3), (8, .ldc 74, 2), (10, .ireturn, 1), (11, .iload_n 2, 1), (12, .tableswitch 124 0 8 #[52, 59, 66, 73, 80, 87, 97, 107, 117], 52), (64, .aload_n 0, 1), (65, .getfield 9, 3), (68, .iload_n 1, 1), (69, .iaload, 1), (70, .ireturn, 1), (71, .aload_n 0, 1), (72, .getfield 15, 3), (75, .iload_n 1, 1), (76, .iaload, 1), (77, .ireturn, 1), (78, .aload_n 0, 1), (79, .getfield 21, 3), (82, .iload_n 1, 1), (83, .iaload, 1), (84, .ireturn, 1), (85, .aload_n 0, 1), (86, .getfield 24, 3), (89, .iload_n 1, 1), (90, .iaload, 1), (91, .ireturn, 1), (92, .aload_n 0, 1), (93, .getfield 30, 3), (96, .iload_n 1, 1), (97, .iaload, 1), (98, .ireturn, 1), (99, .aload_n 0, 1), (100, .getfield 33, 3), (103, .iload_n 1, 1), (104, .baload, 1), (105, .invokestatic 91, 3), (108, .ireturn, 1), (109, .aload_n 0, 1), (110, .getfield 37, 3), (113, .iload_n 1, 1), (114, .baload, 1), (115, .invokestatic 91, 3), (118, .ireturn, 1), (119, .aload_n 0, 1), (120, .getfield 40, 3), (123, .iload_n 1, 1), (124, .baload, 1), (125, .invokestatic 91, 3), (128, .ireturn, 1), (129, .aload_n 0, 1), (130, .getfield 27, 3), (133, .iload_n 1, 1), (134, .iaload, 1), (135, .ireturn, 1), (136, .ldc 74, 2), (138, .ireturn, 1)]
theorem bd_X6_tellOf : ∀ q ∈ bi_X6_tellOf, decode cX6_tellOf q.1 = .ok q.2 := by decide +kernel
theorem bz_X6_tellOf : bq_X6_tellOf.all (ab_ck ab_hd ab_xs ab_tr bx_X6_tellOf be_X6_tellOf bi_X6_tellOf (some .int) 3 14) = true := by decide +kernel
theorem bm_X6_tellOf (l : Launch) : ex_Met l yX6_tellOf cX6_tellOf 3 (some .int) 1 21 (ab_sp ab_hd bc_X6_tellOf) := ab_met (by decide) (by decide) rfl (bj_X6_tellOf l) bd_X6_tellOf ab_hcm ab_xk bz_X6_tellOf
theorem bw_X6_setSpares : ec_cw yX6_setSpares cX6_setSpares 4 (some .int) := ⟨ec_in (i := 612) (by decide +kernel) rfl, ec_in (i := 63) (by decide +kernel) rfl, by decide, by decide⟩
theorem bv_X6_setSpares : Cond.instanceMethod yX6_setSpares ∈ ec_tb ∧ Cond.selects yX6_setSpares.cls yX6_setSpares yX6_setSpares ∈ ec_tb := ⟨ec_in (i := 610) (by decide +kernel) rfl, ec_in (i := 611) (by decide +kernel) rfl⟩
def be_X6_setSpares : Nat → Option (Nat × Option Nat × List ab_C) := fun ix => match ix with
  | 67 => some (1, none, bc_X6_isKind)
  | _ => none
theorem bk_X6_setSpares (l : Launch) : ∀ (ix n : Nat) (rc : Option Nat) (sp : ex_S), (be_X6_setSpares ix).map (fun q => (q.1, q.2.1, ab_sp ab_hd q.2.2)) = some (n, rc, sp) → ex_cok l RX6 1 20 ix n rc sp := by
  intro ix n rc sp h
  obtain ⟨l0, h2, rfl⟩ := ab_dmk h
  clear h
  unfold be_X6_setSpares at h2
  split at h2
  · cases h2; exact ec_cS (bm_X6_isKind l) bw_X6_isKind bv_X6_isKind (by decide) (by decide) (Or.inl (ec_in (i := 560) (by decide +kernel) rfl)) (by decide +kernel)
  · cases h2
def bx_X6_setSpares : ex_K := (RX6, ec_fx fl_X6, ec_cx cl_X6, sl_X6, (fun ix => (be_X6_setSpares ix).map (fun q => (q.1, q.2.1, ab_sp ab_hd q.2.2))), ec_nz, ec_no)
theorem bj_X6_setSpares (l : Launch) : ex_ok l 1 20 bx_X6_setSpares := ⟨ec_fok fo_X6, ec_cok co_X6, so_X6, bk_X6_setSpares l, fun _ h => (by cases h), fun _ h => (by cases h), fun _ h => (by cases h), fun _ _ h => (by cases h)⟩
def bq_X6_setSpares : List (ab_C × List ab_Q) := [(([.inl 21, .inr ((-2147483648), 2147483647), .inr ((-2147483648), 2147483647)], [], [(32, none)], [(some ((-2147483648), 2147483647, none), [], [])]), [])]
def bc_X6_setSpares : List ab_C := bq_X6_setSpares.map (fun c => c.1)
def bi_X6_setSpares : List (Nat × Instr × Nat) := [(0, .iload_n 1, 1), (1, .invokestatic 67, 3), (4, .ifCond .eq 14, 3), (7, .iload_n 2, 1), (8, .iconst (-1), 1), (9, .if_icmp .lt 9, 3), (12, .iload_n 2, 1), (13, .bipush 20, 2), (15, .if_icmp .le 6, 3), (18, .ldc 74, 2), (20, .ireturn, 1), (21, .aload_n 0, 1), (22, .getfield 43, 3), (25, .iload_n 1, 1), (26, .iaload, 1), (27, .istore_n 3, 1), (28, .iload_n 2, 1), (29, .iconst (-1), 1), (30, .if_icmp .eq 10, 3), (33, .aload_n 0, 1), (34, .getfield 43, 3), (37, .iload_n 1, 1), (38, .iload_n 2, 1), (39, .iastore, 1), (40, .iload_n 3, 1), (41, .ireturn, 1)]
theorem bd_X6_setSpares : ∀ q ∈ bi_X6_setSpares, decode cX6_setSpares q.1 = .ok q.2 := by decide +kernel
theorem bz_X6_setSpares : bq_X6_setSpares.all (ab_ck ab_hd ab_xs ab_tr bx_X6_setSpares be_X6_setSpares bi_X6_setSpares (some .int) 4 26) = true := by decide +kernel
theorem bm_X6_setSpares (l : Launch) : ex_Met l yX6_setSpares cX6_setSpares 4 (some .int) 1 20 (ab_sp ab_hd bc_X6_setSpares) := ab_met (by decide) (by decide) rfl (bj_X6_setSpares l) bd_X6_setSpares ab_hcm ab_xk bz_X6_setSpares
theorem bw_X6_setSun : ec_cw yX6_setSun cX6_setSun 3 (some .int) := ⟨ec_in (i := 668) (by decide +kernel) rfl, ec_in (i := 63) (by decide +kernel) rfl, by decide, by decide⟩
theorem bv_X6_setSun : Cond.instanceMethod yX6_setSun ∈ ec_tb ∧ Cond.selects yX6_setSun.cls yX6_setSun yX6_setSun ∈ ec_tb := ⟨ec_in (i := 666) (by decide +kernel) rfl, ec_in (i := 667) (by decide +kernel) rfl⟩
def bx_X6_setSun : ex_K := (RX6, ec_fx fl_X6, ec_cx cl_X6, sl_X6, (fun ix => (ec_no ix).map (fun (q : Nat × Option Nat × List ab_C) => (q.1, q.2.1, ab_sp ab_hd q.2.2))), al_X6, ec_no)
theorem bj_X6_setSun (l : Launch) : ex_ok l 1 21 bx_X6_setSun := ⟨ec_fok fo_X6, ec_cok co_X6, so_X6, fun _ _ _ _ h => (by cases h), am_X6 (by decide) (by decide), ax_X6, ao_X6, fun _ _ h => (by cases h)⟩
def bq_X6_setSun : List (ab_C × List ab_Q) := [(([.inl 21, .inr ((-2147483648), 2147483647), .inr ((-2147483648), 2147483647)], [], [(21, some 12), (21, some 13), (21, some 14)], [(some ((-2147483648), 2147483647, none), [], [])]), [])]
def bc_X6_setSun : List ab_C := bq_X6_setSun.map (fun c => c.1)
def bi_X6_setSun : List (Nat × Instr × Nat) := [(0, .iload_n 1, 1), (1, .ifCond .lt 21, 3), (4, .iload_n 1, 1), (5, .sipush 500, 3), (8, .if_icmp .gt 14, 3), (11, .iload_n 2, 1), (12, .ifCond .lt 10, 3), (15, .iload_n 2, 1), (16, .sipush 5000, 3), (19, .if_icmp .le 6, 3), (22, .ldc 74, 2), (24, .ireturn, 1), (25, .aload_n 0, 1), (26, .iload_n 1, 1), (27, .putfield 61, 3), (30, .aload_n 0, 1), (31, .iload_n 2, 1), (32, .putfield 46, 3), (35, .aload_n 0, 1), (36, .aload_n 0, 1), (37, .getfield 64, 3), (40, .aload_n 0, 1), (41, .getfield 46, 3), (44, .invokestatic 95, 3), (47, .putfield 64, 3), (50, .aload_n 0, 1), (51, .getfield 64, 3), (54, .ireturn, 1)]
theorem bd_X6_setSun : ∀ q ∈ bi_X6_setSun, decode cX6_setSun q.1 = .ok q.2 := by decide +kernel
theorem bz_X6_setSun : bq_X6_setSun.all (ab_ck ab_hd ab_xs ab_tr bx_X6_setSun ec_no bi_X6_setSun (some .int) 3 28) = true := by decide +kernel
theorem bm_X6_setSun (l : Launch) : ex_Met l yX6_setSun cX6_setSun 3 (some .int) 1 21 (ab_sp ab_hd bc_X6_setSun) := ab_met (by decide) (by decide) rfl (bj_X6_setSun l) bd_X6_setSun ab_hcm ab_xk bz_X6_setSun
theorem bw_X6_setBattery : ec_cw yX6_setBattery cX6_setBattery 3 (some .int) := ⟨ec_in (i := 679) (by decide +kernel) rfl, ec_in (i := 63) (by decide +kernel) rfl, by decide, by decide⟩
theorem bv_X6_setBattery : Cond.instanceMethod yX6_setBattery ∈ ec_tb ∧ Cond.selects yX6_setBattery.cls yX6_setBattery yX6_setBattery ∈ ec_tb := ⟨ec_in (i := 677) (by decide +kernel) rfl, ec_in (i := 678) (by decide +kernel) rfl⟩
def bx_X6_setBattery : ex_K := (RX6, ec_fx fl_X6, ec_cx cl_X6, sl_X6, (fun ix => (ec_no ix).map (fun (q : Nat × Option Nat × List ab_C) => (q.1, q.2.1, ab_sp ab_hd q.2.2))), ec_nz, ec_no)
theorem bj_X6_setBattery (l : Launch) : ex_ok l 0 0 bx_X6_setBattery := ⟨ec_fok fo_X6, ec_cok co_X6, so_X6, fun _ _ _ _ h => (by cases h), fun _ h => (by cases h), fun _ h => (by cases h), fun _ h => (by cases h), fun _ _ h => (by cases h)⟩
def bq_X6_setBattery : List (ab_C × List ab_Q) := [(([.inl 21, .inr ((-2147483648), 2147483647)], [], [(21, some 14)], [(some ((-2147483648), 2147483647, none), [], [])]), [])]
def bc_X6_setBattery : List ab_C := bq_X6_setBattery.map (fun c => c.1)
def bi_X6_setBattery : List (Nat × Instr × Nat) := [(0, .iload_n 1, 1), (1, .iconst (-1), 1), (2, .if_icmp .lt 11, 3), (5, .iload_n 1, 1), (6, .aload_n 0, 1), (7, .getfield 46, 3), (10, .if_icmp .le 6, 3), (13, .ldc 74, 2), (15, .ireturn, 1), (16, .aload_n 0, 1), (17, .getfield 64, 3), (20, .istore_n 2, 1), (21, .iload_n 1, 1), (22, .iconst (-1), 1), (23, .if_icmp .eq 8, 3), (26, .aload_n 0, 1), (27, .iload_n 1, 1), (28, .putfield 64, 3), (31, .iload_n 2, 1), (32, .ireturn, 1)]
theorem bd_X6_setBattery : ∀ q ∈ bi_X6_setBattery, decode cX6_setBattery q.1 = .ok q.2 := by decide +kernel
theorem bz_X6_setBattery : bq_X6_setBattery.all (ab_ck ab_hd ab_xs ab_tr bx_X6_setBattery ec_no bi_X6_setBattery (some .int) 3 20) = true := by decide +kernel
theorem bm_X6_setBattery (l : Launch) : ex_Met l yX6_setBattery cX6_setBattery 3 (some .int) 0 0 (ab_sp ab_hd bc_X6_setBattery) := ab_met (by decide) (by decide) rfl (bj_X6_setBattery l) bd_X6_setBattery ab_hcm ab_xk bz_X6_setBattery
theorem bw_X6_isReady : ec_cw yX6_isReady cX6_isReady 2 (some .boolean) := ⟨ec_in (i := 650) (by decide +kernel) rfl, ec_in (i := 63) (by decide +kernel) rfl, by decide, by decide⟩
theorem bv_X6_isReady : Cond.instanceMethod yX6_isReady ∈ ec_tb ∧ Cond.selects yX6_isReady.cls yX6_isReady yX6_isReady ∈ ec_tb := ⟨ec_in (i := 649) (by decide +kernel) rfl, ec_in (i := 3) (by decide +kernel) rfl⟩
def bx_X6_isReady : ex_K := (RX6, ec_fx fl_X6, ec_cx cl_X6, sl_X6, (fun ix => (ec_no ix).map (fun (q : Nat × Option Nat × List ab_C) => (q.1, q.2.1, ab_sp ab_hd q.2.2))), ec_nz, ec_no)
theorem bj_X6_isReady (l : Launch) : ex_ok l 0 0 bx_X6_isReady := ⟨ec_fok fo_X6, ec_cok co_X6, so_X6, fun _ _ _ _ h => (by cases h), fun _ h => (by cases h), fun _ h => (by cases h), fun _ h => (by cases h), fun _ _ h => (by cases h)⟩
def bq_X6_isReady : List (ab_C × List ab_Q) := [(([.inl 21, .inr (0, 9)], [], [], [(some (0, 0, none), [], []), (some (1, 1, none), [], [])]), []),
  (([.inl 50, .inr (0, 9)], [], [], [(some (0, 0, none), [], []), (some (1, 1, none), [], [])]), [])]
def bc_X6_isReady : List ab_C := bq_X6_isReady.map (fun c => c.1)
def bi_X6_isReady : List (Nat × Instr × Nat) := [(0, .aload_n 0, 1), (1, .getfield 33, 3), (4, .iload_n 1, 1), (5, .baload, 1), (6, .ifCond .eq 16, 3), (9, .aload_n 0, 1), (10, .getfield 37, 3), (13, .iload_n 1, 1), (14, .baload, 1), (15, .ifCond .ne 7, 3), (18, .iconst 1, 1), (19, .goto 4, 3), (22, .iconst 0, 1), (23, .ireturn, 1)]
theorem bd_X6_isReady : ∀ q ∈ bi_X6_isReady, decode cX6_isReady q.1 = .ok q.2 := by decide +kernel
theorem bz_X6_isReady : bq_X6_isReady.all (ab_ck ab_hd ab_xs ab_tr bx_X6_isReady ec_no bi_X6_isReady (some .boolean) 2 15) = true := by decide +kernel
theorem bm_X6_isReady (l : Launch) : ex_Met l yX6_isReady cX6_isReady 2 (some .boolean) 0 0 (ab_sp ab_hd bc_X6_isReady) := ab_met (by decide) (by decide) rfl (bj_X6_isReady l) bd_X6_isReady ab_hcm ab_xk bz_X6_isReady
theorem bw_X6_sharePower : ec_cw yX6_sharePower cX6_sharePower 5 none := ⟨ec_in (i := 764) (by decide +kernel) rfl, ec_in (i := 63) (by decide +kernel) rfl, by decide, by decide⟩
theorem bv_X6_sharePower : Cond.instanceMethod yX6_sharePower ∈ ec_tb ∧ Cond.selects yX6_sharePower.cls yX6_sharePower yX6_sharePower ∈ ec_tb := ⟨ec_in (i := 762) (by decide +kernel) rfl, ec_in (i := 763) (by decide +kernel) rfl⟩
def be_X6_sharePower : Nat → Option (Nat × Option Nat × List ab_C) := fun ix => match ix with
  | 101 => some (2, some 6, bc_X6_isReady)
  | _ => none
theorem bk_X6_sharePower (l : Launch) : ∀ (ix n : Nat) (rc : Option Nat) (sp : ex_S), (be_X6_sharePower ix).map (fun q => (q.1, q.2.1, ab_sp ab_hd q.2.2)) = some (n, rc, sp) → ex_cok l RX6 1 21 ix n rc sp := by
  intro ix n rc sp h
  obtain ⟨l0, h2, rfl⟩ := ab_dmk h
  clear h
  unfold be_X6_sharePower at h2
  split at h2
  · cases h2; exact ec_cV (bm_X6_isReady l) bw_X6_isReady bv_X6_isReady (by decide) (by decide) (Or.inl (ec_in (i := 647) (by decide +kernel) rfl)) (T := TX6) (N := 15) rfl (by decide) (by decide +kernel)
  · cases h2
def bx_X6_sharePower : ex_K := (RX6, ec_fx fl_X6, ec_cx cl_X6, sl_X6, (fun ix => (be_X6_sharePower ix).map (fun q => (q.1, q.2.1, ab_sp ab_hd q.2.2))), al_X6, ec_no)
theorem bj_X6_sharePower (l : Launch) : ex_ok l 1 21 bx_X6_sharePower := ⟨ec_fok fo_X6, ec_cok co_X6, so_X6, bk_X6_sharePower l, am_X6 (by decide) (by decide), ax_X6, ao_X6, fun _ _ h => (by cases h)⟩
def bq_X6_sharePower : List (ab_C × List ab_Q) := [(([.inl 21, .inr ((-2147483648), 2147483647)], [], [(21, some 14), (31, none)], [(none, [], [])]), [(36, [some (.inl 21), some (.inr (.inl ((-2147483648), 2147483647, none, none))), some (.inr (.inl (0, 1, none, none))), some (.inr (.inl ((-2147483648), 2147483647, none, none))), some (.inr (.inl (0, 10, none, none)))], [((1, 0, 7), 0, 24, some (1007, 0)), ((1, 76, 52), 0, 24, some (77052, 0))], 21, [0, 0, 0, 0, (-2)])]),
  (([.inl 50, .inr ((-2147483648), 2147483647)], [], [(50, some 14), (60, none)], [(none, [], [])]), [(36, [some (.inl 50), some (.inr (.inl ((-2147483648), 2147483647, none, none))), some (.inr (.inl (0, 1, none, none))), some (.inr (.inl ((-2147483648), 2147483647, none, none))), some (.inr (.inl (0, 10, none, none)))], [((1, 0, 7), 0, 24, some (1007, 0)), ((1, 76, 52), 0, 24, some (77052, 0))], 21, [0, 0, 0, 0, (-2)])])]
def bc_X6_sharePower : List ab_C := bq_X6_sharePower.map (fun c => c.1)
def bi_X6_sharePower : List (Nat × Instr × Nat) := [(0, .iload_n 1, 1), (1, .bipush 9, 2), (3, .irem, 1), (4, .bipush 6, 2), (6, .if_icmp .ge 7, 3), (9, .iconst 1, 1), (10, .goto 4, 3), (13, .iconst 0, 1), (14, .istore_n 2, 1), (15, .aload_n 0, 1), (16, .getfield 64, 3), (19, .iload_n 2, 1), (20, .ifCond .eq 10, 3), (23, .aload_n 0, 1), (24, .getfield 61, 3), (27, .goto 4, 3), (30, .iconst 0, 1), (31, .iadd, 1), (32, .istore_n 3, 1), (33, .iconst 0, 1), (34, .istore 4, 2), (36, .iload 4, 2), (38, .aload_n 0, 1), (39, .getfield 58, 3), (42, .if_icmp .ge 61, 3), (45, .aload_n 0, 1), (46, .getfield 40, 3), (49, .iload 4, 2), (51, .aload_n 0, 1), (52, .iload 4, 2), (54, .invokevirtual 101, 3), (57, .ifCond .eq 18, 3), (60, .iload_n 3, 1), (61, .aload_n 0, 1), (62, .getfield 21, 3), (65, .iload 4, 2), (67, .iaload, 1), (68, .if_icmp .lt 7, 3), (71, .iconst 1, 1), (72, .goto 4, 3), (75, .iconst 0, 1), (76, .bastore, 1), (77, .aload_n 0, 1), (78, .getfield 40, 3), (81, .iload 4, 2), (83, .baload, 1), (84, .ifCond .eq 13, 3), (87, .iload_n 3, 1), (88, .aload_n 0, 1), (89, .getfield 21, 3), (92, .iload 4, 2), (94, .iaload, 1), (95, .isub, 1), (96, .istore_n 3, 1), (97, .iinc 4 1, 3), (100, .goto (-64), 3), (103, .aload_n 0, 1), (104, .iload_n 3, 1), (105, .aload_n 0, 1), (106, .getfield 46, 3), (109, .invokestatic 95, 3), (112, .putfield 64, 3), (115, .return_, 1)]
theorem bd_X6_sharePower : ∀ q ∈ bi_X6_sharePower, decode cX6_sharePower q.1 = .ok q.2 := by decide +kernel
theorem bz_X6_sharePower : bq_X6_sharePower.all (ab_ck ab_hd ab_xs ab_tr bx_X6_sharePower be_X6_sharePower bi_X6_sharePower none 5 36) = true := by decide +kernel
theorem bm_X6_sharePower (l : Launch) : ex_Met l yX6_sharePower cX6_sharePower 5 none 1 21 (ab_sp ab_hd bc_X6_sharePower) := ab_met (by decide) (by decide) rfl (bj_X6_sharePower l) bd_X6_sharePower ab_hcm ab_xk bz_X6_sharePower
theorem bw_X6_split : ec_cw yX6_split cX6_split 5 none := ⟨ec_in (i := 785) (by decide +kernel) rfl, ec_in (i := 63) (by decide +kernel) rfl, by decide, by decide⟩
theorem bv_X6_split : Cond.instanceMethod yX6_split ∈ ec_tb ∧ Cond.selects yX6_split.cls yX6_split yX6_split ∈ ec_tb := ⟨ec_in (i := 784) (by decide +kernel) rfl, ec_in (i := 12) (by decide +kernel) rfl⟩
def be_X6_split : Nat → Option (Nat × Option Nat × List ab_C) := fun ix => match ix with
  | 128 => some (3, some 0, bc_X0_draw)
  | 108 => some (4, some 0, bc_X0_give)
  | 118 => some (3, some 0, bc_X0_fill)
  | _ => none
theorem bk_X6_split (l : Launch) : ∀ (ix n : Nat) (rc : Option Nat) (sp : ex_S), (be_X6_split ix).map (fun q => (q.1, q.2.1, ab_sp ab_hd q.2.2)) = some (n, rc, sp) → ex_cok l RX6 2 44 ix n rc sp := by
  intro ix n rc sp h
  obtain ⟨l0, h2, rfl⟩ := ab_dmk h
  clear h
  unfold be_X6_split at h2
  split at h2
  · cases h2; exact ec_cV (bm_X0_draw l) bw_X0_draw bv_X0_draw (by decide) (by decide) (Or.inl (ec_in (i := 786) (by decide +kernel) rfl)) (T := TX0) (N := 8) rfl (by decide) (by decide +kernel)
  · cases h2; exact ec_cV (bm_X0_give l) bw_X0_give bv_X0_give (by decide) (by decide) (Or.inl (ec_in (i := 790) (by decide +kernel) rfl)) (T := TX0) (N := 8) rfl (by decide) (by decide +kernel)
  · cases h2; exact ec_cV (bm_X0_fill l) bw_X0_fill bv_X0_fill (by decide) (by decide) (Or.inl (ec_in (i := 778) (by decide +kernel) rfl)) (T := TX0) (N := 8) rfl (by decide) (by decide +kernel)
  · cases h2
def bx_X6_split : ex_K := (RX6, ec_fx fl_X6, ec_cx cl_X6, sl_X6, (fun ix => (be_X6_split ix).map (fun q => (q.1, q.2.1, ab_sp ab_hd q.2.2))), ec_nz, ec_no)
theorem bj_X6_split (l : Launch) : ex_ok l 2 44 bx_X6_split := ⟨ec_fok fo_X6, ec_cok co_X6, so_X6, bk_X6_split l, fun _ h => (by cases h), fun _ h => (by cases h), fun _ h => (by cases h), fun _ _ h => (by cases h)⟩
def bq_X6_split : List (ab_C × List ab_Q) := [(([.inl 21, .inr (0, 9), .inl 7], [], [(8, none), (13, none)], [(none, [], [])]), []),
  (([.inl 50, .inr (0, 9), .inl 36], [], [(37, none), (42, none)], [(none, [], [])]), [])]
def bc_X6_split : List ab_C := bq_X6_split.map (fun c => c.1)
def bi_X6_split : List (Nat × Instr × Nat) := [(0, .aload_n 2, 1), (1, .iconst 0, 1), (2, .aload_n 0, 1), (3, .getfield 18, 3), (6, .iload_n 1, 1), (7, .iaload, 1), (8, .invokevirtual 128, 3), (11, .istore_n 3, 1), (12, .iload_n 3, 1), (13, .bipush 8, 2), (15, .imul, 1), (16, .bipush 9, 2), (18, .idiv, 1), (19, .istore 4, 2), (21, .aload_n 2, 1), (22, .aload_n 0, 1), (23, .getfield 15, 3), (26, .iload_n 1, 1), (27, .iaload, 1), (28, .iconst 0, 1), (29, .iload 4, 2), (31, .invokevirtual 108, 3), (34, .aload_n 2, 1), (35, .iconst 4, 1), (36, .iload_n 3, 1), (37, .iload 4, 2), (39, .isub, 1), (40, .invokevirtual 118, 3), (43, .return_, 1)]
theorem bd_X6_split : ∀ q ∈ bi_X6_split, decode cX6_split q.1 = .ok q.2 := by decide +kernel
theorem bz_X6_split : bq_X6_split.all (ab_ck ab_hd ab_xs ab_tr bx_X6_split be_X6_split bi_X6_split none 5 31) = true := by decide +kernel
theorem bm_X6_split (l : Launch) : ex_Met l yX6_split cX6_split 5 none 2 44 (ab_sp ab_hd bc_X6_split) := ab_met (by decide) (by decide) rfl (bj_X6_split l) bd_X6_split ab_hcm ab_xk bz_X6_split
theorem bw_X6_distil : ec_cw yX6_distil cX6_distil 5 none := ⟨ec_in (i := 797) (by decide +kernel) rfl, ec_in (i := 63) (by decide +kernel) rfl, by decide, by decide⟩
theorem bv_X6_distil : Cond.instanceMethod yX6_distil ∈ ec_tb ∧ Cond.selects yX6_distil.cls yX6_distil yX6_distil ∈ ec_tb := ⟨ec_in (i := 796) (by decide +kernel) rfl, ec_in (i := 13) (by decide +kernel) rfl⟩
def be_X6_distil : Nat → Option (Nat × Option Nat × List ab_C) := fun ix => match ix with
  | 128 => some (3, some 0, bc_X0_draw)
  | 118 => some (3, some 0, bc_X0_fill)
  | _ => none
theorem bk_X6_distil (l : Launch) : ∀ (ix n : Nat) (rc : Option Nat) (sp : ex_S), (be_X6_distil ix).map (fun q => (q.1, q.2.1, ab_sp ab_hd q.2.2)) = some (n, rc, sp) → ex_cok l RX6 2 44 ix n rc sp := by
  intro ix n rc sp h
  obtain ⟨l0, h2, rfl⟩ := ab_dmk h
  clear h
  unfold be_X6_distil at h2
  split at h2
  · cases h2; exact ec_cV (bm_X0_draw l) bw_X0_draw bv_X0_draw (by decide) (by decide) (Or.inl (ec_in (i := 786) (by decide +kernel) rfl)) (T := TX0) (N := 8) rfl (by decide) (by decide +kernel)
  · cases h2; exact ec_cV (bm_X0_fill l) bw_X0_fill bv_X0_fill (by decide) (by decide) (Or.inl (ec_in (i := 778) (by decide +kernel) rfl)) (T := TX0) (N := 8) rfl (by decide) (by decide +kernel)
  · cases h2
def bx_X6_distil : ex_K := (RX6, ec_fx fl_X6, ec_cx cl_X6, sl_X6, (fun ix => (be_X6_distil ix).map (fun q => (q.1, q.2.1, ab_sp ab_hd q.2.2))), ec_nz, ec_no)
theorem bj_X6_distil (l : Launch) : ex_ok l 2 44 bx_X6_distil := ⟨ec_fok fo_X6, ec_cok co_X6, so_X6, bk_X6_distil l, fun _ h => (by cases h), fun _ h => (by cases h), fun _ h => (by cases h), fun _ _ h => (by cases h)⟩
def bq_X6_distil : List (ab_C × List ab_Q) := [(([.inl 21, .inr (0, 9), .inl 7], [], [(13, none)], [(none, [], [])]), []),
  (([.inl 50, .inr (0, 9), .inl 36], [], [(42, none)], [(none, [], [])]), [])]
def bc_X6_distil : List ab_C := bq_X6_distil.map (fun c => c.1)
def bi_X6_distil : List (Nat × Instr × Nat) := [(0, .aload_n 2, 1), (1, .iconst 1, 1), (2, .aload_n 0, 1), (3, .getfield 18, 3), (6, .iload_n 1, 1), (7, .iaload, 1), (8, .invokevirtual 128, 3), (11, .istore_n 3, 1), (12, .iload_n 3, 1), (13, .iconst 3, 1), (14, .imul, 1), (15, .iconst 4, 1), (16, .idiv, 1), (17, .istore 4, 2), (19, .aload_n 2, 1), (20, .iconst 0, 1), (21, .iload 4, 2), (23, .invokevirtual 118, 3), (26, .aload_n 2, 1), (27, .iconst 2, 1), (28, .iload_n 3, 1), (29, .iload 4, 2), (31, .isub, 1), (32, .invokevirtual 118, 3), (35, .return_, 1)]
theorem bd_X6_distil : ∀ q ∈ bi_X6_distil, decode cX6_distil q.1 = .ok q.2 := by decide +kernel
theorem bz_X6_distil : bq_X6_distil.all (ab_ck ab_hd ab_xs ab_tr bx_X6_distil be_X6_distil bi_X6_distil none 5 27) = true := by decide +kernel
theorem bm_X6_distil (l : Launch) : ex_Met l yX6_distil cX6_distil 5 none 2 44 (ab_sp ab_hd bc_X6_distil) := ab_met (by decide) (by decide) rfl (bj_X6_distil l) bd_X6_distil ab_hcm ab_xk bz_X6_distil
theorem bw_X6_work : ec_cw yX6_work cX6_work 3 none := ⟨ec_in (i := 772) (by decide +kernel) rfl, ec_in (i := 63) (by decide +kernel) rfl, by decide, by decide⟩
theorem bv_X6_work : Cond.instanceMethod yX6_work ∈ ec_tb ∧ Cond.selects yX6_work.cls yX6_work yX6_work ∈ ec_tb := ⟨ec_in (i := 771) (by decide +kernel) rfl, ec_in (i := 11) (by decide +kernel) rfl⟩
def be_X6_work : Nat → Option (Nat × Option Nat × List ab_C) := fun ix => match ix with
  | 114 => some (4, some 0, bc_X0_take)
  | 118 => some (3, some 0, bc_X0_fill)
  | 122 => some (3, some 6, bc_X6_split)
  | 125 => some (3, some 6, bc_X6_distil)
  | _ => none
theorem bk_X6_work (l : Launch) : ∀ (ix n : Nat) (rc : Option Nat) (sp : ex_S), (be_X6_work ix).map (fun q => (q.1, q.2.1, ab_sp ab_hd q.2.2)) = some (n, rc, sp) → ex_cok l RX6 3 68 ix n rc sp := by
  intro ix n rc sp h
  obtain ⟨l0, h2, rfl⟩ := ab_dmk h
  clear h
  unfold be_X6_work at h2
  split at h2
  · cases h2; exact ec_cV (bm_X0_take l) bw_X0_take bv_X0_take (by decide) (by decide) (Or.inl (ec_in (i := 773) (by decide +kernel) rfl)) (T := TX0) (N := 8) rfl (by decide) (by decide +kernel)
  · cases h2; exact ec_cV (bm_X0_fill l) bw_X0_fill bv_X0_fill (by decide) (by decide) (Or.inl (ec_in (i := 778) (by decide +kernel) rfl)) (T := TX0) (N := 8) rfl (by decide) (by decide +kernel)
  · cases h2; exact ec_cV (bm_X6_split l) bw_X6_split bv_X6_split (by decide) (by decide) (Or.inl (ec_in (i := 782) (by decide +kernel) rfl)) (T := TX6) (N := 15) rfl (by decide) (by decide +kernel)
  · cases h2; exact ec_cV (bm_X6_distil l) bw_X6_distil bv_X6_distil (by decide) (by decide) (Or.inl (ec_in (i := 794) (by decide +kernel) rfl)) (T := TX6) (N := 15) rfl (by decide) (by decide +kernel)
  · cases h2
def bx_X6_work : ex_K := (RX6, ec_fx fl_X6, ec_cx cl_X6, sl_X6, (fun ix => (be_X6_work ix).map (fun q => (q.1, q.2.1, ab_sp ab_hd q.2.2))), ec_nz, ec_no)
theorem bj_X6_work (l : Launch) : ex_ok l 3 68 bx_X6_work := ⟨ec_fok fo_X6, ec_cok co_X6, so_X6, bk_X6_work l, fun _ h => (by cases h), fun _ h => (by cases h), fun _ h => (by cases h), fun _ _ h => (by cases h)⟩
def bq_X6_work : List (ab_C × List ab_Q) := [(([.inl 21, .inr (0, 9), .inl 7], [], [(8, none), (13, none)], [(none, [], [])]), []),
  (([.inl 50, .inr (0, 9), .inl 36], [], [(37, none), (42, none)], [(none, [], [])]), [])]
def bc_X6_work : List ab_C := bq_X6_work.map (fun c => c.1)
def bi_X6_work : List (Nat × Instr × Nat) := [(0, .aload_n 0, 1), (1, .getfield 9, 3), (4, .iload_n 1, 1), (5, .iaload, 1), (6, .tableswitch 130 1 5 #[34, 59, 68, 93, 102], 34), (40, .aload_n 2, 1), (41, .iconst 3, 1), (42, .aload_n 2, 1), (43, .aload_n 0, 1), (44, .getfield 15, 3), (47, .iload_n 1, 1), (48, .iaload, 1), (49, .iconst 1, 1), (50, .aload_n 0, 1), (51, .getfield 18, 3), (54, .iload_n 1, 1), (55, .iaload, 1), (56, .invokevirtual 114, 3), (59, .invokevirtual 118, 3), (62, .goto 74, 3), (65, .aload_n 0, 1), (66, .iload_n 1, 1), (67, .aload_n 2, 1), (68, .invokevirtual 122, 3), (71, .goto 65, 3), (74, .aload_n 2, 1), (75, .iconst 0, 1), (76, .aload_n 2, 1), (77, .aload_n 0, 1), (78, .getfield 15, 3), (81, .iload_n 1, 1), (82, .iaload, 1), (83, .iconst 2, 1), (84, .aload_n 0, 1), (85, .getfield 18, 3), (88, .iload_n 1, 1), (89, .iaload, 1), (90, .invokevirtual 114, 3), (93, .invokevirtual 118, 3), (96, .goto 40, 3), (99, .aload_n 0, 1), (100, .iload_n 1, 1), (101, .aload_n 2, 1), (102, .invokevirtual 125, 3), (105, .goto 31, 3), (108, .aload_n 2, 1), (109, .iconst 5, 1), (110, .aload_n 2, 1), (111, .aload_n 0, 1), (112, .getfield 15, 3), (115, .iload_n 1, 1), (116, .iaload, 1), (117, .iconst 4, 1), (118, .bipush 10, 2), (120, .aload_n 0, 1), (121, .getfield 18, 3), (124, .iload_n 1, 1), (125, .iaload, 1), (126, .imul, 1), (127, .invokevirtual 114, 3), (130, .invokevirtual 118, 3), (133, .goto 3, 3), (136, .return_, 1)]
theorem bd_X6_work : ∀ q ∈ bi_X6_work, decode cX6_work q.1 = .ok q.2 := by decide +kernel
theorem bz_X6_work : bq_X6_work.all (ab_ck ab_hd ab_xs ab_tr bx_X6_work be_X6_work bi_X6_work none 3 25) = true := by decide +kernel
theorem bm_X6_work (l : Launch) : ex_Met l yX6_work cX6_work 3 none 3 68 (ab_sp ab_hd bc_X6_work) := ab_met (by decide) (by decide) rfl (bj_X6_work l) bd_X6_work ab_hcm ab_xk bz_X6_work
theorem bw_X6_workAll : ec_cw yX6_workAll cX6_workAll 3 none := ⟨ec_in (i := 768) (by decide +kernel) rfl, ec_in (i := 63) (by decide +kernel) rfl, by decide, by decide⟩
theorem bv_X6_workAll : Cond.instanceMethod yX6_workAll ∈ ec_tb ∧ Cond.selects yX6_workAll.cls yX6_workAll yX6_workAll ∈ ec_tb := ⟨ec_in (i := 766) (by decide +kernel) rfl, ec_in (i := 767) (by decide +kernel) rfl⟩
def be_X6_workAll : Nat → Option (Nat × Option Nat × List ab_C) := fun ix => match ix with
  | 104 => some (3, some 6, bc_X6_work)
  | 108 => some (4, some 0, bc_X0_give)
  | _ => none
theorem bk_X6_workAll (l : Launch) : ∀ (ix n : Nat) (rc : Option Nat) (sp : ex_S), (be_X6_workAll ix).map (fun q => (q.1, q.2.1, ab_sp ab_hd q.2.2)) = some (n, rc, sp) → ex_cok l RX6 4 90 ix n rc sp := by
  intro ix n rc sp h
  obtain ⟨l0, h2, rfl⟩ := ab_dmk h
  clear h
  unfold be_X6_workAll at h2
  split at h2
  · cases h2; exact ec_cV (bm_X6_work l) bw_X6_work bv_X6_work (by decide) (by decide) (Or.inl (ec_in (i := 769) (by decide +kernel) rfl)) (T := TX6) (N := 15) rfl (by decide) (by decide +kernel)
  · cases h2; exact ec_cV (bm_X0_give l) bw_X0_give bv_X0_give (by decide) (by decide) (Or.inl (ec_in (i := 790) (by decide +kernel) rfl)) (T := TX0) (N := 8) rfl (by decide) (by decide +kernel)
  · cases h2
def bx_X6_workAll : ex_K := (RX6, ec_fx fl_X6, ec_cx cl_X6, sl_X6, (fun ix => (be_X6_workAll ix).map (fun q => (q.1, q.2.1, ab_sp ab_hd q.2.2))), ec_nz, ec_no)
theorem bj_X6_workAll (l : Launch) : ex_ok l 4 90 bx_X6_workAll := ⟨ec_fok fo_X6, ec_cok co_X6, so_X6, bk_X6_workAll l, fun _ h => (by cases h), fun _ h => (by cases h), fun _ h => (by cases h), fun _ _ h => (by cases h)⟩
def bq_X6_workAll : List (ab_C × List ab_Q) := [(([.inl 21, .inl 7], [], [(8, none), (13, none), (28, none), (30, none)], [(none, [], [])]), [(2, [some (.inl 21), some (.inl 7), some (.inr (.inl (0, 10, none, none)))], [((1, 0, 7), 0, 24, some (1007, 0)), ((1, 76, 52), 0, 24, some (77052, 0))], 21, [0, 0, (-2)])]),
  (([.inl 50, .inl 36], [], [(37, none), (42, none), (57, none), (59, none)], [(none, [], [])]), [(2, [some (.inl 50), some (.inl 36), some (.inr (.inl (0, 10, none, none)))], [((1, 0, 7), 0, 24, some (1007, 0)), ((1, 76, 52), 0, 24, some (77052, 0))], 21, [0, 0, (-2)])])]
def bc_X6_workAll : List ab_C := bq_X6_workAll.map (fun c => c.1)
def bi_X6_workAll : List (Nat × Instr × Nat) := [(0, .iconst 0, 1), (1, .istore_n 2, 1), (2, .iload_n 2, 1), (3, .aload_n 0, 1), (4, .getfield 58, 3), (7, .if_icmp .ge 72, 3), (10, .aload_n 0, 1), (11, .getfield 40, 3), (14, .iload_n 2, 1), (15, .baload, 1), (16, .ifCond .eq 57, 3), (19, .aload_n 0, 1), (20, .iload_n 2, 1), (21, .aload_n 1, 1), (22, .invokevirtual 104, 3), (25, .aload_n 0, 1), (26, .getfield 30, 3), (29, .iload_n 2, 1), (30, .dup2, 1), (31, .iaload, 1), (32, .iconst 1, 1), (33, .iadd, 1), (34, .iastore, 1), (35, .aload_n 1, 1), (36, .aload_n 0, 1), (37, .getfield 15, 3), (40, .iload_n 2, 1), (41, .iaload, 1), (42, .iconst 4, 1), (43, .iconst 2, 1), (44, .invokevirtual 108, 3), (47, .aload_n 0, 1), (48, .getfield 37, 3), (51, .iload_n 2, 1), (52, .aload_n 0, 1), (53, .getfield 30, 3), (56, .iload_n 2, 1), (57, .iaload, 1), (58, .aload_n 0, 1), (59, .getfield 27, 3), (62, .iload_n 2, 1), (63, .iaload, 1), (64, .if_icmp .lt 7, 3), (67, .iconst 1, 1), (68, .goto 4, 3), (71, .iconst 0, 1), (72, .bastore, 1), (73, .iinc 2 1, 3), (76, .goto (-74), 3), (79, .return_, 1)]
theorem bd_X6_workAll : ∀ q ∈ bi_X6_workAll, decode cX6_workAll q.1 = .ok q.2 := by decide +kernel
theorem bz_X6_workAll : bq_X6_workAll.all (ab_ck ab_hd ab_xs ab_tr bx_X6_workAll be_X6_workAll bi_X6_workAll none 3 48) = true := by decide +kernel
theorem bm_X6_workAll (l : Launch) : ex_Met l yX6_workAll cX6_workAll 3 none 4 90 (ab_sp ab_hd bc_X6_workAll) := ab_met (by decide) (by decide) rfl (bj_X6_workAll l) bd_X6_workAll ab_hcm ab_xk bz_X6_workAll
theorem bw_X6_readySet : ec_cw yX6_readySet cX6_readySet 3 (some .int) := ⟨ec_in (i := 646) (by decide +kernel) rfl, ec_in (i := 63) (by decide +kernel) rfl, by decide, by decide⟩
theorem bv_X6_readySet : Cond.instanceMethod yX6_readySet ∈ ec_tb ∧ Cond.selects yX6_readySet.cls yX6_readySet yX6_readySet ∈ ec_tb := ⟨ec_in (i := 645) (by decide +kernel) rfl, ec_in (i := 2) (by decide +kernel) rfl⟩
def be_X6_readySet : Nat → Option (Nat × Option Nat × List ab_C) := fun ix => match ix with
  | 101 => some (2, some 6, bc_X6_isReady)
  | _ => none
theorem bk_X6_readySet (l : Launch) : ∀ (ix n : Nat) (rc : Option Nat) (sp : ex_S), (be_X6_readySet ix).map (fun q => (q.1, q.2.1, ab_sp ab_hd q.2.2)) = some (n, rc, sp) → ex_cok l RX6 1 21 ix n rc sp := by
  intro ix n rc sp h
  obtain ⟨l0, h2, rfl⟩ := ab_dmk h
  clear h
  unfold be_X6_readySet at h2
  split at h2
  · cases h2; exact ec_cV (bm_X6_isReady l) bw_X6_isReady bv_X6_isReady (by decide) (by decide) (Or.inl (ec_in (i := 647) (by decide +kernel) rfl)) (T := TX6) (N := 15) rfl (by decide) (by decide +kernel)
  · cases h2
def bx_X6_readySet : ex_K := (RX6, ec_fx fl_X6, ec_cx cl_X6, sl_X6, (fun ix => (be_X6_readySet ix).map (fun q => (q.1, q.2.1, ab_sp ab_hd q.2.2))), ec_nz, ec_no)
theorem bj_X6_readySet (l : Launch) : ex_ok l 1 21 bx_X6_readySet := ⟨ec_fok fo_X6, ec_cok co_X6, so_X6, bk_X6_readySet l, fun _ h => (by cases h), fun _ h => (by cases h), fun _ h => (by cases h), fun _ _ h => (by cases h)⟩
def bq_X6_readySet : List (ab_C × List ab_Q) := [(([.inl 21], [], [], [(some ((-2147483648), 2147483647, none), [], [])]), [(4, [some (.inl 21), some (.inr (.inl ((-2147483648), 2147483647, none, none))), some (.inr (.inl (0, 10, none, none)))], [((1, 0, 7), 0, 24, some (1007, 0)), ((1, 76, 52), 0, 24, some (77052, 0))], 21, [0, 0, (-2)])])]
def bc_X6_readySet : List ab_C := bq_X6_readySet.map (fun c => c.1)
def bi_X6_readySet : List (Nat × Instr × Nat) := [(0, .iconst 0, 1), (1, .istore_n 1, 1), (2, .iconst 0, 1), (3, .istore_n 2, 1), (4, .iload_n 2, 1), (5, .aload_n 0, 1), (6, .getfield 58, 3), (9, .if_icmp .ge 23, 3), (12, .aload_n 0, 1), (13, .iload_n 2, 1), (14, .invokevirtual 101, 3), (17, .ifCond .eq 9, 3), (20, .iload_n 1, 1), (21, .iconst 1, 1), (22, .iload_n 2, 1), (23, .ishl, 1), (24, .ior, 1), (25, .istore_n 1, 1), (26, .iinc 2 1, 3), (29, .goto (-25), 3), (32, .iload_n 1, 1), (33, .ireturn, 1)]
theorem bd_X6_readySet : ∀ q ∈ bi_X6_readySet, decode cX6_readySet q.1 = .ok q.2 := by decide +kernel
theorem bz_X6_readySet : bq_X6_readySet.all (ab_ck ab_hd ab_xs ab_tr bx_X6_readySet be_X6_readySet bi_X6_readySet (some .int) 3 18) = true := by decide +kernel
theorem bm_X6_readySet (l : Launch) : ex_Met l yX6_readySet cX6_readySet 3 (some .int) 1 21 (ab_sp ab_hd bc_X6_readySet) := ab_met (by decide) (by decide) rfl (bj_X6_readySet l) bd_X6_readySet ab_hcm ab_xk bz_X6_readySet
theorem bw_X6_sumOver : ec_cw yX6_sumOver cX6_sumOver 5 (some .int) := ⟨ec_in (i := 654) (by decide +kernel) rfl, ec_in (i := 63) (by decide +kernel) rfl, by decide, by decide⟩
theorem bv_X6_sumOver : Cond.instanceMethod yX6_sumOver ∈ ec_tb ∧ Cond.selects yX6_sumOver.cls yX6_sumOver yX6_sumOver ∈ ec_tb := ⟨ec_in (i := 653) (by decide +kernel) rfl, ec_in (i := 4) (by decide +kernel) rfl⟩
def bx_X6_sumOver : ex_K := (RX6, ec_fx fl_X6, ec_cx cl_X6, sl_X6, (fun ix => (ec_no ix).map (fun (q : Nat × Option Nat × List ab_C) => (q.1, q.2.1, ab_sp ab_hd q.2.2))), ec_nz, ec_no)
theorem bj_X6_sumOver (l : Launch) : ex_ok l 0 0 bx_X6_sumOver := ⟨ec_fok fo_X6, ec_cok co_X6, so_X6, fun _ _ _ _ h => (by cases h), fun _ h => (by cases h), fun _ h => (by cases h), fun _ h => (by cases h), fun _ _ h => (by cases h)⟩
def bq_X6_sumOver : List (ab_C × List ab_Q) := [(([.inl 21, .inr ((-2147483648), 2147483647), .inl 26], [], [], [(some ((-2147483648), 2147483647, none), [], [])]), [(5, [some (.inl 21), some (.inr (.inl ((-2147483648), 2147483647, none, none))), some (.inl 26), some (.inr (.inl ((-2147483648), 2147483647, none, none))), some (.inr (.inl (0, 10, none, none)))], [((1, 0, 7), 0, 24, some (1007, 0)), ((1, 76, 52), 0, 24, some (77052, 0))], 21, [0, 0, 0, 0, (-2)])]),
  (([.inl 21, .inr ((-2147483648), 2147483647), .inl 25], [], [], [(some ((-2147483648), 2147483647, none), [], [])]), [(5, [some (.inl 21), some (.inr (.inl ((-2147483648), 2147483647, none, none))), some (.inl 25), some (.inr (.inl ((-2147483648), 2147483647, none, none))), some (.inr (.inl (0, 10, none, none)))], [((1, 0, 7), 0, 24, some (1007, 0)), ((1, 76, 52), 0, 24, some (77052, 0))], 21, [0, 0, 0, 0, (-2)])])]
def bc_X6_sumOver : List ab_C := bq_X6_sumOver.map (fun c => c.1)
def bi_X6_sumOver : List (Nat × Instr × Nat) := [(0, .iconst 0, 1), (1, .istore_n 3, 1), (2, .iconst 0, 1), (3, .istore 4, 2), (5, .iload 4, 2), (7, .aload_n 0, 1), (8, .getfield 58, 3), (11, .if_icmp .ge 26, 3), (14, .iload_n 1, 1), (15, .iload 4, 2), (17, .ishr, 1), (18, .iconst 1, 1), (19, .iand, 1), (20, .iconst 1, 1), (21, .if_icmp .ne 10, 3), (24, .iload_n 3, 1), (25, .aload_n 2, 1), (26, .iload 4, 2), (28, .iaload, 1), (29, .iadd, 1), (30, .istore_n 3, 1), (31, .iinc 4 1, 3), (34, .goto (-29), 3), (37, .iload_n 3, 1), (38, .ireturn, 1)]
theorem bd_X6_sumOver : ∀ q ∈ bi_X6_sumOver, decode cX6_sumOver q.1 = .ok q.2 := by decide +kernel
theorem bz_X6_sumOver : bq_X6_sumOver.all (ab_ck ab_hd ab_xs ab_tr bx_X6_sumOver ec_no bi_X6_sumOver (some .int) 5 21) = true := by decide +kernel
theorem bm_X6_sumOver (l : Launch) : ex_Met l yX6_sumOver cX6_sumOver 5 (some .int) 0 0 (ab_sp ab_hd bc_X6_sumOver) := ab_met (by decide) (by decide) rfl (bj_X6_sumOver l) bd_X6_sumOver ab_hcm ab_xk bz_X6_sumOver
theorem bw_X6_leastHarm : ec_cw yX6_leastHarm cX6_leastHarm 8 (some .int) := ⟨ec_in (i := 642) (by decide +kernel) rfl, ec_in (i := 63) (by decide +kernel) rfl, by decide, by decide⟩
theorem bv_X6_leastHarm : Cond.instanceMethod yX6_leastHarm ∈ ec_tb ∧ Cond.selects yX6_leastHarm.cls yX6_leastHarm yX6_leastHarm ∈ ec_tb := ⟨ec_in (i := 641) (by decide +kernel) rfl, ec_in (i := 1) (by decide +kernel) rfl⟩
def be_X6_leastHarm : Nat → Option (Nat × Option Nat × List ab_C) := fun ix => match ix with
  | 139 => some (1, some 6, bc_X6_readySet)
  | 135 => some (3, some 6, bc_X6_sumOver)
  | 143 => some (1, none, bc_J6_bitCount_0f7a4)
  | _ => none
theorem bk_X6_leastHarm (l : Launch) : ∀ (ix n : Nat) (rc : Option Nat) (sp : ex_S), (be_X6_leastHarm ix).map (fun q => (q.1, q.2.1, ab_sp ab_hd q.2.2)) = some (n, rc, sp) → ex_cok l RX6 2 43 ix n rc sp := by
  intro ix n rc sp h
  obtain ⟨l0, h2, rfl⟩ := ab_dmk h
  clear h
  unfold be_X6_leastHarm at h2
  split at h2
  · cases h2; exact ec_cV (bm_X6_readySet l) bw_X6_readySet bv_X6_readySet (by decide) (by decide) (Or.inl (ec_in (i := 643) (by decide +kernel) rfl)) (T := TX6) (N := 15) rfl (by decide) (by decide +kernel)
  · cases h2; exact ec_cV (bm_X6_sumOver l) bw_X6_sumOver bv_X6_sumOver (by decide) (by decide) (Or.inl (ec_in (i := 651) (by decide +kernel) rfl)) (T := TX6) (N := 15) rfl (by decide) (by decide +kernel)
  · cases h2; exact ec_cS (bm_J6_bitCount_0f7a4 l) bw_J6_bitCount_0f7a4 bv_J6_bitCount_0f7a4 (by decide) (by decide) (Or.inl (ec_in (i := 655) (by decide +kernel) rfl)) (by decide +kernel)
  · cases h2
def bx_X6_leastHarm : ex_K := (RX6, ec_fx fl_X6, ec_cx cl_X6, sl_X6, (fun ix => (be_X6_leastHarm ix).map (fun q => (q.1, q.2.1, ab_sp ab_hd q.2.2))), ec_nz, ec_no)
theorem bj_X6_leastHarm (l : Launch) : ex_ok l 2 43 bx_X6_leastHarm := ⟨ec_fok fo_X6, ec_cok co_X6, so_X6, bk_X6_leastHarm l, fun _ h => (by cases h), fun _ h => (by cases h), fun _ h => (by cases h), fun _ _ h => (by cases h)⟩
def bq_X6_leastHarm : List (ab_C × List ab_Q) := [(([.inl 21, .inr (0, 1000)], [], [], [(some ((-2147483648), 2147483647, none), [], [])]), [(21, [some (.inl 21), some (.inr (.inl (0, 1000, none, none))), some (.inr (.inl ((-2147483648), 2147483647, none, none))), some (.inr (.inl ((-2147483648), 2147483647, none, none))), some (.inr (.inl ((-2147483648), 2147483647, none, none))), some (.inr (.inl (0, 2147483647, none, none))), none, none], [((1, 0, 7), 0, 24, some (1007, 0)), ((1, 76, 52), 0, 24, some (77052, 0))], 4294967295, [0, 0, 0, 0, 0, (-2), 0, 0])])]
def bc_X6_leastHarm : List ab_C := bq_X6_leastHarm.map (fun c => c.1)
def bi_X6_leastHarm : List (Nat × Instr × Nat) := [(0, .aload_n 0, 1), (1, .invokevirtual 139, 3), (4, .istore_n 2, 1), (5, .iload_n 2, 1), (6, .istore_n 3, 1), (7, .aload_n 0, 1), (8, .iload_n 2, 1), (9, .aload_n 0, 1), (10, .getfield 24, 3), (13, .invokevirtual 135, 3), (16, .istore 4, 2), (18, .iconst 0, 1), (19, .istore 5, 2), (21, .iload 5, 2), (23, .iload_n 2, 1), (24, .if_icmp .ge 96, 3), (27, .iload 5, 2), (29, .iload_n 2, 1), (30, .iconst (-1), 1), (31, .ixor, 1), (32, .iand, 1), (33, .ifCond .ne 81, 3), (36, .aload_n 0, 1), (37, .iload_n 2, 1), (38, .iload 5, 2), (40, .iconst (-1), 1), (41, .ixor, 1), (42, .iand, 1), (43, .aload_n 0, 1), (44, .getfield 21, 3), (47, .invokevirtual 135, 3), (50, .iload_n 1, 1), (51, .if_icmp .le 6, 3), (54, .goto 60, 3), (57, .aload_n 0, 1), (58, .iload 5, 2), (60, .aload_n 0, 1), (61, .getfield 24, 3), (64, .invokevirtual 135, 3), (67, .istore 6, 2), (69, .iload 5, 2), (71, .invokestatic 143, 3), (74, .iload_n 3, 1), (75, .invokestatic 143, 3), (78, .if_icmp .ge 7, 3), (81, .iconst 1, 1), (82, .goto 4, 3), (85, .iconst 0, 1), (86, .istore 7, 2), (88, .iload 6, 2), (90, .iload 4, 2), (92, .if_icmp .lt 15, 3), (95, .iload 6, 2), (97, .iload 4, 2), (99, .if_icmp .ne 15, 3), (102, .iload 7, 2), (104, .ifCond .eq 10, 3), (107, .iload 5, 2), (109, .istore_n 3, 1), (110, .iload 6, 2), (112, .istore 4, 2), (114, .iinc 5 1, 3), (117, .goto (-96), 3), (120, .iload_n 3, 1), (121, .ireturn, 1)]
theorem bd_X6_leastHarm : ∀ q ∈ bi_X6_leastHarm, decode cX6_leastHarm q.1 = .ok q.2 := by decide +kernel
theorem bz_X6_leastHarm : bq_X6_leastHarm.all (ab_ck ab_hd ab_xs ab_tr bx_X6_leastHarm be_X6_leastHarm bi_X6_leastHarm (some .int) 8 50) = true := by decide +kernel
theorem bm_X6_leastHarm (l : Launch) : ex_Met l yX6_leastHarm cX6_leastHarm 8 (some .int) 2 43 (ab_sp ab_hd bc_X6_leastHarm) := ab_met (by decide) (by decide) rfl (bj_X6_leastHarm l) bd_X6_leastHarm ab_hcm ab_xk bz_X6_leastHarm
