theorem bw_X10_as : ec_cw yX10_as cX10_as 3 (some .int) := ⟨ec_in (i := 1355) (by decide +kernel) rfl, ec_in (i := 68) (by decide +kernel) rfl, by decide, by decide⟩
theorem bv_X10_as : Cond.instanceMethod yX10_as ∈ ec_tb ∧ Cond.selects yX10_as.cls yX10_as yX10_as ∈ ec_tb := ⟨ec_in (i := 1353) (by decide +kernel) rfl, ec_in (i := 1354) (by decide +kernel) rfl⟩
def be_X10_as : Nat → Option (Nat × Option Nat × List ab_C) := fun ix => match ix with
  | 184 => some (2, some 10, bc_X10_isMachine)
  | 171 => some (3, none, bc_X10_isIn)
  | 160 => some (2, some 10, bc_X10_finding)
  | _ => none
theorem bk_X10_as (l : Launch) : ∀ (ix n : Nat) (rc : Option Nat) (sp : ex_S), (be_X10_as ix).map (fun q => (q.1, q.2.1, ab_sp ab_hd q.2.2)) = some (n, rc, sp) → ex_cok l RX10 1 22 ix n rc sp := by
  intro ix n rc sp h
  obtain ⟨l0, h2, rfl⟩ := ab_dmk h
  clear h
  unfold be_X10_as at h2
  split at h2
  · cases h2; exact ec_cV (bm_X10_isMachine l) bw_X10_isMachine bv_X10_isMachine (by decide) (by decide) (Or.inl (ec_in (i := 1356) (by decide +kernel) rfl)) (T := TX10) (N := 57) rfl (by decide) (by decide +kernel)
  · cases h2; exact ec_cS (bm_X10_isIn l) bw_X10_isIn bv_X10_isIn (by decide) (by decide) (Or.inl (ec_in (i := 1303) (by decide +kernel) rfl)) (by decide +kernel)
  · cases h2; exact ec_cV (bm_X10_finding l) bw_X10_finding bv_X10_finding (by decide) (by decide) (Or.inl (ec_in (i := 1282) (by decide +kernel) rfl)) (T := TX10) (N := 57) rfl (by decide) (by decide +kernel)
  · cases h2
def bx_X10_as : ex_K := (RX10, ec_fx fl_X10, ec_cx cl_X10, sl_X10, (fun ix => (be_X10_as ix).map (fun q => (q.1, q.2.1, ab_sp ab_hd q.2.2))), ec_nz, ec_no)
theorem bj_X10_as (l : Launch) : ex_ok l 1 22 bx_X10_as := ⟨ec_fok fo_X10, ec_cok co_X10, so_X10, bk_X10_as l, fun _ h => (by cases h), fun _ h => (by cases h), fun _ h => (by cases h), fun _ _ h => (by cases h)⟩
def bq_X10_as : List (ab_C × List ab_Q) := [(([.inl 76, .inr ((-2147483648), 2147483647), .inr ((-2147483648), 2147483647)], [], [(114, some 1), (114, some 5)], [(some ((-2147483648), 2147483647, none), [], [])]), [])]
def bc_X10_as : List ab_C := bq_X10_as.map (fun c => c.1)
def bi_X10_as : List (Nat × Instr × Nat) := [(0, .aload_n 0, 1), (1, .iload_n 1, 1), (2, .invokevirtual 184, 3), (5, .ifCond .eq 12, 3), (8, .iload_n 2, 1), (9, .iconst 0, 1), (10, .iconst 5, 1), (11, .invokestatic 171, 3), (14, .ifCond .ne 9, 3), (17, .aload_n 0, 1), (18, .iconst 1, 1), (19, .invokevirtual 160, 3), (22, .ireturn, 1), (23, .iload_n 2, 1), (24, .ifCond .eq 28, 3), (27, .aload_n 0, 1), (28, .getfield 49, 3), (31, .iload_n 1, 1), (32, .iaload, 1), (33, .iload_n 2, 1), (34, .if_icmp .eq 18, 3), (37, .iload_n 2, 1), (38, .iconst 3, 1), (39, .if_icmp .ne 22, 3), (42, .aload_n 0, 1), (43, .getfield 49, 3), (46, .iload_n 1, 1), (47, .iaload, 1), (48, .iconst 4, 1), (49, .if_icmp .ne 12, 3), (52, .aload_n 0, 1), (53, .getfield 55, 3), (56, .iload_n 1, 1), (57, .iaload, 1), (58, .goto 8, 3), (61, .aload_n 0, 1), (62, .iconst 5, 1), (63, .invokevirtual 160, 3), (66, .ireturn, 1)]
theorem bd_X10_as : ∀ q ∈ bi_X10_as, decode cX10_as q.1 = .ok q.2 := by decide +kernel
theorem bz_X10_as : bq_X10_as.all (ab_ck ab_hd ab_xs ab_tr bx_X10_as be_X10_as bi_X10_as (some .int) 3 34) = true := by decide +kernel
theorem bm_X10_as (l : Launch) : ex_Met l yX10_as cX10_as 3 (some .int) 1 22 (ab_sp ab_hd bc_X10_as) := ab_met (by decide) (by decide) rfl (bj_X10_as l) bd_X10_as ab_hcm ab_xk bz_X10_as
theorem bw_X10_turn : ec_cw yX10_turn cX10_turn 4 (some .int) := ⟨ec_in (i := 1363) (by decide +kernel) rfl, ec_in (i := 68) (by decide +kernel) rfl, by decide, by decide⟩
theorem bv_X10_turn : Cond.instanceMethod yX10_turn ∈ ec_tb ∧ Cond.selects yX10_turn.cls yX10_turn yX10_turn ∈ ec_tb := ⟨ec_in (i := 1361) (by decide +kernel) rfl, ec_in (i := 1362) (by decide +kernel) rfl⟩
def be_X10_turn : Nat → Option (Nat × Option Nat × List ab_C) := fun ix => match ix with
  | 184 => some (2, some 10, bc_X10_isMachine)
  | 171 => some (3, none, bc_X10_isIn)
  | 160 => some (2, some 10, bc_X10_finding)
  | _ => none
theorem bk_X10_turn (l : Launch) : ∀ (ix n : Nat) (rc : Option Nat) (sp : ex_S), (be_X10_turn ix).map (fun q => (q.1, q.2.1, ab_sp ab_hd q.2.2)) = some (n, rc, sp) → ex_cok l RX10 1 22 ix n rc sp := by
  intro ix n rc sp h
  obtain ⟨l0, h2, rfl⟩ := ab_dmk h
  clear h
  unfold be_X10_turn at h2
  split at h2
  · cases h2; exact ec_cV (bm_X10_isMachine l) bw_X10_isMachine bv_X10_isMachine (by decide) (by decide) (Or.inl (ec_in (i := 1356) (by decide +kernel) rfl)) (T := TX10) (N := 57) rfl (by decide) (by decide +kernel)
  · cases h2; exact ec_cS (bm_X10_isIn l) bw_X10_isIn bv_X10_isIn (by decide) (by decide) (Or.inl (ec_in (i := 1303) (by decide +kernel) rfl)) (by decide +kernel)
  · cases h2; exact ec_cV (bm_X10_finding l) bw_X10_finding bv_X10_finding (by decide) (by decide) (Or.inl (ec_in (i := 1282) (by decide +kernel) rfl)) (T := TX10) (N := 57) rfl (by decide) (by decide +kernel)
  · cases h2
def bx_X10_turn : ex_K := (RX10, ec_fx fl_X10, ec_cx cl_X10, sl_X10, (fun ix => (be_X10_turn ix).map (fun q => (q.1, q.2.1, ab_sp ab_hd q.2.2))), ec_nz, ec_no)
theorem bj_X10_turn (l : Launch) : ex_ok l 1 22 bx_X10_turn := ⟨ec_fok fo_X10, ec_cok co_X10, so_X10, bk_X10_turn l, fun _ h => (by cases h), fun _ h => (by cases h), fun _ h => (by cases h), fun _ _ h => (by cases h)⟩
def bq_X10_turn : List (ab_C × List ab_Q) := [(([.inl 76, .inr ((-2147483648), 2147483647), .inr ((-2147483648), 2147483647)], [], [(97, none), (114, some 1)], [(some ((-2147483648), 2147483647, none), [], [])]), [])]
def bc_X10_turn : List ab_C := bq_X10_turn.map (fun c => c.1)
def bi_X10_turn : List (Nat × Instr × Nat) := [(0, .aload_n 0, 1), (1, .iload_n 1, 1), (2, .invokevirtual 184, 3), (5, .ifCond .eq 12, 3), (8, .iload_n 2, 1), (9, .iconst 0, 1), (10, .iconst 1, 1), (11, .invokestatic 171, 3), (14, .ifCond .ne 9, 3), (17, .aload_n 0, 1), (18, .iconst 1, 1), (19, .invokevirtual 160, 3), (22, .ireturn, 1), (23, .aload_n 0, 1), (24, .getfield 70, 3), (27, .iload_n 1, 1), (28, .iaload, 1), (29, .istore_n 3, 1), (30, .aload_n 0, 1), (31, .getfield 70, 3), (34, .iload_n 1, 1), (35, .iload_n 2, 1), (36, .iastore, 1), (37, .iload_n 3, 1), (38, .ireturn, 1)]
theorem bd_X10_turn : ∀ q ∈ bi_X10_turn, decode cX10_turn q.1 = .ok q.2 := by decide +kernel
theorem bz_X10_turn : bq_X10_turn.all (ab_ck ab_hd ab_xs ab_tr bx_X10_turn be_X10_turn bi_X10_turn (some .int) 4 23) = true := by decide +kernel
theorem bm_X10_turn (l : Launch) : ex_Met l yX10_turn cX10_turn 4 (some .int) 1 22 (ab_sp ab_hd bc_X10_turn) := ab_met (by decide) (by decide) rfl (bj_X10_turn l) bd_X10_turn ab_hcm ab_xk bz_X10_turn
theorem bw_X10_of : ec_cw yX10_of cX10_of 3 (some .int) := ⟨ec_in (i := 1367) (by decide +kernel) rfl, ec_in (i := 68) (by decide +kernel) rfl, by decide, by decide⟩
theorem bv_X10_of : Cond.instanceMethod yX10_of ∈ ec_tb ∧ Cond.selects yX10_of.cls yX10_of yX10_of ∈ ec_tb := ⟨ec_in (i := 1365) (by decide +kernel) rfl, ec_in (i := 1366) (by decide +kernel) rfl⟩
def be_X10_of : Nat → Option (Nat × Option Nat × List ab_C) := fun ix => match ix with
  | 184 => some (2, some 10, bc_X10_isMachine)
  | 171 => some (3, none, bc_X10_isIn)
  | 160 => some (2, some 10, bc_X10_finding)
  | _ => none
theorem bk_X10_of (l : Launch) : ∀ (ix n : Nat) (rc : Option Nat) (sp : ex_S), (be_X10_of ix).map (fun q => (q.1, q.2.1, ab_sp ab_hd q.2.2)) = some (n, rc, sp) → ex_cok l RX10 1 22 ix n rc sp := by
  intro ix n rc sp h
  obtain ⟨l0, h2, rfl⟩ := ab_dmk h
  clear h
  unfold be_X10_of at h2
  split at h2
  · cases h2; exact ec_cV (bm_X10_isMachine l) bw_X10_isMachine bv_X10_isMachine (by decide) (by decide) (Or.inl (ec_in (i := 1356) (by decide +kernel) rfl)) (T := TX10) (N := 57) rfl (by decide) (by decide +kernel)
  · cases h2; exact ec_cS (bm_X10_isIn l) bw_X10_isIn bv_X10_isIn (by decide) (by decide) (Or.inl (ec_in (i := 1303) (by decide +kernel) rfl)) (by decide +kernel)
  · cases h2; exact ec_cV (bm_X10_finding l) bw_X10_finding bv_X10_finding (by decide) (by decide) (Or.inl (ec_in (i := 1282) (by decide +kernel) rfl)) (T := TX10) (N := 57) rfl (by decide) (by decide +kernel)
  · cases h2
def bx_X10_of : ex_K := (RX10, ec_fx fl_X10, ec_cx cl_X10, sl_X10, (fun ix => (be_X10_of ix).map (fun q => (q.1, q.2.1, ab_sp ab_hd q.2.2))), ec_nz, ec_no)
theorem bj_X10_of (l : Launch) : ex_ok l 1 22 bx_X10_of := ⟨ec_fok fo_X10, ec_cok co_X10, so_X10, bk_X10_of l, fun _ h => (by cases h), fun _ h => (by cases h), fun _ h => (by cases h), fun _ _ h => (by cases h)⟩
def bq_X10_of : List (ab_C × List ab_Q) := [(([.inl 76, .inr ((-2147483648), 2147483647), .inr ((-2147483648), 2147483647)], [], [(114, some 1)], [(some ((-2147483648), 2147483647, none), [], [])]), [])]
def bc_X10_of : List ab_C := bq_X10_of.map (fun c => c.1)
def bi_X10_of : List (Nat × Instr × Nat) := [(0, .aload_n 0, 1), (1, .iload_n 1, 1), (2, .invokevirtual 184, 3), (5, .ifCond .eq 13, 3), (8, .iload_n 2, 1), (9, .iconst 0, 1), (10, .bipush 8, 2), (12, .invokestatic 171, 3), (15, .ifCond .ne 9, 3), (18, .aload_n 0, 1), (19, .iconst 1, 1), (20, .invokevirtual 160, 3), (23, .ireturn, 1), (24, .iload_n 2, 1), (25, .tableswitch 103 0 7 #[47, 54, 61, 68, 75, 82, 89, 96], 47), (72, .aload_n 0, 1), (73, .getfield 49, 3), (76, .iload_n 1, 1), (77, .iaload, 1), (78, .ireturn, 1), (79, .aload_n 0, 1), (80, .getfield 52, 3), (83, .iload_n 1, 1), (84, .iaload, 1), (85, .ireturn, 1), (86, .aload_n 0, 1), (87, .getfield 58, 3), (90, .iload_n 1, 1), (91, .iaload, 1), (92, .ireturn, 1), (93, .aload_n 0, 1), (94, .getfield 61, 3), (97, .iload_n 1, 1), (98, .iaload, 1), (99, .ireturn, 1), (100, .aload_n 0, 1), (101, .getfield 67, 3), (104, .iload_n 1, 1), (105, .iaload, 1), (106, .ireturn, 1), (107, .aload_n 0, 1), (108, .getfield 70, 3), (111, .iload_n 1, 1), (112, .iaload, 1), (113, .ireturn, 1), (114, .aload_n 0, 1), (115, .getfield 73, 3), (118, .iload_n 1, 1), (119, .iaload, 1), (120, .ireturn, 1), (121, .aload_n 0, 1), (122, .getfield 76, 3), (125, .iload_n 1, 1), (126, .iaload, 1), (127, .ireturn, 1), (128, .aload_n 0, 1), (129, .getfield 64, 3), (132, .iload_n 1, 1), (133, .iaload, 1), (134, .ireturn, 1)]
theorem bd_X10_of : ∀ q ∈ bi_X10_of, decode cX10_of q.1 = .ok q.2 := by decide +kernel
theorem bz_X10_of : bq_X10_of.all (ab_ck ab_hd ab_xs ab_tr bx_X10_of be_X10_of bi_X10_of (some .int) 3 18) = true := by decide +kernel
theorem bm_X10_of (l : Launch) : ex_Met l yX10_of cX10_of 3 (some .int) 1 22 (ab_sp ab_hd bc_X10_of) := ab_met (by decide) (by decide) rfl (bj_X10_of l) bd_X10_of ab_hcm ab_xk bz_X10_of
theorem bw_X10_spares : ec_cw yX10_spares cX10_spares 4 (some .int) := ⟨ec_in (i := 1371) (by decide +kernel) rfl, ec_in (i := 68) (by decide +kernel) rfl, by decide, by decide⟩
theorem bv_X10_spares : Cond.instanceMethod yX10_spares ∈ ec_tb ∧ Cond.selects yX10_spares.cls yX10_spares yX10_spares ∈ ec_tb := ⟨ec_in (i := 1369) (by decide +kernel) rfl, ec_in (i := 1370) (by decide +kernel) rfl⟩
def be_X10_spares : Nat → Option (Nat × Option Nat × List ab_C) := fun ix => match ix with
  | 171 => some (3, none, bc_X10_isIn)
  | 160 => some (2, some 10, bc_X10_finding)
  | _ => none
theorem bk_X10_spares (l : Launch) : ∀ (ix n : Nat) (rc : Option Nat) (sp : ex_S), (be_X10_spares ix).map (fun q => (q.1, q.2.1, ab_sp ab_hd q.2.2)) = some (n, rc, sp) → ex_cok l RX10 1 22 ix n rc sp := by
  intro ix n rc sp h
  obtain ⟨l0, h2, rfl⟩ := ab_dmk h
  clear h
  unfold be_X10_spares at h2
  split at h2
  · cases h2; exact ec_cS (bm_X10_isIn l) bw_X10_isIn bv_X10_isIn (by decide) (by decide) (Or.inl (ec_in (i := 1303) (by decide +kernel) rfl)) (by decide +kernel)
  · cases h2; exact ec_cV (bm_X10_finding l) bw_X10_finding bv_X10_finding (by decide) (by decide) (Or.inl (ec_in (i := 1282) (by decide +kernel) rfl)) (T := TX10) (N := 57) rfl (by decide) (by decide +kernel)
  · cases h2
def bx_X10_spares : ex_K := (RX10, ec_fx fl_X10, ec_cx cl_X10, sl_X10, (fun ix => (be_X10_spares ix).map (fun q => (q.1, q.2.1, ab_sp ab_hd q.2.2))), ec_nz, ec_no)
theorem bj_X10_spares (l : Launch) : ex_ok l 1 22 bx_X10_spares := ⟨ec_fok fo_X10, ec_cok co_X10, so_X10, bk_X10_spares l, fun _ h => (by cases h), fun _ h => (by cases h), fun _ h => (by cases h), fun _ _ h => (by cases h)⟩
def bq_X10_spares : List (ab_C × List ab_Q) := [(([.inl 76, .inr ((-2147483648), 2147483647), .inr ((-2147483648), 2147483647)], [], [(100, none), (114, some 1)], [(some ((-2147483648), 2147483647, none), [], [])]), [])]
def bc_X10_spares : List ab_C := bq_X10_spares.map (fun c => c.1)
def bi_X10_spares : List (Nat × Instr × Nat) := [(0, .iload_n 1, 1), (1, .iconst 0, 1), (2, .iconst 5, 1), (3, .invokestatic 171, 3), (6, .ifCond .eq 13, 3), (9, .iload_n 2, 1), (10, .iconst (-1), 1), (11, .bipush 20, 2), (13, .invokestatic 171, 3), (16, .ifCond .ne 9, 3), (19, .aload_n 0, 1), (20, .iconst 1, 1), (21, .invokevirtual 160, 3), (24, .ireturn, 1), (25, .aload_n 0, 1), (26, .getfield 79, 3), (29, .iload_n 1, 1), (30, .iaload, 1), (31, .istore_n 3, 1), (32, .aload_n 0, 1), (33, .getfield 79, 3), (36, .iload_n 1, 1), (37, .iload_n 2, 1), (38, .ifCond .ge 7, 3), (41, .iload_n 3, 1), (42, .goto 4, 3), (45, .iload_n 2, 1), (46, .iastore, 1), (47, .iload_n 3, 1), (48, .ireturn, 1)]
theorem bd_X10_spares : ∀ q ∈ bi_X10_spares, decode cX10_spares q.1 = .ok q.2 := by decide +kernel
theorem bz_X10_spares : bq_X10_spares.all (ab_ck ab_hd ab_xs ab_tr bx_X10_spares be_X10_spares bi_X10_spares (some .int) 4 27) = true := by decide +kernel
theorem bm_X10_spares (l : Launch) : ex_Met l yX10_spares cX10_spares 4 (some .int) 1 22 (ab_sp ab_hd bc_X10_spares) := ab_met (by decide) (by decide) rfl (bj_X10_spares l) bd_X10_spares ab_hcm ab_xk bz_X10_spares
theorem bw_X10_isMended : ec_cw yX10_isMended cX10_isMended 4 (some .boolean) := ⟨ec_in (i := 1383) (by decide +kernel) rfl, ec_in (i := 68) (by decide +kernel) rfl, by decide, by decide⟩
theorem bv_X10_isMended : Cond.instanceMethod yX10_isMended ∈ ec_tb ∧ Cond.selects yX10_isMended.cls yX10_isMended yX10_isMended ∈ ec_tb := ⟨ec_in (i := 1382) (by decide +kernel) rfl, ec_in (i := 33) (by decide +kernel) rfl⟩
def bx_X10_isMended : ex_K := (RX10, ec_fx fl_X10, ec_cx cl_X10, sl_X10, (fun ix => (ec_no ix).map (fun (q : Nat × Option Nat × List ab_C) => (q.1, q.2.1, ab_sp ab_hd q.2.2))), ec_nz, ec_no)
theorem bj_X10_isMended (l : Launch) : ex_ok l 0 0 bx_X10_isMended := ⟨ec_fok fo_X10, ec_cok co_X10, so_X10, fun _ _ _ _ h => (by cases h), fun _ h => (by cases h), fun _ h => (by cases h), fun _ h => (by cases h), fun _ _ h => (by cases h)⟩
def bq_X10_isMended : List (ab_C × List ab_Q) := [(([.inl 76, .inr (0, 9)], [], [], [(some (0, 1, none), [], [])]), [(4, [some (.inl 76), some (.inr (.inl (0, 9, none, none))), some (.inr (.inl (0, 1, none, none))), some (.inr (.inl (0, 6, none, none)))], [((1, 0, 7), 0, 24, some (1007, 0)), ((1, 76, 52), 0, 24, some (77052, 0))], 13, [0, 0, 0, (-2)])])]
def bc_X10_isMended : List ab_C := bq_X10_isMended.map (fun c => c.1)
def bi_X10_isMended : List (Nat × Instr × Nat) := [(0, .iconst 0, 1), (1, .istore_n 2, 1), (2, .iconst 0, 1), (3, .istore_n 3, 1), (4, .iload_n 3, 1), (5, .aload_n 0, 1), (6, .getfield 154, 3), (9, .if_icmp .ge 27, 3), (12, .iload_n 2, 1), (13, .aload_n 0, 1), (14, .getfield 37, 3), (17, .iload_n 3, 1), (18, .iaload, 1), (19, .iload_n 1, 1), (20, .if_icmp .ne 7, 3), (23, .iconst 1, 1), (24, .goto 4, 3), (27, .iconst 0, 1), (28, .ior, 1), (29, .istore_n 2, 1), (30, .iinc 3 1, 3), (33, .goto (-29), 3), (36, .iload_n 2, 1), (37, .ireturn, 1)]
theorem bd_X10_isMended : ∀ q ∈ bi_X10_isMended, decode cX10_isMended q.1 = .ok q.2 := by decide +kernel
theorem bz_X10_isMended : bq_X10_isMended.all (ab_ck ab_hd ab_xs ab_tr bx_X10_isMended ec_no bi_X10_isMended (some .boolean) 4 19) = true := by decide +kernel
theorem bm_X10_isMended (l : Launch) : ex_Met l yX10_isMended cX10_isMended 4 (some .boolean) 0 0 (ab_sp ab_hd bc_X10_isMended) := ab_met (by decide) (by decide) rfl (bj_X10_isMended l) bd_X10_isMended ab_hcm ab_xk bz_X10_isMended
theorem bw_X10_refusesMend : ec_cw yX10_refusesMend cX10_refusesMend 4 (some .int) := ⟨ec_in (i := 1379) (by decide +kernel) rfl, ec_in (i := 68) (by decide +kernel) rfl, by decide, by decide⟩
theorem bv_X10_refusesMend : Cond.instanceMethod yX10_refusesMend ∈ ec_tb ∧ Cond.selects yX10_refusesMend.cls yX10_refusesMend yX10_refusesMend ∈ ec_tb := ⟨ec_in (i := 1378) (by decide +kernel) rfl, ec_in (i := 32) (by decide +kernel) rfl⟩
def be_X10_refusesMend : Nat → Option (Nat × Option Nat × List ab_C) := fun ix => match ix with
  | 177 => some (2, some 10, bc_X10_isPerson)
  | 184 => some (2, some 10, bc_X10_isMachine)
  | 171 => some (3, none, bc_X10_isIn)
  | 187 => some (2, some 10, bc_X10_isMended)
  | _ => none
theorem bk_X10_refusesMend (l : Launch) : ∀ (ix n : Nat) (rc : Option Nat) (sp : ex_S), (be_X10_refusesMend ix).map (fun q => (q.1, q.2.1, ab_sp ab_hd q.2.2)) = some (n, rc, sp) → ex_cok l RX10 1 23 ix n rc sp := by
  intro ix n rc sp h
  obtain ⟨l0, h2, rfl⟩ := ab_dmk h
  clear h
  unfold be_X10_refusesMend at h2
  split at h2
  · cases h2; exact ec_cV (bm_X10_isPerson l) bw_X10_isPerson bv_X10_isPerson (by decide) (by decide) (Or.inl (ec_in (i := 1332) (by decide +kernel) rfl)) (T := TX10) (N := 57) rfl (by decide) (by decide +kernel)
  · cases h2; exact ec_cV (bm_X10_isMachine l) bw_X10_isMachine bv_X10_isMachine (by decide) (by decide) (Or.inl (ec_in (i := 1356) (by decide +kernel) rfl)) (T := TX10) (N := 57) rfl (by decide) (by decide +kernel)
  · cases h2; exact ec_cS (bm_X10_isIn l) bw_X10_isIn bv_X10_isIn (by decide) (by decide) (Or.inl (ec_in (i := 1303) (by decide +kernel) rfl)) (by decide +kernel)
  · cases h2; exact ec_cV (bm_X10_isMended l) bw_X10_isMended bv_X10_isMended (by decide) (by decide) (Or.inl (ec_in (i := 1380) (by decide +kernel) rfl)) (T := TX10) (N := 57) rfl (by decide) (by decide +kernel)
  · cases h2
def bx_X10_refusesMend : ex_K := (RX10, ec_fx fl_X10, ec_cx cl_X10, sl_X10, (fun ix => (be_X10_refusesMend ix).map (fun q => (q.1, q.2.1, ab_sp ab_hd q.2.2))), ec_nz, ec_no)
theorem bj_X10_refusesMend (l : Launch) : ex_ok l 1 23 bx_X10_refusesMend := ⟨ec_fok fo_X10, ec_cok co_X10, so_X10, bk_X10_refusesMend l, fun _ h => (by cases h), fun _ h => (by cases h), fun _ h => (by cases h), fun _ _ h => (by cases h)⟩
def bq_X10_refusesMend : List (ab_C × List ab_Q) := [(([.inl 76, .inr ((-2147483648), 2147483647), .inr ((-2147483648), 2147483647), .inr ((-2147483648), 2147483647)], [], [], [(some (1, 3, none), [], []), (some (0, 0, none), [((0, 1, 0), 0, 5, none), ((0, 2, 0), 0, 9, none)], [])]), [])]
def bc_X10_refusesMend : List ab_C := bq_X10_refusesMend.map (fun c => c.1)
def bi_X10_refusesMend : List (Nat × Instr × Nat) := [(0, .aload_n 0, 1), (1, .iload_n 1, 1), (2, .invokevirtual 177, 3), (5, .ifCond .eq 21, 3), (8, .aload_n 0, 1), (9, .iload_n 2, 1), (10, .invokevirtual 184, 3), (13, .ifCond .eq 13, 3), (16, .iload_n 3, 1), (17, .iconst 1, 1), (18, .bipush 60, 2), (20, .invokestatic 171, 3), (23, .ifCond .ne 5, 3), (26, .iconst 1, 1), (27, .ireturn, 1), (28, .aload_n 0, 1), (29, .getfield 73, 3), (32, .iload_n 2, 1), (33, .iaload, 1), (34, .ifCond .eq 35, 3), (37, .aload_n 0, 1), (38, .iload_n 2, 1), (39, .invokevirtual 187, 3), (42, .ifCond .ne 27, 3), (45, .aload_n 0, 1), (46, .getfield 37, 3), (49, .iload_n 1, 1), (50, .iaload, 1), (51, .ifCond .ge 18, 3), (54, .aload_n 0, 1), (55, .getfield 31, 3), (58, .iload_n 1, 1), (59, .iaload, 1), (60, .aload_n 0, 1), (61, .getfield 52, 3), (64, .iload_n 2, 1), (65, .iaload, 1), (66, .if_icmp .eq 5, 3), (69, .iconst 3, 1), (70, .ireturn, 1), (71, .aload_n 0, 1), (72, .getfield 79, 3), (75, .aload_n 0, 1), (76, .getfield 49, 3), (79, .iload_n 2, 1), (80, .iaload, 1), (81, .iaload, 1), (82, .ifCond .ne 7, 3), (85, .iconst 2, 1), (86, .goto 4, 3), (89, .iconst 0, 1), (90, .ireturn, 1)]
theorem bd_X10_refusesMend : ∀ q ∈ bi_X10_refusesMend, decode cX10_refusesMend q.1 = .ok q.2 := by decide +kernel
theorem bz_X10_refusesMend : bq_X10_refusesMend.all (ab_ck ab_hd ab_xs ab_tr bx_X10_refusesMend be_X10_refusesMend bi_X10_refusesMend (some .int) 4 49) = true := by decide +kernel
theorem bm_X10_refusesMend (l : Launch) : ex_Met l yX10_refusesMend cX10_refusesMend 4 (some .int) 1 23 (ab_sp ab_hd bc_X10_refusesMend) := ab_met (by decide) (by decide) rfl (bj_X10_refusesMend l) bd_X10_refusesMend ab_hcm ab_xk bz_X10_refusesMend
theorem bw_X10_beginMend : ec_cw yX10_beginMend cX10_beginMend 4 none := ⟨ec_in (i := 1387) (by decide +kernel) rfl, ec_in (i := 68) (by decide +kernel) rfl, by decide, by decide⟩
theorem bv_X10_beginMend : Cond.instanceMethod yX10_beginMend ∈ ec_tb ∧ Cond.selects yX10_beginMend.cls yX10_beginMend yX10_beginMend ∈ ec_tb := ⟨ec_in (i := 1386) (by decide +kernel) rfl, ec_in (i := 34) (by decide +kernel) rfl⟩
def bx_X10_beginMend : ex_K := (RX10, ec_fx fl_X10, ec_cx cl_X10, sl_X10, (fun ix => (ec_no ix).map (fun (q : Nat × Option Nat × List ab_C) => (q.1, q.2.1, ab_sp ab_hd q.2.2))), ec_nz, ec_no)
theorem bj_X10_beginMend (l : Launch) : ex_ok l 0 0 bx_X10_beginMend := ⟨ec_fok fo_X10, ec_cok co_X10, so_X10, fun _ _ _ _ h => (by cases h), fun _ h => (by cases h), fun _ h => (by cases h), fun _ h => (by cases h), fun _ _ h => (by cases h)⟩
def bq_X10_beginMend : List (ab_C × List ab_Q) := [(([.inl 76, .inr (0, 5), .inr (0, 9), .inr ((-2147483648), 2147483647)], [], [(85, none), (86, none), (87, none), (100, none)], [(none, [], [])]), [])]
def bc_X10_beginMend : List ab_C := bq_X10_beginMend.map (fun c => c.1)
def bi_X10_beginMend : List (Nat × Instr × Nat) := [(0, .aload_n 0, 1), (1, .getfield 79, 3), (4, .aload_n 0, 1), (5, .getfield 49, 3), (8, .iload_n 2, 1), (9, .iaload, 1), (10, .dup2, 1), (11, .iaload, 1), (12, .iconst 1, 1), (13, .isub, 1), (14, .iastore, 1), (15, .aload_n 0, 1), (16, .getfield 37, 3), (19, .iload_n 1, 1), (20, .iload_n 2, 1), (21, .iastore, 1), (22, .aload_n 0, 1), (23, .getfield 40, 3), (26, .iload_n 1, 1), (27, .iload_n 3, 1), (28, .iastore, 1), (29, .aload_n 0, 1), (30, .getfield 34, 3), (33, .iload_n 1, 1), (34, .iconst 1, 1), (35, .iastore, 1), (36, .return_, 1)]
theorem bd_X10_beginMend : ∀ q ∈ bi_X10_beginMend, decode cX10_beginMend q.1 = .ok q.2 := by decide +kernel
theorem bz_X10_beginMend : bq_X10_beginMend.all (ab_ck ab_hd ab_xs ab_tr bx_X10_beginMend ec_no bi_X10_beginMend none 4 29) = true := by decide +kernel
theorem bm_X10_beginMend (l : Launch) : ex_Met l yX10_beginMend cX10_beginMend 4 none 0 0 (ab_sp ab_hd bc_X10_beginMend) := ab_met (by decide) (by decide) rfl (bj_X10_beginMend l) bd_X10_beginMend ab_hcm ab_xk bz_X10_beginMend
theorem bw_X10_repair : ec_cw yX10_repair cX10_repair 5 (some .int) := ⟨ec_in (i := 1375) (by decide +kernel) rfl, ec_in (i := 68) (by decide +kernel) rfl, by decide, by decide⟩
theorem bv_X10_repair : Cond.instanceMethod yX10_repair ∈ ec_tb ∧ Cond.selects yX10_repair.cls yX10_repair yX10_repair ∈ ec_tb := ⟨ec_in (i := 1373) (by decide +kernel) rfl, ec_in (i := 1374) (by decide +kernel) rfl⟩
def be_X10_repair : Nat → Option (Nat × Option Nat × List ab_C) := fun ix => match ix with
  | 190 => some (4, some 10, bc_X10_refusesMend)
  | 160 => some (2, some 10, bc_X10_finding)
  | 194 => some (4, some 10, bc_X10_beginMend)
  | _ => none
theorem bk_X10_repair (l : Launch) : ∀ (ix n : Nat) (rc : Option Nat) (sp : ex_S), (be_X10_repair ix).map (fun q => (q.1, q.2.1, ab_sp ab_hd q.2.2)) = some (n, rc, sp) → ex_cok l RX10 2 46 ix n rc sp := by
  intro ix n rc sp h
  obtain ⟨l0, h2, rfl⟩ := ab_dmk h
  clear h
  unfold be_X10_repair at h2
  split at h2
  · cases h2; exact ec_cV (bm_X10_refusesMend l) bw_X10_refusesMend bv_X10_refusesMend (by decide) (by decide) (Or.inl (ec_in (i := 1376) (by decide +kernel) rfl)) (T := TX10) (N := 57) rfl (by decide) (by decide +kernel)
  · cases h2; exact ec_cV (bm_X10_finding l) bw_X10_finding bv_X10_finding (by decide) (by decide) (Or.inl (ec_in (i := 1282) (by decide +kernel) rfl)) (T := TX10) (N := 57) rfl (by decide) (by decide +kernel)
  · cases h2; exact ec_cV (bm_X10_beginMend l) bw_X10_beginMend bv_X10_beginMend (by decide) (by decide) (Or.inl (ec_in (i := 1384) (by decide +kernel) rfl)) (T := TX10) (N := 57) rfl (by decide) (by decide +kernel)
  · cases h2
def bx_X10_repair : ex_K := (RX10, ec_fx fl_X10, ec_cx cl_X10, sl_X10, (fun ix => (be_X10_repair ix).map (fun q => (q.1, q.2.1, ab_sp ab_hd q.2.2))), ec_nz, ec_no)
theorem bj_X10_repair (l : Launch) : ex_ok l 2 46 bx_X10_repair := ⟨ec_fok fo_X10, ec_cok co_X10, so_X10, bk_X10_repair l, fun _ h => (by cases h), fun _ h => (by cases h), fun _ h => (by cases h), fun _ _ h => (by cases h)⟩
def bq_X10_repair : List (ab_C × List ab_Q) := [(([.inl 76, .inr ((-2147483648), 2147483647), .inr ((-2147483648), 2147483647), .inr ((-2147483648), 2147483647)], [], [(85, none), (86, none), (87, none), (100, none), (114, none)], [(some ((-2147483648), 2147483647, none), [], [])]), [])]
def bc_X10_repair : List ab_C := bq_X10_repair.map (fun c => c.1)
def bi_X10_repair : List (Nat × Instr × Nat) := [(0, .aload_n 0, 1), (1, .iload_n 1, 1), (2, .iload_n 2, 1), (3, .iload_n 3, 1), (4, .invokevirtual 190, 3), (7, .istore 4, 2), (9, .iload 4, 2), (11, .ifCond .eq 10, 3), (14, .aload_n 0, 1), (15, .iload 4, 2), (17, .invokevirtual 160, 3), (20, .ireturn, 1), (21, .aload_n 0, 1), (22, .iload_n 1, 1), (23, .iload_n 2, 1), (24, .iload_n 3, 1), (25, .invokevirtual 194, 3), (28, .aload_n 0, 1), (29, .getfield 79, 3), (32, .aload_n 0, 1), (33, .getfield 49, 3), (36, .iload_n 2, 1), (37, .iaload, 1), (38, .iaload, 1), (39, .ireturn, 1)]
theorem bd_X10_repair : ∀ q ∈ bi_X10_repair, decode cX10_repair q.1 = .ok q.2 := by decide +kernel
theorem bz_X10_repair : bq_X10_repair.all (ab_ck ab_hd ab_xs ab_tr bx_X10_repair be_X10_repair bi_X10_repair (some .int) 5 23) = true := by decide +kernel
theorem bm_X10_repair (l : Launch) : ex_Met l yX10_repair cX10_repair 5 (some .int) 2 46 (ab_sp ab_hd bc_X10_repair) := ab_met (by decide) (by decide) rfl (bj_X10_repair l) bd_X10_repair ab_hcm ab_xk bz_X10_repair
theorem bw_X10_canShed : ec_cw yX10_canShed cX10_canShed 2 (some .boolean) := ⟨ec_in (i := 1395) (by decide +kernel) rfl, ec_in (i := 68) (by decide +kernel) rfl, by decide, by decide⟩
theorem bv_X10_canShed : Cond.instanceMethod yX10_canShed ∈ ec_tb ∧ Cond.selects yX10_canShed.cls yX10_canShed yX10_canShed ∈ ec_tb := ⟨ec_in (i := 1394) (by decide +kernel) rfl, ec_in (i := 35) (by decide +kernel) rfl⟩
def bx_X10_canShed : ex_K := (RX10, ec_fx fl_X10, ec_cx cl_X10, sl_X10, (fun ix => (ec_no ix).map (fun (q : Nat × Option Nat × List ab_C) => (q.1, q.2.1, ab_sp ab_hd q.2.2))), ec_nz, ec_no)
theorem bj_X10_canShed (l : Launch) : ex_ok l 0 0 bx_X10_canShed := ⟨ec_fok fo_X10, ec_cok co_X10, so_X10, fun _ _ _ _ h => (by cases h), fun _ h => (by cases h), fun _ h => (by cases h), fun _ h => (by cases h), fun _ _ h => (by cases h)⟩
def bq_X10_canShed : List (ab_C × List ab_Q) := [(([.inl 76, .inr (0, 9)], [], [], [(some (0, 0, none), [], []), (some (1, 1, none), [], [])]), [])]
def bc_X10_canShed : List ab_C := bq_X10_canShed.map (fun c => c.1)
def bi_X10_canShed : List (Nat × Instr × Nat) := [(0, .aload_n 0, 1), (1, .getfield 70, 3), (4, .iload_n 1, 1), (5, .iaload, 1), (6, .iconst 1, 1), (7, .if_icmp .ne 16, 3), (10, .aload_n 0, 1), (11, .getfield 73, 3), (14, .iload_n 1, 1), (15, .iaload, 1), (16, .ifCond .ne 7, 3), (19, .iconst 1, 1), (20, .goto 4, 3), (23, .iconst 0, 1), (24, .ireturn, 1)]
theorem bd_X10_canShed : ∀ q ∈ bi_X10_canShed, decode cX10_canShed q.1 = .ok q.2 := by decide +kernel
theorem bz_X10_canShed : bq_X10_canShed.all (ab_ck ab_hd ab_xs ab_tr bx_X10_canShed ec_no bi_X10_canShed (some .boolean) 2 16) = true := by decide +kernel
theorem bm_X10_canShed (l : Launch) : ex_Met l yX10_canShed cX10_canShed 2 (some .boolean) 0 0 (ab_sp ab_hd bc_X10_canShed) := ab_met (by decide) (by decide) rfl (bj_X10_canShed l) bd_X10_canShed ab_hcm ab_xk bz_X10_canShed
theorem bw_X10_together : ec_cw yX10_together cX10_together 7 (some .int) := ⟨ec_in (i := 1399) (by decide +kernel) rfl, ec_in (i := 68) (by decide +kernel) rfl, by decide, by decide⟩
theorem bv_X10_together : Cond.instanceMethod yX10_together ∈ ec_tb ∧ Cond.selects yX10_together.cls yX10_together yX10_together ∈ ec_tb := ⟨ec_in (i := 1398) (by decide +kernel) rfl, ec_in (i := 36) (by decide +kernel) rfl⟩
def be_X10_together : Nat → Option (Nat × Option Nat × List ab_C) := fun ix => match ix with
  | 198 => some (2, some 10, bc_X10_canShed)
  | _ => none
theorem bk_X10_together (l : Launch) : ∀ (ix n : Nat) (rc : Option Nat) (sp : ex_S), (be_X10_together ix).map (fun q => (q.1, q.2.1, ab_sp ab_hd q.2.2)) = some (n, rc, sp) → ex_cok l RX10 1 21 ix n rc sp := by
  intro ix n rc sp h
  obtain ⟨l0, h2, rfl⟩ := ab_dmk h
  clear h
  unfold be_X10_together at h2
  split at h2
  · cases h2; exact ec_cV (bm_X10_canShed l) bw_X10_canShed bv_X10_canShed (by decide) (by decide) (Or.inl (ec_in (i := 1392) (by decide +kernel) rfl)) (T := TX10) (N := 57) rfl (by decide) (by decide +kernel)
  · cases h2
def bx_X10_together : ex_K := (RX10, ec_fx fl_X10, ec_cx cl_X10, sl_X10, (fun ix => (be_X10_together ix).map (fun q => (q.1, q.2.1, ab_sp ab_hd q.2.2))), ec_nz, ec_no)
theorem bj_X10_together (l : Launch) : ex_ok l 1 21 bx_X10_together := ⟨ec_fok fo_X10, ec_cok co_X10, so_X10, bk_X10_together l, fun _ h => (by cases h), fun _ h => (by cases h), fun _ h => (by cases h), fun _ _ h => (by cases h)⟩
def bq_X10_together : List (ab_C × List ab_Q) := [(([.inl 76, .inr ((-2147483648), 2147483647), .inr (0, 1), .inr (0, 2)], [], [], [(some ((-2147483648), 2147483647, none), [], [])]), [(6, [some (.inl 76), some (.inr (.inl ((-2147483648), 2147483647, none, none))), some (.inr (.inl (0, 1, none, none))), some (.inr (.inl (0, 2, none, none))), some (.inr (.inl ((-2147483648), 2147483647, none, none))), some (.inr (.inl (0, 10, none, none))), none], [((1, 0, 7), 0, 24, some (1007, 0)), ((1, 76, 52), 0, 24, some (77052, 0))], 21, [0, 0, 0, 0, 0, (-2), 0])])]
def bc_X10_together : List ab_C := bq_X10_together.map (fun c => c.1)
def bi_X10_together : List (Nat × Instr × Nat) := [(0, .iconst 0, 1), (1, .istore 4, 2), (3, .iconst 0, 1), (4, .istore 5, 2), (6, .iload 5, 2), (8, .aload_n 0, 1), (9, .getfield 157, 3), (12, .if_icmp .ge 80, 3), (15, .iload_n 1, 1), (16, .iload 5, 2), (18, .ishr, 1), (19, .iconst 1, 1), (20, .iand, 1), (21, .iconst 1, 1), (22, .if_icmp .ne 7, 3), (25, .iconst 1, 1), (26, .goto 4, 3), (29, .iconst 0, 1), (30, .istore 6, 2), (32, .iload 4, 2), (34, .aload_n 0, 1), (35, .iload 5, 2), (37, .invokevirtual 198, 3), (40, .ifCond .eq 42, 3), (43, .iload 6, 2), (45, .iload_n 2, 1), (46, .if_icmp .ne 36, 3), (49, .iload_n 3, 1), (50, .ifCond .ne 13, 3), (53, .aload_n 0, 1), (54, .getfield 58, 3), (57, .iload 5, 2), (59, .iaload, 1), (60, .goto 23, 3), (63, .iload_n 3, 1), (64, .iconst 1, 1), (65, .if_icmp .ne 13, 3), (68, .aload_n 0, 1), (69, .getfield 61, 3), (72, .iload 5, 2), (74, .iaload, 1), (75, .goto 8, 3), (78, .iconst 1, 1), (79, .goto 4, 3), (82, .iconst 0, 1), (83, .iadd, 1), (84, .istore 4, 2), (86, .iinc 5 1, 3), (89, .goto (-83), 3), (92, .iload 4, 2), (94, .ireturn, 1)]
theorem bd_X10_together : ∀ q ∈ bi_X10_together, decode cX10_together q.1 = .ok q.2 := by decide +kernel
theorem bz_X10_together : bq_X10_together.all (ab_ck ab_hd ab_xs ab_tr bx_X10_together be_X10_together bi_X10_together (some .int) 7 38) = true := by decide +kernel
theorem bm_X10_together (l : Launch) : ex_Met l yX10_together cX10_together 7 (some .int) 1 21 (ab_sp ab_hd bc_X10_together) := ab_met (by decide) (by decide) rfl (bj_X10_together l) bd_X10_together ab_hcm ab_xk bz_X10_together
theorem bw_X10_shed : ec_cw yX10_shed cX10_shed 8 (some .int) := ⟨ec_in (i := 1391) (by decide +kernel) rfl, ec_in (i := 68) (by decide +kernel) rfl, by decide, by decide⟩
theorem bv_X10_shed : Cond.instanceMethod yX10_shed ∈ ec_tb ∧ Cond.selects yX10_shed.cls yX10_shed yX10_shed ∈ ec_tb := ⟨ec_in (i := 1389) (by decide +kernel) rfl, ec_in (i := 1390) (by decide +kernel) rfl⟩
def be_X10_shed : Nat → Option (Nat × Option Nat × List ab_C) := fun ix => match ix with
  | 171 => some (3, none, bc_X10_isIn)
  | 160 => some (2, some 10, bc_X10_finding)
  | 198 => some (2, some 10, bc_X10_canShed)
  | 201 => some (4, some 10, bc_X10_together)
  | _ => none
theorem bk_X10_shed (l : Launch) : ∀ (ix n : Nat) (rc : Option Nat) (sp : ex_S), (be_X10_shed ix).map (fun q => (q.1, q.2.1, ab_sp ab_hd q.2.2)) = some (n, rc, sp) → ex_cok l RX10 2 47 ix n rc sp := by
  intro ix n rc sp h
  obtain ⟨l0, h2, rfl⟩ := ab_dmk h
  clear h
  unfold be_X10_shed at h2
  split at h2
  · cases h2; exact ec_cS (bm_X10_isIn l) bw_X10_isIn bv_X10_isIn (by decide) (by decide) (Or.inl (ec_in (i := 1303) (by decide +kernel) rfl)) (by decide +kernel)
  · cases h2; exact ec_cV (bm_X10_finding l) bw_X10_finding bv_X10_finding (by decide) (by decide) (Or.inl (ec_in (i := 1282) (by decide +kernel) rfl)) (T := TX10) (N := 57) rfl (by decide) (by decide +kernel)
  · cases h2; exact ec_cV (bm_X10_canShed l) bw_X10_canShed bv_X10_canShed (by decide) (by decide) (Or.inl (ec_in (i := 1392) (by decide +kernel) rfl)) (T := TX10) (N := 57) rfl (by decide) (by decide +kernel)
  · cases h2; exact ec_cV (bm_X10_together l) bw_X10_together bv_X10_together (by decide) (by decide) (Or.inl (ec_in (i := 1396) (by decide +kernel) rfl)) (T := TX10) (N := 57) rfl (by decide) (by decide +kernel)
  · cases h2
def bx_X10_shed : ex_K := (RX10, ec_fx fl_X10, ec_cx cl_X10, sl_X10, (fun ix => (be_X10_shed ix).map (fun q => (q.1, q.2.1, ab_sp ab_hd q.2.2))), ec_nz, ec_no)
theorem bj_X10_shed (l : Launch) : ex_ok l 2 47 bx_X10_shed := ⟨ec_fok fo_X10, ec_cok co_X10, so_X10, bk_X10_shed l, fun _ h => (by cases h), fun _ h => (by cases h), fun _ h => (by cases h), fun _ _ h => (by cases h)⟩
def bq_X10_shed : List (ab_C × List ab_Q) := [(([.inl 76, .inr ((-2147483648), 2147483647), .inr ((-2147483648), 2147483647)], [], [(114, some 1)], [(some ((-2147483648), 2147483647, none), [], [])]), [(31, [some (.inl 76), some (.inr (.inl (0, 1000, none, none))), some (.inr (.inl (0, 2, none, none))), some (.inr (.inl ((-2147483648), 2147483647, none, none))), some (.inr (.inl (0, 10, none, none))), none, none, none], [((1, 0, 7), 0, 24, some (1007, 0)), ((1, 76, 52), 0, 24, some (77052, 0))], 4294967317, [0, 0, 0, 0, (-2), 0, 0, 0]), (72, [some (.inl 76), some (.inr (.inl (0, 1000, none, none))), some (.inr (.inl (0, 2, none, none))), some (.inr (.inl ((-2147483648), 2147483647, none, none))), some (.inr (.inl ((-2147483648), 2147483647, none, none))), some (.inr (.inl (0, 2147483647, none, none))), none, none], [((1, 0, 7), 0, 24, some (1007, 0)), ((1, 76, 52), 0, 24, some (77052, 0))], 4294967295, [0, 0, 0, 0, 0, (-2), 0, 0])])]
def bc_X10_shed : List ab_C := bq_X10_shed.map (fun c => c.1)
def bi_X10_shed : List (Nat × Instr × Nat) := [(0, .iload_n 1, 1), (1, .iconst 0, 1), (2, .sipush 1000, 3), (5, .invokestatic 171, 3), (8, .ifCond .eq 12, 3), (11, .iload_n 2, 1), (12, .iconst 0, 1), (13, .iconst 2, 1), (14, .invokestatic 171, 3), (17, .ifCond .ne 9, 3), (20, .aload_n 0, 1), (21, .iconst 1, 1), (22, .invokevirtual 160, 3), (25, .ireturn, 1), (26, .iconst 0, 1), (27, .istore_n 3, 1), (28, .iconst 0, 1), (29, .istore 4, 2), (31, .iload 4, 2), (33, .aload_n 0, 1), (34, .getfield 157, 3), (37, .if_icmp .ge 29, 3), (40, .iload_n 3, 1), (41, .aload_n 0, 1), (42, .iload 4, 2), (44, .invokevirtual 198, 3), (47, .ifCond .eq 10, 3), (50, .iconst 1, 1), (51, .iload 4, 2), (53, .ishl, 1), (54, .goto 4, 3), (57, .iconst 0, 1), (58, .ior, 1), (59, .istore_n 3, 1), (60, .iinc 4 1, 3), (63, .goto (-32), 3), (66, .iload_n 3, 1), (67, .istore 4, 2), (69, .iconst 0, 1), (70, .istore 5, 2), (72, .iload 5, 2), (74, .iconst 1, 1), (75, .aload_n 0, 1), (76, .getfield 157, 3), (79, .ishl, 1), (80, .if_icmp .ge 104, 3), (83, .iload 5, 2), (85, .iload_n 3, 1), (86, .iconst (-1), 1), (87, .ixor, 1), (88, .iand, 1), (89, .ifCond .ne 89, 3), (92, .aload_n 0, 1), (93, .iload 5, 2), (95, .iconst 0, 1), (96, .iconst 0, 1), (97, .invokevirtual 201, 3), (100, .iload_n 1, 1), (101, .if_icmp .gt 77, 3), (104, .aload_n 0, 1), (105, .iload 5, 2), (107, .iconst 1, 1), (108, .iconst 1, 1), (109, .invokevirtual 201, 3), (112, .aload_n 0, 1), (113, .iload 4, 2), (115, .iconst 1, 1), (116, .iconst 1, 1), (117, .invokevirtual 201, 3), (120, .isub, 1), (121, .istore 6, 2), (123, .aload_n 0, 1), (124, .iload 5, 2), (126, .iconst 1, 1), (127, .iconst 2, 1), (128, .invokevirtual 201, 3), (131, .aload_n 0, 1), (132, .iload 4, 2), (134, .iconst 1, 1), (135, .iconst 2, 1), (136, .invokevirtual 201, 3), (139, .isub, 1), (140, .istore 7, 2), (142, .iload 6, 2), (144, .ifCond .lt 25, 3), (147, .iload 6, 2), (149, .ifCond .ne 25, 3), (152, .iload 7, 2), (154, .ifCond .lt 15, 3), (157, .iload 7, 2), (159, .ifCond .ne 15, 3), (162, .iload 5, 2), (164, .iload 4, 2), (166, .if_icmp .ge 8, 3), (169, .iload 5, 2), (171, .goto 5, 3), (174, .iload 4, 2), (176, .istore 4, 2), (178, .iinc 5 1, 3), (181, .goto (-109), 3), (184, .iload_n 2, 1), (185, .ifCond .ne 8, 3), (188, .iload 4, 2), (190, .goto 27, 3), (193, .iload_n 2, 1), (194, .iconst 1, 1), (195, .if_icmp .ne 14, 3), (198, .aload_n 0, 1), (199, .iload 4, 2), (201, .iconst 1, 1), (202, .iconst 1, 1), (203, .invokevirtual 201, 3), (206, .goto 11, 3), (209, .aload_n 0, 1), (210, .iload 4, 2), (212, .iconst 0, 1), (213, .iconst 0, 1), (214, .invokevirtual 201, 3), (217, .ireturn, 1)]
theorem bd_X10_shed : ∀ q ∈ bi_X10_shed, decode cX10_shed q.1 = .ok q.2 := by decide +kernel
theorem bz_X10_shed : bq_X10_shed.all (ab_ck ab_hd ab_xs ab_tr bx_X10_shed be_X10_shed bi_X10_shed (some .int) 8 61) = true := by decide +kernel
theorem bm_X10_shed (l : Launch) : ex_Met l yX10_shed cX10_shed 8 (some .int) 2 47 (ab_sp ab_hd bc_X10_shed) := ab_met (by decide) (by decide) rfl (bj_X10_shed l) bd_X10_shed ab_hcm ab_xk bz_X10_shed
theorem bw_X10_endText : ec_cw yX10_endText cX10_endText 2 none := ⟨ec_in (i := 1427) (by decide +kernel) rfl, ec_in (i := 68) (by decide +kernel) rfl, by decide, by decide⟩
theorem bv_X10_endText : Cond.instanceMethod yX10_endText ∈ ec_tb ∧ Cond.selects yX10_endText.cls yX10_endText yX10_endText ∈ ec_tb := ⟨ec_in (i := 1426) (by decide +kernel) rfl, ec_in (i := 38) (by decide +kernel) rfl⟩
def bx_X10_endText : ex_K := (RX10, ec_fx fl_X10, ec_cx cl_X10, sl_X10, (fun ix => (ec_no ix).map (fun (q : Nat × Option Nat × List ab_C) => (q.1, q.2.1, ab_sp ab_hd q.2.2))), ec_nz, ec_no)
theorem bj_X10_endText (l : Launch) : ex_ok l 0 0 bx_X10_endText := ⟨ec_fok fo_X10, ec_cok co_X10, so_X10, fun _ _ _ _ h => (by cases h), fun _ h => (by cases h), fun _ h => (by cases h), fun _ h => (by cases h), fun _ _ h => (by cases h)⟩
def bq_X10_endText : List (ab_C × List ab_Q) := [(([.inl 76, .inr (1, 4)], [], [(101, some 4), (101, some 5), (101, some 6), (101, some 7), (101, some 8), (101, some 9), (101, some 10)], [(none, [], [])]), [])]
def bc_X10_endText : List ab_C := bq_X10_endText.map (fun c => c.1)
def bi_X10_endText : List (Nat × Instr × Nat) := [(0, .aload_n 0, 1), (1, .getfield 82, 3), (4, .iconst 4, 1), (5, .iconst 0, 1), (6, .iastore, 1), (7, .aload_n 0, 1), (8, .getfield 82, 3), (11, .iconst 5, 1), (12, .iconst (-1), 1), (13, .iastore, 1), (14, .aload_n 0, 1), (15, .getfield 82, 3), (18, .bipush 6, 2), (20, .iconst 0, 1), (21, .iastore, 1), (22, .aload_n 0, 1), (23, .getfield 82, 3), (26, .bipush 7, 2), (28, .iconst 0, 1), (29, .iastore, 1), (30, .aload_n 0, 1), (31, .getfield 82, 3), (34, .bipush 8, 2), (36, .iconst (-1), 1), (37, .iastore, 1), (38, .aload_n 0, 1), (39, .getfield 82, 3), (42, .bipush 9, 2), (44, .iconst 0, 1), (45, .iastore, 1), (46, .aload_n 0, 1), (47, .getfield 82, 3), (50, .bipush 10, 2), (52, .iload_n 1, 1), (53, .iastore, 1), (54, .return_, 1)]
theorem bd_X10_endText : ∀ q ∈ bi_X10_endText, decode cX10_endText q.1 = .ok q.2 := by decide +kernel
theorem bz_X10_endText : bq_X10_endText.all (ab_ck ab_hd ab_xs ab_tr bx_X10_endText ec_no bi_X10_endText none 2 38) = true := by decide +kernel
theorem bm_X10_endText (l : Launch) : ex_Met l yX10_endText cX10_endText 2 none 0 0 (ab_sp ab_hd bc_X10_endText) := ab_met (by decide) (by decide) rfl (bj_X10_endText l) bd_X10_endText ab_hcm ab_xk bz_X10_endText
theorem bw_X10_abortText : ec_cw yX10_abortText cX10_abortText 1 none := ⟨ec_in (i := 1423) (by decide +kernel) rfl, ec_in (i := 68) (by decide +kernel) rfl, by decide, by decide⟩
theorem bv_X10_abortText : Cond.instanceMethod yX10_abortText ∈ ec_tb ∧ Cond.selects yX10_abortText.cls yX10_abortText yX10_abortText ∈ ec_tb := ⟨ec_in (i := 1422) (by decide +kernel) rfl, ec_in (i := 37) (by decide +kernel) rfl⟩
def be_X10_abortText : Nat → Option (Nat × Option Nat × List ab_C) := fun ix => match ix with
  | 205 => some (2, some 10, bc_X10_endText)
  | _ => none
theorem bk_X10_abortText (l : Launch) : ∀ (ix n : Nat) (rc : Option Nat) (sp : ex_S), (be_X10_abortText ix).map (fun q => (q.1, q.2.1, ab_sp ab_hd q.2.2)) = some (n, rc, sp) → ex_cok l RX10 1 21 ix n rc sp := by
  intro ix n rc sp h
  obtain ⟨l0, h2, rfl⟩ := ab_dmk h
  clear h
  unfold be_X10_abortText at h2
  split at h2
  · cases h2; exact ec_cV (bm_X10_endText l) bw_X10_endText bv_X10_endText (by decide) (by decide) (Or.inl (ec_in (i := 1424) (by decide +kernel) rfl)) (T := TX10) (N := 57) rfl (by decide) (by decide +kernel)
  · cases h2
def bx_X10_abortText : ex_K := (RX10, ec_fx fl_X10, ec_cx cl_X10, sl_X10, (fun ix => (be_X10_abortText ix).map (fun q => (q.1, q.2.1, ab_sp ab_hd q.2.2))), ec_nz, ec_no)
theorem bj_X10_abortText (l : Launch) : ex_ok l 1 21 bx_X10_abortText := ⟨ec_fok fo_X10, ec_cok co_X10, so_X10, bk_X10_abortText l, fun _ h => (by cases h), fun _ h => (by cases h), fun _ h => (by cases h), fun _ _ h => (by cases h)⟩
def bq_X10_abortText : List (ab_C × List ab_Q) := [(([.inl 76], [], [(101, some 4), (101, some 5), (101, some 6), (101, some 7), (101, some 8), (101, some 9), (101, some 10)], [(none, [], [])]), [])]
def bc_X10_abortText : List ab_C := bq_X10_abortText.map (fun c => c.1)
def bi_X10_abortText : List (Nat × Instr × Nat) := [(0, .aload_n 0, 1), (1, .getfield 82, 3), (4, .bipush 8, 2), (6, .iaload, 1), (7, .ifCond .lt 14, 3), (10, .aload_n 0, 1), (11, .getfield 82, 3), (14, .bipush 7, 2), (16, .iaload, 1), (17, .iconst 1, 1), (18, .if_icmp .ne 9, 3), (21, .aload_n 0, 1), (22, .iconst 3, 1), (23, .invokevirtual 205, 3), (26, .return_, 1), (27, .aload_n 0, 1), (28, .getfield 82, 3), (31, .iconst 5, 1), (32, .aload_n 0, 1), (33, .getfield 82, 3), (36, .bipush 8, 2), (38, .iaload, 1), (39, .iastore, 1), (40, .aload_n 0, 1), (41, .getfield 82, 3), (44, .bipush 7, 2), (46, .iconst 1, 1), (47, .iastore, 1), (48, .aload_n 0, 1), (49, .getfield 82, 3), (52, .bipush 6, 2), (54, .iconst 0, 1), (55, .iastore, 1), (56, .aload_n 0, 1), (57, .getfield 82, 3), (60, .bipush 9, 2), (62, .iconst 0, 1), (63, .iastore, 1), (64, .return_, 1)]
theorem bd_X10_abortText : ∀ q ∈ bi_X10_abortText, decode cX10_abortText q.1 = .ok q.2 := by decide +kernel
theorem bz_X10_abortText : bq_X10_abortText.all (ab_ck ab_hd ab_xs ab_tr bx_X10_abortText be_X10_abortText bi_X10_abortText none 1 37) = true := by decide +kernel
theorem bm_X10_abortText (l : Launch) : ex_Met l yX10_abortText cX10_abortText 1 none 1 21 (ab_sp ab_hd bc_X10_abortText) := ab_met (by decide) (by decide) rfl (bj_X10_abortText l) bd_X10_abortText ab_hcm ab_xk bz_X10_abortText
theorem bw_X10_isLine : ec_cw yX10_isLine cX10_isLine 2 (some .boolean) := ⟨ec_in (i := 1462) (by decide +kernel) rfl, ec_in (i := 68) (by decide +kernel) rfl, by decide, by decide⟩
theorem bv_X10_isLine : Cond.instanceMethod yX10_isLine ∈ ec_tb ∧ Cond.selects yX10_isLine.cls yX10_isLine yX10_isLine ∈ ec_tb := ⟨ec_in (i := 1461) (by decide +kernel) rfl, ec_in (i := 41) (by decide +kernel) rfl⟩
def bx_X10_isLine : ex_K := (RX10, ec_fx fl_X10, ec_cx cl_X10, sl_X10, (fun ix => (ec_no ix).map (fun (q : Nat × Option Nat × List ab_C) => (q.1, q.2.1, ab_sp ab_hd q.2.2))), ec_nz, ec_no)
theorem bj_X10_isLine (l : Launch) : ex_ok l 0 0 bx_X10_isLine := ⟨ec_fok fo_X10, ec_cok co_X10, so_X10, fun _ _ _ _ h => (by cases h), fun _ h => (by cases h), fun _ h => (by cases h), fun _ h => (by cases h), fun _ _ h => (by cases h)⟩
def bq_X10_isLine : List (ab_C × List ab_Q) := [(([.inl 76, .inr ((-2147483648), 2147483647)], [], [], [(some (0, 0, none), [], []), (some (1, 1, none), [((0, 1, 0), 0, 39, none)], [])]), [])]
def bc_X10_isLine : List ab_C := bq_X10_isLine.map (fun c => c.1)
def bi_X10_isLine : List (Nat × Instr × Nat) := [(0, .iload_n 1, 1), (1, .ifCond .lt 15, 3), (4, .iload_n 1, 1), (5, .aload_n 0, 1), (6, .getfield 209, 3), (9, .if_icmp .ge 7, 3), (12, .iconst 1, 1), (13, .goto 4, 3), (16, .iconst 0, 1), (17, .ireturn, 1)]
theorem bd_X10_isLine : ∀ q ∈ bi_X10_isLine, decode cX10_isLine q.1 = .ok q.2 := by decide +kernel
theorem bz_X10_isLine : bq_X10_isLine.all (ab_ck ab_hd ab_xs ab_tr bx_X10_isLine ec_no bi_X10_isLine (some .boolean) 2 11) = true := by decide +kernel
theorem bm_X10_isLine (l : Launch) : ex_Met l yX10_isLine cX10_isLine 2 (some .boolean) 0 0 (ab_sp ab_hd bc_X10_isLine) := ab_met (by decide) (by decide) rfl (bj_X10_isLine l) bd_X10_isLine ab_hcm ab_xk bz_X10_isLine
theorem bw_X10_canCheck : ec_cw yX10_canCheck cX10_canCheck 4 (some .boolean) := ⟨ec_in (i := 1470) (by decide +kernel) rfl, ec_in (i := 68) (by decide +kernel) rfl, by decide, by decide⟩
theorem bv_X10_canCheck : Cond.instanceMethod yX10_canCheck ∈ ec_tb ∧ Cond.selects yX10_canCheck.cls yX10_canCheck yX10_canCheck ∈ ec_tb := ⟨ec_in (i := 1469) (by decide +kernel) rfl, ec_in (i := 43) (by decide +kernel) rfl⟩
def be_X10_canCheck : Nat → Option (Nat × Option Nat × List ab_C) := fun ix => match ix with
  | 212 => some (2, some 10, bc_X10_isLine)
  | 171 => some (3, none, bc_X10_isIn)
  | 164 => some (2, some 10, bc_X10_isModule)
  | 184 => some (2, some 10, bc_X10_isMachine)
  | _ => none
theorem bk_X10_canCheck (l : Launch) : ∀ (ix n : Nat) (rc : Option Nat) (sp : ex_S), (be_X10_canCheck ix).map (fun q => (q.1, q.2.1, ab_sp ab_hd q.2.2)) = some (n, rc, sp) → ex_cok l RX10 1 22 ix n rc sp := by
  intro ix n rc sp h
  obtain ⟨l0, h2, rfl⟩ := ab_dmk h
  clear h
  unfold be_X10_canCheck at h2
  split at h2
  · cases h2; exact ec_cV (bm_X10_isLine l) bw_X10_isLine bv_X10_isLine (by decide) (by decide) (Or.inl (ec_in (i := 1459) (by decide +kernel) rfl)) (T := TX10) (N := 57) rfl (by decide) (by decide +kernel)
  · cases h2; exact ec_cS (bm_X10_isIn l) bw_X10_isIn bv_X10_isIn (by decide) (by decide) (Or.inl (ec_in (i := 1303) (by decide +kernel) rfl)) (by decide +kernel)
  · cases h2; exact ec_cV (bm_X10_isModule l) bw_X10_isModule bv_X10_isModule (by decide) (by decide) (Or.inl (ec_in (i := 1291) (by decide +kernel) rfl)) (T := TX10) (N := 57) rfl (by decide) (by decide +kernel)
  · cases h2; exact ec_cV (bm_X10_isMachine l) bw_X10_isMachine bv_X10_isMachine (by decide) (by decide) (Or.inl (ec_in (i := 1356) (by decide +kernel) rfl)) (T := TX10) (N := 57) rfl (by decide) (by decide +kernel)
  · cases h2
def bx_X10_canCheck : ex_K := (RX10, ec_fx fl_X10, ec_cx cl_X10, sl_X10, (fun ix => (be_X10_canCheck ix).map (fun q => (q.1, q.2.1, ab_sp ab_hd q.2.2))), ec_nz, ec_no)
theorem bj_X10_canCheck (l : Launch) : ex_ok l 1 22 bx_X10_canCheck := ⟨ec_fok fo_X10, ec_cok co_X10, so_X10, bk_X10_canCheck l, fun _ h => (by cases h), fun _ h => (by cases h), fun _ h => (by cases h), fun _ _ h => (by cases h)⟩
def bq_X10_canCheck : List (ab_C × List ab_Q) := [(([.inl 76, .inr ((-2147483648), 2147483647), .inr ((-2147483648), 2147483647), .inr ((-2147483648), 2147483647)], [], [], [(some (0, 0, none), [], []), (some (1, 1, none), [((0, 1, 0), 0, 4, none), ((0, 2, 0), 0, 2147483647, none), ((3, 2, 10), 0, 5, none)], []), (some (1, 1, none), [((0, 1, 0), 5, 5, none), ((0, 2, 0), 0, 2147483647, none), ((3, 2, 10), 0, 3, none)], []), (some (1, 1, none), [((0, 1, 0), 6, 6, none), ((0, 2, 0), 0, 2147483647, none)], []), (some (1, 1, none), [((0, 1, 0), 7, 7, none), ((0, 2, 0), 0, 2147483647, none), ((3, 2, 10), 0, 9, none)], [])]), [])]
def bc_X10_canCheck : List ab_C := bq_X10_canCheck.map (fun c => c.1)
def bi_X10_canCheck : List (Nat × Instr × Nat) := [(0, .iload_n 2, 1), (1, .ifCond .lt 21, 3), (4, .aload_n 0, 1), (5, .iload_n 3, 1), (6, .invokevirtual 212, 3), (9, .ifCond .eq 13, 3), (12, .iload_n 1, 1), (13, .iconst 0, 1), (14, .bipush 7, 2), (16, .invokestatic 171, 3), (19, .ifCond .ne 5, 3), (22, .iconst 0, 1), (23, .ireturn, 1), (24, .iload_n 1, 1), (25, .iconst 5, 1), (26, .if_icmp .ge 14, 3), (29, .aload_n 0, 1), (30, .iload_n 2, 1), (31, .bipush 10, 2), (33, .irem, 1), (34, .invokevirtual 164, 3), (37, .goto 53, 3), (40, .iload_n 1, 1), (41, .iconst 5, 1), (42, .if_icmp .ne 19, 3), (45, .iload_n 2, 1), (46, .bipush 10, 2), (48, .irem, 1), (49, .iconst 3, 1), (50, .if_icmp .gt 7, 3), (53, .iconst 1, 1), (54, .goto 36, 3), (57, .iconst 0, 1), (58, .goto 32, 3), (61, .iload_n 1, 1), (62, .bipush 6, 2), (64, .if_icmp .eq 21, 3), (67, .aload_n 0, 1), (68, .iload_n 2, 1), (69, .bipush 10, 2), (71, .irem, 1), (72, .invokevirtual 184, 3), (75, .ifCond .eq 14, 3), (78, .iload_n 2, 1), (79, .bipush 10, 2), (81, .idiv, 1), (82, .ifCond .ne 7, 3), (85, .iconst 1, 1), (86, .goto 4, 3), (89, .iconst 0, 1), (90, .ireturn, 1)]
theorem bd_X10_canCheck : ∀ q ∈ bi_X10_canCheck, decode cX10_canCheck q.1 = .ok q.2 := by decide +kernel
theorem bz_X10_canCheck : bq_X10_canCheck.all (ab_ck ab_hd ab_xs ab_tr bx_X10_canCheck be_X10_canCheck bi_X10_canCheck (some .boolean) 4 35) = true := by decide +kernel
theorem bm_X10_canCheck (l : Launch) : ex_Met l yX10_canCheck cX10_canCheck 4 (some .boolean) 1 22 (ab_sp ab_hd bc_X10_canCheck) := ab_met (by decide) (by decide) rfl (bj_X10_canCheck l) bd_X10_canCheck ab_hcm ab_xk bz_X10_canCheck
theorem bw_X10_isSo : ec_cw yX10_isSo cX10_isSo 3 (some .boolean) := ⟨ec_in (i := 1474) (by decide +kernel) rfl, ec_in (i := 68) (by decide +kernel) rfl, by decide, by decide⟩
theorem bv_X10_isSo : Cond.instanceMethod yX10_isSo ∈ ec_tb ∧ Cond.selects yX10_isSo.cls yX10_isSo yX10_isSo ∈ ec_tb := ⟨ec_in (i := 1473) (by decide +kernel) rfl, ec_in (i := 44) (by decide +kernel) rfl⟩
def bx_X10_isSo : ex_K := (RX10, ec_fx fl_X10, ec_cx cl_X10, sl_X10, (fun ix => (ec_no ix).map (fun (q : Nat × Option Nat × List ab_C) => (q.1, q.2.1, ab_sp ab_hd q.2.2))), ec_nz, ec_no)
theorem bj_X10_isSo (l : Launch) : ex_ok l 0 0 bx_X10_isSo := ⟨ec_fok fo_X10, ec_cok co_X10, so_X10, fun _ _ _ _ h => (by cases h), fun _ h => (by cases h), fun _ h => (by cases h), fun _ h => (by cases h), fun _ _ h => (by cases h)⟩
def bq_X10_isSo : List (ab_C × List ab_Q) := [(([.inl 76, .inr (7, 7), .inr (0, 2147483647)], [((3, 2, 10), 0, 9, none)], [], [(some (0, 0, none), [], []), (some (1, 1, none), [], [])]), []),
  (([.inl 76, .inr (6, 6), .inr (0, 2147483647)], [], [], [(some (0, 0, none), [], []), (some (1, 1, none), [], [])]), []),
  (([.inl 76, .inr (5, 5), .inr (0, 2147483647)], [((3, 2, 10), 0, 3, none)], [], [(some (0, 0, none), [], []), (some (1, 1, none), [], [])]), []),
  (([.inl 76, .inr (0, 4), .inr (0, 2147483647)], [((3, 2, 10), 0, 5, none)], [], [(some (0, 0, none), [], []), (some (1, 1, none), [], [])]), [])]
def bc_X10_isSo : List ab_C := bq_X10_isSo.map (fun c => c.1)
def bi_X10_isSo : List (Nat × Instr × Nat) := [(0, .iload_n 1, 1), (1, .tableswitch 132 0 6 #[43, 43, 43, 43, 69, 91, 113], 43), (44, .aload_n 0, 1), (45, .getfield 7, 3), (48, .iconst 4, 1), (49, .iload_n 2, 1), (50, .bipush 10, 2), (52, .irem, 1), (53, .imul, 1), (54, .iload_n 1, 1), (55, .iadd, 1), (56, .iaload, 1), (57, .iload_n 2, 1), (58, .bipush 10, 2), (60, .idiv, 1), (61, .if_icmp .lt 7, 3), (64, .iconst 1, 1), (65, .goto 4, 3), (68, .iconst 0, 1), (69, .ireturn, 1), (70, .aload_n 0, 1), (71, .getfield 13, 3), (74, .iload_n 2, 1), (75, .bipush 10, 2), (77, .irem, 1), (78, .iaload, 1), (79, .iload_n 2, 1), (80, .bipush 10, 2), (82, .idiv, 1), (83, .if_icmp .lt 7, 3), (86, .iconst 1, 1), (87, .goto 4, 3), (90, .iconst 0, 1), (91, .ireturn, 1), (92, .aload_n 0, 1), (93, .getfield 28, 3), (96, .iload_n 2, 1), (97, .bipush 10, 2), (99, .irem, 1), (100, .iaload, 1), (101, .iload_n 2, 1), (102, .bipush 10, 2), (104, .idiv, 1), (105, .if_icmp .lt 7, 3), (108, .iconst 1, 1), (109, .goto 4, 3), (112, .iconst 0, 1), (113, .ireturn, 1), (114, .aload_n 0, 1), (115, .getfield 82, 3), (118, .iconst 1, 1), (119, .iaload, 1), (120, .iload_n 2, 1), (121, .bipush 10, 2), (123, .idiv, 1), (124, .if_icmp .lt 7, 3), (127, .iconst 1, 1), (128, .goto 4, 3), (131, .iconst 0, 1), (132, .ireturn, 1), (133, .aload_n 0, 1), (134, .getfield 73, 3), (137, .iload_n 2, 1), (138, .bipush 10, 2), (140, .irem, 1), (141, .iaload, 1), (142, .ifCond .ne 7, 3), (145, .iconst 1, 1), (146, .goto 4, 3), (149, .iconst 0, 1), (150, .ireturn, 1)]
theorem bd_X10_isSo : ∀ q ∈ bi_X10_isSo, decode cX10_isSo q.1 = .ok q.2 := by decide +kernel
theorem bz_X10_isSo : bq_X10_isSo.all (ab_ck ab_hd ab_xs ab_tr bx_X10_isSo ec_no bi_X10_isSo (some .boolean) 3 21) = true := by decide +kernel
theorem bm_X10_isSo (l : Launch) : ex_Met l yX10_isSo cX10_isSo 3 (some .boolean) 0 0 (ab_sp ab_hd bc_X10_isSo) := ab_met (by decide) (by decide) rfl (bj_X10_isSo l) bd_X10_isSo ab_hcm ab_xk bz_X10_isSo
theorem bw_X10_doLine : ec_cw yX10_doLine cX10_doLine 5 (some .boolean) := ⟨ec_in (i := 1466) (by decide +kernel) rfl, ec_in (i := 68) (by decide +kernel) rfl, by decide, by decide⟩
theorem bv_X10_doLine : Cond.instanceMethod yX10_doLine ∈ ec_tb ∧ Cond.selects yX10_doLine.cls yX10_doLine yX10_doLine ∈ ec_tb := ⟨ec_in (i := 1465) (by decide +kernel) rfl, ec_in (i := 42) (by decide +kernel) rfl⟩
def be_X10_doLine : Nat → Option (Nat × Option Nat × List ab_C) := fun ix => match ix with
  | 215 => some (4, some 10, bc_X10_canCheck)
  | 218 => some (3, some 10, bc_X10_isSo)
  | 184 => some (2, some 10, bc_X10_isMachine)
  | 168 => some (2, some 10, bc_X10_isHatch)
  | 171 => some (3, none, bc_X10_isIn)
  | 177 => some (2, some 10, bc_X10_isPerson)
  | 164 => some (2, some 10, bc_X10_isModule)
  | 180 => some (3, some 10, bc_X10_canGo)
  | 212 => some (2, some 10, bc_X10_isLine)
  | 190 => some (4, some 10, bc_X10_refusesMend)
  | 194 => some (4, some 10, bc_X10_beginMend)
  | _ => none
theorem bk_X10_doLine (l : Launch) : ∀ (ix n : Nat) (rc : Option Nat) (sp : ex_S), (be_X10_doLine ix).map (fun q => (q.1, q.2.1, ab_sp ab_hd q.2.2)) = some (n, rc, sp) → ex_cok l RX10 2 46 ix n rc sp := by
  intro ix n rc sp h
  obtain ⟨l0, h2, rfl⟩ := ab_dmk h
  clear h
  unfold be_X10_doLine at h2
  split at h2
  · cases h2; exact ec_cV (bm_X10_canCheck l) bw_X10_canCheck bv_X10_canCheck (by decide) (by decide) (Or.inl (ec_in (i := 1467) (by decide +kernel) rfl)) (T := TX10) (N := 57) rfl (by decide) (by decide +kernel)
  · cases h2; exact ec_cV (bm_X10_isSo l) bw_X10_isSo bv_X10_isSo (by decide) (by decide) (Or.inl (ec_in (i := 1471) (by decide +kernel) rfl)) (T := TX10) (N := 57) rfl (by decide) (by decide +kernel)
  · cases h2; exact ec_cV (bm_X10_isMachine l) bw_X10_isMachine bv_X10_isMachine (by decide) (by decide) (Or.inl (ec_in (i := 1356) (by decide +kernel) rfl)) (T := TX10) (N := 57) rfl (by decide) (by decide +kernel)
  · cases h2; exact ec_cV (bm_X10_isHatch l) bw_X10_isHatch bv_X10_isHatch (by decide) (by decide) (Or.inl (ec_in (i := 1299) (by decide +kernel) rfl)) (T := TX10) (N := 57) rfl (by decide) (by decide +kernel)
  · cases h2; exact ec_cS (bm_X10_isIn l) bw_X10_isIn bv_X10_isIn (by decide) (by decide) (Or.inl (ec_in (i := 1303) (by decide +kernel) rfl)) (by decide +kernel)
  · cases h2; exact ec_cV (bm_X10_isPerson l) bw_X10_isPerson bv_X10_isPerson (by decide) (by decide) (Or.inl (ec_in (i := 1332) (by decide +kernel) rfl)) (T := TX10) (N := 57) rfl (by decide) (by decide +kernel)
  · cases h2; exact ec_cV (bm_X10_isModule l) bw_X10_isModule bv_X10_isModule (by decide) (by decide) (Or.inl (ec_in (i := 1291) (by decide +kernel) rfl)) (T := TX10) (N := 57) rfl (by decide) (by decide +kernel)
  · cases h2; exact ec_cV (bm_X10_canGo l) bw_X10_canGo bv_X10_canGo (by decide) (by decide) (Or.inl (ec_in (i := 1336) (by decide +kernel) rfl)) (T := TX10) (N := 57) rfl (by decide) (by decide +kernel)
  · cases h2; exact ec_cV (bm_X10_isLine l) bw_X10_isLine bv_X10_isLine (by decide) (by decide) (Or.inl (ec_in (i := 1459) (by decide +kernel) rfl)) (T := TX10) (N := 57) rfl (by decide) (by decide +kernel)
  · cases h2; exact ec_cV (bm_X10_refusesMend l) bw_X10_refusesMend bv_X10_refusesMend (by decide) (by decide) (Or.inl (ec_in (i := 1376) (by decide +kernel) rfl)) (T := TX10) (N := 57) rfl (by decide) (by decide +kernel)
  · cases h2; exact ec_cV (bm_X10_beginMend l) bw_X10_beginMend bv_X10_beginMend (by decide) (by decide) (Or.inl (ec_in (i := 1384) (by decide +kernel) rfl)) (T := TX10) (N := 57) rfl (by decide) (by decide +kernel)
  · cases h2
def bx_X10_doLine : ex_K := (RX10, ec_fx fl_X10, ec_cx cl_X10, sl_X10, (fun ix => (be_X10_doLine ix).map (fun q => (q.1, q.2.1, ab_sp ab_hd q.2.2))), ec_nz, ec_no)
theorem bj_X10_doLine (l : Launch) : ex_ok l 2 46 bx_X10_doLine := ⟨ec_fok fo_X10, ec_cok co_X10, so_X10, bk_X10_doLine l, fun _ h => (by cases h), fun _ h => (by cases h), fun _ h => (by cases h), fun _ _ h => (by cases h)⟩
def bq_X10_doLine : List (ab_C × List ab_Q) := [(([.inl 76, .inr ((-2147483648), 2147483647), .inr ((-2147483648), 2147483647), .inr ((-2147483648), 2147483647), .inr ((-2147483648), 2147483647)], [], [(82, none), (84, none), (85, none), (86, none), (87, none), (97, none), (100, none), (101, some 5), (101, some 8), (101, some 9)], [(some (0, 0, none), [], []), (some (1, 1, none), [((0, 1, 0), 1, 11, none), ((0, 2, 0), 0, 100, none)], [])]), [])]
def bc_X10_doLine : List ab_C := bq_X10_doLine.map (fun c => c.1)
def bi_X10_doLine : List (Nat × Instr × Nat) := [(0, .iload_n 1, 1), (1, .tableswitch 286 1 11 #[59, 102, 102, 131, 131, 160, 185, 222, 243, 286, 262], 59), (60, .aload_n 0, 1), (61, .iload_n 2, 1), (62, .iload_n 3, 1), (63, .iload 4, 2), (65, .invokevirtual 215, 3), (68, .ifCond .ne 5, 3), (71, .iconst 0, 1), (72, .ireturn, 1), (73, .aload_n 0, 1), (74, .getfield 82, 3), (77, .iconst 5, 1), (78, .aload_n 0, 1), (79, .iload_n 2, 1), (80, .iload_n 3, 1), (81, .invokevirtual 218, 3), (84, .ifCond .eq 14, 3), (87, .aload_n 0, 1), (88, .getfield 82, 3), (91, .iconst 5, 1), (92, .iaload, 1), (93, .iconst 1, 1), (94, .iadd, 1), (95, .goto 5, 3), (98, .iload 4, 2), (100, .iastore, 1), (101, .iconst 1, 1), (102, .ireturn, 1), (103, .aload_n 0, 1), (104, .iload_n 2, 1), (105, .invokevirtual 184, 3), (108, .ifCond .ne 5, 3), (111, .iconst 0, 1), (112, .ireturn, 1), (113, .aload_n 0, 1), (114, .getfield 70, 3), (117, .iload_n 2, 1), (118, .iload_n 1, 1), (119, .iconst 2, 1), (120, .if_icmp .ne 7, 3), (123, .iconst 1, 1), (124, .goto 4, 3), (127, .iconst 0, 1), (128, .iastore, 1), (129, .goto 160, 3), (132, .aload_n 0, 1), (133, .iload_n 2, 1), (134, .invokevirtual 168, 3), (137, .ifCond .ne 5, 3), (140, .iconst 0, 1), (141, .ireturn, 1), (142, .aload_n 0, 1), (143, .getfield 25, 3), (146, .iload_n 2, 1), (147, .iload_n 1, 1), (148, .iconst 4, 1), (149, .if_icmp .ne 7, 3), (152, .iconst 1, 1), (153, .goto 4, 3), (156, .iconst 0, 1), (157, .iastore, 1), (158, .goto 131, 3), (161, .iload_n 2, 1), (162, .iconst 1, 1), (163, .bipush 100, 2), (165, .invokestatic 171, 3), (168, .ifCond .ne 5, 3), (171, .iconst 0, 1), (172, .ireturn, 1), (173, .aload_n 0, 1), (174, .getfield 82, 3), (177, .bipush 9, 2), (179, .iload_n 2, 1), (180, .iconst 1, 1), (181, .isub, 1), (182, .iastore, 1), (183, .goto 106, 3), (186, .aload_n 0, 1), (187, .iload_n 2, 1), (188, .invokevirtual 177, 3), (191, .ifCond .eq 20, 3), (194, .aload_n 0, 1), (195, .iload_n 3, 1), (196, .invokevirtual 164, 3), (199, .ifCond .eq 12, 3), (202, .aload_n 0, 1), (203, .iload_n 2, 1), (204, .iload_n 3, 1), (205, .invokevirtual 180, 3), (208, .ifCond .ne 5, 3), (211, .iconst 0, 1), (212, .ireturn, 1), (213, .aload_n 0, 1), (214, .getfield 31, 3), (217, .iload_n 2, 1), (218, .iload_n 3, 1), (219, .iastore, 1), (220, .goto 69, 3), (223, .aload_n 0, 1), (224, .iload_n 2, 1), (225, .invokevirtual 212, 3), (228, .ifCond .ne 5, 3), (231, .iconst 0, 1), (232, .ireturn, 1), (233, .aload_n 0, 1), (234, .getfield 82, 3), (237, .bipush 8, 2), (239, .iload_n 2, 1), (240, .iastore, 1), (241, .goto 48, 3), (244, .aload_n 0, 1), (245, .iload_n 2, 1), (246, .invokevirtual 212, 3), (249, .ifCond .ne 5, 3), (252, .iconst 0, 1), (253, .ireturn, 1), (254, .aload_n 0, 1), (255, .getfield 82, 3), (258, .iconst 5, 1), (259, .iload_n 2, 1), (260, .iastore, 1), (261, .iconst 1, 1), (262, .ireturn, 1), (263, .aload_n 0, 1), (264, .iload_n 2, 1), (265, .iload_n 3, 1), (266, .iload 4, 2), (268, .invokevirtual 190, 3), (271, .ifCond .eq 5, 3), (274, .iconst 0, 1), (275, .ireturn, 1), (276, .aload_n 0, 1), (277, .iload_n 2, 1), (278, .iload_n 3, 1), (279, .iload 4, 2), (281, .invokevirtual 194, 3), (284, .goto 5, 3), (287, .iconst 0, 1), (288, .ireturn, 1), (289, .aload_n 0, 1), (290, .getfield 82, 3), (293, .iconst 5, 1), (294, .dup2, 1), (295, .iaload, 1), (296, .iconst 1, 1), (297, .iadd, 1), (298, .iastore, 1), (299, .iconst 1, 1), (300, .ireturn, 1)]
theorem bd_X10_doLine : ∀ q ∈ bi_X10_doLine, decode cX10_doLine q.1 = .ok q.2 := by decide +kernel
theorem bz_X10_doLine : bq_X10_doLine.all (ab_ck ab_hd ab_xs ab_tr bx_X10_doLine be_X10_doLine bi_X10_doLine (some .boolean) 5 33) = true := by decide +kernel
theorem bm_X10_doLine (l : Launch) : ex_Met l yX10_doLine cX10_doLine 5 (some .boolean) 2 46 (ab_sp ab_hd bc_X10_doLine) := ab_met (by decide) (by decide) rfl (bj_X10_doLine l) bd_X10_doLine ab_hcm ab_xk bz_X10_doLine
