theorem bw_X10_battery : ec_cw yX10_battery cX10_battery 3 (some .int) := ⟨ec_in (i := 1442) (by decide +kernel) rfl, ec_in (i := 68) (by decide +kernel) rfl, by decide, by decide⟩
theorem bv_X10_battery : Cond.instanceMethod yX10_battery ∈ ec_tb ∧ Cond.selects yX10_battery.cls yX10_battery yX10_battery ∈ ec_tb := ⟨ec_in (i := 1440) (by decide +kernel) rfl, ec_in (i := 1441) (by decide +kernel) rfl⟩
def be_X10_battery : Nat → Option (Nat × Option Nat × List ab_C) := fun ix => match ix with
  | 171 => some (3, none, bc_X10_isIn)
  | 160 => some (2, some 10, bc_X10_finding)
  | _ => none
theorem bk_X10_battery (l : Launch) : ∀ (ix n : Nat) (rc : Option Nat) (sp : ex_S), (be_X10_battery ix).map (fun q => (q.1, q.2.1, ab_sp ab_hd q.2.2)) = some (n, rc, sp) → ex_cok l RX10 1 22 ix n rc sp := by
  intro ix n rc sp h
  obtain ⟨l0, h2, rfl⟩ := ab_dmk h
  clear h
  unfold be_X10_battery at h2
  split at h2
  · cases h2; exact ec_cS (bm_X10_isIn l) bw_X10_isIn bv_X10_isIn (by decide) (by decide) (Or.inl (ec_in (i := 1303) (by decide +kernel) rfl)) (by decide +kernel)
  · cases h2; exact ec_cV (bm_X10_finding l) bw_X10_finding bv_X10_finding (by decide) (by decide) (Or.inl (ec_in (i := 1282) (by decide +kernel) rfl)) (T := TX10) (N := 57) rfl (by decide) (by decide +kernel)
  · cases h2
def bx_X10_battery : ex_K := (RX10, ec_fx fl_X10, ec_cx cl_X10, sl_X10, (fun ix => (be_X10_battery ix).map (fun q => (q.1, q.2.1, ab_sp ab_hd q.2.2))), ec_nz, ec_no)
theorem bj_X10_battery (l : Launch) : ex_ok l 1 22 bx_X10_battery := ⟨ec_fok fo_X10, ec_cok co_X10, so_X10, bk_X10_battery l, fun _ h => (by cases h), fun _ h => (by cases h), fun _ h => (by cases h), fun _ _ h => (by cases h)⟩
def bq_X10_battery : List (ab_C × List ab_Q) := [(([.inl 76, .inr ((-2147483648), 2147483647)], [], [(101, some 1), (114, some 1)], [(some ((-2147483648), 2147483647, none), [], [])]), [])]
def bc_X10_battery : List ab_C := bq_X10_battery.map (fun c => c.1)
def bi_X10_battery : List (Nat × Instr × Nat) := [(0, .iload_n 1, 1), (1, .iconst (-1), 1), (2, .aload_n 0, 1), (3, .getfield 85, 3), (6, .invokestatic 171, 3), (9, .ifCond .ne 9, 3), (12, .aload_n 0, 1), (13, .iconst 1, 1), (14, .invokevirtual 160, 3), (17, .ireturn, 1), (18, .aload_n 0, 1), (19, .getfield 82, 3), (22, .iconst 1, 1), (23, .iaload, 1), (24, .istore_n 2, 1), (25, .aload_n 0, 1), (26, .getfield 82, 3), (29, .iconst 1, 1), (30, .iload_n 1, 1), (31, .ifCond .ge 7, 3), (34, .iload_n 2, 1), (35, .goto 4, 3), (38, .iload_n 1, 1), (39, .iastore, 1), (40, .iload_n 2, 1), (41, .ireturn, 1)]
theorem bd_X10_battery : ∀ q ∈ bi_X10_battery, decode cX10_battery q.1 = .ok q.2 := by decide +kernel
theorem bz_X10_battery : bq_X10_battery.all (ab_ck ab_hd ab_xs ab_tr bx_X10_battery be_X10_battery bi_X10_battery (some .int) 3 23) = true := by decide +kernel
theorem bm_X10_battery (l : Launch) : ex_Met l yX10_battery cX10_battery 3 (some .int) 1 22 (ab_sp ab_hd bc_X10_battery) := ab_met (by decide) (by decide) rfl (bj_X10_battery l) bd_X10_battery ab_hcm ab_xk bz_X10_battery
theorem bw_X10_bounds : ec_cw yX10_bounds cX10_bounds 4 (some .int) := ⟨ec_in (i := 1446) (by decide +kernel) rfl, ec_in (i := 68) (by decide +kernel) rfl, by decide, by decide⟩
theorem bv_X10_bounds : Cond.instanceMethod yX10_bounds ∈ ec_tb ∧ Cond.selects yX10_bounds.cls yX10_bounds yX10_bounds ∈ ec_tb := ⟨ec_in (i := 1444) (by decide +kernel) rfl, ec_in (i := 1445) (by decide +kernel) rfl⟩
def be_X10_bounds : Nat → Option (Nat × Option Nat × List ab_C) := fun ix => match ix with
  | 171 => some (3, none, bc_X10_isIn)
  | 160 => some (2, some 10, bc_X10_finding)
  | _ => none
theorem bk_X10_bounds (l : Launch) : ∀ (ix n : Nat) (rc : Option Nat) (sp : ex_S), (be_X10_bounds ix).map (fun q => (q.1, q.2.1, ab_sp ab_hd q.2.2)) = some (n, rc, sp) → ex_cok l RX10 1 22 ix n rc sp := by
  intro ix n rc sp h
  obtain ⟨l0, h2, rfl⟩ := ab_dmk h
  clear h
  unfold be_X10_bounds at h2
  split at h2
  · cases h2; exact ec_cS (bm_X10_isIn l) bw_X10_isIn bv_X10_isIn (by decide) (by decide) (Or.inl (ec_in (i := 1303) (by decide +kernel) rfl)) (by decide +kernel)
  · cases h2; exact ec_cV (bm_X10_finding l) bw_X10_finding bv_X10_finding (by decide) (by decide) (Or.inl (ec_in (i := 1282) (by decide +kernel) rfl)) (T := TX10) (N := 57) rfl (by decide) (by decide +kernel)
  · cases h2
def bx_X10_bounds : ex_K := (RX10, ec_fx fl_X10, ec_cx cl_X10, sl_X10, (fun ix => (be_X10_bounds ix).map (fun q => (q.1, q.2.1, ab_sp ab_hd q.2.2))), ec_nz, ec_no)
theorem bj_X10_bounds (l : Launch) : ex_ok l 1 22 bx_X10_bounds := ⟨ec_fok fo_X10, ec_cok co_X10, so_X10, bk_X10_bounds l, fun _ h => (by cases h), fun _ h => (by cases h), fun _ h => (by cases h), fun _ _ h => (by cases h)⟩
def bq_X10_bounds : List (ab_C × List ab_Q) := [(([.inl 76, .inr ((-2147483648), 2147483647), .inr ((-2147483648), 2147483647), .inr ((-2147483648), 2147483647)], [], [(76, some 31), (76, some 32), (76, some 33), (114, some 1)], [(some ((-2147483648), 2147483647, none), [], [])]), [])]
def bc_X10_bounds : List ab_C := bq_X10_bounds.map (fun c => c.1)
def bi_X10_bounds : List (Nat × Instr × Nat) := [(0, .iload_n 1, 1), (1, .iconst 0, 1), (2, .ldc 175, 2), (4, .invokestatic 171, 3), (7, .ifCond .eq 23, 3), (10, .iload_n 2, 1), (11, .iconst 0, 1), (12, .ldc 175, 2), (14, .invokestatic 171, 3), (17, .ifCond .eq 13, 3), (20, .iload_n 3, 1), (21, .iconst 0, 1), (22, .ldc 175, 2), (24, .invokestatic 171, 3), (27, .ifCond .ne 9, 3), (30, .aload_n 0, 1), (31, .iconst 1, 1), (32, .invokevirtual 160, 3), (35, .ireturn, 1), (36, .aload_n 0, 1), (37, .iload_n 1, 1), (38, .putfield 89, 3), (41, .aload_n 0, 1), (42, .iload_n 2, 1), (43, .putfield 92, 3), (46, .aload_n 0, 1), (47, .iload_n 3, 1), (48, .putfield 95, 3), (51, .iconst 1, 1), (52, .ireturn, 1)]
theorem bd_X10_bounds : ∀ q ∈ bi_X10_bounds, decode cX10_bounds q.1 = .ok q.2 := by decide +kernel
theorem bz_X10_bounds : bq_X10_bounds.all (ab_ck ab_hd ab_xs ab_tr bx_X10_bounds be_X10_bounds bi_X10_bounds (some .int) 4 28) = true := by decide +kernel
theorem bm_X10_bounds (l : Launch) : ex_Met l yX10_bounds cX10_bounds 4 (some .int) 1 22 (ab_sp ab_hd bc_X10_bounds) := ab_met (by decide) (by decide) rfl (bj_X10_bounds l) bd_X10_bounds ab_hcm ab_xk bz_X10_bounds
theorem bw_X10_ticks : ec_cw yX10_ticks cX10_ticks 4 (some .int) := ⟨ec_in (i := 1450) (by decide +kernel) rfl, ec_in (i := 68) (by decide +kernel) rfl, by decide, by decide⟩
theorem bv_X10_ticks : Cond.instanceMethod yX10_ticks ∈ ec_tb ∧ Cond.selects yX10_ticks.cls yX10_ticks yX10_ticks ∈ ec_tb := ⟨ec_in (i := 1448) (by decide +kernel) rfl, ec_in (i := 1449) (by decide +kernel) rfl⟩
def be_X10_ticks : Nat → Option (Nat × Option Nat × List ab_C) := fun ix => match ix with
  | 171 => some (3, none, bc_X10_isIn)
  | 160 => some (2, some 10, bc_X10_finding)
  | 262 => some (1, some 10, bc_X10_tick)
  | _ => none
theorem bk_X10_ticks (l : Launch) : ∀ (ix n : Nat) (rc : Option Nat) (sp : ex_S), (be_X10_ticks ix).map (fun q => (q.1, q.2.1, ab_sp ab_hd q.2.2)) = some (n, rc, sp) → ex_cok l RX10 5 112 ix n rc sp := by
  intro ix n rc sp h
  obtain ⟨l0, h2, rfl⟩ := ab_dmk h
  clear h
  unfold be_X10_ticks at h2
  split at h2
  · cases h2; exact ec_cS (bm_X10_isIn l) bw_X10_isIn bv_X10_isIn (by decide) (by decide) (Or.inl (ec_in (i := 1303) (by decide +kernel) rfl)) (by decide +kernel)
  · cases h2; exact ec_cV (bm_X10_finding l) bw_X10_finding bv_X10_finding (by decide) (by decide) (Or.inl (ec_in (i := 1282) (by decide +kernel) rfl)) (T := TX10) (N := 57) rfl (by decide) (by decide +kernel)
  · cases h2; exact ec_cV (bm_X10_tick l) bw_X10_tick bv_X10_tick (by decide) (by decide) (Or.inl (ec_in (i := 1451) (by decide +kernel) rfl)) (T := TX10) (N := 57) rfl (by decide) (by decide +kernel)
  · cases h2
def bx_X10_ticks : ex_K := (RX10, ec_fx fl_X10, ec_cx cl_X10, sl_X10, (fun ix => (be_X10_ticks ix).map (fun q => (q.1, q.2.1, ab_sp ab_hd q.2.2))), ec_nz, ec_no)
theorem bj_X10_ticks (l : Launch) : ex_ok l 5 112 bx_X10_ticks := ⟨ec_fok fo_X10, ec_cok co_X10, so_X10, bk_X10_ticks l, fun _ h => (by cases h), fun _ h => (by cases h), fun _ h => (by cases h), fun _ _ h => (by cases h)⟩
def bq_X10_ticks : List (ab_C × List ab_Q) := [(([.inl 76, .inr ((-2147483648), 2147483647)], [], [(77, none), (78, none), (82, none), (83, some 0), (83, some 1), (83, some 2), (83, some 3), (83, some 4), (83, some 5), (84, none), (85, none), (86, none), (87, none), (88, none), (89, none), (96, none), (97, none), (98, none), (99, none), (100, none), (101, some 0), (101, some 1), (101, some 2), (101, some 3), (101, some 4), (101, some 5), (101, some 6), (101, some 7), (101, some 8), (101, some 9), (101, some 10), (114, some 1), (114, some 4)], [(some ((-2147483648), 2147483647, none), [], [])]), [(38, [some (.inl 76), some (.inr (.inl (1, 100, none, none))), some (.inr (.inl (0, 100, none, none))), none], [((1, 0, 7), 0, 24, some (1007, 0)), ((1, 76, 52), 0, 24, some (77052, 0))], 201, [0, 0, (-2), 0])])]
def bc_X10_ticks : List ab_C := bq_X10_ticks.map (fun c => c.1)
def bi_X10_ticks : List (Nat × Instr × Nat) := [(0, .iload_n 1, 1), (1, .iconst 1, 1), (2, .bipush 100, 2), (4, .invokestatic 171, 3), (7, .ifCond .ne 9, 3), (10, .aload_n 0, 1), (11, .iconst 1, 1), (12, .invokevirtual 160, 3), (15, .ireturn, 1), (16, .aload_n 0, 1), (17, .getfield 82, 3), (20, .iconst 0, 1), (21, .iaload, 1), (22, .iload_n 1, 1), (23, .iadd, 1), (24, .sipush 3000, 3), (27, .if_icmp .le 9, 3), (30, .aload_n 0, 1), (31, .iconst 4, 1), (32, .invokevirtual 160, 3), (35, .ireturn, 1), (36, .iconst 0, 1), (37, .istore_n 2, 1), (38, .iload_n 2, 1), (39, .iload_n 1, 1), (40, .if_icmp .ge 14, 3), (43, .aload_n 0, 1), (44, .invokevirtual 262, 3), (47, .istore_n 3, 1), (48, .iinc 2 1, 3), (51, .goto (-13), 3), (54, .aload_n 0, 1), (55, .getfield 82, 3), (58, .iconst 0, 1), (59, .iaload, 1), (60, .ireturn, 1)]
theorem bd_X10_ticks : ∀ q ∈ bi_X10_ticks, decode cX10_ticks q.1 = .ok q.2 := by decide +kernel
theorem bz_X10_ticks : bq_X10_ticks.all (ab_ck ab_hd ab_xs ab_tr bx_X10_ticks be_X10_ticks bi_X10_ticks (some .int) 4 19) = true := by decide +kernel
theorem bm_X10_ticks (l : Launch) : ex_Met l yX10_ticks cX10_ticks 4 (some .int) 5 112 (ab_sp ab_hd bc_X10_ticks) := ab_met (by decide) (by decide) rfl (bj_X10_ticks l) bd_X10_ticks ab_hcm ab_xk bz_X10_ticks
theorem bw_X10_broke : ec_cw yX10_broke cX10_broke 2 (some .int) := ⟨ec_in (i := 1507) (by decide +kernel) rfl, ec_in (i := 68) (by decide +kernel) rfl, by decide, by decide⟩
theorem bv_X10_broke : Cond.instanceMethod yX10_broke ∈ ec_tb ∧ Cond.selects yX10_broke.cls yX10_broke yX10_broke ∈ ec_tb := ⟨ec_in (i := 1505) (by decide +kernel) rfl, ec_in (i := 1506) (by decide +kernel) rfl⟩
def be_X10_broke : Nat → Option (Nat × Option Nat × List ab_C) := fun ix => match ix with
  | 171 => some (3, none, bc_X10_isIn)
  | 160 => some (2, some 10, bc_X10_finding)
  | _ => none
theorem bk_X10_broke (l : Launch) : ∀ (ix n : Nat) (rc : Option Nat) (sp : ex_S), (be_X10_broke ix).map (fun q => (q.1, q.2.1, ab_sp ab_hd q.2.2)) = some (n, rc, sp) → ex_cok l RX10 1 22 ix n rc sp := by
  intro ix n rc sp h
  obtain ⟨l0, h2, rfl⟩ := ab_dmk h
  clear h
  unfold be_X10_broke at h2
  split at h2
  · cases h2; exact ec_cS (bm_X10_isIn l) bw_X10_isIn bv_X10_isIn (by decide) (by decide) (Or.inl (ec_in (i := 1303) (by decide +kernel) rfl)) (by decide +kernel)
  · cases h2; exact ec_cV (bm_X10_finding l) bw_X10_finding bv_X10_finding (by decide) (by decide) (Or.inl (ec_in (i := 1282) (by decide +kernel) rfl)) (T := TX10) (N := 57) rfl (by decide) (by decide +kernel)
  · cases h2
def bx_X10_broke : ex_K := (RX10, ec_fx fl_X10, ec_cx cl_X10, sl_X10, (fun ix => (be_X10_broke ix).map (fun q => (q.1, q.2.1, ab_sp ab_hd q.2.2))), ec_nz, ec_no)
theorem bj_X10_broke (l : Launch) : ex_ok l 1 22 bx_X10_broke := ⟨ec_fok fo_X10, ec_cok co_X10, so_X10, bk_X10_broke l, fun _ h => (by cases h), fun _ h => (by cases h), fun _ h => (by cases h), fun _ _ h => (by cases h)⟩
def bq_X10_broke : List (ab_C × List ab_Q) := [(([.inl 76, .inr ((-2147483648), 2147483647)], [], [(114, some 1), (114, some 2)], [(some ((-2147483648), 2147483647, none), [], [])]), [])]
def bc_X10_broke : List ab_C := bq_X10_broke.map (fun c => c.1)
def bi_X10_broke : List (Nat × Instr × Nat) := [(0, .iload_n 1, 1), (1, .iconst 0, 1), (2, .iconst 1, 1), (3, .invokestatic 171, 3), (6, .ifCond .ne 9, 3), (9, .aload_n 0, 1), (10, .iconst 1, 1), (11, .invokevirtual 160, 3), (14, .ireturn, 1), (15, .aload_n 0, 1), (16, .getfield 82, 3), (19, .iconst 2, 1), (20, .iaload, 1), (21, .ifCond .ge 11, 3), (24, .aload_n 0, 1), (25, .iconst 2, 1), (26, .invokevirtual 160, 3), (29, .goto 11, 3), (32, .aload_n 0, 1), (33, .getfield 82, 3), (36, .iconst 2, 1), (37, .iload_n 1, 1), (38, .iadd, 1), (39, .iaload, 1), (40, .ireturn, 1)]
theorem bd_X10_broke : ∀ q ∈ bi_X10_broke, decode cX10_broke q.1 = .ok q.2 := by decide +kernel
theorem bz_X10_broke : bq_X10_broke.all (ab_ck ab_hd ab_xs ab_tr bx_X10_broke be_X10_broke bi_X10_broke (some .int) 2 19) = true := by decide +kernel
theorem bm_X10_broke (l : Launch) : ex_Met l yX10_broke cX10_broke 2 (some .int) 1 22 (ab_sp ab_hd bc_X10_broke) := ab_met (by decide) (by decide) rfl (bj_X10_broke l) bd_X10_broke ab_hcm ab_xk bz_X10_broke
theorem bw_X10_lays : ec_cw yX10_lays cX10_lays 4 none := ⟨ec_in (i := 1519) (by decide +kernel) rfl, ec_in (i := 68) (by decide +kernel) rfl, by decide, by decide⟩
theorem bv_X10_lays : Cond.instanceMethod yX10_lays ∈ ec_tb ∧ Cond.selects yX10_lays.cls yX10_lays yX10_lays ∈ ec_tb := ⟨ec_in (i := 1518) (by decide +kernel) rfl, ec_in (i := 53) (by decide +kernel) rfl⟩
def bx_X10_lays : ex_K := (RX10, ec_fx fl_X10, ec_cx cl_X10, sl_X10, (fun ix => (ec_no ix).map (fun (q : Nat × Option Nat × List ab_C) => (q.1, q.2.1, ab_sp ab_hd q.2.2))), ec_nz, ec_no)
theorem bj_X10_lays (l : Launch) : ex_ok l 0 0 bx_X10_lays := ⟨ec_fok fo_X10, ec_cok co_X10, so_X10, fun _ _ _ _ h => (by cases h), fun _ h => (by cases h), fun _ h => (by cases h), fun _ h => (by cases h), fun _ _ h => (by cases h)⟩
def bq_X10_lays : List (ab_C × List ab_Q) := [(([.inl 76, .inl 77, .inr (1, 1)], [((1, 76, 56), 0, 0, none)], [(76, some 56), (115, none)], [(none, [], [((1, 76, 56), 24, 24, none)])]), []),
  (([.inl 76, .inl 78, .inr (1, 1)], [((1, 76, 56), 24, 24, none)], [(76, some 56), (115, none)], [(none, [], [((1, 76, 56), 30, 30, none)])]), []),
  (([.inl 76, .inl 82, .inr (1, 1)], [((1, 76, 56), 30, 30, none)], [(76, some 56), (115, none)], [(none, [], [((1, 76, 56), 38, 38, none)])]), []),
  (([.inl 76, .inl 83, .inr (1, 1)], [((1, 76, 56), 38, 38, none)], [(76, some 56), (115, none)], [(none, [], [((1, 76, 56), 44, 44, none)])]), []),
  (([.inl 76, .inl 84, .inr (1, 1)], [((1, 76, 56), 44, 44, none)], [(76, some 56), (115, none)], [(none, [], [((1, 76, 56), 50, 50, none)])]), []),
  (([.inl 76, .inl 85, .inr (1, 1)], [((1, 76, 56), 50, 50, none)], [(76, some 56), (115, none)], [(none, [], [((1, 76, 56), 56, 56, none)])]), []),
  (([.inl 76, .inl 86, .inr (1, 1)], [((1, 76, 56), 56, 56, none)], [(76, some 56), (115, none)], [(none, [], [((1, 76, 56), 62, 62, none)])]), []),
  (([.inl 76, .inl 87, .inr (1, 1)], [((1, 76, 56), 62, 62, none)], [(76, some 56), (115, none)], [(none, [], [((1, 76, 56), 68, 68, none)])]), []),
  (([.inl 76, .inl 88, .inr (1, 1)], [((1, 76, 56), 68, 68, none)], [(76, some 56), (115, none)], [(none, [], [((1, 76, 56), 74, 74, none)])]), []),
  (([.inl 76, .inl 89, .inr (1, 1)], [((1, 76, 56), 74, 74, none)], [(76, some 56), (115, none)], [(none, [], [((1, 76, 56), 80, 80, none)])]), []),
  (([.inl 76, .inl 96, .inr (1, 1)], [((1, 76, 56), 80, 80, none)], [(76, some 56), (115, none)], [(none, [], [((1, 76, 56), 90, 90, none)])]), []),
  (([.inl 76, .inl 97, .inr (1, 1)], [((1, 76, 56), 90, 90, none)], [(76, some 56), (115, none)], [(none, [], [((1, 76, 56), 100, 100, none)])]), []),
  (([.inl 76, .inl 98, .inr (1, 1)], [((1, 76, 56), 100, 100, none)], [(76, some 56), (115, none)], [(none, [], [((1, 76, 56), 110, 110, none)])]), []),
  (([.inl 76, .inl 99, .inr (1, 1)], [((1, 76, 56), 110, 110, none)], [(76, some 56), (115, none)], [(none, [], [((1, 76, 56), 120, 120, none)])]), []),
  (([.inl 76, .inl 100, .inr (1, 1)], [((1, 76, 56), 120, 120, none)], [(76, some 56), (115, none)], [(none, [], [((1, 76, 56), 126, 126, none)])]), []),
  (([.inl 76, .inl 101, .inr (1, 1)], [((1, 76, 56), 126, 126, none)], [(76, some 56), (115, none)], [(none, [], [((1, 76, 56), 137, 137, none)])]), []),
  (([.inl 76, .inl 77, .inr (0, 0)], [((1, 76, 56), 0, 0, none)], [(76, some 56), (77, none)], [(none, [], [((1, 76, 56), 24, 24, none)])]), []),
  (([.inl 76, .inl 78, .inr (0, 0)], [((1, 76, 56), 24, 24, none)], [(76, some 56), (78, none)], [(none, [], [((1, 76, 56), 30, 30, none)])]), []),
  (([.inl 76, .inl 82, .inr (0, 0)], [((1, 76, 56), 30, 30, none)], [(76, some 56), (82, none)], [(none, [], [((1, 76, 56), 38, 38, none)])]), []),
  (([.inl 76, .inl 83, .inr (0, 0)], [((1, 76, 56), 38, 38, none)], [(76, some 56), (83, none)], [(none, [], [((1, 76, 56), 44, 44, none)])]), []),
  (([.inl 76, .inl 84, .inr (0, 0)], [((1, 76, 56), 44, 44, none)], [(76, some 56), (84, none)], [(none, [], [((1, 76, 56), 50, 50, none)])]), []),
  (([.inl 76, .inl 85, .inr (0, 0)], [((1, 76, 56), 50, 50, none)], [(76, some 56), (85, none)], [(none, [], [((1, 76, 56), 56, 56, none)])]), []),
  (([.inl 76, .inl 86, .inr (0, 0)], [((1, 76, 56), 56, 56, none)], [(76, some 56), (86, none)], [(none, [], [((1, 76, 56), 62, 62, none)])]), []),
  (([.inl 76, .inl 87, .inr (0, 0)], [((1, 76, 56), 62, 62, none)], [(76, some 56), (87, none)], [(none, [], [((1, 76, 56), 68, 68, none)])]), []),
  (([.inl 76, .inl 88, .inr (0, 0)], [((1, 76, 56), 68, 68, none)], [(76, some 56), (88, none)], [(none, [], [((1, 76, 56), 74, 74, none)])]), []),
  (([.inl 76, .inl 89, .inr (0, 0)], [((1, 76, 56), 74, 74, none)], [(76, some 56), (89, none)], [(none, [], [((1, 76, 56), 80, 80, none)])]), []),
  (([.inl 76, .inl 96, .inr (0, 0)], [((1, 76, 56), 80, 80, none)], [(76, some 56), (96, none)], [(none, [], [((1, 76, 56), 90, 90, none)])]), []),
  (([.inl 76, .inl 97, .inr (0, 0)], [((1, 76, 56), 90, 90, none)], [(76, some 56), (97, none)], [(none, [], [((1, 76, 56), 100, 100, none)])]), []),
  (([.inl 76, .inl 98, .inr (0, 0)], [((1, 76, 56), 100, 100, none)], [(76, some 56), (98, none)], [(none, [], [((1, 76, 56), 110, 110, none)])]), []),
  (([.inl 76, .inl 99, .inr (0, 0)], [((1, 76, 56), 110, 110, none)], [(76, some 56), (99, none)], [(none, [], [((1, 76, 56), 120, 120, none)])]), []),
  (([.inl 76, .inl 100, .inr (0, 0)], [((1, 76, 56), 120, 120, none)], [(76, some 56), (100, none)], [(none, [], [((1, 76, 56), 126, 126, none)])]), []),
  (([.inl 76, .inl 101, .inr (0, 0)], [((1, 76, 56), 126, 126, none)], [(76, some 56), (101, none)], [(none, [], [((1, 76, 56), 137, 137, none)])]), [])]
def bc_X10_lays : List ab_C := bq_X10_lays.map (fun c => c.1)
def bi_X10_lays : List (Nat × Instr × Nat) := [(0, .iconst 0, 1), (1, .istore_n 3, 1), (2, .iload_n 3, 1), (3, .aload_n 1, 1), (4, .arraylength, 1), (5, .if_icmp .ge 50, 3), (8, .iload_n 2, 1), (9, .ifCond .eq 18, 3), (12, .aload_n 0, 1), (13, .getfield 144, 3), (16, .aload_n 0, 1), (17, .getfield 266, 3), (20, .aload_n 1, 1), (21, .iload_n 3, 1), (22, .iaload, 1), (23, .iastore, 1), (24, .goto 15, 3), (27, .aload_n 1, 1), (28, .iload_n 3, 1), (29, .aload_n 0, 1), (30, .getfield 144, 3), (33, .aload_n 0, 1), (34, .getfield 266, 3), (37, .iaload, 1), (38, .iastore, 1), (39, .aload_n 0, 1), (40, .dup, 1), (41, .getfield 266, 3), (44, .iconst 1, 1), (45, .iadd, 1), (46, .putfield 266, 3), (49, .iinc 3 1, 3), (52, .goto (-50), 3), (55, .return_, 1)]
theorem bd_X10_lays : ∀ q ∈ bi_X10_lays, decode cX10_lays q.1 = .ok q.2 := by decide +kernel
theorem bz_X10_lays : bq_X10_lays.all (ab_ck ab_hd ab_xs ab_tr bx_X10_lays ec_no bi_X10_lays none 4 561) = true := by decide +kernel
theorem bm_X10_lays (l : Launch) : ex_Met l yX10_lays cX10_lays 4 none 0 0 (ab_sp ab_hd bc_X10_lays) := ab_met (by decide) (by decide) rfl (bj_X10_lays l) bd_X10_lays ab_hcm ab_xk bz_X10_lays
theorem bw_X10_layAside : ec_cw yX10_layAside cX10_layAside 2 none := ⟨ec_in (i := 1515) (by decide +kernel) rfl, ec_in (i := 68) (by decide +kernel) rfl, by decide, by decide⟩
theorem bv_X10_layAside : Cond.instanceMethod yX10_layAside ∈ ec_tb ∧ Cond.selects yX10_layAside.cls yX10_layAside yX10_layAside ∈ ec_tb := ⟨ec_in (i := 1514) (by decide +kernel) rfl, ec_in (i := 52) (by decide +kernel) rfl⟩
def be_X10_layAside : Nat → Option (Nat × Option Nat × List ab_C) := fun ix => match ix with
  | 269 => some (3, some 10, bc_X10_lays)
  | _ => none
theorem bk_X10_layAside (l : Launch) : ∀ (ix n : Nat) (rc : Option Nat) (sp : ex_S), (be_X10_layAside ix).map (fun q => (q.1, q.2.1, ab_sp ab_hd q.2.2)) = some (n, rc, sp) → ex_cok l RX10 1 23 ix n rc sp := by
  intro ix n rc sp h
  obtain ⟨l0, h2, rfl⟩ := ab_dmk h
  clear h
  unfold be_X10_layAside at h2
  split at h2
  · cases h2; exact ec_cV (bm_X10_lays l) bw_X10_lays bv_X10_lays (by decide) (by decide) (Or.inl (ec_in (i := 1516) (by decide +kernel) rfl)) (T := TX10) (N := 57) rfl (by decide) (by decide +kernel)
  · cases h2
def bx_X10_layAside : ex_K := (RX10, ec_fx fl_X10, ec_cx cl_X10, sl_X10, (fun ix => (be_X10_layAside ix).map (fun q => (q.1, q.2.1, ab_sp ab_hd q.2.2))), ec_nz, ec_no)
theorem bj_X10_layAside (l : Launch) : ex_ok l 1 23 bx_X10_layAside := ⟨ec_fok fo_X10, ec_cok co_X10, so_X10, bk_X10_layAside l, fun _ h => (by cases h), fun _ h => (by cases h), fun _ h => (by cases h), fun _ _ h => (by cases h)⟩
def bq_X10_layAside : List (ab_C × List ab_Q) := [(([.inl 76, .inr (1, 1)], [], [(76, some 56), (115, none)], [(none, [], [])]), []),
  (([.inl 76, .inr (0, 0)], [], [(76, some 56), (77, none), (78, none), (82, none), (83, none), (84, none), (85, none), (86, none), (87, none), (88, none), (89, none), (96, none), (97, none), (98, none), (99, none), (100, none), (101, none)], [(none, [], [])]), [])]
def bc_X10_layAside : List ab_C := bq_X10_layAside.map (fun c => c.1)
def bi_X10_layAside : List (Nat × Instr × Nat) := [(0, .aload_n 0, 1), (1, .iconst 0, 1), (2, .putfield 266, 3), (5, .aload_n 0, 1), (6, .aload_n 0, 1), (7, .getfield 7, 3), (10, .iload_n 1, 1), (11, .invokevirtual 269, 3), (14, .aload_n 0, 1), (15, .aload_n 0, 1), (16, .getfield 13, 3), (19, .iload_n 1, 1), (20, .invokevirtual 269, 3), (23, .aload_n 0, 1), (24, .aload_n 0, 1), (25, .getfield 25, 3), (28, .iload_n 1, 1), (29, .invokevirtual 269, 3), (32, .aload_n 0, 1), (33, .aload_n 0, 1), (34, .getfield 28, 3), (37, .iload_n 1, 1), (38, .invokevirtual 269, 3), (41, .aload_n 0, 1), (42, .aload_n 0, 1), (43, .getfield 31, 3), (46, .iload_n 1, 1), (47, .invokevirtual 269, 3), (50, .aload_n 0, 1), (51, .aload_n 0, 1), (52, .getfield 34, 3), (55, .iload_n 1, 1), (56, .invokevirtual 269, 3), (59, .aload_n 0, 1), (60, .aload_n 0, 1), (61, .getfield 37, 3), (64, .iload_n 1, 1), (65, .invokevirtual 269, 3), (68, .aload_n 0, 1), (69, .aload_n 0, 1), (70, .getfield 40, 3), (73, .iload_n 1, 1), (74, .invokevirtual 269, 3), (77, .aload_n 0, 1), (78, .aload_n 0, 1), (79, .getfield 43, 3), (82, .iload_n 1, 1), (83, .invokevirtual 269, 3), (86, .aload_n 0, 1), (87, .aload_n 0, 1), (88, .getfield 46, 3), (91, .iload_n 1, 1), (92, .invokevirtual 269, 3), (95, .aload_n 0, 1), (96, .aload_n 0, 1), (97, .getfield 67, 3), (100, .iload_n 1, 1), (101, .invokevirtual 269, 3), (104, .aload_n 0, 1), (105, .aload_n 0, 1), (106, .getfield 70, 3), (109, .iload_n 1, 1), (110, .invokevirtual 269, 3), (113, .aload_n 0, 1), (114, .aload_n 0, 1), (115, .getfield 73, 3), (118, .iload_n 1, 1), (119, .invokevirtual 269, 3), (122, .aload_n 0, 1), (123, .aload_n 0, 1), (124, .getfield 76, 3), (127, .iload_n 1, 1), (128, .invokevirtual 269, 3), (131, .aload_n 0, 1), (132, .aload_n 0, 1), (133, .getfield 79, 3), (136, .iload_n 1, 1), (137, .invokevirtual 269, 3), (140, .aload_n 0, 1), (141, .aload_n 0, 1), (142, .getfield 82, 3), (145, .iload_n 1, 1), (146, .invokevirtual 269, 3), (149, .return_, 1)]
theorem bd_X10_layAside : ∀ q ∈ bi_X10_layAside, decode cX10_layAside q.1 = .ok q.2 := by decide +kernel
theorem bz_X10_layAside : bq_X10_layAside.all (ab_ck ab_hd ab_xs ab_tr bx_X10_layAside be_X10_layAside bi_X10_layAside none 2 86) = true := by decide +kernel
theorem bm_X10_layAside (l : Launch) : ex_Met l yX10_layAside cX10_layAside 2 none 1 23 (ab_sp ab_hd bc_X10_layAside) := ab_met (by decide) (by decide) rfl (bj_X10_layAside l) bd_X10_layAside ab_hcm ab_xk bz_X10_layAside
theorem bw_X10_ahead : ec_cw yX10_ahead cX10_ahead 4 (some .int) := ⟨ec_in (i := 1511) (by decide +kernel) rfl, ec_in (i := 68) (by decide +kernel) rfl, by decide, by decide⟩
theorem bv_X10_ahead : Cond.instanceMethod yX10_ahead ∈ ec_tb ∧ Cond.selects yX10_ahead.cls yX10_ahead yX10_ahead ∈ ec_tb := ⟨ec_in (i := 1509) (by decide +kernel) rfl, ec_in (i := 1510) (by decide +kernel) rfl⟩
def be_X10_ahead : Nat → Option (Nat × Option Nat × List ab_C) := fun ix => match ix with
  | 171 => some (3, none, bc_X10_isIn)
  | 160 => some (2, some 10, bc_X10_finding)
  | 273 => some (2, some 10, bc_X10_layAside)
  | 262 => some (1, some 10, bc_X10_tick)
  | _ => none
theorem bk_X10_ahead (l : Launch) : ∀ (ix n : Nat) (rc : Option Nat) (sp : ex_S), (be_X10_ahead ix).map (fun q => (q.1, q.2.1, ab_sp ab_hd q.2.2)) = some (n, rc, sp) → ex_cok l RX10 5 112 ix n rc sp := by
  intro ix n rc sp h
  obtain ⟨l0, h2, rfl⟩ := ab_dmk h
  clear h
  unfold be_X10_ahead at h2
  split at h2
  · cases h2; exact ec_cS (bm_X10_isIn l) bw_X10_isIn bv_X10_isIn (by decide) (by decide) (Or.inl (ec_in (i := 1303) (by decide +kernel) rfl)) (by decide +kernel)
  · cases h2; exact ec_cV (bm_X10_finding l) bw_X10_finding bv_X10_finding (by decide) (by decide) (Or.inl (ec_in (i := 1282) (by decide +kernel) rfl)) (T := TX10) (N := 57) rfl (by decide) (by decide +kernel)
  · cases h2; exact ec_cV (bm_X10_layAside l) bw_X10_layAside bv_X10_layAside (by decide) (by decide) (Or.inl (ec_in (i := 1512) (by decide +kernel) rfl)) (T := TX10) (N := 57) rfl (by decide) (by decide +kernel)
  · cases h2; exact ec_cV (bm_X10_tick l) bw_X10_tick bv_X10_tick (by decide) (by decide) (Or.inl (ec_in (i := 1451) (by decide +kernel) rfl)) (T := TX10) (N := 57) rfl (by decide) (by decide +kernel)
  · cases h2
def bx_X10_ahead : ex_K := (RX10, ec_fx fl_X10, ec_cx cl_X10, sl_X10, (fun ix => (be_X10_ahead ix).map (fun q => (q.1, q.2.1, ab_sp ab_hd q.2.2))), ec_nz, ec_no)
theorem bj_X10_ahead (l : Launch) : ex_ok l 5 112 bx_X10_ahead := ⟨ec_fok fo_X10, ec_cok co_X10, so_X10, bk_X10_ahead l, fun _ h => (by cases h), fun _ h => (by cases h), fun _ h => (by cases h), fun _ _ h => (by cases h)⟩
def bq_X10_ahead : List (ab_C × List ab_Q) := [(([.inl 76, .inr ((-2147483648), 2147483647)], [], [(76, some 56), (77, none), (78, none), (82, none), (83, none), (84, none), (85, none), (86, none), (87, none), (88, none), (89, none), (96, none), (97, none), (98, none), (99, none), (100, none), (101, none), (114, some 1), (115, none)], [(some ((-2147483648), 2147483647, none), [], [])]), [(26, [some (.inl 76), some (.inr (.inl (1, 200, none, none))), some (.inr (.inl (0, 200, none, none))), some (.inr (.inl (1, 201, none, none)))], [((1, 0, 7), 0, 24, some (1007, 0)), ((1, 76, 52), 0, 24, some (77052, 0))], 403, [0, 0, 0, (-2)])])]
def bc_X10_ahead : List ab_C := bq_X10_ahead.map (fun c => c.1)
def bi_X10_ahead : List (Nat × Instr × Nat) := [(0, .iload_n 1, 1), (1, .iconst 1, 1), (2, .sipush 200, 3), (5, .invokestatic 171, 3), (8, .ifCond .ne 9, 3), (11, .aload_n 0, 1), (12, .iconst 1, 1), (13, .invokevirtual 160, 3), (16, .ireturn, 1), (17, .aload_n 0, 1), (18, .iconst 1, 1), (19, .invokevirtual 273, 3), (22, .iconst 0, 1), (23, .istore_n 2, 1), (24, .iconst 1, 1), (25, .istore_n 3, 1), (26, .iload_n 3, 1), (27, .iload_n 1, 1), (28, .if_icmp .gt 26, 3), (31, .iload_n 2, 1), (32, .ifCond .ne 22, 3), (35, .aload_n 0, 1), (36, .invokevirtual 262, 3), (39, .ifCond .eq 7, 3), (42, .iload_n 3, 1), (43, .goto 4, 3), (46, .iconst 0, 1), (47, .istore_n 2, 1), (48, .iinc 3 1, 3), (51, .goto (-25), 3), (54, .aload_n 0, 1), (55, .iconst 0, 1), (56, .invokevirtual 273, 3), (59, .iload_n 2, 1), (60, .ireturn, 1)]
theorem bd_X10_ahead : ∀ q ∈ bi_X10_ahead, decode cX10_ahead q.1 = .ok q.2 := by decide +kernel
theorem bz_X10_ahead : bq_X10_ahead.all (ab_ck ab_hd ab_xs ab_tr bx_X10_ahead be_X10_ahead bi_X10_ahead (some .int) 4 15) = true := by decide +kernel
theorem bm_X10_ahead (l : Launch) : ex_Met l yX10_ahead cX10_ahead 4 (some .int) 5 112 (ab_sp ab_hd bc_X10_ahead) := ab_met (by decide) (by decide) rfl (bj_X10_ahead l) bd_X10_ahead ab_hcm ab_xk bz_X10_ahead
theorem bw_X10_partOf : ec_cw yX10_partOf cX10_partOf 7 (some .int) := ⟨ec_in (i := 1531) (by decide +kernel) rfl, ec_in (i := 68) (by decide +kernel) rfl, by decide, by decide⟩
theorem bv_X10_partOf : Cond.instanceMethod yX10_partOf ∈ ec_tb ∧ Cond.selects yX10_partOf.cls yX10_partOf yX10_partOf ∈ ec_tb := ⟨ec_in (i := 1530) (by decide +kernel) rfl, ec_in (i := 54) (by decide +kernel) rfl⟩
def bx_X10_partOf : ex_K := (RX10, ec_fx fl_X10, ec_cx cl_X10, sl_X10, (fun ix => (ec_no ix).map (fun (q : Nat × Option Nat × List ab_C) => (q.1, q.2.1, ab_sp ab_hd q.2.2))), ec_nz, ec_no)
theorem bj_X10_partOf (l : Launch) : ex_ok l 0 0 bx_X10_partOf := ⟨ec_fok fo_X10, ec_cok co_X10, so_X10, fun _ _ _ _ h => (by cases h), fun _ h => (by cases h), fun _ h => (by cases h), fun _ h => (by cases h), fun _ _ h => (by cases h)⟩
def bq_X10_partOf : List (ab_C × List ab_Q) := [(([.inl 76, .inr (0, 5), .inr ((-1), 2147483647)], [], [], [(some ((-2147483648), 2147483647, none), [], [])]), [])]
def bc_X10_partOf : List ab_C := bq_X10_partOf.map (fun c => c.1)
theorem dX10_partOf_0 : decode cX10_partOf 0 = .ok (.iconst 1, 1) := by decide +kernel
theorem dX10_partOf_1 : decode cX10_partOf 1 = .ok (.iload_n 1, 1) := by decide +kernel
theorem dX10_partOf_2 : decode cX10_partOf 2 = .ok (.ishl, 1) := by decide +kernel
theorem dX10_partOf_3 : decode cX10_partOf 3 = .ok (.istore_n 3, 1) := by decide +kernel
theorem dX10_partOf_4 : decode cX10_partOf 4 = .ok (.iconst 0, 1) := by decide +kernel
theorem dX10_partOf_5 : decode cX10_partOf 5 = .ok (.istore 4, 2) := by decide +kernel
theorem dX10_partOf_7 : decode cX10_partOf 7 = .ok (.iload_n 3, 1) := by decide +kernel
theorem dX10_partOf_8 : decode cX10_partOf 8 = .ok (.iload 4, 2) := by decide +kernel
theorem dX10_partOf_10 : decode cX10_partOf 10 = .ok (.if_icmp .eq 104, 3) := by decide +kernel
theorem dX10_partOf_13 : decode cX10_partOf 13 = .ok (.iload_n 3, 1) := by decide +kernel
theorem dX10_partOf_14 : decode cX10_partOf 14 = .ok (.istore 4, 2) := by decide +kernel
theorem dX10_partOf_16 : decode cX10_partOf 16 = .ok (.iconst 0, 1) := by decide +kernel
theorem dX10_partOf_17 : decode cX10_partOf 17 = .ok (.istore 5, 2) := by decide +kernel
theorem dX10_partOf_19 : decode cX10_partOf 19 = .ok (.iload 5, 2) := by decide +kernel
theorem dX10_partOf_21 : decode cX10_partOf 21 = .ok (.aload_n 0, 1) := by decide +kernel
theorem dX10_partOf_22 : decode cX10_partOf 22 = .ok (.getfield 151, 3) := by decide +kernel
theorem dX10_partOf_25 : decode cX10_partOf 25 = .ok (.if_icmp .ge 86, 3) := by decide +kernel
theorem dX10_partOf_28 : decode cX10_partOf 28 = .ok (.iload_n 3, 1) := by decide +kernel
theorem dX10_partOf_29 : decode cX10_partOf 29 = .ok (.aload_n 0, 1) := by decide +kernel
theorem dX10_partOf_30 : decode cX10_partOf 30 = .ok (.getfield 19, 3) := by decide +kernel
theorem dX10_partOf_33 : decode cX10_partOf 33 = .ok (.iload 5, 2) := by decide +kernel
theorem dX10_partOf_35 : decode cX10_partOf 35 = .ok (.iaload, 1) := by decide +kernel
theorem dX10_partOf_36 : decode cX10_partOf 36 = .ok (.ishr, 1) := by decide +kernel
theorem dX10_partOf_37 : decode cX10_partOf 37 = .ok (.iconst 1, 1) := by decide +kernel
theorem dX10_partOf_38 : decode cX10_partOf 38 = .ok (.iand, 1) := by decide +kernel
theorem dX10_partOf_39 : decode cX10_partOf 39 = .ok (.iconst 1, 1) := by decide +kernel
theorem dX10_partOf_40 : decode cX10_partOf 40 = .ok (.if_icmp .eq 18, 3) := by decide +kernel
theorem dX10_partOf_43 : decode cX10_partOf 43 = .ok (.iload_n 3, 1) := by decide +kernel
theorem dX10_partOf_44 : decode cX10_partOf 44 = .ok (.aload_n 0, 1) := by decide +kernel
theorem dX10_partOf_45 : decode cX10_partOf 45 = .ok (.getfield 22, 3) := by decide +kernel
theorem dX10_partOf_48 : decode cX10_partOf 48 = .ok (.iload 5, 2) := by decide +kernel
theorem dX10_partOf_50 : decode cX10_partOf 50 = .ok (.iaload, 1) := by decide +kernel
theorem dX10_partOf_51 : decode cX10_partOf 51 = .ok (.ishr, 1) := by decide +kernel
theorem dX10_partOf_52 : decode cX10_partOf 52 = .ok (.iconst 1, 1) := by decide +kernel
theorem dX10_partOf_53 : decode cX10_partOf 53 = .ok (.iand, 1) := by decide +kernel
theorem dX10_partOf_54 : decode cX10_partOf 54 = .ok (.iconst 1, 1) := by decide +kernel
theorem dX10_partOf_55 : decode cX10_partOf 55 = .ok (.if_icmp .ne 7, 3) := by decide +kernel
theorem dX10_partOf_58 : decode cX10_partOf 58 = .ok (.iconst 1, 1) := by decide +kernel
theorem dX10_partOf_59 : decode cX10_partOf 59 = .ok (.goto 4, 3) := by decide +kernel
theorem dX10_partOf_62 : decode cX10_partOf 62 = .ok (.iconst 0, 1) := by decide +kernel
theorem dX10_partOf_63 : decode cX10_partOf 63 = .ok (.istore 6, 2) := by decide +kernel
theorem dX10_partOf_65 : decode cX10_partOf 65 = .ok (.iload_n 3, 1) := by decide +kernel
theorem dX10_partOf_66 : decode cX10_partOf 66 = .ok (.iload_n 2, 1) := by decide +kernel
theorem dX10_partOf_67 : decode cX10_partOf 67 = .ok (.iload 5, 2) := by decide +kernel
theorem dX10_partOf_69 : decode cX10_partOf 69 = .ok (.ishr, 1) := by decide +kernel
theorem dX10_partOf_70 : decode cX10_partOf 70 = .ok (.iconst 1, 1) := by decide +kernel
theorem dX10_partOf_71 : decode cX10_partOf 71 = .ok (.iand, 1) := by decide +kernel
theorem dX10_partOf_72 : decode cX10_partOf 72 = .ok (.ifCond .ne 30, 3) := by decide +kernel
theorem dX10_partOf_75 : decode cX10_partOf 75 = .ok (.iload 6, 2) := by decide +kernel
theorem dX10_partOf_77 : decode cX10_partOf 77 = .ok (.ifCond .eq 25, 3) := by decide +kernel
theorem dX10_partOf_80 : decode cX10_partOf 80 = .ok (.iconst 1, 1) := by decide +kernel
theorem dX10_partOf_81 : decode cX10_partOf 81 = .ok (.aload_n 0, 1) := by decide +kernel
theorem dX10_partOf_82 : decode cX10_partOf 82 = .ok (.getfield 19, 3) := by decide +kernel
theorem dX10_partOf_85 : decode cX10_partOf 85 = .ok (.iload 5, 2) := by decide +kernel
theorem dX10_partOf_87 : decode cX10_partOf 87 = .ok (.iaload, 1) := by decide +kernel
theorem dX10_partOf_88 : decode cX10_partOf 88 = .ok (.ishl, 1) := by decide +kernel
theorem dX10_partOf_89 : decode cX10_partOf 89 = .ok (.iconst 1, 1) := by decide +kernel
theorem dX10_partOf_90 : decode cX10_partOf 90 = .ok (.aload_n 0, 1) := by decide +kernel
theorem dX10_partOf_91 : decode cX10_partOf 91 = .ok (.getfield 22, 3) := by decide +kernel
theorem dX10_partOf_94 : decode cX10_partOf 94 = .ok (.iload 5, 2) := by decide +kernel
theorem dX10_partOf_96 : decode cX10_partOf 96 = .ok (.iaload, 1) := by decide +kernel
theorem dX10_partOf_97 : decode cX10_partOf 97 = .ok (.ishl, 1) := by decide +kernel
theorem dX10_partOf_98 : decode cX10_partOf 98 = .ok (.ior, 1) := by decide +kernel
theorem dX10_partOf_99 : decode cX10_partOf 99 = .ok (.goto 4, 3) := by decide +kernel
theorem dX10_partOf_102 : decode cX10_partOf 102 = .ok (.iconst 0, 1) := by decide +kernel
theorem dX10_partOf_103 : decode cX10_partOf 103 = .ok (.ior, 1) := by decide +kernel
theorem dX10_partOf_104 : decode cX10_partOf 104 = .ok (.istore_n 3, 1) := by decide +kernel
theorem dX10_partOf_105 : decode cX10_partOf 105 = .ok (.iinc 5 1, 3) := by decide +kernel
theorem dX10_partOf_108 : decode cX10_partOf 108 = .ok (.goto (-89), 3) := by decide +kernel
theorem dX10_partOf_111 : decode cX10_partOf 111 = .ok (.goto (-104), 3) := by decide +kernel
theorem dX10_partOf_114 : decode cX10_partOf 114 = .ok (.iload_n 3, 1) := by decide +kernel
theorem dX10_partOf_115 : decode cX10_partOf 115 = .ok (.ireturn, 1) := by decide +kernel
theorem vp_mk {i : Int32} {n : Nat} (h1 : 0 ≤ i.toInt) (h2 : i.toInt < (n : Int)) : vp_in i n := by
  intro h
  rcases h with h | h
  · rw [Int32.lt_iff_toInt_lt] at h
    have h0 : (0 : Int32).toInt = 0 := by decide
    omega
  · have e : i.toNatClampNeg = i.toInt.toNat := rfl
    omega
theorem ab_inc {x : Int32} (h1 : -1000 ≤ x.toInt) (h2 : x.toInt ≤ 1000) : (x + Int32.ofInt 1).toInt = x.toInt + 1 := by
  rw [Int32.toInt_add]
  have : (Int32.ofInt 1).toInt = 1 := by decide
  rw [this, ab_bm (by omega) (by omega)]
theorem ab_z0 : (0 : Int32).toInt = 0 := by decide
theorem ab_z1 : (1 : Int32).toInt = 1 := by decide
theorem ab_zm : (-1 : Int32).toInt = -1 := by decide
theorem ab_sub0 {x y : Int32} (h : ¬ x.toInt = y.toInt) : ¬ x - y = 0 := by
  intro e
  apply h
  have h2 := congrArg Int32.toInt e
  rw [Int32.toInt_sub, ab_z0, Int.bmod_def] at h2
  have := ab_ge x
  have := ab_lt' x
  have := ab_ge y
  have := ab_lt' y
  have e32 : ((2 ^ 32 : Nat) : Int) = 4294967296 := by decide
  rw [e32] at h2
  omega
theorem po_or : ∀ i j : Fin 64, (Int32.ofNat i.val).toInt ≤ (Int32.ofNat i.val ||| Int32.ofNat j.val).toInt ∧ (Int32.ofNat i.val ||| Int32.ofNat j.val).toInt ≤ 63 := by decide +kernel
theorem po_nat {x : Int32} (h1 : 0 ≤ x.toInt) (h2 : x.toInt ≤ 63) : ∃ i : Fin 64, x = Int32.ofNat i.val := by
  refine ⟨⟨x.toInt.toNat, by omega⟩, Int32.toInt_inj.mp ?_⟩
  rw [Int32.toInt_ofNat_of_lt (by show x.toInt.toNat < _; omega)]
  show x.toInt = (x.toInt.toNat : Int)
  omega
theorem po_or2 {x y : Int32} (h1 : 0 ≤ x.toInt) (h2 : x.toInt ≤ 63) (h3 : 0 ≤ y.toInt) (h4 : y.toInt ≤ 63) : x.toInt ≤ (x ||| y).toInt ∧ (x ||| y).toInt ≤ 63 := by
  obtain ⟨i, rfl⟩ := po_nat h1 h2
  obtain ⟨j, rfl⟩ := po_nat h3 h4
  exact po_or i j
theorem po_sh {k : Int32} (h1 : 0 ≤ k.toInt) (h2 : k.toInt ≤ 5) : 0 ≤ ((1 : Int32) <<< (k &&& 31)).toInt ∧ ((1 : Int32) <<< (k &&& 31)).toInt ≤ 63 := by
  obtain ⟨i, rfl⟩ := po_nat h1 (by omega)
  have : ∀ i : Fin 64, (Int32.ofNat i.val).toInt ≤ 5 → 0 ≤ ((1 : Int32) <<< (Int32.ofNat i.val &&& 31)).toInt ∧ ((1 : Int32) <<< (Int32.ofNat i.val &&& 31)).toInt ≤ 63 := by decide +kernel
  exact this i h2
def po_J7 (m c : Int32) (cs0 : ex_C) : Nat → ex_L → ex_V → ex_C → Prop := fun n lv st cs => st = [] ∧ cs = cs0 ∧ ∃ (set was : Int32) (x5 x6 : Option Value), lv = [some (.ref 76), some (.int m), some (.int c), some (.int set), some (.int was), x5, x6] ∧ 0 ≤ was.toInt ∧ was.toInt ≤ set.toInt ∧ set.toInt ≤ 63 ∧ (n : Int) = 20 * (64 - was.toInt)
def po_J19 (m c : Int32) (cs0 : ex_C) : Nat → ex_L → ex_V → ex_C → Prop := fun n lv st cs => st = [] ∧ cs = cs0 ∧ ∃ (set was h : Int32) (x6 : Option Value), lv = [some (.ref 76), some (.int m), some (.int c), some (.int set), some (.int was), some (.int h), x6] ∧ 0 ≤ was.toInt ∧ was.toInt ≤ set.toInt ∧ set.toInt ≤ 63 ∧ 0 ≤ h.toInt ∧ h.toInt ≤ 8 ∧ (n : Int) = 20 * (64 - was.toInt) + 10 - h.toInt
def po_I (m c : Int32) (cs0 : ex_C) (pc : Nat) : Option (Nat → ex_L → ex_V → ex_C → Prop) := if pc = 7 then some (po_J7 m c cs0) else if pc = 19 then some (po_J19 m c cs0) else none
def po_B (m c : Int32) (cs0 : ex_C) (n : Nat) : Nat → Option (ex_L → ex_V → ex_C → Prop) := fun pc => (po_I m c cs0 pc).map (fun J' lv st cs => ∃ n', n' < n ∧ J' n' lv st cs)
def po_A (m c : Int32) (cs0 : ex_C) : Nat → Option (ex_L → ex_V → ex_C → Prop) := fun pc => (po_I m c cs0 pc).map (fun J' lv st cs => ∃ n', J' n' lv st cs)
set_option maxRecDepth 100000 in
set_option maxHeartbeats 4000000 in
theorem po_w7 {m c hat : Int32} {f g : Nat → Int32} {cs : ex_C} {fs : List Value} {Q : ex_Q} (h76 : cs[76]? = some (.inr (10, fs))) (hs_hatches : fs[4]? = some (.int hat)) (hs_from : fs[5]? = some (.ref 80)) (hs_to : fs[6]? = some (.ref 81)) (hf : cs[80]? = some (.inl (0, 8, .inl f))) (hg : cs[81]? = some (.inl (0, 8, .inl g))) (hh1 : 0 ≤ hat.toInt) (hh2 : hat.toInt ≤ 8) (hf5 : ∀ j, j < 8 → 0 ≤ (f j).toInt ∧ (f j).toInt ≤ 5) (hg5 : ∀ j, j < 8 → 0 ≤ (g j).toInt ∧ (g j).toInt ≤ 5) (hQ : ∀ r, Q (some (.int r)) cs) {n : Nat} {set was : Int32} {x5 x6 : Option Value} (b1 : 0 ≤ was.toInt) (b2 : was.toInt ≤ set.toInt) (b3 : set.toInt ≤ 63) (hn : (n : Int) = 20 * (64 - was.toInt)) : ex_wp ec_xt bx_X10_partOf cX10_partOf (some .int) (po_B m c cs n) Q 60 7 [some (.ref 76), some (.int m), some (.int c), some (.int set), some (.int was), x5, x6] [] cs := by
  have z0 := ab_z0
  refine wq_iload_n dX10_partOf_7 rfl rfl ?_
  refine go_wp rfl (wq_iload dX10_partOf_8 rfl rfl ?_)
  refine go_wp rfl (wq_icmp_eq (t := 114) dX10_partOf_10 (by decide) rfl (fun q1 => ?_) (fun q1 => ?_))
  · have q1' : Int32.toInt set = Int32.toInt was := (ab_ieq (x := set) (y := was)).1 q1
    refine go_wp rfl (wq_iload_n dX10_partOf_114 rfl rfl ?_)
    refine go_wp rfl (wq_ireturn dX10_partOf_115 trivial (hQ _))
  · have q1' : Int32.toInt set ≠ Int32.toInt was := (ab_ieq (x := set) (y := was)).2 q1
    refine go_wp rfl (wq_iload_n dX10_partOf_13 rfl rfl ?_)
    refine go_wp rfl (wq_istore (lv' := [some (.ref 76), some (.int m), some (.int c), some (.int set), some (.int set), x5, x6]) dX10_partOf_14 ⟨Nat.le_of_ble_eq_true rfl, rfl⟩ rfl rfl ?_)
    refine go_wp rfl (wq_iconst (v := 0) dX10_partOf_16 (by decide) rfl ?_)
    refine go_wp rfl (wq_istore (lv' := [some (.ref 76), some (.int m), some (.int c), some (.int set), some (.int set), some (.int 0), x6]) dX10_partOf_17 ⟨Nat.le_of_ble_eq_true rfl, rfl⟩ rfl rfl ?_)
    exact go_cut rfl ⟨_, (show 20 * (64 - set.toInt.toNat) + 10 < n by omega), rfl, rfl, _, _, _, _, rfl, (by omega), (by omega), (by omega), (by rw [ab_z0]; omega), (by rw [ab_z0]; omega), (by rw [ab_z0]; omega)⟩
set_option maxRecDepth 100000 in
set_option maxHeartbeats 4000000 in
theorem po_w19 {m c hat : Int32} {f g : Nat → Int32} {cs : ex_C} {fs : List Value} {Q : ex_Q} (h76 : cs[76]? = some (.inr (10, fs))) (hs_hatches : fs[4]? = some (.int hat)) (hs_from : fs[5]? = some (.ref 80)) (hs_to : fs[6]? = some (.ref 81)) (hf : cs[80]? = some (.inl (0, 8, .inl f))) (hg : cs[81]? = some (.inl (0, 8, .inl g))) (hh1 : 0 ≤ hat.toInt) (hh2 : hat.toInt ≤ 8) (hf5 : ∀ j, j < 8 → 0 ≤ (f j).toInt ∧ (f j).toInt ≤ 5) (hg5 : ∀ j, j < 8 → 0 ≤ (g j).toInt ∧ (g j).toInt ≤ 5) (hQ : ∀ r, Q (some (.int r)) cs) {n : Nat} {set was h : Int32} {x6 : Option Value} (b1 : 0 ≤ was.toInt) (b2 : was.toInt ≤ set.toInt) (b3 : set.toInt ≤ 63) (b4 : 0 ≤ h.toInt) (b5 : h.toInt ≤ 8) (hn : (n : Int) = 20 * (64 - was.toInt) + 10 - h.toInt) : ex_wp ec_xt bx_X10_partOf cX10_partOf (some .int) (po_B m c cs n) Q 60 19 [some (.ref 76), some (.int m), some (.int c), some (.int set), some (.int was), some (.int h), x6] [] cs := by
  have z0 := ab_z0
  refine wq_iload dX10_partOf_19 rfl rfl ?_
  refine go_wp rfl (wq_aload_n dX10_partOf_21 rfl rfl ?_)
  refine go_wp rfl (wq_getfield dX10_partOf_22 fe_X10_151 h76 hs_hatches rfl ?_)
  refine go_wp rfl (wq_icmp_ge (t := 111) dX10_partOf_25 (by decide) rfl (fun q1 => ?_) (fun q1 => ?_))
  · have q1' : Int32.toInt h ≥ Int32.toInt hat := (ab_ige (x := h) (y := hat)).1 q1
    refine go_wp rfl (wq_goto (t := 7) dX10_partOf_111 (by decide) ?_)
    exact go_cut rfl ⟨_, (show 20 * (64 - was.toInt.toNat) < n by omega), rfl, rfl, _, _, _, _, rfl, (by omega), (by omega), (by omega), (by omega)⟩
  · have q1' : Int32.toInt h < Int32.toInt hat := (ab_ige (x := h) (y := hat)).2 q1
    refine go_wp rfl (wq_iload_n dX10_partOf_28 rfl rfl ?_)
    refine go_wp rfl (wq_aload_n dX10_partOf_29 rfl rfl ?_)
    refine go_wp rfl (wq_getfield dX10_partOf_30 fe_X10_19 h76 hs_from rfl ?_)
    refine go_wp rfl (wq_iload dX10_partOf_33 rfl rfl ?_)
    refine go_wp rfl (wq_iaload (v := (f h.toNatClampNeg)) dX10_partOf_35 (by decide) hf (vp_mk (by omega) (by omega)) rfl rfl ?_)
    refine go_wp rfl (wq_ishr (v := (set >>> ((f h.toNatClampNeg) &&& 31))) dX10_partOf_36 rfl rfl ?_)
    refine go_wp rfl (wq_iconst (v := 1) dX10_partOf_37 (by decide) rfl ?_)
    refine go_wp rfl (wq_iand (v := ((set >>> ((f h.toNatClampNeg) &&& 31)) &&& 1)) dX10_partOf_38 rfl rfl ?_)
    refine go_wp rfl (wq_iconst (v := 1) dX10_partOf_39 (by decide) rfl ?_)
    refine go_wp rfl (wq_icmp_eq (t := 58) dX10_partOf_40 (by decide) rfl (fun q2 => ?_) (fun q2 => ?_))
    · have q2' : Int32.toInt ((set >>> ((f h.toNatClampNeg) &&& 31)) &&& 1) = Int32.toInt 1 := (ab_ieq (x := ((set >>> ((f h.toNatClampNeg) &&& 31)) &&& 1)) (y := 1)).1 q2
      refine go_wp rfl (wq_iconst (v := 1) dX10_partOf_58 (by decide) rfl ?_)
      refine go_wp rfl (wq_goto (t := 63) dX10_partOf_59 (by decide) ?_)
      refine go_wp rfl (wq_istore (lv' := [some (.ref 76), some (.int m), some (.int c), some (.int set), some (.int was), some (.int h), some (.int 1)]) dX10_partOf_63 ⟨Nat.le_of_ble_eq_true rfl, rfl⟩ rfl rfl ?_)
      refine go_wp rfl (wq_iload_n dX10_partOf_65 rfl rfl ?_)
      refine go_wp rfl (wq_iload_n dX10_partOf_66 rfl rfl ?_)
      refine go_wp rfl (wq_iload dX10_partOf_67 rfl rfl ?_)
      refine go_wp rfl (wq_ishr (v := (c >>> (h &&& 31))) dX10_partOf_69 rfl rfl ?_)
      refine go_wp rfl (wq_iconst (v := 1) dX10_partOf_70 (by decide) rfl ?_)
      refine go_wp rfl (wq_iand (v := ((c >>> (h &&& 31)) &&& 1)) dX10_partOf_71 rfl rfl ?_)
      refine go_wp rfl (wq_if_ne (t := 102) dX10_partOf_72 (by decide) rfl (fun q3 => ?_) (fun q3 => ?_))
      · have q3' : Int32.toInt ((c >>> (h &&& 31)) &&& 1) ≠ Int32.toInt 0 := (ab_ieq (x := ((c >>> (h &&& 31)) &&& 1)) (y := 0)).2 q3
        refine go_wp rfl (wq_iconst (v := 0) dX10_partOf_102 (by decide) rfl ?_)
        refine go_wp rfl (wq_ior (v := (set ||| 0)) dX10_partOf_103 rfl rfl ?_)
        refine go_wp rfl (wq_istore_n (lv' := [some (.ref 76), some (.int m), some (.int c), some (.int (set ||| 0)), some (.int was), some (.int h), some (.int 1)]) dX10_partOf_104 ⟨Nat.le_of_ble_eq_true rfl, rfl⟩ rfl rfl ?_)
        refine go_wp rfl (wq_iinc (v := (h + Int32.ofInt 1)) (lv' := [some (.ref 76), some (.int m), some (.int c), some (.int (set ||| 0)), some (.int was), some (.int (h + Int32.ofInt 1)), some (.int 1)]) dX10_partOf_105 rfl ⟨Nat.le_of_ble_eq_true rfl, rfl⟩ rfl rfl rfl ?_)
        refine go_wp rfl (wq_goto (t := 19) dX10_partOf_108 (by decide) ?_)
        have hi := ab_inc (x := h) (by omega) (by omega)
        have ho := po_or2 (x := set) (y := 0) (by omega) (by omega) (by rw [ab_z0]; omega) (by rw [ab_z0]; omega)
        exact go_cut rfl ⟨_, (show 20 * (64 - was.toInt.toNat) + 10 - (h.toInt.toNat + 1) < n by omega), rfl, rfl, _, _, _, _, rfl, (by omega), (by omega), ho.2, (by omega), (by omega), (by omega)⟩
      · have q3' : Int32.toInt ((c >>> (h &&& 31)) &&& 1) = Int32.toInt 0 := (ab_ieq (x := ((c >>> (h &&& 31)) &&& 1)) (y := 0)).1 q3
        refine go_wp rfl (wq_iload dX10_partOf_75 rfl rfl ?_)
        refine go_wp rfl (wq_if_eq (t := 102) dX10_partOf_77 (by decide) rfl (fun q4 => ?_) (fun q4 => ?_))
        · have q4' : Int32.toInt 1 = Int32.toInt 0 := (ab_ieq (x := 1) (y := 0)).1 q4
          refine go_wp rfl (wq_iconst (v := 0) dX10_partOf_102 (by decide) rfl ?_)
          refine go_wp rfl (wq_ior (v := (set ||| 0)) dX10_partOf_103 rfl rfl ?_)
          refine go_wp rfl (wq_istore_n (lv' := [some (.ref 76), some (.int m), some (.int c), some (.int (set ||| 0)), some (.int was), some (.int h), some (.int 1)]) dX10_partOf_104 ⟨Nat.le_of_ble_eq_true rfl, rfl⟩ rfl rfl ?_)
          refine go_wp rfl (wq_iinc (v := (h + Int32.ofInt 1)) (lv' := [some (.ref 76), some (.int m), some (.int c), some (.int (set ||| 0)), some (.int was), some (.int (h + Int32.ofInt 1)), some (.int 1)]) dX10_partOf_105 rfl ⟨Nat.le_of_ble_eq_true rfl, rfl⟩ rfl rfl rfl ?_)
          refine go_wp rfl (wq_goto (t := 19) dX10_partOf_108 (by decide) ?_)
          have hi := ab_inc (x := h) (by omega) (by omega)
          have ho := po_or2 (x := set) (y := 0) (by omega) (by omega) (by rw [ab_z0]; omega) (by rw [ab_z0]; omega)
          exact go_cut rfl ⟨_, (show 20 * (64 - was.toInt.toNat) + 10 - (h.toInt.toNat + 1) < n by omega), rfl, rfl, _, _, _, _, rfl, (by omega), (by omega), ho.2, (by omega), (by omega), (by omega)⟩
        · have q4' : Int32.toInt 1 ≠ Int32.toInt 0 := (ab_ieq (x := 1) (y := 0)).2 q4
          refine go_wp rfl (wq_iconst (v := 1) dX10_partOf_80 (by decide) rfl ?_)
          refine go_wp rfl (wq_aload_n dX10_partOf_81 rfl rfl ?_)
          refine go_wp rfl (wq_getfield dX10_partOf_82 fe_X10_19 h76 hs_from rfl ?_)
          refine go_wp rfl (wq_iload dX10_partOf_85 rfl rfl ?_)
          refine go_wp rfl (wq_iaload (v := (f h.toNatClampNeg)) dX10_partOf_87 (by decide) hf (vp_mk (by omega) (by omega)) rfl rfl ?_)
          refine go_wp rfl (wq_ishl (v := (1 <<< ((f h.toNatClampNeg) &&& 31))) dX10_partOf_88 rfl rfl ?_)
          refine go_wp rfl (wq_iconst (v := 1) dX10_partOf_89 (by decide) rfl ?_)
          refine go_wp rfl (wq_aload_n dX10_partOf_90 rfl rfl ?_)
          refine go_wp rfl (wq_getfield dX10_partOf_91 fe_X10_22 h76 hs_to rfl ?_)
          refine go_wp rfl (wq_iload dX10_partOf_94 rfl rfl ?_)
          refine go_wp rfl (wq_iaload (v := (g h.toNatClampNeg)) dX10_partOf_96 (by decide) hg (vp_mk (by omega) (by omega)) rfl rfl ?_)
          refine go_wp rfl (wq_ishl (v := (1 <<< ((g h.toNatClampNeg) &&& 31))) dX10_partOf_97 rfl rfl ?_)
          refine go_wp rfl (wq_ior (v := ((1 <<< ((f h.toNatClampNeg) &&& 31)) ||| (1 <<< ((g h.toNatClampNeg) &&& 31)))) dX10_partOf_98 rfl rfl ?_)
          refine go_wp rfl (wq_goto (t := 103) dX10_partOf_99 (by decide) ?_)
          refine go_wp rfl (wq_ior (v := (set ||| ((1 <<< ((f h.toNatClampNeg) &&& 31)) ||| (1 <<< ((g h.toNatClampNeg) &&& 31))))) dX10_partOf_103 rfl rfl ?_)
          refine go_wp rfl (wq_istore_n (lv' := [some (.ref 76), some (.int m), some (.int c), some (.int (set ||| ((1 <<< ((f h.toNatClampNeg) &&& 31)) ||| (1 <<< ((g h.toNatClampNeg) &&& 31))))), some (.int was), some (.int h), some (.int 1)]) dX10_partOf_104 ⟨Nat.le_of_ble_eq_true rfl, rfl⟩ rfl rfl ?_)
          refine go_wp rfl (wq_iinc (v := (h + Int32.ofInt 1)) (lv' := [some (.ref 76), some (.int m), some (.int c), some (.int (set ||| ((1 <<< ((f h.toNatClampNeg) &&& 31)) ||| (1 <<< ((g h.toNatClampNeg) &&& 31))))), some (.int was), some (.int (h + Int32.ofInt 1)), some (.int 1)]) dX10_partOf_105 rfl ⟨Nat.le_of_ble_eq_true rfl, rfl⟩ rfl rfl rfl ?_)
          refine go_wp rfl (wq_goto (t := 19) dX10_partOf_108 (by decide) ?_)
          have hi := ab_inc (x := h) (by omega) (by omega)
          have hfh := hf5 h.toNatClampNeg (by have e : h.toNatClampNeg = h.toInt.toNat := rfl; omega)
          have hgh := hg5 h.toNatClampNeg (by have e : h.toNatClampNeg = h.toInt.toNat := rfl; omega)
          have s1 := po_sh hfh.1 hfh.2
          have s2 := po_sh hgh.1 hgh.2
          have s3 := po_or2 s1.1 s1.2 s2.1 s2.2
          have ho := po_or2 (x := set) (y := ((1 <<< ((f h.toNatClampNeg) &&& 31)) ||| (1 <<< ((g h.toNatClampNeg) &&& 31)))) (by omega) (by omega) (by omega) s3.2
          exact go_cut rfl ⟨_, (show 20 * (64 - was.toInt.toNat) + 10 - (h.toInt.toNat + 1) < n by omega), rfl, rfl, _, _, _, _, rfl, (by omega), (by omega), ho.2, (by omega), (by omega), (by omega)⟩
    · have q2' : Int32.toInt ((set >>> ((f h.toNatClampNeg) &&& 31)) &&& 1) ≠ Int32.toInt 1 := (ab_ieq (x := ((set >>> ((f h.toNatClampNeg) &&& 31)) &&& 1)) (y := 1)).2 q2
      refine go_wp rfl (wq_iload_n dX10_partOf_43 rfl rfl ?_)
      refine go_wp rfl (wq_aload_n dX10_partOf_44 rfl rfl ?_)
      refine go_wp rfl (wq_getfield dX10_partOf_45 fe_X10_22 h76 hs_to rfl ?_)
      refine go_wp rfl (wq_iload dX10_partOf_48 rfl rfl ?_)
      refine go_wp rfl (wq_iaload (v := (g h.toNatClampNeg)) dX10_partOf_50 (by decide) hg (vp_mk (by omega) (by omega)) rfl rfl ?_)
      refine go_wp rfl (wq_ishr (v := (set >>> ((g h.toNatClampNeg) &&& 31))) dX10_partOf_51 rfl rfl ?_)
      refine go_wp rfl (wq_iconst (v := 1) dX10_partOf_52 (by decide) rfl ?_)
      refine go_wp rfl (wq_iand (v := ((set >>> ((g h.toNatClampNeg) &&& 31)) &&& 1)) dX10_partOf_53 rfl rfl ?_)
      refine go_wp rfl (wq_iconst (v := 1) dX10_partOf_54 (by decide) rfl ?_)
      refine go_wp rfl (wq_icmp_ne (t := 62) dX10_partOf_55 (by decide) rfl (fun q5 => ?_) (fun q5 => ?_))
      · have q5' : Int32.toInt ((set >>> ((g h.toNatClampNeg) &&& 31)) &&& 1) ≠ Int32.toInt 1 := (ab_ieq (x := ((set >>> ((g h.toNatClampNeg) &&& 31)) &&& 1)) (y := 1)).2 q5
        refine go_wp rfl (wq_iconst (v := 0) dX10_partOf_62 (by decide) rfl ?_)
        refine go_wp rfl (wq_istore (lv' := [some (.ref 76), some (.int m), some (.int c), some (.int set), some (.int was), some (.int h), some (.int 0)]) dX10_partOf_63 ⟨Nat.le_of_ble_eq_true rfl, rfl⟩ rfl rfl ?_)
        refine go_wp rfl (wq_iload_n dX10_partOf_65 rfl rfl ?_)
        refine go_wp rfl (wq_iload_n dX10_partOf_66 rfl rfl ?_)
        refine go_wp rfl (wq_iload dX10_partOf_67 rfl rfl ?_)
        refine go_wp rfl (wq_ishr (v := (c >>> (h &&& 31))) dX10_partOf_69 rfl rfl ?_)
        refine go_wp rfl (wq_iconst (v := 1) dX10_partOf_70 (by decide) rfl ?_)
        refine go_wp rfl (wq_iand (v := ((c >>> (h &&& 31)) &&& 1)) dX10_partOf_71 rfl rfl ?_)
        refine go_wp rfl (wq_if_ne (t := 102) dX10_partOf_72 (by decide) rfl (fun q6 => ?_) (fun q6 => ?_))
        · have q6' : Int32.toInt ((c >>> (h &&& 31)) &&& 1) ≠ Int32.toInt 0 := (ab_ieq (x := ((c >>> (h &&& 31)) &&& 1)) (y := 0)).2 q6
          refine go_wp rfl (wq_iconst (v := 0) dX10_partOf_102 (by decide) rfl ?_)
          refine go_wp rfl (wq_ior (v := (set ||| 0)) dX10_partOf_103 rfl rfl ?_)
          refine go_wp rfl (wq_istore_n (lv' := [some (.ref 76), some (.int m), some (.int c), some (.int (set ||| 0)), some (.int was), some (.int h), some (.int 0)]) dX10_partOf_104 ⟨Nat.le_of_ble_eq_true rfl, rfl⟩ rfl rfl ?_)
          refine go_wp rfl (wq_iinc (v := (h + Int32.ofInt 1)) (lv' := [some (.ref 76), some (.int m), some (.int c), some (.int (set ||| 0)), some (.int was), some (.int (h + Int32.ofInt 1)), some (.int 0)]) dX10_partOf_105 rfl ⟨Nat.le_of_ble_eq_true rfl, rfl⟩ rfl rfl rfl ?_)
          refine go_wp rfl (wq_goto (t := 19) dX10_partOf_108 (by decide) ?_)
          have hi := ab_inc (x := h) (by omega) (by omega)
          have ho := po_or2 (x := set) (y := 0) (by omega) (by omega) (by rw [ab_z0]; omega) (by rw [ab_z0]; omega)
          exact go_cut rfl ⟨_, (show 20 * (64 - was.toInt.toNat) + 10 - (h.toInt.toNat + 1) < n by omega), rfl, rfl, _, _, _, _, rfl, (by omega), (by omega), ho.2, (by omega), (by omega), (by omega)⟩
        · have q6' : Int32.toInt ((c >>> (h &&& 31)) &&& 1) = Int32.toInt 0 := (ab_ieq (x := ((c >>> (h &&& 31)) &&& 1)) (y := 0)).1 q6
          refine go_wp rfl (wq_iload dX10_partOf_75 rfl rfl ?_)
          refine go_wp rfl (wq_if_eq (t := 102) dX10_partOf_77 (by decide) rfl (fun q7 => ?_) (fun q7 => ?_))
          · have q7' : Int32.toInt 0 = Int32.toInt 0 := (ab_ieq (x := 0) (y := 0)).1 q7
            refine go_wp rfl (wq_iconst (v := 0) dX10_partOf_102 (by decide) rfl ?_)
            refine go_wp rfl (wq_ior (v := (set ||| 0)) dX10_partOf_103 rfl rfl ?_)
            refine go_wp rfl (wq_istore_n (lv' := [some (.ref 76), some (.int m), some (.int c), some (.int (set ||| 0)), some (.int was), some (.int h), some (.int 0)]) dX10_partOf_104 ⟨Nat.le_of_ble_eq_true rfl, rfl⟩ rfl rfl ?_)
            refine go_wp rfl (wq_iinc (v := (h + Int32.ofInt 1)) (lv' := [some (.ref 76), some (.int m), some (.int c), some (.int (set ||| 0)), some (.int was), some (.int (h + Int32.ofInt 1)), some (.int 0)]) dX10_partOf_105 rfl ⟨Nat.le_of_ble_eq_true rfl, rfl⟩ rfl rfl rfl ?_)
            refine go_wp rfl (wq_goto (t := 19) dX10_partOf_108 (by decide) ?_)
            have hi := ab_inc (x := h) (by omega) (by omega)
            have ho := po_or2 (x := set) (y := 0) (by omega) (by omega) (by rw [ab_z0]; omega) (by rw [ab_z0]; omega)
            exact go_cut rfl ⟨_, (show 20 * (64 - was.toInt.toNat) + 10 - (h.toInt.toNat + 1) < n by omega), rfl, rfl, _, _, _, _, rfl, (by omega), (by omega), ho.2, (by omega), (by omega), (by omega)⟩
          · have q7' : Int32.toInt 0 ≠ Int32.toInt 0 := (ab_ieq (x := 0) (y := 0)).2 q7
            refine go_wp rfl (wq_iconst (v := 1) dX10_partOf_80 (by decide) rfl ?_)
            refine go_wp rfl (wq_aload_n dX10_partOf_81 rfl rfl ?_)
            refine go_wp rfl (wq_getfield dX10_partOf_82 fe_X10_19 h76 hs_from rfl ?_)
            refine go_wp rfl (wq_iload dX10_partOf_85 rfl rfl ?_)
            refine go_wp rfl (wq_iaload (v := (f h.toNatClampNeg)) dX10_partOf_87 (by decide) hf (vp_mk (by omega) (by omega)) rfl rfl ?_)
            refine go_wp rfl (wq_ishl (v := (1 <<< ((f h.toNatClampNeg) &&& 31))) dX10_partOf_88 rfl rfl ?_)
            refine go_wp rfl (wq_iconst (v := 1) dX10_partOf_89 (by decide) rfl ?_)
            refine go_wp rfl (wq_aload_n dX10_partOf_90 rfl rfl ?_)
            refine go_wp rfl (wq_getfield dX10_partOf_91 fe_X10_22 h76 hs_to rfl ?_)
            refine go_wp rfl (wq_iload dX10_partOf_94 rfl rfl ?_)
            refine go_wp rfl (wq_iaload (v := (g h.toNatClampNeg)) dX10_partOf_96 (by decide) hg (vp_mk (by omega) (by omega)) rfl rfl ?_)
            refine go_wp rfl (wq_ishl (v := (1 <<< ((g h.toNatClampNeg) &&& 31))) dX10_partOf_97 rfl rfl ?_)
            refine go_wp rfl (wq_ior (v := ((1 <<< ((f h.toNatClampNeg) &&& 31)) ||| (1 <<< ((g h.toNatClampNeg) &&& 31)))) dX10_partOf_98 rfl rfl ?_)
            refine go_wp rfl (wq_goto (t := 103) dX10_partOf_99 (by decide) ?_)
            refine go_wp rfl (wq_ior (v := (set ||| ((1 <<< ((f h.toNatClampNeg) &&& 31)) ||| (1 <<< ((g h.toNatClampNeg) &&& 31))))) dX10_partOf_103 rfl rfl ?_)
            refine go_wp rfl (wq_istore_n (lv' := [some (.ref 76), some (.int m), some (.int c), some (.int (set ||| ((1 <<< ((f h.toNatClampNeg) &&& 31)) ||| (1 <<< ((g h.toNatClampNeg) &&& 31))))), some (.int was), some (.int h), some (.int 0)]) dX10_partOf_104 ⟨Nat.le_of_ble_eq_true rfl, rfl⟩ rfl rfl ?_)
            refine go_wp rfl (wq_iinc (v := (h + Int32.ofInt 1)) (lv' := [some (.ref 76), some (.int m), some (.int c), some (.int (set ||| ((1 <<< ((f h.toNatClampNeg) &&& 31)) ||| (1 <<< ((g h.toNatClampNeg) &&& 31))))), some (.int was), some (.int (h + Int32.ofInt 1)), some (.int 0)]) dX10_partOf_105 rfl ⟨Nat.le_of_ble_eq_true rfl, rfl⟩ rfl rfl rfl ?_)
            refine go_wp rfl (wq_goto (t := 19) dX10_partOf_108 (by decide) ?_)
            have hi := ab_inc (x := h) (by omega) (by omega)
            have hfh := hf5 h.toNatClampNeg (by have e : h.toNatClampNeg = h.toInt.toNat := rfl; omega)
            have hgh := hg5 h.toNatClampNeg (by have e : h.toNatClampNeg = h.toInt.toNat := rfl; omega)
            have s1 := po_sh hfh.1 hfh.2
            have s2 := po_sh hgh.1 hgh.2
            have s3 := po_or2 s1.1 s1.2 s2.1 s2.2
            have ho := po_or2 (x := set) (y := ((1 <<< ((f h.toNatClampNeg) &&& 31)) ||| (1 <<< ((g h.toNatClampNeg) &&& 31)))) (by omega) (by omega) (by omega) s3.2
            exact go_cut rfl ⟨_, (show 20 * (64 - was.toInt.toNat) + 10 - (h.toInt.toNat + 1) < n by omega), rfl, rfl, _, _, _, _, rfl, (by omega), (by omega), ho.2, (by omega), (by omega), (by omega)⟩
      · have q5' : Int32.toInt ((set >>> ((g h.toNatClampNeg) &&& 31)) &&& 1) = Int32.toInt 1 := (ab_ieq (x := ((set >>> ((g h.toNatClampNeg) &&& 31)) &&& 1)) (y := 1)).1 q5
        refine go_wp rfl (wq_iconst (v := 1) dX10_partOf_58 (by decide) rfl ?_)
        refine go_wp rfl (wq_goto (t := 63) dX10_partOf_59 (by decide) ?_)
        refine go_wp rfl (wq_istore (lv' := [some (.ref 76), some (.int m), some (.int c), some (.int set), some (.int was), some (.int h), some (.int 1)]) dX10_partOf_63 ⟨Nat.le_of_ble_eq_true rfl, rfl⟩ rfl rfl ?_)
        refine go_wp rfl (wq_iload_n dX10_partOf_65 rfl rfl ?_)
        refine go_wp rfl (wq_iload_n dX10_partOf_66 rfl rfl ?_)
        refine go_wp rfl (wq_iload dX10_partOf_67 rfl rfl ?_)
        refine go_wp rfl (wq_ishr (v := (c >>> (h &&& 31))) dX10_partOf_69 rfl rfl ?_)
        refine go_wp rfl (wq_iconst (v := 1) dX10_partOf_70 (by decide) rfl ?_)
        refine go_wp rfl (wq_iand (v := ((c >>> (h &&& 31)) &&& 1)) dX10_partOf_71 rfl rfl ?_)
        refine go_wp rfl (wq_if_ne (t := 102) dX10_partOf_72 (by decide) rfl (fun q8 => ?_) (fun q8 => ?_))
        · have q8' : Int32.toInt ((c >>> (h &&& 31)) &&& 1) ≠ Int32.toInt 0 := (ab_ieq (x := ((c >>> (h &&& 31)) &&& 1)) (y := 0)).2 q8
          refine go_wp rfl (wq_iconst (v := 0) dX10_partOf_102 (by decide) rfl ?_)
          refine go_wp rfl (wq_ior (v := (set ||| 0)) dX10_partOf_103 rfl rfl ?_)
          refine go_wp rfl (wq_istore_n (lv' := [some (.ref 76), some (.int m), some (.int c), some (.int (set ||| 0)), some (.int was), some (.int h), some (.int 1)]) dX10_partOf_104 ⟨Nat.le_of_ble_eq_true rfl, rfl⟩ rfl rfl ?_)
          refine go_wp rfl (wq_iinc (v := (h + Int32.ofInt 1)) (lv' := [some (.ref 76), some (.int m), some (.int c), some (.int (set ||| 0)), some (.int was), some (.int (h + Int32.ofInt 1)), some (.int 1)]) dX10_partOf_105 rfl ⟨Nat.le_of_ble_eq_true rfl, rfl⟩ rfl rfl rfl ?_)
          refine go_wp rfl (wq_goto (t := 19) dX10_partOf_108 (by decide) ?_)
          have hi := ab_inc (x := h) (by omega) (by omega)
          have ho := po_or2 (x := set) (y := 0) (by omega) (by omega) (by rw [ab_z0]; omega) (by rw [ab_z0]; omega)
          exact go_cut rfl ⟨_, (show 20 * (64 - was.toInt.toNat) + 10 - (h.toInt.toNat + 1) < n by omega), rfl, rfl, _, _, _, _, rfl, (by omega), (by omega), ho.2, (by omega), (by omega), (by omega)⟩
        · have q8' : Int32.toInt ((c >>> (h &&& 31)) &&& 1) = Int32.toInt 0 := (ab_ieq (x := ((c >>> (h &&& 31)) &&& 1)) (y := 0)).1 q8
          refine go_wp rfl (wq_iload dX10_partOf_75 rfl rfl ?_)
          refine go_wp rfl (wq_if_eq (t := 102) dX10_partOf_77 (by decide) rfl (fun q9 => ?_) (fun q9 => ?_))
          · have q9' : Int32.toInt 1 = Int32.toInt 0 := (ab_ieq (x := 1) (y := 0)).1 q9
            refine go_wp rfl (wq_iconst (v := 0) dX10_partOf_102 (by decide) rfl ?_)
            refine go_wp rfl (wq_ior (v := (set ||| 0)) dX10_partOf_103 rfl rfl ?_)
            refine go_wp rfl (wq_istore_n (lv' := [some (.ref 76), some (.int m), some (.int c), some (.int (set ||| 0)), some (.int was), some (.int h), some (.int 1)]) dX10_partOf_104 ⟨Nat.le_of_ble_eq_true rfl, rfl⟩ rfl rfl ?_)
            refine go_wp rfl (wq_iinc (v := (h + Int32.ofInt 1)) (lv' := [some (.ref 76), some (.int m), some (.int c), some (.int (set ||| 0)), some (.int was), some (.int (h + Int32.ofInt 1)), some (.int 1)]) dX10_partOf_105 rfl ⟨Nat.le_of_ble_eq_true rfl, rfl⟩ rfl rfl rfl ?_)
            refine go_wp rfl (wq_goto (t := 19) dX10_partOf_108 (by decide) ?_)
            have hi := ab_inc (x := h) (by omega) (by omega)
            have ho := po_or2 (x := set) (y := 0) (by omega) (by omega) (by rw [ab_z0]; omega) (by rw [ab_z0]; omega)
            exact go_cut rfl ⟨_, (show 20 * (64 - was.toInt.toNat) + 10 - (h.toInt.toNat + 1) < n by omega), rfl, rfl, _, _, _, _, rfl, (by omega), (by omega), ho.2, (by omega), (by omega), (by omega)⟩
          · have q9' : Int32.toInt 1 ≠ Int32.toInt 0 := (ab_ieq (x := 1) (y := 0)).2 q9
            refine go_wp rfl (wq_iconst (v := 1) dX10_partOf_80 (by decide) rfl ?_)
            refine go_wp rfl (wq_aload_n dX10_partOf_81 rfl rfl ?_)
            refine go_wp rfl (wq_getfield dX10_partOf_82 fe_X10_19 h76 hs_from rfl ?_)
            refine go_wp rfl (wq_iload dX10_partOf_85 rfl rfl ?_)
            refine go_wp rfl (wq_iaload (v := (f h.toNatClampNeg)) dX10_partOf_87 (by decide) hf (vp_mk (by omega) (by omega)) rfl rfl ?_)
            refine go_wp rfl (wq_ishl (v := (1 <<< ((f h.toNatClampNeg) &&& 31))) dX10_partOf_88 rfl rfl ?_)
            refine go_wp rfl (wq_iconst (v := 1) dX10_partOf_89 (by decide) rfl ?_)
            refine go_wp rfl (wq_aload_n dX10_partOf_90 rfl rfl ?_)
            refine go_wp rfl (wq_getfield dX10_partOf_91 fe_X10_22 h76 hs_to rfl ?_)
            refine go_wp rfl (wq_iload dX10_partOf_94 rfl rfl ?_)
            refine go_wp rfl (wq_iaload (v := (g h.toNatClampNeg)) dX10_partOf_96 (by decide) hg (vp_mk (by omega) (by omega)) rfl rfl ?_)
            refine go_wp rfl (wq_ishl (v := (1 <<< ((g h.toNatClampNeg) &&& 31))) dX10_partOf_97 rfl rfl ?_)
            refine go_wp rfl (wq_ior (v := ((1 <<< ((f h.toNatClampNeg) &&& 31)) ||| (1 <<< ((g h.toNatClampNeg) &&& 31)))) dX10_partOf_98 rfl rfl ?_)
            refine go_wp rfl (wq_goto (t := 103) dX10_partOf_99 (by decide) ?_)
            refine go_wp rfl (wq_ior (v := (set ||| ((1 <<< ((f h.toNatClampNeg) &&& 31)) ||| (1 <<< ((g h.toNatClampNeg) &&& 31))))) dX10_partOf_103 rfl rfl ?_)
            refine go_wp rfl (wq_istore_n (lv' := [some (.ref 76), some (.int m), some (.int c), some (.int (set ||| ((1 <<< ((f h.toNatClampNeg) &&& 31)) ||| (1 <<< ((g h.toNatClampNeg) &&& 31))))), some (.int was), some (.int h), some (.int 1)]) dX10_partOf_104 ⟨Nat.le_of_ble_eq_true rfl, rfl⟩ rfl rfl ?_)
            refine go_wp rfl (wq_iinc (v := (h + Int32.ofInt 1)) (lv' := [some (.ref 76), some (.int m), some (.int c), some (.int (set ||| ((1 <<< ((f h.toNatClampNeg) &&& 31)) ||| (1 <<< ((g h.toNatClampNeg) &&& 31))))), some (.int was), some (.int (h + Int32.ofInt 1)), some (.int 1)]) dX10_partOf_105 rfl ⟨Nat.le_of_ble_eq_true rfl, rfl⟩ rfl rfl rfl ?_)
            refine go_wp rfl (wq_goto (t := 19) dX10_partOf_108 (by decide) ?_)
            have hi := ab_inc (x := h) (by omega) (by omega)
            have hfh := hf5 h.toNatClampNeg (by have e : h.toNatClampNeg = h.toInt.toNat := rfl; omega)
            have hgh := hg5 h.toNatClampNeg (by have e : h.toNatClampNeg = h.toInt.toNat := rfl; omega)
            have s1 := po_sh hfh.1 hfh.2
            have s2 := po_sh hgh.1 hgh.2
            have s3 := po_or2 s1.1 s1.2 s2.1 s2.2
            have ho := po_or2 (x := set) (y := ((1 <<< ((f h.toNatClampNeg) &&& 31)) ||| (1 <<< ((g h.toNatClampNeg) &&& 31)))) (by omega) (by omega) (by omega) s3.2
            exact go_cut rfl ⟨_, (show 20 * (64 - was.toInt.toNat) + 10 - (h.toInt.toNat + 1) < n by omega), rfl, rfl, _, _, _, _, rfl, (by omega), (by omega), ho.2, (by omega), (by omega), (by omega)⟩
set_option maxRecDepth 100000 in
set_option maxHeartbeats 4000000 in
theorem po_w0 {m c hat : Int32} {f g : Nat → Int32} {cs : ex_C} {fs : List Value} {Q : ex_Q} (h76 : cs[76]? = some (.inr (10, fs))) (hs_hatches : fs[4]? = some (.int hat)) (hs_from : fs[5]? = some (.ref 80)) (hs_to : fs[6]? = some (.ref 81)) (hf : cs[80]? = some (.inl (0, 8, .inl f))) (hg : cs[81]? = some (.inl (0, 8, .inl g))) (hh1 : 0 ≤ hat.toInt) (hh2 : hat.toInt ≤ 8) (hf5 : ∀ j, j < 8 → 0 ≤ (f j).toInt ∧ (f j).toInt ≤ 5) (hg5 : ∀ j, j < 8 → 0 ≤ (g j).toInt ∧ (g j).toInt ≤ 5) (hQ : ∀ r, Q (some (.int r)) cs) (hm1 : 0 ≤ m.toInt) (hm2 : m.toInt ≤ 5) : ex_wp ec_xt bx_X10_partOf cX10_partOf (some .int) (po_A m c cs) Q 60 0 [some (.ref 76), some (.int m), some (.int c), none, none, none, none] [] cs := by
  refine wq_iconst (v := 1) dX10_partOf_0 (by decide) rfl ?_
  refine go_wp rfl (wq_iload_n dX10_partOf_1 rfl rfl ?_)
  refine go_wp rfl (wq_ishl (v := (1 <<< (m &&& 31))) dX10_partOf_2 rfl rfl ?_)
  refine go_wp rfl (wq_istore_n (lv' := [some (.ref 76), some (.int m), some (.int c), some (.int (1 <<< (m &&& 31))), none, none, none]) dX10_partOf_3 ⟨Nat.le_of_ble_eq_true rfl, rfl⟩ rfl rfl ?_)
  refine go_wp rfl (wq_iconst (v := 0) dX10_partOf_4 (by decide) rfl ?_)
  refine go_wp rfl (wq_istore (lv' := [some (.ref 76), some (.int m), some (.int c), some (.int (1 <<< (m &&& 31))), some (.int 0), none, none]) dX10_partOf_5 ⟨Nat.le_of_ble_eq_true rfl, rfl⟩ rfl rfl ?_)
  have s1 := po_sh hm1 hm2
  exact go_cut rfl ⟨20 * 64, rfl, rfl, _, _, _, _, rfl, (by rw [ab_z0]; omega), (by rw [ab_z0]; exact s1.1), s1.2, (by rw [ab_z0]; omega)⟩
theorem po_ct {t : ab_T} {lo hi : Int} {v : Value} (h : ab_ct t v) (e : t = .inr (lo, hi)) : ∃ x : Int32, v = .int x ∧ lo ≤ x.toInt ∧ x.toInt ≤ hi := by
  subst e
  exact h
set_option maxRecDepth 100000 in
theorem bm_X10_partOf (l : Launch) : ex_Met l yX10_partOf cX10_partOf 7 (some .int) 0 0 (ab_sp ab_hd bc_X10_partOf) := by
  intro D ad ca n sz av cs Q h
  refine ex_lmet (by decide) rfl (bj_X10_partOf l) D ad ca n sz av cs Q ?_
  obtain ⟨c, hc, ⟨hp1, hp2, -⟩, hk, hQ⟩ := h
  have hc' : c = ([.inl 76, .inr (0, 5), .inr (-1, 2147483647)], [], [], [(some (-2147483648, 2147483647, none), [], [])]) := by
    unfold bc_X10_partOf bq_X10_partOf at hc
    simpa using hc
  subst hc'
  obtain ⟨v0, e0, h0⟩ := hp2 0 _ rfl
  obtain ⟨v1, e1, x1, rfl, m1, m2⟩ := hp2 1 _ rfl
  obtain ⟨v2, e2, x2, rfl, -, -⟩ := hp2 2 _ rfl
  cases h0
  have hav : av = [.ref 76, .int x1, .int x2] := by
    match av, hp1, e0, e1, e2 with
    | [a, b, c], _, e0, e1, e2 =>
      simp at e0 e1 e2
      subst e0 e1 e2
      rfl
  subst hav
  obtain ⟨fs, h76, -, hj⟩ := hk.obj (a := 76) (ci := 10) rfl
  obtain ⟨hv, hs_hatches, hat, rfl, hh1, hh2⟩ := hj 4 (.inr (0, 8)) rfl
  have hs_from : fs[5]? = some (.ref 80) := by
    obtain ⟨v, hv, hc⟩ := hj 5 (.inl 80) rfl
    cases hc
    exact hv
  have hs_to : fs[6]? = some (.ref 81) := by
    obtain ⟨v, hv, hc⟩ := hj 6 (.inl 81) rfl
    cases hc
    exact hv
  obtain ⟨f, hf, hf5⟩ := hk.arr (a := 80) (t := 0) (n := 8) (m := 8) (lo := 0) (hi := 5) rfl (by decide)
  obtain ⟨g, hg, hg5⟩ := hk.arr (a := 81) (t := 0) (n := 8) (m := 8) (lo := 0) (hi := 5) rfl (by decide)
  have hQ' : ∀ r, Q (some (.int r)) cs := fun r => hQ _ _ ⟨hk, ab_rf0, _, List.mem_cons_self, ⟨r, rfl, ⟨ab_ge r, ab_lt' r⟩, fun _ h => (by cases h)⟩, fun q hq => (by cases hq), fun q hq => (by cases hq)⟩
  refine sl_in 60 (po_I x1 x2 cs) rfl (Nat.le_of_ble_eq_true rfl) rfl (po_w0 h76 hs_hatches hs_from hs_to hf hg hh1 hh2 hf5 hg5 hQ' m1 m2) (fun pc J n lv st cs' hI hJ => ?_)
  unfold po_I at hI
  split at hI
  · rename_i e
    subst e
    cases hI
    obtain ⟨rfl, rfl, set, was, x5, x6, rfl, b1, b2, b3, hn⟩ := hJ
    exact po_w7 h76 hs_hatches hs_from hs_to hf hg hh1 hh2 hf5 hg5 hQ' b1 b2 b3 hn
  · split at hI
    · rename_i e
      subst e
      cases hI
      obtain ⟨rfl, rfl, set, was, hx, x6, rfl, b1, b2, b3, b4, b5, hn⟩ := hJ
      exact po_w19 h76 hs_hatches hs_from hs_to hf hg hh1 hh2 hf5 hg5 hQ' b1 b2 b3 b4 b5 hn
    · cases hI
