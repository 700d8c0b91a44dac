theorem bw_X10_worked : ec_cw yX10_worked cX10_worked 2 (some .int) := ⟨ec_in (i := 1558) (by decide +kernel) rfl, ec_in (i := 68) (by decide +kernel) rfl, by decide, by decide⟩
theorem bv_X10_worked : Cond.instanceMethod yX10_worked ∈ ec_tb ∧ Cond.selects yX10_worked.cls yX10_worked yX10_worked ∈ ec_tb := ⟨ec_in (i := 1556) (by decide +kernel) rfl, ec_in (i := 1557) (by decide +kernel) rfl⟩
def be_X10_worked : Nat → Option (Nat × Option Nat × List ab_C) := fun ix => match ix with
  | 160 => some (2, some 10, bc_X10_finding)
  | 295 => some (3, some 10, bc_X10_tooMuch)
  | _ => none
theorem bk_X10_worked (l : Launch) : ∀ (ix n : Nat) (rc : Option Nat) (sp : ex_S), (be_X10_worked ix).map (fun q => (q.1, q.2.1, ab_sp ab_hd q.2.2)) = some (n, rc, sp) → ex_cok l RX10 1 25 ix n rc sp := by
  intro ix n rc sp h
  obtain ⟨l0, h2, rfl⟩ := ab_dmk h
  clear h
  unfold be_X10_worked at h2
  split at h2
  · cases h2; exact ec_cV (bm_X10_finding l) bw_X10_finding bv_X10_finding (by decide) (by decide) (Or.inl (ec_in (i := 1282) (by decide +kernel) rfl)) (T := TX10) (N := 57) rfl (by decide) (by decide +kernel)
  · cases h2; exact ec_cV (bm_X10_tooMuch l) bw_X10_tooMuch bv_X10_tooMuch (by decide) (by decide) (Or.inl (ec_in (i := 1559) (by decide +kernel) rfl)) (T := TX10) (N := 57) rfl (by decide) (by decide +kernel)
  · cases h2
def bx_X10_worked : ex_K := (RX10, ec_fx fl_X10, ec_cx cl_X10, sl_X10, (fun ix => (be_X10_worked ix).map (fun q => (q.1, q.2.1, ab_sp ab_hd q.2.2))), ec_nz, ec_no)
theorem bj_X10_worked (l : Launch) : ex_ok l 1 25 bx_X10_worked := ⟨ec_fok fo_X10, ec_cok co_X10, so_X10, bk_X10_worked l, fun _ h => (by cases h), fun _ h => (by cases h), fun _ h => (by cases h), fun _ _ h => (by cases h)⟩
def bq_X10_worked : List (ab_C × List ab_Q) := [(([.inl 76, .inr ((-2147483648), 2147483647)], [], [(114, some 1)], [(some ((-2147483648), 2147483647, none), [], [])]), [])]
def bc_X10_worked : List ab_C := bq_X10_worked.map (fun c => c.1)
def bi_X10_worked : List (Nat × Instr × Nat) := [(0, .iload_n 1, 1), (1, .ifCond .lt 11, 3), (4, .iload_n 1, 1), (5, .aload_n 0, 1), (6, .getfield 289, 3), (9, .if_icmp .lt 9, 3), (12, .aload_n 0, 1), (13, .iconst 1, 1), (14, .invokevirtual 160, 3), (17, .ireturn, 1), (18, .aload_n 0, 1), (19, .getfield 116, 3), (22, .iload_n 1, 1), (23, .iaload, 1), (24, .aload_n 0, 1), (25, .aload_n 0, 1), (26, .getfield 110, 3), (29, .iload_n 1, 1), (30, .iaload, 1), (31, .aload_n 0, 1), (32, .getfield 113, 3), (35, .iload_n 1, 1), (36, .iaload, 1), (37, .invokevirtual 295, 3), (40, .isub, 1), (41, .ireturn, 1)]
theorem bd_X10_worked : ∀ q ∈ bi_X10_worked, decode cX10_worked q.1 = .ok q.2 := by decide +kernel
theorem bz_X10_worked : bq_X10_worked.all (ab_ck ab_hd ab_xs ab_tr bx_X10_worked be_X10_worked bi_X10_worked (some .int) 2 24) = true := by decide +kernel
theorem bm_X10_worked (l : Launch) : ex_Met l yX10_worked cX10_worked 2 (some .int) 1 25 (ab_sp ab_hd bc_X10_worked) := ab_met (by decide) (by decide) rfl (bj_X10_worked l) bd_X10_worked ab_hcm ab_xk bz_X10_worked
theorem bw_X10_delay : ec_cw yX10_delay cX10_delay 3 (some .int) := ⟨ec_in (i := 1566) (by decide +kernel) rfl, ec_in (i := 68) (by decide +kernel) rfl, by decide, by decide⟩
theorem bv_X10_delay : Cond.instanceMethod yX10_delay ∈ ec_tb ∧ Cond.selects yX10_delay.cls yX10_delay yX10_delay ∈ ec_tb := ⟨ec_in (i := 1564) (by decide +kernel) rfl, ec_in (i := 1565) (by decide +kernel) rfl⟩
def be_X10_delay : Nat → Option (Nat × Option Nat × List ab_C) := fun ix => match ix with
  | 171 => some (3, none, bc_X10_isIn)
  | 160 => some (2, some 10, bc_X10_finding)
  | _ => none
theorem bk_X10_delay (l : Launch) : ∀ (ix n : Nat) (rc : Option Nat) (sp : ex_S), (be_X10_delay ix).map (fun q => (q.1, q.2.1, ab_sp ab_hd q.2.2)) = some (n, rc, sp) → ex_cok l RX10 1 22 ix n rc sp := by
  intro ix n rc sp h
  obtain ⟨l0, h2, rfl⟩ := ab_dmk h
  clear h
  unfold be_X10_delay at h2
  split at h2
  · cases h2; exact ec_cS (bm_X10_isIn l) bw_X10_isIn bv_X10_isIn (by decide) (by decide) (Or.inl (ec_in (i := 1303) (by decide +kernel) rfl)) (by decide +kernel)
  · cases h2; exact ec_cV (bm_X10_finding l) bw_X10_finding bv_X10_finding (by decide) (by decide) (Or.inl (ec_in (i := 1282) (by decide +kernel) rfl)) (T := TX10) (N := 57) rfl (by decide) (by decide +kernel)
  · cases h2
def bx_X10_delay : ex_K := (RX10, ec_fx fl_X10, ec_cx cl_X10, sl_X10, (fun ix => (be_X10_delay ix).map (fun q => (q.1, q.2.1, ab_sp ab_hd q.2.2))), ec_nz, ec_no)
theorem bj_X10_delay (l : Launch) : ex_ok l 1 22 bx_X10_delay := ⟨ec_fok fo_X10, ec_cok co_X10, so_X10, bk_X10_delay l, fun _ h => (by cases h), fun _ h => (by cases h), fun _ h => (by cases h), fun _ _ h => (by cases h)⟩
def bq_X10_delay : List (ab_C × List ab_Q) := [(([.inl 76, .inr ((-2147483648), 2147483647)], [], [(76, some 49), (114, some 1)], [(some ((-2147483648), 2147483647, none), [], [])]), [])]
def bc_X10_delay : List ab_C := bq_X10_delay.map (fun c => c.1)
def bi_X10_delay : List (Nat × Instr × Nat) := [(0, .iload_n 1, 1), (1, .iconst 0, 1), (2, .bipush 100, 2), (4, .invokestatic 171, 3), (7, .ifCond .ne 9, 3), (10, .aload_n 0, 1), (11, .iconst 1, 1), (12, .invokevirtual 160, 3), (15, .ireturn, 1), (16, .aload_n 0, 1), (17, .getfield 131, 3), (20, .istore_n 2, 1), (21, .aload_n 0, 1), (22, .iload_n 1, 1), (23, .putfield 131, 3), (26, .iload_n 2, 1), (27, .ireturn, 1)]
theorem bd_X10_delay : ∀ q ∈ bi_X10_delay, decode cX10_delay q.1 = .ok q.2 := by decide +kernel
theorem bz_X10_delay : bq_X10_delay.all (ab_ck ab_hd ab_xs ab_tr bx_X10_delay be_X10_delay bi_X10_delay (some .int) 3 15) = true := by decide +kernel
theorem bm_X10_delay (l : Launch) : ex_Met l yX10_delay cX10_delay 3 (some .int) 1 22 (ab_sp ab_hd bc_X10_delay) := ab_met (by decide) (by decide) rfl (bj_X10_delay l) bd_X10_delay ab_hcm ab_xk bz_X10_delay
theorem bw_X10_known : ec_cw yX10_known cX10_known 5 (some .int) := ⟨ec_in (i := 1570) (by decide +kernel) rfl, ec_in (i := 68) (by decide +kernel) rfl, by decide, by decide⟩
theorem bv_X10_known : Cond.instanceMethod yX10_known ∈ ec_tb ∧ Cond.selects yX10_known.cls yX10_known yX10_known ∈ ec_tb := ⟨ec_in (i := 1568) (by decide +kernel) rfl, ec_in (i := 1569) (by decide +kernel) rfl⟩
def be_X10_known : Nat → Option (Nat × Option Nat × List ab_C) := fun ix => match ix with
  | 171 => some (3, none, bc_X10_isIn)
  | 160 => some (2, some 10, bc_X10_finding)
  | _ => none
theorem bk_X10_known (l : Launch) : ∀ (ix n : Nat) (rc : Option Nat) (sp : ex_S), (be_X10_known ix).map (fun q => (q.1, q.2.1, ab_sp ab_hd q.2.2)) = some (n, rc, sp) → ex_cok l RX10 1 22 ix n rc sp := by
  intro ix n rc sp h
  obtain ⟨l0, h2, rfl⟩ := ab_dmk h
  clear h
  unfold be_X10_known at h2
  split at h2
  · cases h2; exact ec_cS (bm_X10_isIn l) bw_X10_isIn bv_X10_isIn (by decide) (by decide) (Or.inl (ec_in (i := 1303) (by decide +kernel) rfl)) (by decide +kernel)
  · cases h2; exact ec_cV (bm_X10_finding l) bw_X10_finding bv_X10_finding (by decide) (by decide) (Or.inl (ec_in (i := 1282) (by decide +kernel) rfl)) (T := TX10) (N := 57) rfl (by decide) (by decide +kernel)
  · cases h2
def bx_X10_known : ex_K := (RX10, ec_fx fl_X10, ec_cx cl_X10, sl_X10, (fun ix => (be_X10_known ix).map (fun q => (q.1, q.2.1, ab_sp ab_hd q.2.2))), ec_nz, ec_no)
theorem bj_X10_known (l : Launch) : ex_ok l 1 22 bx_X10_known := ⟨ec_fok fo_X10, ec_cok co_X10, so_X10, bk_X10_known l, fun _ h => (by cases h), fun _ h => (by cases h), fun _ h => (by cases h), fun _ _ h => (by cases h)⟩
def bq_X10_known : List (ab_C × List ab_Q) := [(([.inl 76, .inr ((-2147483648), 2147483647), .inr ((-2147483648), 2147483647)], [], [(114, some 1), (114, some 2)], [(some ((-2147483648), 2147483647, none), [], [])]), [(31, [some (.inl 76), some (.inr (.inl (0, 3, none, none))), some (.inr (.inl (0, 4000, none, none))), some (.inr (.inl ((-1), 39, none, none))), some (.inr (.inl (0, 40, none, none)))], [((1, 0, 7), 0, 24, some (1007, 0)), ((1, 76, 52), 0, 24, some (77052, 0))], 81, [0, 0, 0, 0, (-2)])])]
def bc_X10_known : List ab_C := bq_X10_known.map (fun c => c.1)
def bi_X10_known : List (Nat × Instr × Nat) := [(0, .iload_n 1, 1), (1, .iconst 0, 1), (2, .iconst 3, 1), (3, .invokestatic 171, 3), (6, .ifCond .eq 14, 3), (9, .iload_n 2, 1), (10, .iconst 0, 1), (11, .sipush 4000, 3), (14, .invokestatic 171, 3), (17, .ifCond .ne 9, 3), (20, .aload_n 0, 1), (21, .iconst 1, 1), (22, .invokevirtual 160, 3), (25, .ireturn, 1), (26, .iconst (-1), 1), (27, .istore_n 3, 1), (28, .iconst 0, 1), (29, .istore 4, 2), (31, .iload 4, 2), (33, .aload_n 0, 1), (34, .getfield 289, 3), (37, .if_icmp .ge 38, 3), (40, .aload_n 0, 1), (41, .getfield 110, 3), (44, .iload 4, 2), (46, .iaload, 1), (47, .iload_n 1, 1), (48, .if_icmp .ne 19, 3), (51, .aload_n 0, 1), (52, .getfield 119, 3), (55, .iload 4, 2), (57, .iaload, 1), (58, .iload_n 2, 1), (59, .if_icmp .gt 8, 3), (62, .iload 4, 2), (64, .goto 4, 3), (67, .iload_n 3, 1), (68, .istore_n 3, 1), (69, .iinc 4 1, 3), (72, .goto (-41), 3), (75, .iload_n 3, 1), (76, .ifCond .ge 11, 3), (79, .aload_n 0, 1), (80, .iconst 2, 1), (81, .invokevirtual 160, 3), (84, .goto 4, 3), (87, .iload_n 3, 1), (88, .ireturn, 1)]
theorem bd_X10_known : ∀ q ∈ bi_X10_known, decode cX10_known q.1 = .ok q.2 := by decide +kernel
theorem bz_X10_known : bq_X10_known.all (ab_ck ab_hd ab_xs ab_tr bx_X10_known be_X10_known bi_X10_known (some .int) 5 23) = true := by decide +kernel
theorem bm_X10_known (l : Launch) : ex_Met l yX10_known cX10_known 5 (some .int) 1 22 (ab_sp ab_hd bc_X10_known) := ab_met (by decide) (by decide) rfl (bj_X10_known l) bd_X10_known ab_hcm ab_xk bz_X10_known
theorem bw_X10_mass : ec_cw yX10_mass cX10_mass 4 (some .int) := ⟨ec_in (i := 1574) (by decide +kernel) rfl, ec_in (i := 68) (by decide +kernel) rfl, by decide, by decide⟩
theorem bv_X10_mass : Cond.instanceMethod yX10_mass ∈ ec_tb ∧ Cond.selects yX10_mass.cls yX10_mass yX10_mass ∈ ec_tb := ⟨ec_in (i := 1572) (by decide +kernel) rfl, ec_in (i := 1573) (by decide +kernel) rfl⟩
def be_X10_mass : Nat → Option (Nat × Option Nat × List ab_C) := fun ix => match ix with
  | 171 => some (3, none, bc_X10_isIn)
  | 160 => some (2, some 10, bc_X10_finding)
  | _ => none
theorem bk_X10_mass (l : Launch) : ∀ (ix n : Nat) (rc : Option Nat) (sp : ex_S), (be_X10_mass ix).map (fun q => (q.1, q.2.1, ab_sp ab_hd q.2.2)) = some (n, rc, sp) → ex_cok l RX10 1 22 ix n rc sp := by
  intro ix n rc sp h
  obtain ⟨l0, h2, rfl⟩ := ab_dmk h
  clear h
  unfold be_X10_mass at h2
  split at h2
  · cases h2; exact ec_cS (bm_X10_isIn l) bw_X10_isIn bv_X10_isIn (by decide) (by decide) (Or.inl (ec_in (i := 1303) (by decide +kernel) rfl)) (by decide +kernel)
  · cases h2; exact ec_cV (bm_X10_finding l) bw_X10_finding bv_X10_finding (by decide) (by decide) (Or.inl (ec_in (i := 1282) (by decide +kernel) rfl)) (T := TX10) (N := 57) rfl (by decide) (by decide +kernel)
  · cases h2
def bx_X10_mass : ex_K := (RX10, ec_fx fl_X10, ec_cx cl_X10, sl_X10, (fun ix => (be_X10_mass ix).map (fun q => (q.1, q.2.1, ab_sp ab_hd q.2.2))), ec_nz, ec_no)
theorem bj_X10_mass (l : Launch) : ex_ok l 1 22 bx_X10_mass := ⟨ec_fok fo_X10, ec_cok co_X10, so_X10, bk_X10_mass l, fun _ h => (by cases h), fun _ h => (by cases h), fun _ h => (by cases h), fun _ _ h => (by cases h)⟩
def bq_X10_mass : List (ab_C × List ab_Q) := [(([.inl 76, .inr ((-2147483648), 2147483647), .inr ((-2147483648), 2147483647)], [], [(76, some 50), (76, some 51), (114, some 1)], [(some ((-2147483648), 2147483647, none), [], [])]), [])]
def bc_X10_mass : List ab_C := bq_X10_mass.map (fun c => c.1)
def bi_X10_mass : List (Nat × Instr × Nat) := [(0, .iload_n 1, 1), (1, .iconst 0, 1), (2, .iconst 1, 1), (3, .invokestatic 171, 3), (6, .ifCond .eq 40, 3), (9, .iload_n 2, 1), (10, .ldc 147, 2), (12, .if_icmp .eq 40, 3), (15, .iload_n 1, 1), (16, .ifCond .ne 17, 3), (19, .iload_n 2, 1), (20, .iconst 1, 1), (21, .ldc_w 298, 3), (24, .invokestatic 171, 3), (27, .ifCond .eq 19, 3), (30, .goto 22, 3), (33, .iload_n 2, 1), (34, .sipush (-1000), 3), (37, .sipush 1000, 3), (40, .invokestatic 171, 3), (43, .ifCond .ne 9, 3), (46, .aload_n 0, 1), (47, .iconst 1, 1), (48, .invokevirtual 160, 3), (51, .ireturn, 1), (52, .iload_n 1, 1), (53, .ifCond .ne 10, 3), (56, .aload_n 0, 1), (57, .getfield 135, 3), (60, .goto 7, 3), (63, .aload_n 0, 1), (64, .getfield 299, 3), (67, .istore_n 3, 1), (68, .iload_n 2, 1), (69, .ldc 147, 2), (71, .if_icmp .eq 12, 3), (74, .iload_n 1, 1), (75, .ifCond .ne 8, 3), (78, .aload_n 0, 1), (79, .iload_n 2, 1), (80, .putfield 135, 3), (83, .iload_n 2, 1), (84, .ldc 147, 2), (86, .if_icmp .eq 13, 3), (89, .iload_n 1, 1), (90, .iconst 1, 1), (91, .if_icmp .ne 8, 3), (94, .aload_n 0, 1), (95, .iload_n 2, 1), (96, .putfield 299, 3), (99, .iload_n 3, 1), (100, .ireturn, 1)]
theorem bd_X10_mass : ∀ q ∈ bi_X10_mass, decode cX10_mass q.1 = .ok q.2 := by decide +kernel
theorem bz_X10_mass : bq_X10_mass.all (ab_ck ab_hd ab_xs ab_tr bx_X10_mass be_X10_mass bi_X10_mass (some .int) 4 40) = true := by decide +kernel
theorem bm_X10_mass (l : Launch) : ex_Met l yX10_mass cX10_mass 4 (some .int) 1 22 (ab_sp ab_hd bc_X10_mass) := ab_met (by decide) (by decide) rfl (bj_X10_mass l) bd_X10_mass ab_hcm ab_xk bz_X10_mass
theorem bw_X10_dock : ec_cw yX10_dock cX10_dock 3 (some .int) := ⟨ec_in (i := 1579) (by decide +kernel) rfl, ec_in (i := 68) (by decide +kernel) rfl, by decide, by decide⟩
theorem bv_X10_dock : Cond.instanceMethod yX10_dock ∈ ec_tb ∧ Cond.selects yX10_dock.cls yX10_dock yX10_dock ∈ ec_tb := ⟨ec_in (i := 1577) (by decide +kernel) rfl, ec_in (i := 1578) (by decide +kernel) rfl⟩
def be_X10_dock : Nat → Option (Nat × Option Nat × List ab_C) := fun ix => match ix with
  | 171 => some (3, none, bc_X10_isIn)
  | 160 => some (2, some 10, bc_X10_finding)
  | _ => none
theorem bk_X10_dock (l : Launch) : ∀ (ix n : Nat) (rc : Option Nat) (sp : ex_S), (be_X10_dock ix).map (fun q => (q.1, q.2.1, ab_sp ab_hd q.2.2)) = some (n, rc, sp) → ex_cok l RX10 1 22 ix n rc sp := by
  intro ix n rc sp h
  obtain ⟨l0, h2, rfl⟩ := ab_dmk h
  clear h
  unfold be_X10_dock at h2
  split at h2
  · cases h2; exact ec_cS (bm_X10_isIn l) bw_X10_isIn bv_X10_isIn (by decide) (by decide) (Or.inl (ec_in (i := 1303) (by decide +kernel) rfl)) (by decide +kernel)
  · cases h2; exact ec_cV (bm_X10_finding l) bw_X10_finding bv_X10_finding (by decide) (by decide) (Or.inl (ec_in (i := 1282) (by decide +kernel) rfl)) (T := TX10) (N := 57) rfl (by decide) (by decide +kernel)
  · cases h2
def bx_X10_dock : ex_K := (RX10, ec_fx fl_X10, ec_cx cl_X10, sl_X10, (fun ix => (be_X10_dock ix).map (fun q => (q.1, q.2.1, ab_sp ab_hd q.2.2))), ec_nz, ec_no)
theorem bj_X10_dock (l : Launch) : ex_ok l 1 22 bx_X10_dock := ⟨ec_fok fo_X10, ec_cok co_X10, so_X10, bk_X10_dock l, fun _ h => (by cases h), fun _ h => (by cases h), fun _ h => (by cases h), fun _ _ h => (by cases h)⟩
def bq_X10_dock : List (ab_C × List ab_Q) := [(([.inl 76, .inr ((-2147483648), 2147483647), .inr ((-2147483648), 2147483647)], [], [(76, some 50), (76, some 51), (114, some 1), (114, some 3)], [(some ((-2147483648), 2147483647, none), [], [])]), [])]
def bc_X10_dock : List ab_C := bq_X10_dock.map (fun c => c.1)
def bi_X10_dock : List (Nat × Instr × Nat) := [(0, .iload_n 1, 1), (1, .iconst 1, 1), (2, .ldc_w 298, 3), (5, .invokestatic 171, 3), (8, .ifCond .eq 16, 3), (11, .iload_n 2, 1), (12, .sipush (-1000), 3), (15, .sipush 1000, 3), (18, .invokestatic 171, 3), (21, .ifCond .ne 9, 3), (24, .aload_n 0, 1), (25, .iconst 1, 1), (26, .invokevirtual 160, 3), (29, .ireturn, 1), (30, .aload_n 0, 1), (31, .getfield 135, 3), (34, .iload_n 1, 1), (35, .iadd, 1), (36, .ldc_w 298, 3), (39, .if_icmp .le 9, 3), (42, .aload_n 0, 1), (43, .iconst 3, 1), (44, .invokevirtual 160, 3), (47, .ireturn, 1), (48, .aload_n 0, 1), (49, .aload_n 0, 1), (50, .getfield 135, 3), (53, .i2l, 1), (54, .aload_n 0, 1), (55, .getfield 299, 3), (58, .i2l, 1), (59, .lmul, 1), (60, .iload_n 1, 1), (61, .i2l, 1), (62, .iload_n 2, 1), (63, .i2l, 1), (64, .lmul, 1), (65, .ladd, 1), (66, .aload_n 0, 1), (67, .getfield 135, 3), (70, .iload_n 1, 1), (71, .iadd, 1), (72, .i2l, 1), (73, .ldiv, 1), (74, .l2i, 1), (75, .putfield 299, 3), (78, .aload_n 0, 1), (79, .dup, 1), (80, .getfield 135, 3), (83, .iload_n 1, 1), (84, .iadd, 1), (85, .putfield 135, 3), (88, .aload_n 0, 1), (89, .getfield 299, 3), (92, .ireturn, 1)]
theorem bd_X10_dock : ∀ q ∈ bi_X10_dock, decode cX10_dock q.1 = .ok q.2 := by decide +kernel
theorem bz_X10_dock : bq_X10_dock.all (ab_ck ab_hd ab_xs ab_tr bx_X10_dock be_X10_dock bi_X10_dock (some .int) 3 49) = true := by decide +kernel
theorem bm_X10_dock (l : Launch) : ex_Met l yX10_dock cX10_dock 3 (some .int) 1 22 (ab_sp ab_hd bc_X10_dock) := ab_met (by decide) (by decide) rfl (bj_X10_dock l) bd_X10_dock ab_hcm ab_xk bz_X10_dock
theorem bw_X10_undock : ec_cw yX10_undock cX10_undock 2 (some .int) := ⟨ec_in (i := 1583) (by decide +kernel) rfl, ec_in (i := 68) (by decide +kernel) rfl, by decide, by decide⟩
theorem bv_X10_undock : Cond.instanceMethod yX10_undock ∈ ec_tb ∧ Cond.selects yX10_undock.cls yX10_undock yX10_undock ∈ ec_tb := ⟨ec_in (i := 1581) (by decide +kernel) rfl, ec_in (i := 1582) (by decide +kernel) rfl⟩
def be_X10_undock : Nat → Option (Nat × Option Nat × List ab_C) := fun ix => match ix with
  | 171 => some (3, none, bc_X10_isIn)
  | 160 => some (2, some 10, bc_X10_finding)
  | _ => none
theorem bk_X10_undock (l : Launch) : ∀ (ix n : Nat) (rc : Option Nat) (sp : ex_S), (be_X10_undock ix).map (fun q => (q.1, q.2.1, ab_sp ab_hd q.2.2)) = some (n, rc, sp) → ex_cok l RX10 1 22 ix n rc sp := by
  intro ix n rc sp h
  obtain ⟨l0, h2, rfl⟩ := ab_dmk h
  clear h
  unfold be_X10_undock at h2
  split at h2
  · cases h2; exact ec_cS (bm_X10_isIn l) bw_X10_isIn bv_X10_isIn (by decide) (by decide) (Or.inl (ec_in (i := 1303) (by decide +kernel) rfl)) (by decide +kernel)
  · cases h2; exact ec_cV (bm_X10_finding l) bw_X10_finding bv_X10_finding (by decide) (by decide) (Or.inl (ec_in (i := 1282) (by decide +kernel) rfl)) (T := TX10) (N := 57) rfl (by decide) (by decide +kernel)
  · cases h2
def bx_X10_undock : ex_K := (RX10, ec_fx fl_X10, ec_cx cl_X10, sl_X10, (fun ix => (be_X10_undock ix).map (fun q => (q.1, q.2.1, ab_sp ab_hd q.2.2))), ec_nz, ec_no)
theorem bj_X10_undock (l : Launch) : ex_ok l 1 22 bx_X10_undock := ⟨ec_fok fo_X10, ec_cok co_X10, so_X10, bk_X10_undock l, fun _ h => (by cases h), fun _ h => (by cases h), fun _ h => (by cases h), fun _ _ h => (by cases h)⟩
def bq_X10_undock : List (ab_C × List ab_Q) := [(([.inl 76, .inr ((-2147483648), 2147483647)], [], [(76, some 50), (114, some 1), (114, some 3)], [(some ((-2147483648), 2147483647, none), [], [])]), [])]
def bc_X10_undock : List ab_C := bq_X10_undock.map (fun c => c.1)
def bi_X10_undock : List (Nat × Instr × Nat) := [(0, .iload_n 1, 1), (1, .iconst 1, 1), (2, .ldc_w 298, 3), (5, .invokestatic 171, 3), (8, .ifCond .ne 9, 3), (11, .aload_n 0, 1), (12, .iconst 1, 1), (13, .invokevirtual 160, 3), (16, .ireturn, 1), (17, .aload_n 0, 1), (18, .getfield 135, 3), (21, .iload_n 1, 1), (22, .isub, 1), (23, .iconst 1, 1), (24, .if_icmp .ge 9, 3), (27, .aload_n 0, 1), (28, .iconst 3, 1), (29, .invokevirtual 160, 3), (32, .ireturn, 1), (33, .aload_n 0, 1), (34, .dup, 1), (35, .getfield 135, 3), (38, .iload_n 1, 1), (39, .isub, 1), (40, .putfield 135, 3), (43, .aload_n 0, 1), (44, .getfield 135, 3), (47, .ireturn, 1)]
theorem bd_X10_undock : ∀ q ∈ bi_X10_undock, decode cX10_undock q.1 = .ok q.2 := by decide +kernel
theorem bz_X10_undock : bq_X10_undock.all (ab_ck ab_hd ab_xs ab_tr bx_X10_undock be_X10_undock bi_X10_undock (some .int) 2 22) = true := by decide +kernel
theorem bm_X10_undock (l : Launch) : ex_Met l yX10_undock cX10_undock 2 (some .int) 1 22 (ab_sp ab_hd bc_X10_undock) := ab_met (by decide) (by decide) rfl (bj_X10_undock l) bd_X10_undock ab_hcm ab_xk bz_X10_undock
theorem bw_X10_tell : ec_cw yX10_tell cX10_tell 2 (some .int) := ⟨ec_in (i := 1587) (by decide +kernel) rfl, ec_in (i := 68) (by decide +kernel) rfl, by decide, by decide⟩
theorem bv_X10_tell : Cond.instanceMethod yX10_tell ∈ ec_tb ∧ Cond.selects yX10_tell.cls yX10_tell yX10_tell ∈ ec_tb := ⟨ec_in (i := 1585) (by decide +kernel) rfl, ec_in (i := 1586) (by decide +kernel) rfl⟩
def be_X10_tell : Nat → Option (Nat × Option Nat × List ab_C) := fun ix => match ix with
  | 160 => some (2, some 10, bc_X10_finding)
  | _ => none
theorem bk_X10_tell (l : Launch) : ∀ (ix n : Nat) (rc : Option Nat) (sp : ex_S), (be_X10_tell ix).map (fun q => (q.1, q.2.1, ab_sp ab_hd q.2.2)) = some (n, rc, sp) → ex_cok l RX10 1 21 ix n rc sp := by
  intro ix n rc sp h
  obtain ⟨l0, h2, rfl⟩ := ab_dmk h
  clear h
  unfold be_X10_tell at h2
  split at h2
  · cases h2; exact ec_cV (bm_X10_finding l) bw_X10_finding bv_X10_finding (by decide) (by decide) (Or.inl (ec_in (i := 1282) (by decide +kernel) rfl)) (T := TX10) (N := 57) rfl (by decide) (by decide +kernel)
  · cases h2
def bx_X10_tell : ex_K := (RX10, ec_fx fl_X10, ec_cx cl_X10, sl_X10, (fun ix => (be_X10_tell ix).map (fun q => (q.1, q.2.1, ab_sp ab_hd q.2.2))), ec_nz, ec_no)
theorem bj_X10_tell (l : Launch) : ex_ok l 1 21 bx_X10_tell := ⟨ec_fok fo_X10, ec_cok co_X10, so_X10, bk_X10_tell l, fun _ h => (by cases h), fun _ h => (by cases h), fun _ h => (by cases h), fun _ _ h => (by cases h)⟩
def bq_X10_tell : List (ab_C × List ab_Q) := [(([.inl 76, .inr ((-2147483648), 2147483647)], [], [(76, some 52), (113, none), (114, some 4)], [(some ((-1000000004), (-1000000004), none), [((8, 77052, 0), 24, 24, none)], [((1, 76, 52), 24, 24, some (77052, 0))]), (some (1, 24, some (77052, 1)), [((8, 77052, 0), 0, 23, none)], [((1, 76, 52), 1, 24, some (77052, 1))])]), [])]
def bc_X10_tell : List ab_C := bq_X10_tell.map (fun c => c.1)
def bi_X10_tell : List (Nat × Instr × Nat) := [(0, .aload_n 0, 1), (1, .getfield 302, 3), (4, .bipush 24, 2), (6, .if_icmp .ne 9, 3), (9, .aload_n 0, 1), (10, .iconst 4, 1), (11, .invokevirtual 160, 3), (14, .ireturn, 1), (15, .aload_n 0, 1), (16, .getfield 138, 3), (19, .aload_n 0, 1), (20, .getfield 302, 3), (23, .iload_n 1, 1), (24, .iastore, 1), (25, .aload_n 0, 1), (26, .dup, 1), (27, .getfield 302, 3), (30, .iconst 1, 1), (31, .iadd, 1), (32, .putfield 302, 3), (35, .aload_n 0, 1), (36, .getfield 302, 3), (39, .ireturn, 1)]
theorem bd_X10_tell : ∀ q ∈ bi_X10_tell, decode cX10_tell q.1 = .ok q.2 := by decide +kernel
theorem bz_X10_tell : bq_X10_tell.all (ab_ck ab_hd ab_xs ab_tr bx_X10_tell be_X10_tell bi_X10_tell (some .int) 2 21) = true := by decide +kernel
theorem bm_X10_tell (l : Launch) : ex_Met l yX10_tell cX10_tell 2 (some .int) 1 21 (ab_sp ab_hd bc_X10_tell) := ab_met (by decide) (by decide) rfl (bj_X10_tell l) bd_X10_tell ab_hcm ab_xk bz_X10_tell
theorem bw_X10_check : ec_cw yX10_check cX10_check 7 (some .int) := ⟨ec_in (i := 1591) (by decide +kernel) rfl, ec_in (i := 68) (by decide +kernel) rfl, by decide, by decide⟩
theorem bv_X10_check : Cond.instanceMethod yX10_check ∈ ec_tb ∧ Cond.selects yX10_check.cls yX10_check yX10_check ∈ ec_tb := ⟨ec_in (i := 1589) (by decide +kernel) rfl, ec_in (i := 1590) (by decide +kernel) rfl⟩
def be_X10_check : Nat → Option (Nat × Option Nat × List ab_C) := fun ix => match ix with
  | 164 => some (2, some 10, bc_X10_isModule)
  | 171 => some (3, none, bc_X10_isIn)
  | 160 => some (2, some 10, bc_X10_finding)
  | 273 => some (2, some 10, bc_X10_layAside)
  | 262 => some (1, some 10, bc_X10_tick)
  | _ => none
theorem bk_X10_check (l : Launch) : ∀ (ix n : Nat) (rc : Option Nat) (sp : ex_S), (be_X10_check ix).map (fun q => (q.1, q.2.1, ab_sp ab_hd q.2.2)) = some (n, rc, sp) → ex_cok l RX10 5 112 ix n rc sp := by
  intro ix n rc sp h
  obtain ⟨l0, h2, rfl⟩ := ab_dmk h
  clear h
  unfold be_X10_check at h2
  split at h2
  · cases h2; exact ec_cV (bm_X10_isModule l) bw_X10_isModule bv_X10_isModule (by decide) (by decide) (Or.inl (ec_in (i := 1291) (by decide +kernel) rfl)) (T := TX10) (N := 57) rfl (by decide) (by decide +kernel)
  · cases h2; exact ec_cS (bm_X10_isIn l) bw_X10_isIn bv_X10_isIn (by decide) (by decide) (Or.inl (ec_in (i := 1303) (by decide +kernel) rfl)) (by decide +kernel)
  · cases h2; exact ec_cV (bm_X10_finding l) bw_X10_finding bv_X10_finding (by decide) (by decide) (Or.inl (ec_in (i := 1282) (by decide +kernel) rfl)) (T := TX10) (N := 57) rfl (by decide) (by decide +kernel)
  · cases h2; exact ec_cV (bm_X10_layAside l) bw_X10_layAside bv_X10_layAside (by decide) (by decide) (Or.inl (ec_in (i := 1512) (by decide +kernel) rfl)) (T := TX10) (N := 57) rfl (by decide) (by decide +kernel)
  · cases h2; exact ec_cV (bm_X10_tick l) bw_X10_tick bv_X10_tick (by decide) (by decide) (Or.inl (ec_in (i := 1451) (by decide +kernel) rfl)) (T := TX10) (N := 57) rfl (by decide) (by decide +kernel)
  · cases h2
def bx_X10_check : ex_K := (RX10, ec_fx fl_X10, ec_cx cl_X10, sl_X10, (fun ix => (be_X10_check ix).map (fun q => (q.1, q.2.1, ab_sp ab_hd q.2.2))), ec_nz, ec_no)
theorem bj_X10_check (l : Launch) : ex_ok l 5 112 bx_X10_check := ⟨ec_fok fo_X10, ec_cok co_X10, so_X10, bk_X10_check l, fun _ h => (by cases h), fun _ h => (by cases h), fun _ h => (by cases h), fun _ _ h => (by cases h)⟩
def bq_X10_check : List (ab_C × List ab_Q) := [(([.inl 76, .inr ((-2147483648), 2147483647), .inr ((-2147483648), 2147483647)], [], [(76, some 52), (76, some 56), (77, none), (78, none), (82, none), (83, none), (84, none), (85, none), (86, none), (87, none), (88, none), (89, none), (96, none), (97, none), (98, none), (99, none), (100, none), (101, none), (114, some 1), (115, none)], [(some ((-2147483648), 2147483647, none), [], [((1, 76, 52), 0, 0, none)])]), [(44, [some (.inl 76), some (.inr (.inl (0, 5, none, none))), some (.inr (.inl (0, 4, none, none))), some (.inr (.inl (0, 24, none, none))), some (.inr (.inl (0, 24, none, none))), some (.inr (.inl (0, 24, none, none))), none], [((1, 0, 7), 0, 24, some (1007, 0)), ((1, 76, 52), 0, 0, none)], 49, [0, 0, 0, 0, 0, (-2), 0])])]
def bc_X10_check : List ab_C := bq_X10_check.map (fun c => c.1)
def bi_X10_check : List (Nat × Instr × Nat) := [(0, .aload_n 0, 1), (1, .getfield 302, 3), (4, .istore_n 3, 1), (5, .aload_n 0, 1), (6, .iconst 0, 1), (7, .putfield 302, 3), (10, .aload_n 0, 1), (11, .iload_n 1, 1), (12, .invokevirtual 164, 3), (15, .ifCond .eq 12, 3), (18, .iload_n 2, 1), (19, .iconst 0, 1), (20, .iconst 4, 1), (21, .invokestatic 171, 3), (24, .ifCond .ne 9, 3), (27, .aload_n 0, 1), (28, .iconst 1, 1), (29, .invokevirtual 160, 3), (32, .ireturn, 1), (33, .aload_n 0, 1), (34, .iconst 1, 1), (35, .invokevirtual 273, 3), (38, .iconst 0, 1), (39, .istore 4, 2), (41, .iconst 0, 1), (42, .istore 5, 2), (44, .iload 5, 2), (46, .iload_n 3, 1), (47, .if_icmp .ge 64, 3), (50, .iload 4, 2), (52, .ifCond .ne 59, 3), (55, .aload_n 0, 1), (56, .invokevirtual 262, 3), (59, .istore 6, 2), (61, .aload_n 0, 1), (62, .getfield 138, 3), (65, .iload 5, 2), (67, .iaload, 1), (68, .iload_n 2, 1), (69, .iconst 4, 1), (70, .if_icmp .ne 12, 3), (73, .aload_n 0, 1), (74, .getfield 13, 3), (77, .iload_n 1, 1), (78, .iaload, 1), (79, .goto 13, 3), (82, .aload_n 0, 1), (83, .getfield 7, 3), (86, .iconst 4, 1), (87, .iload_n 1, 1), (88, .imul, 1), (89, .iload_n 2, 1), (90, .iadd, 1), (91, .iaload, 1), (92, .if_icmp .eq 10, 3), (95, .iconst 1, 1), (96, .iload 5, 2), (98, .iadd, 1), (99, .goto 4, 3), (102, .iconst 0, 1), (103, .istore 4, 2), (105, .iinc 5 1, 3), (108, .goto (-64), 3), (111, .aload_n 0, 1), (112, .iconst 0, 1), (113, .invokevirtual 273, 3), (116, .iload 4, 2), (118, .ireturn, 1)]
theorem bd_X10_check : ∀ q ∈ bi_X10_check, decode cX10_check q.1 = .ok q.2 := by decide +kernel
theorem bz_X10_check : bq_X10_check.all (ab_ck ab_hd ab_xs ab_tr bx_X10_check be_X10_check bi_X10_check (some .int) 7 33) = true := by decide +kernel
theorem bm_X10_check (l : Launch) : ex_Met l yX10_check cX10_check 7 (some .int) 5 112 (ab_sp ab_hd bc_X10_check) := ab_met (by decide) (by decide) rfl (bj_X10_check l) bd_X10_check ab_hcm ab_xk bz_X10_check
theorem bw_X10_count : ec_cw yX10_count cX10_count 4 (some .int) := ⟨ec_in (i := 1595) (by decide +kernel) rfl, ec_in (i := 68) (by decide +kernel) rfl, by decide, by decide⟩
theorem bv_X10_count : Cond.instanceMethod yX10_count ∈ ec_tb ∧ Cond.selects yX10_count.cls yX10_count yX10_count ∈ ec_tb := ⟨ec_in (i := 1593) (by decide +kernel) rfl, ec_in (i := 1594) (by decide +kernel) rfl⟩
def be_X10_count : Nat → Option (Nat × Option Nat × List ab_C) := fun ix => match ix with
  | 160 => some (2, some 10, bc_X10_finding)
  | _ => none
theorem bk_X10_count (l : Launch) : ∀ (ix n : Nat) (rc : Option Nat) (sp : ex_S), (be_X10_count ix).map (fun q => (q.1, q.2.1, ab_sp ab_hd q.2.2)) = some (n, rc, sp) → ex_cok l RX10 1 21 ix n rc sp := by
  intro ix n rc sp h
  obtain ⟨l0, h2, rfl⟩ := ab_dmk h
  clear h
  unfold be_X10_count at h2
  split at h2
  · cases h2; exact ec_cV (bm_X10_finding l) bw_X10_finding bv_X10_finding (by decide) (by decide) (Or.inl (ec_in (i := 1282) (by decide +kernel) rfl)) (T := TX10) (N := 57) rfl (by decide) (by decide +kernel)
  · cases h2
def bx_X10_count : ex_K := (RX10, ec_fx fl_X10, ec_cx cl_X10, sl_X10, (fun ix => (be_X10_count ix).map (fun q => (q.1, q.2.1, ab_sp ab_hd q.2.2))), ec_nz, ec_no)
theorem bj_X10_count (l : Launch) : ex_ok l 1 21 bx_X10_count := ⟨ec_fok fo_X10, ec_cok co_X10, so_X10, bk_X10_count l, fun _ h => (by cases h), fun _ h => (by cases h), fun _ h => (by cases h), fun _ _ h => (by cases h)⟩
def bq_X10_count : List (ab_C × List ab_Q) := [(([.inl 76, .inr ((-2147483648), 2147483647)], [], [(114, some 1)], [(some ((-2147483648), 2147483647, none), [], [])]), [(105, [some (.inl 76), some (.inr (.inl (9, 9, none, none))), some (.inr (.inl ((-2147483648), 2147483647, none, none))), some (.inr (.inl (0, 6, none, none)))], [((1, 0, 7), 0, 24, some (1007, 0)), ((1, 76, 52), 0, 24, some (77052, 0))], 13, [0, 0, 0, (-2)])])]
def bc_X10_count : List ab_C := bq_X10_count.map (fun c => c.1)
def bi_X10_count : List (Nat × Instr × Nat) := [(0, .iconst 0, 1), (1, .istore_n 2, 1), (2, .iload_n 1, 1), (3, .tableswitch 135 0 9 #[53, 58, 63, 68, 73, 80, 85, 90, 95, 100], 53), (56, .aload_n 0, 1), (57, .getfield 148, 3), (60, .ireturn, 1), (61, .aload_n 0, 1), (62, .getfield 151, 3), (65, .ireturn, 1), (66, .aload_n 0, 1), (67, .getfield 154, 3), (70, .ireturn, 1), (71, .aload_n 0, 1), (72, .getfield 157, 3), (75, .ireturn, 1), (76, .aload_n 0, 1), (77, .getfield 82, 3), (80, .iconst 0, 1), (81, .iaload, 1), (82, .ireturn, 1), (83, .aload_n 0, 1), (84, .getfield 209, 3), (87, .ireturn, 1), (88, .aload_n 0, 1), (89, .getfield 289, 3), (92, .ireturn, 1), (93, .aload_n 0, 1), (94, .getfield 292, 3), (97, .ireturn, 1), (98, .aload_n 0, 1), (99, .getfield 302, 3), (102, .ireturn, 1), (103, .iconst 0, 1), (104, .istore_n 3, 1), (105, .iload_n 3, 1), (106, .aload_n 0, 1), (107, .getfield 154, 3), (110, .if_icmp .ge 26, 3), (113, .iload_n 2, 1), (114, .aload_n 0, 1), (115, .getfield 37, 3), (118, .iload_n 3, 1), (119, .iaload, 1), (120, .ifCond .lt 7, 3), (123, .iconst 1, 1), (124, .goto 4, 3), (127, .iconst 0, 1), (128, .iadd, 1), (129, .istore_n 2, 1), (130, .iinc 3 1, 3), (133, .goto (-28), 3), (136, .iload_n 2, 1), (137, .ireturn, 1), (138, .aload_n 0, 1), (139, .iconst 1, 1), (140, .invokevirtual 160, 3), (143, .ireturn, 1)]
theorem bd_X10_count : ∀ q ∈ bi_X10_count, decode cX10_count q.1 = .ok q.2 := by decide +kernel
theorem bz_X10_count : bq_X10_count.all (ab_ck ab_hd ab_xs ab_tr bx_X10_count be_X10_count bi_X10_count (some .int) 4 18) = true := by decide +kernel
theorem bm_X10_count (l : Launch) : ex_Met l yX10_count cX10_count 4 (some .int) 1 21 (ab_sp ab_hd bc_X10_count) := ab_met (by decide) (by decide) rfl (bj_X10_count l) bd_X10_count ab_hcm ab_xk bz_X10_count
theorem bw_X10_found : ec_cw yX10_found cX10_found 2 (some .int) := ⟨ec_in (i := 1599) (by decide +kernel) rfl, ec_in (i := 68) (by decide +kernel) rfl, by decide, by decide⟩
theorem bv_X10_found : Cond.instanceMethod yX10_found ∈ ec_tb ∧ Cond.selects yX10_found.cls yX10_found yX10_found ∈ ec_tb := ⟨ec_in (i := 1597) (by decide +kernel) rfl, ec_in (i := 1598) (by decide +kernel) rfl⟩
def be_X10_found : Nat → Option (Nat × Option Nat × List ab_C) := fun ix => match ix with
  | 171 => some (3, none, bc_X10_isIn)
  | 160 => some (2, some 10, bc_X10_finding)
  | _ => none
theorem bk_X10_found (l : Launch) : ∀ (ix n : Nat) (rc : Option Nat) (sp : ex_S), (be_X10_found ix).map (fun q => (q.1, q.2.1, ab_sp ab_hd q.2.2)) = some (n, rc, sp) → ex_cok l RX10 1 22 ix n rc sp := by
  intro ix n rc sp h
  obtain ⟨l0, h2, rfl⟩ := ab_dmk h
  clear h
  unfold be_X10_found at h2
  split at h2
  · cases h2; exact ec_cS (bm_X10_isIn l) bw_X10_isIn bv_X10_isIn (by decide) (by decide) (Or.inl (ec_in (i := 1303) (by decide +kernel) rfl)) (by decide +kernel)
  · cases h2; exact ec_cV (bm_X10_finding l) bw_X10_finding bv_X10_finding (by decide) (by decide) (Or.inl (ec_in (i := 1282) (by decide +kernel) rfl)) (T := TX10) (N := 57) rfl (by decide) (by decide +kernel)
  · cases h2
def bx_X10_found : ex_K := (RX10, ec_fx fl_X10, ec_cx cl_X10, sl_X10, (fun ix => (be_X10_found ix).map (fun q => (q.1, q.2.1, ab_sp ab_hd q.2.2))), ec_nz, ec_no)
theorem bj_X10_found (l : Launch) : ex_ok l 1 22 bx_X10_found := ⟨ec_fok fo_X10, ec_cok co_X10, so_X10, bk_X10_found l, fun _ h => (by cases h), fun _ h => (by cases h), fun _ h => (by cases h), fun _ _ h => (by cases h)⟩
def bq_X10_found : List (ab_C × List ab_Q) := [(([.inl 76, .inr ((-2147483648), 2147483647)], [], [(114, some 1)], [(some ((-2147483648), 2147483647, none), [], [])]), [])]
def bc_X10_found : List ab_C := bq_X10_found.map (fun c => c.1)
def bi_X10_found : List (Nat × Instr × Nat) := [(0, .iload_n 1, 1), (1, .iconst 1, 1), (2, .iconst 5, 1), (3, .invokestatic 171, 3), (6, .ifCond .eq 12, 3), (9, .aload_n 0, 1), (10, .getfield 141, 3), (13, .iload_n 1, 1), (14, .iaload, 1), (15, .goto 8, 3), (18, .aload_n 0, 1), (19, .iconst 1, 1), (20, .invokevirtual 160, 3), (23, .ireturn, 1)]
theorem bd_X10_found : ∀ q ∈ bi_X10_found, decode cX10_found q.1 = .ok q.2 := by decide +kernel
theorem bz_X10_found : bq_X10_found.all (ab_ck ab_hd ab_xs ab_tr bx_X10_found be_X10_found bi_X10_found (some .int) 2 13) = true := by decide +kernel
theorem bm_X10_found (l : Launch) : ex_Met l yX10_found cX10_found 2 (some .int) 1 22 (ab_sp ab_hd bc_X10_found) := ab_met (by decide) (by decide) rfl (bj_X10_found l) bd_X10_found ab_hcm ab_xk bz_X10_found
