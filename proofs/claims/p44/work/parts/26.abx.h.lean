theorem bw_X9_check : ec_cw yX9_check cX9_check 5 (some .int) := ⟨ec_in (i := 1084) (by decide +kernel) rfl, ec_in (i := 58) (by decide +kernel) rfl, by decide, by decide⟩
theorem bv_X9_check : Cond.instanceMethod yX9_check ∈ ec_tb ∧ Cond.selects yX9_check.cls yX9_check yX9_check ∈ ec_tb := ⟨ec_in (i := 1082) (by decide +kernel) rfl, ec_in (i := 1083) (by decide +kernel) rfl⟩
def be_X9_check : Nat → Option (Nat × Option Nat × List ab_C) := fun ix => match ix with
  | 88 => some (2, some 0, bc_X0_hasModule)
  | 248 => some (1, none, bc_X0_isSort)
  | 64 => some (2, some 9, bc_X9_counted)
  | 163 => some (2, some 8, bc_X8_becomeLike)
  | 156 => some (1, some 8, bc_X8_passTick)
  | 251 => some (3, some 0, bc_X0_amount)
  | _ => none
theorem bk_X9_check (l : Launch) : ∀ (ix n : Nat) (rc : Option Nat) (sp : ex_S), (be_X9_check ix).map (fun q => (q.1, q.2.1, ab_sp ab_hd q.2.2)) = some (n, rc, sp) → ex_cok l RX9 6 134 ix n rc sp := by
  intro ix n rc sp h
  obtain ⟨l0, h2, rfl⟩ := ab_dmk h
  clear h
  unfold be_X9_check at h2
  split at h2
  · cases h2; exact ec_cV (bm_X0_hasModule l) bw_X0_hasModule bv_X0_hasModule (by decide) (by decide) (Or.inl (ec_in (i := 502) (by decide +kernel) rfl)) (T := TX0) (N := 8) rfl (by decide) (by decide +kernel)
  · cases h2; exact ec_cS (bm_X0_isSort l) bw_X0_isSort bv_X0_isSort (by decide) (by decide) (Or.inl (ec_in (i := 1085) (by decide +kernel) rfl)) (by decide +kernel)
  · cases h2; exact ec_cV (bm_X9_counted l) bw_X9_counted bv_X9_counted (by decide) (by decide) (Or.inl (ec_in (i := 424) (by decide +kernel) rfl)) (T := TX9) (N := 10) rfl (by decide) (by decide +kernel)
  · cases h2; exact ec_cV (bm_X8_becomeLike l) bw_X8_becomeLike bv_X8_becomeLike (by decide) (by decide) (Or.inl (ec_in (i := 864) (by decide +kernel) rfl)) (T := TX8) (N := 7) rfl (by decide) (by decide +kernel)
  · cases h2; exact ec_cV (bm_X8_passTick l) bw_X8_passTick bv_X8_passTick (by decide) (by decide) (Or.inl (ec_in (i := 698) (by decide +kernel) rfl)) (T := TX8) (N := 7) rfl (by decide) (by decide +kernel)
  · cases h2; exact ec_cV (bm_X0_amount l) bw_X0_amount bv_X0_amount (by decide) (by decide) (Or.inl (ec_in (i := 1086) (by decide +kernel) rfl)) (T := TX0) (N := 8) rfl (by decide) (by decide +kernel)
  · cases h2
def bx_X9_check : ex_K := (RX9, ec_fx fl_X9, ec_cx cl_X9, sl_X9, (fun ix => (be_X9_check ix).map (fun q => (q.1, q.2.1, ab_sp ab_hd q.2.2))), ec_nz, ec_no)
theorem bj_X9_check (l : Launch) : ex_ok l 6 134 bx_X9_check := ⟨ec_fok fo_X9, ec_cok co_X9, so_X9, bk_X9_check l, fun _ h => (by cases h), fun _ h => (by cases h), fun _ h => (by cases h), fun _ _ h => (by cases h)⟩
def bq_X9_check : List (ab_C × List ab_Q) := [(([.inl 0, .inr ((-2147483648), 2147483647), .inr ((-2147483648), 2147483647)], [], [(0, some 7), (35, some 6), (36, some 6), (36, some 7), (37, none), (38, none), (39, none), (40, none), (41, none), (42, none), (43, some 6), (44, none), (45, none), (46, none), (47, none), (48, none), (49, none), (50, some 11), (50, some 12), (50, some 13), (50, some 14), (51, none), (52, none), (53, none), (54, none), (55, none), (56, none), (57, none), (58, none), (59, none), (60, none), (61, none), (62, some 0), (62, some 1), (62, some 2), (62, some 3), (62, some 4), (62, some 5), (63, some 0), (63, some 1), (63, some 2), (63, some 3), (63, some 4), (63, some 5), (63, some 6), (75, some 1)], [(some ((-2147483648), 2147483647, none), [], [((1, 0, 7), 0, 0, none)])]), [(52, [some (.inl 0), some (.inr (.inl (0, 5, none, none))), some (.inr (.inl (0, 4, none, none))), some (.inr (.inl (0, 24, none, none))), some (.inr (.inl (0, 24, none, none)))], [((1, 0, 7), 0, 0, none), ((1, 76, 52), 0, 24, some (77052, 0))], 49, [0, 0, 0, 0, (-2)])])]
def bc_X9_check : List ab_C := bq_X9_check.map (fun c => c.1)
def bi_X9_check : List (Nat × Instr × Nat) := [(0, .aload_n 0, 1), (1, .getfield 245, 3), (4, .istore_n 3, 1), (5, .aload_n 0, 1), (6, .iconst 0, 1), (7, .putfield 245, 3), (10, .aload_n 0, 1), (11, .getfield 21, 3), (14, .getfield 54, 3), (17, .iload_n 1, 1), (18, .invokevirtual 88, 3), (21, .ifCond .eq 10, 3), (24, .iload_n 2, 1), (25, .invokestatic 248, 3), (28, .ifCond .ne 10, 3), (31, .aload_n 0, 1), (32, .ldc 92, 2), (34, .invokevirtual 64, 3), (37, .ireturn, 1), (38, .aload_n 0, 1), (39, .getfield 25, 3), (42, .aload_n 0, 1), (43, .getfield 21, 3), (46, .invokevirtual 163, 3), (49, .iconst 0, 1), (50, .istore 4, 2), (52, .iload 4, 2), (54, .iload_n 3, 1), (55, .if_icmp .ge 44, 3), (58, .aload_n 0, 1), (59, .getfield 25, 3), (62, .invokevirtual 156, 3), (65, .pop, 1), (66, .aload_n 0, 1), (67, .getfield 25, 3), (70, .getfield 54, 3), (73, .iload_n 1, 1), (74, .iload_n 2, 1), (75, .invokevirtual 251, 3), (78, .aload_n 0, 1), (79, .getfield 42, 3), (82, .iload 4, 2), (84, .iaload, 1), (85, .if_icmp .eq 8, 3), (88, .iconst 1, 1), (89, .iload 4, 2), (91, .iadd, 1), (92, .ireturn, 1), (93, .iinc 4 1, 3), (96, .goto (-44), 3), (99, .iconst 0, 1), (100, .ireturn, 1)]
theorem bd_X9_check : ∀ q ∈ bi_X9_check, decode cX9_check q.1 = .ok q.2 := by decide +kernel
theorem bz_X9_check : bq_X9_check.all (ab_ck ab_hd ab_xs ab_tr bx_X9_check be_X9_check bi_X9_check (some .int) 5 24) = true := by decide +kernel
theorem bm_X9_check (l : Launch) : ex_Met l yX9_check cX9_check 5 (some .int) 6 134 (ab_sp ab_hd bc_X9_check) := ab_met (by decide) (by decide) rfl (bj_X9_check l) bd_X9_check ab_hcm ab_xk bz_X9_check
theorem bw_X9_count : ec_cw yX9_count cX9_count 2 (some .int) := ⟨ec_in (i := 1090) (by decide +kernel) rfl, ec_in (i := 58) (by decide +kernel) rfl, by decide, by decide⟩
theorem bv_X9_count : Cond.instanceMethod yX9_count ∈ ec_tb ∧ Cond.selects yX9_count.cls yX9_count yX9_count ∈ ec_tb := ⟨ec_in (i := 1088) (by decide +kernel) rfl, ec_in (i := 1089) (by decide +kernel) rfl⟩
def be_X9_count : Nat → Option (Nat × Option Nat × List ab_C) := fun ix => match ix with
  | 272 => some (1, some 3, bc_X3_menders)
  | 64 => some (2, some 9, bc_X9_counted)
  | _ => none
theorem bk_X9_count (l : Launch) : ∀ (ix n : Nat) (rc : Option Nat) (sp : ex_S), (be_X9_count ix).map (fun q => (q.1, q.2.1, ab_sp ab_hd q.2.2)) = some (n, rc, sp) → ex_cok l RX9 2 43 ix n rc sp := by
  intro ix n rc sp h
  obtain ⟨l0, h2, rfl⟩ := ab_dmk h
  clear h
  unfold be_X9_count at h2
  split at h2
  · cases h2; exact ec_cV (bm_X3_menders l) bw_X3_menders bv_X3_menders (by decide) (by decide) (Or.inl (ec_in (i := 1091) (by decide +kernel) rfl)) (T := TX3) (N := 7) rfl (by decide) (by decide +kernel)
  · cases h2; exact ec_cV (bm_X9_counted l) bw_X9_counted bv_X9_counted (by decide) (by decide) (Or.inl (ec_in (i := 424) (by decide +kernel) rfl)) (T := TX9) (N := 10) rfl (by decide) (by decide +kernel)
  · cases h2
def bx_X9_count : ex_K := (RX9, ec_fx fl_X9, ec_cx cl_X9, sl_X9, (fun ix => (be_X9_count ix).map (fun q => (q.1, q.2.1, ab_sp ab_hd q.2.2))), ec_nz, ec_no)
theorem bj_X9_count (l : Launch) : ex_ok l 2 43 bx_X9_count := ⟨ec_fok fo_X9, ec_cok co_X9, so_X9, bk_X9_count l, fun _ h => (by cases h), fun _ h => (by cases h), fun _ h => (by cases h), fun _ _ h => (by cases h)⟩
def bq_X9_count : List (ab_C × List ab_Q) := [(([.inl 0, .inr ((-2147483648), 2147483647)], [], [(75, some 1)], [(some ((-2147483648), 2147483647, none), [], [])]), [])]
def bc_X9_count : List ab_C := bq_X9_count.map (fun c => c.1)
def bi_X9_count : List (Nat × Instr × Nat) := [(0, .iload_n 1, 1), (1, .tableswitch 147 0 9 #[55, 66, 77, 88, 99, 107, 115, 123, 131, 136], 55), (56, .aload_n 0, 1), (57, .getfield 21, 3), (60, .getfield 54, 3), (63, .getfield 254, 3), (66, .ireturn, 1), (67, .aload_n 0, 1), (68, .getfield 21, 3), (71, .getfield 54, 3), (74, .getfield 257, 3), (77, .ireturn, 1), (78, .aload_n 0, 1), (79, .getfield 21, 3), (82, .getfield 93, 3), (85, .getfield 260, 3), (88, .ireturn, 1), (89, .aload_n 0, 1), (90, .getfield 21, 3), (93, .getfield 111, 3), (96, .getfield 263, 3), (99, .ireturn, 1), (100, .aload_n 0, 1), (101, .getfield 21, 3), (104, .getfield 152, 3), (107, .ireturn, 1), (108, .aload_n 0, 1), (109, .getfield 12, 3), (112, .getfield 181, 3), (115, .ireturn, 1), (116, .aload_n 0, 1), (117, .getfield 38, 3), (120, .getfield 266, 3), (123, .ireturn, 1), (124, .aload_n 0, 1), (125, .getfield 38, 3), (128, .getfield 269, 3), (131, .ireturn, 1), (132, .aload_n 0, 1), (133, .getfield 245, 3), (136, .ireturn, 1), (137, .aload_n 0, 1), (138, .getfield 21, 3), (141, .getfield 93, 3), (144, .invokevirtual 272, 3), (147, .ireturn, 1), (148, .aload_n 0, 1), (149, .ldc 92, 2), (151, .invokevirtual 64, 3), (154, .ireturn, 1)]
theorem bd_X9_count : ∀ q ∈ bi_X9_count, decode cX9_count q.1 = .ok q.2 := by decide +kernel
theorem bz_X9_count : bq_X9_count.all (ab_ck ab_hd ab_xs ab_tr bx_X9_count be_X9_count bi_X9_count (some .int) 2 9) = true := by decide +kernel
theorem bm_X9_count (l : Launch) : ex_Met l yX9_count cX9_count 2 (some .int) 2 43 (ab_sp ab_hd bc_X9_count) := ab_met (by decide) (by decide) rfl (bj_X9_count l) bd_X9_count ab_hcm ab_xk bz_X9_count
theorem bw_X9_found : ec_cw yX9_found cX9_found 2 (some .int) := ⟨ec_in (i := 1098) (by decide +kernel) rfl, ec_in (i := 58) (by decide +kernel) rfl, by decide, by decide⟩
theorem bv_X9_found : Cond.instanceMethod yX9_found ∈ ec_tb ∧ Cond.selects yX9_found.cls yX9_found yX9_found ∈ ec_tb := ⟨ec_in (i := 1096) (by decide +kernel) rfl, ec_in (i := 1097) (by decide +kernel) rfl⟩
def be_X9_found : Nat → Option (Nat × Option Nat × List ab_C) := fun ix => match ix with
  | 64 => some (2, some 9, bc_X9_counted)
  | _ => none
theorem bk_X9_found (l : Launch) : ∀ (ix n : Nat) (rc : Option Nat) (sp : ex_S), (be_X9_found ix).map (fun q => (q.1, q.2.1, ab_sp ab_hd q.2.2)) = some (n, rc, sp) → ex_cok l RX9 1 21 ix n rc sp := by
  intro ix n rc sp h
  obtain ⟨l0, h2, rfl⟩ := ab_dmk h
  clear h
  unfold be_X9_found at h2
  split at h2
  · cases h2; exact ec_cV (bm_X9_counted l) bw_X9_counted bv_X9_counted (by decide) (by decide) (Or.inl (ec_in (i := 424) (by decide +kernel) rfl)) (T := TX9) (N := 10) rfl (by decide) (by decide +kernel)
  · cases h2
def bx_X9_found : ex_K := (RX9, ec_fx fl_X9, ec_cx cl_X9, sl_X9, (fun ix => (be_X9_found ix).map (fun q => (q.1, q.2.1, ab_sp ab_hd q.2.2))), ec_nz, ec_no)
theorem bj_X9_found (l : Launch) : ex_ok l 1 21 bx_X9_found := ⟨ec_fok fo_X9, ec_cok co_X9, so_X9, bk_X9_found l, fun _ h => (by cases h), fun _ h => (by cases h), fun _ h => (by cases h), fun _ _ h => (by cases h)⟩
def bq_X9_found : List (ab_C × List ab_Q) := [(([.inl 0, .inr ((-2147483648), 2147483647)], [], [(75, some 1)], [(some ((-2147483648), 2147483647, none), [], [])]), [])]
def bc_X9_found : List ab_C := bq_X9_found.map (fun c => c.1)
def bi_X9_found : List (Nat × Instr × Nat) := [(0, .iload_n 1, 1), (1, .iconst 1, 1), (2, .if_icmp .lt 8, 3), (5, .iload_n 1, 1), (6, .iconst 5, 1), (7, .if_icmp .le 10, 3), (10, .aload_n 0, 1), (11, .ldc 92, 2), (13, .invokevirtual 64, 3), (16, .ireturn, 1), (17, .aload_n 0, 1), (18, .getfield 46, 3), (21, .iload_n 1, 1), (22, .iaload, 1), (23, .ireturn, 1)]
theorem bd_X9_found : ∀ q ∈ bi_X9_found, decode cX9_found q.1 = .ok q.2 := by decide +kernel
theorem bz_X9_found : bq_X9_found.all (ab_ck ab_hd ab_xs ab_tr bx_X9_found be_X9_found bi_X9_found (some .int) 2 13) = true := by decide +kernel
theorem bm_X9_found (l : Launch) : ex_Met l yX9_found cX9_found 2 (some .int) 1 21 (ab_sp ab_hd bc_X9_found) := ab_met (by decide) (by decide) rfl (bj_X9_found l) bd_X9_found ab_hcm ab_xk bz_X9_found
