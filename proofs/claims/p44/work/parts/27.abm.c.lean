theorem bw_X10_runText : ec_cw yX10_runText cX10_runText 2 none := ⟨ec_in (i := 1458) (by decide +kernel) rfl, ec_in (i := 68) (by decide +kernel) rfl, by decide, by decide⟩
theorem bv_X10_runText : Cond.instanceMethod yX10_runText ∈ ec_tb ∧ Cond.selects yX10_runText.cls yX10_runText yX10_runText ∈ ec_tb := ⟨ec_in (i := 1457) (by decide +kernel) rfl, ec_in (i := 40) (by decide +kernel) rfl⟩
def be_X10_runText : Nat → Option (Nat × Option Nat × List ab_C) := fun ix => match ix with
  | 212 => some (2, some 10, bc_X10_isLine)
  | 205 => some (2, some 10, bc_X10_endText)
  | 221 => some (5, some 10, bc_X10_doLine)
  | 225 => some (1, some 10, bc_X10_abortText)
  | _ => none
theorem bk_X10_runText (l : Launch) : ∀ (ix n : Nat) (rc : Option Nat) (sp : ex_S), (be_X10_runText ix).map (fun q => (q.1, q.2.1, ab_sp ab_hd q.2.2)) = some (n, rc, sp) → ex_cok l RX10 3 70 ix n rc sp := by
  intro ix n rc sp h
  obtain ⟨l0, h2, rfl⟩ := ab_dmk h
  clear h
  unfold be_X10_runText at h2
  split at h2
  · cases h2; exact ec_cV (bm_X10_isLine l) bw_X10_isLine bv_X10_isLine (by decide) (by decide) (Or.inl (ec_in (i := 1459) (by decide +kernel) rfl)) (T := TX10) (N := 57) rfl (by decide) (by decide +kernel)
  · cases h2; exact ec_cV (bm_X10_endText l) bw_X10_endText bv_X10_endText (by decide) (by decide) (Or.inl (ec_in (i := 1424) (by decide +kernel) rfl)) (T := TX10) (N := 57) rfl (by decide) (by decide +kernel)
  · cases h2; exact ec_cV (bm_X10_doLine l) bw_X10_doLine bv_X10_doLine (by decide) (by decide) (Or.inl (ec_in (i := 1463) (by decide +kernel) rfl)) (T := TX10) (N := 57) rfl (by decide) (by decide +kernel)
  · cases h2; exact ec_cV (bm_X10_abortText l) bw_X10_abortText bv_X10_abortText (by decide) (by decide) (Or.inl (ec_in (i := 1420) (by decide +kernel) rfl)) (T := TX10) (N := 57) rfl (by decide) (by decide +kernel)
  · cases h2
def bx_X10_runText : ex_K := (RX10, ec_fx fl_X10, ec_cx cl_X10, sl_X10, (fun ix => (be_X10_runText ix).map (fun q => (q.1, q.2.1, ab_sp ab_hd q.2.2))), ec_nz, ec_no)
theorem bj_X10_runText (l : Launch) : ex_ok l 3 70 bx_X10_runText := ⟨ec_fok fo_X10, ec_cok co_X10, so_X10, bk_X10_runText l, fun _ h => (by cases h), fun _ h => (by cases h), fun _ h => (by cases h), fun _ _ h => (by cases h)⟩
def bq_X10_runText : List (ab_C × List ab_Q) := [(([.inl 76], [], [(82, none), (84, none), (85, none), (86, none), (87, none), (97, none), (100, none), (101, some 4), (101, some 5), (101, some 6), (101, some 7), (101, some 8), (101, some 9), (101, some 10)], [(none, [], [])]), [])]
def bc_X10_runText : List ab_C := bq_X10_runText.map (fun c => c.1)
def bi_X10_runText : List (Nat × Instr × Nat) := [(0, .aload_n 0, 1), (1, .getfield 82, 3), (4, .iconst 4, 1), (5, .iaload, 1), (6, .ifCond .eq 14, 3), (9, .aload_n 0, 1), (10, .getfield 82, 3), (13, .bipush 6, 2), (15, .iaload, 1), (16, .iconst 1, 1), (17, .if_icmp .ne 4, 3), (20, .return_, 1), (21, .aload_n 0, 1), (22, .getfield 82, 3), (25, .bipush 9, 2), (27, .iaload, 1), (28, .ifCond .le 15, 3), (31, .aload_n 0, 1), (32, .getfield 82, 3), (35, .bipush 9, 2), (37, .dup2, 1), (38, .iaload, 1), (39, .iconst 1, 1), (40, .isub, 1), (41, .iastore, 1), (42, .return_, 1), (43, .aload_n 0, 1), (44, .getfield 82, 3), (47, .iconst 5, 1), (48, .iaload, 1), (49, .istore_n 1, 1), (50, .aload_n 0, 1), (51, .iload_n 1, 1), (52, .invokevirtual 212, 3), (55, .ifCond .ne 11, 3), (58, .aload_n 0, 1), (59, .iconst 4, 1), (60, .invokevirtual 205, 3), (63, .goto 70, 3), (66, .aload_n 0, 1), (67, .getfield 98, 3), (70, .iload_n 1, 1), (71, .iaload, 1), (72, .ifCond .ne 26, 3), (75, .aload_n 0, 1), (76, .aload_n 0, 1), (77, .getfield 82, 3), (80, .bipush 7, 2), (82, .iaload, 1), (83, .iconst 1, 1), (84, .if_icmp .ne 7, 3), (87, .iconst 2, 1), (88, .goto 4, 3), (91, .iconst 1, 1), (92, .invokevirtual 205, 3), (95, .goto 38, 3), (98, .aload_n 0, 1), (99, .aload_n 0, 1), (100, .getfield 98, 3), (103, .iload_n 1, 1), (104, .iaload, 1), (105, .aload_n 0, 1), (106, .getfield 101, 3), (109, .iload_n 1, 1), (110, .iaload, 1), (111, .aload_n 0, 1), (112, .getfield 104, 3), (115, .iload_n 1, 1), (116, .iaload, 1), (117, .aload_n 0, 1), (118, .getfield 107, 3), (121, .iload_n 1, 1), (122, .iaload, 1), (123, .invokevirtual 221, 3), (126, .ifCond .ne 7, 3), (129, .aload_n 0, 1), (130, .invokevirtual 225, 3), (133, .return_, 1)]
theorem bd_X10_runText : ∀ q ∈ bi_X10_runText, decode cX10_runText q.1 = .ok q.2 := by decide +kernel
theorem bz_X10_runText : bq_X10_runText.all (ab_ck ab_hd ab_xs ab_tr bx_X10_runText be_X10_runText bi_X10_runText none 2 54) = true := by decide +kernel
theorem bm_X10_runText (l : Launch) : ex_Met l yX10_runText cX10_runText 2 none 3 70 (ab_sp ab_hd bc_X10_runText) := ab_met (by decide) (by decide) rfl (bj_X10_runText l) bd_X10_runText ab_hcm ab_xk bz_X10_runText
theorem bw_X10_line : ec_cw yX10_line cX10_line 5 (some .int) := ⟨ec_in (i := 1403) (by decide +kernel) rfl, ec_in (i := 68) (by decide +kernel) rfl, by decide, by decide⟩
theorem bv_X10_line : Cond.instanceMethod yX10_line ∈ ec_tb ∧ Cond.selects yX10_line.cls yX10_line yX10_line ∈ ec_tb := ⟨ec_in (i := 1401) (by decide +kernel) rfl, ec_in (i := 1402) (by decide +kernel) rfl⟩
def be_X10_line : Nat → Option (Nat × Option Nat × List ab_C) := fun ix => match ix with
  | 171 => some (3, none, bc_X10_isIn)
  | 160 => some (2, some 10, bc_X10_finding)
  | _ => none
theorem bk_X10_line (l : Launch) : ∀ (ix n : Nat) (rc : Option Nat) (sp : ex_S), (be_X10_line ix).map (fun q => (q.1, q.2.1, ab_sp ab_hd q.2.2)) = some (n, rc, sp) → ex_cok l RX10 1 22 ix n rc sp := by
  intro ix n rc sp h
  obtain ⟨l0, h2, rfl⟩ := ab_dmk h
  clear h
  unfold be_X10_line at h2
  split at h2
  · cases h2; exact ec_cS (bm_X10_isIn l) bw_X10_isIn bv_X10_isIn (by decide) (by decide) (Or.inl (ec_in (i := 1303) (by decide +kernel) rfl)) (by decide +kernel)
  · cases h2; exact ec_cV (bm_X10_finding l) bw_X10_finding bv_X10_finding (by decide) (by decide) (Or.inl (ec_in (i := 1282) (by decide +kernel) rfl)) (T := TX10) (N := 57) rfl (by decide) (by decide +kernel)
  · cases h2
def bx_X10_line : ex_K := (RX10, ec_fx fl_X10, ec_cx cl_X10, sl_X10, (fun ix => (be_X10_line ix).map (fun q => (q.1, q.2.1, ab_sp ab_hd q.2.2))), ec_nz, ec_no)
theorem bj_X10_line (l : Launch) : ex_ok l 1 22 bx_X10_line := ⟨ec_fok fo_X10, ec_cok co_X10, so_X10, bk_X10_line l, fun _ h => (by cases h), fun _ h => (by cases h), fun _ h => (by cases h), fun _ _ h => (by cases h)⟩
def bq_X10_line : List (ab_C × List ab_Q) := [(([.inl 76, .inr ((-2147483648), 2147483647), .inr ((-2147483648), 2147483647), .inr ((-2147483648), 2147483647), .inr ((-2147483648), 2147483647)], [], [(76, some 34), (102, none), (103, none), (104, none), (105, none), (114, some 1), (114, some 3), (114, some 4)], [(some ((-2147483648), 2147483647, none), [], [])]), [])]
def bc_X10_line : List ab_C := bq_X10_line.map (fun c => c.1)
def bi_X10_line : List (Nat × Instr × Nat) := [(0, .iload_n 1, 1), (1, .iconst 0, 1), (2, .bipush 11, 2), (4, .invokestatic 171, 3), (7, .ifCond .ne 9, 3), (10, .aload_n 0, 1), (11, .iconst 1, 1), (12, .invokevirtual 160, 3), (15, .ireturn, 1), (16, .aload_n 0, 1), (17, .getfield 82, 3), (20, .iconst 4, 1), (21, .iaload, 1), (22, .iconst 1, 1), (23, .if_icmp .ne 9, 3), (26, .aload_n 0, 1), (27, .iconst 3, 1), (28, .invokevirtual 160, 3), (31, .ireturn, 1), (32, .aload_n 0, 1), (33, .getfield 209, 3), (36, .bipush 40, 2), (38, .if_icmp .ne 9, 3), (41, .aload_n 0, 1), (42, .iconst 4, 1), (43, .invokevirtual 160, 3), (46, .ireturn, 1), (47, .aload_n 0, 1), (48, .getfield 98, 3), (51, .aload_n 0, 1), (52, .getfield 209, 3), (55, .iload_n 1, 1), (56, .iastore, 1), (57, .aload_n 0, 1), (58, .getfield 101, 3), (61, .aload_n 0, 1), (62, .getfield 209, 3), (65, .iload_n 2, 1), (66, .iastore, 1), (67, .aload_n 0, 1), (68, .getfield 104, 3), (71, .aload_n 0, 1), (72, .getfield 209, 3), (75, .iload_n 3, 1), (76, .iastore, 1), (77, .aload_n 0, 1), (78, .getfield 107, 3), (81, .aload_n 0, 1), (82, .getfield 209, 3), (85, .iload 4, 2), (87, .iastore, 1), (88, .aload_n 0, 1), (89, .dup, 1), (90, .getfield 209, 3), (93, .iconst 1, 1), (94, .iadd, 1), (95, .putfield 209, 3), (98, .aload_n 0, 1), (99, .getfield 209, 3), (102, .iconst 1, 1), (103, .isub, 1), (104, .ireturn, 1)]
theorem bd_X10_line : ∀ q ∈ bi_X10_line, decode cX10_line q.1 = .ok q.2 := by decide +kernel
theorem bz_X10_line : bq_X10_line.all (ab_ck ab_hd ab_xs ab_tr bx_X10_line be_X10_line bi_X10_line (some .int) 5 52) = true := by decide +kernel
theorem bm_X10_line (l : Launch) : ex_Met l yX10_line cX10_line 5 (some .int) 1 22 (ab_sp ab_hd bc_X10_line) := ab_met (by decide) (by decide) rfl (bj_X10_line l) bd_X10_line ab_hcm ab_xk bz_X10_line
theorem bw_X10_erase : ec_cw yX10_erase cX10_erase 2 (some .int) := ⟨ec_in (i := 1407) (by decide +kernel) rfl, ec_in (i := 68) (by decide +kernel) rfl, by decide, by decide⟩
theorem bv_X10_erase : Cond.instanceMethod yX10_erase ∈ ec_tb ∧ Cond.selects yX10_erase.cls yX10_erase yX10_erase ∈ ec_tb := ⟨ec_in (i := 1405) (by decide +kernel) rfl, ec_in (i := 1406) (by decide +kernel) rfl⟩
def be_X10_erase : Nat → Option (Nat × Option Nat × List ab_C) := fun ix => match ix with
  | 160 => some (2, some 10, bc_X10_finding)
  | _ => none
theorem bk_X10_erase (l : Launch) : ∀ (ix n : Nat) (rc : Option Nat) (sp : ex_S), (be_X10_erase ix).map (fun q => (q.1, q.2.1, ab_sp ab_hd q.2.2)) = some (n, rc, sp) → ex_cok l RX10 1 21 ix n rc sp := by
  intro ix n rc sp h
  obtain ⟨l0, h2, rfl⟩ := ab_dmk h
  clear h
  unfold be_X10_erase at h2
  split at h2
  · cases h2; exact ec_cV (bm_X10_finding l) bw_X10_finding bv_X10_finding (by decide) (by decide) (Or.inl (ec_in (i := 1282) (by decide +kernel) rfl)) (T := TX10) (N := 57) rfl (by decide) (by decide +kernel)
  · cases h2
def bx_X10_erase : ex_K := (RX10, ec_fx fl_X10, ec_cx cl_X10, sl_X10, (fun ix => (be_X10_erase ix).map (fun q => (q.1, q.2.1, ab_sp ab_hd q.2.2))), ec_nz, ec_no)
theorem bj_X10_erase (l : Launch) : ex_ok l 1 21 bx_X10_erase := ⟨ec_fok fo_X10, ec_cok co_X10, so_X10, bk_X10_erase l, fun _ h => (by cases h), fun _ h => (by cases h), fun _ h => (by cases h), fun _ _ h => (by cases h)⟩
def bq_X10_erase : List (ab_C × List ab_Q) := [(([.inl 76], [], [(76, some 34), (114, some 3)], [(some ((-2147483648), 2147483647, none), [], [])]), [])]
def bc_X10_erase : List ab_C := bq_X10_erase.map (fun c => c.1)
def bi_X10_erase : List (Nat × Instr × Nat) := [(0, .aload_n 0, 1), (1, .getfield 82, 3), (4, .iconst 4, 1), (5, .iaload, 1), (6, .iconst 1, 1), (7, .if_icmp .ne 9, 3), (10, .aload_n 0, 1), (11, .iconst 3, 1), (12, .invokevirtual 160, 3), (15, .ireturn, 1), (16, .aload_n 0, 1), (17, .getfield 209, 3), (20, .istore_n 1, 1), (21, .aload_n 0, 1), (22, .iconst 0, 1), (23, .putfield 209, 3), (26, .iload_n 1, 1), (27, .ireturn, 1)]
theorem bd_X10_erase : ∀ q ∈ bi_X10_erase, decode cX10_erase q.1 = .ok q.2 := by decide +kernel
theorem bz_X10_erase : bq_X10_erase.all (ab_ck ab_hd ab_xs ab_tr bx_X10_erase be_X10_erase bi_X10_erase (some .int) 2 16) = true := by decide +kernel
theorem bm_X10_erase (l : Launch) : ex_Met l yX10_erase cX10_erase 2 (some .int) 1 21 (ab_sp ab_hd bc_X10_erase) := ab_met (by decide) (by decide) rfl (bj_X10_erase l) bd_X10_erase ab_hcm ab_xk bz_X10_erase
theorem bw_X10_begin : ec_cw yX10_begin cX10_begin 1 (some .int) := ⟨ec_in (i := 1411) (by decide +kernel) rfl, ec_in (i := 68) (by decide +kernel) rfl, by decide, by decide⟩
theorem bv_X10_begin : Cond.instanceMethod yX10_begin ∈ ec_tb ∧ Cond.selects yX10_begin.cls yX10_begin yX10_begin ∈ ec_tb := ⟨ec_in (i := 1409) (by decide +kernel) rfl, ec_in (i := 1410) (by decide +kernel) rfl⟩
def be_X10_begin : Nat → Option (Nat × Option Nat × List ab_C) := fun ix => match ix with
  | 160 => some (2, some 10, bc_X10_finding)
  | _ => none
theorem bk_X10_begin (l : Launch) : ∀ (ix n : Nat) (rc : Option Nat) (sp : ex_S), (be_X10_begin ix).map (fun q => (q.1, q.2.1, ab_sp ab_hd q.2.2)) = some (n, rc, sp) → ex_cok l RX10 1 21 ix n rc sp := by
  intro ix n rc sp h
  obtain ⟨l0, h2, rfl⟩ := ab_dmk h
  clear h
  unfold be_X10_begin at h2
  split at h2
  · cases h2; exact ec_cV (bm_X10_finding l) bw_X10_finding bv_X10_finding (by decide) (by decide) (Or.inl (ec_in (i := 1282) (by decide +kernel) rfl)) (T := TX10) (N := 57) rfl (by decide) (by decide +kernel)
  · cases h2
def bx_X10_begin : ex_K := (RX10, ec_fx fl_X10, ec_cx cl_X10, sl_X10, (fun ix => (be_X10_begin ix).map (fun q => (q.1, q.2.1, ab_sp ab_hd q.2.2))), ec_nz, ec_no)
theorem bj_X10_begin (l : Launch) : ex_ok l 1 21 bx_X10_begin := ⟨ec_fok fo_X10, ec_cok co_X10, so_X10, bk_X10_begin l, fun _ h => (by cases h), fun _ h => (by cases h), fun _ h => (by cases h), fun _ _ h => (by cases h)⟩
def bq_X10_begin : List (ab_C × List ab_Q) := [(([.inl 76], [], [(101, some 4), (101, some 5), (114, some 3)], [(some ((-2147483648), 2147483647, none), [], [])]), [])]
def bc_X10_begin : List ab_C := bq_X10_begin.map (fun c => c.1)
def bi_X10_begin : List (Nat × Instr × Nat) := [(0, .aload_n 0, 1), (1, .getfield 82, 3), (4, .iconst 4, 1), (5, .iaload, 1), (6, .iconst 1, 1), (7, .if_icmp .eq 10, 3), (10, .aload_n 0, 1), (11, .getfield 209, 3), (14, .ifCond .ne 9, 3), (17, .aload_n 0, 1), (18, .iconst 3, 1), (19, .invokevirtual 160, 3), (22, .ireturn, 1), (23, .aload_n 0, 1), (24, .getfield 82, 3), (27, .iconst 4, 1), (28, .iconst 1, 1), (29, .iastore, 1), (30, .aload_n 0, 1), (31, .getfield 82, 3), (34, .iconst 5, 1), (35, .iconst 0, 1), (36, .iastore, 1), (37, .iconst 1, 1), (38, .ireturn, 1)]
theorem bd_X10_begin : ∀ q ∈ bi_X10_begin, decode cX10_begin q.1 = .ok q.2 := by decide +kernel
theorem bz_X10_begin : bq_X10_begin.all (ab_ck ab_hd ab_xs ab_tr bx_X10_begin be_X10_begin bi_X10_begin (some .int) 1 23) = true := by decide +kernel
theorem bm_X10_begin (l : Launch) : ex_Met l yX10_begin cX10_begin 1 (some .int) 1 21 (ab_sp ab_hd bc_X10_begin) := ab_met (by decide) (by decide) rfl (bj_X10_begin l) bd_X10_begin ab_hcm ab_xk bz_X10_begin
theorem bw_X10_halt : ec_cw yX10_halt cX10_halt 2 (some .int) := ⟨ec_in (i := 1415) (by decide +kernel) rfl, ec_in (i := 68) (by decide +kernel) rfl, by decide, by decide⟩
theorem bv_X10_halt : Cond.instanceMethod yX10_halt ∈ ec_tb ∧ Cond.selects yX10_halt.cls yX10_halt yX10_halt ∈ ec_tb := ⟨ec_in (i := 1413) (by decide +kernel) rfl, ec_in (i := 1414) (by decide +kernel) rfl⟩
def be_X10_halt : Nat → Option (Nat × Option Nat × List ab_C) := fun ix => match ix with
  | 171 => some (3, none, bc_X10_isIn)
  | 160 => some (2, some 10, bc_X10_finding)
  | _ => none
theorem bk_X10_halt (l : Launch) : ∀ (ix n : Nat) (rc : Option Nat) (sp : ex_S), (be_X10_halt ix).map (fun q => (q.1, q.2.1, ab_sp ab_hd q.2.2)) = some (n, rc, sp) → ex_cok l RX10 1 22 ix n rc sp := by
  intro ix n rc sp h
  obtain ⟨l0, h2, rfl⟩ := ab_dmk h
  clear h
  unfold be_X10_halt at h2
  split at h2
  · cases h2; exact ec_cS (bm_X10_isIn l) bw_X10_isIn bv_X10_isIn (by decide) (by decide) (Or.inl (ec_in (i := 1303) (by decide +kernel) rfl)) (by decide +kernel)
  · cases h2; exact ec_cV (bm_X10_finding l) bw_X10_finding bv_X10_finding (by decide) (by decide) (Or.inl (ec_in (i := 1282) (by decide +kernel) rfl)) (T := TX10) (N := 57) rfl (by decide) (by decide +kernel)
  · cases h2
def bx_X10_halt : ex_K := (RX10, ec_fx fl_X10, ec_cx cl_X10, sl_X10, (fun ix => (be_X10_halt ix).map (fun q => (q.1, q.2.1, ab_sp ab_hd q.2.2))), ec_nz, ec_no)
theorem bj_X10_halt (l : Launch) : ex_ok l 1 22 bx_X10_halt := ⟨ec_fok fo_X10, ec_cok co_X10, so_X10, bk_X10_halt l, fun _ h => (by cases h), fun _ h => (by cases h), fun _ h => (by cases h), fun _ _ h => (by cases h)⟩
def bq_X10_halt : List (ab_C × List ab_Q) := [(([.inl 76, .inr ((-2147483648), 2147483647)], [], [(101, some 6), (114, some 1), (114, some 3)], [(some ((-2147483648), 2147483647, none), [], [])]), [])]
def bc_X10_halt : List ab_C := bq_X10_halt.map (fun c => c.1)
def bi_X10_halt : List (Nat × Instr × Nat) := [(0, .iload_n 1, 1), (1, .iconst 0, 1), (2, .iconst 1, 1), (3, .invokestatic 171, 3), (6, .ifCond .ne 9, 3), (9, .aload_n 0, 1), (10, .iconst 1, 1), (11, .invokevirtual 160, 3), (14, .ireturn, 1), (15, .aload_n 0, 1), (16, .getfield 82, 3), (19, .iconst 4, 1), (20, .iaload, 1), (21, .ifCond .eq 14, 3), (24, .aload_n 0, 1), (25, .getfield 82, 3), (28, .bipush 6, 2), (30, .iaload, 1), (31, .iload_n 1, 1), (32, .if_icmp .ne 9, 3), (35, .aload_n 0, 1), (36, .iconst 3, 1), (37, .invokevirtual 160, 3), (40, .ireturn, 1), (41, .aload_n 0, 1), (42, .getfield 82, 3), (45, .bipush 6, 2), (47, .iload_n 1, 1), (48, .iastore, 1), (49, .iconst 1, 1), (50, .ireturn, 1)]
theorem bd_X10_halt : ∀ q ∈ bi_X10_halt, decode cX10_halt q.1 = .ok q.2 := by decide +kernel
theorem bz_X10_halt : bq_X10_halt.all (ab_ck ab_hd ab_xs ab_tr bx_X10_halt be_X10_halt bi_X10_halt (some .int) 2 25) = true := by decide +kernel
theorem bm_X10_halt (l : Launch) : ex_Met l yX10_halt cX10_halt 2 (some .int) 1 22 (ab_sp ab_hd bc_X10_halt) := ab_met (by decide) (by decide) rfl (bj_X10_halt l) bd_X10_halt ab_hcm ab_xk bz_X10_halt
theorem bw_X10_abort : ec_cw yX10_abort cX10_abort 1 (some .int) := ⟨ec_in (i := 1419) (by decide +kernel) rfl, ec_in (i := 68) (by decide +kernel) rfl, by decide, by decide⟩
theorem bv_X10_abort : Cond.instanceMethod yX10_abort ∈ ec_tb ∧ Cond.selects yX10_abort.cls yX10_abort yX10_abort ∈ ec_tb := ⟨ec_in (i := 1417) (by decide +kernel) rfl, ec_in (i := 1418) (by decide +kernel) rfl⟩
def be_X10_abort : Nat → Option (Nat × Option Nat × List ab_C) := fun ix => match ix with
  | 160 => some (2, some 10, bc_X10_finding)
  | 225 => some (1, some 10, bc_X10_abortText)
  | _ => none
theorem bk_X10_abort (l : Launch) : ∀ (ix n : Nat) (rc : Option Nat) (sp : ex_S), (be_X10_abort ix).map (fun q => (q.1, q.2.1, ab_sp ab_hd q.2.2)) = some (n, rc, sp) → ex_cok l RX10 2 41 ix n rc sp := by
  intro ix n rc sp h
  obtain ⟨l0, h2, rfl⟩ := ab_dmk h
  clear h
  unfold be_X10_abort at h2
  split at h2
  · cases h2; exact ec_cV (bm_X10_finding l) bw_X10_finding bv_X10_finding (by decide) (by decide) (Or.inl (ec_in (i := 1282) (by decide +kernel) rfl)) (T := TX10) (N := 57) rfl (by decide) (by decide +kernel)
  · cases h2; exact ec_cV (bm_X10_abortText l) bw_X10_abortText bv_X10_abortText (by decide) (by decide) (Or.inl (ec_in (i := 1420) (by decide +kernel) rfl)) (T := TX10) (N := 57) rfl (by decide) (by decide +kernel)
  · cases h2
def bx_X10_abort : ex_K := (RX10, ec_fx fl_X10, ec_cx cl_X10, sl_X10, (fun ix => (be_X10_abort ix).map (fun q => (q.1, q.2.1, ab_sp ab_hd q.2.2))), ec_nz, ec_no)
theorem bj_X10_abort (l : Launch) : ex_ok l 2 41 bx_X10_abort := ⟨ec_fok fo_X10, ec_cok co_X10, so_X10, bk_X10_abort l, fun _ h => (by cases h), fun _ h => (by cases h), fun _ h => (by cases h), fun _ _ h => (by cases h)⟩
def bq_X10_abort : List (ab_C × List ab_Q) := [(([.inl 76], [], [(101, some 4), (101, some 5), (101, some 6), (101, some 7), (101, some 8), (101, some 9), (101, some 10), (114, some 3)], [(some ((-2147483648), 2147483647, none), [], [])]), [])]
def bc_X10_abort : List ab_C := bq_X10_abort.map (fun c => c.1)
def bi_X10_abort : List (Nat × Instr × Nat) := [(0, .aload_n 0, 1), (1, .getfield 82, 3), (4, .iconst 4, 1), (5, .iaload, 1), (6, .ifCond .ne 9, 3), (9, .aload_n 0, 1), (10, .iconst 3, 1), (11, .invokevirtual 160, 3), (14, .ireturn, 1), (15, .aload_n 0, 1), (16, .invokevirtual 225, 3), (19, .aload_n 0, 1), (20, .getfield 82, 3), (23, .iconst 4, 1), (24, .iaload, 1), (25, .ireturn, 1)]
theorem bd_X10_abort : ∀ q ∈ bi_X10_abort, decode cX10_abort q.1 = .ok q.2 := by decide +kernel
theorem bz_X10_abort : bq_X10_abort.all (ab_ck ab_hd ab_xs ab_tr bx_X10_abort be_X10_abort bi_X10_abort (some .int) 1 14) = true := by decide +kernel
theorem bm_X10_abort (l : Launch) : ex_Met l yX10_abort cX10_abort 1 (some .int) 2 41 (ab_sp ab_hd bc_X10_abort) := ab_met (by decide) (by decide) rfl (bj_X10_abort l) bd_X10_abort ab_hcm ab_xk bz_X10_abort
theorem bw_X10_text : ec_cw yX10_text cX10_text 2 (some .int) := ⟨ec_in (i := 1431) (by decide +kernel) rfl, ec_in (i := 68) (by decide +kernel) rfl, by decide, by decide⟩
theorem bv_X10_text : Cond.instanceMethod yX10_text ∈ ec_tb ∧ Cond.selects yX10_text.cls yX10_text yX10_text ∈ ec_tb := ⟨ec_in (i := 1429) (by decide +kernel) rfl, ec_in (i := 1430) (by decide +kernel) rfl⟩
def be_X10_text : Nat → Option (Nat × Option Nat × List ab_C) := fun ix => match ix with
  | 171 => some (3, none, bc_X10_isIn)
  | 160 => some (2, some 10, bc_X10_finding)
  | _ => none
theorem bk_X10_text (l : Launch) : ∀ (ix n : Nat) (rc : Option Nat) (sp : ex_S), (be_X10_text ix).map (fun q => (q.1, q.2.1, ab_sp ab_hd q.2.2)) = some (n, rc, sp) → ex_cok l RX10 1 22 ix n rc sp := by
  intro ix n rc sp h
  obtain ⟨l0, h2, rfl⟩ := ab_dmk h
  clear h
  unfold be_X10_text at h2
  split at h2
  · cases h2; exact ec_cS (bm_X10_isIn l) bw_X10_isIn bv_X10_isIn (by decide) (by decide) (Or.inl (ec_in (i := 1303) (by decide +kernel) rfl)) (by decide +kernel)
  · cases h2; exact ec_cV (bm_X10_finding l) bw_X10_finding bv_X10_finding (by decide) (by decide) (Or.inl (ec_in (i := 1282) (by decide +kernel) rfl)) (T := TX10) (N := 57) rfl (by decide) (by decide +kernel)
  · cases h2
def bx_X10_text : ex_K := (RX10, ec_fx fl_X10, ec_cx cl_X10, sl_X10, (fun ix => (be_X10_text ix).map (fun q => (q.1, q.2.1, ab_sp ab_hd q.2.2))), ec_nz, ec_no)
theorem bj_X10_text (l : Launch) : ex_ok l 1 22 bx_X10_text := ⟨ec_fok fo_X10, ec_cok co_X10, so_X10, bk_X10_text l, fun _ h => (by cases h), fun _ h => (by cases h), fun _ h => (by cases h), fun _ _ h => (by cases h)⟩
def bq_X10_text : List (ab_C × List ab_Q) := [(([.inl 76, .inr ((-2147483648), 2147483647)], [], [(114, some 1)], [(some ((-2147483648), 2147483647, none), [], [])]), [])]
def bc_X10_text : List ab_C := bq_X10_text.map (fun c => c.1)
def bi_X10_text : List (Nat × Instr × Nat) := [(0, .iload_n 1, 1), (1, .iconst 0, 1), (2, .bipush 6, 2), (4, .invokestatic 171, 3), (7, .ifCond .ne 9, 3), (10, .aload_n 0, 1), (11, .iconst 1, 1), (12, .invokevirtual 160, 3), (15, .ireturn, 1), (16, .aload_n 0, 1), (17, .getfield 82, 3), (20, .iconst 4, 1), (21, .iload_n 1, 1), (22, .iadd, 1), (23, .iaload, 1), (24, .ireturn, 1)]
theorem bd_X10_text : ∀ q ∈ bi_X10_text, decode cX10_text q.1 = .ok q.2 := by decide +kernel
theorem bz_X10_text : bq_X10_text.all (ab_ck ab_hd ab_xs ab_tr bx_X10_text be_X10_text bi_X10_text (some .int) 2 14) = true := by decide +kernel
theorem bm_X10_text (l : Launch) : ex_Met l yX10_text cX10_text 2 (some .int) 1 22 (ab_sp ab_hd bc_X10_text) := ab_met (by decide) (by decide) rfl (bj_X10_text l) bd_X10_text ab_hcm ab_xk bz_X10_text
theorem bw_X10_mendAll : ec_cw yX10_mendAll cX10_mendAll 2 none := ⟨ec_in (i := 1478) (by decide +kernel) rfl, ec_in (i := 68) (by decide +kernel) rfl, by decide, by decide⟩
theorem bv_X10_mendAll : Cond.instanceMethod yX10_mendAll ∈ ec_tb ∧ Cond.selects yX10_mendAll.cls yX10_mendAll yX10_mendAll ∈ ec_tb := ⟨ec_in (i := 1477) (by decide +kernel) rfl, ec_in (i := 45) (by decide +kernel) rfl⟩
def bx_X10_mendAll : ex_K := (RX10, ec_fx fl_X10, ec_cx cl_X10, sl_X10, (fun ix => (ec_no ix).map (fun (q : Nat × Option Nat × List ab_C) => (q.1, q.2.1, ab_sp ab_hd q.2.2))), ec_nz, ec_no)
theorem bj_X10_mendAll (l : Launch) : ex_ok l 0 0 bx_X10_mendAll := ⟨ec_fok fo_X10, ec_cok co_X10, so_X10, fun _ _ _ _ h => (by cases h), fun _ h => (by cases h), fun _ h => (by cases h), fun _ h => (by cases h), fun _ _ h => (by cases h)⟩
def bq_X10_mendAll : List (ab_C × List ab_Q) := [(([.inl 76], [], [(86, none), (87, none), (96, none), (98, none)], [(none, [], [])]), [(2, [some (.inl 76), some (.inr (.inl (0, 6, none, none)))], [((1, 0, 7), 0, 24, some (1007, 0)), ((1, 76, 52), 0, 24, some (77052, 0))], 13, [0, (-2)])])]
def bc_X10_mendAll : List ab_C := bq_X10_mendAll.map (fun c => c.1)
def bi_X10_mendAll : List (Nat × Instr × Nat) := [(0, .iconst 0, 1), (1, .istore_n 1, 1), (2, .iload_n 1, 1), (3, .aload_n 0, 1), (4, .getfield 154, 3), (7, .if_icmp .ge 68, 3), (10, .aload_n 0, 1), (11, .getfield 37, 3), (14, .iload_n 1, 1), (15, .iaload, 1), (16, .ifCond .lt 53, 3), (19, .aload_n 0, 1), (20, .getfield 40, 3), (23, .iload_n 1, 1), (24, .dup2, 1), (25, .iaload, 1), (26, .iconst 1, 1), (27, .isub, 1), (28, .iastore, 1), (29, .aload_n 0, 1), (30, .getfield 40, 3), (33, .iload_n 1, 1), (34, .iaload, 1), (35, .ifCond .ne 34, 3), (38, .aload_n 0, 1), (39, .getfield 73, 3), (42, .aload_n 0, 1), (43, .getfield 37, 3), (46, .iload_n 1, 1), (47, .iaload, 1), (48, .iconst 0, 1), (49, .iastore, 1), (50, .aload_n 0, 1), (51, .getfield 67, 3), (54, .aload_n 0, 1), (55, .getfield 37, 3), (58, .iload_n 1, 1), (59, .iaload, 1), (60, .iconst 0, 1), (61, .iastore, 1), (62, .aload_n 0, 1), (63, .getfield 37, 3), (66, .iload_n 1, 1), (67, .iconst (-1), 1), (68, .iastore, 1), (69, .iinc 1 1, 3), (72, .goto (-70), 3), (75, .return_, 1)]
theorem bd_X10_mendAll : ∀ q ∈ bi_X10_mendAll, decode cX10_mendAll q.1 = .ok q.2 := by decide +kernel
theorem bz_X10_mendAll : bq_X10_mendAll.all (ab_ck ab_hd ab_xs ab_tr bx_X10_mendAll ec_no bi_X10_mendAll none 2 47) = true := by decide +kernel
theorem bm_X10_mendAll (l : Launch) : ex_Met l yX10_mendAll cX10_mendAll 2 none 0 0 (ab_sp ab_hd bc_X10_mendAll) := ab_met (by decide) (by decide) rfl (bj_X10_mendAll l) bd_X10_mendAll ab_hcm ab_xk bz_X10_mendAll
theorem bw_X10_feedAll : ec_cw yX10_feedAll cX10_feedAll 4 none := ⟨ec_in (i := 1482) (by decide +kernel) rfl, ec_in (i := 68) (by decide +kernel) rfl, by decide, by decide⟩
theorem bv_X10_feedAll : Cond.instanceMethod yX10_feedAll ∈ ec_tb ∧ Cond.selects yX10_feedAll.cls yX10_feedAll yX10_feedAll ∈ ec_tb := ⟨ec_in (i := 1481) (by decide +kernel) rfl, ec_in (i := 46) (by decide +kernel) rfl⟩
def be_X10_feedAll : Nat → Option (Nat × Option Nat × List ab_C) := fun ix => match ix with
  | 198 => some (2, some 10, bc_X10_canShed)
  | _ => none
theorem bk_X10_feedAll (l : Launch) : ∀ (ix n : Nat) (rc : Option Nat) (sp : ex_S), (be_X10_feedAll ix).map (fun q => (q.1, q.2.1, ab_sp ab_hd q.2.2)) = some (n, rc, sp) → ex_cok l RX10 1 21 ix n rc sp := by
  intro ix n rc sp h
  obtain ⟨l0, h2, rfl⟩ := ab_dmk h
  clear h
  unfold be_X10_feedAll at h2
  split at h2
  · cases h2; exact ec_cV (bm_X10_canShed l) bw_X10_canShed bv_X10_canShed (by decide) (by decide) (Or.inl (ec_in (i := 1392) (by decide +kernel) rfl)) (T := TX10) (N := 57) rfl (by decide) (by decide +kernel)
  · cases h2
def bx_X10_feedAll : ex_K := (RX10, ec_fx fl_X10, ec_cx cl_X10, sl_X10, (fun ix => (be_X10_feedAll ix).map (fun q => (q.1, q.2.1, ab_sp ab_hd q.2.2))), ec_nz, ec_no)
theorem bj_X10_feedAll (l : Launch) : ex_ok l 1 21 bx_X10_feedAll := ⟨ec_fok fo_X10, ec_cok co_X10, so_X10, bk_X10_feedAll l, fun _ h => (by cases h), fun _ h => (by cases h), fun _ h => (by cases h), fun _ _ h => (by cases h)⟩
def bq_X10_feedAll : List (ab_C × List ab_Q) := [(([.inl 76], [], [(99, none), (101, some 1)], [(none, [], [])]), [(32, [some (.inl 76), some (.inr (.inl ((-2147483648), 2147483647, none, none))), some (.inr (.inl (0, 10, none, none))), none], [((1, 0, 7), 0, 24, some (1007, 0)), ((1, 76, 52), 0, 24, some (77052, 0))], 21, [0, 0, (-2), 0])])]
def bc_X10_feedAll : List ab_C := bq_X10_feedAll.map (fun c => c.1)
def bi_X10_feedAll : List (Nat × Instr × Nat) := [(0, .aload_n 0, 1), (1, .getfield 82, 3), (4, .iconst 1, 1), (5, .iaload, 1), (6, .aload_n 0, 1), (7, .getfield 82, 3), (10, .iconst 0, 1), (11, .iaload, 1), (12, .bipush 9, 2), (14, .irem, 1), (15, .bipush 6, 2), (17, .if_icmp .ge 10, 3), (20, .aload_n 0, 1), (21, .getfield 228, 3), (24, .goto 4, 3), (27, .iconst 0, 1), (28, .iadd, 1), (29, .istore_n 1, 1), (30, .iconst 0, 1), (31, .istore_n 2, 1), (32, .iload_n 2, 1), (33, .aload_n 0, 1), (34, .getfield 157, 3), (37, .if_icmp .ge 65, 3), (40, .aload_n 0, 1), (41, .iload_n 2, 1), (42, .invokevirtual 198, 3), (45, .ifCond .eq 17, 3), (48, .iload_n 1, 1), (49, .aload_n 0, 1), (50, .getfield 58, 3), (53, .iload_n 2, 1), (54, .iaload, 1), (55, .if_icmp .lt 7, 3), (58, .iconst 1, 1), (59, .goto 4, 3), (62, .iconst 0, 1), (63, .istore_n 3, 1), (64, .aload_n 0, 1), (65, .getfield 76, 3), (68, .iload_n 2, 1), (69, .iload_n 3, 1), (70, .ifCond .eq 7, 3), (73, .iconst 1, 1), (74, .goto 4, 3), (77, .iconst 0, 1), (78, .iastore, 1), (79, .iload_n 1, 1), (80, .iload_n 3, 1), (81, .ifCond .eq 12, 3), (84, .aload_n 0, 1), (85, .getfield 58, 3), (88, .iload_n 2, 1), (89, .iaload, 1), (90, .goto 4, 3), (93, .iconst 0, 1), (94, .isub, 1), (95, .istore_n 1, 1), (96, .iinc 2 1, 3), (99, .goto (-67), 3), (102, .aload_n 0, 1), (103, .getfield 82, 3), (106, .iconst 1, 1), (107, .iload_n 1, 1), (108, .aload_n 0, 1), (109, .getfield 85, 3), (112, .if_icmp .le 10, 3), (115, .aload_n 0, 1), (116, .getfield 85, 3), (119, .goto 4, 3), (122, .iload_n 1, 1), (123, .iastore, 1), (124, .return_, 1)]
theorem bd_X10_feedAll : ∀ q ∈ bi_X10_feedAll, decode cX10_feedAll q.1 = .ok q.2 := by decide +kernel
theorem bz_X10_feedAll : bq_X10_feedAll.all (ab_ck ab_hd ab_xs ab_tr bx_X10_feedAll be_X10_feedAll bi_X10_feedAll none 4 39) = true := by decide +kernel
theorem bm_X10_feedAll (l : Launch) : ex_Met l yX10_feedAll cX10_feedAll 4 none 1 21 (ab_sp ab_hd bc_X10_feedAll) := ab_met (by decide) (by decide) rfl (bj_X10_feedAll l) bd_X10_feedAll ab_hcm ab_xk bz_X10_feedAll
theorem bw_X10_lesser : ec_cw yX10_lesser cX10_lesser 2 (some .int) := ⟨ec_in (i := 1438) (by decide +kernel) rfl, ec_in (i := 68) (by decide +kernel) rfl, by decide, by decide⟩
theorem bv_X10_lesser : Cond.static yX10_lesser ∈ ec_tb := ec_in (i := 1437) (by decide +kernel) rfl
def bx_X10_lesser : ex_K := (RX10, ec_fx fl_X10, ec_cx cl_X10, sl_X10, (fun ix => (ec_no ix).map (fun (q : Nat × Option Nat × List ab_C) => (q.1, q.2.1, ab_sp ab_hd q.2.2))), ec_nz, ec_no)
theorem bj_X10_lesser (l : Launch) : ex_ok l 0 0 bx_X10_lesser := ⟨ec_fok fo_X10, ec_cok co_X10, so_X10, fun _ _ _ _ h => (by cases h), fun _ h => (by cases h), fun _ h => (by cases h), fun _ h => (by cases h), fun _ _ h => (by cases h)⟩
def bq_X10_lesser : List (ab_C × List ab_Q) := [(([.inr ((-2147483648), 2147483647), .inr ((-2147483648), 2147483647)], [], [], [(some ((-2147483648), 2147483647, none), [], [])]), [])]
def bc_X10_lesser : List ab_C := bq_X10_lesser.map (fun c => c.1)
def bi_X10_lesser : List (Nat × Instr × Nat) := [(0, .iload_n 0, 1), (1, .iload_n 1, 1), (2, .if_icmp .ge 7, 3), (5, .iload_n 0, 1), (6, .goto 4, 3), (9, .iload_n 1, 1), (10, .ireturn, 1)]
theorem bd_X10_lesser : ∀ q ∈ bi_X10_lesser, decode cX10_lesser q.1 = .ok q.2 := by decide +kernel
theorem bz_X10_lesser : bq_X10_lesser.all (ab_ck ab_hd ab_xs ab_tr bx_X10_lesser ec_no bi_X10_lesser (some .int) 2 8) = true := by decide +kernel
theorem bm_X10_lesser (l : Launch) : ex_Met l yX10_lesser cX10_lesser 2 (some .int) 0 0 (ab_sp ab_hd bc_X10_lesser) := ab_met (by decide) (by decide) rfl (bj_X10_lesser l) bd_X10_lesser ab_hcm ab_xk bz_X10_lesser
theorem bw_X10_workOf : ec_cw yX10_workOf cX10_workOf 4 none := ⟨ec_in (i := 1486) (by decide +kernel) rfl, ec_in (i := 68) (by decide +kernel) rfl, by decide, by decide⟩
theorem bv_X10_workOf : Cond.instanceMethod yX10_workOf ∈ ec_tb ∧ Cond.selects yX10_workOf.cls yX10_workOf yX10_workOf ∈ ec_tb := ⟨ec_in (i := 1485) (by decide +kernel) rfl, ec_in (i := 47) (by decide +kernel) rfl⟩
def be_X10_workOf : Nat → Option (Nat × Option Nat × List ab_C) := fun ix => match ix with
  | 231 => some (2, none, bc_X10_lesser)
  | _ => none
theorem bk_X10_workOf (l : Launch) : ∀ (ix n : Nat) (rc : Option Nat) (sp : ex_S), (be_X10_workOf ix).map (fun q => (q.1, q.2.1, ab_sp ab_hd q.2.2)) = some (n, rc, sp) → ex_cok l RX10 1 21 ix n rc sp := by
  intro ix n rc sp h
  obtain ⟨l0, h2, rfl⟩ := ab_dmk h
  clear h
  unfold be_X10_workOf at h2
  split at h2
  · cases h2; exact ec_cS (bm_X10_lesser l) bw_X10_lesser bv_X10_lesser (by decide) (by decide) (Or.inl (ec_in (i := 1436) (by decide +kernel) rfl)) (by decide +kernel)
  · cases h2
def bx_X10_workOf : ex_K := (RX10, ec_fx fl_X10, ec_cx cl_X10, sl_X10, (fun ix => (be_X10_workOf ix).map (fun q => (q.1, q.2.1, ab_sp ab_hd q.2.2))), ec_nz, ec_no)
theorem bj_X10_workOf (l : Launch) : ex_ok l 1 21 bx_X10_workOf := ⟨ec_fok fo_X10, ec_cok co_X10, so_X10, bk_X10_workOf l, fun _ h => (by cases h), fun _ h => (by cases h), fun _ h => (by cases h), fun _ _ h => (by cases h)⟩
def bq_X10_workOf : List (ab_C × List ab_Q) := [(([.inl 76, .inr (0, 9)], [], [(77, none), (78, none), (83, some 0), (83, some 1), (83, some 2), (83, some 3), (83, some 4), (83, some 5), (96, none), (98, none)], [(none, [], [])]), [])]
def bc_X10_workOf : List ab_C := bq_X10_workOf.map (fun c => c.1)
def bi_X10_workOf : List (Nat × Instr × Nat) := [(0, .iconst 4, 1), (1, .aload_n 0, 1), (2, .getfield 52, 3), (5, .iload_n 1, 1), (6, .iaload, 1), (7, .imul, 1), (8, .istore_n 2, 1), (9, .aload_n 0, 1), (10, .getfield 49, 3), (13, .iload_n 1, 1), (14, .iaload, 1), (15, .tableswitch 295 1 5 #[33, 76, 141, 184, 243], 33), (48, .aload_n 0, 1), (49, .getfield 55, 3), (52, .iload_n 1, 1), (53, .iaload, 1), (54, .aload_n 0, 1), (55, .getfield 7, 3), (58, .iload_n 2, 1), (59, .iconst 1, 1), (60, .iadd, 1), (61, .iaload, 1), (62, .invokestatic 231, 3), (65, .istore_n 3, 1), (66, .aload_n 0, 1), (67, .getfield 7, 3), (70, .iload_n 2, 1), (71, .iconst 1, 1), (72, .iadd, 1), (73, .dup2, 1), (74, .iaload, 1), (75, .iload_n 3, 1), (76, .isub, 1), (77, .iastore, 1), (78, .aload_n 0, 1), (79, .getfield 28, 3), (82, .iconst 3, 1), (83, .dup2, 1), (84, .iaload, 1), (85, .iload_n 3, 1), (86, .iadd, 1), (87, .iastore, 1), (88, .goto 222, 3), (91, .aload_n 0, 1), (92, .getfield 55, 3), (95, .iload_n 1, 1), (96, .iaload, 1), (97, .aload_n 0, 1), (98, .getfield 28, 3), (101, .iconst 0, 1), (102, .iaload, 1), (103, .invokestatic 231, 3), (106, .istore_n 3, 1), (107, .aload_n 0, 1), (108, .getfield 28, 3), (111, .iconst 0, 1), (112, .dup2, 1), (113, .iaload, 1), (114, .iload_n 3, 1), (115, .isub, 1), (116, .iastore, 1), (117, .aload_n 0, 1), (118, .getfield 7, 3), (121, .iload_n 2, 1), (122, .iconst 0, 1), (123, .iadd, 1), (124, .dup2, 1), (125, .iaload, 1), (126, .bipush 8, 2), (128, .iload_n 3, 1), (129, .imul, 1), (130, .bipush 9, 2), (132, .idiv, 1), (133, .iadd, 1), (134, .iastore, 1), (135, .aload_n 0, 1), (136, .getfield 28, 3), (139, .iconst 4, 1), (140, .dup2, 1), (141, .iaload, 1), (142, .iload_n 3, 1), (143, .bipush 8, 2), (145, .iload_n 3, 1), (146, .imul, 1), (147, .bipush 9, 2), (149, .idiv, 1), (150, .isub, 1), (151, .iadd, 1), (152, .iastore, 1), (153, .goto 157, 3), (156, .aload_n 0, 1), (157, .getfield 55, 3), (160, .iload_n 1, 1), (161, .iaload, 1), (162, .aload_n 0, 1), (163, .getfield 7, 3), (166, .iload_n 2, 1), (167, .iconst 2, 1), (168, .iadd, 1), (169, .iaload, 1), (170, .invokestatic 231, 3), (173, .istore_n 3, 1), (174, .aload_n 0, 1), (175, .getfield 7, 3), (178, .iload_n 2, 1), (179, .iconst 2, 1), (180, .iadd, 1), (181, .dup2, 1), (182, .iaload, 1), (183, .iload_n 3, 1), (184, .isub, 1), (185, .iastore, 1), (186, .aload_n 0, 1), (187, .getfield 28, 3), (190, .iconst 0, 1), (191, .dup2, 1), (192, .iaload, 1), (193, .iload_n 3, 1), (194, .iadd, 1), (195, .iastore, 1), (196, .goto 114, 3), (199, .aload_n 0, 1), (200, .getfield 55, 3), (203, .iload_n 1, 1), (204, .iaload, 1), (205, .aload_n 0, 1), (206, .getfield 28, 3), (209, .iconst 1, 1), (210, .iaload, 1), (211, .invokestatic 231, 3), (214, .istore_n 3, 1), (215, .aload_n 0, 1), (216, .getfield 28, 3), (219, .iconst 1, 1), (220, .dup2, 1), (221, .iaload, 1), (222, .iload_n 3, 1), (223, .isub, 1), (224, .iastore, 1), (225, .aload_n 0, 1), (226, .getfield 28, 3), (229, .iconst 0, 1), (230, .dup2, 1), (231, .iaload, 1), (232, .iconst 3, 1), (233, .iload_n 3, 1), (234, .imul, 1), (235, .iconst 4, 1), (236, .idiv, 1), (237, .iadd, 1), (238, .iastore, 1), (239, .aload_n 0, 1), (240, .getfield 28, 3), (243, .iconst 2, 1), (244, .dup2, 1), (245, .iaload, 1), (246, .iload_n 3, 1), (247, .iconst 3, 1), (248, .iload_n 3, 1), (249, .imul, 1), (250, .iconst 4, 1), (251, .idiv, 1), (252, .isub, 1), (253, .iadd, 1), (254, .iastore, 1), (255, .goto 55, 3), (258, .bipush 10, 2), (260, .aload_n 0, 1), (261, .getfield 55, 3), (264, .iload_n 1, 1), (265, .iaload, 1), (266, .imul, 1), (267, .aload_n 0, 1), (268, .getfield 13, 3), (271, .aload_n 0, 1), (272, .getfield 52, 3), (275, .iload_n 1, 1), (276, .iaload, 1), (277, .iaload, 1), (278, .invokestatic 231, 3), (281, .istore_n 3, 1), (282, .aload_n 0, 1), (283, .getfield 13, 3), (286, .aload_n 0, 1), (287, .getfield 52, 3), (290, .iload_n 1, 1), (291, .iaload, 1), (292, .dup2, 1), (293, .iaload, 1), (294, .iload_n 3, 1), (295, .isub, 1), (296, .iastore, 1), (297, .aload_n 0, 1), (298, .getfield 28, 3), (301, .iconst 5, 1), (302, .dup2, 1), (303, .iaload, 1), (304, .iload_n 3, 1), (305, .iadd, 1), (306, .iastore, 1), (307, .goto 3, 3), (310, .aload_n 0, 1), (311, .getfield 67, 3), (314, .iload_n 1, 1), (315, .dup2, 1), (316, .iaload, 1), (317, .iconst 1, 1), (318, .iadd, 1), (319, .iastore, 1), (320, .aload_n 0, 1), (321, .getfield 13, 3), (324, .aload_n 0, 1), (325, .getfield 52, 3), (328, .iload_n 1, 1), (329, .iaload, 1), (330, .dup2, 1), (331, .iaload, 1), (332, .iconst 2, 1), (333, .iadd, 1), (334, .iastore, 1), (335, .aload_n 0, 1), (336, .getfield 73, 3), (339, .iload_n 1, 1), (340, .aload_n 0, 1), (341, .getfield 67, 3), (344, .iload_n 1, 1), (345, .iaload, 1), (346, .aload_n 0, 1), (347, .getfield 64, 3), (350, .iload_n 1, 1), (351, .iaload, 1), (352, .if_icmp .ne 7, 3), (355, .iconst 1, 1), (356, .goto 9, 3), (359, .aload_n 0, 1), (360, .getfield 73, 3), (363, .iload_n 1, 1), (364, .iaload, 1), (365, .iastore, 1), (366, .return_, 1)]
theorem bd_X10_workOf : ∀ q ∈ bi_X10_workOf, decode cX10_workOf q.1 = .ok q.2 := by decide +kernel
theorem bz_X10_workOf : bq_X10_workOf.all (ab_ck ab_hd ab_xs ab_tr bx_X10_workOf be_X10_workOf bi_X10_workOf none 4 98) = true := by decide +kernel
theorem bm_X10_workOf (l : Launch) : ex_Met l yX10_workOf cX10_workOf 4 none 1 21 (ab_sp ab_hd bc_X10_workOf) := ab_met (by decide) (by decide) rfl (bj_X10_workOf l) bd_X10_workOf ab_hcm ab_xk bz_X10_workOf
theorem bw_X10_breathe : ec_cw yX10_breathe cX10_breathe 5 none := ⟨ec_in (i := 1490) (by decide +kernel) rfl, ec_in (i := 68) (by decide +kernel) rfl, by decide, by decide⟩
theorem bv_X10_breathe : Cond.instanceMethod yX10_breathe ∈ ec_tb ∧ Cond.selects yX10_breathe.cls yX10_breathe yX10_breathe ∈ ec_tb := ⟨ec_in (i := 1489) (by decide +kernel) rfl, ec_in (i := 48) (by decide +kernel) rfl⟩
def be_X10_breathe : Nat → Option (Nat × Option Nat × List ab_C) := fun ix => match ix with
  | 231 => some (2, none, bc_X10_lesser)
  | _ => none
theorem bk_X10_breathe (l : Launch) : ∀ (ix n : Nat) (rc : Option Nat) (sp : ex_S), (be_X10_breathe ix).map (fun q => (q.1, q.2.1, ab_sp ab_hd q.2.2)) = some (n, rc, sp) → ex_cok l RX10 1 21 ix n rc sp := by
  intro ix n rc sp h
  obtain ⟨l0, h2, rfl⟩ := ab_dmk h
  clear h
  unfold be_X10_breathe at h2
  split at h2
  · cases h2; exact ec_cS (bm_X10_lesser l) bw_X10_lesser bv_X10_lesser (by decide) (by decide) (Or.inl (ec_in (i := 1436) (by decide +kernel) rfl)) (by decide +kernel)
  · cases h2
def bx_X10_breathe : ex_K := (RX10, ec_fx fl_X10, ec_cx cl_X10, sl_X10, (fun ix => (be_X10_breathe ix).map (fun q => (q.1, q.2.1, ab_sp ab_hd q.2.2))), ec_nz, ec_no)
theorem bj_X10_breathe (l : Launch) : ex_ok l 1 21 bx_X10_breathe := ⟨ec_fok fo_X10, ec_cok co_X10, so_X10, bk_X10_breathe l, fun _ h => (by cases h), fun _ h => (by cases h), fun _ h => (by cases h), fun _ _ h => (by cases h)⟩
def bq_X10_breathe : List (ab_C × List ab_Q) := [(([.inl 76, .inr (0, 5)], [], [(77, none), (78, none), (83, some 0), (83, some 1), (88, none), (89, none)], [(none, [], [])]), [])]
def bc_X10_breathe : List ab_C := bq_X10_breathe.map (fun c => c.1)
def bi_X10_breathe : List (Nat × Instr × Nat) := [(0, .iconst 4, 1), (1, .aload_n 0, 1), (2, .getfield 31, 3), (5, .iload_n 1, 1), (6, .iaload, 1), (7, .imul, 1), (8, .istore_n 2, 1), (9, .aload_n 0, 1), (10, .getfield 34, 3), (13, .iload_n 1, 1), (14, .iaload, 1), (15, .ifCond .ne 7, 3), (18, .iconst 4, 1), (19, .goto 20, 3), (22, .aload_n 0, 1), (23, .getfield 34, 3), (26, .iload_n 1, 1), (27, .iaload, 1), (28, .iconst 1, 1), (29, .if_icmp .ne 8, 3), (32, .bipush 6, 2), (34, .goto 5, 3), (37, .bipush 14, 2), (39, .istore_n 3, 1), (40, .iload_n 3, 1), (41, .aload_n 0, 1), (42, .getfield 7, 3), (45, .iload_n 2, 1), (46, .iconst 0, 1), (47, .iadd, 1), (48, .iaload, 1), (49, .invokestatic 231, 3), (52, .istore 4, 2), (54, .aload_n 0, 1), (55, .getfield 43, 3), (58, .iload_n 1, 1), (59, .dup2, 1), (60, .iaload, 1), (61, .iload 4, 2), (63, .iload_n 3, 1), (64, .if_icmp .ge 7, 3), (67, .iconst 1, 1), (68, .goto 4, 3), (71, .iconst 0, 1), (72, .iadd, 1), (73, .iastore, 1), (74, .aload_n 0, 1), (75, .getfield 7, 3), (78, .iload_n 2, 1), (79, .iconst 0, 1), (80, .iadd, 1), (81, .dup2, 1), (82, .iaload, 1), (83, .iload 4, 2), (85, .isub, 1), (86, .iastore, 1), (87, .aload_n 0, 1), (88, .getfield 7, 3), (91, .iload_n 2, 1), (92, .iconst 1, 1), (93, .iadd, 1), (94, .dup2, 1), (95, .iaload, 1), (96, .iload 4, 2), (98, .iadd, 1), (99, .iastore, 1), (100, .bipush 10, 2), (102, .aload_n 0, 1), (103, .getfield 28, 3), (106, .iconst 0, 1), (107, .iaload, 1), (108, .invokestatic 231, 3), (111, .istore 4, 2), (113, .aload_n 0, 1), (114, .getfield 46, 3), (117, .iload_n 1, 1), (118, .dup2, 1), (119, .iaload, 1), (120, .iload 4, 2), (122, .bipush 10, 2), (124, .if_icmp .ge 7, 3), (127, .iconst 1, 1), (128, .goto 4, 3), (131, .iconst 0, 1), (132, .iadd, 1), (133, .iastore, 1), (134, .aload_n 0, 1), (135, .getfield 28, 3), (138, .iconst 0, 1), (139, .dup2, 1), (140, .iaload, 1), (141, .iload 4, 2), (143, .isub, 1), (144, .iastore, 1), (145, .aload_n 0, 1), (146, .getfield 7, 3), (149, .iload_n 2, 1), (150, .iconst 2, 1), (151, .iadd, 1), (152, .dup2, 1), (153, .iaload, 1), (154, .iconst 4, 1), (155, .iload 4, 2), (157, .imul, 1), (158, .bipush 10, 2), (160, .idiv, 1), (161, .iadd, 1), (162, .iastore, 1), (163, .aload_n 0, 1), (164, .getfield 28, 3), (167, .iconst 1, 1), (168, .dup2, 1), (169, .iaload, 1), (170, .iload 4, 2), (172, .iconst 4, 1), (173, .iload 4, 2), (175, .imul, 1), (176, .bipush 10, 2), (178, .idiv, 1), (179, .isub, 1), (180, .iadd, 1), (181, .iastore, 1), (182, .aload_n 0, 1), (183, .getfield 13, 3), (186, .aload_n 0, 1), (187, .getfield 31, 3), (190, .iload_n 1, 1), (191, .iaload, 1), (192, .dup2, 1), (193, .iaload, 1), (194, .aload_n 0, 1), (195, .getfield 34, 3), (198, .iload_n 1, 1), (199, .iaload, 1), (200, .ifCond .ne 8, 3), (203, .bipush 10, 2), (205, .goto 20, 3), (208, .aload_n 0, 1), (209, .getfield 34, 3), (212, .iload_n 1, 1), (213, .iaload, 1), (214, .iconst 1, 1), (215, .if_icmp .ne 8, 3), (218, .bipush 15, 2), (220, .goto 5, 3), (223, .bipush 40, 2), (225, .iadd, 1), (226, .iastore, 1), (227, .return_, 1)]
theorem bd_X10_breathe : ∀ q ∈ bi_X10_breathe, decode cX10_breathe q.1 = .ok q.2 := by decide +kernel
theorem bz_X10_breathe : bq_X10_breathe.all (ab_ck ab_hd ab_xs ab_tr bx_X10_breathe be_X10_breathe bi_X10_breathe none 5 143) = true := by decide +kernel
theorem bm_X10_breathe (l : Launch) : ex_Met l yX10_breathe cX10_breathe 5 none 1 21 (ab_sp ab_hd bc_X10_breathe) := ab_met (by decide) (by decide) rfl (bj_X10_breathe l) bd_X10_breathe ab_hcm ab_xk bz_X10_breathe
theorem bw_X10_leakAll : ec_cw yX10_leakAll cX10_leakAll 3 none := ⟨ec_in (i := 1494) (by decide +kernel) rfl, ec_in (i := 68) (by decide +kernel) rfl, by decide, by decide⟩
theorem bv_X10_leakAll : Cond.instanceMethod yX10_leakAll ∈ ec_tb ∧ Cond.selects yX10_leakAll.cls yX10_leakAll yX10_leakAll ∈ ec_tb := ⟨ec_in (i := 1493) (by decide +kernel) rfl, ec_in (i := 49) (by decide +kernel) rfl⟩
def bx_X10_leakAll : ex_K := (RX10, ec_fx fl_X10, ec_cx cl_X10, sl_X10, (fun ix => (ec_no ix).map (fun (q : Nat × Option Nat × List ab_C) => (q.1, q.2.1, ab_sp ab_hd q.2.2))), ec_nz, ll_X10)
theorem bj_X10_leakAll (l : Launch) : ex_ok l 0 0 bx_X10_leakAll := ⟨ec_fok fo_X10, ec_cok co_X10, so_X10, fun _ _ _ _ h => (by cases h), fun _ h => (by cases h), fun _ h => (by cases h), fun _ h => (by cases h), lo_X10⟩
def bq_X10_leakAll : List (ab_C × List ab_Q) := [(([.inl 76], [], [(77, none), (83, some 4)], [(none, [], [])]), [(2, [some (.inl 76), some (.inr (.inl (0, 24, none, none))), none], [((1, 0, 7), 0, 24, some (1007, 0)), ((1, 76, 52), 0, 24, some (77052, 0))], 49, [0, (-2), 0])])]
def bc_X10_leakAll : List ab_C := bq_X10_leakAll.map (fun c => c.1)
def bi_X10_leakAll : List (Nat × Instr × Nat) := [(0, .iconst 0, 1), (1, .istore_n 1, 1), (2, .iload_n 1, 1), (3, .iconst 4, 1), (4, .aload_n 0, 1), (5, .getfield 148, 3), (8, .imul, 1), (9, .if_icmp .ge 52, 3), (12, .aload_n 0, 1), (13, .getfield 7, 3), (16, .iload_n 1, 1), (17, .iaload, 1), (18, .i2l, 1), (19, .aload_n 0, 1), (20, .getfield 16, 3), (23, .iload_n 1, 1), (24, .iconst 4, 1), (25, .idiv, 1), (26, .iaload, 1), (27, .i2l, 1), (28, .lmul, 1), (29, .ldc2_w 235, 3), (32, .ldiv, 1), (33, .l2i, 1), (34, .istore_n 2, 1), (35, .aload_n 0, 1), (36, .getfield 7, 3), (39, .iload_n 1, 1), (40, .dup2, 1), (41, .iaload, 1), (42, .iload_n 2, 1), (43, .isub, 1), (44, .iastore, 1), (45, .aload_n 0, 1), (46, .getfield 28, 3), (49, .iconst 4, 1), (50, .dup2, 1), (51, .iaload, 1), (52, .iload_n 2, 1), (53, .iadd, 1), (54, .iastore, 1), (55, .iinc 1 1, 3), (58, .goto (-56), 3), (61, .return_, 1)]
theorem bd_X10_leakAll : ∀ q ∈ bi_X10_leakAll, decode cX10_leakAll q.1 = .ok q.2 := by decide +kernel
theorem bz_X10_leakAll : bq_X10_leakAll.all (ab_ck ab_hd ab_xs ab_tr bx_X10_leakAll ec_no bi_X10_leakAll none 3 43) = true := by decide +kernel
theorem bm_X10_leakAll (l : Launch) : ex_Met l yX10_leakAll cX10_leakAll 3 none 0 0 (ab_sp ab_hd bc_X10_leakAll) := ab_met (by decide) (by decide) rfl (bj_X10_leakAll l) bd_X10_leakAll ab_hcm ab_xk bz_X10_leakAll
theorem bw_X10_mixAll : ec_cw yX10_mixAll cX10_mixAll 4 none := ⟨ec_in (i := 1499) (by decide +kernel) rfl, ec_in (i := 68) (by decide +kernel) rfl, by decide, by decide⟩
theorem bv_X10_mixAll : Cond.instanceMethod yX10_mixAll ∈ ec_tb ∧ Cond.selects yX10_mixAll.cls yX10_mixAll yX10_mixAll ∈ ec_tb := ⟨ec_in (i := 1498) (by decide +kernel) rfl, ec_in (i := 50) (by decide +kernel) rfl⟩
def bx_X10_mixAll : ex_K := (RX10, ec_fx fl_X10, ec_cx cl_X10, sl_X10, (fun ix => (ec_no ix).map (fun (q : Nat × Option Nat × List ab_C) => (q.1, q.2.1, ab_sp ab_hd q.2.2))), ec_nz, ec_no)
theorem bj_X10_mixAll (l : Launch) : ex_ok l 0 0 bx_X10_mixAll := ⟨ec_fok fo_X10, ec_cok co_X10, so_X10, fun _ _ _ _ h => (by cases h), fun _ h => (by cases h), fun _ h => (by cases h), fun _ h => (by cases h), fun _ _ h => (by cases h)⟩
def bq_X10_mixAll : List (ab_C × List ab_Q) := [(([.inl 76], [], [(77, none), (78, none)], [(none, [], [])]), [(2, [some (.inl 76), some (.inr (.inl (0, 8, none, none))), none, none], [((1, 0, 7), 0, 24, some (1007, 0)), ((1, 76, 52), 0, 24, some (77052, 0))], 107, [0, (-12), 0, 0]), (22, [some (.inl 76), some (.inr (.inl (0, 7, none, none))), some (.inr (.inl (0, 4, none, none))), none], [((1, 0, 7), 0, 24, some (1007, 0)), ((1, 76, 52), 0, 24, some (77052, 0))], 105, [0, (-12), (-2), 0])])]
def bc_X10_mixAll : List ab_C := bq_X10_mixAll.map (fun c => c.1)
def bi_X10_mixAll : List (Nat × Instr × Nat) := [(0, .iconst 0, 1), (1, .istore_n 1, 1), (2, .iload_n 1, 1), (3, .aload_n 0, 1), (4, .getfield 151, 3), (7, .if_icmp .ge 160, 3), (10, .aload_n 0, 1), (11, .getfield 25, 3), (14, .iload_n 1, 1), (15, .iaload, 1), (16, .iconst 1, 1), (17, .if_icmp .ne 144, 3), (20, .iconst 0, 1), (21, .istore_n 2, 1), (22, .iload_n 2, 1), (23, .iconst 4, 1), (24, .if_icmp .ge 81, 3), (27, .aload_n 0, 1), (28, .getfield 7, 3), (31, .iconst 4, 1), (32, .aload_n 0, 1), (33, .getfield 19, 3), (36, .iload_n 1, 1), (37, .iaload, 1), (38, .imul, 1), (39, .iload_n 2, 1), (40, .iadd, 1), (41, .iaload, 1), (42, .aload_n 0, 1), (43, .getfield 7, 3), (46, .iconst 4, 1), (47, .aload_n 0, 1), (48, .getfield 22, 3), (51, .iload_n 1, 1), (52, .iaload, 1), (53, .imul, 1), (54, .iload_n 2, 1), (55, .iadd, 1), (56, .iaload, 1), (57, .isub, 1), (58, .iconst 4, 1), (59, .idiv, 1), (60, .istore_n 3, 1), (61, .aload_n 0, 1), (62, .getfield 7, 3), (65, .iconst 4, 1), (66, .aload_n 0, 1), (67, .getfield 19, 3), (70, .iload_n 1, 1), (71, .iaload, 1), (72, .imul, 1), (73, .iload_n 2, 1), (74, .iadd, 1), (75, .dup2, 1), (76, .iaload, 1), (77, .iload_n 3, 1), (78, .isub, 1), (79, .iastore, 1), (80, .aload_n 0, 1), (81, .getfield 7, 3), (84, .iconst 4, 1), (85, .aload_n 0, 1), (86, .getfield 22, 3), (89, .iload_n 1, 1), (90, .iaload, 1), (91, .imul, 1), (92, .iload_n 2, 1), (93, .iadd, 1), (94, .dup2, 1), (95, .iaload, 1), (96, .iload_n 3, 1), (97, .iadd, 1), (98, .iastore, 1), (99, .iinc 2 1, 3), (102, .goto (-80), 3), (105, .aload_n 0, 1), (106, .getfield 13, 3), (109, .aload_n 0, 1), (110, .getfield 19, 3), (113, .iload_n 1, 1), (114, .iaload, 1), (115, .iaload, 1), (116, .aload_n 0, 1), (117, .getfield 13, 3), (120, .aload_n 0, 1), (121, .getfield 22, 3), (124, .iload_n 1, 1), (125, .iaload, 1), (126, .iaload, 1), (127, .isub, 1), (128, .iconst 4, 1), (129, .idiv, 1), (130, .istore_n 2, 1), (131, .aload_n 0, 1), (132, .getfield 13, 3), (135, .aload_n 0, 1), (136, .getfield 19, 3), (139, .iload_n 1, 1), (140, .iaload, 1), (141, .dup2, 1), (142, .iaload, 1), (143, .iload_n 2, 1), (144, .isub, 1), (145, .iastore, 1), (146, .aload_n 0, 1), (147, .getfield 13, 3), (150, .aload_n 0, 1), (151, .getfield 22, 3), (154, .iload_n 1, 1), (155, .iaload, 1), (156, .dup2, 1), (157, .iaload, 1), (158, .iload_n 2, 1), (159, .iadd, 1), (160, .iastore, 1), (161, .iinc 1 1, 3), (164, .goto (-162), 3), (167, .return_, 1)]
theorem bd_X10_mixAll : ∀ q ∈ bi_X10_mixAll, decode cX10_mixAll q.1 = .ok q.2 := by decide +kernel
theorem bz_X10_mixAll : bq_X10_mixAll.all (ab_ck ab_hd ab_xs ab_tr bx_X10_mixAll ec_no bi_X10_mixAll none 4 63) = true := by decide +kernel
theorem bm_X10_mixAll (l : Launch) : ex_Met l yX10_mixAll cX10_mixAll 4 none 0 0 (ab_sp ab_hd bc_X10_mixAll) := ab_met (by decide) (by decide) rfl (bj_X10_mixAll l) bd_X10_mixAll ab_hcm ab_xk bz_X10_mixAll
theorem bw_X10_brokenAt : ec_cw yX10_brokenAt cX10_brokenAt 4 (some .int) := ⟨ec_in (i := 1503) (by decide +kernel) rfl, ec_in (i := 68) (by decide +kernel) rfl, by decide, by decide⟩
theorem bv_X10_brokenAt : Cond.instanceMethod yX10_brokenAt ∈ ec_tb ∧ Cond.selects yX10_brokenAt.cls yX10_brokenAt yX10_brokenAt ∈ ec_tb := ⟨ec_in (i := 1502) (by decide +kernel) rfl, ec_in (i := 51) (by decide +kernel) rfl⟩
def bx_X10_brokenAt : ex_K := (RX10, ec_fx fl_X10, ec_cx cl_X10, sl_X10, (fun ix => (ec_no ix).map (fun (q : Nat × Option Nat × List ab_C) => (q.1, q.2.1, ab_sp ab_hd q.2.2))), ec_nz, ec_no)
theorem bj_X10_brokenAt (l : Launch) : ex_ok l 0 0 bx_X10_brokenAt := ⟨ec_fok fo_X10, ec_cok co_X10, so_X10, fun _ _ _ _ h => (by cases h), fun _ h => (by cases h), fun _ h => (by cases h), fun _ h => (by cases h), fun _ _ h => (by cases h)⟩
def bq_X10_brokenAt : List (ab_C × List ab_Q) := [(([.inl 76], [], [], [(some ((-2147483648), 2147483647, none), [], [])]), [(2, [some (.inl 76), some (.inr (.inl (0, 6, none, none))), none, none], [((1, 0, 7), 0, 24, some (1007, 0)), ((1, 76, 52), 0, 24, some (77052, 0))], 111, [0, (-16), 0, 0]), (14, [some (.inl 76), some (.inr (.inl (0, 5, none, none))), some (.inr (.inl (0, 1, none, none))), some (.inr (.inl (0, 6, none, none)))], [((1, 0, 7), 0, 24, some (1007, 0)), ((1, 76, 52), 0, 24, some (77052, 0))], 109, [0, (-16), 0, (-2)])])]
def bc_X10_brokenAt : List ab_C := bq_X10_brokenAt.map (fun c => c.1)
def bi_X10_brokenAt : List (Nat × Instr × Nat) := [(0, .iconst 0, 1), (1, .istore_n 1, 1), (2, .iload_n 1, 1), (3, .aload_n 0, 1), (4, .getfield 148, 3), (7, .if_icmp .ge 98, 3), (10, .iconst 0, 1), (11, .istore_n 2, 1), (12, .iconst 0, 1), (13, .istore_n 3, 1), (14, .iload_n 3, 1), (15, .aload_n 0, 1), (16, .getfield 154, 3), (19, .if_icmp .ge 27, 3), (22, .iload_n 2, 1), (23, .aload_n 0, 1), (24, .getfield 31, 3), (27, .iload_n 3, 1), (28, .iaload, 1), (29, .iload_n 1, 1), (30, .if_icmp .ne 7, 3), (33, .iconst 1, 1), (34, .goto 4, 3), (37, .iconst 0, 1), (38, .ior, 1), (39, .istore_n 2, 1), (40, .iinc 3 1, 3), (43, .goto (-29), 3), (46, .iload_n 2, 1), (47, .ifCond .eq 52, 3), (50, .aload_n 0, 1), (51, .getfield 7, 3), (54, .iconst 4, 1), (55, .iload_n 1, 1), (56, .imul, 1), (57, .iconst 0, 1), (58, .iadd, 1), (59, .iaload, 1), (60, .aload_n 0, 1), (61, .getfield 89, 3), (64, .if_icmp .lt 33, 3), (67, .aload_n 0, 1), (68, .getfield 7, 3), (71, .iconst 4, 1), (72, .iload_n 1, 1), (73, .imul, 1), (74, .iconst 1, 1), (75, .iadd, 1), (76, .iaload, 1), (77, .aload_n 0, 1), (78, .getfield 92, 3), (81, .if_icmp .gt 16, 3), (84, .aload_n 0, 1), (85, .getfield 13, 3), (88, .iload_n 1, 1), (89, .iaload, 1), (90, .aload_n 0, 1), (91, .getfield 95, 3), (94, .if_icmp .le 5, 3), (97, .iload_n 1, 1), (98, .ireturn, 1), (99, .iinc 1 1, 3), (102, .goto (-100), 3), (105, .iconst (-1), 1), (106, .ireturn, 1)]
theorem bd_X10_brokenAt : ∀ q ∈ bi_X10_brokenAt, decode cX10_brokenAt q.1 = .ok q.2 := by decide +kernel
theorem bz_X10_brokenAt : bq_X10_brokenAt.all (ab_ck ab_hd ab_xs ab_tr bx_X10_brokenAt ec_no bi_X10_brokenAt (some .int) 4 39) = true := by decide +kernel
theorem bm_X10_brokenAt (l : Launch) : ex_Met l yX10_brokenAt cX10_brokenAt 4 (some .int) 0 0 (ab_sp ab_hd bc_X10_brokenAt) := ab_met (by decide) (by decide) rfl (bj_X10_brokenAt l) bd_X10_brokenAt ab_hcm ab_xk bz_X10_brokenAt
theorem bw_X10_tick : ec_cw yX10_tick cX10_tick 2 (some .boolean) := ⟨ec_in (i := 1454) (by decide +kernel) rfl, ec_in (i := 68) (by decide +kernel) rfl, by decide, by decide⟩
theorem bv_X10_tick : Cond.instanceMethod yX10_tick ∈ ec_tb ∧ Cond.selects yX10_tick.cls yX10_tick yX10_tick ∈ ec_tb := ⟨ec_in (i := 1453) (by decide +kernel) rfl, ec_in (i := 39) (by decide +kernel) rfl⟩
def be_X10_tick : Nat → Option (Nat × Option Nat × List ab_C) := fun ix => match ix with
  | 237 => some (1, some 10, bc_X10_runText)
  | 240 => some (1, some 10, bc_X10_mendAll)
  | 243 => some (1, some 10, bc_X10_feedAll)
  | 246 => some (2, some 10, bc_X10_workOf)
  | 249 => some (2, some 10, bc_X10_breathe)
  | 252 => some (1, some 10, bc_X10_leakAll)
  | 255 => some (1, some 10, bc_X10_mixAll)
  | 258 => some (1, some 10, bc_X10_brokenAt)
  | _ => none
theorem bk_X10_tick (l : Launch) : ∀ (ix n : Nat) (rc : Option Nat) (sp : ex_S), (be_X10_tick ix).map (fun q => (q.1, q.2.1, ab_sp ab_hd q.2.2)) = some (n, rc, sp) → ex_cok l RX10 4 91 ix n rc sp := by
  intro ix n rc sp h
  obtain ⟨l0, h2, rfl⟩ := ab_dmk h
  clear h
  unfold be_X10_tick at h2
  split at h2
  · cases h2; exact ec_cV (bm_X10_runText l) bw_X10_runText bv_X10_runText (by decide) (by decide) (Or.inl (ec_in (i := 1455) (by decide +kernel) rfl)) (T := TX10) (N := 57) rfl (by decide) (by decide +kernel)
  · cases h2; exact ec_cV (bm_X10_mendAll l) bw_X10_mendAll bv_X10_mendAll (by decide) (by decide) (Or.inl (ec_in (i := 1475) (by decide +kernel) rfl)) (T := TX10) (N := 57) rfl (by decide) (by decide +kernel)
  · cases h2; exact ec_cV (bm_X10_feedAll l) bw_X10_feedAll bv_X10_feedAll (by decide) (by decide) (Or.inl (ec_in (i := 1479) (by decide +kernel) rfl)) (T := TX10) (N := 57) rfl (by decide) (by decide +kernel)
  · cases h2; exact ec_cV (bm_X10_workOf l) bw_X10_workOf bv_X10_workOf (by decide) (by decide) (Or.inl (ec_in (i := 1483) (by decide +kernel) rfl)) (T := TX10) (N := 57) rfl (by decide) (by decide +kernel)
  · cases h2; exact ec_cV (bm_X10_breathe l) bw_X10_breathe bv_X10_breathe (by decide) (by decide) (Or.inl (ec_in (i := 1487) (by decide +kernel) rfl)) (T := TX10) (N := 57) rfl (by decide) (by decide +kernel)
  · cases h2; exact ec_cV (bm_X10_leakAll l) bw_X10_leakAll bv_X10_leakAll (by decide) (by decide) (Or.inl (ec_in (i := 1491) (by decide +kernel) rfl)) (T := TX10) (N := 57) rfl (by decide) (by decide +kernel)
  · cases h2; exact ec_cV (bm_X10_mixAll l) bw_X10_mixAll bv_X10_mixAll (by decide) (by decide) (Or.inl (ec_in (i := 1496) (by decide +kernel) rfl)) (T := TX10) (N := 57) rfl (by decide) (by decide +kernel)
  · cases h2; exact ec_cV (bm_X10_brokenAt l) bw_X10_brokenAt bv_X10_brokenAt (by decide) (by decide) (Or.inl (ec_in (i := 1500) (by decide +kernel) rfl)) (T := TX10) (N := 57) rfl (by decide) (by decide +kernel)
  · cases h2
def bx_X10_tick : ex_K := (RX10, ec_fx fl_X10, ec_cx cl_X10, sl_X10, (fun ix => (be_X10_tick ix).map (fun q => (q.1, q.2.1, ab_sp ab_hd q.2.2))), ec_nz, ec_no)
theorem bj_X10_tick (l : Launch) : ex_ok l 4 91 bx_X10_tick := ⟨ec_fok fo_X10, ec_cok co_X10, so_X10, bk_X10_tick l, fun _ h => (by cases h), fun _ h => (by cases h), fun _ h => (by cases h), fun _ _ h => (by cases h)⟩
def bq_X10_tick : List (ab_C × List ab_Q) := [(([.inl 76], [], [(77, none), (78, none), (82, none), (83, some 0), (83, some 1), (83, some 2), (83, some 3), (83, some 4), (83, some 5), (84, none), (85, none), (86, none), (87, none), (88, none), (89, none), (96, none), (97, none), (98, none), (99, none), (100, none), (101, some 0), (101, some 1), (101, some 2), (101, some 3), (101, some 4), (101, some 5), (101, some 6), (101, some 7), (101, some 8), (101, some 9), (101, some 10)], [(some (0, 1, none), [], [])]), [(14, [some (.inl 76), some (.inr (.inl (0, 10, none, none)))], [((1, 0, 7), 0, 24, some (1007, 0)), ((1, 76, 52), 0, 24, some (77052, 0))], 35, [0, (-2)]), (45, [some (.inl 76), some (.inr (.inl (0, 6, none, none)))], [((1, 0, 7), 0, 24, some (1007, 0)), ((1, 76, 52), 0, 24, some (77052, 0))], 13, [0, (-2)])])]
def bc_X10_tick : List ab_C := bq_X10_tick.map (fun c => c.1)
def bi_X10_tick : List (Nat × Instr × Nat) := [(0, .aload_n 0, 1), (1, .invokevirtual 237, 3), (4, .aload_n 0, 1), (5, .invokevirtual 240, 3), (8, .aload_n 0, 1), (9, .invokevirtual 243, 3), (12, .iconst 0, 1), (13, .istore_n 1, 1), (14, .iload_n 1, 1), (15, .aload_n 0, 1), (16, .getfield 157, 3), (19, .if_icmp .ge 24, 3), (22, .aload_n 0, 1), (23, .getfield 76, 3), (26, .iload_n 1, 1), (27, .iaload, 1), (28, .iconst 1, 1), (29, .if_icmp .ne 8, 3), (32, .aload_n 0, 1), (33, .iload_n 1, 1), (34, .invokevirtual 246, 3), (37, .iinc 1 1, 3), (40, .goto (-26), 3), (43, .iconst 0, 1), (44, .istore_n 1, 1), (45, .iload_n 1, 1), (46, .aload_n 0, 1), (47, .getfield 154, 3), (50, .if_icmp .ge 14, 3), (53, .aload_n 0, 1), (54, .iload_n 1, 1), (55, .invokevirtual 249, 3), (58, .iinc 1 1, 3), (61, .goto (-16), 3), (64, .aload_n 0, 1), (65, .invokevirtual 252, 3), (68, .aload_n 0, 1), (69, .invokevirtual 255, 3), (72, .aload_n 0, 1), (73, .invokevirtual 258, 3), (76, .istore_n 1, 1), (77, .iload_n 1, 1), (78, .ifCond .lt 31, 3), (81, .aload_n 0, 1), (82, .getfield 82, 3), (85, .iconst 2, 1), (86, .iaload, 1), (87, .ifCond .ge 22, 3), (90, .aload_n 0, 1), (91, .getfield 82, 3), (94, .iconst 2, 1), (95, .aload_n 0, 1), (96, .getfield 82, 3), (99, .iconst 0, 1), (100, .iaload, 1), (101, .iastore, 1), (102, .aload_n 0, 1), (103, .getfield 82, 3), (106, .iconst 3, 1), (107, .iload_n 1, 1), (108, .iastore, 1), (109, .aload_n 0, 1), (110, .getfield 82, 3), (113, .iconst 0, 1), (114, .dup2, 1), (115, .iaload, 1), (116, .iconst 1, 1), (117, .iadd, 1), (118, .iastore, 1), (119, .iload_n 1, 1), (120, .ifCond .lt 7, 3), (123, .iconst 1, 1), (124, .goto 4, 3), (127, .iconst 0, 1), (128, .ireturn, 1)]
theorem bd_X10_tick : ∀ q ∈ bi_X10_tick, decode cX10_tick q.1 = .ok q.2 := by decide +kernel
theorem bz_X10_tick : bq_X10_tick.all (ab_ck ab_hd ab_xs ab_tr bx_X10_tick be_X10_tick bi_X10_tick (some .boolean) 2 46) = true := by decide +kernel
theorem bm_X10_tick (l : Launch) : ex_Met l yX10_tick cX10_tick 2 (some .boolean) 4 91 (ab_sp ab_hd bc_X10_tick) := ab_met (by decide) (by decide) rfl (bj_X10_tick l) bd_X10_tick ab_hcm ab_xk bz_X10_tick
theorem bw_X10_sun : ec_cw yX10_sun cX10_sun 3 (some .int) := ⟨ec_in (i := 1435) (by decide +kernel) rfl, ec_in (i := 68) (by decide +kernel) rfl, by decide, by decide⟩
theorem bv_X10_sun : Cond.instanceMethod yX10_sun ∈ ec_tb ∧ Cond.selects yX10_sun.cls yX10_sun yX10_sun ∈ ec_tb := ⟨ec_in (i := 1433) (by decide +kernel) rfl, ec_in (i := 1434) (by decide +kernel) rfl⟩
def be_X10_sun : Nat → Option (Nat × Option Nat × List ab_C) := fun ix => match ix with
  | 171 => some (3, none, bc_X10_isIn)
  | 160 => some (2, some 10, bc_X10_finding)
  | 231 => some (2, none, bc_X10_lesser)
  | _ => none
theorem bk_X10_sun (l : Launch) : ∀ (ix n : Nat) (rc : Option Nat) (sp : ex_S), (be_X10_sun ix).map (fun q => (q.1, q.2.1, ab_sp ab_hd q.2.2)) = some (n, rc, sp) → ex_cok l RX10 1 22 ix n rc sp := by
  intro ix n rc sp h
  obtain ⟨l0, h2, rfl⟩ := ab_dmk h
  clear h
  unfold be_X10_sun at h2
  split at h2
  · cases h2; exact ec_cS (bm_X10_isIn l) bw_X10_isIn bv_X10_isIn (by decide) (by decide) (Or.inl (ec_in (i := 1303) (by decide +kernel) rfl)) (by decide +kernel)
  · cases h2; exact ec_cV (bm_X10_finding l) bw_X10_finding bv_X10_finding (by decide) (by decide) (Or.inl (ec_in (i := 1282) (by decide +kernel) rfl)) (T := TX10) (N := 57) rfl (by decide) (by decide +kernel)
  · cases h2; exact ec_cS (bm_X10_lesser l) bw_X10_lesser bv_X10_lesser (by decide) (by decide) (Or.inl (ec_in (i := 1436) (by decide +kernel) rfl)) (by decide +kernel)
  · cases h2
def bx_X10_sun : ex_K := (RX10, ec_fx fl_X10, ec_cx cl_X10, sl_X10, (fun ix => (be_X10_sun ix).map (fun q => (q.1, q.2.1, ab_sp ab_hd q.2.2))), ec_nz, ec_no)
theorem bj_X10_sun (l : Launch) : ex_ok l 1 22 bx_X10_sun := ⟨ec_fok fo_X10, ec_cok co_X10, so_X10, bk_X10_sun l, fun _ h => (by cases h), fun _ h => (by cases h), fun _ h => (by cases h), fun _ _ h => (by cases h)⟩
def bq_X10_sun : List (ab_C × List ab_Q) := [(([.inl 76, .inr ((-2147483648), 2147483647), .inr ((-2147483648), 2147483647)], [], [(76, some 29), (76, some 30), (101, some 1), (114, some 1)], [(some ((-2147483648), 2147483647, none), [], [])]), [])]
def bc_X10_sun : List ab_C := bq_X10_sun.map (fun c => c.1)
def bi_X10_sun : List (Nat × Instr × Nat) := [(0, .iload_n 1, 1), (1, .iconst 0, 1), (2, .sipush 500, 3), (5, .invokestatic 171, 3), (8, .ifCond .eq 14, 3), (11, .iload_n 2, 1), (12, .iconst 0, 1), (13, .sipush 5000, 3), (16, .invokestatic 171, 3), (19, .ifCond .ne 9, 3), (22, .aload_n 0, 1), (23, .iconst 1, 1), (24, .invokevirtual 160, 3), (27, .ireturn, 1), (28, .aload_n 0, 1), (29, .iload_n 1, 1), (30, .putfield 228, 3), (33, .aload_n 0, 1), (34, .iload_n 2, 1), (35, .putfield 85, 3), (38, .aload_n 0, 1), (39, .getfield 82, 3), (42, .iconst 1, 1), (43, .aload_n 0, 1), (44, .getfield 82, 3), (47, .iconst 1, 1), (48, .iaload, 1), (49, .aload_n 0, 1), (50, .getfield 85, 3), (53, .invokestatic 231, 3), (56, .iastore, 1), (57, .aload_n 0, 1), (58, .getfield 82, 3), (61, .iconst 1, 1), (62, .iaload, 1), (63, .ireturn, 1)]
theorem bd_X10_sun : ∀ q ∈ bi_X10_sun, decode cX10_sun q.1 = .ok q.2 := by decide +kernel
theorem bz_X10_sun : bq_X10_sun.all (ab_ck ab_hd ab_xs ab_tr bx_X10_sun be_X10_sun bi_X10_sun (some .int) 3 34) = true := by decide +kernel
theorem bm_X10_sun (l : Launch) : ex_Met l yX10_sun cX10_sun 3 (some .int) 1 22 (ab_sp ab_hd bc_X10_sun) := ab_met (by decide) (by decide) rfl (bj_X10_sun l) bd_X10_sun ab_hcm ab_xk bz_X10_sun
