theorem bw_X6_shedding : ec_cw yX6_shedding cX6_shedding 3 (some .int) := ⟨ec_in (i := 638) (by decide +kernel) rfl, ec_in (i := 63) (by decide +kernel) rfl, by decide, by decide⟩
theorem bv_X6_shedding : Cond.instanceMethod yX6_shedding ∈ ec_tb ∧ Cond.selects yX6_shedding.cls yX6_shedding yX6_shedding ∈ ec_tb := ⟨ec_in (i := 636) (by decide +kernel) rfl, ec_in (i := 637) (by decide +kernel) rfl⟩
def be_X6_shedding : Nat → Option (Nat × Option Nat × List ab_C) := fun ix => match ix with
  | 131 => some (2, some 6, bc_X6_leastHarm)
  | 135 => some (3, some 6, bc_X6_sumOver)
  | 139 => some (1, some 6, bc_X6_readySet)
  | _ => none
theorem bk_X6_shedding (l : Launch) : ∀ (ix n : Nat) (rc : Option Nat) (sp : ex_S), (be_X6_shedding ix).map (fun q => (q.1, q.2.1, ab_sp ab_hd q.2.2)) = some (n, rc, sp) → ex_cok l RX6 3 70 ix n rc sp := by
  intro ix n rc sp h
  obtain ⟨l0, h2, rfl⟩ := ab_dmk h
  clear h
  unfold be_X6_shedding at h2
  split at h2
  · cases h2; exact ec_cV (bm_X6_leastHarm l) bw_X6_leastHarm bv_X6_leastHarm (by decide) (by decide) (Or.inl (ec_in (i := 639) (by decide +kernel) rfl)) (T := TX6) (N := 15) rfl (by decide) (by decide +kernel)
  · cases h2; exact ec_cV (bm_X6_sumOver l) bw_X6_sumOver bv_X6_sumOver (by decide) (by decide) (Or.inl (ec_in (i := 651) (by decide +kernel) rfl)) (T := TX6) (N := 15) rfl (by decide) (by decide +kernel)
  · cases h2; exact ec_cV (bm_X6_readySet l) bw_X6_readySet bv_X6_readySet (by decide) (by decide) (Or.inl (ec_in (i := 643) (by decide +kernel) rfl)) (T := TX6) (N := 15) rfl (by decide) (by decide +kernel)
  · cases h2
def bx_X6_shedding : ex_K := (RX6, ec_fx fl_X6, ec_cx cl_X6, sl_X6, (fun ix => (be_X6_shedding ix).map (fun q => (q.1, q.2.1, ab_sp ab_hd q.2.2))), ec_nz, ec_no)
theorem bj_X6_shedding (l : Launch) : ex_ok l 3 70 bx_X6_shedding := ⟨ec_fok fo_X6, ec_cok co_X6, so_X6, bk_X6_shedding l, fun _ h => (by cases h), fun _ h => (by cases h), fun _ h => (by cases h), fun _ _ h => (by cases h)⟩
def bq_X6_shedding : List (ab_C × List ab_Q) := [(([.inl 21, .inr ((-2147483648), 2147483647), .inr ((-2147483648), 2147483647)], [], [], [(some ((-2147483648), 2147483647, none), [], [])]), [])]
def bc_X6_shedding : List ab_C := bq_X6_shedding.map (fun c => c.1)
def bi_X6_shedding : List (Nat × Instr × Nat) := [(0, .iload_n 1, 1), (1, .ifCond .lt 10, 3), (4, .iload_n 1, 1), (5, .sipush 1000, 3), (8, .if_icmp .le 6, 3), (11, .ldc 74, 2), (13, .ireturn, 1), (14, .iload_n 2, 1), (15, .tableswitch 66 0 2 #[25, 31, 45], 25), (40, .aload_n 0, 1), (41, .iload_n 1, 1), (42, .invokevirtual 131, 3), (45, .ireturn, 1), (46, .aload_n 0, 1), (47, .aload_n 0, 1), (48, .iload_n 1, 1), (49, .invokevirtual 131, 3), (52, .aload_n 0, 1), (53, .getfield 24, 3), (56, .invokevirtual 135, 3), (59, .ireturn, 1), (60, .aload_n 0, 1), (61, .aload_n 0, 1), (62, .invokevirtual 139, 3), (65, .aload_n 0, 1), (66, .iload_n 1, 1), (67, .invokevirtual 131, 3), (70, .iconst (-1), 1), (71, .ixor, 1), (72, .iand, 1), (73, .aload_n 0, 1), (74, .getfield 21, 3), (77, .invokevirtual 135, 3), (80, .ireturn, 1), (81, .ldc 74, 2), (83, .ireturn, 1)]
theorem bd_X6_shedding : ∀ q ∈ bi_X6_shedding, decode cX6_shedding q.1 = .ok q.2 := by decide +kernel
theorem bz_X6_shedding : bq_X6_shedding.all (ab_ck ab_hd ab_xs ab_tr bx_X6_shedding be_X6_shedding bi_X6_shedding (some .int) 3 22) = true := by decide +kernel
theorem bm_X6_shedding (l : Launch) : ex_Met l yX6_shedding cX6_shedding 3 (some .int) 3 70 (ab_sp ab_hd bc_X6_shedding) := ab_met (by decide) (by decide) rfl (bj_X6_shedding l) bd_X6_shedding ab_hcm ab_xk bz_X6_shedding
theorem bw_X7_has : ec_cw yX7_has cX7_has 2 (some .boolean) := ⟨ec_in (i := 709) (by decide +kernel) rfl, ec_in (i := 59) (by decide +kernel) rfl, by decide, by decide⟩
theorem bv_X7_has : Cond.instanceMethod yX7_has ∈ ec_tb ∧ Cond.selects yX7_has.cls yX7_has yX7_has ∈ ec_tb := ⟨ec_in (i := 707) (by decide +kernel) rfl, ec_in (i := 708) (by decide +kernel) rfl⟩
def bx_X7_has : ex_K := (RX7, ec_fx fl_X7, ec_cx cl_X7, sl_X7, (fun ix => (ec_no ix).map (fun (q : Nat × Option Nat × List ab_C) => (q.1, q.2.1, ab_sp ab_hd q.2.2))), ec_nz, ec_no)
theorem bj_X7_has (l : Launch) : ex_ok l 0 0 bx_X7_has := ⟨ec_fok fo_X7, ec_cok co_X7, so_X7, fun _ _ _ _ h => (by cases h), fun _ h => (by cases h), fun _ h => (by cases h), fun _ h => (by cases h), fun _ _ h => (by cases h)⟩
def bq_X7_has : List (ab_C × List ab_Q) := [(([.inl 1, .inr ((-2147483648), 2147483647)], [], [], [(some (0, 0, none), [], []), (some (1, 1, none), [((0, 1, 0), 0, 39, none)], [])]), [])]
def bc_X7_has : List ab_C := bq_X7_has.map (fun c => c.1)
def bi_X7_has : List (Nat × Instr × Nat) := [(0, .iload_n 1, 1), (1, .ifCond .lt 15, 3), (4, .iload_n 1, 1), (5, .aload_n 0, 1), (6, .getfield 24, 3), (9, .if_icmp .ge 7, 3), (12, .iconst 1, 1), (13, .goto 4, 3), (16, .iconst 0, 1), (17, .ireturn, 1)]
theorem bd_X7_has : ∀ q ∈ bi_X7_has, decode cX7_has q.1 = .ok q.2 := by decide +kernel
theorem bz_X7_has : bq_X7_has.all (ab_ck ab_hd ab_xs ab_tr bx_X7_has ec_no bi_X7_has (some .boolean) 2 11) = true := by decide +kernel
theorem bm_X7_has (l : Launch) : ex_Met l yX7_has cX7_has 2 (some .boolean) 0 0 (ab_sp ab_hd bc_X7_has) := ab_met (by decide) (by decide) rfl (bj_X7_has l) bd_X7_has ab_hcm ab_xk bz_X7_has
theorem bw_X7_addLine : ec_cw yX7_addLine cX7_addLine 5 (some .int) := ⟨ec_in (i := 909) (by decide +kernel) rfl, ec_in (i := 59) (by decide +kernel) rfl, by decide, by decide⟩
theorem bv_X7_addLine : Cond.instanceMethod yX7_addLine ∈ ec_tb ∧ Cond.selects yX7_addLine.cls yX7_addLine yX7_addLine ∈ ec_tb := ⟨ec_in (i := 907) (by decide +kernel) rfl, ec_in (i := 908) (by decide +kernel) rfl⟩
def bx_X7_addLine : ex_K := (RX7, ec_fx fl_X7, ec_cx cl_X7, sl_X7, (fun ix => (ec_no ix).map (fun (q : Nat × Option Nat × List ab_C) => (q.1, q.2.1, ab_sp ab_hd q.2.2))), ec_nz, ec_no)
theorem bj_X7_addLine (l : Launch) : ex_ok l 0 0 bx_X7_addLine := ⟨ec_fok fo_X7, ec_cok co_X7, so_X7, fun _ _ _ _ h => (by cases h), fun _ h => (by cases h), fun _ h => (by cases h), fun _ h => (by cases h), fun _ _ h => (by cases h)⟩
def bq_X7_addLine : List (ab_C × List ab_Q) := [(([.inl 1, .inr (0, 11), .inr ((-2147483648), 2147483647), .inr ((-2147483648), 2147483647), .inr ((-2147483648), 2147483647)], [], [(1, some 4), (2, none), (3, none), (4, none), (5, none)], [(some ((-2147483648), 2147483647, none), [], [])]), [])]
def bc_X7_addLine : List ab_C := bq_X7_addLine.map (fun c => c.1)
def bi_X7_addLine : List (Nat × Instr × Nat) := [(0, .aload_n 0, 1), (1, .getfield 24, 3), (4, .bipush 40, 2), (6, .if_icmp .lt 6, 3), (9, .ldc 28, 2), (11, .ireturn, 1), (12, .aload_n 0, 1), (13, .getfield 9, 3), (16, .aload_n 0, 1), (17, .getfield 24, 3), (20, .iload_n 1, 1), (21, .iastore, 1), (22, .aload_n 0, 1), (23, .getfield 15, 3), (26, .aload_n 0, 1), (27, .getfield 24, 3), (30, .iload_n 2, 1), (31, .iastore, 1), (32, .aload_n 0, 1), (33, .getfield 18, 3), (36, .aload_n 0, 1), (37, .getfield 24, 3), (40, .iload_n 3, 1), (41, .iastore, 1), (42, .aload_n 0, 1), (43, .getfield 21, 3), (46, .aload_n 0, 1), (47, .getfield 24, 3), (50, .iload 4, 2), (52, .iastore, 1), (53, .aload_n 0, 1), (54, .dup, 1), (55, .getfield 24, 3), (58, .iconst 1, 1), (59, .iadd, 1), (60, .putfield 24, 3), (63, .aload_n 0, 1), (64, .getfield 24, 3), (67, .iconst 1, 1), (68, .isub, 1), (69, .ireturn, 1)]
theorem bd_X7_addLine : ∀ q ∈ bi_X7_addLine, decode cX7_addLine q.1 = .ok q.2 := by decide +kernel
theorem bz_X7_addLine : bq_X7_addLine.all (ab_ck ab_hd ab_xs ab_tr bx_X7_addLine ec_no bi_X7_addLine (some .int) 5 41) = true := by decide +kernel
theorem bm_X7_addLine (l : Launch) : ex_Met l yX7_addLine cX7_addLine 5 (some .int) 0 0 (ab_sp ab_hd bc_X7_addLine) := ab_met (by decide) (by decide) rfl (bj_X7_addLine l) bd_X7_addLine ab_hcm ab_xk bz_X7_addLine
theorem bw_X8_becomeLike : ec_cw yX8_becomeLike cX8_becomeLike 2 none := ⟨ec_in (i := 867) (by decide +kernel) rfl, ec_in (i := 60) (by decide +kernel) rfl, by decide, by decide⟩
theorem bv_X8_becomeLike : Cond.instanceMethod yX8_becomeLike ∈ ec_tb ∧ Cond.selects yX8_becomeLike.cls yX8_becomeLike yX8_becomeLike ∈ ec_tb := ⟨ec_in (i := 865) (by decide +kernel) rfl, ec_in (i := 866) (by decide +kernel) rfl⟩
def be_X8_becomeLike : Nat → Option (Nat × Option Nat × List ab_C) := fun ix => match ix with
  | 50 => some (2, some 0, bc_X0_becomeLike)
  | 54 => some (2, some 3, bc_X3_becomeLike)
  | 57 => some (2, some 6, bc_X6_becomeLike)
  | 60 => some (2, some 1, bc_X1_becomeLike)
  | 63 => some (2, some 2, bc_X2_becomeLike)
  | _ => none
theorem bk_X8_becomeLike (l : Launch) : ∀ (ix n : Nat) (rc : Option Nat) (sp : ex_S), (be_X8_becomeLike ix).map (fun q => (q.1, q.2.1, ab_sp ab_hd q.2.2)) = some (n, rc, sp) → ex_cok l RX8 3 68 ix n rc sp := by
  intro ix n rc sp h
  obtain ⟨l0, h2, rfl⟩ := ab_dmk h
  clear h
  unfold be_X8_becomeLike at h2
  split at h2
  · cases h2; exact ec_cV (bm_X0_becomeLike l) bw_X0_becomeLike bv_X0_becomeLike (by decide) (by decide) (Or.inl (ec_in (i := 868) (by decide +kernel) rfl)) (T := TX0) (N := 8) rfl (by decide) (by decide +kernel)
  · cases h2; exact ec_cV (bm_X3_becomeLike l) bw_X3_becomeLike bv_X3_becomeLike (by decide) (by decide) (Or.inl (ec_in (i := 882) (by decide +kernel) rfl)) (T := TX3) (N := 7) rfl (by decide) (by decide +kernel)
  · cases h2; exact ec_cV (bm_X6_becomeLike l) bw_X6_becomeLike bv_X6_becomeLike (by decide) (by decide) (Or.inl (ec_in (i := 887) (by decide +kernel) rfl)) (T := TX6) (N := 15) rfl (by decide) (by decide +kernel)
  · cases h2; exact ec_cV (bm_X1_becomeLike l) bw_X1_becomeLike bv_X1_becomeLike (by decide) (by decide) (Or.inl (ec_in (i := 893) (by decide +kernel) rfl)) (T := TX1) (N := 6) rfl (by decide) (by decide +kernel)
  · cases h2; exact ec_cV (bm_X2_becomeLike l) bw_X2_becomeLike bv_X2_becomeLike (by decide) (by decide) (Or.inl (ec_in (i := 897) (by decide +kernel) rfl)) (T := TX2) (N := 7) rfl (by decide) (by decide +kernel)
  · cases h2
def bx_X8_becomeLike : ex_K := (RX8, ec_fx fl_X8, ec_cx cl_X8, sl_X8, (fun ix => (be_X8_becomeLike ix).map (fun q => (q.1, q.2.1, ab_sp ab_hd q.2.2))), ec_nz, ec_no)
theorem bj_X8_becomeLike (l : Launch) : ex_ok l 3 68 bx_X8_becomeLike := ⟨ec_fok fo_X8, ec_cok co_X8, so_X8, bk_X8_becomeLike l, fun _ h => (by cases h), fun _ h => (by cases h), fun _ h => (by cases h), fun _ _ h => (by cases h)⟩
def bq_X8_becomeLike : List (ab_C × List ab_Q) := [(([.inl 35, .inl 6], [], [(35, some 6), (36, some 6), (36, some 7), (37, none), (38, none), (39, none), (40, none), (41, none), (42, none), (43, some 6), (44, none), (45, none), (46, none), (47, none), (48, none), (49, none), (50, some 11), (50, some 12), (50, some 13), (50, some 14), (51, none), (52, none), (53, none), (54, none), (55, none), (56, none), (57, none), (58, none), (59, none), (60, none), (61, none), (62, some 0), (62, some 1), (62, some 2), (62, some 3), (62, some 4), (62, some 5), (63, some 0), (63, some 1), (63, some 2), (63, some 3), (63, some 4), (63, some 5), (63, some 6)], [(none, [], [])]), [])]
def bc_X8_becomeLike : List ab_C := bq_X8_becomeLike.map (fun c => c.1)
def bi_X8_becomeLike : List (Nat × Instr × Nat) := [(0, .aload_n 0, 1), (1, .getfield 12, 3), (4, .aload_n 1, 1), (5, .getfield 12, 3), (8, .invokevirtual 50, 3), (11, .aload_n 0, 1), (12, .getfield 21, 3), (15, .aload_n 1, 1), (16, .getfield 21, 3), (19, .invokevirtual 54, 3), (22, .aload_n 0, 1), (23, .getfield 28, 3), (26, .aload_n 1, 1), (27, .getfield 28, 3), (30, .invokevirtual 57, 3), (33, .aload_n 0, 1), (34, .getfield 35, 3), (37, .aload_n 1, 1), (38, .getfield 35, 3), (41, .invokevirtual 60, 3), (44, .aload_n 0, 1), (45, .getfield 42, 3), (48, .aload_n 1, 1), (49, .getfield 42, 3), (52, .invokevirtual 63, 3), (55, .aload_n 0, 1), (56, .aload_n 1, 1), (57, .getfield 66, 3), (60, .putfield 66, 3), (63, .return_, 1)]
theorem bd_X8_becomeLike : ∀ q ∈ bi_X8_becomeLike, decode cX8_becomeLike q.1 = .ok q.2 := by decide +kernel
theorem bz_X8_becomeLike : bq_X8_becomeLike.all (ab_ck ab_hd ab_xs ab_tr bx_X8_becomeLike be_X8_becomeLike bi_X8_becomeLike none 2 32) = true := by decide +kernel
theorem bm_X8_becomeLike (l : Launch) : ex_Met l yX8_becomeLike cX8_becomeLike 2 none 3 68 (ab_sp ab_hd bc_X8_becomeLike) := ab_met (by decide) (by decide) rfl (bj_X8_becomeLike l) bd_X8_becomeLike ab_hcm ab_xk bz_X8_becomeLike
theorem bw_X8_isCheck : ec_cw yX8_isCheck cX8_isCheck 4 (some .boolean) := ⟨ec_in (i := 725) (by decide +kernel) rfl, ec_in (i := 60) (by decide +kernel) rfl, by decide, by decide⟩
theorem bv_X8_isCheck : Cond.instanceMethod yX8_isCheck ∈ ec_tb ∧ Cond.selects yX8_isCheck.cls yX8_isCheck yX8_isCheck ∈ ec_tb := ⟨ec_in (i := 724) (by decide +kernel) rfl, ec_in (i := 8) (by decide +kernel) rfl⟩
def be_X8_isCheck : Nat → Option (Nat × Option Nat × List ab_C) := fun ix => match ix with
  | 116 => some (2, some 6, bc_X6_has)
  | 208 => some (1, none, bc_X0_isSort)
  | 100 => some (2, some 0, bc_X0_hasModule)
  | _ => none
theorem bk_X8_isCheck (l : Launch) : ∀ (ix n : Nat) (rc : Option Nat) (sp : ex_S), (be_X8_isCheck ix).map (fun q => (q.1, q.2.1, ab_sp ab_hd q.2.2)) = some (n, rc, sp) → ex_cok l RX8 1 21 ix n rc sp := by
  intro ix n rc sp h
  obtain ⟨l0, h2, rfl⟩ := ab_dmk h
  clear h
  unfold be_X8_isCheck at h2
  split at h2
  · cases h2; exact ec_cV (bm_X6_has l) bw_X6_has bv_X6_has (by decide) (by decide) (Or.inl (ec_in (i := 621) (by decide +kernel) rfl)) (T := TX6) (N := 15) rfl (by decide) (by decide +kernel)
  · cases h2; exact ec_cS (bm_X0_isSort l) bw_X0_isSort bv_X0_isSort (by decide) (by decide) (Or.inl (ec_in (i := 726) (by decide +kernel) rfl)) (by decide +kernel)
  · cases h2; exact ec_cV (bm_X0_hasModule l) bw_X0_hasModule bv_X0_hasModule (by decide) (by decide) (Or.inl (ec_in (i := 521) (by decide +kernel) rfl)) (T := TX0) (N := 8) rfl (by decide) (by decide +kernel)
  · cases h2
def bx_X8_isCheck : ex_K := (RX8, ec_fx fl_X8, ec_cx cl_X8, sl_X8, (fun ix => (be_X8_isCheck ix).map (fun q => (q.1, q.2.1, ab_sp ab_hd q.2.2))), ec_nz, ec_no)
theorem bj_X8_isCheck (l : Launch) : ex_ok l 1 21 bx_X8_isCheck := ⟨ec_fok fo_X8, ec_cok co_X8, so_X8, bk_X8_isCheck l, fun _ h => (by cases h), fun _ h => (by cases h), fun _ h => (by cases h), fun _ _ h => (by cases h)⟩
def bq_X8_isCheck : List (ab_C × List ab_Q) := [(([.inl 6, .inr ((-2147483648), 2147483647), .inr ((-9), 9), .inr ((-2147483648), 2147483647)], [], [], [(some (0, 0, none), [], []), (some (1, 1, none), [((0, 1, 0), 5, 5, none), ((0, 2, 0), 0, 3, none)], []), (some (1, 1, none), [((0, 1, 0), 6, 6, none)], []), (some (1, 1, none), [((0, 1, 0), 7, 7, none), ((0, 2, 0), 0, 9, none)], []), (some (1, 1, none), [((0, 1, 0), 0, 4, none), ((0, 2, 0), 0, 5, none)], [])]), []),
  (([.inl 35, .inr ((-2147483648), 2147483647), .inr ((-9), 9), .inr ((-2147483648), 2147483647)], [], [], [(some (0, 0, none), [], []), (some (1, 1, none), [((0, 1, 0), 5, 5, none), ((0, 2, 0), 0, 3, none)], []), (some (1, 1, none), [((0, 1, 0), 6, 6, none)], []), (some (1, 1, none), [((0, 1, 0), 7, 7, none), ((0, 2, 0), 0, 9, none)], []), (some (1, 1, none), [((0, 1, 0), 0, 4, none), ((0, 2, 0), 0, 5, none)], [])]), [])]
def bc_X8_isCheck : List ab_C := bq_X8_isCheck.map (fun c => c.1)
def bi_X8_isCheck : List (Nat × Instr × Nat) := [(0, .iload_n 1, 1), (1, .tableswitch 65 5 7 #[27, 42, 44], 27), (28, .iload_n 2, 1), (29, .ifCond .lt 12, 3), (32, .iload_n 2, 1), (33, .iconst 4, 1), (34, .if_icmp .ge 7, 3), (37, .iconst 1, 1), (38, .goto 4, 3), (41, .iconst 0, 1), (42, .ireturn, 1), (43, .iconst 1, 1), (44, .ireturn, 1), (45, .iload_n 3, 1), (46, .ifCond .ne 18, 3), (49, .aload_n 0, 1), (50, .getfield 28, 3), (53, .iload_n 2, 1), (54, .invokevirtual 116, 3), (57, .ifCond .eq 7, 3), (60, .iconst 1, 1), (61, .goto 4, 3), (64, .iconst 0, 1), (65, .ireturn, 1), (66, .iload_n 1, 1), (67, .invokestatic 208, 3), (70, .ifCond .eq 18, 3), (73, .aload_n 0, 1), (74, .getfield 12, 3), (77, .iload_n 2, 1), (78, .invokevirtual 100, 3), (81, .ifCond .eq 7, 3), (84, .iconst 1, 1), (85, .goto 4, 3), (88, .iconst 0, 1), (89, .ireturn, 1)]
theorem bd_X8_isCheck : ∀ q ∈ bi_X8_isCheck, decode cX8_isCheck q.1 = .ok q.2 := by decide +kernel
theorem bz_X8_isCheck : bq_X8_isCheck.all (ab_ck ab_hd ab_xs ab_tr bx_X8_isCheck be_X8_isCheck bi_X8_isCheck (some .boolean) 4 15) = true := by decide +kernel
theorem bm_X8_isCheck (l : Launch) : ex_Met l yX8_isCheck cX8_isCheck 4 (some .boolean) 1 21 (ab_sp ab_hd bc_X8_isCheck) := ab_met (by decide) (by decide) rfl (bj_X8_isCheck l) bd_X8_isCheck ab_hcm ab_xk bz_X8_isCheck
theorem bw_X8_holds : ec_cw yX8_holds cX8_holds 4 (some .boolean) := ⟨ec_in (i := 730) (by decide +kernel) rfl, ec_in (i := 60) (by decide +kernel) rfl, by decide, by decide⟩
theorem bv_X8_holds : Cond.instanceMethod yX8_holds ∈ ec_tb ∧ Cond.selects yX8_holds.cls yX8_holds yX8_holds ∈ ec_tb := ⟨ec_in (i := 729) (by decide +kernel) rfl, ec_in (i := 9) (by decide +kernel) rfl⟩
def be_X8_holds : Nat → Option (Nat × Option Nat × List ab_C) := fun ix => match ix with
  | 217 => some (3, some 0, bc_X0_amount)
  | _ => none
theorem bk_X8_holds (l : Launch) : ∀ (ix n : Nat) (rc : Option Nat) (sp : ex_S), (be_X8_holds ix).map (fun q => (q.1, q.2.1, ab_sp ab_hd q.2.2)) = some (n, rc, sp) → ex_cok l RX8 1 22 ix n rc sp := by
  intro ix n rc sp h
  obtain ⟨l0, h2, rfl⟩ := ab_dmk h
  clear h
  unfold be_X8_holds at h2
  split at h2
  · cases h2; exact ec_cV (bm_X0_amount l) bw_X0_amount bv_X0_amount (by decide) (by decide) (Or.inl (ec_in (i := 731) (by decide +kernel) rfl)) (T := TX0) (N := 8) rfl (by decide) (by decide +kernel)
  · cases h2
def bx_X8_holds : ex_K := (RX8, ec_fx fl_X8, ec_cx cl_X8, sl_X8, (fun ix => (be_X8_holds ix).map (fun q => (q.1, q.2.1, ab_sp ab_hd q.2.2))), ec_nz, ec_no)
theorem bj_X8_holds (l : Launch) : ex_ok l 1 22 bx_X8_holds := ⟨ec_fok fo_X8, ec_cok co_X8, so_X8, bk_X8_holds l, fun _ h => (by cases h), fun _ h => (by cases h), fun _ h => (by cases h), fun _ _ h => (by cases h)⟩
def bq_X8_holds : List (ab_C × List ab_Q) := [(([.inl 6, .inr (0, 4), .inr (0, 5), .inr ((-2147483648), 2147483647)], [], [], [(some (0, 0, none), [((0, 3, 0), (-2147483647), 2147483647, none)], []), (some (1, 1, none), [], [])]), []),
  (([.inl 6, .inr (7, 7), .inr (0, 9), .inr ((-2147483648), 2147483647)], [], [], [(some (0, 0, none), [], []), (some (1, 1, none), [], [])]), []),
  (([.inl 6, .inr (6, 6), .inr ((-2147483648), 2147483647), .inr ((-2147483648), 2147483647)], [], [], [(some (0, 0, none), [((0, 3, 0), (-2147483647), 2147483647, none)], []), (some (1, 1, none), [], [])]), []),
  (([.inl 6, .inr (5, 5), .inr (0, 3), .inr ((-2147483648), 2147483647)], [], [], [(some (0, 0, none), [((0, 3, 0), (-2147483647), 2147483647, none)], []), (some (1, 1, none), [], [])]), []),
  (([.inl 35, .inr (0, 4), .inr (0, 5), .inr ((-2147483648), 2147483647)], [], [], [(some (0, 0, none), [((0, 3, 0), (-2147483647), 2147483647, none)], []), (some (1, 1, none), [], [])]), []),
  (([.inl 35, .inr (7, 7), .inr (0, 9), .inr ((-2147483648), 2147483647)], [], [], [(some (0, 0, none), [], []), (some (1, 1, none), [], [])]), []),
  (([.inl 35, .inr (6, 6), .inr ((-2147483648), 2147483647), .inr ((-2147483648), 2147483647)], [], [], [(some (0, 0, none), [((0, 3, 0), (-2147483647), 2147483647, none)], []), (some (1, 1, none), [], [])]), []),
  (([.inl 35, .inr (5, 5), .inr (0, 3), .inr ((-2147483648), 2147483647)], [], [], [(some (0, 0, none), [((0, 3, 0), (-2147483647), 2147483647, none)], []), (some (1, 1, none), [], [])]), [])]
def bc_X8_holds : List ab_C := bq_X8_holds.map (fun c => c.1)
def bi_X8_holds : List (Nat × Instr × Nat) := [(0, .iload_n 1, 1), (1, .tableswitch 81 5 7 #[27, 46, 63], 27), (28, .aload_n 0, 1), (29, .getfield 12, 3), (32, .getfield 211, 3), (35, .iload_n 2, 1), (36, .iaload, 1), (37, .iload_n 3, 1), (38, .if_icmp .lt 7, 3), (41, .iconst 1, 1), (42, .goto 4, 3), (45, .iconst 0, 1), (46, .ireturn, 1), (47, .aload_n 0, 1), (48, .getfield 28, 3), (51, .getfield 214, 3), (54, .iload_n 3, 1), (55, .if_icmp .lt 7, 3), (58, .iconst 1, 1), (59, .goto 4, 3), (62, .iconst 0, 1), (63, .ireturn, 1), (64, .aload_n 0, 1), (65, .getfield 28, 3), (68, .getfield 117, 3), (71, .iload_n 2, 1), (72, .baload, 1), (73, .ifCond .ne 7, 3), (76, .iconst 1, 1), (77, .goto 4, 3), (80, .iconst 0, 1), (81, .ireturn, 1), (82, .aload_n 0, 1), (83, .getfield 12, 3), (86, .iload_n 2, 1), (87, .iload_n 1, 1), (88, .invokevirtual 217, 3), (91, .iload_n 3, 1), (92, .if_icmp .lt 7, 3), (95, .iconst 1, 1), (96, .goto 4, 3), (99, .iconst 0, 1), (100, .ireturn, 1)]
theorem bd_X8_holds : ∀ q ∈ bi_X8_holds, decode cX8_holds q.1 = .ok q.2 := by decide +kernel
theorem bz_X8_holds : bq_X8_holds.all (ab_ck ab_hd ab_xs ab_tr bx_X8_holds be_X8_holds bi_X8_holds (some .boolean) 4 14) = true := by decide +kernel
theorem bm_X8_holds (l : Launch) : ex_Met l yX8_holds cX8_holds 4 (some .boolean) 1 22 (ab_sp ab_hd bc_X8_holds) := ab_met (by decide) (by decide) rfl (bj_X8_holds l) bd_X8_holds ab_hcm ab_xk bz_X8_holds
theorem bw_X8_lineAfterCheck : ec_cw yX8_lineAfterCheck cX8_lineAfterCheck 6 (some .int) := ⟨ec_in (i := 721) (by decide +kernel) rfl, ec_in (i := 60) (by decide +kernel) rfl, by decide, by decide⟩
theorem bv_X8_lineAfterCheck : Cond.instanceMethod yX8_lineAfterCheck ∈ ec_tb ∧ Cond.selects yX8_lineAfterCheck.cls yX8_lineAfterCheck yX8_lineAfterCheck ∈ ec_tb := ⟨ec_in (i := 720) (by decide +kernel) rfl, ec_in (i := 7) (by decide +kernel) rfl⟩
def be_X8_lineAfterCheck : Nat → Option (Nat × Option Nat × List ab_C) := fun ix => match ix with
  | 149 => some (2, some 7, bc_X7_has)
  | 201 => some (4, some 8, bc_X8_isCheck)
  | 205 => some (4, some 8, bc_X8_holds)
  | _ => none
theorem bk_X8_lineAfterCheck (l : Launch) : ∀ (ix n : Nat) (rc : Option Nat) (sp : ex_S), (be_X8_lineAfterCheck ix).map (fun q => (q.1, q.2.1, ab_sp ab_hd q.2.2)) = some (n, rc, sp) → ex_cok l RX8 2 45 ix n rc sp := by
  intro ix n rc sp h
  obtain ⟨l0, h2, rfl⟩ := ab_dmk h
  clear h
  unfold be_X8_lineAfterCheck at h2
  split at h2
  · cases h2; exact ec_cV (bm_X7_has l) bw_X7_has bv_X7_has (by decide) (by decide) (Or.inl (ec_in (i := 706) (by decide +kernel) rfl)) (T := TX7) (N := 5) rfl (by decide) (by decide +kernel)
  · cases h2; exact ec_cV (bm_X8_isCheck l) bw_X8_isCheck bv_X8_isCheck (by decide) (by decide) (Or.inl (ec_in (i := 722) (by decide +kernel) rfl)) (T := TX8) (N := 7) rfl (by decide) (by decide +kernel)
  · cases h2; exact ec_cV (bm_X8_holds l) bw_X8_holds bv_X8_holds (by decide) (by decide) (Or.inl (ec_in (i := 727) (by decide +kernel) rfl)) (T := TX8) (N := 7) rfl (by decide) (by decide +kernel)
  · cases h2
def bx_X8_lineAfterCheck : ex_K := (RX8, ec_fx fl_X8, ec_cx cl_X8, sl_X8, (fun ix => (be_X8_lineAfterCheck ix).map (fun q => (q.1, q.2.1, ab_sp ab_hd q.2.2))), ec_nz, ec_no)
theorem bj_X8_lineAfterCheck (l : Launch) : ex_ok l 2 45 bx_X8_lineAfterCheck := ⟨ec_fok fo_X8, ec_cok co_X8, so_X8, bk_X8_lineAfterCheck l, fun _ h => (by cases h), fun _ h => (by cases h), fun _ h => (by cases h), fun _ _ h => (by cases h)⟩
def bq_X8_lineAfterCheck : List (ab_C × List ab_Q) := [(([.inl 6, .inr (0, 39)], [], [], [(some ((-2147483648), 2147483647, none), [], [])]), []),
  (([.inl 35, .inr (0, 39)], [], [], [(some ((-2147483648), 2147483647, none), [], [])]), [])]
def bc_X8_lineAfterCheck : List ab_C := bq_X8_lineAfterCheck.map (fun c => c.1)
def bi_X8_lineAfterCheck : List (Nat × Instr × Nat) := [(0, .aload_n 0, 1), (1, .getfield 46, 3), (4, .getfield 168, 3), (7, .iload_n 1, 1), (8, .iaload, 1), (9, .istore_n 2, 1), (10, .aload_n 0, 1), (11, .getfield 46, 3), (14, .getfield 181, 3), (17, .iload_n 1, 1), (18, .iaload, 1), (19, .bipush 10, 2), (21, .irem, 1), (22, .istore_n 3, 1), (23, .aload_n 0, 1), (24, .getfield 46, 3), (27, .getfield 181, 3), (30, .iload_n 1, 1), (31, .iaload, 1), (32, .bipush 10, 2), (34, .idiv, 1), (35, .istore 4, 2), (37, .aload_n 0, 1), (38, .getfield 46, 3), (41, .getfield 194, 3), (44, .iload_n 1, 1), (45, .iaload, 1), (46, .istore 5, 2), (48, .aload_n 0, 1), (49, .getfield 46, 3), (52, .iload 5, 2), (54, .invokevirtual 149, 3), (57, .ifCond .eq 14, 3), (60, .aload_n 0, 1), (61, .iload_n 2, 1), (62, .iload_n 3, 1), (63, .iload 4, 2), (65, .invokevirtual 201, 3), (68, .ifCond .ne 5, 3), (71, .iconst (-1), 1), (72, .ireturn, 1), (73, .aload_n 0, 1), (74, .iload_n 2, 1), (75, .iload_n 3, 1), (76, .iload 4, 2), (78, .invokevirtual 205, 3), (81, .ifCond .eq 9, 3), (84, .iload_n 1, 1), (85, .iconst 1, 1), (86, .iadd, 1), (87, .goto 5, 3), (90, .iload 5, 2), (92, .ireturn, 1)]
theorem bd_X8_lineAfterCheck : ∀ q ∈ bi_X8_lineAfterCheck, decode cX8_lineAfterCheck q.1 = .ok q.2 := by decide +kernel
theorem bz_X8_lineAfterCheck : bq_X8_lineAfterCheck.all (ab_ck ab_hd ab_xs ab_tr bx_X8_lineAfterCheck be_X8_lineAfterCheck bi_X8_lineAfterCheck (some .int) 6 52) = true := by decide +kernel
theorem bm_X8_lineAfterCheck (l : Launch) : ex_Met l yX8_lineAfterCheck cX8_lineAfterCheck 6 (some .int) 2 45 (ab_sp ab_hd bc_X8_lineAfterCheck) := ab_met (by decide) (by decide) rfl (bj_X8_lineAfterCheck l) bd_X8_lineAfterCheck ab_hcm ab_xk bz_X8_lineAfterCheck
theorem bw_X8_walk : ec_cw yX8_walk cX8_walk 3 (some .int) := ⟨ec_in (i := 516) (by decide +kernel) rfl, ec_in (i := 60) (by decide +kernel) rfl, by decide, by decide⟩
theorem bv_X8_walk : Cond.instanceMethod yX8_walk ∈ ec_tb ∧ Cond.selects yX8_walk.cls yX8_walk yX8_walk ∈ ec_tb := ⟨ec_in (i := 514) (by decide +kernel) rfl, ec_in (i := 515) (by decide +kernel) rfl⟩
def be_X8_walk : Nat → Option (Nat × Option Nat × List ab_C) := fun ix => match ix with
  | 96 => some (2, some 3, bc_X3_has)
  | 100 => some (2, some 0, bc_X0_hasModule)
  | 104 => some (2, some 3, bc_X3_mends)
  | 111 => some (3, some 0, bc_X0_openBetween)
  | _ => none
theorem bk_X8_walk (l : Launch) : ∀ (ix n : Nat) (rc : Option Nat) (sp : ex_S), (be_X8_walk ix).map (fun q => (q.1, q.2.1, ab_sp ab_hd q.2.2)) = some (n, rc, sp) → ex_cok l RX8 1 24 ix n rc sp := by
  intro ix n rc sp h
  obtain ⟨l0, h2, rfl⟩ := ab_dmk h
  clear h
  unfold be_X8_walk at h2
  split at h2
  · cases h2; exact ec_cV (bm_X3_has l) bw_X3_has bv_X3_has (by decide) (by decide) (Or.inl (ec_in (i := 517) (by decide +kernel) rfl)) (T := TX3) (N := 7) rfl (by decide) (by decide +kernel)
  · cases h2; exact ec_cV (bm_X0_hasModule l) bw_X0_hasModule bv_X0_hasModule (by decide) (by decide) (Or.inl (ec_in (i := 521) (by decide +kernel) rfl)) (T := TX0) (N := 8) rfl (by decide) (by decide +kernel)
  · cases h2; exact ec_cV (bm_X3_mends l) bw_X3_mends bv_X3_mends (by decide) (by decide) (Or.inl (ec_in (i := 523) (by decide +kernel) rfl)) (T := TX3) (N := 7) rfl (by decide) (by decide +kernel)
  · cases h2; exact ec_cV (bm_X0_openBetween l) bw_X0_openBetween bv_X0_openBetween (by decide) (by decide) (Or.inl (ec_in (i := 527) (by decide +kernel) rfl)) (T := TX0) (N := 8) rfl (by decide) (by decide +kernel)
  · cases h2
def bx_X8_walk : ex_K := (RX8, ec_fx fl_X8, ec_cx cl_X8, sl_X8, (fun ix => (be_X8_walk ix).map (fun q => (q.1, q.2.1, ab_sp ab_hd q.2.2))), ec_nz, ec_no)
theorem bj_X8_walk (l : Launch) : ex_ok l 1 24 bx_X8_walk := ⟨ec_fok fo_X8, ec_cok co_X8, so_X8, bk_X8_walk l, fun _ h => (by cases h), fun _ h => (by cases h), fun _ h => (by cases h), fun _ _ h => (by cases h)⟩
def bq_X8_walk : List (ab_C × List ab_Q) := [(([.inl 6, .inr ((-2147483648), 2147483647), .inr ((-2147483648), 2147483647)], [], [(15, none)], [(some ((-2147483648), 2147483647, none), [], [])]), []),
  (([.inl 35, .inr ((-2147483648), 2147483647), .inr ((-2147483648), 2147483647)], [], [(44, none)], [(some ((-2147483648), 2147483647, none), [], [])]), [])]
def bc_X8_walk : List ab_C := bq_X8_walk.map (fun c => c.1)
def bi_X8_walk : List (Nat × Instr × Nat) := [(0, .aload_n 0, 1), (1, .getfield 21, 3), (4, .iload_n 1, 1), (5, .invokevirtual 96, 3), (8, .ifCond .eq 14, 3), (11, .aload_n 0, 1), (12, .getfield 12, 3), (15, .iload_n 2, 1), (16, .invokevirtual 100, 3), (19, .ifCond .ne 6, 3), (22, .ldc 103, 2), (24, .ireturn, 1), (25, .aload_n 0, 1), (26, .getfield 21, 3), (29, .iload_n 1, 1), (30, .invokevirtual 104, 3), (33, .ifCond .ne 36, 3), (36, .aload_n 0, 1), (37, .getfield 21, 3), (40, .getfield 107, 3), (43, .iload_n 1, 1), (44, .iaload, 1), (45, .iload_n 2, 1), (46, .if_icmp .eq 23, 3), (49, .aload_n 0, 1), (50, .getfield 12, 3), (53, .aload_n 0, 1), (54, .getfield 21, 3), (57, .getfield 107, 3), (60, .iload_n 1, 1), (61, .iaload, 1), (62, .iload_n 2, 1), (63, .invokevirtual 111, 3), (66, .ifCond .ne 6, 3), (69, .ldc 115, 2), (71, .ireturn, 1), (72, .aload_n 0, 1), (73, .getfield 21, 3), (76, .getfield 107, 3), (79, .iload_n 1, 1), (80, .iload_n 2, 1), (81, .iastore, 1), (82, .iconst 1, 1), (83, .ireturn, 1)]
theorem bd_X8_walk : ∀ q ∈ bi_X8_walk, decode cX8_walk q.1 = .ok q.2 := by decide +kernel
theorem bz_X8_walk : bq_X8_walk.all (ab_ck ab_hd ab_xs ab_tr bx_X8_walk be_X8_walk bi_X8_walk (some .int) 3 42) = true := by decide +kernel
theorem bm_X8_walk (l : Launch) : ex_Met l yX8_walk cX8_walk 3 (some .int) 1 24 (ab_sp ab_hd bc_X8_walk) := ab_met (by decide) (by decide) rfl (bj_X8_walk l) bd_X8_walk ab_hcm ab_xk bz_X8_walk
theorem bw_X8_mend : ec_cw yX8_mend cX8_mend 5 (some .int) := ⟨ec_in (i := 620) (by decide +kernel) rfl, ec_in (i := 60) (by decide +kernel) rfl, by decide, by decide⟩
theorem bv_X8_mend : Cond.instanceMethod yX8_mend ∈ ec_tb ∧ Cond.selects yX8_mend.cls yX8_mend yX8_mend ∈ ec_tb := ⟨ec_in (i := 618) (by decide +kernel) rfl, ec_in (i := 619) (by decide +kernel) rfl⟩
def be_X8_mend : Nat → Option (Nat × Option Nat × List ab_C) := fun ix => match ix with
  | 96 => some (2, some 3, bc_X3_has)
  | 116 => some (2, some 6, bc_X6_has)
  | 121 => some (2, some 3, bc_X3_isMended)
  | 104 => some (2, some 3, bc_X3_mends)
  | 132 => some (4, some 3, bc_X3_startMending)
  | _ => none
theorem bk_X8_mend (l : Launch) : ∀ (ix n : Nat) (rc : Option Nat) (sp : ex_S), (be_X8_mend ix).map (fun q => (q.1, q.2.1, ab_sp ab_hd q.2.2)) = some (n, rc, sp) → ex_cok l RX8 1 23 ix n rc sp := by
  intro ix n rc sp h
  obtain ⟨l0, h2, rfl⟩ := ab_dmk h
  clear h
  unfold be_X8_mend at h2
  split at h2
  · cases h2; exact ec_cV (bm_X3_has l) bw_X3_has bv_X3_has (by decide) (by decide) (Or.inl (ec_in (i := 517) (by decide +kernel) rfl)) (T := TX3) (N := 7) rfl (by decide) (by decide +kernel)
  · cases h2; exact ec_cV (bm_X6_has l) bw_X6_has bv_X6_has (by decide) (by decide) (Or.inl (ec_in (i := 621) (by decide +kernel) rfl)) (T := TX6) (N := 15) rfl (by decide) (by decide +kernel)
  · cases h2; exact ec_cV (bm_X3_isMended l) bw_X3_isMended bv_X3_isMended (by decide) (by decide) (Or.inl (ec_in (i := 622) (by decide +kernel) rfl)) (T := TX3) (N := 7) rfl (by decide) (by decide +kernel)
  · cases h2; exact ec_cV (bm_X3_mends l) bw_X3_mends bv_X3_mends (by decide) (by decide) (Or.inl (ec_in (i := 523) (by decide +kernel) rfl)) (T := TX3) (N := 7) rfl (by decide) (by decide +kernel)
  · cases h2; exact ec_cV (bm_X3_startMending l) bw_X3_startMending bv_X3_startMending (by decide) (by decide) (Or.inl (ec_in (i := 627) (by decide +kernel) rfl)) (T := TX3) (N := 7) rfl (by decide) (by decide +kernel)
  · cases h2
def bx_X8_mend : ex_K := (RX8, ec_fx fl_X8, ec_cx cl_X8, sl_X8, (fun ix => (be_X8_mend ix).map (fun q => (q.1, q.2.1, ab_sp ab_hd q.2.2))), ec_nz, ec_no)
theorem bj_X8_mend (l : Launch) : ex_ok l 1 23 bx_X8_mend := ⟨ec_fok fo_X8, ec_cok co_X8, so_X8, bk_X8_mend l, fun _ h => (by cases h), fun _ h => (by cases h), fun _ h => (by cases h), fun _ _ h => (by cases h)⟩
def bq_X8_mend : List (ab_C × List ab_Q) := [(([.inl 6, .inr ((-2147483648), 2147483647), .inr ((-2147483648), 2147483647), .inr ((-2147483648), 2147483647)], [], [(16, none), (17, none), (18, none), (32, none)], [(some ((-2147483648), 2147483647, none), [], [])]), []),
  (([.inl 35, .inr ((-2147483648), 2147483647), .inr ((-2147483648), 2147483647), .inr ((-2147483648), 2147483647)], [], [(45, none), (46, none), (47, none), (61, none)], [(some ((-2147483648), 2147483647, none), [], [])]), [])]
def bc_X8_mend : List ab_C := bq_X8_mend.map (fun c => c.1)
def bi_X8_mend : List (Nat × Instr × Nat) := [(0, .aload_n 0, 1), (1, .getfield 21, 3), (4, .iload_n 1, 1), (5, .invokevirtual 96, 3), (8, .ifCond .eq 25, 3), (11, .aload_n 0, 1), (12, .getfield 28, 3), (15, .iload_n 2, 1), (16, .invokevirtual 116, 3), (19, .ifCond .eq 14, 3), (22, .iload_n 3, 1), (23, .iconst 1, 1), (24, .if_icmp .lt 9, 3), (27, .iload_n 3, 1), (28, .bipush 60, 2), (30, .if_icmp .le 6, 3), (33, .ldc 103, 2), (35, .ireturn, 1), (36, .aload_n 0, 1), (37, .getfield 28, 3), (40, .getfield 117, 3), (43, .iload_n 2, 1), (44, .baload, 1), (45, .ifCond .eq 46, 3), (48, .aload_n 0, 1), (49, .getfield 21, 3), (52, .iload_n 2, 1), (53, .invokevirtual 121, 3), (56, .ifCond .ne 35, 3), (59, .aload_n 0, 1), (60, .getfield 21, 3), (63, .iload_n 1, 1), (64, .invokevirtual 104, 3), (67, .ifCond .ne 24, 3), (70, .aload_n 0, 1), (71, .getfield 21, 3), (74, .getfield 107, 3), (77, .iload_n 1, 1), (78, .iaload, 1), (79, .aload_n 0, 1), (80, .getfield 28, 3), (83, .getfield 124, 3), (86, .iload_n 2, 1), (87, .iaload, 1), (88, .if_icmp .eq 6, 3), (91, .ldc 115, 2), (93, .ireturn, 1), (94, .aload_n 0, 1), (95, .getfield 28, 3), (98, .getfield 125, 3), (101, .iload_n 2, 1), (102, .iaload, 1), (103, .istore 4, 2), (105, .aload_n 0, 1), (106, .getfield 28, 3), (109, .getfield 128, 3), (112, .iload 4, 2), (114, .iaload, 1), (115, .iconst 1, 1), (116, .if_icmp .ge 6, 3), (119, .ldc 131, 2), (121, .ireturn, 1), (122, .aload_n 0, 1), (123, .getfield 28, 3), (126, .getfield 128, 3), (129, .iload 4, 2), (131, .dup2, 1), (132, .iaload, 1), (133, .iconst 1, 1), (134, .isub, 1), (135, .iastore, 1), (136, .aload_n 0, 1), (137, .getfield 21, 3), (140, .iload_n 1, 1), (141, .iload_n 2, 1), (142, .iload_n 3, 1), (143, .invokevirtual 132, 3), (146, .aload_n 0, 1), (147, .getfield 28, 3), (150, .getfield 128, 3), (153, .iload 4, 2), (155, .iaload, 1), (156, .ireturn, 1)]
theorem bd_X8_mend : ∀ q ∈ bi_X8_mend, decode cX8_mend q.1 = .ok q.2 := by decide +kernel
theorem bz_X8_mend : bq_X8_mend.all (ab_ck ab_hd ab_xs ab_tr bx_X8_mend be_X8_mend bi_X8_mend (some .int) 5 79) = true := by decide +kernel
theorem bm_X8_mend (l : Launch) : ex_Met l yX8_mend cX8_mend 5 (some .int) 1 23 (ab_sp ab_hd bc_X8_mend) := ab_met (by decide) (by decide) rfl (bj_X8_mend l) bd_X8_mend ab_hcm ab_xk bz_X8_mend
theorem bw_X8_actByText : ec_cw yX8_actByText cX8_actByText 4 (some .int) := ⟨ec_in (i := 738) (by decide +kernel) rfl, ec_in (i := 60) (by decide +kernel) rfl, by decide, by decide⟩
theorem bv_X8_actByText : Cond.instanceMethod yX8_actByText ∈ ec_tb ∧ Cond.selects yX8_actByText.cls yX8_actByText yX8_actByText ∈ ec_tb := ⟨ec_in (i := 737) (by decide +kernel) rfl, ec_in (i := 10) (by decide +kernel) rfl⟩
def be_X8_actByText : Nat → Option (Nat × Option Nat × List ab_C) := fun ix => match ix with
  | 184 => some (3, some 6, bc_X6_setOn)
  | 188 => some (3, some 0, bc_X0_setOpen)
  | 191 => some (3, some 8, bc_X8_walk)
  | 197 => some (4, some 8, bc_X8_mend)
  | _ => none
theorem bk_X8_actByText (l : Launch) : ∀ (ix n : Nat) (rc : Option Nat) (sp : ex_S), (be_X8_actByText ix).map (fun q => (q.1, q.2.1, ab_sp ab_hd q.2.2)) = some (n, rc, sp) → ex_cok l RX8 2 47 ix n rc sp := by
  intro ix n rc sp h
  obtain ⟨l0, h2, rfl⟩ := ab_dmk h
  clear h
  unfold be_X8_actByText at h2
  split at h2
  · cases h2; exact ec_cV (bm_X6_setOn l) bw_X6_setOn bv_X6_setOn (by decide) (by decide) (Or.inl (ec_in (i := 739) (by decide +kernel) rfl)) (T := TX6) (N := 15) rfl (by decide) (by decide +kernel)
  · cases h2; exact ec_cV (bm_X0_setOpen l) bw_X0_setOpen bv_X0_setOpen (by decide) (by decide) (Or.inl (ec_in (i := 740) (by decide +kernel) rfl)) (T := TX0) (N := 8) rfl (by decide) (by decide +kernel)
  · cases h2; exact ec_cV (bm_X8_walk l) bw_X8_walk bv_X8_walk (by decide) (by decide) (Or.inl (ec_in (i := 741) (by decide +kernel) rfl)) (T := TX8) (N := 7) rfl (by decide) (by decide +kernel)
  · cases h2; exact ec_cV (bm_X8_mend l) bw_X8_mend bv_X8_mend (by decide) (by decide) (Or.inl (ec_in (i := 742) (by decide +kernel) rfl)) (T := TX8) (N := 7) rfl (by decide) (by decide +kernel)
  · cases h2
def bx_X8_actByText : ex_K := (RX8, ec_fx fl_X8, ec_cx cl_X8, sl_X8, (fun ix => (be_X8_actByText ix).map (fun q => (q.1, q.2.1, ab_sp ab_hd q.2.2))), ec_nz, ec_no)
theorem bj_X8_actByText (l : Launch) : ex_ok l 2 47 bx_X8_actByText := ⟨ec_fok fo_X8, ec_cok co_X8, so_X8, bk_X8_actByText l, fun _ h => (by cases h), fun _ h => (by cases h), fun _ h => (by cases h), fun _ _ h => (by cases h)⟩
def bq_X8_actByText : List (ab_C × List ab_Q) := [(([.inl 6, .inr (0, 39)], [], [(12, none), (15, none), (16, none), (17, none), (18, none), (29, none), (32, none)], [(some ((-2147483648), 2147483647, none), [], [])]), []),
  (([.inl 35, .inr (0, 39)], [], [(41, none), (44, none), (45, none), (46, none), (47, none), (58, none), (61, none)], [(some ((-2147483648), 2147483647, none), [], [])]), [])]
def bc_X8_actByText : List ab_C := bq_X8_actByText.map (fun c => c.1)
def bi_X8_actByText : List (Nat × Instr × Nat) := [(0, .aload_n 0, 1), (1, .getfield 46, 3), (4, .getfield 168, 3), (7, .iload_n 1, 1), (8, .iaload, 1), (9, .istore_n 2, 1), (10, .aload_n 0, 1), (11, .getfield 46, 3), (14, .getfield 181, 3), (17, .iload_n 1, 1), (18, .iaload, 1), (19, .istore_n 3, 1), (20, .aload_n 0, 1), (21, .getfield 46, 3), (24, .getfield 155, 3), (27, .iload_n 1, 1), (28, .iaload, 1), (29, .tableswitch 118 2 11 #[55, 65, 75, 85, 118, 95, 118, 118, 118, 102], 55), (84, .aload_n 0, 1), (85, .getfield 28, 3), (88, .iload_n 2, 1), (89, .iconst 1, 1), (90, .invokevirtual 184, 3), (93, .ireturn, 1), (94, .aload_n 0, 1), (95, .getfield 28, 3), (98, .iload_n 2, 1), (99, .iconst 0, 1), (100, .invokevirtual 184, 3), (103, .ireturn, 1), (104, .aload_n 0, 1), (105, .getfield 12, 3), (108, .iload_n 2, 1), (109, .iconst 1, 1), (110, .invokevirtual 188, 3), (113, .ireturn, 1), (114, .aload_n 0, 1), (115, .getfield 12, 3), (118, .iload_n 2, 1), (119, .iconst 0, 1), (120, .invokevirtual 188, 3), (123, .ireturn, 1), (124, .aload_n 0, 1), (125, .iload_n 2, 1), (126, .iload_n 3, 1), (127, .invokevirtual 191, 3), (130, .ireturn, 1), (131, .aload_n 0, 1), (132, .iload_n 2, 1), (133, .iload_n 3, 1), (134, .aload_n 0, 1), (135, .getfield 46, 3), (138, .getfield 194, 3), (141, .iload_n 1, 1), (142, .iaload, 1), (143, .invokevirtual 197, 3), (146, .ireturn, 1), (147, .ldc 115, 2), (149, .ireturn, 1)]
theorem bd_X8_actByText : ∀ q ∈ bi_X8_actByText, decode cX8_actByText q.1 = .ok q.2 := by decide +kernel
theorem bz_X8_actByText : bq_X8_actByText.all (ab_ck ab_hd ab_xs ab_tr bx_X8_actByText be_X8_actByText bi_X8_actByText (some .int) 4 30) = true := by decide +kernel
theorem bm_X8_actByText (l : Launch) : ex_Met l yX8_actByText cX8_actByText 4 (some .int) 2 47 (ab_sp ab_hd bc_X8_actByText) := ab_met (by decide) (by decide) rfl (bj_X8_actByText l) bd_X8_actByText ab_hcm ab_xk bz_X8_actByText
theorem bw_X8_lineAfter : ec_cw yX8_lineAfter cX8_lineAfter 3 (some .int) := ⟨ec_in (i := 717) (by decide +kernel) rfl, ec_in (i := 60) (by decide +kernel) rfl, by decide, by decide⟩
theorem bv_X8_lineAfter : Cond.instanceMethod yX8_lineAfter ∈ ec_tb ∧ Cond.selects yX8_lineAfter.cls yX8_lineAfter yX8_lineAfter ∈ ec_tb := ⟨ec_in (i := 716) (by decide +kernel) rfl, ec_in (i := 6) (by decide +kernel) rfl⟩
def be_X8_lineAfter : Nat → Option (Nat × Option Nat × List ab_C) := fun ix => match ix with
  | 171 => some (2, some 8, bc_X8_lineAfterCheck)
  | 149 => some (2, some 7, bc_X7_has)
  | 177 => some (2, some 8, bc_X8_actByText)
  | _ => none
theorem bk_X8_lineAfter (l : Launch) : ∀ (ix n : Nat) (rc : Option Nat) (sp : ex_S), (be_X8_lineAfter ix).map (fun q => (q.1, q.2.1, ab_sp ab_hd q.2.2)) = some (n, rc, sp) → ex_cok l RX8 3 70 ix n rc sp := by
  intro ix n rc sp h
  obtain ⟨l0, h2, rfl⟩ := ab_dmk h
  clear h
  unfold be_X8_lineAfter at h2
  split at h2
  · cases h2; exact ec_cV (bm_X8_lineAfterCheck l) bw_X8_lineAfterCheck bv_X8_lineAfterCheck (by decide) (by decide) (Or.inl (ec_in (i := 718) (by decide +kernel) rfl)) (T := TX8) (N := 7) rfl (by decide) (by decide +kernel)
  · cases h2; exact ec_cV (bm_X7_has l) bw_X7_has bv_X7_has (by decide) (by decide) (Or.inl (ec_in (i := 706) (by decide +kernel) rfl)) (T := TX7) (N := 5) rfl (by decide) (by decide +kernel)
  · cases h2; exact ec_cV (bm_X8_actByText l) bw_X8_actByText bv_X8_actByText (by decide) (by decide) (Or.inl (ec_in (i := 735) (by decide +kernel) rfl)) (T := TX8) (N := 7) rfl (by decide) (by decide +kernel)
  · cases h2
def bx_X8_lineAfter : ex_K := (RX8, ec_fx fl_X8, ec_cx cl_X8, sl_X8, (fun ix => (be_X8_lineAfter ix).map (fun q => (q.1, q.2.1, ab_sp ab_hd q.2.2))), ec_nz, ec_no)
theorem bj_X8_lineAfter (l : Launch) : ex_ok l 3 70 bx_X8_lineAfter := ⟨ec_fok fo_X8, ec_cok co_X8, so_X8, bk_X8_lineAfter l, fun _ h => (by cases h), fun _ h => (by cases h), fun _ h => (by cases h), fun _ _ h => (by cases h)⟩
def bq_X8_lineAfter : List (ab_C × List ab_Q) := [(([.inl 6, .inr (0, 39)], [], [(12, none), (15, none), (16, none), (17, none), (18, none), (29, none), (32, none), (34, some 4), (34, some 5)], [(some ((-2147483648), 2147483647, none), [], [])]), []),
  (([.inl 35, .inr (0, 39)], [], [(41, none), (44, none), (45, none), (46, none), (47, none), (58, none), (61, none), (63, some 4), (63, some 5)], [(some ((-2147483648), 2147483647, none), [], [])]), [])]
def bc_X8_lineAfter : List ab_C := bq_X8_lineAfter.map (fun c => c.1)
def bi_X8_lineAfter : List (Nat × Instr × Nat) := [(0, .aload_n 0, 1), (1, .getfield 46, 3), (4, .getfield 168, 3), (7, .iload_n 1, 1), (8, .iaload, 1), (9, .istore_n 2, 1), (10, .aload_n 0, 1), (11, .getfield 46, 3), (14, .getfield 155, 3), (17, .iload_n 1, 1), (18, .iaload, 1), (19, .tableswitch 130 1 10 #[53, 130, 130, 130, 130, 103, 130, 78, 61, 59], 53), (72, .aload_n 0, 1), (73, .iload_n 1, 1), (74, .invokevirtual 171, 3), (77, .ireturn, 1), (78, .iconst (-1), 1), (79, .ireturn, 1), (80, .aload_n 0, 1), (81, .getfield 46, 3), (84, .iload_n 2, 1), (85, .invokevirtual 149, 3), (88, .ifCond .eq 7, 3), (91, .iload_n 2, 1), (92, .goto 4, 3), (95, .iconst (-1), 1), (96, .ireturn, 1), (97, .aload_n 0, 1), (98, .getfield 46, 3), (101, .iload_n 2, 1), (102, .invokevirtual 149, 3), (105, .ifCond .ne 5, 3), (108, .iconst (-1), 1), (109, .ireturn, 1), (110, .aload_n 0, 1), (111, .getfield 42, 3), (114, .iload_n 2, 1), (115, .putfield 174, 3), (118, .iload_n 1, 1), (119, .iconst 1, 1), (120, .iadd, 1), (121, .ireturn, 1), (122, .iload_n 2, 1), (123, .iconst 1, 1), (124, .if_icmp .lt 9, 3), (127, .iload_n 2, 1), (128, .bipush 100, 2), (130, .if_icmp .le 5, 3), (133, .iconst (-1), 1), (134, .ireturn, 1), (135, .aload_n 0, 1), (136, .getfield 42, 3), (139, .iload_n 2, 1), (140, .iconst 1, 1), (141, .isub, 1), (142, .putfield 143, 3), (145, .iload_n 1, 1), (146, .iconst 1, 1), (147, .iadd, 1), (148, .ireturn, 1), (149, .aload_n 0, 1), (150, .iload_n 1, 1), (151, .invokevirtual 177, 3), (154, .ldc 180, 2), (156, .if_icmp .ge 7, 3), (159, .iconst (-1), 1), (160, .goto 6, 3), (163, .iload_n 1, 1), (164, .iconst 1, 1), (165, .iadd, 1), (166, .ireturn, 1)]
theorem bd_X8_lineAfter : ∀ q ∈ bi_X8_lineAfter, decode cX8_lineAfter q.1 = .ok q.2 := by decide +kernel
theorem bz_X8_lineAfter : bq_X8_lineAfter.all (ab_ck ab_hd ab_xs ab_tr bx_X8_lineAfter be_X8_lineAfter bi_X8_lineAfter (some .int) 3 30) = true := by decide +kernel
theorem bm_X8_lineAfter (l : Launch) : ex_Met l yX8_lineAfter cX8_lineAfter 3 (some .int) 3 70 (ab_sp ab_hd bc_X8_lineAfter) := ab_met (by decide) (by decide) rfl (bj_X8_lineAfter l) bd_X8_lineAfter ab_hcm ab_xk bz_X8_lineAfter
theorem bw_X8_doText : ec_cw yX8_doText cX8_doText 2 none := ⟨ec_in (i := 705) (by decide +kernel) rfl, ec_in (i := 60) (by decide +kernel) rfl, by decide, by decide⟩
theorem bv_X8_doText : Cond.instanceMethod yX8_doText ∈ ec_tb ∧ Cond.selects yX8_doText.cls yX8_doText yX8_doText ∈ ec_tb := ⟨ec_in (i := 704) (by decide +kernel) rfl, ec_in (i := 5) (by decide +kernel) rfl⟩
def be_X8_doText : Nat → Option (Nat × Option Nat × List ab_C) := fun ix => match ix with
  | 149 => some (2, some 7, bc_X7_has)
  | 152 => some (2, some 2, bc_X2_finish)
  | 161 => some (2, some 8, bc_X8_lineAfter)
  | 165 => some (2, some 2, bc_X2_goOnAt)
  | _ => none
theorem bk_X8_doText (l : Launch) : ∀ (ix n : Nat) (rc : Option Nat) (sp : ex_S), (be_X8_doText ix).map (fun q => (q.1, q.2.1, ab_sp ab_hd q.2.2)) = some (n, rc, sp) → ex_cok l RX8 4 92 ix n rc sp := by
  intro ix n rc sp h
  obtain ⟨l0, h2, rfl⟩ := ab_dmk h
  clear h
  unfold be_X8_doText at h2
  split at h2
  · cases h2; exact ec_cV (bm_X7_has l) bw_X7_has bv_X7_has (by decide) (by decide) (Or.inl (ec_in (i := 706) (by decide +kernel) rfl)) (T := TX7) (N := 5) rfl (by decide) (by decide +kernel)
  · cases h2; exact ec_cV (bm_X2_finish l) bw_X2_finish bv_X2_finish (by decide) (by decide) (Or.inl (ec_in (i := 710) (by decide +kernel) rfl)) (T := TX2) (N := 7) rfl (by decide) (by decide +kernel)
  · cases h2; exact ec_cV (bm_X8_lineAfter l) bw_X8_lineAfter bv_X8_lineAfter (by decide) (by decide) (Or.inl (ec_in (i := 714) (by decide +kernel) rfl)) (T := TX8) (N := 7) rfl (by decide) (by decide +kernel)
  · cases h2; exact ec_cV (bm_X2_goOnAt l) bw_X2_goOnAt bv_X2_goOnAt (by decide) (by decide) (Or.inl (ec_in (i := 744) (by decide +kernel) rfl)) (T := TX2) (N := 7) rfl (by decide) (by decide +kernel)
  · cases h2
def bx_X8_doText : ex_K := (RX8, ec_fx fl_X8, ec_cx cl_X8, sl_X8, (fun ix => (be_X8_doText ix).map (fun q => (q.1, q.2.1, ab_sp ab_hd q.2.2))), ec_nz, ec_no)
theorem bj_X8_doText (l : Launch) : ex_ok l 4 92 bx_X8_doText := ⟨ec_fok fo_X8, ec_cok co_X8, so_X8, bk_X8_doText l, fun _ h => (by cases h), fun _ h => (by cases h), fun _ h => (by cases h), fun _ _ h => (by cases h)⟩
def bq_X8_doText : List (ab_C × List ab_Q) := [(([.inl 6], [], [(12, none), (15, none), (16, none), (17, none), (18, none), (29, none), (32, none), (34, some 0), (34, some 1), (34, some 2), (34, some 3), (34, some 4), (34, some 5), (34, some 6)], [(none, [], [])]), []),
  (([.inl 35], [], [(41, none), (44, none), (45, none), (46, none), (47, none), (58, none), (61, none), (63, some 0), (63, some 1), (63, some 2), (63, some 3), (63, some 4), (63, some 5), (63, some 6)], [(none, [], [])]), [])]
def bc_X8_doText : List ab_C := bq_X8_doText.map (fun c => c.1)
def bi_X8_doText : List (Nat × Instr × Nat) := [(0, .aload_n 0, 1), (1, .getfield 42, 3), (4, .getfield 136, 3), (7, .ifCond .eq 13, 3), (10, .aload_n 0, 1), (11, .getfield 42, 3), (14, .getfield 140, 3), (17, .ifCond .eq 4, 3), (20, .return_, 1), (21, .aload_n 0, 1), (22, .getfield 42, 3), (25, .getfield 143, 3), (28, .ifCond .le 17, 3), (31, .aload_n 0, 1), (32, .getfield 42, 3), (35, .dup, 1), (36, .getfield 143, 3), (39, .iconst 1, 1), (40, .isub, 1), (41, .putfield 143, 3), (44, .return_, 1), (45, .aload_n 0, 1), (46, .getfield 42, 3), (49, .getfield 146, 3), (52, .istore_n 1, 1), (53, .aload_n 0, 1), (54, .getfield 46, 3), (57, .iload_n 1, 1), (58, .invokevirtual 149, 3), (61, .ifCond .ne 14, 3), (64, .aload_n 0, 1), (65, .getfield 42, 3), (68, .iconst 4, 1), (69, .invokevirtual 152, 3), (72, .goto 52, 3), (75, .aload_n 0, 1), (76, .getfield 46, 3), (79, .getfield 155, 3), (82, .iload_n 1, 1), (83, .iaload, 1), (84, .ifCond .ne 28, 3), (87, .aload_n 0, 1), (88, .getfield 42, 3), (91, .aload_n 0, 1), (92, .getfield 42, 3), (95, .getfield 158, 3), (98, .ifCond .eq 7, 3), (101, .iconst 2, 1), (102, .goto 4, 3), (105, .iconst 1, 1), (106, .invokevirtual 152, 3), (109, .goto 15, 3), (112, .aload_n 0, 1), (113, .getfield 42, 3), (116, .aload_n 0, 1), (117, .iload_n 1, 1), (118, .invokevirtual 161, 3), (121, .invokevirtual 165, 3), (124, .return_, 1)]
theorem bd_X8_doText : ∀ q ∈ bi_X8_doText, decode cX8_doText q.1 = .ok q.2 := by decide +kernel
theorem bz_X8_doText : bq_X8_doText.all (ab_ck ab_hd ab_xs ab_tr bx_X8_doText be_X8_doText bi_X8_doText none 2 40) = true := by decide +kernel
theorem bm_X8_doText (l : Launch) : ex_Met l yX8_doText cX8_doText 2 none 4 92 (ab_sp ab_hd bc_X8_doText) := ab_met (by decide) (by decide) rfl (bj_X8_doText l) bd_X8_doText ab_hcm ab_xk bz_X8_doText
theorem bw_X8_passTick : ec_cw yX8_passTick cX8_passTick 2 (some .boolean) := ⟨ec_in (i := 701) (by decide +kernel) rfl, ec_in (i := 60) (by decide +kernel) rfl, by decide, by decide⟩
theorem bv_X8_passTick : Cond.instanceMethod yX8_passTick ∈ ec_tb ∧ Cond.selects yX8_passTick.cls yX8_passTick yX8_passTick ∈ ec_tb := ⟨ec_in (i := 699) (by decide +kernel) rfl, ec_in (i := 700) (by decide +kernel) rfl⟩
def be_X8_passTick : Nat → Option (Nat × Option Nat × List ab_C) := fun ix => match ix with
  | 70 => some (1, some 8, bc_X8_doText)
  | 73 => some (2, some 3, bc_X3_mendOn)
  | 76 => some (2, some 6, bc_X6_sharePower)
  | 80 => some (2, some 6, bc_X6_workAll)
  | 83 => some (2, some 3, bc_X3_live)
  | 86 => some (1, some 0, bc_X0_leakOut)
  | 89 => some (1, some 0, bc_X0_mixThroughHatches)
  | 92 => some (4, some 1, bc_X1_look)
  | _ => none
theorem bk_X8_passTick (l : Launch) : ∀ (ix n : Nat) (rc : Option Nat) (sp : ex_S), (be_X8_passTick ix).map (fun q => (q.1, q.2.1, ab_sp ab_hd q.2.2)) = some (n, rc, sp) → ex_cok l RX8 5 113 ix n rc sp := by
  intro ix n rc sp h
  obtain ⟨l0, h2, rfl⟩ := ab_dmk h
  clear h
  unfold be_X8_passTick at h2
  split at h2
  · cases h2; exact ec_cV (bm_X8_doText l) bw_X8_doText bv_X8_doText (by decide) (by decide) (Or.inl (ec_in (i := 702) (by decide +kernel) rfl)) (T := TX8) (N := 7) rfl (by decide) (by decide +kernel)
  · cases h2; exact ec_cV (bm_X3_mendOn l) bw_X3_mendOn bv_X3_mendOn (by decide) (by decide) (Or.inl (ec_in (i := 753) (by decide +kernel) rfl)) (T := TX3) (N := 7) rfl (by decide) (by decide +kernel)
  · cases h2; exact ec_cV (bm_X6_sharePower l) bw_X6_sharePower bv_X6_sharePower (by decide) (by decide) (Or.inl (ec_in (i := 761) (by decide +kernel) rfl)) (T := TX6) (N := 15) rfl (by decide) (by decide +kernel)
  · cases h2; exact ec_cV (bm_X6_workAll l) bw_X6_workAll bv_X6_workAll (by decide) (by decide) (Or.inl (ec_in (i := 765) (by decide +kernel) rfl)) (T := TX6) (N := 15) rfl (by decide) (by decide +kernel)
  · cases h2; exact ec_cV (bm_X3_live l) bw_X3_live bv_X3_live (by decide) (by decide) (Or.inl (ec_in (i := 798) (by decide +kernel) rfl)) (T := TX3) (N := 7) rfl (by decide) (by decide +kernel)
  · cases h2; exact ec_cV (bm_X0_leakOut l) bw_X0_leakOut bv_X0_leakOut (by decide) (by decide) (Or.inl (ec_in (i := 819) (by decide +kernel) rfl)) (T := TX0) (N := 8) rfl (by decide) (by decide +kernel)
  · cases h2; exact ec_cV (bm_X0_mixThroughHatches l) bw_X0_mixThroughHatches bv_X0_mixThroughHatches (by decide) (by decide) (Or.inl (ec_in (i := 826) (by decide +kernel) rfl)) (T := TX0) (N := 8) rfl (by decide) (by decide +kernel)
  · cases h2; exact ec_cV (bm_X1_look l) bw_X1_look bv_X1_look (by decide) (by decide) (Or.inl (ec_in (i := 834) (by decide +kernel) rfl)) (T := TX1) (N := 6) rfl (by decide) (by decide +kernel)
  · cases h2
def bx_X8_passTick : ex_K := (RX8, ec_fx fl_X8, ec_cx cl_X8, sl_X8, (fun ix => (be_X8_passTick ix).map (fun q => (q.1, q.2.1, ab_sp ab_hd q.2.2))), ec_nz, ec_no)
theorem bj_X8_passTick (l : Launch) : ex_ok l 5 113 bx_X8_passTick := ⟨ec_fok fo_X8, ec_cok co_X8, so_X8, bk_X8_passTick l, fun _ h => (by cases h), fun _ h => (by cases h), fun _ h => (by cases h), fun _ _ h => (by cases h)⟩
def bq_X8_passTick : List (ab_C × List ab_Q) := [(([.inl 6], [], [(6, some 6), (8, none), (12, none), (13, none), (15, none), (16, none), (17, none), (18, none), (19, none), (20, none), (21, some 14), (28, none), (29, none), (30, none), (31, none), (32, none), (33, some 3), (33, some 4), (33, some 5), (34, some 0), (34, some 1), (34, some 2), (34, some 3), (34, some 4), (34, some 5), (34, some 6)], [(some (0, 1, none), [], [])]), []),
  (([.inl 35], [], [(35, some 6), (37, none), (41, none), (42, none), (44, none), (45, none), (46, none), (47, none), (48, none), (49, none), (50, some 14), (57, none), (58, none), (59, none), (60, none), (61, none), (62, some 3), (62, some 4), (62, some 5), (63, some 0), (63, some 1), (63, some 2), (63, some 3), (63, some 4), (63, some 5), (63, some 6)], [(some (0, 1, none), [], [])]), [])]
def bc_X8_passTick : List ab_C := bq_X8_passTick.map (fun c => c.1)
def bi_X8_passTick : List (Nat × Instr × Nat) := [(0, .aload_n 0, 1), (1, .invokevirtual 70, 3), (4, .aload_n 0, 1), (5, .getfield 21, 3), (8, .aload_n 0, 1), (9, .getfield 28, 3), (12, .invokevirtual 73, 3), (15, .aload_n 0, 1), (16, .getfield 28, 3), (19, .aload_n 0, 1), (20, .getfield 66, 3), (23, .invokevirtual 76, 3), (26, .aload_n 0, 1), (27, .getfield 28, 3), (30, .aload_n 0, 1), (31, .getfield 12, 3), (34, .invokevirtual 80, 3), (37, .aload_n 0, 1), (38, .getfield 21, 3), (41, .aload_n 0, 1), (42, .getfield 12, 3), (45, .invokevirtual 83, 3), (48, .aload_n 0, 1), (49, .getfield 12, 3), (52, .invokevirtual 86, 3), (55, .aload_n 0, 1), (56, .getfield 12, 3), (59, .invokevirtual 89, 3), (62, .aload_n 0, 1), (63, .getfield 35, 3), (66, .aload_n 0, 1), (67, .getfield 12, 3), (70, .aload_n 0, 1), (71, .getfield 21, 3), (74, .aload_n 0, 1), (75, .getfield 66, 3), (78, .invokevirtual 92, 3), (81, .istore_n 1, 1), (82, .aload_n 0, 1), (83, .dup, 1), (84, .getfield 66, 3), (87, .iconst 1, 1), (88, .iadd, 1), (89, .putfield 66, 3), (92, .iload_n 1, 1), (93, .ireturn, 1)]
theorem bd_X8_passTick : ∀ q ∈ bi_X8_passTick, decode cX8_passTick q.1 = .ok q.2 := by decide +kernel
theorem bz_X8_passTick : bq_X8_passTick.all (ab_ck ab_hd ab_xs ab_tr bx_X8_passTick be_X8_passTick bi_X8_passTick (some .boolean) 2 48) = true := by decide +kernel
theorem bm_X8_passTick (l : Launch) : ex_Met l yX8_passTick cX8_passTick 2 (some .boolean) 5 113 (ab_sp ab_hd bc_X8_passTick) := ab_met (by decide) (by decide) rfl (bj_X8_passTick l) bd_X8_passTick ab_hcm ab_xk bz_X8_passTick
theorem bw_X9_counted : ec_cw yX9_counted cX9_counted 2 (some .int) := ⟨ec_in (i := 427) (by decide +kernel) rfl, ec_in (i := 58) (by decide +kernel) rfl, by decide, by decide⟩
theorem bv_X9_counted : Cond.instanceMethod yX9_counted ∈ ec_tb ∧ Cond.selects yX9_counted.cls yX9_counted yX9_counted ∈ ec_tb := ⟨ec_in (i := 426) (by decide +kernel) rfl, ec_in (i := 0) (by decide +kernel) rfl⟩
def bx_X9_counted : ex_K := (RX9, ec_fx fl_X9, ec_cx cl_X9, sl_X9, (fun ix => (ec_no ix).map (fun (q : Nat × Option Nat × List ab_C) => (q.1, q.2.1, ab_sp ab_hd q.2.2))), ec_nz, ec_no)
theorem bj_X9_counted (l : Launch) : ex_ok l 0 0 bx_X9_counted := ⟨ec_fok fo_X9, ec_cok co_X9, so_X9, fun _ _ _ _ h => (by cases h), fun _ h => (by cases h), fun _ h => (by cases h), fun _ h => (by cases h), fun _ _ h => (by cases h)⟩
def bq_X9_counted : List (ab_C × List ab_Q) := [(([.inl 0, .inr ((-1000000001), (-1000000001))], [], [(75, some 1)], [(some ((-1000000001), (-1000000001), some (1, 0)), [], [])]), []),
  (([.inl 0, .inr ((-1000000004), (-1000000004))], [], [(75, some 4)], [(some ((-1000000004), (-1000000004), some (1, 0)), [], [])]), []),
  (([.inl 0, .inr ((-1000000003), (-1000000003))], [], [(75, some 3)], [(some ((-1000000003), (-1000000003), some (1, 0)), [], [])]), []),
  (([.inl 0, .inr ((-2147483648), 2147483647)], [], [(75, none)], [(some ((-2147483648), 2147483647, some (1, 0)), [], [])]), [])]
def bc_X9_counted : List ab_C := bq_X9_counted.map (fun c => c.1)
def bi_X9_counted : List (Nat × Instr × Nat) := [(0, .iload_n 1, 1), (1, .ldc_w 275, 3), (4, .if_icmp .ge 24, 3), (7, .iload_n 1, 1), (8, .ldc_w 276, 3), (11, .if_icmp .lt 17, 3), (14, .aload_n 0, 1), (15, .getfield 46, 3), (18, .ldc_w 275, 3), (21, .iload_n 1, 1), (22, .isub, 1), (23, .dup2, 1), (24, .iaload, 1), (25, .iconst 1, 1), (26, .iadd, 1), (27, .iastore, 1), (28, .iload_n 1, 1), (29, .ireturn, 1)]
theorem bd_X9_counted : ∀ q ∈ bi_X9_counted, decode cX9_counted q.1 = .ok q.2 := by decide +kernel
theorem bz_X9_counted : bq_X9_counted.all (ab_ck ab_hd ab_xs ab_tr bx_X9_counted ec_no bi_X9_counted (some .int) 2 20) = true := by decide +kernel
theorem bm_X9_counted (l : Launch) : ex_Met l yX9_counted cX9_counted 2 (some .int) 0 0 (ab_sp ab_hd bc_X9_counted) := ab_met (by decide) (by decide) rfl (bj_X9_counted l) bd_X9_counted ab_hcm ab_xk bz_X9_counted
theorem bw_X9_module : ec_cw yX9_module cX9_module 1 (some .int) := ⟨ec_in (i := 418) (by decide +kernel) rfl, ec_in (i := 58) (by decide +kernel) rfl, by decide, by decide⟩
theorem bv_X9_module : Cond.instanceMethod yX9_module ∈ ec_tb ∧ Cond.selects yX9_module.cls yX9_module yX9_module ∈ ec_tb := ⟨ec_in (i := 416) (by decide +kernel) rfl, ec_in (i := 417) (by decide +kernel) rfl⟩
def be_X9_module : Nat → Option (Nat × Option Nat × List ab_C) := fun ix => match ix with
  | 58 => some (1, some 0, bc_X0_addModule)
  | 64 => some (2, some 9, bc_X9_counted)
  | _ => none
theorem bk_X9_module (l : Launch) : ∀ (ix n : Nat) (rc : Option Nat) (sp : ex_S), (be_X9_module ix).map (fun q => (q.1, q.2.1, ab_sp ab_hd q.2.2)) = some (n, rc, sp) → ex_cok l RX9 1 21 ix n rc sp := by
  intro ix n rc sp h
  obtain ⟨l0, h2, rfl⟩ := ab_dmk h
  clear h
  unfold be_X9_module at h2
  split at h2
  · cases h2; exact ec_cV (bm_X0_addModule l) bw_X0_addModule bv_X0_addModule (by decide) (by decide) (Or.inl (ec_in (i := 419) (by decide +kernel) rfl)) (T := TX0) (N := 8) rfl (by decide) (by decide +kernel)
  · cases h2; exact ec_cV (bm_X9_counted l) bw_X9_counted bv_X9_counted (by decide) (by decide) (Or.inl (ec_in (i := 424) (by decide +kernel) rfl)) (T := TX9) (N := 10) rfl (by decide) (by decide +kernel)
  · cases h2
def bx_X9_module : ex_K := (RX9, ec_fx fl_X9, ec_cx cl_X9, sl_X9, (fun ix => (be_X9_module ix).map (fun q => (q.1, q.2.1, ab_sp ab_hd q.2.2))), ec_nz, ec_no)
theorem bj_X9_module (l : Launch) : ex_ok l 1 21 bx_X9_module := ⟨ec_fok fo_X9, ec_cok co_X9, so_X9, bk_X9_module l, fun _ h => (by cases h), fun _ h => (by cases h), fun _ h => (by cases h), fun _ _ h => (by cases h)⟩
def bq_X9_module : List (ab_C × List ab_Q) := [(([.inl 0], [], [(7, some 6), (75, none)], [(some ((-2147483648), 2147483647, none), [], [])]), [])]
def bc_X9_module : List ab_C := bq_X9_module.map (fun c => c.1)
def bi_X9_module : List (Nat × Instr × Nat) := [(0, .aload_n 0, 1), (1, .aload_n 0, 1), (2, .getfield 21, 3), (5, .getfield 54, 3), (8, .invokevirtual 58, 3), (11, .invokevirtual 64, 3), (14, .ireturn, 1)]
theorem bd_X9_module : ∀ q ∈ bi_X9_module, decode cX9_module q.1 = .ok q.2 := by decide +kernel
theorem bz_X9_module : bq_X9_module.all (ab_ck ab_hd ab_xs ab_tr bx_X9_module be_X9_module bi_X9_module (some .int) 1 9) = true := by decide +kernel
theorem bm_X9_module (l : Launch) : ex_Met l yX9_module cX9_module 1 (some .int) 1 21 (ab_sp ab_hd bc_X9_module) := ab_met (by decide) (by decide) rfl (bj_X9_module l) bd_X9_module ab_hcm ab_xk bz_X9_module
theorem bw_X9_hatch : ec_cw yX9_hatch cX9_hatch 3 (some .int) := ⟨ec_in (i := 433) (by decide +kernel) rfl, ec_in (i := 58) (by decide +kernel) rfl, by decide, by decide⟩
theorem bv_X9_hatch : Cond.instanceMethod yX9_hatch ∈ ec_tb ∧ Cond.selects yX9_hatch.cls yX9_hatch yX9_hatch ∈ ec_tb := ⟨ec_in (i := 431) (by decide +kernel) rfl, ec_in (i := 432) (by decide +kernel) rfl⟩
def be_X9_hatch : Nat → Option (Nat × Option Nat × List ab_C) := fun ix => match ix with
  | 68 => some (3, some 0, bc_X0_addHatch)
  | 64 => some (2, some 9, bc_X9_counted)
  | _ => none
theorem bk_X9_hatch (l : Launch) : ∀ (ix n : Nat) (rc : Option Nat) (sp : ex_S), (be_X9_hatch ix).map (fun q => (q.1, q.2.1, ab_sp ab_hd q.2.2)) = some (n, rc, sp) → ex_cok l RX9 2 43 ix n rc sp := by
  intro ix n rc sp h
  obtain ⟨l0, h2, rfl⟩ := ab_dmk h
  clear h
  unfold be_X9_hatch at h2
  split at h2
  · cases h2; exact ec_cV (bm_X0_addHatch l) bw_X0_addHatch bv_X0_addHatch (by decide) (by decide) (Or.inl (ec_in (i := 434) (by decide +kernel) rfl)) (T := TX0) (N := 8) rfl (by decide) (by decide +kernel)
  · cases h2; exact ec_cV (bm_X9_counted l) bw_X9_counted bv_X9_counted (by decide) (by decide) (Or.inl (ec_in (i := 424) (by decide +kernel) rfl)) (T := TX9) (N := 10) rfl (by decide) (by decide +kernel)
  · cases h2
def bx_X9_hatch : ex_K := (RX9, ec_fx fl_X9, ec_cx cl_X9, sl_X9, (fun ix => (be_X9_hatch ix).map (fun q => (q.1, q.2.1, ab_sp ab_hd q.2.2))), ec_nz, ec_no)
theorem bj_X9_hatch (l : Launch) : ex_ok l 2 43 bx_X9_hatch := ⟨ec_fok fo_X9, ec_cok co_X9, so_X9, bk_X9_hatch l, fun _ h => (by cases h), fun _ h => (by cases h), fun _ h => (by cases h), fun _ _ h => (by cases h)⟩
def bq_X9_hatch : List (ab_C × List ab_Q) := [(([.inl 0, .inr ((-2147483648), 2147483647), .inr ((-2147483648), 2147483647)], [], [(7, some 7), (10, none), (11, none), (12, none), (75, none)], [(some ((-2147483648), 2147483647, none), [], [])]), [])]
def bc_X9_hatch : List ab_C := bq_X9_hatch.map (fun c => c.1)
def bi_X9_hatch : List (Nat × Instr × Nat) := [(0, .aload_n 0, 1), (1, .aload_n 0, 1), (2, .getfield 21, 3), (5, .getfield 54, 3), (8, .iload_n 1, 1), (9, .iload_n 2, 1), (10, .invokevirtual 68, 3), (13, .invokevirtual 64, 3), (16, .ireturn, 1)]
theorem bd_X9_hatch : ∀ q ∈ bi_X9_hatch, decode cX9_hatch q.1 = .ok q.2 := by decide +kernel
theorem bz_X9_hatch : bq_X9_hatch.all (ab_ck ab_hd ab_xs ab_tr bx_X9_hatch be_X9_hatch bi_X9_hatch (some .int) 3 11) = true := by decide +kernel
theorem bm_X9_hatch (l : Launch) : ex_Met l yX9_hatch cX9_hatch 3 (some .int) 2 43 (ab_sp ab_hd bc_X9_hatch) := ab_met (by decide) (by decide) rfl (bj_X9_hatch l) bd_X9_hatch ab_hcm ab_xk bz_X9_hatch
