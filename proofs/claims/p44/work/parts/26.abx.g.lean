theorem bw_X9_line : ec_cw yX9_line cX9_line 5 (some .int) := ⟨ec_in (i := 904) (by decide +kernel) rfl, ec_in (i := 58) (by decide +kernel) rfl, by decide, by decide⟩
theorem bv_X9_line : Cond.instanceMethod yX9_line ∈ ec_tb ∧ Cond.selects yX9_line.cls yX9_line yX9_line ∈ ec_tb := ⟨ec_in (i := 902) (by decide +kernel) rfl, ec_in (i := 903) (by decide +kernel) rfl⟩
def be_X9_line : Nat → Option (Nat × Option Nat × List ab_C) := fun ix => match ix with
  | 64 => some (2, some 9, bc_X9_counted)
  | 178 => some (5, some 7, bc_X7_addLine)
  | _ => none
theorem bk_X9_line (l : Launch) : ∀ (ix n : Nat) (rc : Option Nat) (sp : ex_S), (be_X9_line ix).map (fun q => (q.1, q.2.1, ab_sp ab_hd q.2.2)) = some (n, rc, sp) → ex_cok l RX9 1 24 ix n rc sp := by
  intro ix n rc sp h
  obtain ⟨l0, h2, rfl⟩ := ab_dmk h
  clear h
  unfold be_X9_line at h2
  split at h2
  · cases h2; exact ec_cV (bm_X9_counted l) bw_X9_counted bv_X9_counted (by decide) (by decide) (Or.inl (ec_in (i := 424) (by decide +kernel) rfl)) (T := TX9) (N := 10) rfl (by decide) (by decide +kernel)
  · cases h2; exact ec_cV (bm_X7_addLine l) bw_X7_addLine bv_X7_addLine (by decide) (by decide) (Or.inl (ec_in (i := 906) (by decide +kernel) rfl)) (T := TX7) (N := 5) rfl (by decide) (by decide +kernel)
  · cases h2
def bx_X9_line : ex_K := (RX9, ec_fx fl_X9, ec_cx cl_X9, sl_X9, (fun ix => (be_X9_line ix).map (fun q => (q.1, q.2.1, ab_sp ab_hd q.2.2))), ec_nz, ec_no)
theorem bj_X9_line (l : Launch) : ex_ok l 1 24 bx_X9_line := ⟨ec_fok fo_X9, ec_cok co_X9, so_X9, bk_X9_line l, fun _ h => (by cases h), fun _ h => (by cases h), fun _ h => (by cases h), fun _ _ h => (by cases h)⟩
def bq_X9_line : List (ab_C × List ab_Q) := [(([.inl 0, .inr ((-2147483648), 2147483647), .inr ((-2147483648), 2147483647), .inr ((-2147483648), 2147483647), .inr ((-2147483648), 2147483647)], [], [(1, some 4), (2, none), (3, none), (4, none), (5, none), (75, none)], [(some ((-2147483648), 2147483647, none), [], [])]), [])]
def bc_X9_line : List ab_C := bq_X9_line.map (fun c => c.1)
def bi_X9_line : List (Nat × Instr × Nat) := [(0, .iload_n 1, 1), (1, .ifCond .lt 9, 3), (4, .iload_n 1, 1), (5, .bipush 12, 2), (7, .if_icmp .lt 10, 3), (10, .aload_n 0, 1), (11, .ldc 92, 2), (13, .invokevirtual 64, 3), (16, .ireturn, 1), (17, .aload_n 0, 1), (18, .getfield 21, 3), (21, .getfield 167, 3), (24, .getfield 171, 3), (27, .ifCond .eq 10, 3), (30, .aload_n 0, 1), (31, .ldc 177, 2), (33, .invokevirtual 64, 3), (36, .ireturn, 1), (37, .aload_n 0, 1), (38, .aload_n 0, 1), (39, .getfield 12, 3), (42, .iload_n 1, 1), (43, .iload_n 2, 1), (44, .iload_n 3, 1), (45, .iload 4, 2), (47, .invokevirtual 178, 3), (50, .invokevirtual 64, 3), (53, .ireturn, 1)]
theorem bd_X9_line : ∀ q ∈ bi_X9_line, decode cX9_line q.1 = .ok q.2 := by decide +kernel
theorem bz_X9_line : bq_X9_line.all (ab_ck ab_hd ab_xs ab_tr bx_X9_line be_X9_line bi_X9_line (some .int) 5 22) = true := by decide +kernel
theorem bm_X9_line (l : Launch) : ex_Met l yX9_line cX9_line 5 (some .int) 1 24 (ab_sp ab_hd bc_X9_line) := ab_met (by decide) (by decide) rfl (bj_X9_line l) bd_X9_line ab_hcm ab_xk bz_X9_line
theorem bw_X9_erase : ec_cw yX9_erase cX9_erase 2 (some .int) := ⟨ec_in (i := 914) (by decide +kernel) rfl, ec_in (i := 58) (by decide +kernel) rfl, by decide, by decide⟩
theorem bv_X9_erase : Cond.instanceMethod yX9_erase ∈ ec_tb ∧ Cond.selects yX9_erase.cls yX9_erase yX9_erase ∈ ec_tb := ⟨ec_in (i := 912) (by decide +kernel) rfl, ec_in (i := 913) (by decide +kernel) rfl⟩
def be_X9_erase : Nat → Option (Nat × Option Nat × List ab_C) := fun ix => match ix with
  | 64 => some (2, some 9, bc_X9_counted)
  | _ => none
theorem bk_X9_erase (l : Launch) : ∀ (ix n : Nat) (rc : Option Nat) (sp : ex_S), (be_X9_erase ix).map (fun q => (q.1, q.2.1, ab_sp ab_hd q.2.2)) = some (n, rc, sp) → ex_cok l RX9 1 21 ix n rc sp := by
  intro ix n rc sp h
  obtain ⟨l0, h2, rfl⟩ := ab_dmk h
  clear h
  unfold be_X9_erase at h2
  split at h2
  · cases h2; exact ec_cV (bm_X9_counted l) bw_X9_counted bv_X9_counted (by decide) (by decide) (Or.inl (ec_in (i := 424) (by decide +kernel) rfl)) (T := TX9) (N := 10) rfl (by decide) (by decide +kernel)
  · cases h2
def bx_X9_erase : ex_K := (RX9, ec_fx fl_X9, ec_cx cl_X9, sl_X9, (fun ix => (be_X9_erase ix).map (fun q => (q.1, q.2.1, ab_sp ab_hd q.2.2))), ec_nz, ec_no)
theorem bj_X9_erase (l : Launch) : ex_ok l 1 21 bx_X9_erase := ⟨ec_fok fo_X9, ec_cok co_X9, so_X9, bk_X9_erase l, fun _ h => (by cases h), fun _ h => (by cases h), fun _ h => (by cases h), fun _ _ h => (by cases h)⟩
def bq_X9_erase : List (ab_C × List ab_Q) := [(([.inl 0], [], [(1, some 4), (75, some 3)], [(some ((-2147483648), 2147483647, none), [], [])]), [])]
def bc_X9_erase : List ab_C := bq_X9_erase.map (fun c => c.1)
def bi_X9_erase : List (Nat × Instr × Nat) := [(0, .aload_n 0, 1), (1, .getfield 21, 3), (4, .getfield 167, 3), (7, .getfield 171, 3), (10, .ifCond .eq 10, 3), (13, .aload_n 0, 1), (14, .ldc 177, 2), (16, .invokevirtual 64, 3), (19, .ireturn, 1), (20, .aload_n 0, 1), (21, .getfield 12, 3), (24, .getfield 181, 3), (27, .istore_n 1, 1), (28, .aload_n 0, 1), (29, .getfield 12, 3), (32, .iconst 0, 1), (33, .putfield 181, 3), (36, .iload_n 1, 1), (37, .ireturn, 1)]
theorem bd_X9_erase : ∀ q ∈ bi_X9_erase, decode cX9_erase q.1 = .ok q.2 := by decide +kernel
theorem bz_X9_erase : bq_X9_erase.all (ab_ck ab_hd ab_xs ab_tr bx_X9_erase be_X9_erase bi_X9_erase (some .int) 2 17) = true := by decide +kernel
theorem bm_X9_erase (l : Launch) : ex_Met l yX9_erase cX9_erase 2 (some .int) 1 21 (ab_sp ab_hd bc_X9_erase) := ab_met (by decide) (by decide) rfl (bj_X9_erase l) bd_X9_erase ab_hcm ab_xk bz_X9_erase
theorem bw_X9_begin : ec_cw yX9_begin cX9_begin 1 (some .int) := ⟨ec_in (i := 918) (by decide +kernel) rfl, ec_in (i := 58) (by decide +kernel) rfl, by decide, by decide⟩
theorem bv_X9_begin : Cond.instanceMethod yX9_begin ∈ ec_tb ∧ Cond.selects yX9_begin.cls yX9_begin yX9_begin ∈ ec_tb := ⟨ec_in (i := 916) (by decide +kernel) rfl, ec_in (i := 917) (by decide +kernel) rfl⟩
def be_X9_begin : Nat → Option (Nat × Option Nat × List ab_C) := fun ix => match ix with
  | 64 => some (2, some 9, bc_X9_counted)
  | 184 => some (1, some 2, bc_X2_start)
  | _ => none
theorem bk_X9_begin (l : Launch) : ∀ (ix n : Nat) (rc : Option Nat) (sp : ex_S), (be_X9_begin ix).map (fun q => (q.1, q.2.1, ab_sp ab_hd q.2.2)) = some (n, rc, sp) → ex_cok l RX9 1 21 ix n rc sp := by
  intro ix n rc sp h
  obtain ⟨l0, h2, rfl⟩ := ab_dmk h
  clear h
  unfold be_X9_begin at h2
  split at h2
  · cases h2; exact ec_cV (bm_X9_counted l) bw_X9_counted bv_X9_counted (by decide) (by decide) (Or.inl (ec_in (i := 424) (by decide +kernel) rfl)) (T := TX9) (N := 10) rfl (by decide) (by decide +kernel)
  · cases h2; exact ec_cV (bm_X2_start l) bw_X2_start bv_X2_start (by decide) (by decide) (Or.inl (ec_in (i := 919) (by decide +kernel) rfl)) (T := TX2) (N := 7) rfl (by decide) (by decide +kernel)
  · cases h2
def bx_X9_begin : ex_K := (RX9, ec_fx fl_X9, ec_cx cl_X9, sl_X9, (fun ix => (be_X9_begin ix).map (fun q => (q.1, q.2.1, ab_sp ab_hd q.2.2))), ec_nz, ec_no)
theorem bj_X9_begin (l : Launch) : ex_ok l 1 21 bx_X9_begin := ⟨ec_fok fo_X9, ec_cok co_X9, so_X9, bk_X9_begin l, fun _ h => (by cases h), fun _ h => (by cases h), fun _ h => (by cases h), fun _ _ h => (by cases h)⟩
def bq_X9_begin : List (ab_C × List ab_Q) := [(([.inl 0], [], [(34, some 0), (34, some 1), (34, some 2), (34, some 3), (34, some 4), (34, some 5), (75, some 3)], [(some ((-2147483648), 2147483647, none), [], [])]), [])]
def bc_X9_begin : List ab_C := bq_X9_begin.map (fun c => c.1)
def bi_X9_begin : List (Nat × Instr × Nat) := [(0, .aload_n 0, 1), (1, .getfield 21, 3), (4, .getfield 167, 3), (7, .getfield 171, 3), (10, .ifCond .ne 13, 3), (13, .aload_n 0, 1), (14, .getfield 12, 3), (17, .getfield 181, 3), (20, .ifCond .ne 10, 3), (23, .aload_n 0, 1), (24, .ldc 177, 2), (26, .invokevirtual 64, 3), (29, .ireturn, 1), (30, .aload_n 0, 1), (31, .getfield 21, 3), (34, .getfield 167, 3), (37, .invokevirtual 184, 3), (40, .iconst 1, 1), (41, .ireturn, 1)]
theorem bd_X9_begin : ∀ q ∈ bi_X9_begin, decode cX9_begin q.1 = .ok q.2 := by decide +kernel
theorem bz_X9_begin : bq_X9_begin.all (ab_ck ab_hd ab_xs ab_tr bx_X9_begin be_X9_begin bi_X9_begin (some .int) 1 17) = true := by decide +kernel
theorem bm_X9_begin (l : Launch) : ex_Met l yX9_begin cX9_begin 1 (some .int) 1 21 (ab_sp ab_hd bc_X9_begin) := ab_met (by decide) (by decide) rfl (bj_X9_begin l) bd_X9_begin ab_hcm ab_xk bz_X9_begin
theorem bw_X9_halt : ec_cw yX9_halt cX9_halt 2 (some .int) := ⟨ec_in (i := 926) (by decide +kernel) rfl, ec_in (i := 58) (by decide +kernel) rfl, by decide, by decide⟩
theorem bv_X9_halt : Cond.instanceMethod yX9_halt ∈ ec_tb ∧ Cond.selects yX9_halt.cls yX9_halt yX9_halt ∈ ec_tb := ⟨ec_in (i := 924) (by decide +kernel) rfl, ec_in (i := 925) (by decide +kernel) rfl⟩
def be_X9_halt : Nat → Option (Nat × Option Nat × List ab_C) := fun ix => match ix with
  | 187 => some (2, some 2, bc_X2_setHalted)
  | 64 => some (2, some 9, bc_X9_counted)
  | _ => none
theorem bk_X9_halt (l : Launch) : ∀ (ix n : Nat) (rc : Option Nat) (sp : ex_S), (be_X9_halt ix).map (fun q => (q.1, q.2.1, ab_sp ab_hd q.2.2)) = some (n, rc, sp) → ex_cok l RX9 2 41 ix n rc sp := by
  intro ix n rc sp h
  obtain ⟨l0, h2, rfl⟩ := ab_dmk h
  clear h
  unfold be_X9_halt at h2
  split at h2
  · cases h2; exact ec_cV (bm_X2_setHalted l) bw_X2_setHalted bv_X2_setHalted (by decide) (by decide) (Or.inl (ec_in (i := 927) (by decide +kernel) rfl)) (T := TX2) (N := 7) rfl (by decide) (by decide +kernel)
  · cases h2; exact ec_cV (bm_X9_counted l) bw_X9_counted bv_X9_counted (by decide) (by decide) (Or.inl (ec_in (i := 424) (by decide +kernel) rfl)) (T := TX9) (N := 10) rfl (by decide) (by decide +kernel)
  · cases h2
def bx_X9_halt : ex_K := (RX9, ec_fx fl_X9, ec_cx cl_X9, sl_X9, (fun ix => (be_X9_halt ix).map (fun q => (q.1, q.2.1, ab_sp ab_hd q.2.2))), ec_nz, ec_no)
theorem bj_X9_halt (l : Launch) : ex_ok l 2 41 bx_X9_halt := ⟨ec_fok fo_X9, ec_cok co_X9, so_X9, bk_X9_halt l, fun _ h => (by cases h), fun _ h => (by cases h), fun _ h => (by cases h), fun _ _ h => (by cases h)⟩
def bq_X9_halt : List (ab_C × List ab_Q) := [(([.inl 0, .inr ((-2147483648), 2147483647)], [], [(34, some 1), (75, none)], [(some ((-2147483648), 2147483647, none), [], [])]), [])]
def bc_X9_halt : List ab_C := bq_X9_halt.map (fun c => c.1)
def bi_X9_halt : List (Nat × Instr × Nat) := [(0, .aload_n 0, 1), (1, .aload_n 0, 1), (2, .getfield 21, 3), (5, .getfield 167, 3), (8, .iload_n 1, 1), (9, .invokevirtual 187, 3), (12, .invokevirtual 64, 3), (15, .ireturn, 1)]
theorem bd_X9_halt : ∀ q ∈ bi_X9_halt, decode cX9_halt q.1 = .ok q.2 := by decide +kernel
theorem bz_X9_halt : bq_X9_halt.all (ab_ck ab_hd ab_xs ab_tr bx_X9_halt be_X9_halt bi_X9_halt (some .int) 2 10) = true := by decide +kernel
theorem bm_X9_halt (l : Launch) : ex_Met l yX9_halt cX9_halt 2 (some .int) 2 41 (ab_sp ab_hd bc_X9_halt) := ab_met (by decide) (by decide) rfl (bj_X9_halt l) bd_X9_halt ab_hcm ab_xk bz_X9_halt
theorem bw_X9_abort : ec_cw yX9_abort cX9_abort 1 (some .int) := ⟨ec_in (i := 937) (by decide +kernel) rfl, ec_in (i := 58) (by decide +kernel) rfl, by decide, by decide⟩
theorem bv_X9_abort : Cond.instanceMethod yX9_abort ∈ ec_tb ∧ Cond.selects yX9_abort.cls yX9_abort yX9_abort ∈ ec_tb := ⟨ec_in (i := 935) (by decide +kernel) rfl, ec_in (i := 936) (by decide +kernel) rfl⟩
def be_X9_abort : Nat → Option (Nat × Option Nat × List ab_C) := fun ix => match ix with
  | 64 => some (2, some 9, bc_X9_counted)
  | 190 => some (1, some 2, bc_X2_giveUp)
  | 193 => some (1, none, bc_X9_one)
  | _ => none
theorem bk_X9_abort (l : Launch) : ∀ (ix n : Nat) (rc : Option Nat) (sp : ex_S), (be_X9_abort ix).map (fun q => (q.1, q.2.1, ab_sp ab_hd q.2.2)) = some (n, rc, sp) → ex_cok l RX9 2 41 ix n rc sp := by
  intro ix n rc sp h
  obtain ⟨l0, h2, rfl⟩ := ab_dmk h
  clear h
  unfold be_X9_abort at h2
  split at h2
  · cases h2; exact ec_cV (bm_X9_counted l) bw_X9_counted bv_X9_counted (by decide) (by decide) (Or.inl (ec_in (i := 424) (by decide +kernel) rfl)) (T := TX9) (N := 10) rfl (by decide) (by decide +kernel)
  · cases h2; exact ec_cV (bm_X2_giveUp l) bw_X2_giveUp bv_X2_giveUp (by decide) (by decide) (Or.inl (ec_in (i := 938) (by decide +kernel) rfl)) (T := TX2) (N := 7) rfl (by decide) (by decide +kernel)
  · cases h2; exact ec_cS (bm_X9_one l) bw_X9_one bv_X9_one (by decide) (by decide) (Or.inl (ec_in (i := 939) (by decide +kernel) rfl)) (by decide +kernel)
  · cases h2
def bx_X9_abort : ex_K := (RX9, ec_fx fl_X9, ec_cx cl_X9, sl_X9, (fun ix => (be_X9_abort ix).map (fun q => (q.1, q.2.1, ab_sp ab_hd q.2.2))), ec_nz, ec_no)
theorem bj_X9_abort (l : Launch) : ex_ok l 2 41 bx_X9_abort := ⟨ec_fok fo_X9, ec_cok co_X9, so_X9, bk_X9_abort l, fun _ h => (by cases h), fun _ h => (by cases h), fun _ h => (by cases h), fun _ _ h => (by cases h)⟩
def bq_X9_abort : List (ab_C × List ab_Q) := [(([.inl 0], [], [(34, some 0), (34, some 1), (34, some 2), (34, some 3), (34, some 5), (34, some 6), (75, some 3)], [(some ((-2147483648), 2147483647, none), [], [])]), [])]
def bc_X9_abort : List ab_C := bq_X9_abort.map (fun c => c.1)
def bi_X9_abort : List (Nat × Instr × Nat) := [(0, .aload_n 0, 1), (1, .getfield 21, 3), (4, .getfield 167, 3), (7, .getfield 171, 3), (10, .ifCond .ne 10, 3), (13, .aload_n 0, 1), (14, .ldc 177, 2), (16, .invokevirtual 64, 3), (19, .ireturn, 1), (20, .aload_n 0, 1), (21, .getfield 21, 3), (24, .getfield 167, 3), (27, .invokevirtual 190, 3), (30, .aload_n 0, 1), (31, .getfield 21, 3), (34, .getfield 167, 3), (37, .getfield 171, 3), (40, .invokestatic 193, 3), (43, .ireturn, 1)]
theorem bd_X9_abort : ∀ q ∈ bi_X9_abort, decode cX9_abort q.1 = .ok q.2 := by decide +kernel
theorem bz_X9_abort : bq_X9_abort.all (ab_ck ab_hd ab_xs ab_tr bx_X9_abort be_X9_abort bi_X9_abort (some .int) 1 17) = true := by decide +kernel
theorem bm_X9_abort (l : Launch) : ex_Met l yX9_abort cX9_abort 1 (some .int) 2 41 (ab_sp ab_hd bc_X9_abort) := ab_met (by decide) (by decide) rfl (bj_X9_abort l) bd_X9_abort ab_hcm ab_xk bz_X9_abort
theorem bw_X9_text : ec_cw yX9_text cX9_text 2 (some .int) := ⟨ec_in (i := 943) (by decide +kernel) rfl, ec_in (i := 58) (by decide +kernel) rfl, by decide, by decide⟩
theorem bv_X9_text : Cond.instanceMethod yX9_text ∈ ec_tb ∧ Cond.selects yX9_text.cls yX9_text yX9_text ∈ ec_tb := ⟨ec_in (i := 941) (by decide +kernel) rfl, ec_in (i := 942) (by decide +kernel) rfl⟩
def be_X9_text : Nat → Option (Nat × Option Nat × List ab_C) := fun ix => match ix with
  | 197 => some (2, some 2, bc_X2_tellOf)
  | 64 => some (2, some 9, bc_X9_counted)
  | _ => none
theorem bk_X9_text (l : Launch) : ∀ (ix n : Nat) (rc : Option Nat) (sp : ex_S), (be_X9_text ix).map (fun q => (q.1, q.2.1, ab_sp ab_hd q.2.2)) = some (n, rc, sp) → ex_cok l RX9 2 41 ix n rc sp := by
  intro ix n rc sp h
  obtain ⟨l0, h2, rfl⟩ := ab_dmk h
  clear h
  unfold be_X9_text at h2
  split at h2
  · cases h2; exact ec_cV (bm_X2_tellOf l) bw_X2_tellOf bv_X2_tellOf (by decide) (by decide) (Or.inl (ec_in (i := 944) (by decide +kernel) rfl)) (T := TX2) (N := 7) rfl (by decide) (by decide +kernel)
  · cases h2; exact ec_cV (bm_X9_counted l) bw_X9_counted bv_X9_counted (by decide) (by decide) (Or.inl (ec_in (i := 424) (by decide +kernel) rfl)) (T := TX9) (N := 10) rfl (by decide) (by decide +kernel)
  · cases h2
def bx_X9_text : ex_K := (RX9, ec_fx fl_X9, ec_cx cl_X9, sl_X9, (fun ix => (be_X9_text ix).map (fun q => (q.1, q.2.1, ab_sp ab_hd q.2.2))), ec_nz, ec_no)
theorem bj_X9_text (l : Launch) : ex_ok l 2 41 bx_X9_text := ⟨ec_fok fo_X9, ec_cok co_X9, so_X9, bk_X9_text l, fun _ h => (by cases h), fun _ h => (by cases h), fun _ h => (by cases h), fun _ _ h => (by cases h)⟩
def bq_X9_text : List (ab_C × List ab_Q) := [(([.inl 0, .inr ((-2147483648), 2147483647)], [], [(75, none)], [(some ((-2147483648), 2147483647, none), [], [])]), [])]
def bc_X9_text : List ab_C := bq_X9_text.map (fun c => c.1)
def bi_X9_text : List (Nat × Instr × Nat) := [(0, .aload_n 0, 1), (1, .aload_n 0, 1), (2, .getfield 21, 3), (5, .getfield 167, 3), (8, .iload_n 1, 1), (9, .invokevirtual 197, 3), (12, .invokevirtual 64, 3), (15, .ireturn, 1)]
theorem bd_X9_text : ∀ q ∈ bi_X9_text, decode cX9_text q.1 = .ok q.2 := by decide +kernel
theorem bz_X9_text : bq_X9_text.all (ab_ck ab_hd ab_xs ab_tr bx_X9_text be_X9_text bi_X9_text (some .int) 2 10) = true := by decide +kernel
theorem bm_X9_text (l : Launch) : ex_Met l yX9_text cX9_text 2 (some .int) 2 41 (ab_sp ab_hd bc_X9_text) := ab_met (by decide) (by decide) rfl (bj_X9_text l) bd_X9_text ab_hcm ab_xk bz_X9_text
theorem bw_X9_hunt : ec_cw yX9_hunt cX9_hunt 1 (some .int) := ⟨ec_in (i := 952) (by decide +kernel) rfl, ec_in (i := 58) (by decide +kernel) rfl, by decide, by decide⟩
theorem bv_X9_hunt : Cond.instanceMethod yX9_hunt ∈ ec_tb ∧ Cond.selects yX9_hunt.cls yX9_hunt yX9_hunt ∈ ec_tb := ⟨ec_in (i := 950) (by decide +kernel) rfl, ec_in (i := 951) (by decide +kernel) rfl⟩
def be_X9_hunt : Nat → Option (Nat × Option Nat × List ab_C) := fun ix => match ix with
  | 199 => some (2, some 4, bc_X4_startOver)
  | _ => none
theorem bk_X9_hunt (l : Launch) : ∀ (ix n : Nat) (rc : Option Nat) (sp : ex_S), (be_X9_hunt ix).map (fun q => (q.1, q.2.1, ab_sp ab_hd q.2.2)) = some (n, rc, sp) → ex_cok l RX9 1 21 ix n rc sp := by
  intro ix n rc sp h
  obtain ⟨l0, h2, rfl⟩ := ab_dmk h
  clear h
  unfold be_X9_hunt at h2
  split at h2
  · cases h2; exact ec_cV (bm_X4_startOver l) bw_X4_startOver bv_X4_startOver (by decide) (by decide) (Or.inl (ec_in (i := 953) (by decide +kernel) rfl)) (T := TX4) (N := 2) rfl (by decide) (by decide +kernel)
  · cases h2
def bx_X9_hunt : ex_K := (RX9, ec_fx fl_X9, ec_cx cl_X9, sl_X9, (fun ix => (be_X9_hunt ix).map (fun q => (q.1, q.2.1, ab_sp ab_hd q.2.2))), ec_nz, ec_no)
theorem bj_X9_hunt (l : Launch) : ex_ok l 1 21 bx_X9_hunt := ⟨ec_fok fo_X9, ec_cok co_X9, so_X9, bk_X9_hunt l, fun _ h => (by cases h), fun _ h => (by cases h), fun _ h => (by cases h), fun _ _ h => (by cases h)⟩
def bq_X9_hunt : List (ab_C × List ab_Q) := [(([.inl 0], [], [(64, some 1)], [(some ((-2147483648), 2147483647, none), [], [])]), [])]
def bc_X9_hunt : List ab_C := bq_X9_hunt.map (fun c => c.1)
def bi_X9_hunt : List (Nat × Instr × Nat) := [(0, .aload_n 0, 1), (1, .getfield 31, 3), (4, .aload_n 0, 1), (5, .getfield 21, 3), (8, .getfield 54, 3), (11, .invokevirtual 199, 3), (14, .ireturn, 1)]
theorem bd_X9_hunt : ∀ q ∈ bi_X9_hunt, decode cX9_hunt q.1 = .ok q.2 := by decide +kernel
theorem bz_X9_hunt : bq_X9_hunt.all (ab_ck ab_hd ab_xs ab_tr bx_X9_hunt be_X9_hunt bi_X9_hunt (some .int) 1 9) = true := by decide +kernel
theorem bm_X9_hunt (l : Launch) : ex_Met l yX9_hunt cX9_hunt 1 (some .int) 1 21 (ab_sp ab_hd bc_X9_hunt) := ab_met (by decide) (by decide) rfl (bj_X9_hunt l) bd_X9_hunt ab_hcm ab_xk bz_X9_hunt
theorem bw_X9_test : ec_cw yX9_test cX9_test 3 (some .int) := ⟨ec_in (i := 960) (by decide +kernel) rfl, ec_in (i := 58) (by decide +kernel) rfl, by decide, by decide⟩
theorem bv_X9_test : Cond.instanceMethod yX9_test ∈ ec_tb ∧ Cond.selects yX9_test.cls yX9_test yX9_test ∈ ec_tb := ⟨ec_in (i := 958) (by decide +kernel) rfl, ec_in (i := 959) (by decide +kernel) rfl⟩
def be_X9_test : Nat → Option (Nat × Option Nat × List ab_C) := fun ix => match ix with
  | 203 => some (4, some 4, bc_X4_narrow)
  | 64 => some (2, some 9, bc_X9_counted)
  | _ => none
theorem bk_X9_test (l : Launch) : ∀ (ix n : Nat) (rc : Option Nat) (sp : ex_S), (be_X9_test ix).map (fun q => (q.1, q.2.1, ab_sp ab_hd q.2.2)) = some (n, rc, sp) → ex_cok l RX9 3 70 ix n rc sp := by
  intro ix n rc sp h
  obtain ⟨l0, h2, rfl⟩ := ab_dmk h
  clear h
  unfold be_X9_test at h2
  split at h2
  · cases h2; exact ec_cV (bm_X4_narrow l) bw_X4_narrow bv_X4_narrow (by decide) (by decide) (Or.inl (ec_in (i := 961) (by decide +kernel) rfl)) (T := TX4) (N := 2) rfl (by decide) (by decide +kernel)
  · cases h2; exact ec_cV (bm_X9_counted l) bw_X9_counted bv_X9_counted (by decide) (by decide) (Or.inl (ec_in (i := 424) (by decide +kernel) rfl)) (T := TX9) (N := 10) rfl (by decide) (by decide +kernel)
  · cases h2
def bx_X9_test : ex_K := (RX9, ec_fx fl_X9, ec_cx cl_X9, sl_X9, (fun ix => (be_X9_test ix).map (fun q => (q.1, q.2.1, ab_sp ab_hd q.2.2))), ec_nz, ec_no)
theorem bj_X9_test (l : Launch) : ex_ok l 3 70 bx_X9_test := ⟨ec_fok fo_X9, ec_cok co_X9, so_X9, bk_X9_test l, fun _ h => (by cases h), fun _ h => (by cases h), fun _ h => (by cases h), fun _ _ h => (by cases h)⟩
def bq_X9_test : List (ab_C × List ab_Q) := [(([.inl 0, .inr ((-2147483648), 2147483647), .inr ((-2147483648), 2147483647)], [], [(64, some 1), (65, none), (75, none)], [(some ((-2147483648), 2147483647, none), [], [])]), [])]
def bc_X9_test : List ab_C := bq_X9_test.map (fun c => c.1)
def bi_X9_test : List (Nat × Instr × Nat) := [(0, .aload_n 0, 1), (1, .aload_n 0, 1), (2, .getfield 31, 3), (5, .aload_n 0, 1), (6, .getfield 21, 3), (9, .getfield 54, 3), (12, .iload_n 1, 1), (13, .iload_n 2, 1), (14, .invokevirtual 203, 3), (17, .invokevirtual 64, 3), (20, .ireturn, 1)]
theorem bd_X9_test : ∀ q ∈ bi_X9_test, decode cX9_test q.1 = .ok q.2 := by decide +kernel
theorem bz_X9_test : bq_X9_test.all (ab_ck ab_hd ab_xs ab_tr bx_X9_test be_X9_test bi_X9_test (some .int) 3 13) = true := by decide +kernel
theorem bm_X9_test (l : Launch) : ex_Met l yX9_test cX9_test 3 (some .int) 3 70 (ab_sp ab_hd bc_X9_test) := ab_met (by decide) (by decide) rfl (bj_X9_test l) bd_X9_test ab_hcm ab_xk bz_X9_test
theorem bw_X9_best : ec_cw yX9_best cX9_best 2 (some .int) := ⟨ec_in (i := 979) (by decide +kernel) rfl, ec_in (i := 58) (by decide +kernel) rfl, by decide, by decide⟩
theorem bv_X9_best : Cond.instanceMethod yX9_best ∈ ec_tb ∧ Cond.selects yX9_best.cls yX9_best yX9_best ∈ ec_tb := ⟨ec_in (i := 977) (by decide +kernel) rfl, ec_in (i := 978) (by decide +kernel) rfl⟩
def be_X9_best : Nat → Option (Nat × Option Nat × List ab_C) := fun ix => match ix with
  | 207 => some (3, some 4, bc_X4_bestTest)
  | 64 => some (2, some 9, bc_X9_counted)
  | _ => none
theorem bk_X9_best (l : Launch) : ∀ (ix n : Nat) (rc : Option Nat) (sp : ex_S), (be_X9_best ix).map (fun q => (q.1, q.2.1, ab_sp ab_hd q.2.2)) = some (n, rc, sp) → ex_cok l RX9 4 98 ix n rc sp := by
  intro ix n rc sp h
  obtain ⟨l0, h2, rfl⟩ := ab_dmk h
  clear h
  unfold be_X9_best at h2
  split at h2
  · cases h2; exact ec_cV (bm_X4_bestTest l) bw_X4_bestTest bv_X4_bestTest (by decide) (by decide) (Or.inl (ec_in (i := 980) (by decide +kernel) rfl)) (T := TX4) (N := 2) rfl (by decide) (by decide +kernel)
  · cases h2; exact ec_cV (bm_X9_counted l) bw_X9_counted bv_X9_counted (by decide) (by decide) (Or.inl (ec_in (i := 424) (by decide +kernel) rfl)) (T := TX9) (N := 10) rfl (by decide) (by decide +kernel)
  · cases h2
def bx_X9_best : ex_K := (RX9, ec_fx fl_X9, ec_cx cl_X9, sl_X9, (fun ix => (be_X9_best ix).map (fun q => (q.1, q.2.1, ab_sp ab_hd q.2.2))), ec_nz, ec_no)
theorem bj_X9_best (l : Launch) : ex_ok l 4 98 bx_X9_best := ⟨ec_fok fo_X9, ec_cok co_X9, so_X9, bk_X9_best l, fun _ h => (by cases h), fun _ h => (by cases h), fun _ h => (by cases h), fun _ _ h => (by cases h)⟩
def bq_X9_best : List (ab_C × List ab_Q) := [(([.inl 0, .inr ((-2147483648), 2147483647)], [], [(65, none), (75, none)], [(some ((-2147483648), 2147483647, none), [], [])]), [])]
def bc_X9_best : List ab_C := bq_X9_best.map (fun c => c.1)
def bi_X9_best : List (Nat × Instr × Nat) := [(0, .aload_n 0, 1), (1, .aload_n 0, 1), (2, .getfield 31, 3), (5, .aload_n 0, 1), (6, .getfield 21, 3), (9, .getfield 54, 3), (12, .iload_n 1, 1), (13, .invokevirtual 207, 3), (16, .invokevirtual 64, 3), (19, .ireturn, 1)]
theorem bd_X9_best : ∀ q ∈ bi_X9_best, decode cX9_best q.1 = .ok q.2 := by decide +kernel
theorem bz_X9_best : bq_X9_best.all (ab_ck ab_hd ab_xs ab_tr bx_X9_best be_X9_best bi_X9_best (some .int) 2 12) = true := by decide +kernel
theorem bm_X9_best (l : Launch) : ex_Met l yX9_best cX9_best 2 (some .int) 4 98 (ab_sp ab_hd bc_X9_best) := ab_met (by decide) (by decide) rfl (bj_X9_best l) bd_X9_best ab_hcm ab_xk bz_X9_best
theorem bw_X9_suspects : ec_cw yX9_suspects cX9_suspects 1 (some .int) := ⟨ec_in (i := 995) (by decide +kernel) rfl, ec_in (i := 58) (by decide +kernel) rfl, by decide, by decide⟩
theorem bv_X9_suspects : Cond.instanceMethod yX9_suspects ∈ ec_tb ∧ Cond.selects yX9_suspects.cls yX9_suspects yX9_suspects ∈ ec_tb := ⟨ec_in (i := 993) (by decide +kernel) rfl, ec_in (i := 994) (by decide +kernel) rfl⟩
def bx_X9_suspects : ex_K := (RX9, ec_fx fl_X9, ec_cx cl_X9, sl_X9, (fun ix => (ec_no ix).map (fun (q : Nat × Option Nat × List ab_C) => (q.1, q.2.1, ab_sp ab_hd q.2.2))), ec_nz, ec_no)
theorem bj_X9_suspects (l : Launch) : ex_ok l 0 0 bx_X9_suspects := ⟨ec_fok fo_X9, ec_cok co_X9, so_X9, fun _ _ _ _ h => (by cases h), fun _ h => (by cases h), fun _ h => (by cases h), fun _ h => (by cases h), fun _ _ h => (by cases h)⟩
def bq_X9_suspects : List (ab_C × List ab_Q) := [(([.inl 0], [], [], [(some ((-2147483648), 2147483647, none), [], [])]), [])]
def bc_X9_suspects : List ab_C := bq_X9_suspects.map (fun c => c.1)
def bi_X9_suspects : List (Nat × Instr × Nat) := [(0, .aload_n 0, 1), (1, .getfield 31, 3), (4, .getfield 211, 3), (7, .ireturn, 1)]
theorem bd_X9_suspects : ∀ q ∈ bi_X9_suspects, decode cX9_suspects q.1 = .ok q.2 := by decide +kernel
theorem bz_X9_suspects : bq_X9_suspects.all (ab_ck ab_hd ab_xs ab_tr bx_X9_suspects ec_no bi_X9_suspects (some .int) 1 6) = true := by decide +kernel
theorem bm_X9_suspects (l : Launch) : ex_Met l yX9_suspects cX9_suspects 1 (some .int) 0 0 (ab_sp ab_hd bc_X9_suspects) := ab_met (by decide) (by decide) rfl (bj_X9_suspects l) bd_X9_suspects ab_hcm ab_xk bz_X9_suspects
theorem bw_X9_read : ec_cw yX9_read cX9_read 3 (some .int) := ⟨ec_in (i := 999) (by decide +kernel) rfl, ec_in (i := 58) (by decide +kernel) rfl, by decide, by decide⟩
theorem bv_X9_read : Cond.instanceMethod yX9_read ∈ ec_tb ∧ Cond.selects yX9_read.cls yX9_read yX9_read ∈ ec_tb := ⟨ec_in (i := 997) (by decide +kernel) rfl, ec_in (i := 998) (by decide +kernel) rfl⟩
def be_X9_read : Nat → Option (Nat × Option Nat × List ab_C) := fun ix => match ix with
  | 214 => some (4, some 5, bc_X5_addReading)
  | 64 => some (2, some 9, bc_X9_counted)
  | _ => none
theorem bk_X9_read (l : Launch) : ∀ (ix n : Nat) (rc : Option Nat) (sp : ex_S), (be_X9_read ix).map (fun q => (q.1, q.2.1, ab_sp ab_hd q.2.2)) = some (n, rc, sp) → ex_cok l RX9 2 43 ix n rc sp := by
  intro ix n rc sp h
  obtain ⟨l0, h2, rfl⟩ := ab_dmk h
  clear h
  unfold be_X9_read at h2
  split at h2
  · cases h2; exact ec_cV (bm_X5_addReading l) bw_X5_addReading bv_X5_addReading (by decide) (by decide) (Or.inl (ec_in (i := 1000) (by decide +kernel) rfl)) (T := TX5) (N := 10) rfl (by decide) (by decide +kernel)
  · cases h2; exact ec_cV (bm_X9_counted l) bw_X9_counted bv_X9_counted (by decide) (by decide) (Or.inl (ec_in (i := 424) (by decide +kernel) rfl)) (T := TX9) (N := 10) rfl (by decide) (by decide +kernel)
  · cases h2
def bx_X9_read : ex_K := (RX9, ec_fx fl_X9, ec_cx cl_X9, sl_X9, (fun ix => (be_X9_read ix).map (fun q => (q.1, q.2.1, ab_sp ab_hd q.2.2))), ec_nz, ec_no)
theorem bj_X9_read (l : Launch) : ex_ok l 2 43 bx_X9_read := ⟨ec_fok fo_X9, ec_cok co_X9, so_X9, bk_X9_read l, fun _ h => (by cases h), fun _ h => (by cases h), fun _ h => (by cases h), fun _ _ h => (by cases h)⟩
def bq_X9_read : List (ab_C × List ab_Q) := [(([.inl 0, .inr ((-2147483648), 2147483647), .inr ((-2147483648), 2147483647)], [], [(66, some 7), (67, none), (68, none), (69, none), (70, none), (75, none)], [(some ((-2147483648), 2147483647, none), [], [])]), [])]
def bc_X9_read : List ab_C := bq_X9_read.map (fun c => c.1)
def bi_X9_read : List (Nat × Instr × Nat) := [(0, .aload_n 0, 1), (1, .aload_n 0, 1), (2, .getfield 38, 3), (5, .iload_n 1, 1), (6, .iload_n 2, 1), (7, .aload_n 0, 1), (8, .getfield 21, 3), (11, .getfield 152, 3), (14, .invokevirtual 214, 3), (17, .invokevirtual 64, 3), (20, .ireturn, 1)]
theorem bd_X9_read : ∀ q ∈ bi_X9_read, decode cX9_read q.1 = .ok q.2 := by decide +kernel
theorem bz_X9_read : bq_X9_read.all (ab_ck ab_hd ab_xs ab_tr bx_X9_read be_X9_read bi_X9_read (some .int) 3 13) = true := by decide +kernel
theorem bm_X9_read (l : Launch) : ex_Met l yX9_read cX9_read 3 (some .int) 2 43 (ab_sp ab_hd bc_X9_read) := ab_met (by decide) (by decide) rfl (bj_X9_read l) bd_X9_read ab_hcm ab_xk bz_X9_read
theorem bw_X9_calibrate : ec_cw yX9_calibrate cX9_calibrate 3 (some .int) := ⟨ec_in (i := 1012) (by decide +kernel) rfl, ec_in (i := 58) (by decide +kernel) rfl, by decide, by decide⟩
theorem bv_X9_calibrate : Cond.instanceMethod yX9_calibrate ∈ ec_tb ∧ Cond.selects yX9_calibrate.cls yX9_calibrate yX9_calibrate ∈ ec_tb := ⟨ec_in (i := 1010) (by decide +kernel) rfl, ec_in (i := 1011) (by decide +kernel) rfl⟩
def be_X9_calibrate : Nat → Option (Nat × Option Nat × List ab_C) := fun ix => match ix with
  | 217 => some (4, some 5, bc_X5_addCalibration)
  | 64 => some (2, some 9, bc_X9_counted)
  | _ => none
theorem bk_X9_calibrate (l : Launch) : ∀ (ix n : Nat) (rc : Option Nat) (sp : ex_S), (be_X9_calibrate ix).map (fun q => (q.1, q.2.1, ab_sp ab_hd q.2.2)) = some (n, rc, sp) → ex_cok l RX9 2 43 ix n rc sp := by
  intro ix n rc sp h
  obtain ⟨l0, h2, rfl⟩ := ab_dmk h
  clear h
  unfold be_X9_calibrate at h2
  split at h2
  · cases h2; exact ec_cV (bm_X5_addCalibration l) bw_X5_addCalibration bv_X5_addCalibration (by decide) (by decide) (Or.inl (ec_in (i := 1013) (by decide +kernel) rfl)) (T := TX5) (N := 10) rfl (by decide) (by decide +kernel)
  · cases h2; exact ec_cV (bm_X9_counted l) bw_X9_counted bv_X9_counted (by decide) (by decide) (Or.inl (ec_in (i := 424) (by decide +kernel) rfl)) (T := TX9) (N := 10) rfl (by decide) (by decide +kernel)
  · cases h2
def bx_X9_calibrate : ex_K := (RX9, ec_fx fl_X9, ec_cx cl_X9, sl_X9, (fun ix => (be_X9_calibrate ix).map (fun q => (q.1, q.2.1, ab_sp ab_hd q.2.2))), ec_nz, ec_no)
theorem bj_X9_calibrate (l : Launch) : ex_ok l 2 43 bx_X9_calibrate := ⟨ec_fok fo_X9, ec_cok co_X9, so_X9, bk_X9_calibrate l, fun _ h => (by cases h), fun _ h => (by cases h), fun _ h => (by cases h), fun _ _ h => (by cases h)⟩
def bq_X9_calibrate : List (ab_C × List ab_Q) := [(([.inl 0, .inr ((-2147483648), 2147483647), .inr ((-2147483648), 2147483647)], [], [(66, some 8), (71, none), (72, none), (73, none), (75, none)], [(some ((-2147483648), 2147483647, none), [], [])]), [])]
def bc_X9_calibrate : List ab_C := bq_X9_calibrate.map (fun c => c.1)
def bi_X9_calibrate : List (Nat × Instr × Nat) := [(0, .aload_n 0, 1), (1, .aload_n 0, 1), (2, .getfield 38, 3), (5, .iload_n 1, 1), (6, .iload_n 2, 1), (7, .aload_n 0, 1), (8, .getfield 21, 3), (11, .getfield 152, 3), (14, .invokevirtual 217, 3), (17, .invokevirtual 64, 3), (20, .ireturn, 1)]
theorem bd_X9_calibrate : ∀ q ∈ bi_X9_calibrate, decode cX9_calibrate q.1 = .ok q.2 := by decide +kernel
theorem bz_X9_calibrate : bq_X9_calibrate.all (ab_ck ab_hd ab_xs ab_tr bx_X9_calibrate be_X9_calibrate bi_X9_calibrate (some .int) 3 13) = true := by decide +kernel
theorem bm_X9_calibrate (l : Launch) : ex_Met l yX9_calibrate cX9_calibrate 3 (some .int) 2 43 (ab_sp ab_hd bc_X9_calibrate) := ab_met (by decide) (by decide) rfl (bj_X9_calibrate l) bd_X9_calibrate ab_hcm ab_xk bz_X9_calibrate
theorem bw_X9_worked : ec_cw yX9_worked cX9_worked 2 (some .int) := ⟨ec_in (i := 1020) (by decide +kernel) rfl, ec_in (i := 58) (by decide +kernel) rfl, by decide, by decide⟩
theorem bv_X9_worked : Cond.instanceMethod yX9_worked ∈ ec_tb ∧ Cond.selects yX9_worked.cls yX9_worked yX9_worked ∈ ec_tb := ⟨ec_in (i := 1018) (by decide +kernel) rfl, ec_in (i := 1019) (by decide +kernel) rfl⟩
def be_X9_worked : Nat → Option (Nat × Option Nat × List ab_C) := fun ix => match ix with
  | 220 => some (2, some 5, bc_X5_workedBack)
  | 64 => some (2, some 9, bc_X9_counted)
  | _ => none
theorem bk_X9_worked (l : Launch) : ∀ (ix n : Nat) (rc : Option Nat) (sp : ex_S), (be_X9_worked ix).map (fun q => (q.1, q.2.1, ab_sp ab_hd q.2.2)) = some (n, rc, sp) → ex_cok l RX9 3 71 ix n rc sp := by
  intro ix n rc sp h
  obtain ⟨l0, h2, rfl⟩ := ab_dmk h
  clear h
  unfold be_X9_worked at h2
  split at h2
  · cases h2; exact ec_cV (bm_X5_workedBack l) bw_X5_workedBack bv_X5_workedBack (by decide) (by decide) (Or.inl (ec_in (i := 1021) (by decide +kernel) rfl)) (T := TX5) (N := 10) rfl (by decide) (by decide +kernel)
  · cases h2; exact ec_cV (bm_X9_counted l) bw_X9_counted bv_X9_counted (by decide) (by decide) (Or.inl (ec_in (i := 424) (by decide +kernel) rfl)) (T := TX9) (N := 10) rfl (by decide) (by decide +kernel)
  · cases h2
def bx_X9_worked : ex_K := (RX9, ec_fx fl_X9, ec_cx cl_X9, sl_X9, (fun ix => (be_X9_worked ix).map (fun q => (q.1, q.2.1, ab_sp ab_hd q.2.2))), ec_nz, ec_no)
theorem bj_X9_worked (l : Launch) : ex_ok l 3 71 bx_X9_worked := ⟨ec_fok fo_X9, ec_cok co_X9, so_X9, bk_X9_worked l, fun _ h => (by cases h), fun _ h => (by cases h), fun _ h => (by cases h), fun _ _ h => (by cases h)⟩
def bq_X9_worked : List (ab_C × List ab_Q) := [(([.inl 0, .inr ((-2147483648), 2147483647)], [], [(75, none)], [(some ((-2147483648), 2147483647, none), [], [])]), [])]
def bc_X9_worked : List ab_C := bq_X9_worked.map (fun c => c.1)
def bi_X9_worked : List (Nat × Instr × Nat) := [(0, .aload_n 0, 1), (1, .aload_n 0, 1), (2, .getfield 38, 3), (5, .iload_n 1, 1), (6, .invokevirtual 220, 3), (9, .invokevirtual 64, 3), (12, .ireturn, 1)]
theorem bd_X9_worked : ∀ q ∈ bi_X9_worked, decode cX9_worked q.1 = .ok q.2 := by decide +kernel
theorem bz_X9_worked : bq_X9_worked.all (ab_ck ab_hd ab_xs ab_tr bx_X9_worked be_X9_worked bi_X9_worked (some .int) 2 9) = true := by decide +kernel
theorem bm_X9_worked (l : Launch) : ex_Met l yX9_worked cX9_worked 2 (some .int) 3 71 (ab_sp ab_hd bc_X9_worked) := ab_met (by decide) (by decide) rfl (bj_X9_worked l) bd_X9_worked ab_hcm ab_xk bz_X9_worked
theorem bw_X9_delay : ec_cw yX9_delay cX9_delay 2 (some .int) := ⟨ec_in (i := 1036) (by decide +kernel) rfl, ec_in (i := 58) (by decide +kernel) rfl, by decide, by decide⟩
theorem bv_X9_delay : Cond.instanceMethod yX9_delay ∈ ec_tb ∧ Cond.selects yX9_delay.cls yX9_delay yX9_delay ∈ ec_tb := ⟨ec_in (i := 1034) (by decide +kernel) rfl, ec_in (i := 1035) (by decide +kernel) rfl⟩
def be_X9_delay : Nat → Option (Nat × Option Nat × List ab_C) := fun ix => match ix with
  | 223 => some (2, some 5, bc_X5_setDelay)
  | 64 => some (2, some 9, bc_X9_counted)
  | _ => none
theorem bk_X9_delay (l : Launch) : ∀ (ix n : Nat) (rc : Option Nat) (sp : ex_S), (be_X9_delay ix).map (fun q => (q.1, q.2.1, ab_sp ab_hd q.2.2)) = some (n, rc, sp) → ex_cok l RX9 1 22 ix n rc sp := by
  intro ix n rc sp h
  obtain ⟨l0, h2, rfl⟩ := ab_dmk h
  clear h
  unfold be_X9_delay at h2
  split at h2
  · cases h2; exact ec_cV (bm_X5_setDelay l) bw_X5_setDelay bv_X5_setDelay (by decide) (by decide) (Or.inl (ec_in (i := 1037) (by decide +kernel) rfl)) (T := TX5) (N := 10) rfl (by decide) (by decide +kernel)
  · cases h2; exact ec_cV (bm_X9_counted l) bw_X9_counted bv_X9_counted (by decide) (by decide) (Or.inl (ec_in (i := 424) (by decide +kernel) rfl)) (T := TX9) (N := 10) rfl (by decide) (by decide +kernel)
  · cases h2
def bx_X9_delay : ex_K := (RX9, ec_fx fl_X9, ec_cx cl_X9, sl_X9, (fun ix => (be_X9_delay ix).map (fun q => (q.1, q.2.1, ab_sp ab_hd q.2.2))), ec_nz, ec_no)
theorem bj_X9_delay (l : Launch) : ex_ok l 1 22 bx_X9_delay := ⟨ec_fok fo_X9, ec_cok co_X9, so_X9, bk_X9_delay l, fun _ h => (by cases h), fun _ h => (by cases h), fun _ h => (by cases h), fun _ _ h => (by cases h)⟩
def bq_X9_delay : List (ab_C × List ab_Q) := [(([.inl 0, .inr ((-2147483648), 2147483647)], [], [(66, some 9), (75, none)], [(some ((-2147483648), 2147483647, none), [], [])]), [])]
def bc_X9_delay : List ab_C := bq_X9_delay.map (fun c => c.1)
def bi_X9_delay : List (Nat × Instr × Nat) := [(0, .aload_n 0, 1), (1, .aload_n 0, 1), (2, .getfield 38, 3), (5, .iload_n 1, 1), (6, .invokevirtual 223, 3), (9, .invokevirtual 64, 3), (12, .ireturn, 1)]
theorem bd_X9_delay : ∀ q ∈ bi_X9_delay, decode cX9_delay q.1 = .ok q.2 := by decide +kernel
theorem bz_X9_delay : bq_X9_delay.all (ab_ck ab_hd ab_xs ab_tr bx_X9_delay be_X9_delay bi_X9_delay (some .int) 2 9) = true := by decide +kernel
theorem bm_X9_delay (l : Launch) : ex_Met l yX9_delay cX9_delay 2 (some .int) 1 22 (ab_sp ab_hd bc_X9_delay) := ab_met (by decide) (by decide) rfl (bj_X9_delay l) bd_X9_delay ab_hcm ab_xk bz_X9_delay
theorem bw_X9_known : ec_cw yX9_known cX9_known 3 (some .int) := ⟨ec_in (i := 1044) (by decide +kernel) rfl, ec_in (i := 58) (by decide +kernel) rfl, by decide, by decide⟩
theorem bv_X9_known : Cond.instanceMethod yX9_known ∈ ec_tb ∧ Cond.selects yX9_known.cls yX9_known yX9_known ∈ ec_tb := ⟨ec_in (i := 1042) (by decide +kernel) rfl, ec_in (i := 1043) (by decide +kernel) rfl⟩
def be_X9_known : Nat → Option (Nat × Option Nat × List ab_C) := fun ix => match ix with
  | 226 => some (3, some 5, bc_X5_latestHeard)
  | 64 => some (2, some 9, bc_X9_counted)
  | _ => none
theorem bk_X9_known (l : Launch) : ∀ (ix n : Nat) (rc : Option Nat) (sp : ex_S), (be_X9_known ix).map (fun q => (q.1, q.2.1, ab_sp ab_hd q.2.2)) = some (n, rc, sp) → ex_cok l RX9 2 43 ix n rc sp := by
  intro ix n rc sp h
  obtain ⟨l0, h2, rfl⟩ := ab_dmk h
  clear h
  unfold be_X9_known at h2
  split at h2
  · cases h2; exact ec_cV (bm_X5_latestHeard l) bw_X5_latestHeard bv_X5_latestHeard (by decide) (by decide) (Or.inl (ec_in (i := 1045) (by decide +kernel) rfl)) (T := TX5) (N := 10) rfl (by decide) (by decide +kernel)
  · cases h2; exact ec_cV (bm_X9_counted l) bw_X9_counted bv_X9_counted (by decide) (by decide) (Or.inl (ec_in (i := 424) (by decide +kernel) rfl)) (T := TX9) (N := 10) rfl (by decide) (by decide +kernel)
  · cases h2
def bx_X9_known : ex_K := (RX9, ec_fx fl_X9, ec_cx cl_X9, sl_X9, (fun ix => (be_X9_known ix).map (fun q => (q.1, q.2.1, ab_sp ab_hd q.2.2))), ec_nz, ec_no)
theorem bj_X9_known (l : Launch) : ex_ok l 2 43 bx_X9_known := ⟨ec_fok fo_X9, ec_cok co_X9, so_X9, bk_X9_known l, fun _ h => (by cases h), fun _ h => (by cases h), fun _ h => (by cases h), fun _ _ h => (by cases h)⟩
def bq_X9_known : List (ab_C × List ab_Q) := [(([.inl 0, .inr ((-2147483648), 2147483647), .inr ((-2147483648), 2147483647)], [], [(75, none)], [(some ((-2147483648), 2147483647, none), [], [])]), [])]
def bc_X9_known : List ab_C := bq_X9_known.map (fun c => c.1)
def bi_X9_known : List (Nat × Instr × Nat) := [(0, .aload_n 0, 1), (1, .aload_n 0, 1), (2, .getfield 38, 3), (5, .iload_n 1, 1), (6, .iload_n 2, 1), (7, .invokevirtual 226, 3), (10, .invokevirtual 64, 3), (13, .ireturn, 1)]
theorem bd_X9_known : ∀ q ∈ bi_X9_known, decode cX9_known q.1 = .ok q.2 := by decide +kernel
theorem bz_X9_known : bq_X9_known.all (ab_ck ab_hd ab_xs ab_tr bx_X9_known be_X9_known bi_X9_known (some .int) 3 10) = true := by decide +kernel
theorem bm_X9_known (l : Launch) : ex_Met l yX9_known cX9_known 3 (some .int) 2 43 (ab_sp ab_hd bc_X9_known) := ab_met (by decide) (by decide) rfl (bj_X9_known l) bd_X9_known ab_hcm ab_xk bz_X9_known
theorem bw_X9_isMass : ec_cw yX9_isMass cX9_isMass 1 (some .boolean) := ⟨ec_in (i := 1060) (by decide +kernel) rfl, ec_in (i := 58) (by decide +kernel) rfl, by decide, by decide⟩
theorem bv_X9_isMass : Cond.static yX9_isMass ∈ ec_tb := ec_in (i := 1059) (by decide +kernel) rfl
def bx_X9_isMass : ex_K := (RX9, ec_fx fl_X9, ec_cx cl_X9, sl_X9, (fun ix => (ec_no ix).map (fun (q : Nat × Option Nat × List ab_C) => (q.1, q.2.1, ab_sp ab_hd q.2.2))), ec_nz, ec_no)
theorem bj_X9_isMass (l : Launch) : ex_ok l 0 0 bx_X9_isMass := ⟨ec_fok fo_X9, ec_cok co_X9, so_X9, fun _ _ _ _ h => (by cases h), fun _ h => (by cases h), fun _ h => (by cases h), fun _ h => (by cases h), fun _ _ h => (by cases h)⟩
def bq_X9_isMass : List (ab_C × List ab_Q) := [(([.inr ((-2147483648), 2147483647)], [], [], [(some (0, 0, none), [], []), (some (1, 1, none), [((0, 0, 0), 1, 10000000, none)], [])]), [])]
def bc_X9_isMass : List ab_C := bq_X9_isMass.map (fun c => c.1)
def bi_X9_isMass : List (Nat × Instr × Nat) := [(0, .iload_n 0, 1), (1, .iconst 1, 1), (2, .if_icmp .lt 13, 3), (5, .iload_n 0, 1), (6, .ldc 241, 2), (8, .if_icmp .gt 7, 3), (11, .iconst 1, 1), (12, .goto 4, 3), (15, .iconst 0, 1), (16, .ireturn, 1)]
theorem bd_X9_isMass : ∀ q ∈ bi_X9_isMass, decode cX9_isMass q.1 = .ok q.2 := by decide +kernel
theorem bz_X9_isMass : bq_X9_isMass.all (ab_ck ab_hd ab_xs ab_tr bx_X9_isMass ec_no bi_X9_isMass (some .boolean) 1 11) = true := by decide +kernel
theorem bm_X9_isMass (l : Launch) : ex_Met l yX9_isMass cX9_isMass 1 (some .boolean) 0 0 (ab_sp ab_hd bc_X9_isMass) := ab_met (by decide) (by decide) rfl (bj_X9_isMass l) bd_X9_isMass ab_hcm ab_xk bz_X9_isMass
theorem bw_X9_setMass : ec_cw yX9_setMass cX9_setMass 3 (some .int) := ⟨ec_in (i := 1057) (by decide +kernel) rfl, ec_in (i := 58) (by decide +kernel) rfl, by decide, by decide⟩
theorem bv_X9_setMass : Cond.instanceMethod yX9_setMass ∈ ec_tb ∧ Cond.selects yX9_setMass.cls yX9_setMass yX9_setMass ∈ ec_tb := ⟨ec_in (i := 1056) (by decide +kernel) rfl, ec_in (i := 24) (by decide +kernel) rfl⟩
def be_X9_setMass : Nat → Option (Nat × Option Nat × List ab_C) := fun ix => match ix with
  | 235 => some (1, none, bc_X9_isMass)
  | _ => none
theorem bk_X9_setMass (l : Launch) : ∀ (ix n : Nat) (rc : Option Nat) (sp : ex_S), (be_X9_setMass ix).map (fun q => (q.1, q.2.1, ab_sp ab_hd q.2.2)) = some (n, rc, sp) → ex_cok l RX9 1 20 ix n rc sp := by
  intro ix n rc sp h
  obtain ⟨l0, h2, rfl⟩ := ab_dmk h
  clear h
  unfold be_X9_setMass at h2
  split at h2
  · cases h2; exact ec_cS (bm_X9_isMass l) bw_X9_isMass bv_X9_isMass (by decide) (by decide) (Or.inl (ec_in (i := 1058) (by decide +kernel) rfl)) (by decide +kernel)
  · cases h2
def bx_X9_setMass : ex_K := (RX9, ec_fx fl_X9, ec_cx cl_X9, sl_X9, (fun ix => (be_X9_setMass ix).map (fun q => (q.1, q.2.1, ab_sp ab_hd q.2.2))), ec_nz, ec_no)
theorem bj_X9_setMass (l : Launch) : ex_ok l 1 20 bx_X9_setMass := ⟨ec_fok fo_X9, ec_cok co_X9, so_X9, bk_X9_setMass l, fun _ h => (by cases h), fun _ h => (by cases h), fun _ h => (by cases h), fun _ _ h => (by cases h)⟩
def bq_X9_setMass : List (ab_C × List ab_Q) := [(([.inl 0, .inr ((-2147483648), 2147483647)], [], [(0, some 8)], [(some ((-2147483648), 2147483647, none), [], [])]), [])]
def bc_X9_setMass : List ab_C := bq_X9_setMass.map (fun c => c.1)
def bi_X9_setMass : List (Nat × Instr × Nat) := [(0, .iload_n 1, 1), (1, .ldc_w 275, 3), (4, .if_icmp .eq 13, 3), (7, .iload_n 1, 1), (8, .invokestatic 235, 3), (11, .ifCond .ne 6, 3), (14, .ldc 92, 2), (16, .ireturn, 1), (17, .aload_n 0, 1), (18, .getfield 50, 3), (21, .istore_n 2, 1), (22, .iload_n 1, 1), (23, .ldc_w 275, 3), (26, .if_icmp .eq 8, 3), (29, .aload_n 0, 1), (30, .iload_n 1, 1), (31, .putfield 50, 3), (34, .iload_n 2, 1), (35, .ireturn, 1)]
theorem bd_X9_setMass : ∀ q ∈ bi_X9_setMass, decode cX9_setMass q.1 = .ok q.2 := by decide +kernel
theorem bz_X9_setMass : bq_X9_setMass.all (ab_ck ab_hd ab_xs ab_tr bx_X9_setMass be_X9_setMass bi_X9_setMass (some .int) 3 19) = true := by decide +kernel
theorem bm_X9_setMass (l : Launch) : ex_Met l yX9_setMass cX9_setMass 3 (some .int) 1 20 (ab_sp ab_hd bc_X9_setMass) := ab_met (by decide) (by decide) rfl (bj_X9_setMass l) bd_X9_setMass ab_hcm ab_xk bz_X9_setMass
theorem bw_X9_isSpeed : ec_cw yX9_isSpeed cX9_isSpeed 1 (some .boolean) := ⟨ec_in (i := 1068) (by decide +kernel) rfl, ec_in (i := 58) (by decide +kernel) rfl, by decide, by decide⟩
theorem bv_X9_isSpeed : Cond.static yX9_isSpeed ∈ ec_tb := ec_in (i := 1067) (by decide +kernel) rfl
def bx_X9_isSpeed : ex_K := (RX9, ec_fx fl_X9, ec_cx cl_X9, sl_X9, (fun ix => (ec_no ix).map (fun (q : Nat × Option Nat × List ab_C) => (q.1, q.2.1, ab_sp ab_hd q.2.2))), ec_nz, ec_no)
theorem bj_X9_isSpeed (l : Launch) : ex_ok l 0 0 bx_X9_isSpeed := ⟨ec_fok fo_X9, ec_cok co_X9, so_X9, fun _ _ _ _ h => (by cases h), fun _ h => (by cases h), fun _ h => (by cases h), fun _ h => (by cases h), fun _ _ h => (by cases h)⟩
def bq_X9_isSpeed : List (ab_C × List ab_Q) := [(([.inr ((-2147483648), 2147483647)], [], [], [(some (0, 0, none), [], []), (some (1, 1, none), [((0, 0, 0), (-1000), 1000, none)], [])]), [])]
def bc_X9_isSpeed : List ab_C := bq_X9_isSpeed.map (fun c => c.1)
def bi_X9_isSpeed : List (Nat × Instr × Nat) := [(0, .iload_n 0, 1), (1, .sipush (-1000), 3), (4, .if_icmp .lt 14, 3), (7, .iload_n 0, 1), (8, .sipush 1000, 3), (11, .if_icmp .gt 7, 3), (14, .iconst 1, 1), (15, .goto 4, 3), (18, .iconst 0, 1), (19, .ireturn, 1)]
theorem bd_X9_isSpeed : ∀ q ∈ bi_X9_isSpeed, decode cX9_isSpeed q.1 = .ok q.2 := by decide +kernel
theorem bz_X9_isSpeed : bq_X9_isSpeed.all (ab_ck ab_hd ab_xs ab_tr bx_X9_isSpeed ec_no bi_X9_isSpeed (some .boolean) 1 11) = true := by decide +kernel
theorem bm_X9_isSpeed (l : Launch) : ex_Met l yX9_isSpeed cX9_isSpeed 1 (some .boolean) 0 0 (ab_sp ab_hd bc_X9_isSpeed) := ab_met (by decide) (by decide) rfl (bj_X9_isSpeed l) bd_X9_isSpeed ab_hcm ab_xk bz_X9_isSpeed
theorem bw_X9_setSpeed : ec_cw yX9_setSpeed cX9_setSpeed 3 (some .int) := ⟨ec_in (i := 1065) (by decide +kernel) rfl, ec_in (i := 58) (by decide +kernel) rfl, by decide, by decide⟩
theorem bv_X9_setSpeed : Cond.instanceMethod yX9_setSpeed ∈ ec_tb ∧ Cond.selects yX9_setSpeed.cls yX9_setSpeed yX9_setSpeed ∈ ec_tb := ⟨ec_in (i := 1064) (by decide +kernel) rfl, ec_in (i := 25) (by decide +kernel) rfl⟩
def be_X9_setSpeed : Nat → Option (Nat × Option Nat × List ab_C) := fun ix => match ix with
  | 238 => some (1, none, bc_X9_isSpeed)
  | _ => none
theorem bk_X9_setSpeed (l : Launch) : ∀ (ix n : Nat) (rc : Option Nat) (sp : ex_S), (be_X9_setSpeed ix).map (fun q => (q.1, q.2.1, ab_sp ab_hd q.2.2)) = some (n, rc, sp) → ex_cok l RX9 1 20 ix n rc sp := by
  intro ix n rc sp h
  obtain ⟨l0, h2, rfl⟩ := ab_dmk h
  clear h
  unfold be_X9_setSpeed at h2
  split at h2
  · cases h2; exact ec_cS (bm_X9_isSpeed l) bw_X9_isSpeed bv_X9_isSpeed (by decide) (by decide) (Or.inl (ec_in (i := 1066) (by decide +kernel) rfl)) (by decide +kernel)
  · cases h2
def bx_X9_setSpeed : ex_K := (RX9, ec_fx fl_X9, ec_cx cl_X9, sl_X9, (fun ix => (be_X9_setSpeed ix).map (fun q => (q.1, q.2.1, ab_sp ab_hd q.2.2))), ec_nz, ec_no)
theorem bj_X9_setSpeed (l : Launch) : ex_ok l 1 20 bx_X9_setSpeed := ⟨ec_fok fo_X9, ec_cok co_X9, so_X9, bk_X9_setSpeed l, fun _ h => (by cases h), fun _ h => (by cases h), fun _ h => (by cases h), fun _ _ h => (by cases h)⟩
def bq_X9_setSpeed : List (ab_C × List ab_Q) := [(([.inl 0, .inr ((-2147483648), 2147483647)], [], [(0, some 9)], [(some ((-2147483648), 2147483647, none), [], [])]), [])]
def bc_X9_setSpeed : List ab_C := bq_X9_setSpeed.map (fun c => c.1)
def bi_X9_setSpeed : List (Nat × Instr × Nat) := [(0, .iload_n 1, 1), (1, .ldc_w 275, 3), (4, .if_icmp .eq 13, 3), (7, .iload_n 1, 1), (8, .invokestatic 238, 3), (11, .ifCond .ne 6, 3), (14, .ldc 92, 2), (16, .ireturn, 1), (17, .aload_n 0, 1), (18, .getfield 242, 3), (21, .istore_n 2, 1), (22, .iload_n 1, 1), (23, .ldc_w 275, 3), (26, .if_icmp .eq 8, 3), (29, .aload_n 0, 1), (30, .iload_n 1, 1), (31, .putfield 242, 3), (34, .iload_n 2, 1), (35, .ireturn, 1)]
theorem bd_X9_setSpeed : ∀ q ∈ bi_X9_setSpeed, decode cX9_setSpeed q.1 = .ok q.2 := by decide +kernel
theorem bz_X9_setSpeed : bq_X9_setSpeed.all (ab_ck ab_hd ab_xs ab_tr bx_X9_setSpeed be_X9_setSpeed bi_X9_setSpeed (some .int) 3 19) = true := by decide +kernel
theorem bm_X9_setSpeed (l : Launch) : ex_Met l yX9_setSpeed cX9_setSpeed 3 (some .int) 1 20 (ab_sp ab_hd bc_X9_setSpeed) := ab_met (by decide) (by decide) rfl (bj_X9_setSpeed l) bd_X9_setSpeed ab_hcm ab_xk bz_X9_setSpeed
theorem bw_X9_mass : ec_cw yX9_mass cX9_mass 3 (some .int) := ⟨ec_in (i := 1053) (by decide +kernel) rfl, ec_in (i := 58) (by decide +kernel) rfl, by decide, by decide⟩
theorem bv_X9_mass : Cond.instanceMethod yX9_mass ∈ ec_tb ∧ Cond.selects yX9_mass.cls yX9_mass yX9_mass ∈ ec_tb := ⟨ec_in (i := 1051) (by decide +kernel) rfl, ec_in (i := 1052) (by decide +kernel) rfl⟩
def be_X9_mass : Nat → Option (Nat × Option Nat × List ab_C) := fun ix => match ix with
  | 229 => some (2, some 9, bc_X9_setMass)
  | 64 => some (2, some 9, bc_X9_counted)
  | 232 => some (2, some 9, bc_X9_setSpeed)
  | _ => none
theorem bk_X9_mass (l : Launch) : ∀ (ix n : Nat) (rc : Option Nat) (sp : ex_S), (be_X9_mass ix).map (fun q => (q.1, q.2.1, ab_sp ab_hd q.2.2)) = some (n, rc, sp) → ex_cok l RX9 2 42 ix n rc sp := by
  intro ix n rc sp h
  obtain ⟨l0, h2, rfl⟩ := ab_dmk h
  clear h
  unfold be_X9_mass at h2
  split at h2
  · cases h2; exact ec_cV (bm_X9_setMass l) bw_X9_setMass bv_X9_setMass (by decide) (by decide) (Or.inl (ec_in (i := 1054) (by decide +kernel) rfl)) (T := TX9) (N := 10) rfl (by decide) (by decide +kernel)
  · cases h2; exact ec_cV (bm_X9_counted l) bw_X9_counted bv_X9_counted (by decide) (by decide) (Or.inl (ec_in (i := 424) (by decide +kernel) rfl)) (T := TX9) (N := 10) rfl (by decide) (by decide +kernel)
  · cases h2; exact ec_cV (bm_X9_setSpeed l) bw_X9_setSpeed bv_X9_setSpeed (by decide) (by decide) (Or.inl (ec_in (i := 1062) (by decide +kernel) rfl)) (T := TX9) (N := 10) rfl (by decide) (by decide +kernel)
  · cases h2
def bx_X9_mass : ex_K := (RX9, ec_fx fl_X9, ec_cx cl_X9, sl_X9, (fun ix => (be_X9_mass ix).map (fun q => (q.1, q.2.1, ab_sp ab_hd q.2.2))), ec_nz, ec_no)
theorem bj_X9_mass (l : Launch) : ex_ok l 2 42 bx_X9_mass := ⟨ec_fok fo_X9, ec_cok co_X9, so_X9, bk_X9_mass l, fun _ h => (by cases h), fun _ h => (by cases h), fun _ h => (by cases h), fun _ _ h => (by cases h)⟩
def bq_X9_mass : List (ab_C × List ab_Q) := [(([.inl 0, .inr ((-2147483648), 2147483647), .inr ((-2147483648), 2147483647)], [], [(0, some 8), (0, some 9), (75, none)], [(some ((-2147483648), 2147483647, none), [], [])]), [])]
def bc_X9_mass : List ab_C := bq_X9_mass.map (fun c => c.1)
def bi_X9_mass : List (Nat × Instr × Nat) := [(0, .iload_n 1, 1), (1, .ifCond .ne 13, 3), (4, .aload_n 0, 1), (5, .aload_n 0, 1), (6, .iload_n 2, 1), (7, .invokevirtual 229, 3), (10, .invokevirtual 64, 3), (13, .ireturn, 1), (14, .iload_n 1, 1), (15, .iconst 1, 1), (16, .if_icmp .ne 13, 3), (19, .aload_n 0, 1), (20, .aload_n 0, 1), (21, .iload_n 2, 1), (22, .invokevirtual 232, 3), (25, .invokevirtual 64, 3), (28, .ireturn, 1), (29, .aload_n 0, 1), (30, .ldc 92, 2), (32, .invokevirtual 64, 3), (35, .ireturn, 1)]
theorem bd_X9_mass : ∀ q ∈ bi_X9_mass, decode cX9_mass q.1 = .ok q.2 := by decide +kernel
theorem bz_X9_mass : bq_X9_mass.all (ab_ck ab_hd ab_xs ab_tr bx_X9_mass be_X9_mass bi_X9_mass (some .int) 3 13) = true := by decide +kernel
theorem bm_X9_mass (l : Launch) : ex_Met l yX9_mass cX9_mass 3 (some .int) 2 42 (ab_sp ab_hd bc_X9_mass) := ab_met (by decide) (by decide) rfl (bj_X9_mass l) bd_X9_mass ab_hcm ab_xk bz_X9_mass
theorem bw_X9_dock : ec_cw yX9_dock cX9_dock 6 (some .int) := ⟨ec_in (i := 1072) (by decide +kernel) rfl, ec_in (i := 58) (by decide +kernel) rfl, by decide, by decide⟩
theorem bv_X9_dock : Cond.instanceMethod yX9_dock ∈ ec_tb ∧ Cond.selects yX9_dock.cls yX9_dock yX9_dock ∈ ec_tb := ⟨ec_in (i := 1070) (by decide +kernel) rfl, ec_in (i := 1071) (by decide +kernel) rfl⟩
def be_X9_dock : Nat → Option (Nat × Option Nat × List ab_C) := fun ix => match ix with
  | 235 => some (1, none, bc_X9_isMass)
  | 238 => some (1, none, bc_X9_isSpeed)
  | 64 => some (2, some 9, bc_X9_counted)
  | _ => none
theorem bk_X9_dock (l : Launch) : ∀ (ix n : Nat) (rc : Option Nat) (sp : ex_S), (be_X9_dock ix).map (fun q => (q.1, q.2.1, ab_sp ab_hd q.2.2)) = some (n, rc, sp) → ex_cok l RX9 1 21 ix n rc sp := by
  intro ix n rc sp h
  obtain ⟨l0, h2, rfl⟩ := ab_dmk h
  clear h
  unfold be_X9_dock at h2
  split at h2
  · cases h2; exact ec_cS (bm_X9_isMass l) bw_X9_isMass bv_X9_isMass (by decide) (by decide) (Or.inl (ec_in (i := 1058) (by decide +kernel) rfl)) (by decide +kernel)
  · cases h2; exact ec_cS (bm_X9_isSpeed l) bw_X9_isSpeed bv_X9_isSpeed (by decide) (by decide) (Or.inl (ec_in (i := 1066) (by decide +kernel) rfl)) (by decide +kernel)
  · cases h2; exact ec_cV (bm_X9_counted l) bw_X9_counted bv_X9_counted (by decide) (by decide) (Or.inl (ec_in (i := 424) (by decide +kernel) rfl)) (T := TX9) (N := 10) rfl (by decide) (by decide +kernel)
  · cases h2
def bx_X9_dock : ex_K := (RX9, ec_fx fl_X9, ec_cx cl_X9, sl_X9, (fun ix => (be_X9_dock ix).map (fun q => (q.1, q.2.1, ab_sp ab_hd q.2.2))), ec_nz, ec_no)
theorem bj_X9_dock (l : Launch) : ex_ok l 1 21 bx_X9_dock := ⟨ec_fok fo_X9, ec_cok co_X9, so_X9, bk_X9_dock l, fun _ h => (by cases h), fun _ h => (by cases h), fun _ h => (by cases h), fun _ _ h => (by cases h)⟩
def bq_X9_dock : List (ab_C × List ab_Q) := [(([.inl 0, .inr ((-2147483648), 2147483647), .inr ((-2147483648), 2147483647)], [], [(0, some 8), (0, some 9), (75, some 1), (75, some 3)], [(some ((-2147483648), 2147483647, none), [], [])]), [])]
def bc_X9_dock : List ab_C := bq_X9_dock.map (fun c => c.1)
def bi_X9_dock : List (Nat × Instr × Nat) := [(0, .iload_n 1, 1), (1, .invokestatic 235, 3), (4, .ifCond .eq 10, 3), (7, .iload_n 2, 1), (8, .invokestatic 238, 3), (11, .ifCond .ne 10, 3), (14, .aload_n 0, 1), (15, .ldc 92, 2), (17, .invokevirtual 64, 3), (20, .ireturn, 1), (21, .aload_n 0, 1), (22, .getfield 50, 3), (25, .iload_n 1, 1), (26, .iadd, 1), (27, .istore_n 3, 1), (28, .iload_n 3, 1), (29, .ldc 241, 2), (31, .if_icmp .le 10, 3), (34, .aload_n 0, 1), (35, .ldc 177, 2), (37, .invokevirtual 64, 3), (40, .ireturn, 1), (41, .aload_n 0, 1), (42, .getfield 50, 3), (45, .i2l, 1), (46, .aload_n 0, 1), (47, .getfield 242, 3), (50, .i2l, 1), (51, .lmul, 1), (52, .iload_n 1, 1), (53, .i2l, 1), (54, .iload_n 2, 1), (55, .i2l, 1), (56, .lmul, 1), (57, .ladd, 1), (58, .lstore 4, 2), (60, .aload_n 0, 1), (61, .lload 4, 2), (63, .iload_n 3, 1), (64, .i2l, 1), (65, .ldiv, 1), (66, .l2i, 1), (67, .putfield 242, 3), (70, .aload_n 0, 1), (71, .iload_n 3, 1), (72, .putfield 50, 3), (75, .aload_n 0, 1), (76, .getfield 242, 3), (79, .ireturn, 1)]
theorem bd_X9_dock : ∀ q ∈ bi_X9_dock, decode cX9_dock q.1 = .ok q.2 := by decide +kernel
theorem bz_X9_dock : bq_X9_dock.all (ab_ck ab_hd ab_xs ab_tr bx_X9_dock be_X9_dock bi_X9_dock (some .int) 6 43) = true := by decide +kernel
theorem bm_X9_dock (l : Launch) : ex_Met l yX9_dock cX9_dock 6 (some .int) 1 21 (ab_sp ab_hd bc_X9_dock) := ab_met (by decide) (by decide) rfl (bj_X9_dock l) bd_X9_dock ab_hcm ab_xk bz_X9_dock
theorem bw_X9_undock : ec_cw yX9_undock cX9_undock 2 (some .int) := ⟨ec_in (i := 1076) (by decide +kernel) rfl, ec_in (i := 58) (by decide +kernel) rfl, by decide, by decide⟩
theorem bv_X9_undock : Cond.instanceMethod yX9_undock ∈ ec_tb ∧ Cond.selects yX9_undock.cls yX9_undock yX9_undock ∈ ec_tb := ⟨ec_in (i := 1074) (by decide +kernel) rfl, ec_in (i := 1075) (by decide +kernel) rfl⟩
def be_X9_undock : Nat → Option (Nat × Option Nat × List ab_C) := fun ix => match ix with
  | 235 => some (1, none, bc_X9_isMass)
  | 64 => some (2, some 9, bc_X9_counted)
  | _ => none
theorem bk_X9_undock (l : Launch) : ∀ (ix n : Nat) (rc : Option Nat) (sp : ex_S), (be_X9_undock ix).map (fun q => (q.1, q.2.1, ab_sp ab_hd q.2.2)) = some (n, rc, sp) → ex_cok l RX9 1 21 ix n rc sp := by
  intro ix n rc sp h
  obtain ⟨l0, h2, rfl⟩ := ab_dmk h
  clear h
  unfold be_X9_undock at h2
  split at h2
  · cases h2; exact ec_cS (bm_X9_isMass l) bw_X9_isMass bv_X9_isMass (by decide) (by decide) (Or.inl (ec_in (i := 1058) (by decide +kernel) rfl)) (by decide +kernel)
  · cases h2; exact ec_cV (bm_X9_counted l) bw_X9_counted bv_X9_counted (by decide) (by decide) (Or.inl (ec_in (i := 424) (by decide +kernel) rfl)) (T := TX9) (N := 10) rfl (by decide) (by decide +kernel)
  · cases h2
def bx_X9_undock : ex_K := (RX9, ec_fx fl_X9, ec_cx cl_X9, sl_X9, (fun ix => (be_X9_undock ix).map (fun q => (q.1, q.2.1, ab_sp ab_hd q.2.2))), ec_nz, ec_no)
theorem bj_X9_undock (l : Launch) : ex_ok l 1 21 bx_X9_undock := ⟨ec_fok fo_X9, ec_cok co_X9, so_X9, bk_X9_undock l, fun _ h => (by cases h), fun _ h => (by cases h), fun _ h => (by cases h), fun _ _ h => (by cases h)⟩
def bq_X9_undock : List (ab_C × List ab_Q) := [(([.inl 0, .inr ((-2147483648), 2147483647)], [], [(0, some 8), (75, some 1), (75, some 3)], [(some ((-2147483648), 2147483647, none), [], [])]), [])]
def bc_X9_undock : List ab_C := bq_X9_undock.map (fun c => c.1)
def bi_X9_undock : List (Nat × Instr × Nat) := [(0, .iload_n 1, 1), (1, .invokestatic 235, 3), (4, .ifCond .ne 10, 3), (7, .aload_n 0, 1), (8, .ldc 92, 2), (10, .invokevirtual 64, 3), (13, .ireturn, 1), (14, .aload_n 0, 1), (15, .getfield 50, 3), (18, .iload_n 1, 1), (19, .isub, 1), (20, .iconst 1, 1), (21, .if_icmp .ge 10, 3), (24, .aload_n 0, 1), (25, .ldc 177, 2), (27, .invokevirtual 64, 3), (30, .ireturn, 1), (31, .aload_n 0, 1), (32, .dup, 1), (33, .getfield 50, 3), (36, .iload_n 1, 1), (37, .isub, 1), (38, .putfield 50, 3), (41, .aload_n 0, 1), (42, .getfield 50, 3), (45, .ireturn, 1)]
theorem bd_X9_undock : ∀ q ∈ bi_X9_undock, decode cX9_undock q.1 = .ok q.2 := by decide +kernel
theorem bz_X9_undock : bq_X9_undock.all (ab_ck ab_hd ab_xs ab_tr bx_X9_undock be_X9_undock bi_X9_undock (some .int) 2 20) = true := by decide +kernel
theorem bm_X9_undock (l : Launch) : ex_Met l yX9_undock cX9_undock 2 (some .int) 1 21 (ab_sp ab_hd bc_X9_undock) := ab_met (by decide) (by decide) rfl (bj_X9_undock l) bd_X9_undock ab_hcm ab_xk bz_X9_undock
theorem bw_X9_tell : ec_cw yX9_tell cX9_tell 2 (some .int) := ⟨ec_in (i := 1080) (by decide +kernel) rfl, ec_in (i := 58) (by decide +kernel) rfl, by decide, by decide⟩
theorem bv_X9_tell : Cond.instanceMethod yX9_tell ∈ ec_tb ∧ Cond.selects yX9_tell.cls yX9_tell yX9_tell ∈ ec_tb := ⟨ec_in (i := 1078) (by decide +kernel) rfl, ec_in (i := 1079) (by decide +kernel) rfl⟩
def be_X9_tell : Nat → Option (Nat × Option Nat × List ab_C) := fun ix => match ix with
  | 64 => some (2, some 9, bc_X9_counted)
  | _ => none
theorem bk_X9_tell (l : Launch) : ∀ (ix n : Nat) (rc : Option Nat) (sp : ex_S), (be_X9_tell ix).map (fun q => (q.1, q.2.1, ab_sp ab_hd q.2.2)) = some (n, rc, sp) → ex_cok l RX9 1 21 ix n rc sp := by
  intro ix n rc sp h
  obtain ⟨l0, h2, rfl⟩ := ab_dmk h
  clear h
  unfold be_X9_tell at h2
  split at h2
  · cases h2; exact ec_cV (bm_X9_counted l) bw_X9_counted bv_X9_counted (by decide) (by decide) (Or.inl (ec_in (i := 424) (by decide +kernel) rfl)) (T := TX9) (N := 10) rfl (by decide) (by decide +kernel)
  · cases h2
def bx_X9_tell : ex_K := (RX9, ec_fx fl_X9, ec_cx cl_X9, sl_X9, (fun ix => (be_X9_tell ix).map (fun q => (q.1, q.2.1, ab_sp ab_hd q.2.2))), ec_nz, ec_no)
theorem bj_X9_tell (l : Launch) : ex_ok l 1 21 bx_X9_tell := ⟨ec_fok fo_X9, ec_cok co_X9, so_X9, bk_X9_tell l, fun _ h => (by cases h), fun _ h => (by cases h), fun _ h => (by cases h), fun _ _ h => (by cases h)⟩
def bq_X9_tell : List (ab_C × List ab_Q) := [(([.inl 0, .inr ((-2147483648), 2147483647)], [], [(0, some 7), (74, none), (75, some 4)], [(some ((-1000000004), (-1000000004), none), [((8, 1007, 0), 24, 24, none)], [((1, 0, 7), 24, 24, some (1007, 0))]), (some (1, 24, some (1007, 1)), [((8, 1007, 0), 0, 23, none)], [((1, 0, 7), 1, 24, some (1007, 1))])]), [])]
def bc_X9_tell : List ab_C := bq_X9_tell.map (fun c => c.1)
def bi_X9_tell : List (Nat × Instr × Nat) := [(0, .aload_n 0, 1), (1, .getfield 245, 3), (4, .bipush 24, 2), (6, .if_icmp .lt 10, 3), (9, .aload_n 0, 1), (10, .ldc 155, 2), (12, .invokevirtual 64, 3), (15, .ireturn, 1), (16, .aload_n 0, 1), (17, .getfield 42, 3), (20, .aload_n 0, 1), (21, .getfield 245, 3), (24, .iload_n 1, 1), (25, .iastore, 1), (26, .aload_n 0, 1), (27, .dup, 1), (28, .getfield 245, 3), (31, .iconst 1, 1), (32, .iadd, 1), (33, .putfield 245, 3), (36, .aload_n 0, 1), (37, .getfield 245, 3), (40, .ireturn, 1)]
theorem bd_X9_tell : ∀ q ∈ bi_X9_tell, decode cX9_tell q.1 = .ok q.2 := by decide +kernel
theorem bz_X9_tell : bq_X9_tell.all (ab_ck ab_hd ab_xs ab_tr bx_X9_tell be_X9_tell bi_X9_tell (some .int) 2 21) = true := by decide +kernel
theorem bm_X9_tell (l : Launch) : ex_Met l yX9_tell cX9_tell 2 (some .int) 1 21 (ab_sp ab_hd bc_X9_tell) := ab_met (by decide) (by decide) rfl (bj_X9_tell l) bd_X9_tell ab_hcm ab_xk bz_X9_tell
