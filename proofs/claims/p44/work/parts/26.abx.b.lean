theorem bw_X1_becomeLike : ec_cw yX1_becomeLike cX1_becomeLike 2 none := ⟨ec_in (i := 896) (by decide +kernel) rfl, ec_in (i := 64) (by decide +kernel) rfl, by decide, by decide⟩
theorem bv_X1_becomeLike : Cond.instanceMethod yX1_becomeLike ∈ ec_tb ∧ Cond.selects yX1_becomeLike.cls yX1_becomeLike yX1_becomeLike ∈ ec_tb := ⟨ec_in (i := 894) (by decide +kernel) rfl, ec_in (i := 895) (by decide +kernel) rfl⟩
def bx_X1_becomeLike : ex_K := (RX1, ec_fx fl_X1, ec_cx cl_X1, sl_X1, (fun ix => (ec_no ix).map (fun (q : Nat × Option Nat × List ab_C) => (q.1, q.2.1, ab_sp ab_hd q.2.2))), ec_nz, ec_no)
theorem bj_X1_becomeLike (l : Launch) : ex_ok l 0 0 bx_X1_becomeLike := ⟨ec_fok fo_X1, ec_cok co_X1, so_X1, fun _ _ _ _ h => (by cases h), fun _ h => (by cases h), fun _ h => (by cases h), fun _ h => (by cases h), fun _ _ h => (by cases h)⟩
def bq_X1_becomeLike : List (ab_C × List ab_Q) := [(([.inl 62, .inl 33], [], [(62, some 0), (62, some 1), (62, some 2), (62, some 3), (62, some 4), (62, some 5)], [(none, [], [])]), [])]
def bc_X1_becomeLike : List ab_C := bq_X1_becomeLike.map (fun c => c.1)
def bi_X1_becomeLike : List (Nat × Instr × Nat) := [(0, .aload_n 0, 1), (1, .aload_n 1, 1), (2, .getfield 9, 3), (5, .putfield 9, 3), (8, .aload_n 0, 1), (9, .aload_n 1, 1), (10, .getfield 15, 3), (13, .putfield 15, 3), (16, .aload_n 0, 1), (17, .aload_n 1, 1), (18, .getfield 18, 3), (21, .putfield 18, 3), (24, .aload_n 0, 1), (25, .aload_n 1, 1), (26, .getfield 21, 3), (29, .putfield 21, 3), (32, .aload_n 0, 1), (33, .aload_n 1, 1), (34, .getfield 25, 3), (37, .putfield 25, 3), (40, .aload_n 0, 1), (41, .aload_n 1, 1), (42, .getfield 28, 3), (45, .putfield 28, 3), (48, .return_, 1)]
theorem bd_X1_becomeLike : ∀ q ∈ bi_X1_becomeLike, decode cX1_becomeLike q.1 = .ok q.2 := by decide +kernel
theorem bz_X1_becomeLike : bq_X1_becomeLike.all (ab_ck ab_hd ab_xs ab_tr bx_X1_becomeLike ec_no bi_X1_becomeLike none 2 27) = true := by decide +kernel
theorem bm_X1_becomeLike (l : Launch) : ex_Met l yX1_becomeLike cX1_becomeLike 2 none 0 0 (ab_sp ab_hd bc_X1_becomeLike) := ab_met (by decide) (by decide) rfl (bj_X1_becomeLike l) bd_X1_becomeLike ab_hcm ab_xk bz_X1_becomeLike
theorem bw_X1_isBound : ec_cw yX1_isBound cX1_isBound 1 (some .boolean) := ⟨ec_in (i := 690) (by decide +kernel) rfl, ec_in (i := 64) (by decide +kernel) rfl, by decide, by decide⟩
theorem bv_X1_isBound : Cond.static yX1_isBound ∈ ec_tb := ec_in (i := 689) (by decide +kernel) rfl
def bx_X1_isBound : ex_K := (RX1, ec_fx fl_X1, ec_cx cl_X1, sl_X1, (fun ix => (ec_no ix).map (fun (q : Nat × Option Nat × List ab_C) => (q.1, q.2.1, ab_sp ab_hd q.2.2))), ec_nz, ec_no)
theorem bj_X1_isBound (l : Launch) : ex_ok l 0 0 bx_X1_isBound := ⟨ec_fok fo_X1, ec_cok co_X1, so_X1, fun _ _ _ _ h => (by cases h), fun _ h => (by cases h), fun _ h => (by cases h), fun _ h => (by cases h), fun _ _ h => (by cases h)⟩
def bq_X1_isBound : List (ab_C × List ab_Q) := [(([.inr ((-2147483648), 2147483647)], [], [], [(some (0, 0, none), [], []), (some (1, 1, none), [((0, 0, 0), 0, 100000, none)], [])]), [])]
def bc_X1_isBound : List ab_C := bq_X1_isBound.map (fun c => c.1)
def bi_X1_isBound : List (Nat × Instr × Nat) := [(0, .iload_n 0, 1), (1, .ifCond .lt 13, 3), (4, .iload_n 0, 1), (5, .ldc 36, 2), (7, .if_icmp .gt 7, 3), (10, .iconst 1, 1), (11, .goto 4, 3), (14, .iconst 0, 1), (15, .ireturn, 1)]
theorem bd_X1_isBound : ∀ q ∈ bi_X1_isBound, decode cX1_isBound q.1 = .ok q.2 := by decide +kernel
theorem bz_X1_isBound : bq_X1_isBound.all (ab_ck ab_hd ab_xs ab_tr bx_X1_isBound ec_no bi_X1_isBound (some .boolean) 1 10) = true := by decide +kernel
theorem bm_X1_isBound (l : Launch) : ex_Met l yX1_isBound cX1_isBound 1 (some .boolean) 0 0 (ab_sp ab_hd bc_X1_isBound) := ab_met (by decide) (by decide) rfl (bj_X1_isBound l) bd_X1_isBound ab_hcm ab_xk bz_X1_isBound
theorem bw_X1_setAll : ec_cw yX1_setAll cX1_setAll 4 (some .int) := ⟨ec_in (i := 687) (by decide +kernel) rfl, ec_in (i := 64) (by decide +kernel) rfl, by decide, by decide⟩
theorem bv_X1_setAll : Cond.instanceMethod yX1_setAll ∈ ec_tb ∧ Cond.selects yX1_setAll.cls yX1_setAll yX1_setAll ∈ ec_tb := ⟨ec_in (i := 685) (by decide +kernel) rfl, ec_in (i := 686) (by decide +kernel) rfl⟩
def be_X1_setAll : Nat → Option (Nat × Option Nat × List ab_C) := fun ix => match ix with
  | 31 => some (1, none, bc_X1_isBound)
  | _ => none
theorem bk_X1_setAll (l : Launch) : ∀ (ix n : Nat) (rc : Option Nat) (sp : ex_S), (be_X1_setAll ix).map (fun q => (q.1, q.2.1, ab_sp ab_hd q.2.2)) = some (n, rc, sp) → ex_cok l RX1 1 20 ix n rc sp := by
  intro ix n rc sp h
  obtain ⟨l0, h2, rfl⟩ := ab_dmk h
  clear h
  unfold be_X1_setAll at h2
  split at h2
  · cases h2; exact ec_cS (bm_X1_isBound l) bw_X1_isBound bv_X1_isBound (by decide) (by decide) (Or.inl (ec_in (i := 688) (by decide +kernel) rfl)) (by decide +kernel)
  · cases h2
def bx_X1_setAll : ex_K := (RX1, ec_fx fl_X1, ec_cx cl_X1, sl_X1, (fun ix => (be_X1_setAll ix).map (fun q => (q.1, q.2.1, ab_sp ab_hd q.2.2))), ec_nz, ec_no)
theorem bj_X1_setAll (l : Launch) : ex_ok l 1 20 bx_X1_setAll := ⟨ec_fok fo_X1, ec_cok co_X1, so_X1, bk_X1_setAll l, fun _ h => (by cases h), fun _ h => (by cases h), fun _ h => (by cases h), fun _ _ h => (by cases h)⟩
def bq_X1_setAll : List (ab_C × List ab_Q) := [(([.inl 33, .inr ((-2147483648), 2147483647), .inr ((-2147483648), 2147483647), .inr ((-2147483648), 2147483647)], [], [(33, some 0), (33, some 1), (33, some 2)], [(some ((-2147483648), 2147483647, none), [], [])]), [])]
def bc_X1_setAll : List ab_C := bq_X1_setAll.map (fun c => c.1)
def bi_X1_setAll : List (Nat × Instr × Nat) := [(0, .iload_n 1, 1), (1, .invokestatic 31, 3), (4, .ifCond .eq 17, 3), (7, .iload_n 2, 1), (8, .invokestatic 31, 3), (11, .ifCond .eq 10, 3), (14, .iload_n 3, 1), (15, .invokestatic 31, 3), (18, .ifCond .ne 6, 3), (21, .ldc 35, 2), (23, .ireturn, 1), (24, .aload_n 0, 1), (25, .iload_n 1, 1), (26, .putfield 9, 3), (29, .aload_n 0, 1), (30, .iload_n 2, 1), (31, .putfield 15, 3), (34, .aload_n 0, 1), (35, .iload_n 3, 1), (36, .putfield 18, 3), (39, .iconst 1, 1), (40, .ireturn, 1)]
theorem bd_X1_setAll : ∀ q ∈ bi_X1_setAll, decode cX1_setAll q.1 = .ok q.2 := by decide +kernel
theorem bz_X1_setAll : bq_X1_setAll.all (ab_ck ab_hd ab_xs ab_tr bx_X1_setAll be_X1_setAll bi_X1_setAll (some .int) 4 22) = true := by decide +kernel
theorem bm_X1_setAll (l : Launch) : ex_Met l yX1_setAll cX1_setAll 4 (some .int) 1 20 (ab_sp ab_hd bc_X1_setAll) := ab_met (by decide) (by decide) rfl (bj_X1_setAll l) bd_X1_setAll ab_hcm ab_xk bz_X1_setAll
theorem bw_X1_tellFirstBreak : ec_cw yX1_tellFirstBreak cX1_tellFirstBreak 2 (some .int) := ⟨ec_in (i := 858) (by decide +kernel) rfl, ec_in (i := 64) (by decide +kernel) rfl, by decide, by decide⟩
theorem bv_X1_tellFirstBreak : Cond.instanceMethod yX1_tellFirstBreak ∈ ec_tb ∧ Cond.selects yX1_tellFirstBreak.cls yX1_tellFirstBreak yX1_tellFirstBreak ∈ ec_tb := ⟨ec_in (i := 856) (by decide +kernel) rfl, ec_in (i := 857) (by decide +kernel) rfl⟩
def bx_X1_tellFirstBreak : ex_K := (RX1, ec_fx fl_X1, ec_cx cl_X1, sl_X1, (fun ix => (ec_no ix).map (fun (q : Nat × Option Nat × List ab_C) => (q.1, q.2.1, ab_sp ab_hd q.2.2))), ec_nz, ec_no)
theorem bj_X1_tellFirstBreak (l : Launch) : ex_ok l 0 0 bx_X1_tellFirstBreak := ⟨ec_fok fo_X1, ec_cok co_X1, so_X1, fun _ _ _ _ h => (by cases h), fun _ h => (by cases h), fun _ h => (by cases h), fun _ h => (by cases h), fun _ _ h => (by cases h)⟩
def bq_X1_tellFirstBreak : List (ab_C × List ab_Q) := [(([.inl 33, .inr ((-2147483648), 2147483647)], [], [], [(some ((-2147483648), 2147483647, none), [], [])]), [])]
def bc_X1_tellFirstBreak : List ab_C := bq_X1_tellFirstBreak.map (fun c => c.1)
def bi_X1_tellFirstBreak : List (Nat × Instr × Nat) := [(0, .iload_n 1, 1), (1, .ifCond .eq 11, 3), (4, .iload_n 1, 1), (5, .iconst 1, 1), (6, .if_icmp .eq 6, 3), (9, .ldc 35, 2), (11, .ireturn, 1), (12, .aload_n 0, 1), (13, .getfield 21, 3), (16, .ifCond .ne 6, 3), (19, .ldc 37, 2), (21, .ireturn, 1), (22, .iload_n 1, 1), (23, .ifCond .ne 10, 3), (26, .aload_n 0, 1), (27, .getfield 25, 3), (30, .goto 7, 3), (33, .aload_n 0, 1), (34, .getfield 28, 3), (37, .ireturn, 1)]
theorem bd_X1_tellFirstBreak : ∀ q ∈ bi_X1_tellFirstBreak, decode cX1_tellFirstBreak q.1 = .ok q.2 := by decide +kernel
theorem bz_X1_tellFirstBreak : bq_X1_tellFirstBreak.all (ab_ck ab_hd ab_xs ab_tr bx_X1_tellFirstBreak ec_no bi_X1_tellFirstBreak (some .int) 2 15) = true := by decide +kernel
theorem bm_X1_tellFirstBreak (l : Launch) : ex_Met l yX1_tellFirstBreak cX1_tellFirstBreak 2 (some .int) 0 0 (ab_sp ab_hd bc_X1_tellFirstBreak) := ab_met (by decide) (by decide) rfl (bj_X1_tellFirstBreak l) bd_X1_tellFirstBreak ab_hcm ab_xk bz_X1_tellFirstBreak
theorem bw_X3_anyoneIn : ec_cw yX3_anyoneIn cX3_anyoneIn 3 (some .boolean) := ⟨ec_in (i := 841) (by decide +kernel) rfl, ec_in (i := 62) (by decide +kernel) rfl, by decide, by decide⟩
theorem bv_X3_anyoneIn : Cond.instanceMethod yX3_anyoneIn ∈ ec_tb ∧ Cond.selects yX3_anyoneIn.cls yX3_anyoneIn yX3_anyoneIn ∈ ec_tb := ⟨ec_in (i := 839) (by decide +kernel) rfl, ec_in (i := 840) (by decide +kernel) rfl⟩
def bx_X3_anyoneIn : ex_K := (RX3, ec_fx fl_X3, ec_cx cl_X3, sl_X3, (fun ix => (ec_no ix).map (fun (q : Nat × Option Nat × List ab_C) => (q.1, q.2.1, ab_sp ab_hd q.2.2))), ec_nz, ec_no)
theorem bj_X3_anyoneIn (l : Launch) : ex_ok l 0 0 bx_X3_anyoneIn := ⟨ec_fok fo_X3, ec_cok co_X3, so_X3, fun _ _ _ _ h => (by cases h), fun _ h => (by cases h), fun _ h => (by cases h), fun _ h => (by cases h), fun _ _ h => (by cases h)⟩
def bq_X3_anyoneIn : List (ab_C × List ab_Q) := [(([.inl 14, .inr (0, 5)], [], [], [(some (0, 1, none), [], [])]), [(2, [some (.inl 14), some (.inr (.inl (0, 5, none, none))), some (.inr (.inl (0, 6, none, none)))], [((1, 0, 7), 0, 24, some (1007, 0)), ((1, 76, 52), 0, 24, some (77052, 0))], 13, [0, 0, (-2)])]),
  (([.inl 43, .inr (0, 5)], [], [], [(some (0, 1, none), [], [])]), [(2, [some (.inl 43), some (.inr (.inl (0, 5, none, none))), some (.inr (.inl (0, 6, none, none)))], [((1, 0, 7), 0, 24, some (1007, 0)), ((1, 76, 52), 0, 24, some (77052, 0))], 13, [0, 0, (-2)])])]
def bc_X3_anyoneIn : List ab_C := bq_X3_anyoneIn.map (fun c => c.1)
def bi_X3_anyoneIn : List (Nat × Instr × Nat) := [(0, .iconst 0, 1), (1, .istore_n 2, 1), (2, .iload_n 2, 1), (3, .aload_n 0, 1), (4, .getfield 34, 3), (7, .if_icmp .ge 21, 3), (10, .aload_n 0, 1), (11, .getfield 9, 3), (14, .iload_n 2, 1), (15, .iaload, 1), (16, .iload_n 1, 1), (17, .if_icmp .ne 5, 3), (20, .iconst 1, 1), (21, .ireturn, 1), (22, .iinc 2 1, 3), (25, .goto (-23), 3), (28, .iconst 0, 1), (29, .ireturn, 1)]
theorem bd_X3_anyoneIn : ∀ q ∈ bi_X3_anyoneIn, decode cX3_anyoneIn q.1 = .ok q.2 := by decide +kernel
theorem bz_X3_anyoneIn : bq_X3_anyoneIn.all (ab_ck ab_hd ab_xs ab_tr bx_X3_anyoneIn ec_no bi_X3_anyoneIn (some .boolean) 3 14) = true := by decide +kernel
theorem bm_X3_anyoneIn (l : Launch) : ex_Met l yX3_anyoneIn cX3_anyoneIn 3 (some .boolean) 0 0 (ab_sp ab_hd bc_X3_anyoneIn) := ab_met (by decide) (by decide) rfl (bj_X3_anyoneIn l) bd_X3_anyoneIn ab_hcm ab_xk bz_X3_anyoneIn
theorem bw_X1_breaksIn : ec_cw yX1_breaksIn cX1_breaksIn 3 (some .boolean) := ⟨ec_in (i := 845) (by decide +kernel) rfl, ec_in (i := 64) (by decide +kernel) rfl, by decide, by decide⟩
theorem bv_X1_breaksIn : Cond.instanceMethod yX1_breaksIn ∈ ec_tb ∧ Cond.selects yX1_breaksIn.cls yX1_breaksIn yX1_breaksIn ∈ ec_tb := ⟨ec_in (i := 844) (by decide +kernel) rfl, ec_in (i := 17) (by decide +kernel) rfl⟩
def be_X1_breaksIn : Nat → Option (Nat × Option Nat × List ab_C) := fun ix => match ix with
  | 56 => some (3, some 0, bc_X0_amount)
  | _ => none
theorem bk_X1_breaksIn (l : Launch) : ∀ (ix n : Nat) (rc : Option Nat) (sp : ex_S), (be_X1_breaksIn ix).map (fun q => (q.1, q.2.1, ab_sp ab_hd q.2.2)) = some (n, rc, sp) → ex_cok l RX1 1 22 ix n rc sp := by
  intro ix n rc sp h
  obtain ⟨l0, h2, rfl⟩ := ab_dmk h
  clear h
  unfold be_X1_breaksIn at h2
  split at h2
  · cases h2; exact ec_cV (bm_X0_amount l) bw_X0_amount bv_X0_amount (by decide) (by decide) (Or.inl (ec_in (i := 846) (by decide +kernel) rfl)) (T := TX0) (N := 8) rfl (by decide) (by decide +kernel)
  · cases h2
def bx_X1_breaksIn : ex_K := (RX1, ec_fx fl_X1, ec_cx cl_X1, sl_X1, (fun ix => (be_X1_breaksIn ix).map (fun q => (q.1, q.2.1, ab_sp ab_hd q.2.2))), ec_nz, ec_no)
theorem bj_X1_breaksIn (l : Launch) : ex_ok l 1 22 bx_X1_breaksIn := ⟨ec_fok fo_X1, ec_cok co_X1, so_X1, bk_X1_breaksIn l, fun _ h => (by cases h), fun _ h => (by cases h), fun _ h => (by cases h), fun _ _ h => (by cases h)⟩
def bq_X1_breaksIn : List (ab_C × List ab_Q) := [(([.inl 33, .inr (0, 5), .inl 7], [], [], [(some (0, 0, none), [], []), (some (1, 1, none), [], [])]), []),
  (([.inl 62, .inr (0, 5), .inl 36], [], [], [(some (0, 0, none), [], []), (some (1, 1, none), [], [])]), [])]
def bc_X1_breaksIn : List ab_C := bq_X1_breaksIn.map (fun c => c.1)
def bi_X1_breaksIn : List (Nat × Instr × Nat) := [(0, .aload_n 2, 1), (1, .iload_n 1, 1), (2, .iconst 0, 1), (3, .invokevirtual 56, 3), (6, .aload_n 0, 1), (7, .getfield 9, 3), (10, .if_icmp .lt 29, 3), (13, .aload_n 2, 1), (14, .iload_n 1, 1), (15, .iconst 1, 1), (16, .invokevirtual 56, 3), (19, .aload_n 0, 1), (20, .getfield 15, 3), (23, .if_icmp .gt 16, 3), (26, .aload_n 2, 1), (27, .iload_n 1, 1), (28, .iconst 4, 1), (29, .invokevirtual 56, 3), (32, .aload_n 0, 1), (33, .getfield 18, 3), (36, .if_icmp .le 7, 3), (39, .iconst 1, 1), (40, .goto 4, 3), (43, .iconst 0, 1), (44, .ireturn, 1)]
theorem bd_X1_breaksIn : ∀ q ∈ bi_X1_breaksIn, decode cX1_breaksIn q.1 = .ok q.2 := by decide +kernel
theorem bz_X1_breaksIn : bq_X1_breaksIn.all (ab_ck ab_hd ab_xs ab_tr bx_X1_breaksIn be_X1_breaksIn bi_X1_breaksIn (some .boolean) 3 26) = true := by decide +kernel
theorem bm_X1_breaksIn (l : Launch) : ex_Met l yX1_breaksIn cX1_breaksIn 3 (some .boolean) 1 22 (ab_sp ab_hd bc_X1_breaksIn) := ab_met (by decide) (by decide) rfl (bj_X1_breaksIn l) bd_X1_breaksIn ab_hcm ab_xk bz_X1_breaksIn
theorem bw_X1_keepFirst : ec_cw yX1_keepFirst cX1_keepFirst 3 none := ⟨ec_in (i := 850) (by decide +kernel) rfl, ec_in (i := 64) (by decide +kernel) rfl, by decide, by decide⟩
theorem bv_X1_keepFirst : Cond.instanceMethod yX1_keepFirst ∈ ec_tb ∧ Cond.selects yX1_keepFirst.cls yX1_keepFirst yX1_keepFirst ∈ ec_tb := ⟨ec_in (i := 849) (by decide +kernel) rfl, ec_in (i := 18) (by decide +kernel) rfl⟩
def bx_X1_keepFirst : ex_K := (RX1, ec_fx fl_X1, ec_cx cl_X1, sl_X1, (fun ix => (ec_no ix).map (fun (q : Nat × Option Nat × List ab_C) => (q.1, q.2.1, ab_sp ab_hd q.2.2))), ec_nz, ec_no)
theorem bj_X1_keepFirst (l : Launch) : ex_ok l 0 0 bx_X1_keepFirst := ⟨ec_fok fo_X1, ec_cok co_X1, so_X1, fun _ _ _ _ h => (by cases h), fun _ h => (by cases h), fun _ h => (by cases h), fun _ h => (by cases h), fun _ _ h => (by cases h)⟩
def bq_X1_keepFirst : List (ab_C × List ab_Q) := [(([.inl 33, .inr ((-2147483648), 2147483647), .inr (0, 5)], [], [(33, some 3), (33, some 4), (33, some 5)], [(none, [], [])]), []),
  (([.inl 62, .inr ((-2147483648), 2147483647), .inr (0, 5)], [], [(62, some 3), (62, some 4), (62, some 5)], [(none, [], [])]), [])]
def bc_X1_keepFirst : List ab_C := bq_X1_keepFirst.map (fun c => c.1)
def bi_X1_keepFirst : List (Nat × Instr × Nat) := [(0, .aload_n 0, 1), (1, .getfield 21, 3), (4, .ifCond .ne 18, 3), (7, .aload_n 0, 1), (8, .iconst 1, 1), (9, .putfield 21, 3), (12, .aload_n 0, 1), (13, .iload_n 1, 1), (14, .putfield 25, 3), (17, .aload_n 0, 1), (18, .iload_n 2, 1), (19, .putfield 28, 3), (22, .return_, 1)]
theorem bd_X1_keepFirst : ∀ q ∈ bi_X1_keepFirst, decode cX1_keepFirst q.1 = .ok q.2 := by decide +kernel
theorem bz_X1_keepFirst : bq_X1_keepFirst.all (ab_ck ab_hd ab_xs ab_tr bx_X1_keepFirst ec_no bi_X1_keepFirst none 3 15) = true := by decide +kernel
theorem bm_X1_keepFirst (l : Launch) : ex_Met l yX1_keepFirst cX1_keepFirst 3 none 0 0 (ab_sp ab_hd bc_X1_keepFirst) := ab_met (by decide) (by decide) rfl (bj_X1_keepFirst l) bd_X1_keepFirst ab_hcm ab_xk bz_X1_keepFirst
theorem bw_X1_look : ec_cw yX1_look cX1_look 5 (some .boolean) := ⟨ec_in (i := 837) (by decide +kernel) rfl, ec_in (i := 64) (by decide +kernel) rfl, by decide, by decide⟩
theorem bv_X1_look : Cond.instanceMethod yX1_look ∈ ec_tb ∧ Cond.selects yX1_look.cls yX1_look yX1_look ∈ ec_tb := ⟨ec_in (i := 835) (by decide +kernel) rfl, ec_in (i := 836) (by decide +kernel) rfl⟩
def be_X1_look : Nat → Option (Nat × Option Nat × List ab_C) := fun ix => match ix with
  | 43 => some (2, some 3, bc_X3_anyoneIn)
  | 48 => some (3, some 1, bc_X1_breaksIn)
  | 52 => some (3, some 1, bc_X1_keepFirst)
  | _ => none
theorem bk_X1_look (l : Launch) : ∀ (ix n : Nat) (rc : Option Nat) (sp : ex_S), (be_X1_look ix).map (fun q => (q.1, q.2.1, ab_sp ab_hd q.2.2)) = some (n, rc, sp) → ex_cok l RX1 2 44 ix n rc sp := by
  intro ix n rc sp h
  obtain ⟨l0, h2, rfl⟩ := ab_dmk h
  clear h
  unfold be_X1_look at h2
  split at h2
  · cases h2; exact ec_cV (bm_X3_anyoneIn l) bw_X3_anyoneIn bv_X3_anyoneIn (by decide) (by decide) (Or.inl (ec_in (i := 838) (by decide +kernel) rfl)) (T := TX3) (N := 7) rfl (by decide) (by decide +kernel)
  · cases h2; exact ec_cV (bm_X1_breaksIn l) bw_X1_breaksIn bv_X1_breaksIn (by decide) (by decide) (Or.inl (ec_in (i := 842) (by decide +kernel) rfl)) (T := TX1) (N := 6) rfl (by decide) (by decide +kernel)
  · cases h2; exact ec_cV (bm_X1_keepFirst l) bw_X1_keepFirst bv_X1_keepFirst (by decide) (by decide) (Or.inl (ec_in (i := 847) (by decide +kernel) rfl)) (T := TX1) (N := 6) rfl (by decide) (by decide +kernel)
  · cases h2
def bx_X1_look : ex_K := (RX1, ec_fx fl_X1, ec_cx cl_X1, sl_X1, (fun ix => (be_X1_look ix).map (fun q => (q.1, q.2.1, ab_sp ab_hd q.2.2))), ec_nz, ec_no)
theorem bj_X1_look (l : Launch) : ex_ok l 2 44 bx_X1_look := ⟨ec_fok fo_X1, ec_cok co_X1, so_X1, bk_X1_look l, fun _ h => (by cases h), fun _ h => (by cases h), fun _ h => (by cases h), fun _ _ h => (by cases h)⟩
def bq_X1_look : List (ab_C × List ab_Q) := [(([.inl 33, .inl 7, .inl 14, .inr ((-2147483648), 2147483647)], [], [(33, some 3), (33, some 4), (33, some 5)], [(some (0, 1, none), [], [])]), [(3, [some (.inl 33), some (.inl 7), some (.inl 14), some (.inr (.inl ((-2147483648), 2147483647, none, none))), some (.inr (.inl (0, 6, none, none)))], [((1, 0, 7), 0, 24, some (1007, 0)), ((1, 76, 52), 0, 24, some (77052, 0))], 13, [0, 0, 0, 0, (-2)])]),
  (([.inl 62, .inl 36, .inl 43, .inr ((-2147483648), 2147483647)], [], [(62, some 3), (62, some 4), (62, some 5)], [(some (0, 1, none), [], [])]), [(3, [some (.inl 62), some (.inl 36), some (.inl 43), some (.inr (.inl ((-2147483648), 2147483647, none, none))), some (.inr (.inl (0, 6, none, none)))], [((1, 0, 7), 0, 24, some (1007, 0)), ((1, 76, 52), 0, 24, some (77052, 0))], 13, [0, 0, 0, 0, (-2)])])]
def bc_X1_look : List ab_C := bq_X1_look.map (fun c => c.1)
def bi_X1_look : List (Nat × Instr × Nat) := [(0, .iconst 0, 1), (1, .istore 4, 2), (3, .iload 4, 2), (5, .aload_n 1, 1), (6, .getfield 38, 3), (9, .if_icmp .ge 37, 3), (12, .aload_n 2, 1), (13, .iload 4, 2), (15, .invokevirtual 43, 3), (18, .ifCond .eq 22, 3), (21, .aload_n 0, 1), (22, .iload 4, 2), (24, .aload_n 1, 1), (25, .invokevirtual 48, 3), (28, .ifCond .eq 12, 3), (31, .aload_n 0, 1), (32, .iload_n 3, 1), (33, .iload 4, 2), (35, .invokevirtual 52, 3), (38, .iconst 1, 1), (39, .ireturn, 1), (40, .iinc 4 1, 3), (43, .goto (-40), 3), (46, .iconst 0, 1), (47, .ireturn, 1)]
theorem bd_X1_look : ∀ q ∈ bi_X1_look, decode cX1_look q.1 = .ok q.2 := by decide +kernel
theorem bz_X1_look : bq_X1_look.all (ab_ck ab_hd ab_xs ab_tr bx_X1_look be_X1_look bi_X1_look (some .boolean) 5 21) = true := by decide +kernel
theorem bm_X1_look (l : Launch) : ex_Met l yX1_look cX1_look 5 (some .boolean) 2 44 (ab_sp ab_hd bc_X1_look) := ab_met (by decide) (by decide) rfl (bj_X1_look l) bd_X1_look ab_hcm ab_xk bz_X1_look
theorem bw_X2_becomeLike : ec_cw yX2_becomeLike cX2_becomeLike 2 none := ⟨ec_in (i := 900) (by decide +kernel) rfl, ec_in (i := 65) (by decide +kernel) rfl, by decide, by decide⟩
theorem bv_X2_becomeLike : Cond.instanceMethod yX2_becomeLike ∈ ec_tb ∧ Cond.selects yX2_becomeLike.cls yX2_becomeLike yX2_becomeLike ∈ ec_tb := ⟨ec_in (i := 898) (by decide +kernel) rfl, ec_in (i := 899) (by decide +kernel) rfl⟩
def bx_X2_becomeLike : ex_K := (RX2, ec_fx fl_X2, ec_cx cl_X2, sl_X2, (fun ix => (ec_no ix).map (fun (q : Nat × Option Nat × List ab_C) => (q.1, q.2.1, ab_sp ab_hd q.2.2))), ec_nz, ec_no)
theorem bj_X2_becomeLike (l : Launch) : ex_ok l 0 0 bx_X2_becomeLike := ⟨ec_fok fo_X2, ec_cok co_X2, so_X2, fun _ _ _ _ h => (by cases h), fun _ h => (by cases h), fun _ h => (by cases h), fun _ h => (by cases h), fun _ _ h => (by cases h)⟩
def bq_X2_becomeLike : List (ab_C × List ab_Q) := [(([.inl 63, .inl 34], [], [(63, some 0), (63, some 1), (63, some 2), (63, some 3), (63, some 4), (63, some 5), (63, some 6)], [(none, [], [])]), [])]
def bc_X2_becomeLike : List ab_C := bq_X2_becomeLike.map (fun c => c.1)
def bi_X2_becomeLike : List (Nat × Instr × Nat) := [(0, .aload_n 0, 1), (1, .aload_n 1, 1), (2, .getfield 15, 3), (5, .putfield 15, 3), (8, .aload_n 0, 1), (9, .aload_n 1, 1), (10, .getfield 19, 3), (13, .putfield 19, 3), (16, .aload_n 0, 1), (17, .aload_n 1, 1), (18, .getfield 22, 3), (21, .putfield 22, 3), (24, .aload_n 0, 1), (25, .aload_n 1, 1), (26, .getfield 25, 3), (29, .putfield 25, 3), (32, .aload_n 0, 1), (33, .aload_n 1, 1), (34, .getfield 11, 3), (37, .putfield 11, 3), (40, .aload_n 0, 1), (41, .aload_n 1, 1), (42, .getfield 28, 3), (45, .putfield 28, 3), (48, .aload_n 0, 1), (49, .aload_n 1, 1), (50, .getfield 31, 3), (53, .putfield 31, 3), (56, .return_, 1)]
theorem bd_X2_becomeLike : ∀ q ∈ bi_X2_becomeLike, decode cX2_becomeLike q.1 = .ok q.2 := by decide +kernel
theorem bz_X2_becomeLike : bq_X2_becomeLike.all (ab_ck ab_hd ab_xs ab_tr bx_X2_becomeLike ec_no bi_X2_becomeLike none 2 31) = true := by decide +kernel
theorem bm_X2_becomeLike (l : Launch) : ex_Met l yX2_becomeLike cX2_becomeLike 2 none 0 0 (ab_sp ab_hd bc_X2_becomeLike) := ab_met (by decide) (by decide) rfl (bj_X2_becomeLike l) bd_X2_becomeLike ab_hcm ab_xk bz_X2_becomeLike
theorem bw_X2_start : ec_cw yX2_start cX2_start 1 none := ⟨ec_in (i := 922) (by decide +kernel) rfl, ec_in (i := 65) (by decide +kernel) rfl, by decide, by decide⟩
theorem bv_X2_start : Cond.instanceMethod yX2_start ∈ ec_tb ∧ Cond.selects yX2_start.cls yX2_start yX2_start ∈ ec_tb := ⟨ec_in (i := 920) (by decide +kernel) rfl, ec_in (i := 921) (by decide +kernel) rfl⟩
def bx_X2_start : ex_K := (RX2, ec_fx fl_X2, ec_cx cl_X2, sl_X2, (fun ix => (ec_no ix).map (fun (q : Nat × Option Nat × List ab_C) => (q.1, q.2.1, ab_sp ab_hd q.2.2))), ec_nz, ec_no)
theorem bj_X2_start (l : Launch) : ex_ok l 0 0 bx_X2_start := ⟨ec_fok fo_X2, ec_cok co_X2, so_X2, fun _ _ _ _ h => (by cases h), fun _ h => (by cases h), fun _ h => (by cases h), fun _ h => (by cases h), fun _ _ h => (by cases h)⟩
def bq_X2_start : List (ab_C × List ab_Q) := [(([.inl 34], [], [(34, some 0), (34, some 1), (34, some 2), (34, some 3), (34, some 4), (34, some 5)], [(none, [], [])]), [])]
def bc_X2_start : List ab_C := bq_X2_start.map (fun c => c.1)
def bi_X2_start : List (Nat × Instr × Nat) := [(0, .aload_n 0, 1), (1, .iconst 1, 1), (2, .putfield 15, 3), (5, .aload_n 0, 1), (6, .iconst 0, 1), (7, .putfield 19, 3), (10, .aload_n 0, 1), (11, .iconst 0, 1), (12, .putfield 22, 3), (15, .aload_n 0, 1), (16, .iconst 0, 1), (17, .putfield 25, 3), (20, .aload_n 0, 1), (21, .iconst (-1), 1), (22, .putfield 11, 3), (25, .aload_n 0, 1), (26, .iconst 0, 1), (27, .putfield 28, 3), (30, .return_, 1)]
theorem bd_X2_start : ∀ q ∈ bi_X2_start, decode cX2_start q.1 = .ok q.2 := by decide +kernel
theorem bz_X2_start : bq_X2_start.all (ab_ck ab_hd ab_xs ab_tr bx_X2_start ec_no bi_X2_start none 1 21) = true := by decide +kernel
theorem bm_X2_start (l : Launch) : ex_Met l yX2_start cX2_start 1 none 0 0 (ab_sp ab_hd bc_X2_start) := ab_met (by decide) (by decide) rfl (bj_X2_start l) bd_X2_start ab_hcm ab_xk bz_X2_start
theorem bw_X2_finish : ec_cw yX2_finish cX2_finish 2 none := ⟨ec_in (i := 713) (by decide +kernel) rfl, ec_in (i := 65) (by decide +kernel) rfl, by decide, by decide⟩
theorem bv_X2_finish : Cond.instanceMethod yX2_finish ∈ ec_tb ∧ Cond.selects yX2_finish.cls yX2_finish yX2_finish ∈ ec_tb := ⟨ec_in (i := 711) (by decide +kernel) rfl, ec_in (i := 712) (by decide +kernel) rfl⟩
def bx_X2_finish : ex_K := (RX2, ec_fx fl_X2, ec_cx cl_X2, sl_X2, (fun ix => (ec_no ix).map (fun (q : Nat × Option Nat × List ab_C) => (q.1, q.2.1, ab_sp ab_hd q.2.2))), ec_nz, ec_no)
theorem bj_X2_finish (l : Launch) : ex_ok l 0 0 bx_X2_finish := ⟨ec_fok fo_X2, ec_cok co_X2, so_X2, fun _ _ _ _ h => (by cases h), fun _ h => (by cases h), fun _ h => (by cases h), fun _ h => (by cases h), fun _ _ h => (by cases h)⟩
def bq_X2_finish : List (ab_C × List ab_Q) := [(([.inl 34, .inr (1, 4)], [], [(34, some 0), (34, some 6)], [(none, [], [])]), []),
  (([.inl 63, .inr (1, 4)], [], [(63, some 0), (63, some 6)], [(none, [], [])]), [])]
def bc_X2_finish : List ab_C := bq_X2_finish.map (fun c => c.1)
def bi_X2_finish : List (Nat × Instr × Nat) := [(0, .aload_n 0, 1), (1, .iconst 0, 1), (2, .putfield 15, 3), (5, .aload_n 0, 1), (6, .iload_n 1, 1), (7, .putfield 31, 3), (10, .return_, 1)]
theorem bd_X2_finish : ∀ q ∈ bi_X2_finish, decode cX2_finish q.1 = .ok q.2 := by decide +kernel
theorem bz_X2_finish : bq_X2_finish.all (ab_ck ab_hd ab_xs ab_tr bx_X2_finish ec_no bi_X2_finish none 2 9) = true := by decide +kernel
theorem bm_X2_finish (l : Launch) : ex_Met l yX2_finish cX2_finish 2 none 0 0 (ab_sp ab_hd bc_X2_finish) := ab_met (by decide) (by decide) rfl (bj_X2_finish l) bd_X2_finish ab_hcm ab_xk bz_X2_finish
theorem bw_X2_giveUp : ec_cw yX2_giveUp cX2_giveUp 1 none := ⟨ec_in (i := 751) (by decide +kernel) rfl, ec_in (i := 65) (by decide +kernel) rfl, by decide, by decide⟩
theorem bv_X2_giveUp : Cond.instanceMethod yX2_giveUp ∈ ec_tb ∧ Cond.selects yX2_giveUp.cls yX2_giveUp yX2_giveUp ∈ ec_tb := ⟨ec_in (i := 749) (by decide +kernel) rfl, ec_in (i := 750) (by decide +kernel) rfl⟩
def be_X2_giveUp : Nat → Option (Nat × Option Nat × List ab_C) := fun ix => match ix with
  | 37 => some (2, some 2, bc_X2_finish)
  | _ => none
theorem bk_X2_giveUp (l : Launch) : ∀ (ix n : Nat) (rc : Option Nat) (sp : ex_S), (be_X2_giveUp ix).map (fun q => (q.1, q.2.1, ab_sp ab_hd q.2.2)) = some (n, rc, sp) → ex_cok l RX2 1 21 ix n rc sp := by
  intro ix n rc sp h
  obtain ⟨l0, h2, rfl⟩ := ab_dmk h
  clear h
  unfold be_X2_giveUp at h2
  split at h2
  · cases h2; exact ec_cV (bm_X2_finish l) bw_X2_finish bv_X2_finish (by decide) (by decide) (Or.inl (ec_in (i := 752) (by decide +kernel) rfl)) (T := TX2) (N := 7) rfl (by decide) (by decide +kernel)
  · cases h2
def bx_X2_giveUp : ex_K := (RX2, ec_fx fl_X2, ec_cx cl_X2, sl_X2, (fun ix => (be_X2_giveUp ix).map (fun q => (q.1, q.2.1, ab_sp ab_hd q.2.2))), ec_nz, ec_no)
theorem bj_X2_giveUp (l : Launch) : ex_ok l 1 21 bx_X2_giveUp := ⟨ec_fok fo_X2, ec_cok co_X2, so_X2, bk_X2_giveUp l, fun _ h => (by cases h), fun _ h => (by cases h), fun _ h => (by cases h), fun _ _ h => (by cases h)⟩
def bq_X2_giveUp : List (ab_C × List ab_Q) := [(([.inl 34], [], [(34, some 0), (34, some 1), (34, some 2), (34, some 3), (34, some 5), (34, some 6)], [(none, [], [])]), []),
  (([.inl 63], [], [(63, some 0), (63, some 1), (63, some 2), (63, some 3), (63, some 5), (63, some 6)], [(none, [], [])]), [])]
def bc_X2_giveUp : List ab_C := bq_X2_giveUp.map (fun c => c.1)
def bi_X2_giveUp : List (Nat × Instr × Nat) := [(0, .aload_n 0, 1), (1, .iconst 0, 1), (2, .putfield 19, 3), (5, .aload_n 0, 1), (6, .iconst 0, 1), (7, .putfield 28, 3), (10, .aload_n 0, 1), (11, .getfield 11, 3), (14, .iconst (-1), 1), (15, .if_icmp .eq 10, 3), (18, .aload_n 0, 1), (19, .getfield 22, 3), (22, .ifCond .eq 9, 3), (25, .aload_n 0, 1), (26, .iconst 3, 1), (27, .invokevirtual 37, 3), (30, .return_, 1), (31, .aload_n 0, 1), (32, .iconst 1, 1), (33, .putfield 22, 3), (36, .aload_n 0, 1), (37, .aload_n 0, 1), (38, .getfield 11, 3), (41, .putfield 25, 3), (44, .return_, 1)]
theorem bd_X2_giveUp : ∀ q ∈ bi_X2_giveUp, decode cX2_giveUp q.1 = .ok q.2 := by decide +kernel
theorem bz_X2_giveUp : bq_X2_giveUp.all (ab_ck ab_hd ab_xs ab_tr bx_X2_giveUp be_X2_giveUp bi_X2_giveUp none 1 23) = true := by decide +kernel
theorem bm_X2_giveUp (l : Launch) : ex_Met l yX2_giveUp cX2_giveUp 1 none 1 21 (ab_sp ab_hd bc_X2_giveUp) := ab_met (by decide) (by decide) rfl (bj_X2_giveUp l) bd_X2_giveUp ab_hcm ab_xk bz_X2_giveUp
theorem bw_X2_goOnAt : ec_cw yX2_goOnAt cX2_goOnAt 2 none := ⟨ec_in (i := 747) (by decide +kernel) rfl, ec_in (i := 65) (by decide +kernel) rfl, by decide, by decide⟩
theorem bv_X2_goOnAt : Cond.instanceMethod yX2_goOnAt ∈ ec_tb ∧ Cond.selects yX2_goOnAt.cls yX2_goOnAt yX2_goOnAt ∈ ec_tb := ⟨ec_in (i := 745) (by decide +kernel) rfl, ec_in (i := 746) (by decide +kernel) rfl⟩
def be_X2_goOnAt : Nat → Option (Nat × Option Nat × List ab_C) := fun ix => match ix with
  | 34 => some (1, some 2, bc_X2_giveUp)
  | _ => none
theorem bk_X2_goOnAt (l : Launch) : ∀ (ix n : Nat) (rc : Option Nat) (sp : ex_S), (be_X2_goOnAt ix).map (fun q => (q.1, q.2.1, ab_sp ab_hd q.2.2)) = some (n, rc, sp) → ex_cok l RX2 2 41 ix n rc sp := by
  intro ix n rc sp h
  obtain ⟨l0, h2, rfl⟩ := ab_dmk h
  clear h
  unfold be_X2_goOnAt at h2
  split at h2
  · cases h2; exact ec_cV (bm_X2_giveUp l) bw_X2_giveUp bv_X2_giveUp (by decide) (by decide) (Or.inl (ec_in (i := 748) (by decide +kernel) rfl)) (T := TX2) (N := 7) rfl (by decide) (by decide +kernel)
  · cases h2
def bx_X2_goOnAt : ex_K := (RX2, ec_fx fl_X2, ec_cx cl_X2, sl_X2, (fun ix => (be_X2_goOnAt ix).map (fun q => (q.1, q.2.1, ab_sp ab_hd q.2.2))), ec_nz, ec_no)
theorem bj_X2_goOnAt (l : Launch) : ex_ok l 2 41 bx_X2_goOnAt := ⟨ec_fok fo_X2, ec_cok co_X2, so_X2, bk_X2_goOnAt l, fun _ h => (by cases h), fun _ h => (by cases h), fun _ h => (by cases h), fun _ _ h => (by cases h)⟩
def bq_X2_goOnAt : List (ab_C × List ab_Q) := [(([.inl 34, .inr ((-2147483648), 2147483647)], [], [(34, some 0), (34, some 1), (34, some 2), (34, some 3), (34, some 5), (34, some 6)], [(none, [], [])]), []),
  (([.inl 63, .inr ((-2147483648), 2147483647)], [], [(63, some 0), (63, some 1), (63, some 2), (63, some 3), (63, some 5), (63, some 6)], [(none, [], [])]), [])]
def bc_X2_goOnAt : List ab_C := bq_X2_goOnAt.map (fun c => c.1)
def bi_X2_goOnAt : List (Nat × Instr × Nat) := [(0, .iload_n 1, 1), (1, .iconst (-1), 1), (2, .if_icmp .ne 10, 3), (5, .aload_n 0, 1), (6, .invokevirtual 34, 3), (9, .goto 8, 3), (12, .aload_n 0, 1), (13, .iload_n 1, 1), (14, .putfield 25, 3), (17, .return_, 1)]
theorem bd_X2_goOnAt : ∀ q ∈ bi_X2_goOnAt, decode cX2_goOnAt q.1 = .ok q.2 := by decide +kernel
theorem bz_X2_goOnAt : bq_X2_goOnAt.all (ab_ck ab_hd ab_xs ab_tr bx_X2_goOnAt be_X2_goOnAt bi_X2_goOnAt none 2 9) = true := by decide +kernel
theorem bm_X2_goOnAt (l : Launch) : ex_Met l yX2_goOnAt cX2_goOnAt 2 none 2 41 (ab_sp ab_hd bc_X2_goOnAt) := ab_met (by decide) (by decide) rfl (bj_X2_goOnAt l) bd_X2_goOnAt ab_hcm ab_xk bz_X2_goOnAt
theorem bw_X2_setHalted : ec_cw yX2_setHalted cX2_setHalted 2 (some .int) := ⟨ec_in (i := 930) (by decide +kernel) rfl, ec_in (i := 65) (by decide +kernel) rfl, by decide, by decide⟩
theorem bv_X2_setHalted : Cond.instanceMethod yX2_setHalted ∈ ec_tb ∧ Cond.selects yX2_setHalted.cls yX2_setHalted yX2_setHalted ∈ ec_tb := ⟨ec_in (i := 928) (by decide +kernel) rfl, ec_in (i := 929) (by decide +kernel) rfl⟩
def be_X2_setHalted : Nat → Option (Nat × Option Nat × List ab_C) := fun ix => match ix with
  | 41 => some (1, none, bc_X9_isSwitch)
  | _ => none
theorem bk_X2_setHalted (l : Launch) : ∀ (ix n : Nat) (rc : Option Nat) (sp : ex_S), (be_X2_setHalted ix).map (fun q => (q.1, q.2.1, ab_sp ab_hd q.2.2)) = some (n, rc, sp) → ex_cok l RX2 1 20 ix n rc sp := by
  intro ix n rc sp h
  obtain ⟨l0, h2, rfl⟩ := ab_dmk h
  clear h
  unfold be_X2_setHalted at h2
  split at h2
  · cases h2; exact ec_cS (bm_X9_isSwitch l) bw_X9_isSwitch bv_X9_isSwitch (by decide) (by decide) (Or.inr ⟨"TinStation", by decide +kernel⟩) (by decide +kernel)
  · cases h2
def bx_X2_setHalted : ex_K := (RX2, ec_fx fl_X2, ec_cx cl_X2, sl_X2, (fun ix => (be_X2_setHalted ix).map (fun q => (q.1, q.2.1, ab_sp ab_hd q.2.2))), ec_nz, ec_no)
theorem bj_X2_setHalted (l : Launch) : ex_ok l 1 20 bx_X2_setHalted := ⟨ec_fok fo_X2, ec_cok co_X2, so_X2, bk_X2_setHalted l, fun _ h => (by cases h), fun _ h => (by cases h), fun _ h => (by cases h), fun _ _ h => (by cases h)⟩
def bq_X2_setHalted : List (ab_C × List ab_Q) := [(([.inl 34, .inr ((-2147483648), 2147483647)], [], [(34, some 1)], [(some ((-2147483648), 2147483647, none), [], [])]), [])]
def bc_X2_setHalted : List ab_C := bq_X2_setHalted.map (fun c => c.1)
def bi_X2_setHalted : List (Nat × Instr × Nat) := [(0, .iload_n 1, 1), (1, .invokestatic 41, 3), (4, .ifCond .ne 6, 3), (7, .ldc 45, 2), (9, .ireturn, 1), (10, .aload_n 0, 1), (11, .getfield 15, 3), (14, .ifCond .eq 20, 3), (17, .aload_n 0, 1), (18, .getfield 19, 3), (21, .iload_n 1, 1), (22, .iconst 1, 1), (23, .if_icmp .ne 7, 3), (26, .iconst 1, 1), (27, .goto 4, 3), (30, .iconst 0, 1), (31, .if_icmp .ne 6, 3), (34, .ldc 46, 2), (36, .ireturn, 1), (37, .aload_n 0, 1), (38, .iload_n 1, 1), (39, .iconst 1, 1), (40, .if_icmp .ne 7, 3), (43, .iconst 1, 1), (44, .goto 4, 3), (47, .iconst 0, 1), (48, .putfield 19, 3), (51, .iconst 1, 1), (52, .ireturn, 1)]
theorem bd_X2_setHalted : ∀ q ∈ bi_X2_setHalted, decode cX2_setHalted q.1 = .ok q.2 := by decide +kernel
theorem bz_X2_setHalted : bq_X2_setHalted.all (ab_ck ab_hd ab_xs ab_tr bx_X2_setHalted be_X2_setHalted bi_X2_setHalted (some .int) 2 25) = true := by decide +kernel
theorem bm_X2_setHalted (l : Launch) : ex_Met l yX2_setHalted cX2_setHalted 2 (some .int) 1 20 (ab_sp ab_hd bc_X2_setHalted) := ab_met (by decide) (by decide) rfl (bj_X2_setHalted l) bd_X2_setHalted ab_hcm ab_xk bz_X2_setHalted
theorem bw_X2_tellOf : ec_cw yX2_tellOf cX2_tellOf 2 (some .int) := ⟨ec_in (i := 947) (by decide +kernel) rfl, ec_in (i := 65) (by decide +kernel) rfl, by decide, by decide⟩
theorem bv_X2_tellOf : Cond.instanceMethod yX2_tellOf ∈ ec_tb ∧ Cond.selects yX2_tellOf.cls yX2_tellOf yX2_tellOf ∈ ec_tb := ⟨ec_in (i := 945) (by decide +kernel) rfl, ec_in (i := 946) (by decide +kernel) rfl⟩
def be_X2_tellOf : Nat → Option (Nat × Option Nat × List ab_C) := fun ix => match ix with
  | 47 => some (1, none, bc_X9_one)
  | _ => none
theorem bk_X2_tellOf (l : Launch) : ∀ (ix n : Nat) (rc : Option Nat) (sp : ex_S), (be_X2_tellOf ix).map (fun q => (q.1, q.2.1, ab_sp ab_hd q.2.2)) = some (n, rc, sp) → ex_cok l RX2 1 20 ix n rc sp := by
  intro ix n rc sp h
  obtain ⟨l0, h2, rfl⟩ := ab_dmk h
  clear h
  unfold be_X2_tellOf at h2
  split at h2
  · cases h2; exact ec_cS (bm_X9_one l) bw_X9_one bv_X9_one (by decide) (by decide) (Or.inr ⟨"TinStation", by decide +kernel⟩) (by decide +kernel)
  · cases h2
def bx_X2_tellOf : ex_K := (RX2, ec_fx fl_X2, ec_cx cl_X2, sl_X2, (fun ix => (be_X2_tellOf ix).map (fun q => (q.1, q.2.1, ab_sp ab_hd q.2.2))), ec_nz, ec_no)
theorem bj_X2_tellOf (l : Launch) : ex_ok l 1 20 bx_X2_tellOf := ⟨ec_fok fo_X2, ec_cok co_X2, so_X2, bk_X2_tellOf l, fun _ h => (by cases h), fun _ h => (by cases h), fun _ h => (by cases h), fun _ _ h => (by cases h)⟩
def bq_X2_tellOf : List (ab_C × List ab_Q) := [(([.inl 34, .inr ((-2147483648), 2147483647)], [], [], [(some ((-2147483648), 2147483647, none), [], [])]), [])]
def bc_X2_tellOf : List ab_C := bq_X2_tellOf.map (fun c => c.1)
def bi_X2_tellOf : List (Nat × Instr × Nat) := [(0, .iload_n 1, 1), (1, .tableswitch 98 0 6 #[43, 51, 67, 75, 83, 88, 93], 43), (44, .aload_n 0, 1), (45, .getfield 15, 3), (48, .invokestatic 47, 3), (51, .ireturn, 1), (52, .aload_n 0, 1), (53, .getfield 15, 3), (56, .ifCond .eq 10, 3), (59, .aload_n 0, 1), (60, .getfield 25, 3), (63, .goto 4, 3), (66, .iconst (-1), 1), (67, .ireturn, 1), (68, .aload_n 0, 1), (69, .getfield 19, 3), (72, .invokestatic 47, 3), (75, .ireturn, 1), (76, .aload_n 0, 1), (77, .getfield 22, 3), (80, .invokestatic 47, 3), (83, .ireturn, 1), (84, .aload_n 0, 1), (85, .getfield 11, 3), (88, .ireturn, 1), (89, .aload_n 0, 1), (90, .getfield 28, 3), (93, .ireturn, 1), (94, .aload_n 0, 1), (95, .getfield 31, 3), (98, .ireturn, 1), (99, .ldc 45, 2), (101, .ireturn, 1)]
theorem bd_X2_tellOf : ∀ q ∈ bi_X2_tellOf, decode cX2_tellOf q.1 = .ok q.2 := by decide +kernel
theorem bz_X2_tellOf : bq_X2_tellOf.all (ab_ck ab_hd ab_xs ab_tr bx_X2_tellOf be_X2_tellOf bi_X2_tellOf (some .int) 2 11) = true := by decide +kernel
theorem bm_X2_tellOf (l : Launch) : ex_Met l yX2_tellOf cX2_tellOf 2 (some .int) 1 20 (ab_sp ab_hd bc_X2_tellOf) := ab_met (by decide) (by decide) rfl (bj_X2_tellOf l) bd_X2_tellOf ab_hcm ab_xk bz_X2_tellOf
theorem bw_X3_becomeLike : ec_cw yX3_becomeLike cX3_becomeLike 2 none := ⟨ec_in (i := 885) (by decide +kernel) rfl, ec_in (i := 62) (by decide +kernel) rfl, by decide, by decide⟩
theorem bv_X3_becomeLike : Cond.instanceMethod yX3_becomeLike ∈ ec_tb ∧ Cond.selects yX3_becomeLike.cls yX3_becomeLike yX3_becomeLike ∈ ec_tb := ⟨ec_in (i := 883) (by decide +kernel) rfl, ec_in (i := 884) (by decide +kernel) rfl⟩
def be_X3_becomeLike : Nat → Option (Nat × Option Nat × List ab_C) := fun ix => match ix with
  | 30 => some (2, none, bc_X9_copy)
  | _ => none
theorem bk_X3_becomeLike (l : Launch) : ∀ (ix n : Nat) (rc : Option Nat) (sp : ex_S), (be_X3_becomeLike ix).map (fun q => (q.1, q.2.1, ab_sp ab_hd q.2.2)) = some (n, rc, sp) → ex_cok l RX3 2 47 ix n rc sp := by
  intro ix n rc sp h
  obtain ⟨l0, h2, rfl⟩ := ab_dmk h
  clear h
  unfold be_X3_becomeLike at h2
  split at h2
  · cases h2; exact ec_cS (bm_X9_copy l) bw_X9_copy bv_X9_copy (by decide) (by decide) (Or.inr ⟨"TinStation", by decide +kernel⟩) (by decide +kernel)
  · cases h2
def bx_X3_becomeLike : ex_K := (RX3, ec_fx fl_X3, ec_cx cl_X3, sl_X3, (fun ix => (be_X3_becomeLike ix).map (fun q => (q.1, q.2.1, ab_sp ab_hd q.2.2))), ec_nz, ec_no)
theorem bj_X3_becomeLike (l : Launch) : ex_ok l 2 47 bx_X3_becomeLike := ⟨ec_fok fo_X3, ec_cok co_X3, so_X3, bk_X3_becomeLike l, fun _ h => (by cases h), fun _ h => (by cases h), fun _ h => (by cases h), fun _ _ h => (by cases h)⟩
def bq_X3_becomeLike : List (ab_C × List ab_Q) := [(([.inl 43, .inl 14], [], [(43, some 6), (44, none), (45, none), (46, none), (47, none), (48, none), (49, none)], [(none, [], [])]), [])]
def bc_X3_becomeLike : List ab_C := bq_X3_becomeLike.map (fun c => c.1)
def bi_X3_becomeLike : List (Nat × Instr × Nat) := [(0, .aload_n 1, 1), (1, .getfield 9, 3), (4, .aload_n 0, 1), (5, .getfield 9, 3), (8, .invokestatic 30, 3), (11, .aload_n 1, 1), (12, .getfield 15, 3), (15, .aload_n 0, 1), (16, .getfield 15, 3), (19, .invokestatic 30, 3), (22, .aload_n 1, 1), (23, .getfield 18, 3), (26, .aload_n 0, 1), (27, .getfield 18, 3), (30, .invokestatic 30, 3), (33, .aload_n 1, 1), (34, .getfield 21, 3), (37, .aload_n 0, 1), (38, .getfield 21, 3), (41, .invokestatic 30, 3), (44, .aload_n 1, 1), (45, .getfield 24, 3), (48, .aload_n 0, 1), (49, .getfield 24, 3), (52, .invokestatic 30, 3), (55, .aload_n 1, 1), (56, .getfield 27, 3), (59, .aload_n 0, 1), (60, .getfield 27, 3), (63, .invokestatic 30, 3), (66, .aload_n 0, 1), (67, .aload_n 1, 1), (68, .getfield 34, 3), (71, .putfield 34, 3), (74, .return_, 1)]
theorem bd_X3_becomeLike : ∀ q ∈ bi_X3_becomeLike, decode cX3_becomeLike q.1 = .ok q.2 := by decide +kernel
theorem bz_X3_becomeLike : bq_X3_becomeLike.all (ab_ck ab_hd ab_xs ab_tr bx_X3_becomeLike be_X3_becomeLike bi_X3_becomeLike none 2 37) = true := by decide +kernel
theorem bm_X3_becomeLike (l : Launch) : ex_Met l yX3_becomeLike cX3_becomeLike 2 none 2 47 (ab_sp ab_hd bc_X3_becomeLike) := ab_met (by decide) (by decide) rfl (bj_X3_becomeLike l) bd_X3_becomeLike ab_hcm ab_xk bz_X3_becomeLike
theorem bw_X3_has : ec_cw yX3_has cX3_has 2 (some .boolean) := ⟨ec_in (i := 520) (by decide +kernel) rfl, ec_in (i := 62) (by decide +kernel) rfl, by decide, by decide⟩
theorem bv_X3_has : Cond.instanceMethod yX3_has ∈ ec_tb ∧ Cond.selects yX3_has.cls yX3_has yX3_has ∈ ec_tb := ⟨ec_in (i := 518) (by decide +kernel) rfl, ec_in (i := 519) (by decide +kernel) rfl⟩
def bx_X3_has : ex_K := (RX3, ec_fx fl_X3, ec_cx cl_X3, sl_X3, (fun ix => (ec_no ix).map (fun (q : Nat × Option Nat × List ab_C) => (q.1, q.2.1, ab_sp ab_hd q.2.2))), ec_nz, ec_no)
theorem bj_X3_has (l : Launch) : ex_ok l 0 0 bx_X3_has := ⟨ec_fok fo_X3, ec_cok co_X3, so_X3, fun _ _ _ _ h => (by cases h), fun _ h => (by cases h), fun _ h => (by cases h), fun _ h => (by cases h), fun _ _ h => (by cases h)⟩
def bq_X3_has : List (ab_C × List ab_Q) := [(([.inl 14, .inr ((-2147483648), 2147483647)], [], [], [(some (0, 0, none), [], []), (some (1, 1, none), [((0, 1, 0), 0, 5, none)], [])]), []),
  (([.inl 43, .inr ((-2147483648), 2147483647)], [], [], [(some (0, 0, none), [], []), (some (1, 1, none), [((0, 1, 0), 0, 5, none)], [])]), [])]
def bc_X3_has : List ab_C := bq_X3_has.map (fun c => c.1)
def bi_X3_has : List (Nat × Instr × Nat) := [(0, .iload_n 1, 1), (1, .ifCond .lt 15, 3), (4, .iload_n 1, 1), (5, .aload_n 0, 1), (6, .getfield 34, 3), (9, .if_icmp .ge 7, 3), (12, .iconst 1, 1), (13, .goto 4, 3), (16, .iconst 0, 1), (17, .ireturn, 1)]
theorem bd_X3_has : ∀ q ∈ bi_X3_has, decode cX3_has q.1 = .ok q.2 := by decide +kernel
theorem bz_X3_has : bq_X3_has.all (ab_ck ab_hd ab_xs ab_tr bx_X3_has ec_no bi_X3_has (some .boolean) 2 11) = true := by decide +kernel
theorem bm_X3_has (l : Launch) : ex_Met l yX3_has cX3_has 2 (some .boolean) 0 0 (ab_sp ab_hd bc_X3_has) := ab_met (by decide) (by decide) rfl (bj_X3_has l) bd_X3_has ab_hcm ab_xk bz_X3_has
theorem bw_X3_mends : ec_cw yX3_mends cX3_mends 2 (some .boolean) := ⟨ec_in (i := 526) (by decide +kernel) rfl, ec_in (i := 62) (by decide +kernel) rfl, by decide, by decide⟩
theorem bv_X3_mends : Cond.instanceMethod yX3_mends ∈ ec_tb ∧ Cond.selects yX3_mends.cls yX3_mends yX3_mends ∈ ec_tb := ⟨ec_in (i := 524) (by decide +kernel) rfl, ec_in (i := 525) (by decide +kernel) rfl⟩
def bx_X3_mends : ex_K := (RX3, ec_fx fl_X3, ec_cx cl_X3, sl_X3, (fun ix => (ec_no ix).map (fun (q : Nat × Option Nat × List ab_C) => (q.1, q.2.1, ab_sp ab_hd q.2.2))), ec_nz, ec_no)
theorem bj_X3_mends (l : Launch) : ex_ok l 0 0 bx_X3_mends := ⟨ec_fok fo_X3, ec_cok co_X3, so_X3, fun _ _ _ _ h => (by cases h), fun _ h => (by cases h), fun _ h => (by cases h), fun _ h => (by cases h), fun _ _ h => (by cases h)⟩
def bq_X3_mends : List (ab_C × List ab_Q) := [(([.inl 14, .inr (0, 5)], [], [], [(some (0, 0, none), [], []), (some (1, 1, none), [], [])]), []),
  (([.inl 43, .inr (0, 5)], [], [], [(some (0, 0, none), [], []), (some (1, 1, none), [], [])]), [])]
def bc_X3_mends : List ab_C := bq_X3_mends.map (fun c => c.1)
def bi_X3_mends : List (Nat × Instr × Nat) := [(0, .aload_n 0, 1), (1, .getfield 18, 3), (4, .iload_n 1, 1), (5, .iaload, 1), (6, .iconst (-1), 1), (7, .if_icmp .eq 7, 3), (10, .iconst 1, 1), (11, .goto 4, 3), (14, .iconst 0, 1), (15, .ireturn, 1)]
theorem bd_X3_mends : ∀ q ∈ bi_X3_mends, decode cX3_mends q.1 = .ok q.2 := by decide +kernel
theorem bz_X3_mends : bq_X3_mends.all (ab_ck ab_hd ab_xs ab_tr bx_X3_mends ec_no bi_X3_mends (some .boolean) 2 11) = true := by decide +kernel
theorem bm_X3_mends (l : Launch) : ex_Met l yX3_mends cX3_mends 2 (some .boolean) 0 0 (ab_sp ab_hd bc_X3_mends) := ab_met (by decide) (by decide) rfl (bj_X3_mends l) bd_X3_mends ab_hcm ab_xk bz_X3_mends
theorem bw_X3_addPerson : ec_cw yX3_addPerson cX3_addPerson 2 (some .int) := ⟨ec_in (i := 507) (by decide +kernel) rfl, ec_in (i := 62) (by decide +kernel) rfl, by decide, by decide⟩
theorem bv_X3_addPerson : Cond.instanceMethod yX3_addPerson ∈ ec_tb ∧ Cond.selects yX3_addPerson.cls yX3_addPerson yX3_addPerson ∈ ec_tb := ⟨ec_in (i := 505) (by decide +kernel) rfl, ec_in (i := 506) (by decide +kernel) rfl⟩
def bx_X3_addPerson : ex_K := (RX3, ec_fx fl_X3, ec_cx cl_X3, sl_X3, (fun ix => (ec_no ix).map (fun (q : Nat × Option Nat × List ab_C) => (q.1, q.2.1, ab_sp ab_hd q.2.2))), ec_nz, ec_no)
theorem bj_X3_addPerson (l : Launch) : ex_ok l 0 0 bx_X3_addPerson := ⟨ec_fok fo_X3, ec_cok co_X3, so_X3, fun _ _ _ _ h => (by cases h), fun _ h => (by cases h), fun _ h => (by cases h), fun _ h => (by cases h), fun _ _ h => (by cases h)⟩
def bq_X3_addPerson : List (ab_C × List ab_Q) := [(([.inl 14, .inr (0, 5)], [], [(14, some 6), (15, none), (17, none)], [(some ((-2147483648), 2147483647, none), [], [])]), [])]
def bc_X3_addPerson : List ab_C := bq_X3_addPerson.map (fun c => c.1)
def bi_X3_addPerson : List (Nat × Instr × Nat) := [(0, .aload_n 0, 1), (1, .getfield 34, 3), (4, .bipush 6, 2), (6, .if_icmp .lt 6, 3), (9, .ldc 38, 2), (11, .ireturn, 1), (12, .aload_n 0, 1), (13, .getfield 9, 3), (16, .aload_n 0, 1), (17, .getfield 34, 3), (20, .iload_n 1, 1), (21, .iastore, 1), (22, .aload_n 0, 1), (23, .getfield 18, 3), (26, .aload_n 0, 1), (27, .getfield 34, 3), (30, .iconst (-1), 1), (31, .iastore, 1), (32, .aload_n 0, 1), (33, .dup, 1), (34, .getfield 34, 3), (37, .iconst 1, 1), (38, .iadd, 1), (39, .putfield 34, 3), (42, .aload_n 0, 1), (43, .getfield 34, 3), (46, .iconst 1, 1), (47, .isub, 1), (48, .ireturn, 1)]
theorem bd_X3_addPerson : ∀ q ∈ bi_X3_addPerson, decode cX3_addPerson q.1 = .ok q.2 := by decide +kernel
theorem bz_X3_addPerson : bq_X3_addPerson.all (ab_ck ab_hd ab_xs ab_tr bx_X3_addPerson ec_no bi_X3_addPerson (some .int) 2 29) = true := by decide +kernel
theorem bm_X3_addPerson (l : Launch) : ex_Met l yX3_addPerson cX3_addPerson 2 (some .int) 0 0 (ab_sp ab_hd bc_X3_addPerson) := ab_met (by decide) (by decide) rfl (bj_X3_addPerson l) bd_X3_addPerson ab_hcm ab_xk bz_X3_addPerson
theorem bw_X3_setDoing : ec_cw yX3_setDoing cX3_setDoing 4 (some .int) := ⟨ec_in (i := 539) (by decide +kernel) rfl, ec_in (i := 62) (by decide +kernel) rfl, by decide, by decide⟩
theorem bv_X3_setDoing : Cond.instanceMethod yX3_setDoing ∈ ec_tb ∧ Cond.selects yX3_setDoing.cls yX3_setDoing yX3_setDoing ∈ ec_tb := ⟨ec_in (i := 537) (by decide +kernel) rfl, ec_in (i := 538) (by decide +kernel) rfl⟩
def be_X3_setDoing : Nat → Option (Nat × Option Nat × List ab_C) := fun ix => match ix with
  | 39 => some (2, some 3, bc_X3_has)
  | 44 => some (2, some 3, bc_X3_mends)
  | _ => none
theorem bk_X3_setDoing (l : Launch) : ∀ (ix n : Nat) (rc : Option Nat) (sp : ex_S), (be_X3_setDoing ix).map (fun q => (q.1, q.2.1, ab_sp ab_hd q.2.2)) = some (n, rc, sp) → ex_cok l RX3 1 21 ix n rc sp := by
  intro ix n rc sp h
  obtain ⟨l0, h2, rfl⟩ := ab_dmk h
  clear h
  unfold be_X3_setDoing at h2
  split at h2
  · cases h2; exact ec_cV (bm_X3_has l) bw_X3_has bv_X3_has (by decide) (by decide) (Or.inl (ec_in (i := 540) (by decide +kernel) rfl)) (T := TX3) (N := 7) rfl (by decide) (by decide +kernel)
  · cases h2; exact ec_cV (bm_X3_mends l) bw_X3_mends bv_X3_mends (by decide) (by decide) (Or.inl (ec_in (i := 542) (by decide +kernel) rfl)) (T := TX3) (N := 7) rfl (by decide) (by decide +kernel)
  · cases h2
def bx_X3_setDoing : ex_K := (RX3, ec_fx fl_X3, ec_cx cl_X3, sl_X3, (fun ix => (be_X3_setDoing ix).map (fun q => (q.1, q.2.1, ab_sp ab_hd q.2.2))), ec_nz, ec_no)
theorem bj_X3_setDoing (l : Launch) : ex_ok l 1 21 bx_X3_setDoing := ⟨ec_fok fo_X3, ec_cok co_X3, so_X3, bk_X3_setDoing l, fun _ h => (by cases h), fun _ h => (by cases h), fun _ h => (by cases h), fun _ _ h => (by cases h)⟩
def bq_X3_setDoing : List (ab_C × List ab_Q) := [(([.inl 14, .inr ((-2147483648), 2147483647), .inr ((-2147483648), 2147483647)], [], [(16, none)], [(some ((-2147483648), 2147483647, none), [], [])]), [])]
def bc_X3_setDoing : List ab_C := bq_X3_setDoing.map (fun c => c.1)
def bi_X3_setDoing : List (Nat × Instr × Nat) := [(0, .aload_n 0, 1), (1, .iload_n 1, 1), (2, .invokevirtual 39, 3), (5, .ifCond .eq 12, 3), (8, .iload_n 2, 1), (9, .ifCond .lt 8, 3), (12, .iload_n 2, 1), (13, .iconst 3, 1), (14, .if_icmp .lt 6, 3), (17, .ldc 43, 2), (19, .ireturn, 1), (20, .aload_n 0, 1), (21, .iload_n 1, 1), (22, .invokevirtual 44, 3), (25, .ifCond .eq 6, 3), (28, .ldc 47, 2), (30, .ireturn, 1), (31, .aload_n 0, 1), (32, .getfield 15, 3), (35, .iload_n 1, 1), (36, .iaload, 1), (37, .istore_n 3, 1), (38, .aload_n 0, 1), (39, .getfield 15, 3), (42, .iload_n 1, 1), (43, .iload_n 2, 1), (44, .iastore, 1), (45, .iload_n 3, 1), (46, .ireturn, 1)]
theorem bd_X3_setDoing : ∀ q ∈ bi_X3_setDoing, decode cX3_setDoing q.1 = .ok q.2 := by decide +kernel
theorem bz_X3_setDoing : bq_X3_setDoing.all (ab_ck ab_hd ab_xs ab_tr bx_X3_setDoing be_X3_setDoing bi_X3_setDoing (some .int) 4 27) = true := by decide +kernel
theorem bm_X3_setDoing (l : Launch) : ex_Met l yX3_setDoing cX3_setDoing 4 (some .int) 1 21 (ab_sp ab_hd bc_X3_setDoing) := ab_met (by decide) (by decide) rfl (bj_X3_setDoing l) bd_X3_setDoing ab_hcm ab_xk bz_X3_setDoing
theorem bw_X3_tellOf : ec_cw yX3_tellOf cX3_tellOf 3 (some .int) := ⟨ec_in (i := 551) (by decide +kernel) rfl, ec_in (i := 62) (by decide +kernel) rfl, by decide, by decide⟩
theorem bv_X3_tellOf : Cond.instanceMethod yX3_tellOf ∈ ec_tb ∧ Cond.selects yX3_tellOf.cls yX3_tellOf yX3_tellOf ∈ ec_tb := ⟨ec_in (i := 549) (by decide +kernel) rfl, ec_in (i := 550) (by decide +kernel) rfl⟩
def be_X3_tellOf : Nat → Option (Nat × Option Nat × List ab_C) := fun ix => match ix with
  | 39 => some (2, some 3, bc_X3_has)
  | _ => none
theorem bk_X3_tellOf (l : Launch) : ∀ (ix n : Nat) (rc : Option Nat) (sp : ex_S), (be_X3_tellOf ix).map (fun q => (q.1, q.2.1, ab_sp ab_hd q.2.2)) = some (n, rc, sp) → ex_cok l RX3 1 21 ix n rc sp := by
  intro ix n rc sp h
  obtain ⟨l0, h2, rfl⟩ := ab_dmk h
  clear h
  unfold be_X3_tellOf at h2
  split at h2
  · cases h2; exact ec_cV (bm_X3_has l) bw_X3_has bv_X3_has (by decide) (by decide) (Or.inl (ec_in (i := 540) (by decide +kernel) rfl)) (T := TX3) (N := 7) rfl (by decide) (by decide +kernel)
  · cases h2
def bx_X3_tellOf : ex_K := (RX3, ec_fx fl_X3, ec_cx cl_X3, sl_X3, (fun ix => (be_X3_tellOf ix).map (fun q => (q.1, q.2.1, ab_sp ab_hd q.2.2))), ec_nz, ec_no)
theorem bj_X3_tellOf (l : Launch) : ex_ok l 1 21 bx_X3_tellOf := ⟨ec_fok fo_X3, ec_cok co_X3, so_X3, bk_X3_tellOf l, fun _ h => (by cases h), fun _ h => (by cases h), fun _ h => (by cases h), fun _ _ h => (by cases h)⟩
def bq_X3_tellOf : List (ab_C × List ab_Q) := [(([.inl 14, .inr ((-2147483648), 2147483647), .inr ((-2147483648), 2147483647)], [], [], [(some ((-2147483648), 2147483647, none), [], [])]), [])]
def bc_X3_tellOf : List ab_C := bq_X3_tellOf.map (fun c => c.1)
def bi_X3_tellOf : List (Nat × Instr × Nat) := [(0, .aload_n 0, 1), (1, .iload_n 1, 1), (2, .invokevirtual 39, 3), (5, .ifCond .ne 6, 3), (8, .ldc 43, 2), (10, .ireturn, 1), (11, .iload_n 2, 1), (12, .tableswitch 82 0 5 #[40, 47, 54, 61, 68, 75], 40), (52, .aload_n 0, 1), (53, .getfield 9, 3), (56, .iload_n 1, 1), (57, .iaload, 1), (58, .ireturn, 1), (59, .aload_n 0, 1), (60, .getfield 15, 3), (63, .iload_n 1, 1), (64, .iaload, 1), (65, .ireturn, 1), (66, .aload_n 0, 1), (67, .getfield 18, 3), (70, .iload_n 1, 1), (71, .iaload, 1), (72, .ireturn, 1), (73, .aload_n 0, 1), (74, .getfield 21, 3), (77, .iload_n 1, 1), (78, .iaload, 1), (79, .ireturn, 1), (80, .aload_n 0, 1), (81, .getfield 24, 3), (84, .iload_n 1, 1), (85, .iaload, 1), (86, .ireturn, 1), (87, .aload_n 0, 1), (88, .getfield 27, 3), (91, .iload_n 1, 1), (92, .iaload, 1), (93, .ireturn, 1), (94, .ldc 43, 2), (96, .ireturn, 1)]
theorem bd_X3_tellOf : ∀ q ∈ bi_X3_tellOf, decode cX3_tellOf q.1 = .ok q.2 := by decide +kernel
theorem bz_X3_tellOf : bq_X3_tellOf.all (ab_ck ab_hd ab_xs ab_tr bx_X3_tellOf be_X3_tellOf bi_X3_tellOf (some .int) 3 13) = true := by decide +kernel
theorem bm_X3_tellOf (l : Launch) : ex_Met l yX3_tellOf cX3_tellOf 3 (some .int) 1 21 (ab_sp ab_hd bc_X3_tellOf) := ab_met (by decide) (by decide) rfl (bj_X3_tellOf l) bd_X3_tellOf ab_hcm ab_xk bz_X3_tellOf
theorem bw_X3_startMending : ec_cw yX3_startMending cX3_startMending 4 none := ⟨ec_in (i := 630) (by decide +kernel) rfl, ec_in (i := 62) (by decide +kernel) rfl, by decide, by decide⟩
theorem bv_X3_startMending : Cond.instanceMethod yX3_startMending ∈ ec_tb ∧ Cond.selects yX3_startMending.cls yX3_startMending yX3_startMending ∈ ec_tb := ⟨ec_in (i := 628) (by decide +kernel) rfl, ec_in (i := 629) (by decide +kernel) rfl⟩
def bx_X3_startMending : ex_K := (RX3, ec_fx fl_X3, ec_cx cl_X3, sl_X3, (fun ix => (ec_no ix).map (fun (q : Nat × Option Nat × List ab_C) => (q.1, q.2.1, ab_sp ab_hd q.2.2))), ec_nz, ec_no)
theorem bj_X3_startMending (l : Launch) : ex_ok l 0 0 bx_X3_startMending := ⟨ec_fok fo_X3, ec_cok co_X3, so_X3, fun _ _ _ _ h => (by cases h), fun _ h => (by cases h), fun _ h => (by cases h), fun _ h => (by cases h), fun _ _ h => (by cases h)⟩
def bq_X3_startMending : List (ab_C × List ab_Q) := [(([.inl 14, .inr (0, 5), .inr (0, 9), .inr (1, 60)], [], [(16, none), (17, none), (18, none)], [(none, [], [])]), []),
  (([.inl 43, .inr (0, 5), .inr (0, 9), .inr (1, 60)], [], [(45, none), (46, none), (47, none)], [(none, [], [])]), [])]
def bc_X3_startMending : List ab_C := bq_X3_startMending.map (fun c => c.1)
def bi_X3_startMending : List (Nat × Instr × Nat) := [(0, .aload_n 0, 1), (1, .getfield 18, 3), (4, .iload_n 1, 1), (5, .iload_n 2, 1), (6, .iastore, 1), (7, .aload_n 0, 1), (8, .getfield 21, 3), (11, .iload_n 1, 1), (12, .iload_n 3, 1), (13, .iastore, 1), (14, .aload_n 0, 1), (15, .getfield 15, 3), (18, .iload_n 1, 1), (19, .iconst 1, 1), (20, .iastore, 1), (21, .return_, 1)]
theorem bd_X3_startMending : ∀ q ∈ bi_X3_startMending, decode cX3_startMending q.1 = .ok q.2 := by decide +kernel
theorem bz_X3_startMending : bq_X3_startMending.all (ab_ck ab_hd ab_xs ab_tr bx_X3_startMending ec_no bi_X3_startMending none 4 18) = true := by decide +kernel
theorem bm_X3_startMending (l : Launch) : ex_Met l yX3_startMending cX3_startMending 4 none 0 0 (ab_sp ab_hd bc_X3_startMending) := ab_met (by decide) (by decide) rfl (bj_X3_startMending l) bd_X3_startMending ab_hcm ab_xk bz_X3_startMending
theorem bw_X3_isMended : ec_cw yX3_isMended cX3_isMended 3 (some .boolean) := ⟨ec_in (i := 625) (by decide +kernel) rfl, ec_in (i := 62) (by decide +kernel) rfl, by decide, by decide⟩
theorem bv_X3_isMended : Cond.instanceMethod yX3_isMended ∈ ec_tb ∧ Cond.selects yX3_isMended.cls yX3_isMended yX3_isMended ∈ ec_tb := ⟨ec_in (i := 623) (by decide +kernel) rfl, ec_in (i := 624) (by decide +kernel) rfl⟩
def bx_X3_isMended : ex_K := (RX3, ec_fx fl_X3, ec_cx cl_X3, sl_X3, (fun ix => (ec_no ix).map (fun (q : Nat × Option Nat × List ab_C) => (q.1, q.2.1, ab_sp ab_hd q.2.2))), ec_nz, ec_no)
theorem bj_X3_isMended (l : Launch) : ex_ok l 0 0 bx_X3_isMended := ⟨ec_fok fo_X3, ec_cok co_X3, so_X3, fun _ _ _ _ h => (by cases h), fun _ h => (by cases h), fun _ h => (by cases h), fun _ h => (by cases h), fun _ _ h => (by cases h)⟩
def bq_X3_isMended : List (ab_C × List ab_Q) := [(([.inl 14, .inr (0, 9)], [], [], [(some (0, 1, none), [], [])]), [(2, [some (.inl 14), some (.inr (.inl (0, 9, none, none))), some (.inr (.inl (0, 6, none, none)))], [((1, 0, 7), 0, 24, some (1007, 0)), ((1, 76, 52), 0, 24, some (77052, 0))], 13, [0, 0, (-2)])]),
  (([.inl 43, .inr (0, 9)], [], [], [(some (0, 1, none), [], [])]), [(2, [some (.inl 43), some (.inr (.inl (0, 9, none, none))), some (.inr (.inl (0, 6, none, none)))], [((1, 0, 7), 0, 24, some (1007, 0)), ((1, 76, 52), 0, 24, some (77052, 0))], 13, [0, 0, (-2)])])]
def bc_X3_isMended : List ab_C := bq_X3_isMended.map (fun c => c.1)
def bi_X3_isMended : List (Nat × Instr × Nat) := [(0, .iconst 0, 1), (1, .istore_n 2, 1), (2, .iload_n 2, 1), (3, .aload_n 0, 1), (4, .getfield 34, 3), (7, .if_icmp .ge 21, 3), (10, .aload_n 0, 1), (11, .getfield 18, 3), (14, .iload_n 2, 1), (15, .iaload, 1), (16, .iload_n 1, 1), (17, .if_icmp .ne 5, 3), (20, .iconst 1, 1), (21, .ireturn, 1), (22, .iinc 2 1, 3), (25, .goto (-23), 3), (28, .iconst 0, 1), (29, .ireturn, 1)]
theorem bd_X3_isMended : ∀ q ∈ bi_X3_isMended, decode cX3_isMended q.1 = .ok q.2 := by decide +kernel
theorem bz_X3_isMended : bq_X3_isMended.all (ab_ck ab_hd ab_xs ab_tr bx_X3_isMended ec_no bi_X3_isMended (some .boolean) 3 14) = true := by decide +kernel
theorem bm_X3_isMended (l : Launch) : ex_Met l yX3_isMended cX3_isMended 3 (some .boolean) 0 0 (ab_sp ab_hd bc_X3_isMended) := ab_met (by decide) (by decide) rfl (bj_X3_isMended l) bd_X3_isMended ab_hcm ab_xk bz_X3_isMended
theorem bw_X3_menders : ec_cw yX3_menders cX3_menders 3 (some .int) := ⟨ec_in (i := 1094) (by decide +kernel) rfl, ec_in (i := 62) (by decide +kernel) rfl, by decide, by decide⟩
theorem bv_X3_menders : Cond.instanceMethod yX3_menders ∈ ec_tb ∧ Cond.selects yX3_menders.cls yX3_menders yX3_menders ∈ ec_tb := ⟨ec_in (i := 1092) (by decide +kernel) rfl, ec_in (i := 1093) (by decide +kernel) rfl⟩
def be_X3_menders : Nat → Option (Nat × Option Nat × List ab_C) := fun ix => match ix with
  | 44 => some (2, some 3, bc_X3_mends)
  | 48 => some (1, none, bc_X9_one)
  | _ => none
theorem bk_X3_menders (l : Launch) : ∀ (ix n : Nat) (rc : Option Nat) (sp : ex_S), (be_X3_menders ix).map (fun q => (q.1, q.2.1, ab_sp ab_hd q.2.2)) = some (n, rc, sp) → ex_cok l RX3 1 21 ix n rc sp := by
  intro ix n rc sp h
  obtain ⟨l0, h2, rfl⟩ := ab_dmk h
  clear h
  unfold be_X3_menders at h2
  split at h2
  · cases h2; exact ec_cV (bm_X3_mends l) bw_X3_mends bv_X3_mends (by decide) (by decide) (Or.inl (ec_in (i := 542) (by decide +kernel) rfl)) (T := TX3) (N := 7) rfl (by decide) (by decide +kernel)
  · cases h2; exact ec_cS (bm_X9_one l) bw_X9_one bv_X9_one (by decide) (by decide) (Or.inr ⟨"TinStation", by decide +kernel⟩) (by decide +kernel)
  · cases h2
def bx_X3_menders : ex_K := (RX3, ec_fx fl_X3, ec_cx cl_X3, sl_X3, (fun ix => (be_X3_menders ix).map (fun q => (q.1, q.2.1, ab_sp ab_hd q.2.2))), ec_nz, ec_no)
theorem bj_X3_menders (l : Launch) : ex_ok l 1 21 bx_X3_menders := ⟨ec_fok fo_X3, ec_cok co_X3, so_X3, bk_X3_menders l, fun _ h => (by cases h), fun _ h => (by cases h), fun _ h => (by cases h), fun _ _ h => (by cases h)⟩
def bq_X3_menders : List (ab_C × List ab_Q) := [(([.inl 14], [], [], [(some ((-2147483648), 2147483647, none), [], [])]), [(4, [some (.inl 14), some (.inr (.inl ((-2147483648), 2147483647, none, none))), some (.inr (.inl (0, 6, none, none)))], [((1, 0, 7), 0, 24, some (1007, 0)), ((1, 76, 52), 0, 24, some (77052, 0))], 13, [0, 0, (-2)])])]
def bc_X3_menders : List ab_C := bq_X3_menders.map (fun c => c.1)
def bi_X3_menders : List (Nat × Instr × Nat) := [(0, .iconst 0, 1), (1, .istore_n 1, 1), (2, .iconst 0, 1), (3, .istore_n 2, 1), (4, .iload_n 2, 1), (5, .aload_n 0, 1), (6, .getfield 34, 3), (9, .if_icmp .ge 20, 3), (12, .iload_n 1, 1), (13, .aload_n 0, 1), (14, .iload_n 2, 1), (15, .invokevirtual 44, 3), (18, .invokestatic 48, 3), (21, .iadd, 1), (22, .istore_n 1, 1), (23, .iinc 2 1, 3), (26, .goto (-22), 3), (29, .iload_n 1, 1), (30, .ireturn, 1)]
theorem bd_X3_menders : ∀ q ∈ bi_X3_menders, decode cX3_menders q.1 = .ok q.2 := by decide +kernel
theorem bz_X3_menders : bq_X3_menders.all (ab_ck ab_hd ab_xs ab_tr bx_X3_menders be_X3_menders bi_X3_menders (some .int) 3 15) = true := by decide +kernel
theorem bm_X3_menders (l : Launch) : ex_Met l yX3_menders cX3_menders 3 (some .int) 1 21 (ab_sp ab_hd bc_X3_menders) := ab_met (by decide) (by decide) rfl (bj_X3_menders l) bd_X3_menders ab_hcm ab_xk bz_X3_menders
theorem bw_X6_has : ec_cw yX6_has cX6_has 2 (some .boolean) := ⟨ec_in (i := 580) (by decide +kernel) rfl, ec_in (i := 63) (by decide +kernel) rfl, by decide, by decide⟩
theorem bv_X6_has : Cond.instanceMethod yX6_has ∈ ec_tb ∧ Cond.selects yX6_has.cls yX6_has yX6_has ∈ ec_tb := ⟨ec_in (i := 578) (by decide +kernel) rfl, ec_in (i := 579) (by decide +kernel) rfl⟩
def bx_X6_has : ex_K := (RX6, ec_fx fl_X6, ec_cx cl_X6, sl_X6, (fun ix => (ec_no ix).map (fun (q : Nat × Option Nat × List ab_C) => (q.1, q.2.1, ab_sp ab_hd q.2.2))), ec_nz, ec_no)
theorem bj_X6_has (l : Launch) : ex_ok l 0 0 bx_X6_has := ⟨ec_fok fo_X6, ec_cok co_X6, so_X6, fun _ _ _ _ h => (by cases h), fun _ h => (by cases h), fun _ h => (by cases h), fun _ h => (by cases h), fun _ _ h => (by cases h)⟩
def bq_X6_has : List (ab_C × List ab_Q) := [(([.inl 21, .inr ((-2147483648), 2147483647)], [], [], [(some (0, 0, none), [], []), (some (1, 1, none), [((0, 1, 0), 0, 9, none)], [])]), []),
  (([.inl 50, .inr ((-2147483648), 2147483647)], [], [], [(some (0, 0, none), [], []), (some (1, 1, none), [((0, 1, 0), 0, 9, none)], [])]), [])]
def bc_X6_has : List ab_C := bq_X6_has.map (fun c => c.1)
def bi_X6_has : List (Nat × Instr × Nat) := [(0, .iload_n 1, 1), (1, .ifCond .lt 15, 3), (4, .iload_n 1, 1), (5, .aload_n 0, 1), (6, .getfield 58, 3), (9, .if_icmp .ge 7, 3), (12, .iconst 1, 1), (13, .goto 4, 3), (16, .iconst 0, 1), (17, .ireturn, 1)]
theorem bd_X6_has : ∀ q ∈ bi_X6_has, decode cX6_has q.1 = .ok q.2 := by decide +kernel
theorem bz_X6_has : bq_X6_has.all (ab_ck ab_hd ab_xs ab_tr bx_X6_has ec_no bi_X6_has (some .boolean) 2 11) = true := by decide +kernel
theorem bm_X6_has (l : Launch) : ex_Met l yX6_has cX6_has 2 (some .boolean) 0 0 (ab_sp ab_hd bc_X6_has) := ab_met (by decide) (by decide) rfl (bj_X6_has l) bd_X6_has ab_hcm ab_xk bz_X6_has
