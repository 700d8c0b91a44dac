theorem bw_X6_makeNew : ec_cw yX6_makeNew cX6_makeNew 2 none := ⟨ec_in (i := 760) (by decide +kernel) rfl, ec_in (i := 63) (by decide +kernel) rfl, by decide, by decide⟩
theorem bv_X6_makeNew : Cond.instanceMethod yX6_makeNew ∈ ec_tb ∧ Cond.selects yX6_makeNew.cls yX6_makeNew yX6_makeNew ∈ ec_tb := ⟨ec_in (i := 758) (by decide +kernel) rfl, ec_in (i := 759) (by decide +kernel) rfl⟩
def be_X6_makeNew : Nat → Option (Nat × Option Nat × List ab_C) := fun ix => match ix with
  | 77 => some (2, some 6, bc_X6_has)
  | _ => none
theorem bk_X6_makeNew (l : Launch) : ∀ (ix n : Nat) (rc : Option Nat) (sp : ex_S), (be_X6_makeNew ix).map (fun q => (q.1, q.2.1, ab_sp ab_hd q.2.2)) = some (n, rc, sp) → ex_cok l RX6 1 21 ix n rc sp := by
  intro ix n rc sp h
  obtain ⟨l0, h2, rfl⟩ := ab_dmk h
  clear h
  unfold be_X6_makeNew at h2
  split at h2
  · cases h2; exact ec_cV (bm_X6_has l) bw_X6_has bv_X6_has (by decide) (by decide) (Or.inl (ec_in (i := 577) (by decide +kernel) rfl)) (T := TX6) (N := 15) rfl (by decide) (by decide +kernel)
  · cases h2
def bx_X6_makeNew : ex_K := (RX6, ec_fx fl_X6, ec_cx cl_X6, sl_X6, (fun ix => (be_X6_makeNew ix).map (fun q => (q.1, q.2.1, ab_sp ab_hd q.2.2))), ec_nz, ec_no)
theorem bj_X6_makeNew (l : Launch) : ex_ok l 1 21 bx_X6_makeNew := ⟨ec_fok fo_X6, ec_cok co_X6, so_X6, bk_X6_makeNew l, fun _ h => (by cases h), fun _ h => (by cases h), fun _ h => (by cases h), fun _ _ h => (by cases h)⟩
def bq_X6_makeNew : List (ab_C × List ab_Q) := [(([.inl 21, .inr ((-1), 9)], [], [(28, none), (30, none)], [(none, [], [])]), []),
  (([.inl 50, .inr ((-1), 9)], [], [(57, none), (59, none)], [(none, [], [])]), [])]
def bc_X6_makeNew : List ab_C := bq_X6_makeNew.map (fun c => c.1)
def bi_X6_makeNew : List (Nat × Instr × Nat) := [(0, .aload_n 0, 1), (1, .iload_n 1, 1), (2, .invokevirtual 77, 3), (5, .ifCond .eq 17, 3), (8, .aload_n 0, 1), (9, .getfield 37, 3), (12, .iload_n 1, 1), (13, .iconst 0, 1), (14, .bastore, 1), (15, .aload_n 0, 1), (16, .getfield 30, 3), (19, .iload_n 1, 1), (20, .iconst 0, 1), (21, .iastore, 1), (22, .return_, 1)]
theorem bd_X6_makeNew : ∀ q ∈ bi_X6_makeNew, decode cX6_makeNew q.1 = .ok q.2 := by decide +kernel
theorem bz_X6_makeNew : bq_X6_makeNew.all (ab_ck ab_hd ab_xs ab_tr bx_X6_makeNew be_X6_makeNew bi_X6_makeNew none 2 17) = true := by decide +kernel
theorem bm_X6_makeNew (l : Launch) : ex_Met l yX6_makeNew cX6_makeNew 2 none 1 21 (ab_sp ab_hd bc_X6_makeNew) := ab_met (by decide) (by decide) rfl (bj_X6_makeNew l) bd_X6_makeNew ab_hcm ab_xk bz_X6_makeNew
theorem bw_X3_mendOn : ec_cw yX3_mendOn cX3_mendOn 3 none := ⟨ec_in (i := 756) (by decide +kernel) rfl, ec_in (i := 62) (by decide +kernel) rfl, by decide, by decide⟩
theorem bv_X3_mendOn : Cond.instanceMethod yX3_mendOn ∈ ec_tb ∧ Cond.selects yX3_mendOn.cls yX3_mendOn yX3_mendOn ∈ ec_tb := ⟨ec_in (i := 754) (by decide +kernel) rfl, ec_in (i := 755) (by decide +kernel) rfl⟩
def be_X3_mendOn : Nat → Option (Nat × Option Nat × List ab_C) := fun ix => match ix with
  | 44 => some (2, some 3, bc_X3_mends)
  | 52 => some (2, some 6, bc_X6_makeNew)
  | _ => none
theorem bk_X3_mendOn (l : Launch) : ∀ (ix n : Nat) (rc : Option Nat) (sp : ex_S), (be_X3_mendOn ix).map (fun q => (q.1, q.2.1, ab_sp ab_hd q.2.2)) = some (n, rc, sp) → ex_cok l RX3 2 42 ix n rc sp := by
  intro ix n rc sp h
  obtain ⟨l0, h2, rfl⟩ := ab_dmk h
  clear h
  unfold be_X3_mendOn at h2
  split at h2
  · cases h2; exact ec_cV (bm_X3_mends l) bw_X3_mends bv_X3_mends (by decide) (by decide) (Or.inl (ec_in (i := 542) (by decide +kernel) rfl)) (T := TX3) (N := 7) rfl (by decide) (by decide +kernel)
  · cases h2; exact ec_cV (bm_X6_makeNew l) bw_X6_makeNew bv_X6_makeNew (by decide) (by decide) (Or.inl (ec_in (i := 757) (by decide +kernel) rfl)) (T := TX6) (N := 15) rfl (by decide) (by decide +kernel)
  · cases h2
def bx_X3_mendOn : ex_K := (RX3, ec_fx fl_X3, ec_cx cl_X3, sl_X3, (fun ix => (be_X3_mendOn ix).map (fun q => (q.1, q.2.1, ab_sp ab_hd q.2.2))), ec_nz, ec_no)
theorem bj_X3_mendOn (l : Launch) : ex_ok l 2 42 bx_X3_mendOn := ⟨ec_fok fo_X3, ec_cok co_X3, so_X3, bk_X3_mendOn l, fun _ h => (by cases h), fun _ h => (by cases h), fun _ h => (by cases h), fun _ _ h => (by cases h)⟩
def bq_X3_mendOn : List (ab_C × List ab_Q) := [(([.inl 14, .inl 21], [], [(17, none), (18, none), (28, none), (30, none)], [(none, [], [])]), [(2, [some (.inl 14), some (.inl 21), some (.inr (.inl (0, 6, none, none)))], [((1, 0, 7), 0, 24, some (1007, 0)), ((1, 76, 52), 0, 24, some (77052, 0))], 13, [0, 0, (-2)])]),
  (([.inl 43, .inl 50], [], [(46, none), (47, none), (57, none), (59, none)], [(none, [], [])]), [(2, [some (.inl 43), some (.inl 50), some (.inr (.inl (0, 6, none, none)))], [((1, 0, 7), 0, 24, some (1007, 0)), ((1, 76, 52), 0, 24, some (77052, 0))], 13, [0, 0, (-2)])])]
def bc_X3_mendOn : List ab_C := bq_X3_mendOn.map (fun c => c.1)
def bi_X3_mendOn : List (Nat × Instr × Nat) := [(0, .iconst 0, 1), (1, .istore_n 2, 1), (2, .iload_n 2, 1), (3, .aload_n 0, 1), (4, .getfield 34, 3), (7, .if_icmp .ge 53, 3), (10, .aload_n 0, 1), (11, .iload_n 2, 1), (12, .invokevirtual 44, 3), (15, .ifCond .eq 39, 3), (18, .aload_n 0, 1), (19, .getfield 21, 3), (22, .iload_n 2, 1), (23, .dup2, 1), (24, .iaload, 1), (25, .iconst 1, 1), (26, .isub, 1), (27, .iastore, 1), (28, .aload_n 0, 1), (29, .getfield 21, 3), (32, .iload_n 2, 1), (33, .iaload, 1), (34, .ifCond .ne 20, 3), (37, .aload_n 1, 1), (38, .aload_n 0, 1), (39, .getfield 18, 3), (42, .iload_n 2, 1), (43, .iaload, 1), (44, .invokevirtual 52, 3), (47, .aload_n 0, 1), (48, .getfield 18, 3), (51, .iload_n 2, 1), (52, .iconst (-1), 1), (53, .iastore, 1), (54, .iinc 2 1, 3), (57, .goto (-55), 3), (60, .return_, 1)]
theorem bd_X3_mendOn : ∀ q ∈ bi_X3_mendOn, decode cX3_mendOn q.1 = .ok q.2 := by decide +kernel
theorem bz_X3_mendOn : bq_X3_mendOn.all (ab_ck ab_hd ab_xs ab_tr bx_X3_mendOn be_X3_mendOn bi_X3_mendOn none 3 36) = true := by decide +kernel
theorem bm_X3_mendOn (l : Launch) : ex_Met l yX3_mendOn cX3_mendOn 3 none 2 42 (ab_sp ab_hd bc_X3_mendOn) := ab_met (by decide) (by decide) rfl (bj_X3_mendOn l) bd_X3_mendOn ab_hcm ab_xk bz_X3_mendOn
theorem bw_X3_breathe : ec_cw yX3_breathe cX3_breathe 5 none := ⟨ec_in (i := 805) (by decide +kernel) rfl, ec_in (i := 62) (by decide +kernel) rfl, by decide, by decide⟩
theorem bv_X3_breathe : Cond.instanceMethod yX3_breathe ∈ ec_tb ∧ Cond.selects yX3_breathe.cls yX3_breathe yX3_breathe ∈ ec_tb := ⟨ec_in (i := 804) (by decide +kernel) rfl, ec_in (i := 14) (by decide +kernel) rfl⟩
def be_X3_breathe : Nat → Option (Nat × Option Nat × List ab_C) := fun ix => match ix with
  | 77 => some (4, some 0, bc_X0_take)
  | 68 => some (4, some 0, bc_X0_give)
  | 48 => some (1, none, bc_X9_one)
  | _ => none
theorem bk_X3_breathe (l : Launch) : ∀ (ix n : Nat) (rc : Option Nat) (sp : ex_S), (be_X3_breathe ix).map (fun q => (q.1, q.2.1, ab_sp ab_hd q.2.2)) = some (n, rc, sp) → ex_cok l RX3 2 45 ix n rc sp := by
  intro ix n rc sp h
  obtain ⟨l0, h2, rfl⟩ := ab_dmk h
  clear h
  unfold be_X3_breathe at h2
  split at h2
  · cases h2; exact ec_cV (bm_X0_take l) bw_X0_take bv_X0_take (by decide) (by decide) (Or.inl (ec_in (i := 808) (by decide +kernel) rfl)) (T := TX0) (N := 8) rfl (by decide) (by decide +kernel)
  · cases h2; exact ec_cV (bm_X0_give l) bw_X0_give bv_X0_give (by decide) (by decide) (Or.inl (ec_in (i := 809) (by decide +kernel) rfl)) (T := TX0) (N := 8) rfl (by decide) (by decide +kernel)
  · cases h2; exact ec_cS (bm_X9_one l) bw_X9_one bv_X9_one (by decide) (by decide) (Or.inr ⟨"TinStation", by decide +kernel⟩) (by decide +kernel)
  · cases h2
def bx_X3_breathe : ex_K := (RX3, ec_fx fl_X3, ec_cx cl_X3, sl_X3, (fun ix => (be_X3_breathe ix).map (fun q => (q.1, q.2.1, ab_sp ab_hd q.2.2))), ec_nz, ec_no)
theorem bj_X3_breathe (l : Launch) : ex_ok l 2 45 bx_X3_breathe := ⟨ec_fok fo_X3, ec_cok co_X3, so_X3, bk_X3_breathe l, fun _ h => (by cases h), fun _ h => (by cases h), fun _ h => (by cases h), fun _ _ h => (by cases h)⟩
def bq_X3_breathe : List (ab_C × List ab_Q) := [(([.inl 14, .inr (0, 5), .inl 7], [], [(8, none), (19, none)], [(none, [], [])]), []),
  (([.inl 43, .inr (0, 5), .inl 36], [], [(37, none), (48, none)], [(none, [], [])]), [])]
def bc_X3_breathe : List ab_C := bq_X3_breathe.map (fun c => c.1)
def bi_X3_breathe : List (Nat × Instr × Nat) := [(0, .getstatic 74, 3), (3, .aload_n 0, 1), (4, .getfield 15, 3), (7, .iload_n 1, 1), (8, .iaload, 1), (9, .iaload, 1), (10, .istore_n 3, 1), (11, .aload_n 2, 1), (12, .aload_n 0, 1), (13, .getfield 9, 3), (16, .iload_n 1, 1), (17, .iaload, 1), (18, .iconst 0, 1), (19, .iload_n 3, 1), (20, .invokevirtual 77, 3), (23, .istore 4, 2), (25, .aload_n 2, 1), (26, .aload_n 0, 1), (27, .getfield 9, 3), (30, .iload_n 1, 1), (31, .iaload, 1), (32, .iconst 1, 1), (33, .iload 4, 2), (35, .invokevirtual 68, 3), (38, .aload_n 0, 1), (39, .getfield 24, 3), (42, .iload_n 1, 1), (43, .dup2, 1), (44, .iaload, 1), (45, .iload 4, 2), (47, .iload_n 3, 1), (48, .if_icmp .ge 7, 3), (51, .iconst 1, 1), (52, .goto 4, 3), (55, .iconst 0, 1), (56, .invokestatic 48, 3), (59, .iadd, 1), (60, .iastore, 1), (61, .return_, 1)]
theorem bd_X3_breathe : ∀ q ∈ bi_X3_breathe, decode cX3_breathe q.1 = .ok q.2 := by decide +kernel
theorem bz_X3_breathe : bq_X3_breathe.all (ab_ck ab_hd ab_xs ab_tr bx_X3_breathe be_X3_breathe bi_X3_breathe none 5 40) = true := by decide +kernel
theorem bm_X3_breathe (l : Launch) : ex_Met l yX3_breathe cX3_breathe 5 none 2 45 (ab_sp ab_hd bc_X3_breathe) := ab_met (by decide) (by decide) rfl (bj_X3_breathe l) bd_X3_breathe ab_hcm ab_xk bz_X3_breathe
theorem bw_X3_drink : ec_cw yX3_drink cX3_drink 5 none := ⟨ec_in (i := 814) (by decide +kernel) rfl, ec_in (i := 62) (by decide +kernel) rfl, by decide, by decide⟩
theorem bv_X3_drink : Cond.instanceMethod yX3_drink ∈ ec_tb ∧ Cond.selects yX3_drink.cls yX3_drink yX3_drink ∈ ec_tb := ⟨ec_in (i := 813) (by decide +kernel) rfl, ec_in (i := 15) (by decide +kernel) rfl⟩
def be_X3_drink : Nat → Option (Nat × Option Nat × List ab_C) := fun ix => match ix with
  | 81 => some (3, some 0, bc_X0_draw)
  | 68 => some (4, some 0, bc_X0_give)
  | 85 => some (3, some 0, bc_X0_fill)
  | 48 => some (1, none, bc_X9_one)
  | _ => none
theorem bk_X3_drink (l : Launch) : ∀ (ix n : Nat) (rc : Option Nat) (sp : ex_S), (be_X3_drink ix).map (fun q => (q.1, q.2.1, ab_sp ab_hd q.2.2)) = some (n, rc, sp) → ex_cok l RX3 2 44 ix n rc sp := by
  intro ix n rc sp h
  obtain ⟨l0, h2, rfl⟩ := ab_dmk h
  clear h
  unfold be_X3_drink at h2
  split at h2
  · cases h2; exact ec_cV (bm_X0_draw l) bw_X0_draw bv_X0_draw (by decide) (by decide) (Or.inl (ec_in (i := 815) (by decide +kernel) rfl)) (T := TX0) (N := 8) rfl (by decide) (by decide +kernel)
  · cases h2; exact ec_cV (bm_X0_give l) bw_X0_give bv_X0_give (by decide) (by decide) (Or.inl (ec_in (i := 809) (by decide +kernel) rfl)) (T := TX0) (N := 8) rfl (by decide) (by decide +kernel)
  · cases h2; exact ec_cV (bm_X0_fill l) bw_X0_fill bv_X0_fill (by decide) (by decide) (Or.inl (ec_in (i := 816) (by decide +kernel) rfl)) (T := TX0) (N := 8) rfl (by decide) (by decide +kernel)
  · cases h2; exact ec_cS (bm_X9_one l) bw_X9_one bv_X9_one (by decide) (by decide) (Or.inr ⟨"TinStation", by decide +kernel⟩) (by decide +kernel)
  · cases h2
def bx_X3_drink : ex_K := (RX3, ec_fx fl_X3, ec_cx cl_X3, sl_X3, (fun ix => (be_X3_drink ix).map (fun q => (q.1, q.2.1, ab_sp ab_hd q.2.2))), ec_nz, ec_no)
theorem bj_X3_drink (l : Launch) : ex_ok l 2 44 bx_X3_drink := ⟨ec_fok fo_X3, ec_cok co_X3, so_X3, bk_X3_drink l, fun _ h => (by cases h), fun _ h => (by cases h), fun _ h => (by cases h), fun _ _ h => (by cases h)⟩
def bq_X3_drink : List (ab_C × List ab_Q) := [(([.inl 14, .inr (0, 5), .inl 7], [], [(8, none), (13, none), (20, none)], [(none, [], [])]), []),
  (([.inl 43, .inr (0, 5), .inl 36], [], [(37, none), (42, none), (49, none)], [(none, [], [])]), [])]
def bc_X3_drink : List ab_C := bq_X3_drink.map (fun c => c.1)
def bi_X3_drink : List (Nat × Instr × Nat) := [(0, .aload_n 2, 1), (1, .iconst 0, 1), (2, .bipush 10, 2), (4, .invokevirtual 81, 3), (7, .istore_n 3, 1), (8, .iload_n 3, 1), (9, .iconst 4, 1), (10, .imul, 1), (11, .bipush 10, 2), (13, .idiv, 1), (14, .istore 4, 2), (16, .aload_n 2, 1), (17, .aload_n 0, 1), (18, .getfield 9, 3), (21, .iload_n 1, 1), (22, .iaload, 1), (23, .iconst 2, 1), (24, .iload 4, 2), (26, .invokevirtual 68, 3), (29, .aload_n 2, 1), (30, .iconst 1, 1), (31, .iload_n 3, 1), (32, .iload 4, 2), (34, .isub, 1), (35, .invokevirtual 85, 3), (38, .aload_n 0, 1), (39, .getfield 27, 3), (42, .iload_n 1, 1), (43, .dup2, 1), (44, .iaload, 1), (45, .iload_n 3, 1), (46, .bipush 10, 2), (48, .if_icmp .ge 7, 3), (51, .iconst 1, 1), (52, .goto 4, 3), (55, .iconst 0, 1), (56, .invokestatic 48, 3), (59, .iadd, 1), (60, .iastore, 1), (61, .return_, 1)]
theorem bd_X3_drink : ∀ q ∈ bi_X3_drink, decode cX3_drink q.1 = .ok q.2 := by decide +kernel
theorem bz_X3_drink : bq_X3_drink.all (ab_ck ab_hd ab_xs ab_tr bx_X3_drink be_X3_drink bi_X3_drink none 5 41) = true := by decide +kernel
theorem bm_X3_drink (l : Launch) : ex_Met l yX3_drink cX3_drink 5 none 2 44 (ab_sp ab_hd bc_X3_drink) := ab_met (by decide) (by decide) rfl (bj_X3_drink l) bd_X3_drink ab_hcm ab_xk bz_X3_drink
theorem bw_X3_live : ec_cw yX3_live cX3_live 3 none := ⟨ec_in (i := 801) (by decide +kernel) rfl, ec_in (i := 62) (by decide +kernel) rfl, by decide, by decide⟩
theorem bv_X3_live : Cond.instanceMethod yX3_live ∈ ec_tb ∧ Cond.selects yX3_live.cls yX3_live yX3_live ∈ ec_tb := ⟨ec_in (i := 799) (by decide +kernel) rfl, ec_in (i := 800) (by decide +kernel) rfl⟩
def be_X3_live : Nat → Option (Nat × Option Nat × List ab_C) := fun ix => match ix with
  | 58 => some (3, some 3, bc_X3_breathe)
  | 62 => some (3, some 3, bc_X3_drink)
  | 68 => some (4, some 0, bc_X0_give)
  | _ => none
theorem bk_X3_live (l : Launch) : ∀ (ix n : Nat) (rc : Option Nat) (sp : ex_S), (be_X3_live ix).map (fun q => (q.1, q.2.1, ab_sp ab_hd q.2.2)) = some (n, rc, sp) → ex_cok l RX3 3 69 ix n rc sp := by
  intro ix n rc sp h
  obtain ⟨l0, h2, rfl⟩ := ab_dmk h
  clear h
  unfold be_X3_live at h2
  split at h2
  · cases h2; exact ec_cV (bm_X3_breathe l) bw_X3_breathe bv_X3_breathe (by decide) (by decide) (Or.inl (ec_in (i := 802) (by decide +kernel) rfl)) (T := TX3) (N := 7) rfl (by decide) (by decide +kernel)
  · cases h2; exact ec_cV (bm_X3_drink l) bw_X3_drink bv_X3_drink (by decide) (by decide) (Or.inl (ec_in (i := 811) (by decide +kernel) rfl)) (T := TX3) (N := 7) rfl (by decide) (by decide +kernel)
  · cases h2; exact ec_cV (bm_X0_give l) bw_X0_give bv_X0_give (by decide) (by decide) (Or.inl (ec_in (i := 809) (by decide +kernel) rfl)) (T := TX0) (N := 8) rfl (by decide) (by decide +kernel)
  · cases h2
def bx_X3_live : ex_K := (RX3, ec_fx fl_X3, ec_cx cl_X3, sl_X3, (fun ix => (be_X3_live ix).map (fun q => (q.1, q.2.1, ab_sp ab_hd q.2.2))), ec_nz, ec_no)
theorem bj_X3_live (l : Launch) : ex_ok l 3 69 bx_X3_live := ⟨ec_fok fo_X3, ec_cok co_X3, so_X3, bk_X3_live l, fun _ h => (by cases h), fun _ h => (by cases h), fun _ h => (by cases h), fun _ _ h => (by cases h)⟩
def bq_X3_live : List (ab_C × List ab_Q) := [(([.inl 14, .inl 7], [], [(8, none), (13, none), (19, none), (20, none)], [(none, [], [])]), [(2, [some (.inl 14), some (.inl 7), some (.inr (.inl (0, 6, none, none)))], [((1, 0, 7), 0, 24, some (1007, 0)), ((1, 76, 52), 0, 24, some (77052, 0))], 13, [0, 0, (-2)])]),
  (([.inl 43, .inl 36], [], [(37, none), (42, none), (48, none), (49, none)], [(none, [], [])]), [(2, [some (.inl 43), some (.inl 36), some (.inr (.inl (0, 6, none, none)))], [((1, 0, 7), 0, 24, some (1007, 0)), ((1, 76, 52), 0, 24, some (77052, 0))], 13, [0, 0, (-2)])])]
def bc_X3_live : List ab_C := bq_X3_live.map (fun c => c.1)
def bi_X3_live : List (Nat × Instr × Nat) := [(0, .iconst 0, 1), (1, .istore_n 2, 1), (2, .iload_n 2, 1), (3, .aload_n 0, 1), (4, .getfield 34, 3), (7, .if_icmp .ge 42, 3), (10, .aload_n 0, 1), (11, .iload_n 2, 1), (12, .aload_n 1, 1), (13, .invokevirtual 58, 3), (16, .aload_n 0, 1), (17, .iload_n 2, 1), (18, .aload_n 1, 1), (19, .invokevirtual 62, 3), (22, .aload_n 1, 1), (23, .aload_n 0, 1), (24, .getfield 9, 3), (27, .iload_n 2, 1), (28, .iaload, 1), (29, .iconst 4, 1), (30, .getstatic 65, 3), (33, .aload_n 0, 1), (34, .getfield 15, 3), (37, .iload_n 2, 1), (38, .iaload, 1), (39, .iaload, 1), (40, .invokevirtual 68, 3), (43, .iinc 2 1, 3), (46, .goto (-44), 3), (49, .return_, 1)]
theorem bd_X3_live : ∀ q ∈ bi_X3_live, decode cX3_live q.1 = .ok q.2 := by decide +kernel
theorem bz_X3_live : bq_X3_live.all (ab_ck ab_hd ab_xs ab_tr bx_X3_live be_X3_live bi_X3_live none 3 29) = true := by decide +kernel
theorem bm_X3_live (l : Launch) : ex_Met l yX3_live cX3_live 3 none 3 69 (ab_sp ab_hd bc_X3_live) := ab_met (by decide) (by decide) rfl (bj_X3_live l) bd_X3_live ab_hcm ab_xk bz_X3_live
theorem bw_X4_startOver : ec_cw yX4_startOver cX4_startOver 2 (some .int) := ⟨ec_in (i := 956) (by decide +kernel) rfl, ec_in (i := 66) (by decide +kernel) rfl, by decide, by decide⟩
theorem bv_X4_startOver : Cond.instanceMethod yX4_startOver ∈ ec_tb ∧ Cond.selects yX4_startOver.cls yX4_startOver yX4_startOver ∈ ec_tb := ⟨ec_in (i := 954) (by decide +kernel) rfl, ec_in (i := 955) (by decide +kernel) rfl⟩
def bx_X4_startOver : ex_K := (RX4, ec_fx fl_X4, ec_cx cl_X4, sl_X4, (fun ix => (ec_no ix).map (fun (q : Nat × Option Nat × List ab_C) => (q.1, q.2.1, ab_sp ab_hd q.2.2))), ec_nz, ec_no)
theorem bj_X4_startOver (l : Launch) : ex_ok l 0 0 bx_X4_startOver := ⟨ec_fok fo_X4, ec_cok co_X4, so_X4, fun _ _ _ _ h => (by cases h), fun _ h => (by cases h), fun _ h => (by cases h), fun _ h => (by cases h), fun _ _ h => (by cases h)⟩
def bq_X4_startOver : List (ab_C × List ab_Q) := [(([.inl 64, .inl 7], [], [(64, some 1)], [(some ((-2147483648), 2147483647, none), [], [])]), [])]
def bc_X4_startOver : List ab_C := bq_X4_startOver.map (fun c => c.1)
def bi_X4_startOver : List (Nat × Instr × Nat) := [(0, .aload_n 0, 1), (1, .iconst 1, 1), (2, .aload_n 1, 1), (3, .getfield 15, 3), (6, .ishl, 1), (7, .iconst 1, 1), (8, .isub, 1), (9, .putfield 21, 3), (12, .aload_n 1, 1), (13, .getfield 15, 3), (16, .ireturn, 1)]
theorem bd_X4_startOver : ∀ q ∈ bi_X4_startOver, decode cX4_startOver q.1 = .ok q.2 := by decide +kernel
theorem bz_X4_startOver : bq_X4_startOver.all (ab_ck ab_hd ab_xs ab_tr bx_X4_startOver ec_no bi_X4_startOver (some .int) 2 13) = true := by decide +kernel
theorem bm_X4_startOver (l : Launch) : ex_Met l yX4_startOver cX4_startOver 2 (some .int) 0 0 (ab_sp ab_hd bc_X4_startOver) := ab_met (by decide) (by decide) rfl (bj_X4_startOver l) bd_X4_startOver ab_hcm ab_xk bz_X4_startOver
theorem bw_X4_join : ec_cw yX4_join cX4_join 4 none := ⟨ec_in (i := 974) (by decide +kernel) rfl, ec_in (i := 66) (by decide +kernel) rfl, by decide, by decide⟩
theorem bv_X4_join : Cond.instanceMethod yX4_join ∈ ec_tb ∧ Cond.selects yX4_join.cls yX4_join yX4_join ∈ ec_tb := ⟨ec_in (i := 973) (by decide +kernel) rfl, ec_in (i := 20) (by decide +kernel) rfl⟩
def bx_X4_join : ex_K := (RX4, ec_fx fl_X4, ec_cx cl_X4, sl_X4, (fun ix => (ec_no ix).map (fun (q : Nat × Option Nat × List ab_C) => (q.1, q.2.1, ab_sp ab_hd q.2.2))), ec_nz, ec_no)
theorem bj_X4_join (l : Launch) : ex_ok l 0 0 bx_X4_join := ⟨ec_fok fo_X4, ec_cok co_X4, so_X4, fun _ _ _ _ h => (by cases h), fun _ h => (by cases h), fun _ h => (by cases h), fun _ h => (by cases h), fun _ _ h => (by cases h)⟩
def bq_X4_join : List (ab_C × List ab_Q) := [(([.inl 64, .inl 7, .inr ((-2147483648), 2147483647)], [], [(65, none)], [(none, [], [])]), [(2, [some (.inl 64), some (.inl 7), some (.inr (.inl ((-2147483648), 2147483647, none, none))), some (.inr (.inl (0, 6, none, none)))], [((1, 0, 7), 0, 24, some (1007, 0)), ((1, 76, 52), 0, 24, some (77052, 0))], 13, [0, 0, 0, (-2)])])]
def bc_X4_join : List ab_C := bq_X4_join.map (fun c => c.1)
def bi_X4_join : List (Nat × Instr × Nat) := [(0, .iconst 0, 1), (1, .istore_n 3, 1), (2, .iload_n 3, 1), (3, .aload_n 1, 1), (4, .getfield 15, 3), (7, .if_icmp .ge 25, 3), (10, .iload_n 2, 1), (11, .iload_n 3, 1), (12, .ishr, 1), (13, .iconst 1, 1), (14, .iand, 1), (15, .iconst 1, 1), (16, .if_icmp .ne 10, 3), (19, .aload_n 0, 1), (20, .getfield 9, 3), (23, .iload_n 3, 1), (24, .iload_n 2, 1), (25, .iastore, 1), (26, .iinc 3 1, 3), (29, .goto (-27), 3), (32, .return_, 1)]
theorem bd_X4_join : ∀ q ∈ bi_X4_join, decode cX4_join q.1 = .ok q.2 := by decide +kernel
theorem bz_X4_join : bq_X4_join.all (ab_ck ab_hd ab_xs ab_tr bx_X4_join ec_no bi_X4_join none 4 20) = true := by decide +kernel
theorem bm_X4_join (l : Launch) : ex_Met l yX4_join cX4_join 4 none 0 0 (ab_sp ab_hd bc_X4_join) := ab_met (by decide) (by decide) rfl (bj_X4_join l) bd_X4_join ab_hcm ab_xk bz_X4_join
theorem bw_X4_findParts : ec_cw yX4_findParts cX4_findParts 4 none := ⟨ec_in (i := 970) (by decide +kernel) rfl, ec_in (i := 66) (by decide +kernel) rfl, by decide, by decide⟩
theorem bv_X4_findParts : Cond.instanceMethod yX4_findParts ∈ ec_tb ∧ Cond.selects yX4_findParts.cls yX4_findParts yX4_findParts ∈ ec_tb := ⟨ec_in (i := 969) (by decide +kernel) rfl, ec_in (i := 19) (by decide +kernel) rfl⟩
def be_X4_findParts : Nat → Option (Nat × Option Nat × List ab_C) := fun ix => match ix with
  | 59 => some (3, some 4, bc_X4_join)
  | _ => none
theorem bk_X4_findParts (l : Launch) : ∀ (ix n : Nat) (rc : Option Nat) (sp : ex_S), (be_X4_findParts ix).map (fun q => (q.1, q.2.1, ab_sp ab_hd q.2.2)) = some (n, rc, sp) → ex_cok l RX4 1 23 ix n rc sp := by
  intro ix n rc sp h
  obtain ⟨l0, h2, rfl⟩ := ab_dmk h
  clear h
  unfold be_X4_findParts at h2
  split at h2
  · cases h2; exact ec_cV (bm_X4_join l) bw_X4_join bv_X4_join (by decide) (by decide) (Or.inl (ec_in (i := 971) (by decide +kernel) rfl)) (T := TX4) (N := 2) rfl (by decide) (by decide +kernel)
  · cases h2
def bx_X4_findParts : ex_K := (RX4, ec_fx fl_X4, ec_cx cl_X4, sl_X4, (fun ix => (be_X4_findParts ix).map (fun q => (q.1, q.2.1, ab_sp ab_hd q.2.2))), ec_nz, ec_no)
theorem bj_X4_findParts (l : Launch) : ex_ok l 1 23 bx_X4_findParts := ⟨ec_fok fo_X4, ec_cok co_X4, so_X4, bk_X4_findParts l, fun _ h => (by cases h), fun _ h => (by cases h), fun _ h => (by cases h), fun _ _ h => (by cases h)⟩
def bq_X4_findParts : List (ab_C × List ab_Q) := [(([.inl 64, .inl 7, .inr (0, 2147483647)], [], [(65, none)], [(none, [], [])]), [(2, [some (.inl 64), some (.inl 7), some (.inr (.inl (0, 2147483647, none, none))), some (.inr (.inl (0, 6, none, none)))], [((1, 0, 7), 0, 24, some (1007, 0)), ((1, 76, 52), 0, 24, some (77052, 0))], 31, [0, 0, 0, (-2)]), (27, [some (.inl 64), some (.inl 7), some (.inr (.inl (0, 2147483647, none, none))), some (.inr (.inl (0, 8, none, none)))], [((1, 0, 7), 0, 24, some (1007, 0)), ((1, 76, 52), 0, 24, some (77052, 0))], 17, [0, 0, 0, (-2)])])]
def bc_X4_findParts : List ab_C := bq_X4_findParts.map (fun c => c.1)
def bi_X4_findParts : List (Nat × Instr × Nat) := [(0, .iconst 0, 1), (1, .istore_n 3, 1), (2, .iload_n 3, 1), (3, .aload_n 1, 1), (4, .getfield 15, 3), (7, .if_icmp .ge 18, 3), (10, .aload_n 0, 1), (11, .getfield 9, 3), (14, .iload_n 3, 1), (15, .iconst 1, 1), (16, .iload_n 3, 1), (17, .ishl, 1), (18, .iastore, 1), (19, .iinc 3 1, 3), (22, .goto (-20), 3), (25, .iconst 0, 1), (26, .istore_n 3, 1), (27, .iload_n 3, 1), (28, .aload_n 1, 1), (29, .getfield 28, 3), (32, .if_icmp .ge 45, 3), (35, .iload_n 2, 1), (36, .iload_n 3, 1), (37, .ishr, 1), (38, .iconst 1, 1), (39, .iand, 1), (40, .ifCond .ne 31, 3), (43, .aload_n 0, 1), (44, .aload_n 1, 1), (45, .aload_n 0, 1), (46, .getfield 9, 3), (49, .aload_n 1, 1), (50, .getfield 53, 3), (53, .iload_n 3, 1), (54, .iaload, 1), (55, .iaload, 1), (56, .aload_n 0, 1), (57, .getfield 9, 3), (60, .aload_n 1, 1), (61, .getfield 56, 3), (64, .iload_n 3, 1), (65, .iaload, 1), (66, .iaload, 1), (67, .ior, 1), (68, .invokevirtual 59, 3), (71, .iinc 3 1, 3), (74, .goto (-47), 3), (77, .return_, 1)]
theorem bd_X4_findParts : ∀ q ∈ bi_X4_findParts, decode cX4_findParts q.1 = .ok q.2 := by decide +kernel
theorem bz_X4_findParts : bq_X4_findParts.all (ab_ck ab_hd ab_xs ab_tr bx_X4_findParts be_X4_findParts bi_X4_findParts none 4 32) = true := by decide +kernel
theorem bm_X4_findParts (l : Launch) : ex_Met l yX4_findParts cX4_findParts 4 none 1 23 (ab_sp ab_hd bc_X4_findParts) := ab_met (by decide) (by decide) rfl (bj_X4_findParts l) bd_X4_findParts ab_hcm ab_xk bz_X4_findParts
theorem bw_X4_narrow : ec_cw yX4_narrow cX4_narrow 5 (some .int) := ⟨ec_in (i := 964) (by decide +kernel) rfl, ec_in (i := 66) (by decide +kernel) rfl, by decide, by decide⟩
theorem bv_X4_narrow : Cond.instanceMethod yX4_narrow ∈ ec_tb ∧ Cond.selects yX4_narrow.cls yX4_narrow yX4_narrow ∈ ec_tb := ⟨ec_in (i := 962) (by decide +kernel) rfl, ec_in (i := 963) (by decide +kernel) rfl⟩
def be_X4_narrow : Nat → Option (Nat × Option Nat × List ab_C) := fun ix => match ix with
  | 24 => some (2, some 0, bc_X0_hasModule)
  | 32 => some (3, some 4, bc_X4_findParts)
  | _ => none
theorem bk_X4_narrow (l : Launch) : ∀ (ix n : Nat) (rc : Option Nat) (sp : ex_S), (be_X4_narrow ix).map (fun q => (q.1, q.2.1, ab_sp ab_hd q.2.2)) = some (n, rc, sp) → ex_cok l RX4 2 46 ix n rc sp := by
  intro ix n rc sp h
  obtain ⟨l0, h2, rfl⟩ := ab_dmk h
  clear h
  unfold be_X4_narrow at h2
  split at h2
  · cases h2; exact ec_cV (bm_X0_hasModule l) bw_X0_hasModule bv_X0_hasModule (by decide) (by decide) (Or.inl (ec_in (i := 965) (by decide +kernel) rfl)) (T := TX0) (N := 8) rfl (by decide) (by decide +kernel)
  · cases h2; exact ec_cV (bm_X4_findParts l) bw_X4_findParts bv_X4_findParts (by decide) (by decide) (Or.inl (ec_in (i := 967) (by decide +kernel) rfl)) (T := TX4) (N := 2) rfl (by decide) (by decide +kernel)
  · cases h2
def bx_X4_narrow : ex_K := (RX4, ec_fx fl_X4, ec_cx cl_X4, sl_X4, (fun ix => (be_X4_narrow ix).map (fun q => (q.1, q.2.1, ab_sp ab_hd q.2.2))), ec_nz, ec_no)
theorem bj_X4_narrow (l : Launch) : ex_ok l 2 46 bx_X4_narrow := ⟨ec_fok fo_X4, ec_cok co_X4, so_X4, bk_X4_narrow l, fun _ h => (by cases h), fun _ h => (by cases h), fun _ h => (by cases h), fun _ _ h => (by cases h)⟩
def bq_X4_narrow : List (ab_C × List ab_Q) := [(([.inl 64, .inl 7, .inr ((-2147483648), 2147483647), .inr ((-2147483648), 2147483647)], [], [(64, some 1), (65, none)], [(some ((-2147483648), 2147483647, none), [], [])]), [])]
def bc_X4_narrow : List ab_C := bq_X4_narrow.map (fun c => c.1)
def bi_X4_narrow : List (Nat × Instr × Nat) := [(0, .aload_n 1, 1), (1, .iload_n 3, 1), (2, .invokevirtual 24, 3), (5, .ifCond .eq 17, 3), (8, .iload_n 2, 1), (9, .ifCond .lt 13, 3), (12, .iload_n 2, 1), (13, .iconst 1, 1), (14, .aload_n 1, 1), (15, .getfield 28, 3), (18, .ishl, 1), (19, .if_icmp .lt 6, 3), (22, .ldc 31, 2), (24, .ireturn, 1), (25, .aload_n 0, 1), (26, .aload_n 1, 1), (27, .iload_n 2, 1), (28, .invokevirtual 32, 3), (31, .aload_n 0, 1), (32, .getfield 21, 3), (35, .aload_n 0, 1), (36, .getfield 9, 3), (39, .iload_n 3, 1), (40, .iaload, 1), (41, .iand, 1), (42, .istore 4, 2), (44, .iload 4, 2), (46, .ifCond .ne 6, 3), (49, .ldc 36, 2), (51, .ireturn, 1), (52, .aload_n 0, 1), (53, .iload 4, 2), (55, .putfield 21, 3), (58, .iload 4, 2), (60, .ireturn, 1)]
theorem bd_X4_narrow : ∀ q ∈ bi_X4_narrow, decode cX4_narrow q.1 = .ok q.2 := by decide +kernel
theorem bz_X4_narrow : bq_X4_narrow.all (ab_ck ab_hd ab_xs ab_tr bx_X4_narrow be_X4_narrow bi_X4_narrow (some .int) 5 33) = true := by decide +kernel
theorem bm_X4_narrow (l : Launch) : ex_Met l yX4_narrow cX4_narrow 5 (some .int) 2 46 (ab_sp ab_hd bc_X4_narrow) := ab_met (by decide) (by decide) rfl (bj_X4_narrow l) bd_X4_narrow ab_hcm ab_xk bz_X4_narrow
theorem bw_J6_bitCount_0f7a4 : ec_cw yJ6_bitCount_0f7a4 cJ6_bitCount_0f7a4 1 (some .int) := ⟨ec_in (i := 657) (by decide +kernel) rfl, ec_in (i := 69) (by decide +kernel) rfl, by decide, by decide⟩
theorem bv_J6_bitCount_0f7a4 : Cond.static yJ6_bitCount_0f7a4 ∈ ec_tb := ec_in (i := 656) (by decide +kernel) rfl
def bl_J6_bitCount_0f7a4 : List (Nat × Int32) := [(265, 1431655765), (266, 858993459), (267, 252645135)]
theorem bo_J6_bitCount_0f7a4 : bl_J6_bitCount_0f7a4.all (fun q => decide (Cond.constant RJ6 q.1 q.2 ∈ lw_tbl) && goodWord (Cond.constant RJ6 q.1 q.2)) = true := by decide +kernel
def bx_J6_bitCount_0f7a4 : ex_K := (RJ6, ec_no, ec_cx bl_J6_bitCount_0f7a4, ec_no, (fun ix => (ec_no ix).map (fun (q : Nat × Option Nat × List ab_C) => (q.1, q.2.1, ab_sp ab_hd q.2.2))), ec_nz, ec_no)
theorem bj_J6_bitCount_0f7a4 (l : Launch) : ex_ok l 0 0 bx_J6_bitCount_0f7a4 := ⟨fun _ _ _ _ _ h => (by cases h), ec_cok bo_J6_bitCount_0f7a4, fun _ _ h => (by cases h), fun _ _ _ _ h => (by cases h), fun _ h => (by cases h), fun _ h => (by cases h), fun _ h => (by cases h), fun _ _ h => (by cases h)⟩
def bq_J6_bitCount_0f7a4 : List (ab_C × List ab_Q) := [(([.inr ((-2147483648), 2147483647)], [], [], [(some ((-2147483648), 2147483647, none), [], [])]), [])]
def bc_J6_bitCount_0f7a4 : List ab_C := bq_J6_bitCount_0f7a4.map (fun c => c.1)
def bi_J6_bitCount_0f7a4 : List (Nat × Instr × Nat) := [(0, .iload_n 0, 1), (1, .iload_n 0, 1), (2, .iconst 1, 1), (3, .iushr, 1), (4, .ldc_w 265, 3), (7, .iand, 1), (8, .isub, 1), (9, .istore_n 0, 1), (10, .iload_n 0, 1), (11, .ldc_w 266, 3), (14, .iand, 1), (15, .iload_n 0, 1), (16, .iconst 2, 1), (17, .iushr, 1), (18, .ldc_w 266, 3), (21, .iand, 1), (22, .iadd, 1), (23, .istore_n 0, 1), (24, .iload_n 0, 1), (25, .iload_n 0, 1), (26, .iconst 4, 1), (27, .iushr, 1), (28, .iadd, 1), (29, .ldc_w 267, 3), (32, .iand, 1), (33, .istore_n 0, 1), (34, .iload_n 0, 1), (35, .iload_n 0, 1), (36, .bipush 8, 2), (38, .iushr, 1), (39, .iadd, 1), (40, .istore_n 0, 1), (41, .iload_n 0, 1), (42, .iload_n 0, 1), (43, .bipush 16, 2), (45, .iushr, 1), (46, .iadd, 1), (47, .istore_n 0, 1), (48, .iload_n 0, 1), (49, .bipush 63, 2), (51, .iand, 1), (52, .ireturn, 1)]
theorem bd_J6_bitCount_0f7a4 : ∀ q ∈ bi_J6_bitCount_0f7a4, decode cJ6_bitCount_0f7a4 q.1 = .ok q.2 := by decide +kernel
theorem bz_J6_bitCount_0f7a4 : bq_J6_bitCount_0f7a4.all (ab_ck ab_hd ab_xs ab_tr bx_J6_bitCount_0f7a4 ec_no bi_J6_bitCount_0f7a4 (some .int) 1 44) = true := by decide +kernel
theorem bm_J6_bitCount_0f7a4 (l : Launch) : ex_Met l yJ6_bitCount_0f7a4 cJ6_bitCount_0f7a4 1 (some .int) 0 0 (ab_sp ab_hd bc_J6_bitCount_0f7a4) := ab_met (by decide) (by decide) rfl (bj_J6_bitCount_0f7a4 l) bd_J6_bitCount_0f7a4 ab_hcm ab_xk bz_J6_bitCount_0f7a4
theorem bw_X4_leftAtWorst : ec_cw yX4_leftAtWorst cX4_leftAtWorst 5 (some .int) := ⟨ec_in (i := 987) (by decide +kernel) rfl, ec_in (i := 66) (by decide +kernel) rfl, by decide, by decide⟩
theorem bv_X4_leftAtWorst : Cond.instanceMethod yX4_leftAtWorst ∈ ec_tb ∧ Cond.selects yX4_leftAtWorst.cls yX4_leftAtWorst yX4_leftAtWorst ∈ ec_tb := ⟨ec_in (i := 986) (by decide +kernel) rfl, ec_in (i := 21) (by decide +kernel) rfl⟩
def be_X4_leftAtWorst : Nat → Option (Nat × Option Nat × List ab_C) := fun ix => match ix with
  | 32 => some (3, some 4, bc_X4_findParts)
  | 41 => some (1, none, bc_J6_bitCount_0f7a4)
  | _ => none
theorem bk_X4_leftAtWorst (l : Launch) : ∀ (ix n : Nat) (rc : Option Nat) (sp : ex_S), (be_X4_leftAtWorst ix).map (fun q => (q.1, q.2.1, ab_sp ab_hd q.2.2)) = some (n, rc, sp) → ex_cok l RX4 2 46 ix n rc sp := by
  intro ix n rc sp h
  obtain ⟨l0, h2, rfl⟩ := ab_dmk h
  clear h
  unfold be_X4_leftAtWorst at h2
  split at h2
  · cases h2; exact ec_cV (bm_X4_findParts l) bw_X4_findParts bv_X4_findParts (by decide) (by decide) (Or.inl (ec_in (i := 967) (by decide +kernel) rfl)) (T := TX4) (N := 2) rfl (by decide) (by decide +kernel)
  · cases h2; exact ec_cS (bm_J6_bitCount_0f7a4 l) bw_J6_bitCount_0f7a4 bv_J6_bitCount_0f7a4 (by decide) (by decide) (Or.inl (ec_in (i := 988) (by decide +kernel) rfl)) (by decide +kernel)
  · cases h2
def bx_X4_leftAtWorst : ex_K := (RX4, ec_fx fl_X4, ec_cx cl_X4, sl_X4, (fun ix => (be_X4_leftAtWorst ix).map (fun q => (q.1, q.2.1, ab_sp ab_hd q.2.2))), al_X4, ec_no)
theorem bj_X4_leftAtWorst (l : Launch) : ex_ok l 2 46 bx_X4_leftAtWorst := ⟨ec_fok fo_X4, ec_cok co_X4, so_X4, bk_X4_leftAtWorst l, am_X4, ax_X4 (by decide) (by decide), ao_X4, fun _ _ h => (by cases h)⟩
def bq_X4_leftAtWorst : List (ab_C × List ab_Q) := [(([.inl 64, .inl 7, .inr (0, 2147483647)], [], [(65, none)], [(some ((-2147483648), 2147483647, none), [], [])]), [(11, [some (.inl 64), some (.inl 7), some (.inr (.inl (0, 2147483647, none, none))), some (.inr (.inl (0, 2147483647, none, none))), some (.inr (.inl (0, 6, none, none)))], [((1, 0, 7), 0, 24, some (1007, 0)), ((1, 76, 52), 0, 24, some (77052, 0))], 13, [0, 0, 0, 0, (-2)])])]
def bc_X4_leftAtWorst : List ab_C := bq_X4_leftAtWorst.map (fun c => c.1)
def bi_X4_leftAtWorst : List (Nat × Instr × Nat) := [(0, .aload_n 0, 1), (1, .aload_n 1, 1), (2, .iload_n 2, 1), (3, .invokevirtual 32, 3), (6, .iconst 0, 1), (7, .istore_n 3, 1), (8, .iconst 0, 1), (9, .istore 4, 2), (11, .iload 4, 2), (13, .aload_n 1, 1), (14, .getfield 15, 3), (17, .if_icmp .ge 29, 3), (20, .iload_n 3, 1), (21, .aload_n 0, 1), (22, .getfield 9, 3), (25, .iload 4, 2), (27, .iaload, 1), (28, .aload_n 0, 1), (29, .getfield 21, 3), (32, .iand, 1), (33, .invokestatic 41, 3), (36, .invokestatic 47, 3), (39, .istore_n 3, 1), (40, .iinc 4 1, 3), (43, .goto (-32), 3), (46, .iload_n 3, 1), (47, .ireturn, 1)]
theorem bd_X4_leftAtWorst : ∀ q ∈ bi_X4_leftAtWorst, decode cX4_leftAtWorst q.1 = .ok q.2 := by decide +kernel
theorem bz_X4_leftAtWorst : bq_X4_leftAtWorst.all (ab_ck ab_hd ab_xs ab_tr bx_X4_leftAtWorst be_X4_leftAtWorst bi_X4_leftAtWorst (some .int) 5 19) = true := by decide +kernel
theorem bm_X4_leftAtWorst (l : Launch) : ex_Met l yX4_leftAtWorst cX4_leftAtWorst 5 (some .int) 2 46 (ab_sp ab_hd bc_X4_leftAtWorst) := ab_met (by decide) (by decide) rfl (bj_X4_leftAtWorst l) bd_X4_leftAtWorst ab_hcm ab_xk bz_X4_leftAtWorst
theorem bw_X4_bestTest : ec_cw yX4_bestTest cX4_bestTest 9 (some .int) := ⟨ec_in (i := 983) (by decide +kernel) rfl, ec_in (i := 66) (by decide +kernel) rfl, by decide, by decide⟩
theorem bv_X4_bestTest : Cond.instanceMethod yX4_bestTest ∈ ec_tb ∧ Cond.selects yX4_bestTest.cls yX4_bestTest yX4_bestTest ∈ ec_tb := ⟨ec_in (i := 981) (by decide +kernel) rfl, ec_in (i := 982) (by decide +kernel) rfl⟩
def be_X4_bestTest : Nat → Option (Nat × Option Nat × List ab_C) := fun ix => match ix with
  | 37 => some (3, some 4, bc_X4_leftAtWorst)
  | 41 => some (1, none, bc_J6_bitCount_0f7a4)
  | _ => none
theorem bk_X4_bestTest (l : Launch) : ∀ (ix n : Nat) (rc : Option Nat) (sp : ex_S), (be_X4_bestTest ix).map (fun q => (q.1, q.2.1, ab_sp ab_hd q.2.2)) = some (n, rc, sp) → ex_cok l RX4 3 70 ix n rc sp := by
  intro ix n rc sp h
  obtain ⟨l0, h2, rfl⟩ := ab_dmk h
  clear h
  unfold be_X4_bestTest at h2
  split at h2
  · cases h2; exact ec_cV (bm_X4_leftAtWorst l) bw_X4_leftAtWorst bv_X4_leftAtWorst (by decide) (by decide) (Or.inl (ec_in (i := 984) (by decide +kernel) rfl)) (T := TX4) (N := 2) rfl (by decide) (by decide +kernel)
  · cases h2; exact ec_cS (bm_J6_bitCount_0f7a4 l) bw_J6_bitCount_0f7a4 bv_J6_bitCount_0f7a4 (by decide) (by decide) (Or.inl (ec_in (i := 988) (by decide +kernel) rfl)) (by decide +kernel)
  · cases h2
def bx_X4_bestTest : ex_K := (RX4, ec_fx fl_X4, ec_cx cl_X4, sl_X4, (fun ix => (be_X4_bestTest ix).map (fun q => (q.1, q.2.1, ab_sp ab_hd q.2.2))), ec_nz, ec_no)
theorem bj_X4_bestTest (l : Launch) : ex_ok l 3 70 bx_X4_bestTest := ⟨ec_fok fo_X4, ec_cok co_X4, so_X4, bk_X4_bestTest l, fun _ h => (by cases h), fun _ h => (by cases h), fun _ h => (by cases h), fun _ _ h => (by cases h)⟩
def bq_X4_bestTest : List (ab_C × List ab_Q) := [(([.inl 64, .inl 7, .inr ((-2147483648), 2147483647)], [], [(65, none)], [(some ((-2147483648), 2147483647, none), [], [])]), [(43, [some (.inl 64), some (.inl 7), some (.inr (.inl (0, 1, none, none))), some (.inr (.inl (0, 2147483647, none, none))), some (.inr (.inl ((-2147483648), 2147483647, none, none))), some (.inr (.inl ((-2147483648), 2147483647, none, none))), some (.inr (.inl (1, 2147483647, none, none))), none, none], [((1, 0, 7), 0, 24, some (1007, 0)), ((1, 76, 52), 0, 24, some (77052, 0))], 4294967295, [0, 0, 0, 0, 0, 0, (-2), 0, 0])])]
def bc_X4_bestTest : List ab_C := bq_X4_bestTest.map (fun c => c.1)
def bi_X4_bestTest : List (Nat × Instr × Nat) := [(0, .iload_n 2, 1), (1, .ifCond .eq 11, 3), (4, .iload_n 2, 1), (5, .iconst 1, 1), (6, .if_icmp .eq 6, 3), (9, .ldc 31, 2), (11, .ireturn, 1), (12, .aload_n 0, 1), (13, .getfield 21, 3), (16, .ifCond .ne 6, 3), (19, .ldc 36, 2), (21, .ireturn, 1), (22, .iconst 0, 1), (23, .istore_n 3, 1), (24, .aload_n 0, 1), (25, .aload_n 1, 1), (26, .iconst 0, 1), (27, .invokevirtual 37, 3), (30, .istore 4, 2), (32, .iconst 1, 1), (33, .aload_n 1, 1), (34, .getfield 28, 3), (37, .ishl, 1), (38, .istore 5, 2), (40, .iconst 1, 1), (41, .istore 6, 2), (43, .iload 6, 2), (45, .iload 5, 2), (47, .if_icmp .ge 63, 3), (50, .aload_n 0, 1), (51, .aload_n 1, 1), (52, .iload 6, 2), (54, .invokevirtual 37, 3), (57, .istore 7, 2), (59, .iload 6, 2), (61, .invokestatic 41, 3), (64, .iload_n 3, 1), (65, .invokestatic 41, 3), (68, .if_icmp .ge 7, 3), (71, .iconst 1, 1), (72, .goto 4, 3), (75, .iconst 0, 1), (76, .istore 8, 2), (78, .iload 7, 2), (80, .iload 4, 2), (82, .if_icmp .lt 15, 3), (85, .iload 7, 2), (87, .iload 4, 2), (89, .if_icmp .ne 15, 3), (92, .iload 8, 2), (94, .ifCond .eq 10, 3), (97, .iload 6, 2), (99, .istore_n 3, 1), (100, .iload 7, 2), (102, .istore 4, 2), (104, .iinc 6 1, 3), (107, .goto (-64), 3), (110, .iload_n 2, 1), (111, .ifCond .ne 7, 3), (114, .iload_n 3, 1), (115, .goto 5, 3), (118, .iload 4, 2), (120, .ireturn, 1)]
theorem bd_X4_bestTest : ∀ q ∈ bi_X4_bestTest, decode cX4_bestTest q.1 = .ok q.2 := by decide +kernel
theorem bz_X4_bestTest : bq_X4_bestTest.all (ab_ck ab_hd ab_xs ab_tr bx_X4_bestTest be_X4_bestTest bi_X4_bestTest (some .int) 9 32) = true := by decide +kernel
theorem bm_X4_bestTest (l : Launch) : ex_Met l yX4_bestTest cX4_bestTest 9 (some .int) 3 70 (ab_sp ab_hd bc_X4_bestTest) := ab_met (by decide) (by decide) rfl (bj_X4_bestTest l) bd_X4_bestTest ab_hcm ab_xk bz_X4_bestTest
theorem bw_X5_isSensor : ec_cw yX5_isSensor cX5_isSensor 1 (some .boolean) := ⟨ec_in (i := 1006) (by decide +kernel) rfl, ec_in (i := 67) (by decide +kernel) rfl, by decide, by decide⟩
theorem bv_X5_isSensor : Cond.static yX5_isSensor ∈ ec_tb := ec_in (i := 1005) (by decide +kernel) rfl
def bx_X5_isSensor : ex_K := (RX5, ec_fx fl_X5, ec_cx cl_X5, sl_X5, (fun ix => (ec_no ix).map (fun (q : Nat × Option Nat × List ab_C) => (q.1, q.2.1, ab_sp ab_hd q.2.2))), ec_nz, ec_no)
theorem bj_X5_isSensor (l : Launch) : ex_ok l 0 0 bx_X5_isSensor := ⟨ec_fok fo_X5, ec_cok co_X5, so_X5, fun _ _ _ _ h => (by cases h), fun _ h => (by cases h), fun _ h => (by cases h), fun _ h => (by cases h), fun _ _ h => (by cases h)⟩
def bq_X5_isSensor : List (ab_C × List ab_Q) := [(([.inr ((-2147483648), 2147483647)], [], [], [(some (0, 0, none), [], []), (some (1, 1, none), [((0, 0, 0), 0, 3, none)], [])]), [])]
def bc_X5_isSensor : List ab_C := bq_X5_isSensor.map (fun c => c.1)
def bi_X5_isSensor : List (Nat × Instr × Nat) := [(0, .iload_n 0, 1), (1, .ifCond .lt 12, 3), (4, .iload_n 0, 1), (5, .iconst 4, 1), (6, .if_icmp .ge 7, 3), (9, .iconst 1, 1), (10, .goto 4, 3), (13, .iconst 0, 1), (14, .ireturn, 1)]
theorem bd_X5_isSensor : ∀ q ∈ bi_X5_isSensor, decode cX5_isSensor q.1 = .ok q.2 := by decide +kernel
theorem bz_X5_isSensor : bq_X5_isSensor.all (ab_ck ab_hd ab_xs ab_tr bx_X5_isSensor ec_no bi_X5_isSensor (some .boolean) 1 10) = true := by decide +kernel
theorem bm_X5_isSensor (l : Launch) : ex_Met l yX5_isSensor cX5_isSensor 1 (some .boolean) 0 0 (ab_sp ab_hd bc_X5_isSensor) := ab_met (by decide) (by decide) rfl (bj_X5_isSensor l) bd_X5_isSensor ab_hcm ab_xk bz_X5_isSensor
theorem bw_X5_addReading : ec_cw yX5_addReading cX5_addReading 4 (some .int) := ⟨ec_in (i := 1003) (by decide +kernel) rfl, ec_in (i := 67) (by decide +kernel) rfl, by decide, by decide⟩
theorem bv_X5_addReading : Cond.instanceMethod yX5_addReading ∈ ec_tb ∧ Cond.selects yX5_addReading.cls yX5_addReading yX5_addReading ∈ ec_tb := ⟨ec_in (i := 1001) (by decide +kernel) rfl, ec_in (i := 1002) (by decide +kernel) rfl⟩
def be_X5_addReading : Nat → Option (Nat × Option Nat × List ab_C) := fun ix => match ix with
  | 37 => some (1, none, bc_X5_isSensor)
  | _ => none
theorem bk_X5_addReading (l : Launch) : ∀ (ix n : Nat) (rc : Option Nat) (sp : ex_S), (be_X5_addReading ix).map (fun q => (q.1, q.2.1, ab_sp ab_hd q.2.2)) = some (n, rc, sp) → ex_cok l RX5 1 20 ix n rc sp := by
  intro ix n rc sp h
  obtain ⟨l0, h2, rfl⟩ := ab_dmk h
  clear h
  unfold be_X5_addReading at h2
  split at h2
  · cases h2; exact ec_cS (bm_X5_isSensor l) bw_X5_isSensor bv_X5_isSensor (by decide) (by decide) (Or.inl (ec_in (i := 1004) (by decide +kernel) rfl)) (by decide +kernel)
  · cases h2
def bx_X5_addReading : ex_K := (RX5, ec_fx fl_X5, ec_cx cl_X5, sl_X5, (fun ix => (be_X5_addReading ix).map (fun q => (q.1, q.2.1, ab_sp ab_hd q.2.2))), ec_nz, ec_no)
theorem bj_X5_addReading (l : Launch) : ex_ok l 1 20 bx_X5_addReading := ⟨ec_fok fo_X5, ec_cok co_X5, so_X5, bk_X5_addReading l, fun _ h => (by cases h), fun _ h => (by cases h), fun _ h => (by cases h), fun _ _ h => (by cases h)⟩
def bq_X5_addReading : List (ab_C × List ab_Q) := [(([.inl 66, .inr ((-2147483648), 2147483647), .inr ((-2147483648), 2147483647), .inr ((-2147483648), 2147483647)], [], [(66, some 7), (67, none), (68, none), (69, none), (70, none)], [(some ((-2147483648), 2147483647, none), [], [])]), [])]
def bc_X5_addReading : List ab_C := bq_X5_addReading.map (fun c => c.1)
def bi_X5_addReading : List (Nat × Instr × Nat) := [(0, .iload_n 1, 1), (1, .invokestatic 37, 3), (4, .ifCond .eq 17, 3), (7, .iload_n 2, 1), (8, .sipush (-10000), 3), (11, .if_icmp .lt 10, 3), (14, .iload_n 2, 1), (15, .sipush 10000, 3), (18, .if_icmp .le 6, 3), (21, .ldc 41, 2), (23, .ireturn, 1), (24, .aload_n 0, 1), (25, .getfield 42, 3), (28, .bipush 40, 2), (30, .if_icmp .lt 6, 3), (33, .ldc 45, 2), (35, .ireturn, 1), (36, .aload_n 0, 1), (37, .getfield 9, 3), (40, .aload_n 0, 1), (41, .getfield 42, 3), (44, .iload_n 1, 1), (45, .iastore, 1), (46, .aload_n 0, 1), (47, .getfield 15, 3), (50, .aload_n 0, 1), (51, .getfield 42, 3), (54, .iload_n 3, 1), (55, .iastore, 1), (56, .aload_n 0, 1), (57, .getfield 18, 3), (60, .aload_n 0, 1), (61, .getfield 42, 3), (64, .iload_n 2, 1), (65, .iastore, 1), (66, .aload_n 0, 1), (67, .getfield 21, 3), (70, .aload_n 0, 1), (71, .getfield 42, 3), (74, .iload_n 3, 1), (75, .aload_n 0, 1), (76, .getfield 33, 3), (79, .iadd, 1), (80, .iastore, 1), (81, .aload_n 0, 1), (82, .dup, 1), (83, .getfield 42, 3), (86, .iconst 1, 1), (87, .iadd, 1), (88, .putfield 42, 3), (91, .aload_n 0, 1), (92, .getfield 42, 3), (95, .iconst 1, 1), (96, .isub, 1), (97, .ireturn, 1)]
theorem bd_X5_addReading : ∀ q ∈ bi_X5_addReading, decode cX5_addReading q.1 = .ok q.2 := by decide +kernel
theorem bz_X5_addReading : bq_X5_addReading.all (ab_ck ab_hd ab_xs ab_tr bx_X5_addReading be_X5_addReading bi_X5_addReading (some .int) 4 53) = true := by decide +kernel
theorem bm_X5_addReading (l : Launch) : ex_Met l yX5_addReading cX5_addReading 4 (some .int) 1 20 (ab_sp ab_hd bc_X5_addReading) := ab_met (by decide) (by decide) rfl (bj_X5_addReading l) bd_X5_addReading ab_hcm ab_xk bz_X5_addReading
theorem bw_X5_addCalibration : ec_cw yX5_addCalibration cX5_addCalibration 4 (some .int) := ⟨ec_in (i := 1016) (by decide +kernel) rfl, ec_in (i := 67) (by decide +kernel) rfl, by decide, by decide⟩
theorem bv_X5_addCalibration : Cond.instanceMethod yX5_addCalibration ∈ ec_tb ∧ Cond.selects yX5_addCalibration.cls yX5_addCalibration yX5_addCalibration ∈ ec_tb := ⟨ec_in (i := 1014) (by decide +kernel) rfl, ec_in (i := 1015) (by decide +kernel) rfl⟩
def be_X5_addCalibration : Nat → Option (Nat × Option Nat × List ab_C) := fun ix => match ix with
  | 37 => some (1, none, bc_X5_isSensor)
  | _ => none
theorem bk_X5_addCalibration (l : Launch) : ∀ (ix n : Nat) (rc : Option Nat) (sp : ex_S), (be_X5_addCalibration ix).map (fun q => (q.1, q.2.1, ab_sp ab_hd q.2.2)) = some (n, rc, sp) → ex_cok l RX5 1 20 ix n rc sp := by
  intro ix n rc sp h
  obtain ⟨l0, h2, rfl⟩ := ab_dmk h
  clear h
  unfold be_X5_addCalibration at h2
  split at h2
  · cases h2; exact ec_cS (bm_X5_isSensor l) bw_X5_isSensor bv_X5_isSensor (by decide) (by decide) (Or.inl (ec_in (i := 1004) (by decide +kernel) rfl)) (by decide +kernel)
  · cases h2
def bx_X5_addCalibration : ex_K := (RX5, ec_fx fl_X5, ec_cx cl_X5, sl_X5, (fun ix => (be_X5_addCalibration ix).map (fun q => (q.1, q.2.1, ab_sp ab_hd q.2.2))), ec_nz, ec_no)
theorem bj_X5_addCalibration (l : Launch) : ex_ok l 1 20 bx_X5_addCalibration := ⟨ec_fok fo_X5, ec_cok co_X5, so_X5, bk_X5_addCalibration l, fun _ h => (by cases h), fun _ h => (by cases h), fun _ h => (by cases h), fun _ _ h => (by cases h)⟩
def bq_X5_addCalibration : List (ab_C × List ab_Q) := [(([.inl 66, .inr ((-2147483648), 2147483647), .inr ((-2147483648), 2147483647), .inr ((-2147483648), 2147483647)], [], [(66, some 8), (71, none), (72, none), (73, none)], [(some ((-2147483648), 2147483647, none), [], [])]), [])]
def bc_X5_addCalibration : List ab_C := bq_X5_addCalibration.map (fun c => c.1)
def bi_X5_addCalibration : List (Nat × Instr × Nat) := [(0, .iload_n 1, 1), (1, .invokestatic 37, 3), (4, .ifCond .eq 17, 3), (7, .iload_n 2, 1), (8, .sipush (-1000), 3), (11, .if_icmp .lt 10, 3), (14, .iload_n 2, 1), (15, .sipush 1000, 3), (18, .if_icmp .le 6, 3), (21, .ldc 41, 2), (23, .ireturn, 1), (24, .aload_n 0, 1), (25, .getfield 46, 3), (28, .bipush 20, 2), (30, .if_icmp .lt 6, 3), (33, .ldc 45, 2), (35, .ireturn, 1), (36, .aload_n 0, 1), (37, .getfield 24, 3), (40, .aload_n 0, 1), (41, .getfield 46, 3), (44, .iload_n 1, 1), (45, .iastore, 1), (46, .aload_n 0, 1), (47, .getfield 27, 3), (50, .aload_n 0, 1), (51, .getfield 46, 3), (54, .iload_n 3, 1), (55, .iastore, 1), (56, .aload_n 0, 1), (57, .getfield 30, 3), (60, .aload_n 0, 1), (61, .getfield 46, 3), (64, .iload_n 2, 1), (65, .iastore, 1), (66, .aload_n 0, 1), (67, .dup, 1), (68, .getfield 46, 3), (71, .iconst 1, 1), (72, .iadd, 1), (73, .putfield 46, 3), (76, .aload_n 0, 1), (77, .getfield 46, 3), (80, .ireturn, 1)]
theorem bd_X5_addCalibration : ∀ q ∈ bi_X5_addCalibration, decode cX5_addCalibration q.1 = .ok q.2 := by decide +kernel
theorem bz_X5_addCalibration : bq_X5_addCalibration.all (ab_ck ab_hd ab_xs ab_tr bx_X5_addCalibration be_X5_addCalibration bi_X5_addCalibration (some .int) 4 42) = true := by decide +kernel
theorem bm_X5_addCalibration (l : Launch) : ex_Met l yX5_addCalibration cX5_addCalibration 4 (some .int) 1 20 (ab_sp ab_hd bc_X5_addCalibration) := ab_met (by decide) (by decide) rfl (bj_X5_addCalibration l) bd_X5_addCalibration ab_hcm ab_xk bz_X5_addCalibration
theorem bw_X5_setDelay : ec_cw yX5_setDelay cX5_setDelay 3 (some .int) := ⟨ec_in (i := 1040) (by decide +kernel) rfl, ec_in (i := 67) (by decide +kernel) rfl, by decide, by decide⟩
theorem bv_X5_setDelay : Cond.instanceMethod yX5_setDelay ∈ ec_tb ∧ Cond.selects yX5_setDelay.cls yX5_setDelay yX5_setDelay ∈ ec_tb := ⟨ec_in (i := 1038) (by decide +kernel) rfl, ec_in (i := 1039) (by decide +kernel) rfl⟩
def bx_X5_setDelay : ex_K := (RX5, ec_fx fl_X5, ec_cx cl_X5, sl_X5, (fun ix => (ec_no ix).map (fun (q : Nat × Option Nat × List ab_C) => (q.1, q.2.1, ab_sp ab_hd q.2.2))), ec_nz, ec_no)
theorem bj_X5_setDelay (l : Launch) : ex_ok l 0 0 bx_X5_setDelay := ⟨ec_fok fo_X5, ec_cok co_X5, so_X5, fun _ _ _ _ h => (by cases h), fun _ h => (by cases h), fun _ h => (by cases h), fun _ h => (by cases h), fun _ _ h => (by cases h)⟩
def bq_X5_setDelay : List (ab_C × List ab_Q) := [(([.inl 66, .inr ((-2147483648), 2147483647)], [], [(66, some 9)], [(some ((-2147483648), 2147483647, none), [], [])]), [])]
def bc_X5_setDelay : List ab_C := bq_X5_setDelay.map (fun c => c.1)
def bi_X5_setDelay : List (Nat × Instr × Nat) := [(0, .iload_n 1, 1), (1, .ifCond .lt 9, 3), (4, .iload_n 1, 1), (5, .bipush 100, 2), (7, .if_icmp .le 6, 3), (10, .ldc 41, 2), (12, .ireturn, 1), (13, .aload_n 0, 1), (14, .getfield 33, 3), (17, .istore_n 2, 1), (18, .aload_n 0, 1), (19, .iload_n 1, 1), (20, .putfield 33, 3), (23, .iload_n 2, 1), (24, .ireturn, 1)]
theorem bd_X5_setDelay : ∀ q ∈ bi_X5_setDelay, decode cX5_setDelay q.1 = .ok q.2 := by decide +kernel
theorem bz_X5_setDelay : bq_X5_setDelay.all (ab_ck ab_hd ab_xs ab_tr bx_X5_setDelay ec_no bi_X5_setDelay (some .int) 3 15) = true := by decide +kernel
theorem bm_X5_setDelay (l : Launch) : ex_Met l yX5_setDelay cX5_setDelay 3 (some .int) 0 0 (ab_sp ab_hd bc_X5_setDelay) := ab_met (by decide) (by decide) rfl (bj_X5_setDelay l) bd_X5_setDelay ab_hcm ab_xk bz_X5_setDelay
theorem bw_X5_latestHeard : ec_cw yX5_latestHeard cX5_latestHeard 4 (some .int) := ⟨ec_in (i := 1048) (by decide +kernel) rfl, ec_in (i := 67) (by decide +kernel) rfl, by decide, by decide⟩
theorem bv_X5_latestHeard : Cond.instanceMethod yX5_latestHeard ∈ ec_tb ∧ Cond.selects yX5_latestHeard.cls yX5_latestHeard yX5_latestHeard ∈ ec_tb := ⟨ec_in (i := 1046) (by decide +kernel) rfl, ec_in (i := 1047) (by decide +kernel) rfl⟩
def be_X5_latestHeard : Nat → Option (Nat × Option Nat × List ab_C) := fun ix => match ix with
  | 37 => some (1, none, bc_X5_isSensor)
  | _ => none
theorem bk_X5_latestHeard (l : Launch) : ∀ (ix n : Nat) (rc : Option Nat) (sp : ex_S), (be_X5_latestHeard ix).map (fun q => (q.1, q.2.1, ab_sp ab_hd q.2.2)) = some (n, rc, sp) → ex_cok l RX5 1 20 ix n rc sp := by
  intro ix n rc sp h
  obtain ⟨l0, h2, rfl⟩ := ab_dmk h
  clear h
  unfold be_X5_latestHeard at h2
  split at h2
  · cases h2; exact ec_cS (bm_X5_isSensor l) bw_X5_isSensor bv_X5_isSensor (by decide) (by decide) (Or.inl (ec_in (i := 1004) (by decide +kernel) rfl)) (by decide +kernel)
  · cases h2
def bx_X5_latestHeard : ex_K := (RX5, ec_fx fl_X5, ec_cx cl_X5, sl_X5, (fun ix => (be_X5_latestHeard ix).map (fun q => (q.1, q.2.1, ab_sp ab_hd q.2.2))), ec_nz, ec_no)
theorem bj_X5_latestHeard (l : Launch) : ex_ok l 1 20 bx_X5_latestHeard := ⟨ec_fok fo_X5, ec_cok co_X5, so_X5, bk_X5_latestHeard l, fun _ h => (by cases h), fun _ h => (by cases h), fun _ h => (by cases h), fun _ _ h => (by cases h)⟩
def bq_X5_latestHeard : List (ab_C × List ab_Q) := [(([.inl 66, .inr ((-2147483648), 2147483647), .inr ((-2147483648), 2147483647)], [], [], [(some ((-2147483648), 2147483647, none), [], [])]), [(28, [some (.inl 66), some (.inr (.inl (0, 3, none, none))), some (.inr (.inl (0, 4000, none, none))), some (.inr (.inl ((-1), 39, none, none)))], [((1, 0, 7), 0, 24, some (1007, 0)), ((1, 76, 52), 0, 24, some (77052, 0))], 3, [0, 0, 0, 2])])]
def bc_X5_latestHeard : List ab_C := bq_X5_latestHeard.map (fun c => c.1)
def bi_X5_latestHeard : List (Nat × Instr × Nat) := [(0, .iload_n 1, 1), (1, .invokestatic 37, 3), (4, .ifCond .eq 14, 3), (7, .iload_n 2, 1), (8, .ifCond .lt 10, 3), (11, .iload_n 2, 1), (12, .sipush 4000, 3), (15, .if_icmp .le 6, 3), (18, .ldc 41, 2), (20, .ireturn, 1), (21, .aload_n 0, 1), (22, .getfield 42, 3), (25, .iconst 1, 1), (26, .isub, 1), (27, .istore_n 3, 1), (28, .iload_n 3, 1), (29, .ifCond .lt 31, 3), (32, .aload_n 0, 1), (33, .getfield 9, 3), (36, .iload_n 3, 1), (37, .iaload, 1), (38, .iload_n 1, 1), (39, .if_icmp .ne 15, 3), (42, .aload_n 0, 1), (43, .getfield 21, 3), (46, .iload_n 3, 1), (47, .iaload, 1), (48, .iload_n 2, 1), (49, .if_icmp .gt 5, 3), (52, .iload_n 3, 1), (53, .ireturn, 1), (54, .iinc 3 (-1), 3), (57, .goto (-29), 3), (60, .ldc 49, 2), (62, .ireturn, 1)]
theorem bd_X5_latestHeard : ∀ q ∈ bi_X5_latestHeard, decode cX5_latestHeard q.1 = .ok q.2 := by decide +kernel
theorem bz_X5_latestHeard : bq_X5_latestHeard.all (ab_ck ab_hd ab_xs ab_tr bx_X5_latestHeard be_X5_latestHeard bi_X5_latestHeard (some .int) 4 18) = true := by decide +kernel
theorem bm_X5_latestHeard (l : Launch) : ex_Met l yX5_latestHeard cX5_latestHeard 4 (some .int) 1 20 (ab_sp ab_hd bc_X5_latestHeard) := ab_met (by decide) (by decide) rfl (bj_X5_latestHeard l) bd_X5_latestHeard ab_hcm ab_xk bz_X5_latestHeard
theorem bw_X5_between : ec_cw yX5_between cX5_between 6 (some .int) := ⟨ec_in (i := 1032) (by decide +kernel) rfl, ec_in (i := 67) (by decide +kernel) rfl, by decide, by decide⟩
theorem bv_X5_between : Cond.instanceMethod yX5_between ∈ ec_tb ∧ Cond.selects yX5_between.cls yX5_between yX5_between ∈ ec_tb := ⟨ec_in (i := 1031) (by decide +kernel) rfl, ec_in (i := 23) (by decide +kernel) rfl⟩
def bx_X5_between : ex_K := (RX5, ec_fx fl_X5, ec_cx cl_X5, sl_X5, (fun ix => (ec_no ix).map (fun (q : Nat × Option Nat × List ab_C) => (q.1, q.2.1, ab_sp ab_hd q.2.2))), ec_nz, ec_no)
theorem bj_X5_between (l : Launch) : ex_ok l 0 0 bx_X5_between := ⟨ec_fok fo_X5, ec_cok co_X5, so_X5, fun _ _ _ _ h => (by cases h), fun _ h => (by cases h), fun _ h => (by cases h), fun _ h => (by cases h), fun _ _ h => (by cases h)⟩
def bq_X5_between : List (ab_C × List ab_Q) := [(([.inl 66, .inr (0, 19), .inr (0, 19), .inr ((-2147483648), 2147483647)], [], [], [(some ((-2147483648), 2147483647, none), [], [])]), [])]
def bc_X5_between : List ab_C := bq_X5_between.map (fun c => c.1)
def bi_X5_between : List (Nat × Instr × Nat) := [(0, .aload_n 0, 1), (1, .getfield 27, 3), (4, .iload_n 2, 1), (5, .iaload, 1), (6, .aload_n 0, 1), (7, .getfield 27, 3), (10, .iload_n 1, 1), (11, .iaload, 1), (12, .isub, 1), (13, .istore 4, 2), (15, .iload 4, 2), (17, .ifCond .gt 10, 3), (20, .aload_n 0, 1), (21, .getfield 30, 3), (24, .iload_n 1, 1), (25, .iaload, 1), (26, .ireturn, 1), (27, .aload_n 0, 1), (28, .getfield 30, 3), (31, .iload_n 2, 1), (32, .iaload, 1), (33, .aload_n 0, 1), (34, .getfield 30, 3), (37, .iload_n 1, 1), (38, .iaload, 1), (39, .isub, 1), (40, .istore 5, 2), (42, .aload_n 0, 1), (43, .getfield 30, 3), (46, .iload_n 1, 1), (47, .iaload, 1), (48, .iload 5, 2), (50, .iload_n 3, 1), (51, .aload_n 0, 1), (52, .getfield 27, 3), (55, .iload_n 1, 1), (56, .iaload, 1), (57, .isub, 1), (58, .imul, 1), (59, .iload 4, 2), (61, .idiv, 1), (62, .iadd, 1), (63, .ireturn, 1)]
theorem bd_X5_between : ∀ q ∈ bi_X5_between, decode cX5_between q.1 = .ok q.2 := by decide +kernel
theorem bz_X5_between : bq_X5_between.all (ab_ck ab_hd ab_xs ab_tr bx_X5_between ec_no bi_X5_between (some .int) 6 40) = true := by decide +kernel
theorem bm_X5_between (l : Launch) : ex_Met l yX5_between cX5_between 6 (some .int) 0 0 (ab_sp ab_hd bc_X5_between) := ab_met (by decide) (by decide) rfl (bj_X5_between l) bd_X5_between ab_hcm ab_xk bz_X5_between
theorem bw_X5_tooMuch : ec_cw yX5_tooMuch cX5_tooMuch 6 (some .int) := ⟨ec_in (i := 1028) (by decide +kernel) rfl, ec_in (i := 67) (by decide +kernel) rfl, by decide, by decide⟩
theorem bv_X5_tooMuch : Cond.instanceMethod yX5_tooMuch ∈ ec_tb ∧ Cond.selects yX5_tooMuch.cls yX5_tooMuch yX5_tooMuch ∈ ec_tb := ⟨ec_in (i := 1027) (by decide +kernel) rfl, ec_in (i := 22) (by decide +kernel) rfl⟩
def be_X5_tooMuch : Nat → Option (Nat × Option Nat × List ab_C) := fun ix => match ix with
  | 54 => some (4, some 5, bc_X5_between)
  | _ => none
theorem bk_X5_tooMuch (l : Launch) : ∀ (ix n : Nat) (rc : Option Nat) (sp : ex_S), (be_X5_tooMuch ix).map (fun q => (q.1, q.2.1, ab_sp ab_hd q.2.2)) = some (n, rc, sp) → ex_cok l RX5 1 25 ix n rc sp := by
  intro ix n rc sp h
  obtain ⟨l0, h2, rfl⟩ := ab_dmk h
  clear h
  unfold be_X5_tooMuch at h2
  split at h2
  · cases h2; exact ec_cV (bm_X5_between l) bw_X5_between bv_X5_between (by decide) (by decide) (Or.inl (ec_in (i := 1029) (by decide +kernel) rfl)) (T := TX5) (N := 10) rfl (by decide) (by decide +kernel)
  · cases h2
def bx_X5_tooMuch : ex_K := (RX5, ec_fx fl_X5, ec_cx cl_X5, sl_X5, (fun ix => (be_X5_tooMuch ix).map (fun q => (q.1, q.2.1, ab_sp ab_hd q.2.2))), ec_nz, ec_no)
theorem bj_X5_tooMuch (l : Launch) : ex_ok l 1 25 bx_X5_tooMuch := ⟨ec_fok fo_X5, ec_cok co_X5, so_X5, bk_X5_tooMuch l, fun _ h => (by cases h), fun _ h => (by cases h), fun _ h => (by cases h), fun _ _ h => (by cases h)⟩
def bq_X5_tooMuch : List (ab_C × List ab_Q) := [(([.inl 66, .inr ((-2147483648), 2147483647), .inr ((-2147483648), 2147483647)], [], [], [(some ((-2147483648), 2147483647, none), [], [])]), [(8, [some (.inl 66), some (.inr (.inl ((-2147483648), 2147483647, none, none))), some (.inr (.inl ((-2147483648), 2147483647, none, none))), some (.inr (.inl ((-1), 19, none, none))), some (.inr (.inl ((-1), 19, none, none))), some (.inr (.inl (0, 20, none, none)))], [((1, 0, 7), 0, 24, some (1007, 0)), ((1, 76, 52), 0, 24, some (77052, 0))], 41, [0, 0, 0, 0, 0, (-2)])])]
def bc_X5_tooMuch : List ab_C := bq_X5_tooMuch.map (fun c => c.1)
def bi_X5_tooMuch : List (Nat × Instr × Nat) := [(0, .iconst (-1), 1), (1, .istore_n 3, 1), (2, .iconst (-1), 1), (3, .istore 4, 2), (5, .iconst 0, 1), (6, .istore 5, 2), (8, .iload 5, 2), (10, .aload_n 0, 1), (11, .getfield 46, 3), (14, .if_icmp .ge 66, 3), (17, .aload_n 0, 1), (18, .getfield 24, 3), (21, .iload 5, 2), (23, .iaload, 1), (24, .iload_n 1, 1), (25, .if_icmp .eq 6, 3), (28, .goto 46, 3), (31, .aload_n 0, 1), (32, .getfield 27, 3), (35, .iload 5, 2), (37, .iaload, 1), (38, .iload_n 2, 1), (39, .if_icmp .gt 9, 3), (42, .iload 5, 2), (44, .istore_n 3, 1), (45, .goto 29, 3), (48, .iload 4, 2), (50, .ifCond .lt 20, 3), (53, .aload_n 0, 1), (54, .getfield 27, 3), (57, .iload 5, 2), (59, .iaload, 1), (60, .aload_n 0, 1), (61, .getfield 27, 3), (64, .iload 4, 2), (66, .iaload, 1), (67, .if_icmp .ne 7, 3), (70, .iload 5, 2), (72, .istore 4, 2), (74, .iinc 5 1, 3), (77, .goto (-69), 3), (80, .iload_n 3, 1), (81, .ifCond .ge 20, 3), (84, .iload 4, 2), (86, .ifCond .ge 7, 3), (89, .iconst 0, 1), (90, .goto 10, 3), (93, .aload_n 0, 1), (94, .getfield 30, 3), (97, .iload 4, 2), (99, .iaload, 1), (100, .ireturn, 1), (101, .iload 4, 2), (103, .ifCond .ge 12, 3), (106, .aload_n 0, 1), (107, .getfield 30, 3), (110, .iload_n 3, 1), (111, .iaload, 1), (112, .goto 11, 3), (115, .aload_n 0, 1), (116, .iload_n 3, 1), (117, .iload 4, 2), (119, .iload_n 2, 1), (120, .invokevirtual 54, 3), (123, .ireturn, 1)]
theorem bd_X5_tooMuch : ∀ q ∈ bi_X5_tooMuch, decode cX5_tooMuch q.1 = .ok q.2 := by decide +kernel
theorem bz_X5_tooMuch : bq_X5_tooMuch.all (ab_ck ab_hd ab_xs ab_tr bx_X5_tooMuch be_X5_tooMuch bi_X5_tooMuch (some .int) 6 33) = true := by decide +kernel
theorem bm_X5_tooMuch (l : Launch) : ex_Met l yX5_tooMuch cX5_tooMuch 6 (some .int) 1 25 (ab_sp ab_hd bc_X5_tooMuch) := ab_met (by decide) (by decide) rfl (bj_X5_tooMuch l) bd_X5_tooMuch ab_hcm ab_xk bz_X5_tooMuch
theorem bw_X5_workedBack : ec_cw yX5_workedBack cX5_workedBack 2 (some .int) := ⟨ec_in (i := 1024) (by decide +kernel) rfl, ec_in (i := 67) (by decide +kernel) rfl, by decide, by decide⟩
theorem bv_X5_workedBack : Cond.instanceMethod yX5_workedBack ∈ ec_tb ∧ Cond.selects yX5_workedBack.cls yX5_workedBack yX5_workedBack ∈ ec_tb := ⟨ec_in (i := 1022) (by decide +kernel) rfl, ec_in (i := 1023) (by decide +kernel) rfl⟩
def be_X5_workedBack : Nat → Option (Nat × Option Nat × List ab_C) := fun ix => match ix with
  | 50 => some (3, some 5, bc_X5_tooMuch)
  | _ => none
theorem bk_X5_workedBack (l : Launch) : ∀ (ix n : Nat) (rc : Option Nat) (sp : ex_S), (be_X5_workedBack ix).map (fun q => (q.1, q.2.1, ab_sp ab_hd q.2.2)) = some (n, rc, sp) → ex_cok l RX5 2 50 ix n rc sp := by
  intro ix n rc sp h
  obtain ⟨l0, h2, rfl⟩ := ab_dmk h
  clear h
  unfold be_X5_workedBack at h2
  split at h2
  · cases h2; exact ec_cV (bm_X5_tooMuch l) bw_X5_tooMuch bv_X5_tooMuch (by decide) (by decide) (Or.inl (ec_in (i := 1025) (by decide +kernel) rfl)) (T := TX5) (N := 10) rfl (by decide) (by decide +kernel)
  · cases h2
def bx_X5_workedBack : ex_K := (RX5, ec_fx fl_X5, ec_cx cl_X5, sl_X5, (fun ix => (be_X5_workedBack ix).map (fun q => (q.1, q.2.1, ab_sp ab_hd q.2.2))), ec_nz, ec_no)
theorem bj_X5_workedBack (l : Launch) : ex_ok l 2 50 bx_X5_workedBack := ⟨ec_fok fo_X5, ec_cok co_X5, so_X5, bk_X5_workedBack l, fun _ h => (by cases h), fun _ h => (by cases h), fun _ h => (by cases h), fun _ _ h => (by cases h)⟩
def bq_X5_workedBack : List (ab_C × List ab_Q) := [(([.inl 66, .inr ((-2147483648), 2147483647)], [], [], [(some ((-2147483648), 2147483647, none), [], [])]), [])]
def bc_X5_workedBack : List ab_C := bq_X5_workedBack.map (fun c => c.1)
def bi_X5_workedBack : List (Nat × Instr × Nat) := [(0, .iload_n 1, 1), (1, .ifCond .lt 11, 3), (4, .iload_n 1, 1), (5, .aload_n 0, 1), (6, .getfield 42, 3), (9, .if_icmp .lt 6, 3), (12, .ldc 41, 2), (14, .ireturn, 1), (15, .aload_n 0, 1), (16, .getfield 18, 3), (19, .iload_n 1, 1), (20, .iaload, 1), (21, .aload_n 0, 1), (22, .aload_n 0, 1), (23, .getfield 9, 3), (26, .iload_n 1, 1), (27, .iaload, 1), (28, .aload_n 0, 1), (29, .getfield 15, 3), (32, .iload_n 1, 1), (33, .iaload, 1), (34, .invokevirtual 50, 3), (37, .isub, 1), (38, .ireturn, 1)]
theorem bd_X5_workedBack : ∀ q ∈ bi_X5_workedBack, decode cX5_workedBack q.1 = .ok q.2 := by decide +kernel
theorem bz_X5_workedBack : bq_X5_workedBack.all (ab_ck ab_hd ab_xs ab_tr bx_X5_workedBack be_X5_workedBack bi_X5_workedBack (some .int) 2 24) = true := by decide +kernel
theorem bm_X5_workedBack (l : Launch) : ex_Met l yX5_workedBack cX5_workedBack 2 (some .int) 2 50 (ab_sp ab_hd bc_X5_workedBack) := ab_met (by decide) (by decide) rfl (bj_X5_workedBack l) bd_X5_workedBack ab_hcm ab_xk bz_X5_workedBack
