theorem bw_X10_finding : ec_cw yX10_finding cX10_finding 2 (some .int) := ⟨ec_in (i := 1285) (by decide +kernel) rfl, ec_in (i := 68) (by decide +kernel) rfl, by decide, by decide⟩
theorem bv_X10_finding : Cond.instanceMethod yX10_finding ∈ ec_tb ∧ Cond.selects yX10_finding.cls yX10_finding yX10_finding ∈ ec_tb := ⟨ec_in (i := 1284) (by decide +kernel) rfl, ec_in (i := 26) (by decide +kernel) rfl⟩
def bx_X10_finding : ex_K := (RX10, ec_fx fl_X10, ec_cx cl_X10, sl_X10, (fun ix => (ec_no ix).map (fun (q : Nat × Option Nat × List ab_C) => (q.1, q.2.1, ab_sp ab_hd q.2.2))), ec_nz, ec_no)
theorem bj_X10_finding (l : Launch) : ex_ok l 0 0 bx_X10_finding := ⟨ec_fok fo_X10, ec_cok co_X10, so_X10, fun _ _ _ _ h => (by cases h), fun _ h => (by cases h), fun _ h => (by cases h), fun _ h => (by cases h), fun _ _ h => (by cases h)⟩
def bq_X10_finding : List (ab_C × List ab_Q) := [(([.inl 76, .inr (4, 4)], [], [(114, some 4)], [(some ((-1000000004), (-1000000004), none), [], [])]), []),
  (([.inl 76, .inr (1, 1)], [], [(114, some 1)], [(some ((-1000000001), (-1000000001), none), [], [])]), []),
  (([.inl 76, .inr (3, 3)], [], [(114, some 3)], [(some ((-1000000003), (-1000000003), none), [], [])]), []),
  (([.inl 76, .inr (5, 5)], [], [(114, some 5)], [(some ((-1000000005), (-1000000005), none), [], [])]), []),
  (([.inl 76, .inr (2, 2)], [], [(114, some 2)], [(some ((-1000000002), (-1000000002), none), [], [])]), []),
  (([.inl 76, .inr (1, 3)], [], [(114, none)], [(some ((-1000000003), (-1000000001), none), [], [])]), [])]
def bc_X10_finding : List ab_C := bq_X10_finding.map (fun c => c.1)
def bi_X10_finding : List (Nat × Instr × Nat) := [(0, .aload_n 0, 1), (1, .getfield 141, 3), (4, .iload_n 1, 1), (5, .dup2, 1), (6, .iaload, 1), (7, .iconst 1, 1), (8, .iadd, 1), (9, .iastore, 1), (10, .ldc 147, 2), (12, .iload_n 1, 1), (13, .isub, 1), (14, .ireturn, 1)]
theorem bd_X10_finding : ∀ q ∈ bi_X10_finding, decode cX10_finding q.1 = .ok q.2 := by decide +kernel
theorem bz_X10_finding : bq_X10_finding.all (ab_ck ab_hd ab_xs ab_tr bx_X10_finding ec_no bi_X10_finding (some .int) 2 14) = true := by decide +kernel
theorem bm_X10_finding (l : Launch) : ex_Met l yX10_finding cX10_finding 2 (some .int) 0 0 (ab_sp ab_hd bc_X10_finding) := ab_met (by decide) (by decide) rfl (bj_X10_finding l) bd_X10_finding ab_hcm ab_xk bz_X10_finding
theorem bw_X10_isIn : ec_cw yX10_isIn cX10_isIn 3 (some .boolean) := ⟨ec_in (i := 1305) (by decide +kernel) rfl, ec_in (i := 68) (by decide +kernel) rfl, by decide, by decide⟩
theorem bv_X10_isIn : Cond.static yX10_isIn ∈ ec_tb := ec_in (i := 1304) (by decide +kernel) rfl
def bx_X10_isIn : ex_K := (RX10, ec_fx fl_X10, ec_cx cl_X10, sl_X10, (fun ix => (ec_no ix).map (fun (q : Nat × Option Nat × List ab_C) => (q.1, q.2.1, ab_sp ab_hd q.2.2))), ec_nz, ec_no)
theorem bj_X10_isIn (l : Launch) : ex_ok l 0 0 bx_X10_isIn := ⟨ec_fok fo_X10, ec_cok co_X10, so_X10, fun _ _ _ _ h => (by cases h), fun _ h => (by cases h), fun _ h => (by cases h), fun _ h => (by cases h), fun _ _ h => (by cases h)⟩
def bq_X10_isIn : List (ab_C × List ab_Q) := [(([.inr ((-2147483648), 2147483647), .inr (0, 0), .inr (1, 1)], [], [], [(some (0, 0, none), [], []), (some (1, 1, none), [((0, 0, 0), 0, 1, none)], [])]), []),
  (([.inr ((-2147483648), 2147483647), .inr (0, 0), .inr (4, 4)], [], [], [(some (0, 0, none), [], []), (some (1, 1, none), [((0, 0, 0), 0, 4, none)], [])]), []),
  (([.inr ((-2147483648), 2147483647), .inr ((-1), (-1)), .inr (100000, 100000)], [], [], [(some (0, 0, none), [], []), (some (1, 1, none), [((0, 0, 0), (-1), 100000, none)], [])]), []),
  (([.inr ((-2147483648), 2147483647), .inr (0, 0), .inr (50, 50)], [], [], [(some (0, 0, none), [], []), (some (1, 1, none), [((0, 0, 0), 0, 50, none)], [])]), []),
  (([.inr ((-2147483648), 2147483647), .inr (0, 0), .inr (5, 5)], [], [], [(some (0, 0, none), [], []), (some (1, 1, none), [((0, 0, 0), 0, 5, none)], [])]), []),
  (([.inr ((-2147483648), 2147483647), .inr ((-1), (-1)), .inr (1000000, 1000000)], [], [], [(some (0, 0, none), [], []), (some (1, 1, none), [((0, 0, 0), (-1), 1000000, none)], [])]), []),
  (([.inr ((-2147483648), 2147483647), .inr (0, 0), .inr (2, 2)], [], [], [(some (0, 0, none), [], []), (some (1, 1, none), [((0, 0, 0), 0, 2, none)], [])]), []),
  (([.inr ((-2147483648), 2147483647), .inr (0, 0), .inr (100, 100)], [], [], [(some (0, 0, none), [], []), (some (1, 1, none), [((0, 0, 0), 0, 100, none)], [])]), []),
  (([.inr ((-2147483648), 2147483647), .inr (1, 1), .inr (1000, 1000)], [], [], [(some (0, 0, none), [], []), (some (1, 1, none), [((0, 0, 0), 1, 1000, none)], [])]), []),
  (([.inr ((-2147483648), 2147483647), .inr (0, 0), .inr (8, 8)], [], [], [(some (0, 0, none), [], []), (some (1, 1, none), [((0, 0, 0), 0, 8, none)], [])]), []),
  (([.inr ((-2147483648), 2147483647), .inr ((-1), (-1)), .inr (20, 20)], [], [], [(some (0, 0, none), [], []), (some (1, 1, none), [((0, 0, 0), (-1), 20, none)], [])]), []),
  (([.inr ((-2147483648), 2147483647), .inr (1, 1), .inr (60, 60)], [], [], [(some (0, 0, none), [], []), (some (1, 1, none), [((0, 0, 0), 1, 60, none)], [])]), []),
  (([.inr ((-2147483648), 2147483647), .inr (0, 0), .inr (1000, 1000)], [], [], [(some (0, 0, none), [], []), (some (1, 1, none), [((0, 0, 0), 0, 1000, none)], [])]), []),
  (([.inr ((-2147483648), 2147483647), .inr (0, 0), .inr (11, 11)], [], [], [(some (0, 0, none), [], []), (some (1, 1, none), [((0, 0, 0), 0, 11, none)], [])]), []),
  (([.inr ((-2147483648), 2147483647), .inr (0, 0), .inr (6, 6)], [], [], [(some (0, 0, none), [], []), (some (1, 1, none), [((0, 0, 0), 0, 6, none)], [])]), []),
  (([.inr ((-2147483648), 2147483647), .inr (0, 0), .inr (500, 500)], [], [], [(some (0, 0, none), [], []), (some (1, 1, none), [((0, 0, 0), 0, 500, none)], [])]), []),
  (([.inr ((-2147483648), 2147483647), .inr (0, 0), .inr (5000, 5000)], [], [], [(some (0, 0, none), [], []), (some (1, 1, none), [((0, 0, 0), 0, 5000, none)], [])]), []),
  (([.inr ((-2147483648), 2147483647), .inr (0, 0), .inr (100000, 100000)], [], [], [(some (0, 0, none), [], []), (some (1, 1, none), [((0, 0, 0), 0, 100000, none)], [])]), []),
  (([.inr ((-2147483648), 2147483647), .inr (1, 1), .inr (100, 100)], [], [], [(some (0, 0, none), [], []), (some (1, 1, none), [((0, 0, 0), 1, 100, none)], [])]), []),
  (([.inr ((-2147483648), 2147483647), .inr (0, 0), .inr (7, 7)], [], [], [(some (0, 0, none), [], []), (some (1, 1, none), [((0, 0, 0), 0, 7, none)], [])]), []),
  (([.inr ((-2147483648), 2147483647), .inr (1, 1), .inr (200, 200)], [], [], [(some (0, 0, none), [], []), (some (1, 1, none), [((0, 0, 0), 1, 200, none)], [])]), []),
  (([.inr ((-2147483648), 2147483647), .inr (0, 0), .inr (3, 3)], [], [], [(some (0, 0, none), [], []), (some (1, 1, none), [((0, 0, 0), 0, 3, none)], [])]), []),
  (([.inr ((-2147483648), 2147483647), .inr ((-10000), (-10000)), .inr (10000, 10000)], [], [], [(some (0, 0, none), [], []), (some (1, 1, none), [((0, 0, 0), (-10000), 10000, none)], [])]), []),
  (([.inr ((-2147483648), 2147483647), .inr ((-1000), (-1000)), .inr (1000, 1000)], [], [], [(some (0, 0, none), [], []), (some (1, 1, none), [((0, 0, 0), (-1000), 1000, none)], [])]), []),
  (([.inr ((-2147483648), 2147483647), .inr (0, 0), .inr (4000, 4000)], [], [], [(some (0, 0, none), [], []), (some (1, 1, none), [((0, 0, 0), 0, 4000, none)], [])]), []),
  (([.inr ((-2147483648), 2147483647), .inr (1, 1), .inr (10000000, 10000000)], [], [], [(some (0, 0, none), [], []), (some (1, 1, none), [((0, 0, 0), 1, 10000000, none)], [])]), []),
  (([.inr ((-2147483648), 2147483647), .inr (1, 1), .inr (5, 5)], [], [], [(some (0, 0, none), [], []), (some (1, 1, none), [((0, 0, 0), 1, 5, none)], [])]), []),
  (([.inr ((-2147483648), 2147483647), .inr ((-1), 0), .inr ((-2147483648), 2147483647)], [], [], [(some (0, 0, none), [], []), (some (1, 1, none), [((0, 0, 0), (-1), 2147483647, none), ((0, 2, 0), (-1), 2147483647, none)], [])]), [])]
def bc_X10_isIn : List ab_C := bq_X10_isIn.map (fun c => c.1)
def bi_X10_isIn : List (Nat × Instr × Nat) := [(0, .iload_n 0, 1), (1, .iload_n 1, 1), (2, .if_icmp .lt 12, 3), (5, .iload_n 0, 1), (6, .iload_n 2, 1), (7, .if_icmp .gt 7, 3), (10, .iconst 1, 1), (11, .goto 4, 3), (14, .iconst 0, 1), (15, .ireturn, 1)]
theorem bd_X10_isIn : ∀ q ∈ bi_X10_isIn, decode cX10_isIn q.1 = .ok q.2 := by decide +kernel
theorem bz_X10_isIn : bq_X10_isIn.all (ab_ck ab_hd ab_xs ab_tr bx_X10_isIn ec_no bi_X10_isIn (some .boolean) 3 11) = true := by decide +kernel
theorem bm_X10_isIn (l : Launch) : ex_Met l yX10_isIn cX10_isIn 3 (some .boolean) 0 0 (ab_sp ab_hd bc_X10_isIn) := ab_met (by decide) (by decide) rfl (bj_X10_isIn l) bd_X10_isIn ab_hcm ab_xk bz_X10_isIn
theorem bw_X10_isModule : ec_cw yX10_isModule cX10_isModule 2 (some .boolean) := ⟨ec_in (i := 1294) (by decide +kernel) rfl, ec_in (i := 68) (by decide +kernel) rfl, by decide, by decide⟩
theorem bv_X10_isModule : Cond.instanceMethod yX10_isModule ∈ ec_tb ∧ Cond.selects yX10_isModule.cls yX10_isModule yX10_isModule ∈ ec_tb := ⟨ec_in (i := 1293) (by decide +kernel) rfl, ec_in (i := 27) (by decide +kernel) rfl⟩
def bx_X10_isModule : ex_K := (RX10, ec_fx fl_X10, ec_cx cl_X10, sl_X10, (fun ix => (ec_no ix).map (fun (q : Nat × Option Nat × List ab_C) => (q.1, q.2.1, ab_sp ab_hd q.2.2))), ec_nz, ec_no)
theorem bj_X10_isModule (l : Launch) : ex_ok l 0 0 bx_X10_isModule := ⟨ec_fok fo_X10, ec_cok co_X10, so_X10, fun _ _ _ _ h => (by cases h), fun _ h => (by cases h), fun _ h => (by cases h), fun _ h => (by cases h), fun _ _ h => (by cases h)⟩
def bq_X10_isModule : List (ab_C × List ab_Q) := [(([.inl 76, .inr ((-2147483648), 2147483647)], [], [], [(some (0, 0, none), [], []), (some (1, 1, none), [((0, 1, 0), 0, 5, none)], [])]), [])]
def bc_X10_isModule : List ab_C := bq_X10_isModule.map (fun c => c.1)
def bi_X10_isModule : List (Nat × Instr × Nat) := [(0, .iload_n 1, 1), (1, .ifCond .lt 15, 3), (4, .iload_n 1, 1), (5, .aload_n 0, 1), (6, .getfield 148, 3), (9, .if_icmp .ge 7, 3), (12, .iconst 1, 1), (13, .goto 4, 3), (16, .iconst 0, 1), (17, .ireturn, 1)]
theorem bd_X10_isModule : ∀ q ∈ bi_X10_isModule, decode cX10_isModule q.1 = .ok q.2 := by decide +kernel
theorem bz_X10_isModule : bq_X10_isModule.all (ab_ck ab_hd ab_xs ab_tr bx_X10_isModule ec_no bi_X10_isModule (some .boolean) 2 11) = true := by decide +kernel
theorem bm_X10_isModule (l : Launch) : ex_Met l yX10_isModule cX10_isModule 2 (some .boolean) 0 0 (ab_sp ab_hd bc_X10_isModule) := ab_met (by decide) (by decide) rfl (bj_X10_isModule l) bd_X10_isModule ab_hcm ab_xk bz_X10_isModule
theorem bw_X10_isHatch : ec_cw yX10_isHatch cX10_isHatch 2 (some .boolean) := ⟨ec_in (i := 1302) (by decide +kernel) rfl, ec_in (i := 68) (by decide +kernel) rfl, by decide, by decide⟩
theorem bv_X10_isHatch : Cond.instanceMethod yX10_isHatch ∈ ec_tb ∧ Cond.selects yX10_isHatch.cls yX10_isHatch yX10_isHatch ∈ ec_tb := ⟨ec_in (i := 1301) (by decide +kernel) rfl, ec_in (i := 28) (by decide +kernel) rfl⟩
def bx_X10_isHatch : ex_K := (RX10, ec_fx fl_X10, ec_cx cl_X10, sl_X10, (fun ix => (ec_no ix).map (fun (q : Nat × Option Nat × List ab_C) => (q.1, q.2.1, ab_sp ab_hd q.2.2))), ec_nz, ec_no)
theorem bj_X10_isHatch (l : Launch) : ex_ok l 0 0 bx_X10_isHatch := ⟨ec_fok fo_X10, ec_cok co_X10, so_X10, fun _ _ _ _ h => (by cases h), fun _ h => (by cases h), fun _ h => (by cases h), fun _ h => (by cases h), fun _ _ h => (by cases h)⟩
def bq_X10_isHatch : List (ab_C × List ab_Q) := [(([.inl 76, .inr ((-2147483648), 2147483647)], [], [], [(some (0, 0, none), [], []), (some (1, 1, none), [((0, 1, 0), 0, 7, none)], [])]), [])]
def bc_X10_isHatch : List ab_C := bq_X10_isHatch.map (fun c => c.1)
def bi_X10_isHatch : List (Nat × Instr × Nat) := [(0, .iload_n 1, 1), (1, .ifCond .lt 15, 3), (4, .iload_n 1, 1), (5, .aload_n 0, 1), (6, .getfield 151, 3), (9, .if_icmp .ge 7, 3), (12, .iconst 1, 1), (13, .goto 4, 3), (16, .iconst 0, 1), (17, .ireturn, 1)]
theorem bd_X10_isHatch : ∀ q ∈ bi_X10_isHatch, decode cX10_isHatch q.1 = .ok q.2 := by decide +kernel
theorem bz_X10_isHatch : bq_X10_isHatch.all (ab_ck ab_hd ab_xs ab_tr bx_X10_isHatch ec_no bi_X10_isHatch (some .boolean) 2 11) = true := by decide +kernel
theorem bm_X10_isHatch (l : Launch) : ex_Met l yX10_isHatch cX10_isHatch 2 (some .boolean) 0 0 (ab_sp ab_hd bc_X10_isHatch) := ab_met (by decide) (by decide) rfl (bj_X10_isHatch l) bd_X10_isHatch ab_hcm ab_xk bz_X10_isHatch
theorem bw_X10_isPerson : ec_cw yX10_isPerson cX10_isPerson 2 (some .boolean) := ⟨ec_in (i := 1335) (by decide +kernel) rfl, ec_in (i := 68) (by decide +kernel) rfl, by decide, by decide⟩
theorem bv_X10_isPerson : Cond.instanceMethod yX10_isPerson ∈ ec_tb ∧ Cond.selects yX10_isPerson.cls yX10_isPerson yX10_isPerson ∈ ec_tb := ⟨ec_in (i := 1334) (by decide +kernel) rfl, ec_in (i := 29) (by decide +kernel) rfl⟩
def bx_X10_isPerson : ex_K := (RX10, ec_fx fl_X10, ec_cx cl_X10, sl_X10, (fun ix => (ec_no ix).map (fun (q : Nat × Option Nat × List ab_C) => (q.1, q.2.1, ab_sp ab_hd q.2.2))), ec_nz, ec_no)
theorem bj_X10_isPerson (l : Launch) : ex_ok l 0 0 bx_X10_isPerson := ⟨ec_fok fo_X10, ec_cok co_X10, so_X10, fun _ _ _ _ h => (by cases h), fun _ h => (by cases h), fun _ h => (by cases h), fun _ h => (by cases h), fun _ _ h => (by cases h)⟩
def bq_X10_isPerson : List (ab_C × List ab_Q) := [(([.inl 76, .inr ((-2147483648), 2147483647)], [], [], [(some (0, 0, none), [], []), (some (1, 1, none), [((0, 1, 0), 0, 5, none)], [])]), [])]
def bc_X10_isPerson : List ab_C := bq_X10_isPerson.map (fun c => c.1)
def bi_X10_isPerson : List (Nat × Instr × Nat) := [(0, .iload_n 1, 1), (1, .ifCond .lt 15, 3), (4, .iload_n 1, 1), (5, .aload_n 0, 1), (6, .getfield 154, 3), (9, .if_icmp .ge 7, 3), (12, .iconst 1, 1), (13, .goto 4, 3), (16, .iconst 0, 1), (17, .ireturn, 1)]
theorem bd_X10_isPerson : ∀ q ∈ bi_X10_isPerson, decode cX10_isPerson q.1 = .ok q.2 := by decide +kernel
theorem bz_X10_isPerson : bq_X10_isPerson.all (ab_ck ab_hd ab_xs ab_tr bx_X10_isPerson ec_no bi_X10_isPerson (some .boolean) 2 11) = true := by decide +kernel
theorem bm_X10_isPerson (l : Launch) : ex_Met l yX10_isPerson cX10_isPerson 2 (some .boolean) 0 0 (ab_sp ab_hd bc_X10_isPerson) := ab_met (by decide) (by decide) rfl (bj_X10_isPerson l) bd_X10_isPerson ab_hcm ab_xk bz_X10_isPerson
theorem bw_X10_isMachine : ec_cw yX10_isMachine cX10_isMachine 2 (some .boolean) := ⟨ec_in (i := 1359) (by decide +kernel) rfl, ec_in (i := 68) (by decide +kernel) rfl, by decide, by decide⟩
theorem bv_X10_isMachine : Cond.instanceMethod yX10_isMachine ∈ ec_tb ∧ Cond.selects yX10_isMachine.cls yX10_isMachine yX10_isMachine ∈ ec_tb := ⟨ec_in (i := 1358) (by decide +kernel) rfl, ec_in (i := 31) (by decide +kernel) rfl⟩
def bx_X10_isMachine : ex_K := (RX10, ec_fx fl_X10, ec_cx cl_X10, sl_X10, (fun ix => (ec_no ix).map (fun (q : Nat × Option Nat × List ab_C) => (q.1, q.2.1, ab_sp ab_hd q.2.2))), ec_nz, ec_no)
theorem bj_X10_isMachine (l : Launch) : ex_ok l 0 0 bx_X10_isMachine := ⟨ec_fok fo_X10, ec_cok co_X10, so_X10, fun _ _ _ _ h => (by cases h), fun _ h => (by cases h), fun _ h => (by cases h), fun _ h => (by cases h), fun _ _ h => (by cases h)⟩
def bq_X10_isMachine : List (ab_C × List ab_Q) := [(([.inl 76, .inr ((-2147483648), 2147483647)], [], [], [(some (0, 0, none), [], []), (some (1, 1, none), [((0, 1, 0), 0, 9, none)], [])]), [])]
def bc_X10_isMachine : List ab_C := bq_X10_isMachine.map (fun c => c.1)
def bi_X10_isMachine : List (Nat × Instr × Nat) := [(0, .iload_n 1, 1), (1, .ifCond .lt 15, 3), (4, .iload_n 1, 1), (5, .aload_n 0, 1), (6, .getfield 157, 3), (9, .if_icmp .ge 7, 3), (12, .iconst 1, 1), (13, .goto 4, 3), (16, .iconst 0, 1), (17, .ireturn, 1)]
theorem bd_X10_isMachine : ∀ q ∈ bi_X10_isMachine, decode cX10_isMachine q.1 = .ok q.2 := by decide +kernel
theorem bz_X10_isMachine : bq_X10_isMachine.all (ab_ck ab_hd ab_xs ab_tr bx_X10_isMachine ec_no bi_X10_isMachine (some .boolean) 2 11) = true := by decide +kernel
theorem bm_X10_isMachine (l : Launch) : ex_Met l yX10_isMachine cX10_isMachine 2 (some .boolean) 0 0 (ab_sp ab_hd bc_X10_isMachine) := ab_met (by decide) (by decide) rfl (bj_X10_isMachine l) bd_X10_isMachine ab_hcm ab_xk bz_X10_isMachine
theorem bw_X10_module : ec_cw yX10_module cX10_module 1 (some .int) := ⟨ec_in (i := 1281) (by decide +kernel) rfl, ec_in (i := 68) (by decide +kernel) rfl, by decide, by decide⟩
theorem bv_X10_module : Cond.instanceMethod yX10_module ∈ ec_tb ∧ Cond.selects yX10_module.cls yX10_module yX10_module ∈ ec_tb := ⟨ec_in (i := 1279) (by decide +kernel) rfl, ec_in (i := 1280) (by decide +kernel) rfl⟩
def be_X10_module : Nat → Option (Nat × Option Nat × List ab_C) := fun ix => match ix with
  | 160 => some (2, some 10, bc_X10_finding)
  | _ => none
theorem bk_X10_module (l : Launch) : ∀ (ix n : Nat) (rc : Option Nat) (sp : ex_S), (be_X10_module ix).map (fun q => (q.1, q.2.1, ab_sp ab_hd q.2.2)) = some (n, rc, sp) → ex_cok l RX10 1 21 ix n rc sp := by
  intro ix n rc sp h
  obtain ⟨l0, h2, rfl⟩ := ab_dmk h
  clear h
  unfold be_X10_module at h2
  split at h2
  · cases h2; exact ec_cV (bm_X10_finding l) bw_X10_finding bv_X10_finding (by decide) (by decide) (Or.inl (ec_in (i := 1282) (by decide +kernel) rfl)) (T := TX10) (N := 57) rfl (by decide) (by decide +kernel)
  · cases h2
def bx_X10_module : ex_K := (RX10, ec_fx fl_X10, ec_cx cl_X10, sl_X10, (fun ix => (be_X10_module ix).map (fun q => (q.1, q.2.1, ab_sp ab_hd q.2.2))), ec_nz, ec_no)
theorem bj_X10_module (l : Launch) : ex_ok l 1 21 bx_X10_module := ⟨ec_fok fo_X10, ec_cok co_X10, so_X10, bk_X10_module l, fun _ h => (by cases h), fun _ h => (by cases h), fun _ h => (by cases h), fun _ _ h => (by cases h)⟩
def bq_X10_module : List (ab_C × List ab_Q) := [(([.inl 76], [], [(76, some 0), (114, some 4)], [(some ((-2147483648), 2147483647, none), [], [])]), [])]
def bc_X10_module : List ab_C := bq_X10_module.map (fun c => c.1)
def bi_X10_module : List (Nat × Instr × Nat) := [(0, .aload_n 0, 1), (1, .getfield 148, 3), (4, .bipush 6, 2), (6, .if_icmp .ne 9, 3), (9, .aload_n 0, 1), (10, .iconst 4, 1), (11, .invokevirtual 160, 3), (14, .ireturn, 1), (15, .aload_n 0, 1), (16, .dup, 1), (17, .getfield 148, 3), (20, .iconst 1, 1), (21, .iadd, 1), (22, .putfield 148, 3), (25, .aload_n 0, 1), (26, .getfield 148, 3), (29, .iconst 1, 1), (30, .isub, 1), (31, .ireturn, 1)]
theorem bd_X10_module : ∀ q ∈ bi_X10_module, decode cX10_module q.1 = .ok q.2 := by decide +kernel
theorem bz_X10_module : bq_X10_module.all (ab_ck ab_hd ab_xs ab_tr bx_X10_module be_X10_module bi_X10_module (some .int) 1 17) = true := by decide +kernel
theorem bm_X10_module (l : Launch) : ex_Met l yX10_module cX10_module 1 (some .int) 1 21 (ab_sp ab_hd bc_X10_module) := ab_met (by decide) (by decide) rfl (bj_X10_module l) bd_X10_module ab_hcm ab_xk bz_X10_module
theorem bw_X10_hatch : ec_cw yX10_hatch cX10_hatch 3 (some .int) := ⟨ec_in (i := 1290) (by decide +kernel) rfl, ec_in (i := 68) (by decide +kernel) rfl, by decide, by decide⟩
theorem bv_X10_hatch : Cond.instanceMethod yX10_hatch ∈ ec_tb ∧ Cond.selects yX10_hatch.cls yX10_hatch yX10_hatch ∈ ec_tb := ⟨ec_in (i := 1288) (by decide +kernel) rfl, ec_in (i := 1289) (by decide +kernel) rfl⟩
def be_X10_hatch : Nat → Option (Nat × Option Nat × List ab_C) := fun ix => match ix with
  | 164 => some (2, some 10, bc_X10_isModule)
  | 160 => some (2, some 10, bc_X10_finding)
  | _ => none
theorem bk_X10_hatch (l : Launch) : ∀ (ix n : Nat) (rc : Option Nat) (sp : ex_S), (be_X10_hatch ix).map (fun q => (q.1, q.2.1, ab_sp ab_hd q.2.2)) = some (n, rc, sp) → ex_cok l RX10 1 21 ix n rc sp := by
  intro ix n rc sp h
  obtain ⟨l0, h2, rfl⟩ := ab_dmk h
  clear h
  unfold be_X10_hatch at h2
  split at h2
  · cases h2; exact ec_cV (bm_X10_isModule l) bw_X10_isModule bv_X10_isModule (by decide) (by decide) (Or.inl (ec_in (i := 1291) (by decide +kernel) rfl)) (T := TX10) (N := 57) rfl (by decide) (by decide +kernel)
  · cases h2; exact ec_cV (bm_X10_finding l) bw_X10_finding bv_X10_finding (by decide) (by decide) (Or.inl (ec_in (i := 1282) (by decide +kernel) rfl)) (T := TX10) (N := 57) rfl (by decide) (by decide +kernel)
  · cases h2
def bx_X10_hatch : ex_K := (RX10, ec_fx fl_X10, ec_cx cl_X10, sl_X10, (fun ix => (be_X10_hatch ix).map (fun q => (q.1, q.2.1, ab_sp ab_hd q.2.2))), ec_nz, ec_no)
theorem bj_X10_hatch (l : Launch) : ex_ok l 1 21 bx_X10_hatch := ⟨ec_fok fo_X10, ec_cok co_X10, so_X10, bk_X10_hatch l, fun _ h => (by cases h), fun _ h => (by cases h), fun _ h => (by cases h), fun _ _ h => (by cases h)⟩
def bq_X10_hatch : List (ab_C × List ab_Q) := [(([.inl 76, .inr ((-2147483648), 2147483647), .inr ((-2147483648), 2147483647)], [], [(76, some 4), (80, none), (81, none), (82, none), (114, some 1), (114, some 4)], [(some ((-2147483648), 2147483647, none), [], [])]), [])]
def bc_X10_hatch : List ab_C := bq_X10_hatch.map (fun c => c.1)
def bi_X10_hatch : List (Nat × Instr × Nat) := [(0, .aload_n 0, 1), (1, .iload_n 1, 1), (2, .invokevirtual 164, 3), (5, .ifCond .eq 16, 3), (8, .aload_n 0, 1), (9, .iload_n 2, 1), (10, .invokevirtual 164, 3), (13, .ifCond .eq 8, 3), (16, .iload_n 1, 1), (17, .iload_n 2, 1), (18, .if_icmp .ne 9, 3), (21, .aload_n 0, 1), (22, .iconst 1, 1), (23, .invokevirtual 160, 3), (26, .ireturn, 1), (27, .aload_n 0, 1), (28, .getfield 151, 3), (31, .bipush 8, 2), (33, .if_icmp .ne 9, 3), (36, .aload_n 0, 1), (37, .iconst 4, 1), (38, .invokevirtual 160, 3), (41, .ireturn, 1), (42, .aload_n 0, 1), (43, .getfield 19, 3), (46, .aload_n 0, 1), (47, .getfield 151, 3), (50, .iload_n 1, 1), (51, .iastore, 1), (52, .aload_n 0, 1), (53, .getfield 22, 3), (56, .aload_n 0, 1), (57, .getfield 151, 3), (60, .iload_n 2, 1), (61, .iastore, 1), (62, .aload_n 0, 1), (63, .getfield 25, 3), (66, .aload_n 0, 1), (67, .getfield 151, 3), (70, .iconst 1, 1), (71, .iastore, 1), (72, .aload_n 0, 1), (73, .dup, 1), (74, .getfield 151, 3), (77, .iconst 1, 1), (78, .iadd, 1), (79, .putfield 151, 3), (82, .aload_n 0, 1), (83, .getfield 151, 3), (86, .iconst 1, 1), (87, .isub, 1), (88, .ireturn, 1)]
theorem bd_X10_hatch : ∀ q ∈ bi_X10_hatch, decode cX10_hatch q.1 = .ok q.2 := by decide +kernel
theorem bz_X10_hatch : bq_X10_hatch.all (ab_ck ab_hd ab_xs ab_tr bx_X10_hatch be_X10_hatch bi_X10_hatch (some .int) 3 46) = true := by decide +kernel
theorem bm_X10_hatch (l : Launch) : ex_Met l yX10_hatch cX10_hatch 3 (some .int) 1 21 (ab_sp ab_hd bc_X10_hatch) := ab_met (by decide) (by decide) rfl (bj_X10_hatch l) bd_X10_hatch ab_hcm ab_xk bz_X10_hatch
theorem bw_X10_shut : ec_cw yX10_shut cX10_shut 4 (some .int) := ⟨ec_in (i := 1298) (by decide +kernel) rfl, ec_in (i := 68) (by decide +kernel) rfl, by decide, by decide⟩
theorem bv_X10_shut : Cond.instanceMethod yX10_shut ∈ ec_tb ∧ Cond.selects yX10_shut.cls yX10_shut yX10_shut ∈ ec_tb := ⟨ec_in (i := 1296) (by decide +kernel) rfl, ec_in (i := 1297) (by decide +kernel) rfl⟩
def be_X10_shut : Nat → Option (Nat × Option Nat × List ab_C) := fun ix => match ix with
  | 168 => some (2, some 10, bc_X10_isHatch)
  | 171 => some (3, none, bc_X10_isIn)
  | 160 => some (2, some 10, bc_X10_finding)
  | _ => none
theorem bk_X10_shut (l : Launch) : ∀ (ix n : Nat) (rc : Option Nat) (sp : ex_S), (be_X10_shut ix).map (fun q => (q.1, q.2.1, ab_sp ab_hd q.2.2)) = some (n, rc, sp) → ex_cok l RX10 1 22 ix n rc sp := by
  intro ix n rc sp h
  obtain ⟨l0, h2, rfl⟩ := ab_dmk h
  clear h
  unfold be_X10_shut at h2
  split at h2
  · cases h2; exact ec_cV (bm_X10_isHatch l) bw_X10_isHatch bv_X10_isHatch (by decide) (by decide) (Or.inl (ec_in (i := 1299) (by decide +kernel) rfl)) (T := TX10) (N := 57) rfl (by decide) (by decide +kernel)
  · cases h2; exact ec_cS (bm_X10_isIn l) bw_X10_isIn bv_X10_isIn (by decide) (by decide) (Or.inl (ec_in (i := 1303) (by decide +kernel) rfl)) (by decide +kernel)
  · cases h2; exact ec_cV (bm_X10_finding l) bw_X10_finding bv_X10_finding (by decide) (by decide) (Or.inl (ec_in (i := 1282) (by decide +kernel) rfl)) (T := TX10) (N := 57) rfl (by decide) (by decide +kernel)
  · cases h2
def bx_X10_shut : ex_K := (RX10, ec_fx fl_X10, ec_cx cl_X10, sl_X10, (fun ix => (be_X10_shut ix).map (fun q => (q.1, q.2.1, ab_sp ab_hd q.2.2))), ec_nz, ec_no)
theorem bj_X10_shut (l : Launch) : ex_ok l 1 22 bx_X10_shut := ⟨ec_fok fo_X10, ec_cok co_X10, so_X10, bk_X10_shut l, fun _ h => (by cases h), fun _ h => (by cases h), fun _ h => (by cases h), fun _ _ h => (by cases h)⟩
def bq_X10_shut : List (ab_C × List ab_Q) := [(([.inl 76, .inr ((-2147483648), 2147483647), .inr ((-2147483648), 2147483647)], [], [(82, none), (114, some 1)], [(some ((-2147483648), 2147483647, none), [], [])]), [])]
def bc_X10_shut : List ab_C := bq_X10_shut.map (fun c => c.1)
def bi_X10_shut : List (Nat × Instr × Nat) := [(0, .aload_n 0, 1), (1, .iload_n 1, 1), (2, .invokevirtual 168, 3), (5, .ifCond .eq 12, 3), (8, .iload_n 2, 1), (9, .iconst 0, 1), (10, .iconst 1, 1), (11, .invokestatic 171, 3), (14, .ifCond .ne 9, 3), (17, .aload_n 0, 1), (18, .iconst 1, 1), (19, .invokevirtual 160, 3), (22, .ireturn, 1), (23, .aload_n 0, 1), (24, .getfield 25, 3), (27, .iload_n 1, 1), (28, .iaload, 1), (29, .istore_n 3, 1), (30, .aload_n 0, 1), (31, .getfield 25, 3), (34, .iload_n 1, 1), (35, .iload_n 2, 1), (36, .iastore, 1), (37, .iload_n 3, 1), (38, .ireturn, 1)]
theorem bd_X10_shut : ∀ q ∈ bi_X10_shut, decode cX10_shut q.1 = .ok q.2 := by decide +kernel
theorem bz_X10_shut : bq_X10_shut.all (ab_ck ab_hd ab_xs ab_tr bx_X10_shut be_X10_shut bi_X10_shut (some .int) 4 23) = true := by decide +kernel
theorem bm_X10_shut (l : Launch) : ex_Met l yX10_shut cX10_shut 4 (some .int) 1 22 (ab_sp ab_hd bc_X10_shut) := ab_met (by decide) (by decide) rfl (bj_X10_shut l) bd_X10_shut ab_hcm ab_xk bz_X10_shut
theorem bw_X10_gas : ec_cw yX10_gas cX10_gas 5 (some .int) := ⟨ec_in (i := 1309) (by decide +kernel) rfl, ec_in (i := 68) (by decide +kernel) rfl, by decide, by decide⟩
theorem bv_X10_gas : Cond.instanceMethod yX10_gas ∈ ec_tb ∧ Cond.selects yX10_gas.cls yX10_gas yX10_gas ∈ ec_tb := ⟨ec_in (i := 1307) (by decide +kernel) rfl, ec_in (i := 1308) (by decide +kernel) rfl⟩
def be_X10_gas : Nat → Option (Nat × Option Nat × List ab_C) := fun ix => match ix with
  | 164 => some (2, some 10, bc_X10_isModule)
  | 171 => some (3, none, bc_X10_isIn)
  | 160 => some (2, some 10, bc_X10_finding)
  | _ => none
theorem bk_X10_gas (l : Launch) : ∀ (ix n : Nat) (rc : Option Nat) (sp : ex_S), (be_X10_gas ix).map (fun q => (q.1, q.2.1, ab_sp ab_hd q.2.2)) = some (n, rc, sp) → ex_cok l RX10 1 22 ix n rc sp := by
  intro ix n rc sp h
  obtain ⟨l0, h2, rfl⟩ := ab_dmk h
  clear h
  unfold be_X10_gas at h2
  split at h2
  · cases h2; exact ec_cV (bm_X10_isModule l) bw_X10_isModule bv_X10_isModule (by decide) (by decide) (Or.inl (ec_in (i := 1291) (by decide +kernel) rfl)) (T := TX10) (N := 57) rfl (by decide) (by decide +kernel)
  · cases h2; exact ec_cS (bm_X10_isIn l) bw_X10_isIn bv_X10_isIn (by decide) (by decide) (Or.inl (ec_in (i := 1303) (by decide +kernel) rfl)) (by decide +kernel)
  · cases h2; exact ec_cV (bm_X10_finding l) bw_X10_finding bv_X10_finding (by decide) (by decide) (Or.inl (ec_in (i := 1282) (by decide +kernel) rfl)) (T := TX10) (N := 57) rfl (by decide) (by decide +kernel)
  · cases h2
def bx_X10_gas : ex_K := (RX10, ec_fx fl_X10, ec_cx cl_X10, sl_X10, (fun ix => (be_X10_gas ix).map (fun q => (q.1, q.2.1, ab_sp ab_hd q.2.2))), ec_nz, ec_no)
theorem bj_X10_gas (l : Launch) : ex_ok l 1 22 bx_X10_gas := ⟨ec_fok fo_X10, ec_cok co_X10, so_X10, bk_X10_gas l, fun _ h => (by cases h), fun _ h => (by cases h), fun _ h => (by cases h), fun _ _ h => (by cases h)⟩
def bq_X10_gas : List (ab_C × List ab_Q) := [(([.inl 76, .inr ((-2147483648), 2147483647), .inr ((-2147483648), 2147483647), .inr ((-2147483648), 2147483647)], [], [(77, none), (78, none), (114, some 1)], [(some ((-2147483648), 2147483647, none), [], [])]), [])]
def bc_X10_gas : List ab_C := bq_X10_gas.map (fun c => c.1)
def bi_X10_gas : List (Nat × Instr × Nat) := [(0, .aload_n 0, 1), (1, .iload_n 1, 1), (2, .invokevirtual 164, 3), (5, .ifCond .eq 22, 3), (8, .iload_n 2, 1), (9, .iconst 0, 1), (10, .iconst 4, 1), (11, .invokestatic 171, 3), (14, .ifCond .eq 13, 3), (17, .iload_n 3, 1), (18, .iconst (-1), 1), (19, .ldc 175, 2), (21, .invokestatic 171, 3), (24, .ifCond .ne 9, 3), (27, .aload_n 0, 1), (28, .iconst 1, 1), (29, .invokevirtual 160, 3), (32, .ireturn, 1), (33, .iload_n 2, 1), (34, .iconst 4, 1), (35, .if_icmp .ne 12, 3), (38, .aload_n 0, 1), (39, .getfield 13, 3), (42, .iload_n 1, 1), (43, .iaload, 1), (44, .goto 13, 3), (47, .aload_n 0, 1), (48, .getfield 7, 3), (51, .iconst 4, 1), (52, .iload_n 1, 1), (53, .imul, 1), (54, .iload_n 2, 1), (55, .iadd, 1), (56, .iaload, 1), (57, .istore 4, 2), (59, .iload_n 3, 1), (60, .ifCond .lt 15, 3), (63, .iload_n 2, 1), (64, .iconst 4, 1), (65, .if_icmp .ne 10, 3), (68, .aload_n 0, 1), (69, .getfield 13, 3), (72, .iload_n 1, 1), (73, .iload_n 3, 1), (74, .iastore, 1), (75, .iload_n 3, 1), (76, .ifCond .lt 19, 3), (79, .iload_n 2, 1), (80, .iconst 4, 1), (81, .if_icmp .ge 14, 3), (84, .aload_n 0, 1), (85, .getfield 7, 3), (88, .iconst 4, 1), (89, .iload_n 1, 1), (90, .imul, 1), (91, .iload_n 2, 1), (92, .iadd, 1), (93, .iload_n 3, 1), (94, .iastore, 1), (95, .iload 4, 2), (97, .ireturn, 1)]
theorem bd_X10_gas : ∀ q ∈ bi_X10_gas, decode cX10_gas q.1 = .ok q.2 := by decide +kernel
theorem bz_X10_gas : bq_X10_gas.all (ab_ck ab_hd ab_xs ab_tr bx_X10_gas be_X10_gas bi_X10_gas (some .int) 5 49) = true := by decide +kernel
theorem bm_X10_gas (l : Launch) : ex_Met l yX10_gas cX10_gas 5 (some .int) 1 22 (ab_sp ab_hd bc_X10_gas) := ab_met (by decide) (by decide) rfl (bj_X10_gas l) bd_X10_gas ab_hcm ab_xk bz_X10_gas
theorem bw_X10_leak : ec_cw yX10_leak cX10_leak 4 (some .int) := ⟨ec_in (i := 1314) (by decide +kernel) rfl, ec_in (i := 68) (by decide +kernel) rfl, by decide, by decide⟩
theorem bv_X10_leak : Cond.instanceMethod yX10_leak ∈ ec_tb ∧ Cond.selects yX10_leak.cls yX10_leak yX10_leak ∈ ec_tb := ⟨ec_in (i := 1312) (by decide +kernel) rfl, ec_in (i := 1313) (by decide +kernel) rfl⟩
def be_X10_leak : Nat → Option (Nat × Option Nat × List ab_C) := fun ix => match ix with
  | 164 => some (2, some 10, bc_X10_isModule)
  | 171 => some (3, none, bc_X10_isIn)
  | 160 => some (2, some 10, bc_X10_finding)
  | _ => none
theorem bk_X10_leak (l : Launch) : ∀ (ix n : Nat) (rc : Option Nat) (sp : ex_S), (be_X10_leak ix).map (fun q => (q.1, q.2.1, ab_sp ab_hd q.2.2)) = some (n, rc, sp) → ex_cok l RX10 1 22 ix n rc sp := by
  intro ix n rc sp h
  obtain ⟨l0, h2, rfl⟩ := ab_dmk h
  clear h
  unfold be_X10_leak at h2
  split at h2
  · cases h2; exact ec_cV (bm_X10_isModule l) bw_X10_isModule bv_X10_isModule (by decide) (by decide) (Or.inl (ec_in (i := 1291) (by decide +kernel) rfl)) (T := TX10) (N := 57) rfl (by decide) (by decide +kernel)
  · cases h2; exact ec_cS (bm_X10_isIn l) bw_X10_isIn bv_X10_isIn (by decide) (by decide) (Or.inl (ec_in (i := 1303) (by decide +kernel) rfl)) (by decide +kernel)
  · cases h2; exact ec_cV (bm_X10_finding l) bw_X10_finding bv_X10_finding (by decide) (by decide) (Or.inl (ec_in (i := 1282) (by decide +kernel) rfl)) (T := TX10) (N := 57) rfl (by decide) (by decide +kernel)
  · cases h2
def bx_X10_leak : ex_K := (RX10, ec_fx fl_X10, ec_cx cl_X10, sl_X10, (fun ix => (be_X10_leak ix).map (fun q => (q.1, q.2.1, ab_sp ab_hd q.2.2))), ec_nz, ec_no)
theorem bj_X10_leak (l : Launch) : ex_ok l 1 22 bx_X10_leak := ⟨ec_fok fo_X10, ec_cok co_X10, so_X10, bk_X10_leak l, fun _ h => (by cases h), fun _ h => (by cases h), fun _ h => (by cases h), fun _ _ h => (by cases h)⟩
def bq_X10_leak : List (ab_C × List ab_Q) := [(([.inl 76, .inr ((-2147483648), 2147483647), .inr ((-2147483648), 2147483647)], [], [(79, none), (114, some 1)], [(some ((-2147483648), 2147483647, none), [], [])]), [])]
def bc_X10_leak : List ab_C := bq_X10_leak.map (fun c => c.1)
def bi_X10_leak : List (Nat × Instr × Nat) := [(0, .aload_n 0, 1), (1, .iload_n 1, 1), (2, .invokevirtual 164, 3), (5, .ifCond .eq 13, 3), (8, .iload_n 2, 1), (9, .iconst 0, 1), (10, .bipush 50, 2), (12, .invokestatic 171, 3), (15, .ifCond .ne 9, 3), (18, .aload_n 0, 1), (19, .iconst 1, 1), (20, .invokevirtual 160, 3), (23, .ireturn, 1), (24, .aload_n 0, 1), (25, .getfield 16, 3), (28, .iload_n 1, 1), (29, .iaload, 1), (30, .istore_n 3, 1), (31, .aload_n 0, 1), (32, .getfield 16, 3), (35, .iload_n 1, 1), (36, .iload_n 2, 1), (37, .iastore, 1), (38, .iload_n 3, 1), (39, .ireturn, 1)]
theorem bd_X10_leak : ∀ q ∈ bi_X10_leak, decode cX10_leak q.1 = .ok q.2 := by decide +kernel
theorem bz_X10_leak : bq_X10_leak.all (ab_ck ab_hd ab_xs ab_tr bx_X10_leak be_X10_leak bi_X10_leak (some .int) 4 23) = true := by decide +kernel
theorem bm_X10_leak (l : Launch) : ex_Met l yX10_leak cX10_leak 4 (some .int) 1 22 (ab_sp ab_hd bc_X10_leak) := ab_met (by decide) (by decide) rfl (bj_X10_leak l) bd_X10_leak ab_hcm ab_xk bz_X10_leak
theorem bw_X10_tank : ec_cw yX10_tank cX10_tank 4 (some .int) := ⟨ec_in (i := 1318) (by decide +kernel) rfl, ec_in (i := 68) (by decide +kernel) rfl, by decide, by decide⟩
theorem bv_X10_tank : Cond.instanceMethod yX10_tank ∈ ec_tb ∧ Cond.selects yX10_tank.cls yX10_tank yX10_tank ∈ ec_tb := ⟨ec_in (i := 1316) (by decide +kernel) rfl, ec_in (i := 1317) (by decide +kernel) rfl⟩
def be_X10_tank : Nat → Option (Nat × Option Nat × List ab_C) := fun ix => match ix with
  | 171 => some (3, none, bc_X10_isIn)
  | 160 => some (2, some 10, bc_X10_finding)
  | _ => none
theorem bk_X10_tank (l : Launch) : ∀ (ix n : Nat) (rc : Option Nat) (sp : ex_S), (be_X10_tank ix).map (fun q => (q.1, q.2.1, ab_sp ab_hd q.2.2)) = some (n, rc, sp) → ex_cok l RX10 1 22 ix n rc sp := by
  intro ix n rc sp h
  obtain ⟨l0, h2, rfl⟩ := ab_dmk h
  clear h
  unfold be_X10_tank at h2
  split at h2
  · cases h2; exact ec_cS (bm_X10_isIn l) bw_X10_isIn bv_X10_isIn (by decide) (by decide) (Or.inl (ec_in (i := 1303) (by decide +kernel) rfl)) (by decide +kernel)
  · cases h2; exact ec_cV (bm_X10_finding l) bw_X10_finding bv_X10_finding (by decide) (by decide) (Or.inl (ec_in (i := 1282) (by decide +kernel) rfl)) (T := TX10) (N := 57) rfl (by decide) (by decide +kernel)
  · cases h2
def bx_X10_tank : ex_K := (RX10, ec_fx fl_X10, ec_cx cl_X10, sl_X10, (fun ix => (be_X10_tank ix).map (fun q => (q.1, q.2.1, ab_sp ab_hd q.2.2))), ec_nz, ec_no)
theorem bj_X10_tank (l : Launch) : ex_ok l 1 22 bx_X10_tank := ⟨ec_fok fo_X10, ec_cok co_X10, so_X10, bk_X10_tank l, fun _ h => (by cases h), fun _ h => (by cases h), fun _ h => (by cases h), fun _ _ h => (by cases h)⟩
def bq_X10_tank : List (ab_C × List ab_Q) := [(([.inl 76, .inr ((-2147483648), 2147483647), .inr ((-2147483648), 2147483647)], [], [(83, none), (114, some 1)], [(some ((-2147483648), 2147483647, none), [], [])]), [])]
def bc_X10_tank : List ab_C := bq_X10_tank.map (fun c => c.1)
def bi_X10_tank : List (Nat × Instr × Nat) := [(0, .iload_n 1, 1), (1, .iconst 0, 1), (2, .iconst 5, 1), (3, .invokestatic 171, 3), (6, .ifCond .eq 13, 3), (9, .iload_n 2, 1), (10, .iconst (-1), 1), (11, .ldc 176, 2), (13, .invokestatic 171, 3), (16, .ifCond .ne 9, 3), (19, .aload_n 0, 1), (20, .iconst 1, 1), (21, .invokevirtual 160, 3), (24, .ireturn, 1), (25, .aload_n 0, 1), (26, .getfield 28, 3), (29, .iload_n 1, 1), (30, .iaload, 1), (31, .istore_n 3, 1), (32, .aload_n 0, 1), (33, .getfield 28, 3), (36, .iload_n 1, 1), (37, .iload_n 2, 1), (38, .ifCond .ge 7, 3), (41, .iload_n 3, 1), (42, .goto 4, 3), (45, .iload_n 2, 1), (46, .iastore, 1), (47, .iload_n 3, 1), (48, .ireturn, 1)]
theorem bd_X10_tank : ∀ q ∈ bi_X10_tank, decode cX10_tank q.1 = .ok q.2 := by decide +kernel
theorem bz_X10_tank : bq_X10_tank.all (ab_ck ab_hd ab_xs ab_tr bx_X10_tank be_X10_tank bi_X10_tank (some .int) 4 27) = true := by decide +kernel
theorem bm_X10_tank (l : Launch) : ex_Met l yX10_tank cX10_tank 4 (some .int) 1 22 (ab_sp ab_hd bc_X10_tank) := ab_met (by decide) (by decide) rfl (bj_X10_tank l) bd_X10_tank ab_hcm ab_xk bz_X10_tank
theorem bw_X10_grams : ec_cw yX10_grams cX10_grams 3 (some .int) := ⟨ec_in (i := 1323) (by decide +kernel) rfl, ec_in (i := 68) (by decide +kernel) rfl, by decide, by decide⟩
theorem bv_X10_grams : Cond.instanceMethod yX10_grams ∈ ec_tb ∧ Cond.selects yX10_grams.cls yX10_grams yX10_grams ∈ ec_tb := ⟨ec_in (i := 1321) (by decide +kernel) rfl, ec_in (i := 1322) (by decide +kernel) rfl⟩
def bx_X10_grams : ex_K := (RX10, ec_fx fl_X10, ec_cx cl_X10, sl_X10, (fun ix => (ec_no ix).map (fun (q : Nat × Option Nat × List ab_C) => (q.1, q.2.1, ab_sp ab_hd q.2.2))), ec_nz, ec_no)
theorem bj_X10_grams (l : Launch) : ex_ok l 0 0 bx_X10_grams := ⟨ec_fok fo_X10, ec_cok co_X10, so_X10, fun _ _ _ _ h => (by cases h), fun _ h => (by cases h), fun _ h => (by cases h), fun _ h => (by cases h), fun _ _ h => (by cases h)⟩
def bq_X10_grams : List (ab_C × List ab_Q) := [(([.inl 76], [], [], [(some ((-2147483648), 2147483647, none), [], [])]), [(4, [some (.inl 76), some (.inr (.inl ((-2147483648), 2147483647, none, none))), some (.inr (.inl (0, 24, none, none)))], [((1, 0, 7), 0, 24, some (1007, 0)), ((1, 76, 52), 0, 24, some (77052, 0))], 61, [0, 0, (-2)]), (31, [some (.inl 76), some (.inr (.inl ((-2147483648), 2147483647, none, none))), some (.inr (.inl (0, 5, none, none)))], [((1, 0, 7), 0, 24, some (1007, 0)), ((1, 76, 52), 0, 24, some (77052, 0))], 11, [0, 0, (-2)])])]
def bc_X10_grams : List ab_C := bq_X10_grams.map (fun c => c.1)
def bi_X10_grams : List (Nat × Instr × Nat) := [(0, .iconst 0, 1), (1, .istore_n 1, 1), (2, .iconst 0, 1), (3, .istore_n 2, 1), (4, .iload_n 2, 1), (5, .iconst 4, 1), (6, .aload_n 0, 1), (7, .getfield 148, 3), (10, .imul, 1), (11, .if_icmp .ge 18, 3), (14, .iload_n 1, 1), (15, .aload_n 0, 1), (16, .getfield 7, 3), (19, .iload_n 2, 1), (20, .iaload, 1), (21, .iadd, 1), (22, .istore_n 1, 1), (23, .iinc 2 1, 3), (26, .goto (-22), 3), (29, .iconst 0, 1), (30, .istore_n 2, 1), (31, .iload_n 2, 1), (32, .iconst 4, 1), (33, .if_icmp .gt 18, 3), (36, .iload_n 1, 1), (37, .aload_n 0, 1), (38, .getfield 28, 3), (41, .iload_n 2, 1), (42, .iaload, 1), (43, .iadd, 1), (44, .istore_n 1, 1), (45, .iinc 2 1, 3), (48, .goto (-17), 3), (51, .iload_n 1, 1), (52, .ireturn, 1)]
theorem bd_X10_grams : ∀ q ∈ bi_X10_grams, decode cX10_grams q.1 = .ok q.2 := by decide +kernel
theorem bz_X10_grams : bq_X10_grams.all (ab_ck ab_hd ab_xs ab_tr bx_X10_grams ec_no bi_X10_grams (some .int) 3 17) = true := by decide +kernel
theorem bm_X10_grams (l : Launch) : ex_Met l yX10_grams cX10_grams 3 (some .int) 0 0 (ab_sp ab_hd bc_X10_grams) := ab_met (by decide) (by decide) rfl (bj_X10_grams l) bd_X10_grams ab_hcm ab_xk bz_X10_grams
theorem bw_X10_person : ec_cw yX10_person cX10_person 2 (some .int) := ⟨ec_in (i := 1327) (by decide +kernel) rfl, ec_in (i := 68) (by decide +kernel) rfl, by decide, by decide⟩
theorem bv_X10_person : Cond.instanceMethod yX10_person ∈ ec_tb ∧ Cond.selects yX10_person.cls yX10_person yX10_person ∈ ec_tb := ⟨ec_in (i := 1325) (by decide +kernel) rfl, ec_in (i := 1326) (by decide +kernel) rfl⟩
def be_X10_person : Nat → Option (Nat × Option Nat × List ab_C) := fun ix => match ix with
  | 164 => some (2, some 10, bc_X10_isModule)
  | 160 => some (2, some 10, bc_X10_finding)
  | _ => none
theorem bk_X10_person (l : Launch) : ∀ (ix n : Nat) (rc : Option Nat) (sp : ex_S), (be_X10_person ix).map (fun q => (q.1, q.2.1, ab_sp ab_hd q.2.2)) = some (n, rc, sp) → ex_cok l RX10 1 21 ix n rc sp := by
  intro ix n rc sp h
  obtain ⟨l0, h2, rfl⟩ := ab_dmk h
  clear h
  unfold be_X10_person at h2
  split at h2
  · cases h2; exact ec_cV (bm_X10_isModule l) bw_X10_isModule bv_X10_isModule (by decide) (by decide) (Or.inl (ec_in (i := 1291) (by decide +kernel) rfl)) (T := TX10) (N := 57) rfl (by decide) (by decide +kernel)
  · cases h2; exact ec_cV (bm_X10_finding l) bw_X10_finding bv_X10_finding (by decide) (by decide) (Or.inl (ec_in (i := 1282) (by decide +kernel) rfl)) (T := TX10) (N := 57) rfl (by decide) (by decide +kernel)
  · cases h2
def bx_X10_person : ex_K := (RX10, ec_fx fl_X10, ec_cx cl_X10, sl_X10, (fun ix => (be_X10_person ix).map (fun q => (q.1, q.2.1, ab_sp ab_hd q.2.2))), ec_nz, ec_no)
theorem bj_X10_person (l : Launch) : ex_ok l 1 21 bx_X10_person := ⟨ec_fok fo_X10, ec_cok co_X10, so_X10, bk_X10_person l, fun _ h => (by cases h), fun _ h => (by cases h), fun _ h => (by cases h), fun _ _ h => (by cases h)⟩
def bq_X10_person : List (ab_C × List ab_Q) := [(([.inl 76, .inr ((-2147483648), 2147483647)], [], [(76, some 9), (84, none), (86, none), (114, some 1), (114, some 4)], [(some ((-2147483648), 2147483647, none), [], [])]), [])]
def bc_X10_person : List ab_C := bq_X10_person.map (fun c => c.1)
def bi_X10_person : List (Nat × Instr × Nat) := [(0, .aload_n 0, 1), (1, .iload_n 1, 1), (2, .invokevirtual 164, 3), (5, .ifCond .ne 9, 3), (8, .aload_n 0, 1), (9, .iconst 1, 1), (10, .invokevirtual 160, 3), (13, .ireturn, 1), (14, .aload_n 0, 1), (15, .getfield 154, 3), (18, .bipush 6, 2), (20, .if_icmp .ne 9, 3), (23, .aload_n 0, 1), (24, .iconst 4, 1), (25, .invokevirtual 160, 3), (28, .ireturn, 1), (29, .aload_n 0, 1), (30, .getfield 31, 3), (33, .aload_n 0, 1), (34, .getfield 154, 3), (37, .iload_n 1, 1), (38, .iastore, 1), (39, .aload_n 0, 1), (40, .getfield 37, 3), (43, .aload_n 0, 1), (44, .getfield 154, 3), (47, .iconst (-1), 1), (48, .iastore, 1), (49, .aload_n 0, 1), (50, .dup, 1), (51, .getfield 154, 3), (54, .iconst 1, 1), (55, .iadd, 1), (56, .putfield 154, 3), (59, .aload_n 0, 1), (60, .getfield 154, 3), (63, .iconst 1, 1), (64, .isub, 1), (65, .ireturn, 1)]
theorem bd_X10_person : ∀ q ∈ bi_X10_person, decode cX10_person q.1 = .ok q.2 := by decide +kernel
theorem bz_X10_person : bq_X10_person.all (ab_ck ab_hd ab_xs ab_tr bx_X10_person be_X10_person bi_X10_person (some .int) 2 33) = true := by decide +kernel
theorem bm_X10_person (l : Launch) : ex_Met l yX10_person cX10_person 2 (some .int) 1 21 (ab_sp ab_hd bc_X10_person) := ab_met (by decide) (by decide) rfl (bj_X10_person l) bd_X10_person ab_hcm ab_xk bz_X10_person
theorem bw_X10_canGo : ec_cw yX10_canGo cX10_canGo 5 (some .boolean) := ⟨ec_in (i := 1339) (by decide +kernel) rfl, ec_in (i := 68) (by decide +kernel) rfl, by decide, by decide⟩
theorem bv_X10_canGo : Cond.instanceMethod yX10_canGo ∈ ec_tb ∧ Cond.selects yX10_canGo.cls yX10_canGo yX10_canGo ∈ ec_tb := ⟨ec_in (i := 1338) (by decide +kernel) rfl, ec_in (i := 30) (by decide +kernel) rfl⟩
def bx_X10_canGo : ex_K := (RX10, ec_fx fl_X10, ec_cx cl_X10, sl_X10, (fun ix => (ec_no ix).map (fun (q : Nat × Option Nat × List ab_C) => (q.1, q.2.1, ab_sp ab_hd q.2.2))), ec_nz, ec_no)
theorem bj_X10_canGo (l : Launch) : ex_ok l 0 0 bx_X10_canGo := ⟨ec_fok fo_X10, ec_cok co_X10, so_X10, fun _ _ _ _ h => (by cases h), fun _ h => (by cases h), fun _ h => (by cases h), fun _ h => (by cases h), fun _ _ h => (by cases h)⟩
def bq_X10_canGo : List (ab_C × List ab_Q) := [(([.inl 76, .inr (0, 5), .inr (0, 5)], [], [], [(some (0, 1, none), [], [])]), [(5, [some (.inl 76), some (.inr (.inl (0, 5, none, none))), some (.inr (.inl (0, 5, none, none))), some (.inr (.inl (0, 1, none, none))), some (.inr (.inl (0, 8, none, none)))], [((1, 0, 7), 0, 24, some (1007, 0)), ((1, 76, 52), 0, 24, some (77052, 0))], 17, [0, 0, 0, 0, (-2)])])]
def bc_X10_canGo : List ab_C := bq_X10_canGo.map (fun c => c.1)
def bi_X10_canGo : List (Nat × Instr × Nat) := [(0, .iconst 0, 1), (1, .istore_n 3, 1), (2, .iconst 0, 1), (3, .istore 4, 2), (5, .iload 4, 2), (7, .aload_n 0, 1), (8, .getfield 151, 3), (11, .if_icmp .ge 82, 3), (14, .iload_n 3, 1), (15, .aload_n 0, 1), (16, .getfield 25, 3), (19, .iload 4, 2), (21, .iaload, 1), (22, .iconst 1, 1), (23, .if_icmp .ne 61, 3), (26, .aload_n 0, 1), (27, .getfield 19, 3), (30, .iload 4, 2), (32, .iaload, 1), (33, .aload_n 0, 1), (34, .getfield 31, 3), (37, .iload_n 1, 1), (38, .iaload, 1), (39, .if_icmp .ne 14, 3), (42, .aload_n 0, 1), (43, .getfield 22, 3), (46, .iload 4, 2), (48, .iaload, 1), (49, .iload_n 2, 1), (50, .if_icmp .eq 30, 3), (53, .aload_n 0, 1), (54, .getfield 22, 3), (57, .iload 4, 2), (59, .iaload, 1), (60, .aload_n 0, 1), (61, .getfield 31, 3), (64, .iload_n 1, 1), (65, .iaload, 1), (66, .if_icmp .ne 18, 3), (69, .aload_n 0, 1), (70, .getfield 19, 3), (73, .iload 4, 2), (75, .iaload, 1), (76, .iload_n 2, 1), (77, .if_icmp .ne 7, 3), (80, .iconst 1, 1), (81, .goto 4, 3), (84, .iconst 0, 1), (85, .ior, 1), (86, .istore_n 3, 1), (87, .iinc 4 1, 3), (90, .goto (-85), 3), (93, .aload_n 0, 1), (94, .getfield 37, 3), (97, .iload_n 1, 1), (98, .iaload, 1), (99, .ifCond .ge 21, 3), (102, .aload_n 0, 1), (103, .getfield 31, 3), (106, .iload_n 1, 1), (107, .iaload, 1), (108, .iload_n 2, 1), (109, .if_icmp .eq 11, 3), (112, .iload_n 3, 1), (113, .ifCond .eq 7, 3), (116, .iconst 1, 1), (117, .goto 4, 3), (120, .iconst 0, 1), (121, .ireturn, 1)]
theorem bd_X10_canGo : ∀ q ∈ bi_X10_canGo, decode cX10_canGo q.1 = .ok q.2 := by decide +kernel
theorem bz_X10_canGo : bq_X10_canGo.all (ab_ck ab_hd ab_xs ab_tr bx_X10_canGo ec_no bi_X10_canGo (some .boolean) 5 49) = true := by decide +kernel
theorem bm_X10_canGo (l : Launch) : ex_Met l yX10_canGo cX10_canGo 5 (some .boolean) 0 0 (ab_sp ab_hd bc_X10_canGo) := ab_met (by decide) (by decide) rfl (bj_X10_canGo l) bd_X10_canGo ab_hcm ab_xk bz_X10_canGo
theorem bw_X10_go : ec_cw yX10_go cX10_go 3 (some .int) := ⟨ec_in (i := 1331) (by decide +kernel) rfl, ec_in (i := 68) (by decide +kernel) rfl, by decide, by decide⟩
theorem bv_X10_go : Cond.instanceMethod yX10_go ∈ ec_tb ∧ Cond.selects yX10_go.cls yX10_go yX10_go ∈ ec_tb := ⟨ec_in (i := 1329) (by decide +kernel) rfl, ec_in (i := 1330) (by decide +kernel) rfl⟩
def be_X10_go : Nat → Option (Nat × Option Nat × List ab_C) := fun ix => match ix with
  | 177 => some (2, some 10, bc_X10_isPerson)
  | 164 => some (2, some 10, bc_X10_isModule)
  | 160 => some (2, some 10, bc_X10_finding)
  | 180 => some (3, some 10, bc_X10_canGo)
  | _ => none
theorem bk_X10_go (l : Launch) : ∀ (ix n : Nat) (rc : Option Nat) (sp : ex_S), (be_X10_go ix).map (fun q => (q.1, q.2.1, ab_sp ab_hd q.2.2)) = some (n, rc, sp) → ex_cok l RX10 1 24 ix n rc sp := by
  intro ix n rc sp h
  obtain ⟨l0, h2, rfl⟩ := ab_dmk h
  clear h
  unfold be_X10_go at h2
  split at h2
  · cases h2; exact ec_cV (bm_X10_isPerson l) bw_X10_isPerson bv_X10_isPerson (by decide) (by decide) (Or.inl (ec_in (i := 1332) (by decide +kernel) rfl)) (T := TX10) (N := 57) rfl (by decide) (by decide +kernel)
  · cases h2; exact ec_cV (bm_X10_isModule l) bw_X10_isModule bv_X10_isModule (by decide) (by decide) (Or.inl (ec_in (i := 1291) (by decide +kernel) rfl)) (T := TX10) (N := 57) rfl (by decide) (by decide +kernel)
  · cases h2; exact ec_cV (bm_X10_finding l) bw_X10_finding bv_X10_finding (by decide) (by decide) (Or.inl (ec_in (i := 1282) (by decide +kernel) rfl)) (T := TX10) (N := 57) rfl (by decide) (by decide +kernel)
  · cases h2; exact ec_cV (bm_X10_canGo l) bw_X10_canGo bv_X10_canGo (by decide) (by decide) (Or.inl (ec_in (i := 1336) (by decide +kernel) rfl)) (T := TX10) (N := 57) rfl (by decide) (by decide +kernel)
  · cases h2
def bx_X10_go : ex_K := (RX10, ec_fx fl_X10, ec_cx cl_X10, sl_X10, (fun ix => (be_X10_go ix).map (fun q => (q.1, q.2.1, ab_sp ab_hd q.2.2))), ec_nz, ec_no)
theorem bj_X10_go (l : Launch) : ex_ok l 1 24 bx_X10_go := ⟨ec_fok fo_X10, ec_cok co_X10, so_X10, bk_X10_go l, fun _ h => (by cases h), fun _ h => (by cases h), fun _ h => (by cases h), fun _ _ h => (by cases h)⟩
def bq_X10_go : List (ab_C × List ab_Q) := [(([.inl 76, .inr ((-2147483648), 2147483647), .inr ((-2147483648), 2147483647)], [], [(84, none), (114, some 1), (114, some 3)], [(some ((-2147483648), 2147483647, none), [], [])]), [])]
def bc_X10_go : List ab_C := bq_X10_go.map (fun c => c.1)
def bi_X10_go : List (Nat × Instr × Nat) := [(0, .aload_n 0, 1), (1, .iload_n 1, 1), (2, .invokevirtual 177, 3), (5, .ifCond .eq 11, 3), (8, .aload_n 0, 1), (9, .iload_n 2, 1), (10, .invokevirtual 164, 3), (13, .ifCond .ne 9, 3), (16, .aload_n 0, 1), (17, .iconst 1, 1), (18, .invokevirtual 160, 3), (21, .ireturn, 1), (22, .aload_n 0, 1), (23, .iload_n 1, 1), (24, .iload_n 2, 1), (25, .invokevirtual 180, 3), (28, .ifCond .ne 9, 3), (31, .aload_n 0, 1), (32, .iconst 3, 1), (33, .invokevirtual 160, 3), (36, .ireturn, 1), (37, .aload_n 0, 1), (38, .getfield 31, 3), (41, .iload_n 1, 1), (42, .iload_n 2, 1), (43, .iastore, 1), (44, .iconst 1, 1), (45, .ireturn, 1)]
theorem bd_X10_go : ∀ q ∈ bi_X10_go, decode cX10_go q.1 = .ok q.2 := by decide +kernel
theorem bz_X10_go : bq_X10_go.all (ab_ck ab_hd ab_xs ab_tr bx_X10_go be_X10_go bi_X10_go (some .int) 3 22) = true := by decide +kernel
theorem bm_X10_go (l : Launch) : ex_Met l yX10_go cX10_go 3 (some .int) 1 24 (ab_sp ab_hd bc_X10_go) := ab_met (by decide) (by decide) rfl (bj_X10_go l) bd_X10_go ab_hcm ab_xk bz_X10_go
theorem bw_X10_doing : ec_cw yX10_doing cX10_doing 4 (some .int) := ⟨ec_in (i := 1343) (by decide +kernel) rfl, ec_in (i := 68) (by decide +kernel) rfl, by decide, by decide⟩
theorem bv_X10_doing : Cond.instanceMethod yX10_doing ∈ ec_tb ∧ Cond.selects yX10_doing.cls yX10_doing yX10_doing ∈ ec_tb := ⟨ec_in (i := 1341) (by decide +kernel) rfl, ec_in (i := 1342) (by decide +kernel) rfl⟩
def be_X10_doing : Nat → Option (Nat × Option Nat × List ab_C) := fun ix => match ix with
  | 177 => some (2, some 10, bc_X10_isPerson)
  | 171 => some (3, none, bc_X10_isIn)
  | 160 => some (2, some 10, bc_X10_finding)
  | _ => none
theorem bk_X10_doing (l : Launch) : ∀ (ix n : Nat) (rc : Option Nat) (sp : ex_S), (be_X10_doing ix).map (fun q => (q.1, q.2.1, ab_sp ab_hd q.2.2)) = some (n, rc, sp) → ex_cok l RX10 1 22 ix n rc sp := by
  intro ix n rc sp h
  obtain ⟨l0, h2, rfl⟩ := ab_dmk h
  clear h
  unfold be_X10_doing at h2
  split at h2
  · cases h2; exact ec_cV (bm_X10_isPerson l) bw_X10_isPerson bv_X10_isPerson (by decide) (by decide) (Or.inl (ec_in (i := 1332) (by decide +kernel) rfl)) (T := TX10) (N := 57) rfl (by decide) (by decide +kernel)
  · cases h2; exact ec_cS (bm_X10_isIn l) bw_X10_isIn bv_X10_isIn (by decide) (by decide) (Or.inl (ec_in (i := 1303) (by decide +kernel) rfl)) (by decide +kernel)
  · cases h2; exact ec_cV (bm_X10_finding l) bw_X10_finding bv_X10_finding (by decide) (by decide) (Or.inl (ec_in (i := 1282) (by decide +kernel) rfl)) (T := TX10) (N := 57) rfl (by decide) (by decide +kernel)
  · cases h2
def bx_X10_doing : ex_K := (RX10, ec_fx fl_X10, ec_cx cl_X10, sl_X10, (fun ix => (be_X10_doing ix).map (fun q => (q.1, q.2.1, ab_sp ab_hd q.2.2))), ec_nz, ec_no)
theorem bj_X10_doing (l : Launch) : ex_ok l 1 22 bx_X10_doing := ⟨ec_fok fo_X10, ec_cok co_X10, so_X10, bk_X10_doing l, fun _ h => (by cases h), fun _ h => (by cases h), fun _ h => (by cases h), fun _ _ h => (by cases h)⟩
def bq_X10_doing : List (ab_C × List ab_Q) := [(([.inl 76, .inr ((-2147483648), 2147483647), .inr ((-2147483648), 2147483647)], [], [(85, none), (114, some 1), (114, some 3)], [(some ((-2147483648), 2147483647, none), [], [])]), [])]
def bc_X10_doing : List ab_C := bq_X10_doing.map (fun c => c.1)
def bi_X10_doing : List (Nat × Instr × Nat) := [(0, .aload_n 0, 1), (1, .iload_n 1, 1), (2, .invokevirtual 177, 3), (5, .ifCond .eq 12, 3), (8, .iload_n 2, 1), (9, .iconst 0, 1), (10, .iconst 2, 1), (11, .invokestatic 171, 3), (14, .ifCond .ne 9, 3), (17, .aload_n 0, 1), (18, .iconst 1, 1), (19, .invokevirtual 160, 3), (22, .ireturn, 1), (23, .aload_n 0, 1), (24, .getfield 37, 3), (27, .iload_n 1, 1), (28, .iaload, 1), (29, .ifCond .lt 9, 3), (32, .aload_n 0, 1), (33, .iconst 3, 1), (34, .invokevirtual 160, 3), (37, .ireturn, 1), (38, .aload_n 0, 1), (39, .getfield 34, 3), (42, .iload_n 1, 1), (43, .iaload, 1), (44, .istore_n 3, 1), (45, .aload_n 0, 1), (46, .getfield 34, 3), (49, .iload_n 1, 1), (50, .iload_n 2, 1), (51, .iastore, 1), (52, .iload_n 3, 1), (53, .ireturn, 1)]
theorem bd_X10_doing : ∀ q ∈ bi_X10_doing, decode cX10_doing q.1 = .ok q.2 := by decide +kernel
theorem bz_X10_doing : bq_X10_doing.all (ab_ck ab_hd ab_xs ab_tr bx_X10_doing be_X10_doing bi_X10_doing (some .int) 4 28) = true := by decide +kernel
theorem bm_X10_doing (l : Launch) : ex_Met l yX10_doing cX10_doing 4 (some .int) 1 22 (ab_sp ab_hd bc_X10_doing) := ab_met (by decide) (by decide) rfl (bj_X10_doing l) bd_X10_doing ab_hcm ab_xk bz_X10_doing
theorem bw_X10_about : ec_cw yX10_about cX10_about 3 (some .int) := ⟨ec_in (i := 1347) (by decide +kernel) rfl, ec_in (i := 68) (by decide +kernel) rfl, by decide, by decide⟩
theorem bv_X10_about : Cond.instanceMethod yX10_about ∈ ec_tb ∧ Cond.selects yX10_about.cls yX10_about yX10_about ∈ ec_tb := ⟨ec_in (i := 1345) (by decide +kernel) rfl, ec_in (i := 1346) (by decide +kernel) rfl⟩
def be_X10_about : Nat → Option (Nat × Option Nat × List ab_C) := fun ix => match ix with
  | 177 => some (2, some 10, bc_X10_isPerson)
  | 171 => some (3, none, bc_X10_isIn)
  | 160 => some (2, some 10, bc_X10_finding)
  | _ => none
theorem bk_X10_about (l : Launch) : ∀ (ix n : Nat) (rc : Option Nat) (sp : ex_S), (be_X10_about ix).map (fun q => (q.1, q.2.1, ab_sp ab_hd q.2.2)) = some (n, rc, sp) → ex_cok l RX10 1 22 ix n rc sp := by
  intro ix n rc sp h
  obtain ⟨l0, h2, rfl⟩ := ab_dmk h
  clear h
  unfold be_X10_about at h2
  split at h2
  · cases h2; exact ec_cV (bm_X10_isPerson l) bw_X10_isPerson bv_X10_isPerson (by decide) (by decide) (Or.inl (ec_in (i := 1332) (by decide +kernel) rfl)) (T := TX10) (N := 57) rfl (by decide) (by decide +kernel)
  · cases h2; exact ec_cS (bm_X10_isIn l) bw_X10_isIn bv_X10_isIn (by decide) (by decide) (Or.inl (ec_in (i := 1303) (by decide +kernel) rfl)) (by decide +kernel)
  · cases h2; exact ec_cV (bm_X10_finding l) bw_X10_finding bv_X10_finding (by decide) (by decide) (Or.inl (ec_in (i := 1282) (by decide +kernel) rfl)) (T := TX10) (N := 57) rfl (by decide) (by decide +kernel)
  · cases h2
def bx_X10_about : ex_K := (RX10, ec_fx fl_X10, ec_cx cl_X10, sl_X10, (fun ix => (be_X10_about ix).map (fun q => (q.1, q.2.1, ab_sp ab_hd q.2.2))), ec_nz, ec_no)
theorem bj_X10_about (l : Launch) : ex_ok l 1 22 bx_X10_about := ⟨ec_fok fo_X10, ec_cok co_X10, so_X10, bk_X10_about l, fun _ h => (by cases h), fun _ h => (by cases h), fun _ h => (by cases h), fun _ _ h => (by cases h)⟩
def bq_X10_about : List (ab_C × List ab_Q) := [(([.inl 76, .inr ((-2147483648), 2147483647), .inr ((-2147483648), 2147483647)], [], [(114, some 1)], [(some ((-2147483648), 2147483647, none), [], [])]), [])]
def bc_X10_about : List ab_C := bq_X10_about.map (fun c => c.1)
def bi_X10_about : List (Nat × Instr × Nat) := [(0, .aload_n 0, 1), (1, .iload_n 1, 1), (2, .invokevirtual 177, 3), (5, .ifCond .eq 12, 3), (8, .iload_n 2, 1), (9, .iconst 0, 1), (10, .iconst 5, 1), (11, .invokestatic 171, 3), (14, .ifCond .ne 9, 3), (17, .aload_n 0, 1), (18, .iconst 1, 1), (19, .invokevirtual 160, 3), (22, .ireturn, 1), (23, .iload_n 2, 1), (24, .tableswitch 71 0 4 #[36, 43, 50, 57, 64], 36), (60, .aload_n 0, 1), (61, .getfield 31, 3), (64, .iload_n 1, 1), (65, .iaload, 1), (66, .ireturn, 1), (67, .aload_n 0, 1), (68, .getfield 34, 3), (71, .iload_n 1, 1), (72, .iaload, 1), (73, .ireturn, 1), (74, .aload_n 0, 1), (75, .getfield 37, 3), (78, .iload_n 1, 1), (79, .iaload, 1), (80, .ireturn, 1), (81, .aload_n 0, 1), (82, .getfield 40, 3), (85, .iload_n 1, 1), (86, .iaload, 1), (87, .ireturn, 1), (88, .aload_n 0, 1), (89, .getfield 43, 3), (92, .iload_n 1, 1), (93, .iaload, 1), (94, .ireturn, 1), (95, .aload_n 0, 1), (96, .getfield 46, 3), (99, .iload_n 1, 1), (100, .iaload, 1), (101, .ireturn, 1)]
theorem bd_X10_about : ∀ q ∈ bi_X10_about, decode cX10_about q.1 = .ok q.2 := by decide +kernel
theorem bz_X10_about : bq_X10_about.all (ab_ck ab_hd ab_xs ab_tr bx_X10_about be_X10_about bi_X10_about (some .int) 3 18) = true := by decide +kernel
theorem bm_X10_about (l : Launch) : ex_Met l yX10_about cX10_about 3 (some .int) 1 22 (ab_sp ab_hd bc_X10_about) := ab_met (by decide) (by decide) rfl (bj_X10_about l) bd_X10_about ab_hcm ab_xk bz_X10_about
theorem bw_X10_machine : ec_cw yX10_machine cX10_machine 6 (some .int) := ⟨ec_in (i := 1351) (by decide +kernel) rfl, ec_in (i := 68) (by decide +kernel) rfl, by decide, by decide⟩
theorem bv_X10_machine : Cond.instanceMethod yX10_machine ∈ ec_tb ∧ Cond.selects yX10_machine.cls yX10_machine yX10_machine ∈ ec_tb := ⟨ec_in (i := 1349) (by decide +kernel) rfl, ec_in (i := 1350) (by decide +kernel) rfl⟩
def be_X10_machine : Nat → Option (Nat × Option Nat × List ab_C) := fun ix => match ix with
  | 171 => some (3, none, bc_X10_isIn)
  | 164 => some (2, some 10, bc_X10_isModule)
  | 160 => some (2, some 10, bc_X10_finding)
  | _ => none
theorem bk_X10_machine (l : Launch) : ∀ (ix n : Nat) (rc : Option Nat) (sp : ex_S), (be_X10_machine ix).map (fun q => (q.1, q.2.1, ab_sp ab_hd q.2.2)) = some (n, rc, sp) → ex_cok l RX10 1 22 ix n rc sp := by
  intro ix n rc sp h
  obtain ⟨l0, h2, rfl⟩ := ab_dmk h
  clear h
  unfold be_X10_machine at h2
  split at h2
  · cases h2; exact ec_cS (bm_X10_isIn l) bw_X10_isIn bv_X10_isIn (by decide) (by decide) (Or.inl (ec_in (i := 1303) (by decide +kernel) rfl)) (by decide +kernel)
  · cases h2; exact ec_cV (bm_X10_isModule l) bw_X10_isModule bv_X10_isModule (by decide) (by decide) (Or.inl (ec_in (i := 1291) (by decide +kernel) rfl)) (T := TX10) (N := 57) rfl (by decide) (by decide +kernel)
  · cases h2; exact ec_cV (bm_X10_finding l) bw_X10_finding bv_X10_finding (by decide) (by decide) (Or.inl (ec_in (i := 1282) (by decide +kernel) rfl)) (T := TX10) (N := 57) rfl (by decide) (by decide +kernel)
  · cases h2
def bx_X10_machine : ex_K := (RX10, ec_fx fl_X10, ec_cx cl_X10, sl_X10, (fun ix => (be_X10_machine ix).map (fun q => (q.1, q.2.1, ab_sp ab_hd q.2.2))), ec_nz, ec_no)
theorem bj_X10_machine (l : Launch) : ex_ok l 1 22 bx_X10_machine := ⟨ec_fok fo_X10, ec_cok co_X10, so_X10, bk_X10_machine l, fun _ h => (by cases h), fun _ h => (by cases h), fun _ h => (by cases h), fun _ _ h => (by cases h)⟩
def bq_X10_machine : List (ab_C × List ab_Q) := [(([.inl 76, .inr ((-2147483648), 2147483647), .inr ((-2147483648), 2147483647), .inr ((-2147483648), 2147483647), .inr ((-2147483648), 2147483647)], [], [(76, some 16), (90, none), (91, none), (92, none), (93, none), (94, none), (95, none), (97, none), (114, some 1), (114, some 4)], [(some ((-2147483648), 2147483647, none), [], [])]), [])]
def bc_X10_machine : List ab_C := bq_X10_machine.map (fun c => c.1)
def bi_X10_machine : List (Nat × Instr × Nat) := [(0, .iload_n 1, 1), (1, .iconst 0, 1), (2, .iconst 5, 1), (3, .invokestatic 171, 3), (6, .ifCond .eq 76, 3), (9, .aload_n 0, 1), (10, .iload_n 2, 1), (11, .invokevirtual 164, 3), (14, .ifCond .eq 68, 3), (17, .iload_n 3, 1), (18, .ifCond .lt 64, 3), (21, .iload_n 3, 1), (22, .ldc 176, 2), (24, .idiv, 1), (25, .iconst 0, 1), (26, .bipush 100, 2), (28, .invokestatic 171, 3), (31, .ifCond .eq 51, 3), (34, .iload_n 3, 1), (35, .sipush 1000, 3), (38, .idiv, 1), (39, .sipush 1000, 3), (42, .irem, 1), (43, .iconst 0, 1), (44, .bipush 100, 2), (46, .invokestatic 171, 3), (49, .ifCond .eq 33, 3), (52, .iload_n 3, 1), (53, .sipush 1000, 3), (56, .irem, 1), (57, .iconst 0, 1), (58, .bipush 100, 2), (60, .invokestatic 171, 3), (63, .ifCond .eq 19, 3), (66, .iload 4, 2), (68, .iconst 1, 1), (69, .sipush 1000, 3), (72, .invokestatic 171, 3), (75, .ifCond .eq 7, 3), (78, .iconst 1, 1), (79, .goto 4, 3), (82, .iconst 0, 1), (83, .istore 5, 2), (85, .iload 5, 2), (87, .ifCond .ne 9, 3), (90, .aload_n 0, 1), (91, .iconst 1, 1), (92, .invokevirtual 160, 3), (95, .ireturn, 1), (96, .aload_n 0, 1), (97, .getfield 157, 3), (100, .bipush 10, 2), (102, .if_icmp .ne 9, 3), (105, .aload_n 0, 1), (106, .iconst 4, 1), (107, .invokevirtual 160, 3), (110, .ireturn, 1), (111, .aload_n 0, 1), (112, .getfield 49, 3), (115, .aload_n 0, 1), (116, .getfield 157, 3), (119, .iload_n 1, 1), (120, .iastore, 1), (121, .aload_n 0, 1), (122, .getfield 52, 3), (125, .aload_n 0, 1), (126, .getfield 157, 3), (129, .iload_n 2, 1), (130, .iastore, 1), (131, .aload_n 0, 1), (132, .getfield 55, 3), (135, .aload_n 0, 1), (136, .getfield 157, 3), (139, .iload_n 3, 1), (140, .ldc 176, 2), (142, .idiv, 1), (143, .iastore, 1), (144, .aload_n 0, 1), (145, .getfield 58, 3), (148, .aload_n 0, 1), (149, .getfield 157, 3), (152, .iload_n 3, 1), (153, .sipush 1000, 3), (156, .idiv, 1), (157, .sipush 1000, 3), (160, .irem, 1), (161, .iastore, 1), (162, .aload_n 0, 1), (163, .getfield 61, 3), (166, .aload_n 0, 1), (167, .getfield 157, 3), (170, .iload_n 3, 1), (171, .sipush 1000, 3), (174, .irem, 1), (175, .iastore, 1), (176, .aload_n 0, 1), (177, .getfield 64, 3), (180, .aload_n 0, 1), (181, .getfield 157, 3), (184, .iload 4, 2), (186, .iastore, 1), (187, .aload_n 0, 1), (188, .getfield 70, 3), (191, .aload_n 0, 1), (192, .getfield 157, 3), (195, .iconst 1, 1), (196, .iastore, 1), (197, .aload_n 0, 1), (198, .dup, 1), (199, .getfield 157, 3), (202, .iconst 1, 1), (203, .iadd, 1), (204, .putfield 157, 3), (207, .aload_n 0, 1), (208, .getfield 157, 3), (211, .iconst 1, 1), (212, .isub, 1), (213, .ireturn, 1)]
theorem bd_X10_machine : ∀ q ∈ bi_X10_machine, decode cX10_machine q.1 = .ok q.2 := by decide +kernel
theorem bz_X10_machine : bq_X10_machine.all (ab_ck ab_hd ab_xs ab_tr bx_X10_machine be_X10_machine bi_X10_machine (some .int) 6 111) = true := by decide +kernel
theorem bm_X10_machine (l : Launch) : ex_Met l yX10_machine cX10_machine 6 (some .int) 1 22 (ab_sp ab_hd bc_X10_machine) := ab_met (by decide) (by decide) rfl (bj_X10_machine l) bd_X10_machine ab_hcm ab_xk bz_X10_machine
