def bq_X9_copy : List (ab_C × List ab_Q) := [(([.inl 8, .inl 37], [], [(37, none)], [(none, [], [])]), []),
  (([.inl 9, .inl 38], [], [(38, none)], [(none, [], [])]), []),
  (([.inl 10, .inl 39], [], [(39, none)], [(none, [], [])]), []),
  (([.inl 11, .inl 40], [], [(40, none)], [(none, [], [])]), []),
  (([.inl 13, .inl 42], [], [(42, none)], [(none, [], [])]), []),
  (([.inl 15, .inl 44], [], [(44, none)], [(none, [], [])]), []),
  (([.inl 16, .inl 45], [], [(45, none)], [(none, [], [])]), []),
  (([.inl 17, .inl 46], [], [(46, none)], [(none, [], [])]), []),
  (([.inl 18, .inl 47], [], [(47, none)], [(none, [], [])]), []),
  (([.inl 19, .inl 48], [], [(48, none)], [(none, [], [])]), []),
  (([.inl 20, .inl 49], [], [(49, none)], [(none, [], [])]), []),
  (([.inl 22, .inl 51], [], [(51, none)], [(none, [], [])]), []),
  (([.inl 23, .inl 52], [], [(52, none)], [(none, [], [])]), []),
  (([.inl 24, .inl 53], [], [(53, none)], [(none, [], [])]), []),
  (([.inl 25, .inl 54], [], [(54, none)], [(none, [], [])]), []),
  (([.inl 26, .inl 55], [], [(55, none)], [(none, [], [])]), []),
  (([.inl 27, .inl 56], [], [(56, none)], [(none, [], [])]), []),
  (([.inl 28, .inl 57], [], [(57, none)], [(none, [], [])]), []),
  (([.inl 32, .inl 61], [], [(61, none)], [(none, [], [])]), [])]
def bc_X9_copy : List ab_C := bq_X9_copy.map (fun c => c.1)
def bx_X9_copy : ex_K := (RX9, ec_fx fl_X9, ec_cx cl_X9, sl_X9, (fun ix => (ec_no ix).map (fun (q : Nat × Option Nat × List ab_C) => (q.1, q.2.1, ab_sp ab_hd q.2.2))), al_X9, ec_no)
def bi_X9_copy : List (Nat × Instr × Nat) := [(0, .aload_n 0, 1), (1, .iconst 0, 1), (2, .aload_n 1, 1), (3, .iconst 0, 1), (4, .aload_n 0, 1), (5, .arraylength, 1), (6, .aload_n 1, 1), (7, .arraylength, 1), (8, .invokestatic 277, 3), (11, .invokestatic 282, 3), (14, .return_, 1)]
def bq_X9_copyFlags : List (ab_C × List ab_Q) := [(([.inl 12, .inl 41], [], [(41, none)], [(none, [], [])]), [(2, [some (.inl 12), some (.inl 41), some (.inr (.inl (0, 8, none, none)))], [((1, 7, 6), 0, 6, some (8006, 0)), ((1, 14, 6), 0, 6, some (15006, 0)), ((1, 76, 0), 0, 6, some (77000, 0)), ((1, 76, 9), 0, 6, some (77009, 0))], 17, [0, 0, (-2)])]),
  (([.inl 29, .inl 58], [], [(58, none)], [(none, [], [])]), [(2, [some (.inl 29), some (.inl 58), some (.inr (.inl (0, 10, none, none)))], [((1, 7, 6), 0, 6, some (8006, 0)), ((1, 14, 6), 0, 6, some (15006, 0)), ((1, 76, 0), 0, 6, some (77000, 0)), ((1, 76, 9), 0, 6, some (77009, 0))], 21, [0, 0, (-2)])]),
  (([.inl 30, .inl 59], [], [(59, none)], [(none, [], [])]), [(2, [some (.inl 30), some (.inl 59), some (.inr (.inl (0, 10, none, none)))], [((1, 7, 6), 0, 6, some (8006, 0)), ((1, 14, 6), 0, 6, some (15006, 0)), ((1, 76, 0), 0, 6, some (77000, 0)), ((1, 76, 9), 0, 6, some (77009, 0))], 21, [0, 0, (-2)])]),
  (([.inl 31, .inl 60], [], [(60, none)], [(none, [], [])]), [(2, [some (.inl 31), some (.inl 60), some (.inr (.inl (0, 10, none, none)))], [((1, 7, 6), 0, 6, some (8006, 0)), ((1, 14, 6), 0, 6, some (15006, 0)), ((1, 76, 0), 0, 6, some (77000, 0)), ((1, 76, 9), 0, 6, some (77009, 0))], 21, [0, 0, (-2)])])]
def bc_X9_copyFlags : List ab_C := bq_X9_copyFlags.map (fun c => c.1)
def bx_X9_copyFlags : ex_K := (RX9, ec_fx fl_X9, ec_cx cl_X9, sl_X9, (fun ix => (ec_no ix).map (fun (q : Nat × Option Nat × List ab_C) => (q.1, q.2.1, ab_sp ab_hd q.2.2))), ec_nz, ec_no)
def bi_X9_copyFlags : List (Nat × Instr × Nat) := [(0, .iconst 0, 1), (1, .istore_n 2, 1), (2, .iload_n 2, 1), (3, .aload_n 0, 1), (4, .arraylength, 1), (5, .if_icmp .ge 21, 3), (8, .iload_n 2, 1), (9, .aload_n 1, 1), (10, .arraylength, 1), (11, .if_icmp .ge 15, 3), (14, .aload_n 1, 1), (15, .iload_n 2, 1), (16, .aload_n 0, 1), (17, .iload_n 2, 1), (18, .baload, 1), (19, .bastore, 1), (20, .iinc 2 1, 3), (23, .goto (-21), 3), (26, .return_, 1)]
def bq_X0_becomeLike : List (ab_C × List ab_Q) := [(([.inl 36, .inl 7], [], [(36, some 6), (36, some 7), (37, none), (38, none), (39, none), (40, none), (41, none), (42, none)], [(none, [], [])]), [])]
def bc_X0_becomeLike : List ab_C := bq_X0_becomeLike.map (fun c => c.1)
def be_X0_becomeLike : Nat → Option (Nat × Option Nat × List ab_C) := fun ix => match ix with
  | 31 => some (2, none, bc_X9_copy)
  | 35 => some (2, none, bc_X9_copyFlags)
  | _ => none
def bx_X0_becomeLike : ex_K := (RX0, ec_fx fl_X0, ec_cx cl_X0, sl_X0, (fun ix => (be_X0_becomeLike ix).map (fun q => (q.1, q.2.1, ab_sp ab_hd q.2.2))), ec_nz, ec_no)
def bi_X0_becomeLike : List (Nat × Instr × Nat) := [(0, .aload_n 1, 1), (1, .getfield 9, 3), (4, .aload_n 0, 1), (5, .getfield 9, 3), (8, .invokestatic 31, 3), (11, .aload_n 1, 1), (12, .getfield 15, 3), (15, .aload_n 0, 1), (16, .getfield 15, 3), (19, .invokestatic 31, 3), (22, .aload_n 1, 1), (23, .getfield 18, 3), (26, .aload_n 0, 1), (27, .getfield 18, 3), (30, .invokestatic 31, 3), (33, .aload_n 1, 1), (34, .getfield 21, 3), (37, .aload_n 0, 1), (38, .getfield 21, 3), (41, .invokestatic 31, 3), (44, .aload_n 1, 1), (45, .getfield 24, 3), (48, .aload_n 0, 1), (49, .getfield 24, 3), (52, .invokestatic 35, 3), (55, .aload_n 1, 1), (56, .getfield 28, 3), (59, .aload_n 0, 1), (60, .getfield 28, 3), (63, .invokestatic 31, 3), (66, .aload_n 0, 1), (67, .aload_n 1, 1), (68, .getfield 39, 3), (71, .putfield 39, 3), (74, .aload_n 0, 1), (75, .aload_n 1, 1), (76, .getfield 43, 3), (79, .putfield 43, 3), (82, .return_, 1)]
def bq_X0_isSort : List (ab_C × List ab_Q) := [(([.inr ((-2147483648), 2147483647)], [], [], [(some (0, 0, none), [], []), (some (1, 1, none), [((0, 0, 0), 0, 4, none)], [])]), [])]
def bc_X0_isSort : List ab_C := bq_X0_isSort.map (fun c => c.1)
def bx_X0_isSort : ex_K := (RX0, ec_fx fl_X0, ec_cx cl_X0, sl_X0, (fun ix => (ec_no ix).map (fun (q : Nat × Option Nat × List ab_C) => (q.1, q.2.1, ab_sp ab_hd q.2.2))), ec_nz, ec_no)
def bi_X0_isSort : List (Nat × Instr × Nat) := [(0, .iload_n 0, 1), (1, .ifCond .lt 12, 3), (4, .iload_n 0, 1), (5, .iconst 5, 1), (6, .if_icmp .ge 7, 3), (9, .iconst 1, 1), (10, .goto 4, 3), (13, .iconst 0, 1), (14, .ireturn, 1)]
def bq_X0_hasModule : List (ab_C × List ab_Q) := [(([.inl 7, .inr ((-2147483648), 2147483647)], [], [], [(some (1, 1, none), [((0, 1, 0), 0, 5, none), ((9, 1, 8006), (-4294967296), (-1), none), ((8, 8006, 0), 1, 6, none)], []), (some (0, 0, none), [((0, 1, 0), 0, 2147483647, none), ((9, 1, 8006), 0, 4294967296, none), ((8, 8006, 0), 0, 6, none)], []), (some (0, 0, none), [((0, 1, 0), (-2147483648), (-1), none)], [])]), []),
  (([.inl 36, .inr ((-2147483648), 2147483647)], [], [], [(some (1, 1, none), [((0, 1, 0), 0, 5, none)], []), (some (0, 0, none), [((0, 1, 0), 0, 2147483647, none)], []), (some (0, 0, none), [((0, 1, 0), (-2147483648), (-1), none)], [])]), [])]
def bc_X0_hasModule : List ab_C := bq_X0_hasModule.map (fun c => c.1)
def bx_X0_hasModule : ex_K := (RX0, ec_fx fl_X0, ec_cx cl_X0, sl_X0, (fun ix => (ec_no ix).map (fun (q : Nat × Option Nat × List ab_C) => (q.1, q.2.1, ab_sp ab_hd q.2.2))), ec_nz, ec_no)
def bi_X0_hasModule : List (Nat × Instr × Nat) := [(0, .iload_n 1, 1), (1, .ifCond .lt 15, 3), (4, .iload_n 1, 1), (5, .aload_n 0, 1), (6, .getfield 39, 3), (9, .if_icmp .ge 7, 3), (12, .iconst 1, 1), (13, .goto 4, 3), (16, .iconst 0, 1), (17, .ireturn, 1)]
def bq_X0_hasHatch : List (ab_C × List ab_Q) := [(([.inl 7, .inr ((-2147483648), 2147483647)], [], [], [(some (0, 0, none), [], []), (some (1, 1, none), [((0, 1, 0), 0, 7, none)], [])]), []),
  (([.inl 36, .inr ((-2147483648), 2147483647)], [], [], [(some (0, 0, none), [], []), (some (1, 1, none), [((0, 1, 0), 0, 7, none)], [])]), [])]
def bc_X0_hasHatch : List ab_C := bq_X0_hasHatch.map (fun c => c.1)
def bx_X0_hasHatch : ex_K := (RX0, ec_fx fl_X0, ec_cx cl_X0, sl_X0, (fun ix => (ec_no ix).map (fun (q : Nat × Option Nat × List ab_C) => (q.1, q.2.1, ab_sp ab_hd q.2.2))), ec_nz, ec_no)
def bi_X0_hasHatch : List (Nat × Instr × Nat) := [(0, .iload_n 1, 1), (1, .ifCond .lt 15, 3), (4, .iload_n 1, 1), (5, .aload_n 0, 1), (6, .getfield 43, 3), (9, .if_icmp .ge 7, 3), (12, .iconst 1, 1), (13, .goto 4, 3), (16, .iconst 0, 1), (17, .ireturn, 1)]
def bq_X0_addModule : List (ab_C × List ab_Q) := [(([.inl 7], [], [(7, some 6)], [(some ((-1000000004), (-1000000004), none), [((8, 8006, 0), 6, 6, none)], [((1, 7, 6), 6, 6, some (8006, 0))]), (some (0, 5, some (8006, 0)), [((8, 8006, 0), 0, 5, none)], [((1, 7, 6), 1, 6, some (8006, 1))])]), [])]
def bc_X0_addModule : List ab_C := bq_X0_addModule.map (fun c => c.1)
def bx_X0_addModule : ex_K := (RX0, ec_fx fl_X0, ec_cx cl_X0, sl_X0, (fun ix => (ec_no ix).map (fun (q : Nat × Option Nat × List ab_C) => (q.1, q.2.1, ab_sp ab_hd q.2.2))), ec_nz, ec_no)
def bi_X0_addModule : List (Nat × Instr × Nat) := [(0, .aload_n 0, 1), (1, .getfield 39, 3), (4, .bipush 6, 2), (6, .if_icmp .lt 6, 3), (9, .ldc 46, 2), (11, .ireturn, 1), (12, .aload_n 0, 1), (13, .dup, 1), (14, .getfield 39, 3), (17, .iconst 1, 1), (18, .iadd, 1), (19, .putfield 39, 3), (22, .aload_n 0, 1), (23, .getfield 39, 3), (26, .iconst 1, 1), (27, .isub, 1), (28, .ireturn, 1)]
def bq_X0_addHatch : List (ab_C × List ab_Q) := [(([.inl 7, .inr ((-2147483648), 2147483647), .inr ((-2147483648), 2147483647)], [], [(7, some 7), (10, none), (11, none), (12, none)], [(some ((-2147483648), 2147483647, none), [], [])]), [])]
def bc_X0_addHatch : List ab_C := bq_X0_addHatch.map (fun c => c.1)
def be_X0_addHatch : Nat → Option (Nat × Option Nat × List ab_C) := fun ix => match ix with
  | 47 => some (2, some 0, bc_X0_hasModule)
  | _ => none
def bx_X0_addHatch : ex_K := (RX0, ec_fx fl_X0, ec_cx cl_X0, sl_X0, (fun ix => (be_X0_addHatch ix).map (fun q => (q.1, q.2.1, ab_sp ab_hd q.2.2))), ec_nz, ec_no)
def bi_X0_addHatch : List (Nat × Instr × Nat) := [(0, .aload_n 0, 1), (1, .iload_n 1, 1), (2, .invokevirtual 47, 3), (5, .ifCond .eq 16, 3), (8, .aload_n 0, 1), (9, .iload_n 2, 1), (10, .invokevirtual 47, 3), (13, .ifCond .eq 8, 3), (16, .iload_n 1, 1), (17, .iload_n 2, 1), (18, .if_icmp .ne 6, 3), (21, .ldc 51, 2), (23, .ireturn, 1), (24, .aload_n 0, 1), (25, .getfield 43, 3), (28, .bipush 8, 2), (30, .if_icmp .lt 6, 3), (33, .ldc 46, 2), (35, .ireturn, 1), (36, .aload_n 0, 1), (37, .getfield 18, 3), (40, .aload_n 0, 1), (41, .getfield 43, 3), (44, .iload_n 1, 1), (45, .iastore, 1), (46, .aload_n 0, 1), (47, .getfield 21, 3), (50, .aload_n 0, 1), (51, .getfield 43, 3), (54, .iload_n 2, 1), (55, .iastore, 1), (56, .aload_n 0, 1), (57, .getfield 24, 3), (60, .aload_n 0, 1), (61, .getfield 43, 3), (64, .iconst 1, 1), (65, .bastore, 1), (66, .aload_n 0, 1), (67, .dup, 1), (68, .getfield 43, 3), (71, .iconst 1, 1), (72, .iadd, 1), (73, .putfield 43, 3), (76, .aload_n 0, 1), (77, .getfield 43, 3), (80, .iconst 1, 1), (81, .isub, 1), (82, .ireturn, 1)]
def bq_X9_isSwitch : List (ab_C × List ab_Q) := [(([.inr ((-2147483648), 2147483647)], [], [], [(some (0, 0, none), [], []), (some (1, 1, none), [((0, 0, 0), 0, 1, none)], [])]), [])]
def bc_X9_isSwitch : List ab_C := bq_X9_isSwitch.map (fun c => c.1)
def bx_X9_isSwitch : ex_K := (RX9, ec_fx fl_X9, ec_cx cl_X9, sl_X9, (fun ix => (ec_no ix).map (fun (q : Nat × Option Nat × List ab_C) => (q.1, q.2.1, ab_sp ab_hd q.2.2))), ec_nz, ec_no)
def bi_X9_isSwitch : List (Nat × Instr × Nat) := [(0, .iload_n 0, 1), (1, .ifCond .eq 8, 3), (4, .iload_n 0, 1), (5, .iconst 1, 1), (6, .if_icmp .ne 7, 3), (9, .iconst 1, 1), (10, .goto 4, 3), (13, .iconst 0, 1), (14, .ireturn, 1)]
def bq_X9_one : List (ab_C × List ab_Q) := [(([.inr (0, 1)], [], [], [(some ((-2147483648), 2147483647, none), [], [])]), [])]
def bc_X9_one : List ab_C := bq_X9_one.map (fun c => c.1)
def bx_X9_one : ex_K := (RX9, ec_fx fl_X9, ec_cx cl_X9, sl_X9, (fun ix => (ec_no ix).map (fun (q : Nat × Option Nat × List ab_C) => (q.1, q.2.1, ab_sp ab_hd q.2.2))), ec_nz, ec_no)
def bi_X9_one : List (Nat × Instr × Nat) := [(0, .iload_n 0, 1), (1, .ifCond .eq 7, 3), (4, .iconst 1, 1), (5, .goto 4, 3), (8, .iconst 0, 1), (9, .ireturn, 1)]
def bq_X0_setOpen : List (ab_C × List ab_Q) := [(([.inl 7, .inr ((-2147483648), 2147483647), .inr ((-2147483648), 2147483647)], [], [(12, none)], [(some ((-2147483648), 2147483647, none), [], [])]), []),
  (([.inl 36, .inr ((-2147483648), 2147483647), .inr (0, 1)], [], [(41, none)], [(some ((-2147483648), 2147483647, none), [], [])]), [])]
def bc_X0_setOpen : List ab_C := bq_X0_setOpen.map (fun c => c.1)
def be_X0_setOpen : Nat → Option (Nat × Option Nat × List ab_C) := fun ix => match ix with
  | 52 => some (2, some 0, bc_X0_hasHatch)
  | 55 => some (1, none, bc_X9_isSwitch)
  | 58 => some (1, none, bc_X9_one)
  | _ => none
def bx_X0_setOpen : ex_K := (RX0, ec_fx fl_X0, ec_cx cl_X0, sl_X0, (fun ix => (be_X0_setOpen ix).map (fun q => (q.1, q.2.1, ab_sp ab_hd q.2.2))), ec_nz, ec_no)
def bi_X0_setOpen : List (Nat × Instr × Nat) := [(0, .aload_n 0, 1), (1, .iload_n 1, 1), (2, .invokevirtual 52, 3), (5, .ifCond .eq 10, 3), (8, .iload_n 2, 1), (9, .invokestatic 55, 3), (12, .ifCond .ne 6, 3), (15, .ldc 51, 2), (17, .ireturn, 1), (18, .aload_n 0, 1), (19, .getfield 24, 3), (22, .iload_n 1, 1), (23, .baload, 1), (24, .invokestatic 58, 3), (27, .istore_n 3, 1), (28, .aload_n 0, 1), (29, .getfield 24, 3), (32, .iload_n 1, 1), (33, .iload_n 2, 1), (34, .iconst 1, 1), (35, .if_icmp .ne 7, 3), (38, .iconst 1, 1), (39, .goto 4, 3), (42, .iconst 0, 1), (43, .bastore, 1), (44, .iload_n 3, 1), (45, .ireturn, 1)]
def bq_X0_setHeld : List (ab_C × List ab_Q) := [(([.inl 7, .inr ((-2147483648), 2147483647), .inr ((-2147483648), 2147483647), .inr ((-2147483648), 2147483647)], [], [(8, none)], [(some ((-2147483648), 2147483647, none), [], [])]), [])]
def bc_X0_setHeld : List ab_C := bq_X0_setHeld.map (fun c => c.1)
def be_X0_setHeld : Nat → Option (Nat × Option Nat × List ab_C) := fun ix => match ix with
  | 47 => some (2, some 0, bc_X0_hasModule)
  | 62 => some (1, none, bc_X0_isSort)
  | _ => none
def bx_X0_setHeld : ex_K := (RX0, ec_fx fl_X0, ec_cx cl_X0, sl_X0, (fun ix => (be_X0_setHeld ix).map (fun q => (q.1, q.2.1, ab_sp ab_hd q.2.2))), ec_nz, ec_no)
def bi_X0_setHeld : List (Nat × Instr × Nat) := [(0, .aload_n 0, 1), (1, .iload_n 1, 1), (2, .invokevirtual 47, 3), (5, .ifCond .eq 21, 3), (8, .iload_n 2, 1), (9, .invokestatic 62, 3), (12, .ifCond .eq 14, 3), (15, .iload_n 3, 1), (16, .iconst (-1), 1), (17, .if_icmp .lt 9, 3), (20, .iload_n 3, 1), (21, .ldc 65, 2), (23, .if_icmp .le 6, 3), (26, .ldc 51, 2), (28, .ireturn, 1), (29, .aload_n 0, 1), (30, .getfield 9, 3), (33, .iload_n 1, 1), (34, .iconst 5, 1), (35, .imul, 1), (36, .iload_n 2, 1), (37, .iadd, 1), (38, .iaload, 1), (39, .istore 4, 2), (41, .iload_n 3, 1), (42, .iconst (-1), 1), (43, .if_icmp .eq 14, 3), (46, .aload_n 0, 1), (47, .getfield 9, 3), (50, .iload_n 1, 1), (51, .iconst 5, 1), (52, .imul, 1), (53, .iload_n 2, 1), (54, .iadd, 1), (55, .iload_n 3, 1), (56, .iastore, 1), (57, .iload 4, 2), (59, .ireturn, 1)]
def bq_X0_setLeak : List (ab_C × List ab_Q) := [(([.inl 7, .inr ((-2147483648), 2147483647), .inr ((-2147483648), 2147483647)], [], [(9, none)], [(some ((-2147483648), 2147483647, none), [], [])]), [])]
def bc_X0_setLeak : List ab_C := bq_X0_setLeak.map (fun c => c.1)
def be_X0_setLeak : Nat → Option (Nat × Option Nat × List ab_C) := fun ix => match ix with
  | 47 => some (2, some 0, bc_X0_hasModule)
  | _ => none
def bx_X0_setLeak : ex_K := (RX0, ec_fx fl_X0, ec_cx cl_X0, sl_X0, (fun ix => (be_X0_setLeak ix).map (fun q => (q.1, q.2.1, ab_sp ab_hd q.2.2))), ec_nz, ec_no)
def bi_X0_setLeak : List (Nat × Instr × Nat) := [(0, .aload_n 0, 1), (1, .iload_n 1, 1), (2, .invokevirtual 47, 3), (5, .ifCond .eq 13, 3), (8, .iload_n 2, 1), (9, .ifCond .lt 9, 3), (12, .iload_n 2, 1), (13, .bipush 50, 2), (15, .if_icmp .le 6, 3), (18, .ldc 51, 2), (20, .ireturn, 1), (21, .aload_n 0, 1), (22, .getfield 15, 3), (25, .iload_n 1, 1), (26, .iaload, 1), (27, .istore_n 3, 1), (28, .aload_n 0, 1), (29, .getfield 15, 3), (32, .iload_n 1, 1), (33, .iload_n 2, 1), (34, .iastore, 1), (35, .iload_n 3, 1), (36, .ireturn, 1)]
def bq_X0_setStored : List (ab_C × List ab_Q) := [(([.inl 7, .inr ((-2147483648), 2147483647), .inr ((-2147483648), 2147483647)], [], [(13, none)], [(some ((-2147483648), 2147483647, none), [], [])]), [])]
def bc_X0_setStored : List ab_C := bq_X0_setStored.map (fun c => c.1)
def bx_X0_setStored : ex_K := (RX0, ec_fx fl_X0, ec_cx cl_X0, sl_X0, (fun ix => (ec_no ix).map (fun (q : Nat × Option Nat × List ab_C) => (q.1, q.2.1, ab_sp ab_hd q.2.2))), ec_nz, ec_no)
def bi_X0_setStored : List (Nat × Instr × Nat) := [(0, .iload_n 1, 1), (1, .ifCond .lt 20, 3), (4, .iload_n 1, 1), (5, .bipush 6, 2), (7, .if_icmp .ge 14, 3), (10, .iload_n 2, 1), (11, .iconst (-1), 1), (12, .if_icmp .lt 9, 3), (15, .iload_n 2, 1), (16, .ldc 66, 2), (18, .if_icmp .le 6, 3), (21, .ldc 51, 2), (23, .ireturn, 1), (24, .aload_n 0, 1), (25, .getfield 28, 3), (28, .iload_n 1, 1), (29, .iaload, 1), (30, .istore_n 3, 1), (31, .iload_n 2, 1), (32, .iconst (-1), 1), (33, .if_icmp .eq 10, 3), (36, .aload_n 0, 1), (37, .getfield 28, 3), (40, .iload_n 1, 1), (41, .iload_n 2, 1), (42, .iastore, 1), (43, .iload_n 3, 1), (44, .ireturn, 1)]
def bq_X0_allGrams : List (ab_C × List ab_Q) := [(([.inl 7], [], [], [(some ((-2147483648), 2147483647, none), [], [])]), [(9, [some (.inl 7), some (.inr (.inl ((-2147483648), 2147483647, none, none))), some (.inr (.inl (0, 4, none, none))), none], [((1, 7, 6), 0, 6, some (8006, 0)), ((1, 14, 6), 0, 6, some (15006, 0)), ((1, 76, 0), 0, 6, some (77000, 0)), ((1, 76, 9), 0, 6, some (77009, 0))], 93, [0, 0, (-2), 0]), (31, [some (.inl 7), some (.inr (.inl ((-2147483648), 2147483647, none, none))), some (.inr (.inl (0, 6, none, none))), none], [((1, 7, 6), 0, 6, some (8006, 0)), ((1, 14, 6), 0, 6, some (15006, 0)), ((1, 76, 0), 0, 6, some (77000, 0)), ((1, 76, 9), 0, 6, some (77009, 0))], 83, [0, 0, (-12), 0]), (41, [some (.inl 7), some (.inr (.inl ((-2147483648), 2147483647, none, none))), some (.inr (.inl (0, 5, none, none))), some (.inr (.inl (0, 4, none, none)))], [((1, 7, 6), 1, 6, some (8006, 0)), ((1, 14, 6), 0, 6, some (15006, 0)), ((1, 76, 0), 0, 6, some (77000, 0)), ((1, 76, 9), 0, 6, some (77009, 0))], 81, [0, 0, (-12), (-2)])])]
def bc_X0_allGrams : List ab_C := bq_X0_allGrams.map (fun c => c.1)
def bx_X0_allGrams : ex_K := (RX0, ec_fx fl_X0, ec_cx cl_X0, sl_X0, (fun ix => (ec_no ix).map (fun (q : Nat × Option Nat × List ab_C) => (q.1, q.2.1, ab_sp ab_hd q.2.2))), ec_nz, ec_no)
def bi_X0_allGrams : List (Nat × Instr × Nat) := [(0, .aload_n 0, 1), (1, .getfield 28, 3), (4, .iconst 4, 1), (5, .iaload, 1), (6, .istore_n 1, 1), (7, .iconst 0, 1), (8, .istore_n 2, 1), (9, .iload_n 2, 1), (10, .iconst 4, 1), (11, .if_icmp .ge 18, 3), (14, .iload_n 1, 1), (15, .aload_n 0, 1), (16, .getfield 28, 3), (19, .iload_n 2, 1), (20, .iaload, 1), (21, .iadd, 1), (22, .istore_n 1, 1), (23, .iinc 2 1, 3), (26, .goto (-17), 3), (29, .iconst 0, 1), (30, .istore_n 2, 1), (31, .iload_n 2, 1), (32, .aload_n 0, 1), (33, .getfield 39, 3), (36, .if_icmp .ge 35, 3), (39, .iconst 0, 1), (40, .istore_n 3, 1), (41, .iload_n 3, 1), (42, .iconst 4, 1), (43, .if_icmp .ge 22, 3), (46, .iload_n 1, 1), (47, .aload_n 0, 1), (48, .getfield 9, 3), (51, .iload_n 2, 1), (52, .iconst 5, 1), (53, .imul, 1), (54, .iload_n 3, 1), (55, .iadd, 1), (56, .iaload, 1), (57, .iadd, 1), (58, .istore_n 1, 1), (59, .iinc 3 1, 3), (62, .goto (-21), 3), (65, .iinc 2 1, 3), (68, .goto (-37), 3), (71, .iload_n 1, 1), (72, .ireturn, 1)]
def bq_X0_amount : List (ab_C × List ab_Q) := [(([.inl 7, .inr (0, 5), .inr (0, 4)], [], [], [(some ((-2147483648), 2147483647, none), [], [])]), []),
  (([.inl 36, .inr (0, 5), .inr (0, 4)], [], [], [(some ((-2147483648), 2147483647, none), [], [])]), [])]
def bc_X0_amount : List ab_C := bq_X0_amount.map (fun c => c.1)
def bx_X0_amount : ex_K := (RX0, ec_fx fl_X0, ec_cx cl_X0, sl_X0, (fun ix => (ec_no ix).map (fun (q : Nat × Option Nat × List ab_C) => (q.1, q.2.1, ab_sp ab_hd q.2.2))), ec_nz, ec_no)
def bi_X0_amount : List (Nat × Instr × Nat) := [(0, .aload_n 0, 1), (1, .getfield 9, 3), (4, .iload_n 1, 1), (5, .iconst 5, 1), (6, .imul, 1), (7, .iload_n 2, 1), (8, .iadd, 1), (9, .iaload, 1), (10, .ireturn, 1)]
def bq_X0_give : List (ab_C × List ab_Q) := [(([.inl 7, .inr (0, 5), .inr (0, 4), .inr ((-2147483648), 2147483647)], [], [(8, none)], [(none, [], [])]), []),
  (([.inl 36, .inr (0, 5), .inr (0, 4), .inr ((-2147483648), 2147483647)], [], [(37, none)], [(none, [], [])]), [])]
def bc_X0_give : List ab_C := bq_X0_give.map (fun c => c.1)
def bx_X0_give : ex_K := (RX0, ec_fx fl_X0, ec_cx cl_X0, sl_X0, (fun ix => (ec_no ix).map (fun (q : Nat × Option Nat × List ab_C) => (q.1, q.2.1, ab_sp ab_hd q.2.2))), ec_nz, ec_no)
def bi_X0_give : List (Nat × Instr × Nat) := [(0, .aload_n 0, 1), (1, .getfield 9, 3), (4, .iload_n 1, 1), (5, .iconst 5, 1), (6, .imul, 1), (7, .iload_n 2, 1), (8, .iadd, 1), (9, .dup2, 1), (10, .iaload, 1), (11, .iload_n 3, 1), (12, .iadd, 1), (13, .iastore, 1), (14, .return_, 1)]
def bq_X0_take : List (ab_C × List ab_Q) := [(([.inl 7, .inr (0, 5), .inr (0, 4), .inr ((-2147483648), 2147483647)], [], [(8, none)], [(some ((-2147483648), 2147483647, none), [], [])]), []),
  (([.inl 36, .inr (0, 5), .inr (0, 4), .inr ((-2147483648), 2147483647)], [], [(37, none)], [(some ((-2147483648), 2147483647, none), [], [])]), [])]
def bc_X0_take : List ab_C := bq_X0_take.map (fun c => c.1)
def bx_X0_take : ex_K := (RX0, ec_fx fl_X0, ec_cx cl_X0, sl_X0, (fun ix => (ec_no ix).map (fun (q : Nat × Option Nat × List ab_C) => (q.1, q.2.1, ab_sp ab_hd q.2.2))), al_X0, ec_no)
def bi_X0_take : List (Nat × Instr × Nat) := [(0, .iload_n 3, 1), (1, .aload_n 0, 1), (2, .getfield 9, 3), (5, .iload_n 1, 1), (6, .iconst 5, 1), (7, .imul, 1), (8, .iload_n 2, 1), (9, .iadd, 1), (10, .iaload, 1), (11, .invokestatic 67, 3), (14, .istore 4, 2), (16, .aload_n 0, 1), (17, .getfield 9, 3), (20, .iload_n 1, 1), (21, .iconst 5, 1), (22, .imul, 1), (23, .iload_n 2, 1), (24, .iadd, 1), (25, .dup2, 1), (26, .iaload, 1), (27, .iload 4, 2), (29, .isub, 1), (30, .iastore, 1), (31, .iload 4, 2), (33, .ireturn, 1)]
def bq_X0_fill : List (ab_C × List ab_Q) := [(([.inl 7, .inr (0, 5), .inr ((-2147483648), 2147483647)], [], [(13, none)], [(none, [], [])]), []),
  (([.inl 36, .inr (0, 5), .inr ((-2147483648), 2147483647)], [], [(42, none)], [(none, [], [])]), [])]
def bc_X0_fill : List ab_C := bq_X0_fill.map (fun c => c.1)
def bx_X0_fill : ex_K := (RX0, ec_fx fl_X0, ec_cx cl_X0, sl_X0, (fun ix => (ec_no ix).map (fun (q : Nat × Option Nat × List ab_C) => (q.1, q.2.1, ab_sp ab_hd q.2.2))), ec_nz, ec_no)
def bi_X0_fill : List (Nat × Instr × Nat) := [(0, .aload_n 0, 1), (1, .getfield 28, 3), (4, .iload_n 1, 1), (5, .dup2, 1), (6, .iaload, 1), (7, .iload_n 2, 1), (8, .iadd, 1), (9, .iastore, 1), (10, .return_, 1)]
def bq_X0_draw : List (ab_C × List ab_Q) := [(([.inl 7, .inr (0, 1), .inr ((-2147483648), 2147483647)], [], [(13, none)], [(some ((-2147483648), 2147483647, none), [], [])]), []),
  (([.inl 36, .inr (0, 1), .inr ((-2147483648), 2147483647)], [], [(42, none)], [(some ((-2147483648), 2147483647, none), [], [])]), [])]
def bc_X0_draw : List ab_C := bq_X0_draw.map (fun c => c.1)
def bx_X0_draw : ex_K := (RX0, ec_fx fl_X0, ec_cx cl_X0, sl_X0, (fun ix => (ec_no ix).map (fun (q : Nat × Option Nat × List ab_C) => (q.1, q.2.1, ab_sp ab_hd q.2.2))), al_X0, ec_no)
def bi_X0_draw : List (Nat × Instr × Nat) := [(0, .iload_n 2, 1), (1, .aload_n 0, 1), (2, .getfield 28, 3), (5, .iload_n 1, 1), (6, .iaload, 1), (7, .invokestatic 67, 3), (10, .istore_n 3, 1), (11, .aload_n 0, 1), (12, .getfield 28, 3), (15, .iload_n 1, 1), (16, .dup2, 1), (17, .iaload, 1), (18, .iload_n 3, 1), (19, .isub, 1), (20, .iastore, 1), (21, .iload_n 3, 1), (22, .ireturn, 1)]
def bq_X0_openBetween : List (ab_C × List ab_Q) := [(([.inl 7, .inr (0, 5), .inr (0, 5)], [], [], [(some (0, 1, none), [], [])]), [(2, [some (.inl 7), some (.inr (.inl (0, 5, none, none))), some (.inr (.inl (0, 5, none, none))), some (.inr (.inl (0, 8, none, none))), none], [((1, 7, 6), 0, 6, some (8006, 0)), ((1, 14, 6), 0, 6, some (15006, 0)), ((1, 76, 0), 0, 6, some (77000, 0)), ((1, 76, 9), 0, 6, some (77009, 0))], 17, [0, 0, 0, (-2), 0])]),
  (([.inl 36, .inr (0, 5), .inr (0, 5)], [], [], [(some (0, 1, none), [], [])]), [(2, [some (.inl 36), some (.inr (.inl (0, 5, none, none))), some (.inr (.inl (0, 5, none, none))), some (.inr (.inl (0, 8, none, none))), none], [((1, 7, 6), 0, 6, some (8006, 0)), ((1, 14, 6), 0, 6, some (15006, 0)), ((1, 76, 0), 0, 6, some (77000, 0)), ((1, 76, 9), 0, 6, some (77009, 0))], 17, [0, 0, 0, (-2), 0])])]
def bc_X0_openBetween : List ab_C := bq_X0_openBetween.map (fun c => c.1)
def bx_X0_openBetween : ex_K := (RX0, ec_fx fl_X0, ec_cx cl_X0, sl_X0, (fun ix => (ec_no ix).map (fun (q : Nat × Option Nat × List ab_C) => (q.1, q.2.1, ab_sp ab_hd q.2.2))), ec_nz, ec_no)
def bi_X0_openBetween : List (Nat × Instr × Nat) := [(0, .iconst 0, 1), (1, .istore_n 3, 1), (2, .iload_n 3, 1), (3, .aload_n 0, 1), (4, .getfield 43, 3), (7, .if_icmp .ge 72, 3), (10, .aload_n 0, 1), (11, .getfield 18, 3), (14, .iload_n 3, 1), (15, .iaload, 1), (16, .iload_n 1, 1), (17, .if_icmp .ne 13, 3), (20, .aload_n 0, 1), (21, .getfield 21, 3), (24, .iload_n 3, 1), (25, .iaload, 1), (26, .iload_n 2, 1), (27, .if_icmp .eq 23, 3), (30, .aload_n 0, 1), (31, .getfield 18, 3), (34, .iload_n 3, 1), (35, .iaload, 1), (36, .iload_n 2, 1), (37, .if_icmp .ne 17, 3), (40, .aload_n 0, 1), (41, .getfield 21, 3), (44, .iload_n 3, 1), (45, .iaload, 1), (46, .iload_n 1, 1), (47, .if_icmp .ne 7, 3), (50, .iconst 1, 1), (51, .goto 4, 3), (54, .iconst 0, 1), (55, .istore 4, 2), (57, .iload 4, 2), (59, .ifCond .eq 14, 3), (62, .aload_n 0, 1), (63, .getfield 24, 3), (66, .iload_n 3, 1), (67, .baload, 1), (68, .ifCond .eq 5, 3), (71, .iconst 1, 1), (72, .ireturn, 1), (73, .iinc 3 1, 3), (76, .goto (-74), 3), (79, .iconst 0, 1), (80, .ireturn, 1)]
def bq_X0_leakOut : List (ab_C × List ab_Q) := [(([.inl 7], [], [(8, none), (13, none)], [(none, [], [])]), [(2, [some (.inl 7), some (.inr (.inl (0, 6, none, none))), none, none], [((1, 7, 6), 0, 6, some (8006, 0)), ((1, 14, 6), 0, 6, some (15006, 0)), ((1, 76, 0), 0, 6, some (77000, 0)), ((1, 76, 9), 0, 6, some (77009, 0))], 83, [0, (-12), 0, 0]), (12, [some (.inl 7), some (.inr (.inl (0, 5, none, none))), some (.inr (.inl (0, 4, none, none))), none], [((1, 7, 6), 1, 6, some (8006, 0)), ((1, 14, 6), 0, 6, some (15006, 0)), ((1, 76, 0), 0, 6, some (77000, 0)), ((1, 76, 9), 0, 6, some (77009, 0))], 81, [0, (-12), (-2), 0])]),
  (([.inl 36], [], [(37, none), (42, none)], [(none, [], [])]), [(2, [some (.inl 36), some (.inr (.inl (0, 6, none, none))), none, none], [((1, 7, 6), 0, 6, some (8006, 0)), ((1, 14, 6), 0, 6, some (15006, 0)), ((1, 76, 0), 0, 6, some (77000, 0)), ((1, 76, 9), 0, 6, some (77009, 0))], 83, [0, (-12), 0, 0]), (12, [some (.inl 36), some (.inr (.inl (0, 5, none, none))), some (.inr (.inl (0, 4, none, none))), none], [((1, 7, 6), 0, 6, some (8006, 0)), ((1, 14, 6), 0, 6, some (15006, 0)), ((1, 76, 0), 0, 6, some (77000, 0)), ((1, 76, 9), 0, 6, some (77009, 0))], 81, [0, (-12), (-2), 0])])]
def bc_X0_leakOut : List ab_C := bq_X0_leakOut.map (fun c => c.1)
def be_X0_leakOut : Nat → Option (Nat × Option Nat × List ab_C) := fun ix => match ix with
  | 73 => some (3, some 0, bc_X0_amount)
  | 76 => some (4, some 0, bc_X0_give)
  | 80 => some (3, some 0, bc_X0_fill)
  | _ => none
def bx_X0_leakOut : ex_K := (RX0, ec_fx fl_X0, ec_cx cl_X0, sl_X0, (fun ix => (be_X0_leakOut ix).map (fun q => (q.1, q.2.1, ab_sp ab_hd q.2.2))), ec_nz, ec_no)
def bi_X0_leakOut : List (Nat × Instr × Nat) := [(0, .iconst 0, 1), (1, .istore_n 1, 1), (2, .iload_n 1, 1), (3, .aload_n 0, 1), (4, .getfield 39, 3), (7, .if_icmp .ge 54, 3), (10, .iconst 0, 1), (11, .istore_n 2, 1), (12, .iload_n 2, 1), (13, .iconst 4, 1), (14, .if_icmp .ge 41, 3), (17, .aload_n 0, 1), (18, .iload_n 1, 1), (19, .iload_n 2, 1), (20, .invokevirtual 73, 3), (23, .aload_n 0, 1), (24, .getfield 15, 3), (27, .iload_n 1, 1), (28, .iaload, 1), (29, .imul, 1), (30, .sipush 1000, 3), (33, .idiv, 1), (34, .istore_n 3, 1), (35, .aload_n 0, 1), (36, .iload_n 1, 1), (37, .iload_n 2, 1), (38, .iload_n 3, 1), (39, .ineg, 1), (40, .invokevirtual 76, 3), (43, .aload_n 0, 1), (44, .iconst 4, 1), (45, .iload_n 3, 1), (46, .invokevirtual 80, 3), (49, .iinc 2 1, 3), (52, .goto (-40), 3), (55, .iinc 1 1, 3), (58, .goto (-56), 3), (61, .return_, 1)]
def bq_X0_mix : List (ab_C × List ab_Q) := [(([.inl 7, .inr (0, 5), .inr (0, 5)], [], [(8, none)], [(none, [], [])]), [(2, [some (.inl 7), some (.inr (.inl (0, 5, none, none))), some (.inr (.inl (0, 5, none, none))), some (.inr (.inl (0, 5, none, none))), none], [((1, 7, 6), 0, 6, some (8006, 0)), ((1, 14, 6), 0, 6, some (15006, 0)), ((1, 76, 0), 0, 6, some (77000, 0)), ((1, 76, 9), 0, 6, some (77009, 0))], 11, [0, 0, 0, (-2), 0])]),
  (([.inl 36, .inr (0, 5), .inr (0, 5)], [], [(37, none)], [(none, [], [])]), [(2, [some (.inl 36), some (.inr (.inl (0, 5, none, none))), some (.inr (.inl (0, 5, none, none))), some (.inr (.inl (0, 5, none, none))), none], [((1, 7, 6), 0, 6, some (8006, 0)), ((1, 14, 6), 0, 6, some (15006, 0)), ((1, 76, 0), 0, 6, some (77000, 0)), ((1, 76, 9), 0, 6, some (77009, 0))], 11, [0, 0, 0, (-2), 0])])]
def bc_X0_mix : List ab_C := bq_X0_mix.map (fun c => c.1)
def be_X0_mix : Nat → Option (Nat × Option Nat × List ab_C) := fun ix => match ix with
  | 73 => some (3, some 0, bc_X0_amount)
  | 76 => some (4, some 0, bc_X0_give)
  | _ => none
def bx_X0_mix : ex_K := (RX0, ec_fx fl_X0, ec_cx cl_X0, sl_X0, (fun ix => (be_X0_mix ix).map (fun q => (q.1, q.2.1, ab_sp ab_hd q.2.2))), ec_nz, ec_no)
def bi_X0_mix : List (Nat × Instr × Nat) := [(0, .iconst 0, 1), (1, .istore_n 3, 1), (2, .iload_n 3, 1), (3, .iconst 5, 1), (4, .if_icmp .ge 43, 3), (7, .aload_n 0, 1), (8, .iload_n 1, 1), (9, .iload_n 3, 1), (10, .invokevirtual 73, 3), (13, .aload_n 0, 1), (14, .iload_n 2, 1), (15, .iload_n 3, 1), (16, .invokevirtual 73, 3), (19, .isub, 1), (20, .iconst 4, 1), (21, .idiv, 1), (22, .istore 4, 2), (24, .aload_n 0, 1), (25, .iload_n 1, 1), (26, .iload_n 3, 1), (27, .iload 4, 2), (29, .ineg, 1), (30, .invokevirtual 76, 3), (33, .aload_n 0, 1), (34, .iload_n 2, 1), (35, .iload_n 3, 1), (36, .iload 4, 2), (38, .invokevirtual 76, 3), (41, .iinc 3 1, 3), (44, .goto (-42), 3), (47, .return_, 1)]
def bq_X0_mixThroughHatches : List (ab_C × List ab_Q) := [(([.inl 7], [], [(8, none)], [(none, [], [])]), [(2, [some (.inl 7), some (.inr (.inl (0, 8, none, none)))], [((1, 7, 6), 0, 6, some (8006, 0)), ((1, 14, 6), 0, 6, some (15006, 0)), ((1, 76, 0), 0, 6, some (77000, 0)), ((1, 76, 9), 0, 6, some (77009, 0))], 17, [0, (-2)])]),
  (([.inl 36], [], [(37, none)], [(none, [], [])]), [(2, [some (.inl 36), some (.inr (.inl (0, 8, none, none)))], [((1, 7, 6), 0, 6, some (8006, 0)), ((1, 14, 6), 0, 6, some (15006, 0)), ((1, 76, 0), 0, 6, some (77000, 0)), ((1, 76, 9), 0, 6, some (77009, 0))], 17, [0, (-2)])])]
def bc_X0_mixThroughHatches : List ab_C := bq_X0_mixThroughHatches.map (fun c => c.1)
def be_X0_mixThroughHatches : Nat → Option (Nat × Option Nat × List ab_C) := fun ix => match ix with
  | 84 => some (3, some 0, bc_X0_mix)
  | _ => none
def bx_X0_mixThroughHatches : ex_K := (RX0, ec_fx fl_X0, ec_cx cl_X0, sl_X0, (fun ix => (be_X0_mixThroughHatches ix).map (fun q => (q.1, q.2.1, ab_sp ab_hd q.2.2))), ec_nz, ec_no)
def bi_X0_mixThroughHatches : List (Nat × Instr × Nat) := [(0, .iconst 0, 1), (1, .istore_n 1, 1), (2, .iload_n 1, 1), (3, .aload_n 0, 1), (4, .getfield 43, 3), (7, .if_icmp .ge 34, 3), (10, .aload_n 0, 1), (11, .getfield 24, 3), (14, .iload_n 1, 1), (15, .baload, 1), (16, .ifCond .eq 19, 3), (19, .aload_n 0, 1), (20, .aload_n 0, 1), (21, .getfield 18, 3), (24, .iload_n 1, 1), (25, .iaload, 1), (26, .aload_n 0, 1), (27, .getfield 21, 3), (30, .iload_n 1, 1), (31, .iaload, 1), (32, .invokevirtual 84, 3), (35, .iinc 1 1, 3), (38, .goto (-36), 3), (41, .return_, 1)]
def bq_X1_becomeLike : List (ab_C × List ab_Q) := [(([.inl 62, .inl 33], [], [(62, some 0), (62, some 1), (62, some 2), (62, some 3), (62, some 4), (62, some 5)], [(none, [], [])]), [])]
def bc_X1_becomeLike : List ab_C := bq_X1_becomeLike.map (fun c => c.1)
def bx_X1_becomeLike : ex_K := (RX1, ec_fx fl_X1, ec_cx cl_X1, sl_X1, (fun ix => (ec_no ix).map (fun (q : Nat × Option Nat × List ab_C) => (q.1, q.2.1, ab_sp ab_hd q.2.2))), ec_nz, ec_no)
def bi_X1_becomeLike : List (Nat × Instr × Nat) := [(0, .aload_n 0, 1), (1, .aload_n 1, 1), (2, .getfield 9, 3), (5, .putfield 9, 3), (8, .aload_n 0, 1), (9, .aload_n 1, 1), (10, .getfield 15, 3), (13, .putfield 15, 3), (16, .aload_n 0, 1), (17, .aload_n 1, 1), (18, .getfield 18, 3), (21, .putfield 18, 3), (24, .aload_n 0, 1), (25, .aload_n 1, 1), (26, .getfield 21, 3), (29, .putfield 21, 3), (32, .aload_n 0, 1), (33, .aload_n 1, 1), (34, .getfield 25, 3), (37, .putfield 25, 3), (40, .aload_n 0, 1), (41, .aload_n 1, 1), (42, .getfield 28, 3), (45, .putfield 28, 3), (48, .return_, 1)]
def bq_X1_isBound : List (ab_C × List ab_Q) := [(([.inr ((-2147483648), 2147483647)], [], [], [(some (0, 0, none), [], []), (some (1, 1, none), [((0, 0, 0), 0, 100000, none)], [])]), [])]
def bc_X1_isBound : List ab_C := bq_X1_isBound.map (fun c => c.1)
def bx_X1_isBound : ex_K := (RX1, ec_fx fl_X1, ec_cx cl_X1, sl_X1, (fun ix => (ec_no ix).map (fun (q : Nat × Option Nat × List ab_C) => (q.1, q.2.1, ab_sp ab_hd q.2.2))), ec_nz, ec_no)
def bi_X1_isBound : List (Nat × Instr × Nat) := [(0, .iload_n 0, 1), (1, .ifCond .lt 13, 3), (4, .iload_n 0, 1), (5, .ldc 36, 2), (7, .if_icmp .gt 7, 3), (10, .iconst 1, 1), (11, .goto 4, 3), (14, .iconst 0, 1), (15, .ireturn, 1)]
def bq_X1_setAll : List (ab_C × List ab_Q) := [(([.inl 33, .inr ((-2147483648), 2147483647), .inr ((-2147483648), 2147483647), .inr ((-2147483648), 2147483647)], [], [(33, some 0), (33, some 1), (33, some 2)], [(some ((-2147483648), 2147483647, none), [], [])]), [])]
def bc_X1_setAll : List ab_C := bq_X1_setAll.map (fun c => c.1)
def be_X1_setAll : Nat → Option (Nat × Option Nat × List ab_C) := fun ix => match ix with
  | 31 => some (1, none, bc_X1_isBound)
  | _ => none
def bx_X1_setAll : ex_K := (RX1, ec_fx fl_X1, ec_cx cl_X1, sl_X1, (fun ix => (be_X1_setAll ix).map (fun q => (q.1, q.2.1, ab_sp ab_hd q.2.2))), ec_nz, ec_no)
def bi_X1_setAll : List (Nat × Instr × Nat) := [(0, .iload_n 1, 1), (1, .invokestatic 31, 3), (4, .ifCond .eq 17, 3), (7, .iload_n 2, 1), (8, .invokestatic 31, 3), (11, .ifCond .eq 10, 3), (14, .iload_n 3, 1), (15, .invokestatic 31, 3), (18, .ifCond .ne 6, 3), (21, .ldc 35, 2), (23, .ireturn, 1), (24, .aload_n 0, 1), (25, .iload_n 1, 1), (26, .putfield 9, 3), (29, .aload_n 0, 1), (30, .iload_n 2, 1), (31, .putfield 15, 3), (34, .aload_n 0, 1), (35, .iload_n 3, 1), (36, .putfield 18, 3), (39, .iconst 1, 1), (40, .ireturn, 1)]
def bq_X1_tellFirstBreak : List (ab_C × List ab_Q) := [(([.inl 33, .inr ((-2147483648), 2147483647)], [], [], [(some ((-2147483648), 2147483647, none), [], [])]), [])]
def bc_X1_tellFirstBreak : List ab_C := bq_X1_tellFirstBreak.map (fun c => c.1)
def bx_X1_tellFirstBreak : ex_K := (RX1, ec_fx fl_X1, ec_cx cl_X1, sl_X1, (fun ix => (ec_no ix).map (fun (q : Nat × Option Nat × List ab_C) => (q.1, q.2.1, ab_sp ab_hd q.2.2))), ec_nz, ec_no)
def bi_X1_tellFirstBreak : List (Nat × Instr × Nat) := [(0, .iload_n 1, 1), (1, .ifCond .eq 11, 3), (4, .iload_n 1, 1), (5, .iconst 1, 1), (6, .if_icmp .eq 6, 3), (9, .ldc 35, 2), (11, .ireturn, 1), (12, .aload_n 0, 1), (13, .getfield 21, 3), (16, .ifCond .ne 6, 3), (19, .ldc 37, 2), (21, .ireturn, 1), (22, .iload_n 1, 1), (23, .ifCond .ne 10, 3), (26, .aload_n 0, 1), (27, .getfield 25, 3), (30, .goto 7, 3), (33, .aload_n 0, 1), (34, .getfield 28, 3), (37, .ireturn, 1)]
def bq_X3_anyoneIn : List (ab_C × List ab_Q) := [(([.inl 14, .inr (0, 5)], [], [], [(some (0, 1, none), [], [])]), [(2, [some (.inl 14), some (.inr (.inl (0, 5, none, none))), some (.inr (.inl (0, 6, none, none)))], [((1, 7, 6), 0, 6, some (8006, 0)), ((1, 14, 6), 0, 6, some (15006, 0)), ((1, 76, 0), 0, 6, some (77000, 0)), ((1, 76, 9), 0, 6, some (77009, 0))], 13, [0, 0, (-2)])]),
  (([.inl 43, .inr (0, 5)], [], [], [(some (0, 1, none), [], [])]), [(2, [some (.inl 43), some (.inr (.inl (0, 5, none, none))), some (.inr (.inl (0, 6, none, none)))], [((1, 7, 6), 0, 6, some (8006, 0)), ((1, 14, 6), 0, 6, some (15006, 0)), ((1, 76, 0), 0, 6, some (77000, 0)), ((1, 76, 9), 0, 6, some (77009, 0))], 13, [0, 0, (-2)])])]
def bc_X3_anyoneIn : List ab_C := bq_X3_anyoneIn.map (fun c => c.1)
def bx_X3_anyoneIn : ex_K := (RX3, ec_fx fl_X3, ec_cx cl_X3, sl_X3, (fun ix => (ec_no ix).map (fun (q : Nat × Option Nat × List ab_C) => (q.1, q.2.1, ab_sp ab_hd q.2.2))), ec_nz, ec_no)
def bi_X3_anyoneIn : List (Nat × Instr × Nat) := [(0, .iconst 0, 1), (1, .istore_n 2, 1), (2, .iload_n 2, 1), (3, .aload_n 0, 1), (4, .getfield 34, 3), (7, .if_icmp .ge 21, 3), (10, .aload_n 0, 1), (11, .getfield 9, 3), (14, .iload_n 2, 1), (15, .iaload, 1), (16, .iload_n 1, 1), (17, .if_icmp .ne 5, 3), (20, .iconst 1, 1), (21, .ireturn, 1), (22, .iinc 2 1, 3), (25, .goto (-23), 3), (28, .iconst 0, 1), (29, .ireturn, 1)]
def bq_X1_breaksIn : List (ab_C × List ab_Q) := [(([.inl 33, .inr (0, 5), .inl 7], [], [], [(some (0, 0, none), [], []), (some (1, 1, none), [], [])]), []),
  (([.inl 62, .inr (0, 5), .inl 36], [], [], [(some (0, 0, none), [], []), (some (1, 1, none), [], [])]), [])]
def bc_X1_breaksIn : List ab_C := bq_X1_breaksIn.map (fun c => c.1)
def be_X1_breaksIn : Nat → Option (Nat × Option Nat × List ab_C) := fun ix => match ix with
  | 56 => some (3, some 0, bc_X0_amount)
  | _ => none
def bx_X1_breaksIn : ex_K := (RX1, ec_fx fl_X1, ec_cx cl_X1, sl_X1, (fun ix => (be_X1_breaksIn ix).map (fun q => (q.1, q.2.1, ab_sp ab_hd q.2.2))), ec_nz, ec_no)
def bi_X1_breaksIn : List (Nat × Instr × Nat) := [(0, .aload_n 2, 1), (1, .iload_n 1, 1), (2, .iconst 0, 1), (3, .invokevirtual 56, 3), (6, .aload_n 0, 1), (7, .getfield 9, 3), (10, .if_icmp .lt 29, 3), (13, .aload_n 2, 1), (14, .iload_n 1, 1), (15, .iconst 1, 1), (16, .invokevirtual 56, 3), (19, .aload_n 0, 1), (20, .getfield 15, 3), (23, .if_icmp .gt 16, 3), (26, .aload_n 2, 1), (27, .iload_n 1, 1), (28, .iconst 4, 1), (29, .invokevirtual 56, 3), (32, .aload_n 0, 1), (33, .getfield 18, 3), (36, .if_icmp .le 7, 3), (39, .iconst 1, 1), (40, .goto 4, 3), (43, .iconst 0, 1), (44, .ireturn, 1)]
def bq_X1_keepFirst : List (ab_C × List ab_Q) := [(([.inl 33, .inr ((-2147483648), 2147483647), .inr (0, 5)], [], [(33, some 3), (33, some 4), (33, some 5)], [(none, [], [])]), []),
  (([.inl 62, .inr ((-2147483648), 2147483647), .inr (0, 5)], [], [(62, some 3), (62, some 4), (62, some 5)], [(none, [], [])]), [])]
def bc_X1_keepFirst : List ab_C := bq_X1_keepFirst.map (fun c => c.1)
def bx_X1_keepFirst : ex_K := (RX1, ec_fx fl_X1, ec_cx cl_X1, sl_X1, (fun ix => (ec_no ix).map (fun (q : Nat × Option Nat × List ab_C) => (q.1, q.2.1, ab_sp ab_hd q.2.2))), ec_nz, ec_no)
def bi_X1_keepFirst : List (Nat × Instr × Nat) := [(0, .aload_n 0, 1), (1, .getfield 21, 3), (4, .ifCond .ne 18, 3), (7, .aload_n 0, 1), (8, .iconst 1, 1), (9, .putfield 21, 3), (12, .aload_n 0, 1), (13, .iload_n 1, 1), (14, .putfield 25, 3), (17, .aload_n 0, 1), (18, .iload_n 2, 1), (19, .putfield 28, 3), (22, .return_, 1)]
def bq_X1_look : List (ab_C × List ab_Q) := [(([.inl 33, .inl 7, .inl 14, .inr ((-2147483648), 2147483647)], [], [(33, some 3), (33, some 4), (33, some 5)], [(some (0, 1, none), [], [])]), [(3, [some (.inl 33), some (.inl 7), some (.inl 14), some (.inr (.inl ((-2147483648), 2147483647, none, none))), some (.inr (.inl (0, 6, none, none)))], [((1, 7, 6), 0, 6, some (8006, 0)), ((1, 14, 6), 0, 6, some (15006, 0)), ((1, 76, 0), 0, 6, some (77000, 0)), ((1, 76, 9), 0, 6, some (77009, 0))], 13, [0, 0, 0, 0, (-2)])]),
  (([.inl 62, .inl 36, .inl 43, .inr ((-2147483648), 2147483647)], [], [(62, some 3), (62, some 4), (62, some 5)], [(some (0, 1, none), [], [])]), [(3, [some (.inl 62), some (.inl 36), some (.inl 43), some (.inr (.inl ((-2147483648), 2147483647, none, none))), some (.inr (.inl (0, 6, none, none)))], [((1, 7, 6), 0, 6, some (8006, 0)), ((1, 14, 6), 0, 6, some (15006, 0)), ((1, 76, 0), 0, 6, some (77000, 0)), ((1, 76, 9), 0, 6, some (77009, 0))], 13, [0, 0, 0, 0, (-2)])])]
def bc_X1_look : List ab_C := bq_X1_look.map (fun c => c.1)
def be_X1_look : Nat → Option (Nat × Option Nat × List ab_C) := fun ix => match ix with
  | 43 => some (2, some 3, bc_X3_anyoneIn)
  | 48 => some (3, some 1, bc_X1_breaksIn)
  | 52 => some (3, some 1, bc_X1_keepFirst)
  | _ => none
def bx_X1_look : ex_K := (RX1, ec_fx fl_X1, ec_cx cl_X1, sl_X1, (fun ix => (be_X1_look ix).map (fun q => (q.1, q.2.1, ab_sp ab_hd q.2.2))), ec_nz, ec_no)
def bi_X1_look : List (Nat × Instr × Nat) := [(0, .iconst 0, 1), (1, .istore 4, 2), (3, .iload 4, 2), (5, .aload_n 1, 1), (6, .getfield 38, 3), (9, .if_icmp .ge 37, 3), (12, .aload_n 2, 1), (13, .iload 4, 2), (15, .invokevirtual 43, 3), (18, .ifCond .eq 22, 3), (21, .aload_n 0, 1), (22, .iload 4, 2), (24, .aload_n 1, 1), (25, .invokevirtual 48, 3), (28, .ifCond .eq 12, 3), (31, .aload_n 0, 1), (32, .iload_n 3, 1), (33, .iload 4, 2), (35, .invokevirtual 52, 3), (38, .iconst 1, 1), (39, .ireturn, 1), (40, .iinc 4 1, 3), (43, .goto (-40), 3), (46, .iconst 0, 1), (47, .ireturn, 1)]
def bq_X2_becomeLike : List (ab_C × List ab_Q) := [(([.inl 63, .inl 34], [], [(63, some 0), (63, some 1), (63, some 2), (63, some 3), (63, some 4), (63, some 5), (63, some 6)], [(none, [], [])]), [])]
def bc_X2_becomeLike : List ab_C := bq_X2_becomeLike.map (fun c => c.1)
def bx_X2_becomeLike : ex_K := (RX2, ec_fx fl_X2, ec_cx cl_X2, sl_X2, (fun ix => (ec_no ix).map (fun (q : Nat × Option Nat × List ab_C) => (q.1, q.2.1, ab_sp ab_hd q.2.2))), ec_nz, ec_no)
def bi_X2_becomeLike : List (Nat × Instr × Nat) := [(0, .aload_n 0, 1), (1, .aload_n 1, 1), (2, .getfield 15, 3), (5, .putfield 15, 3), (8, .aload_n 0, 1), (9, .aload_n 1, 1), (10, .getfield 19, 3), (13, .putfield 19, 3), (16, .aload_n 0, 1), (17, .aload_n 1, 1), (18, .getfield 22, 3), (21, .putfield 22, 3), (24, .aload_n 0, 1), (25, .aload_n 1, 1), (26, .getfield 25, 3), (29, .putfield 25, 3), (32, .aload_n 0, 1), (33, .aload_n 1, 1), (34, .getfield 11, 3), (37, .putfield 11, 3), (40, .aload_n 0, 1), (41, .aload_n 1, 1), (42, .getfield 28, 3), (45, .putfield 28, 3), (48, .aload_n 0, 1), (49, .aload_n 1, 1), (50, .getfield 31, 3), (53, .putfield 31, 3), (56, .return_, 1)]
def bq_X2_start : List (ab_C × List ab_Q) := [(([.inl 34], [], [(34, some 0), (34, some 1), (34, some 2), (34, some 3), (34, some 4), (34, some 5)], [(none, [], [])]), [])]
def bc_X2_start : List ab_C := bq_X2_start.map (fun c => c.1)
def bx_X2_start : ex_K := (RX2, ec_fx fl_X2, ec_cx cl_X2, sl_X2, (fun ix => (ec_no ix).map (fun (q : Nat × Option Nat × List ab_C) => (q.1, q.2.1, ab_sp ab_hd q.2.2))), ec_nz, ec_no)
def bi_X2_start : List (Nat × Instr × Nat) := [(0, .aload_n 0, 1), (1, .iconst 1, 1), (2, .putfield 15, 3), (5, .aload_n 0, 1), (6, .iconst 0, 1), (7, .putfield 19, 3), (10, .aload_n 0, 1), (11, .iconst 0, 1), (12, .putfield 22, 3), (15, .aload_n 0, 1), (16, .iconst 0, 1), (17, .putfield 25, 3), (20, .aload_n 0, 1), (21, .iconst (-1), 1), (22, .putfield 11, 3), (25, .aload_n 0, 1), (26, .iconst 0, 1), (27, .putfield 28, 3), (30, .return_, 1)]
def bq_X2_finish : List (ab_C × List ab_Q) := [(([.inl 34, .inr (1, 4)], [], [(34, some 0), (34, some 6)], [(none, [], [])]), []),
  (([.inl 63, .inr (1, 4)], [], [(63, some 0), (63, some 6)], [(none, [], [])]), [])]
def bc_X2_finish : List ab_C := bq_X2_finish.map (fun c => c.1)
def bx_X2_finish : ex_K := (RX2, ec_fx fl_X2, ec_cx cl_X2, sl_X2, (fun ix => (ec_no ix).map (fun (q : Nat × Option Nat × List ab_C) => (q.1, q.2.1, ab_sp ab_hd q.2.2))), ec_nz, ec_no)
def bi_X2_finish : List (Nat × Instr × Nat) := [(0, .aload_n 0, 1), (1, .iconst 0, 1), (2, .putfield 15, 3), (5, .aload_n 0, 1), (6, .iload_n 1, 1), (7, .putfield 31, 3), (10, .return_, 1)]
def bq_X2_giveUp : List (ab_C × List ab_Q) := [(([.inl 34], [], [(34, some 0), (34, some 1), (34, some 2), (34, some 3), (34, some 5), (34, some 6)], [(none, [], [])]), []),
  (([.inl 63], [], [(63, some 0), (63, some 1), (63, some 2), (63, some 3), (63, some 5), (63, some 6)], [(none, [], [])]), [])]
def bc_X2_giveUp : List ab_C := bq_X2_giveUp.map (fun c => c.1)
def be_X2_giveUp : Nat → Option (Nat × Option Nat × List ab_C) := fun ix => match ix with
  | 37 => some (2, some 2, bc_X2_finish)
  | _ => none
def bx_X2_giveUp : ex_K := (RX2, ec_fx fl_X2, ec_cx cl_X2, sl_X2, (fun ix => (be_X2_giveUp ix).map (fun q => (q.1, q.2.1, ab_sp ab_hd q.2.2))), ec_nz, ec_no)
def bi_X2_giveUp : List (Nat × Instr × Nat) := [(0, .aload_n 0, 1), (1, .iconst 0, 1), (2, .putfield 19, 3), (5, .aload_n 0, 1), (6, .iconst 0, 1), (7, .putfield 28, 3), (10, .aload_n 0, 1), (11, .getfield 11, 3), (14, .iconst (-1), 1), (15, .if_icmp .eq 10, 3), (18, .aload_n 0, 1), (19, .getfield 22, 3), (22, .ifCond .eq 9, 3), (25, .aload_n 0, 1), (26, .iconst 3, 1), (27, .invokevirtual 37, 3), (30, .return_, 1), (31, .aload_n 0, 1), (32, .iconst 1, 1), (33, .putfield 22, 3), (36, .aload_n 0, 1), (37, .aload_n 0, 1), (38, .getfield 11, 3), (41, .putfield 25, 3), (44, .return_, 1)]
def bq_X2_goOnAt : List (ab_C × List ab_Q) := [(([.inl 34, .inr ((-2147483648), 2147483647)], [], [(34, some 0), (34, some 1), (34, some 2), (34, some 3), (34, some 5), (34, some 6)], [(none, [], [])]), []),
  (([.inl 63, .inr ((-2147483648), 2147483647)], [], [(63, some 0), (63, some 1), (63, some 2), (63, some 3), (63, some 5), (63, some 6)], [(none, [], [])]), [])]
def bc_X2_goOnAt : List ab_C := bq_X2_goOnAt.map (fun c => c.1)
def be_X2_goOnAt : Nat → Option (Nat × Option Nat × List ab_C) := fun ix => match ix with
  | 34 => some (1, some 2, bc_X2_giveUp)
  | _ => none
def bx_X2_goOnAt : ex_K := (RX2, ec_fx fl_X2, ec_cx cl_X2, sl_X2, (fun ix => (be_X2_goOnAt ix).map (fun q => (q.1, q.2.1, ab_sp ab_hd q.2.2))), ec_nz, ec_no)
def bi_X2_goOnAt : List (Nat × Instr × Nat) := [(0, .iload_n 1, 1), (1, .iconst (-1), 1), (2, .if_icmp .ne 10, 3), (5, .aload_n 0, 1), (6, .invokevirtual 34, 3), (9, .goto 8, 3), (12, .aload_n 0, 1), (13, .iload_n 1, 1), (14, .putfield 25, 3), (17, .return_, 1)]
def bq_X2_setHalted : List (ab_C × List ab_Q) := [(([.inl 34, .inr ((-2147483648), 2147483647)], [], [(34, some 1)], [(some ((-2147483648), 2147483647, none), [], [])]), [])]
def bc_X2_setHalted : List ab_C := bq_X2_setHalted.map (fun c => c.1)
def be_X2_setHalted : Nat → Option (Nat × Option Nat × List ab_C) := fun ix => match ix with
  | 41 => some (1, none, bc_X9_isSwitch)
  | _ => none
def bx_X2_setHalted : ex_K := (RX2, ec_fx fl_X2, ec_cx cl_X2, sl_X2, (fun ix => (be_X2_setHalted ix).map (fun q => (q.1, q.2.1, ab_sp ab_hd q.2.2))), ec_nz, ec_no)
def bi_X2_setHalted : List (Nat × Instr × Nat) := [(0, .iload_n 1, 1), (1, .invokestatic 41, 3), (4, .ifCond .ne 6, 3), (7, .ldc 45, 2), (9, .ireturn, 1), (10, .aload_n 0, 1), (11, .getfield 15, 3), (14, .ifCond .eq 20, 3), (17, .aload_n 0, 1), (18, .getfield 19, 3), (21, .iload_n 1, 1), (22, .iconst 1, 1), (23, .if_icmp .ne 7, 3), (26, .iconst 1, 1), (27, .goto 4, 3), (30, .iconst 0, 1), (31, .if_icmp .ne 6, 3), (34, .ldc 46, 2), (36, .ireturn, 1), (37, .aload_n 0, 1), (38, .iload_n 1, 1), (39, .iconst 1, 1), (40, .if_icmp .ne 7, 3), (43, .iconst 1, 1), (44, .goto 4, 3), (47, .iconst 0, 1), (48, .putfield 19, 3), (51, .iconst 1, 1), (52, .ireturn, 1)]
def bq_X2_tellOf : List (ab_C × List ab_Q) := [(([.inl 34, .inr ((-2147483648), 2147483647)], [], [], [(some ((-2147483648), 2147483647, none), [], [])]), [])]
def bc_X2_tellOf : List ab_C := bq_X2_tellOf.map (fun c => c.1)
def be_X2_tellOf : Nat → Option (Nat × Option Nat × List ab_C) := fun ix => match ix with
  | 47 => some (1, none, bc_X9_one)
  | _ => none
def bx_X2_tellOf : ex_K := (RX2, ec_fx fl_X2, ec_cx cl_X2, sl_X2, (fun ix => (be_X2_tellOf ix).map (fun q => (q.1, q.2.1, ab_sp ab_hd q.2.2))), ec_nz, ec_no)
def bi_X2_tellOf : List (Nat × Instr × Nat) := [(0, .iload_n 1, 1), (1, .tableswitch 98 0 6 #[43, 51, 67, 75, 83, 88, 93], 43), (44, .aload_n 0, 1), (45, .getfield 15, 3), (48, .invokestatic 47, 3), (51, .ireturn, 1), (52, .aload_n 0, 1), (53, .getfield 15, 3), (56, .ifCond .eq 10, 3), (59, .aload_n 0, 1), (60, .getfield 25, 3), (63, .goto 4, 3), (66, .iconst (-1), 1), (67, .ireturn, 1), (68, .aload_n 0, 1), (69, .getfield 19, 3), (72, .invokestatic 47, 3), (75, .ireturn, 1), (76, .aload_n 0, 1), (77, .getfield 22, 3), (80, .invokestatic 47, 3), (83, .ireturn, 1), (84, .aload_n 0, 1), (85, .getfield 11, 3), (88, .ireturn, 1), (89, .aload_n 0, 1), (90, .getfield 28, 3), (93, .ireturn, 1), (94, .aload_n 0, 1), (95, .getfield 31, 3), (98, .ireturn, 1), (99, .ldc 45, 2), (101, .ireturn, 1)]
def bq_X3_becomeLike : List (ab_C × List ab_Q) := [(([.inl 43, .inl 14], [], [(43, some 6), (44, none), (45, none), (46, none), (47, none), (48, none), (49, none)], [(none, [], [])]), [])]
def bc_X3_becomeLike : List ab_C := bq_X3_becomeLike.map (fun c => c.1)
def be_X3_becomeLike : Nat → Option (Nat × Option Nat × List ab_C) := fun ix => match ix with
  | 30 => some (2, none, bc_X9_copy)
  | _ => none
def bx_X3_becomeLike : ex_K := (RX3, ec_fx fl_X3, ec_cx cl_X3, sl_X3, (fun ix => (be_X3_becomeLike ix).map (fun q => (q.1, q.2.1, ab_sp ab_hd q.2.2))), ec_nz, ec_no)
def bi_X3_becomeLike : List (Nat × Instr × Nat) := [(0, .aload_n 1, 1), (1, .getfield 9, 3), (4, .aload_n 0, 1), (5, .getfield 9, 3), (8, .invokestatic 30, 3), (11, .aload_n 1, 1), (12, .getfield 15, 3), (15, .aload_n 0, 1), (16, .getfield 15, 3), (19, .invokestatic 30, 3), (22, .aload_n 1, 1), (23, .getfield 18, 3), (26, .aload_n 0, 1), (27, .getfield 18, 3), (30, .invokestatic 30, 3), (33, .aload_n 1, 1), (34, .getfield 21, 3), (37, .aload_n 0, 1), (38, .getfield 21, 3), (41, .invokestatic 30, 3), (44, .aload_n 1, 1), (45, .getfield 24, 3), (48, .aload_n 0, 1), (49, .getfield 24, 3), (52, .invokestatic 30, 3), (55, .aload_n 1, 1), (56, .getfield 27, 3), (59, .aload_n 0, 1), (60, .getfield 27, 3), (63, .invokestatic 30, 3), (66, .aload_n 0, 1), (67, .aload_n 1, 1), (68, .getfield 34, 3), (71, .putfield 34, 3), (74, .return_, 1)]
def bq_X3_has : List (ab_C × List ab_Q) := [(([.inl 14, .inr ((-2147483648), 2147483647)], [], [], [(some (0, 0, none), [], []), (some (1, 1, none), [((0, 1, 0), 0, 5, none)], [])]), []),
  (([.inl 43, .inr ((-2147483648), 2147483647)], [], [], [(some (0, 0, none), [], []), (some (1, 1, none), [((0, 1, 0), 0, 5, none)], [])]), [])]
def bc_X3_has : List ab_C := bq_X3_has.map (fun c => c.1)
def bx_X3_has : ex_K := (RX3, ec_fx fl_X3, ec_cx cl_X3, sl_X3, (fun ix => (ec_no ix).map (fun (q : Nat × Option Nat × List ab_C) => (q.1, q.2.1, ab_sp ab_hd q.2.2))), ec_nz, ec_no)
def bi_X3_has : List (Nat × Instr × Nat) := [(0, .iload_n 1, 1), (1, .ifCond .lt 15, 3), (4, .iload_n 1, 1), (5, .aload_n 0, 1), (6, .getfield 34, 3), (9, .if_icmp .ge 7, 3), (12, .iconst 1, 1), (13, .goto 4, 3), (16, .iconst 0, 1), (17, .ireturn, 1)]
def bq_X3_mends : List (ab_C × List ab_Q) := [(([.inl 14, .inr (0, 5)], [], [], [(some (0, 0, none), [], []), (some (1, 1, none), [], [])]), []),
  (([.inl 43, .inr (0, 5)], [], [], [(some (0, 0, none), [], []), (some (1, 1, none), [], [])]), [])]
def bc_X3_mends : List ab_C := bq_X3_mends.map (fun c => c.1)
def bx_X3_mends : ex_K := (RX3, ec_fx fl_X3, ec_cx cl_X3, sl_X3, (fun ix => (ec_no ix).map (fun (q : Nat × Option Nat × List ab_C) => (q.1, q.2.1, ab_sp ab_hd q.2.2))), ec_nz, ec_no)
def bi_X3_mends : List (Nat × Instr × Nat) := [(0, .aload_n 0, 1), (1, .getfield 18, 3), (4, .iload_n 1, 1), (5, .iaload, 1), (6, .iconst (-1), 1), (7, .if_icmp .eq 7, 3), (10, .iconst 1, 1), (11, .goto 4, 3), (14, .iconst 0, 1), (15, .ireturn, 1)]
def bq_X3_addPerson : List (ab_C × List ab_Q) := [(([.inl 14, .inr (0, 5)], [], [(14, some 6), (15, none), (17, none)], [(some ((-1000000004), (-1000000004), none), [((8, 15006, 0), 6, 6, none)], [((1, 14, 6), 6, 6, some (15006, 0))]), (some (0, 5, some (15006, 0)), [((8, 15006, 0), 0, 5, none)], [((1, 14, 6), 1, 6, some (15006, 1))])]), [])]
def bc_X3_addPerson : List ab_C := bq_X3_addPerson.map (fun c => c.1)
def bx_X3_addPerson : ex_K := (RX3, ec_fx fl_X3, ec_cx cl_X3, sl_X3, (fun ix => (ec_no ix).map (fun (q : Nat × Option Nat × List ab_C) => (q.1, q.2.1, ab_sp ab_hd q.2.2))), ec_nz, ec_no)
def bi_X3_addPerson : List (Nat × Instr × Nat) := [(0, .aload_n 0, 1), (1, .getfield 34, 3), (4, .bipush 6, 2), (6, .if_icmp .lt 6, 3), (9, .ldc 38, 2), (11, .ireturn, 1), (12, .aload_n 0, 1), (13, .getfield 9, 3), (16, .aload_n 0, 1), (17, .getfield 34, 3), (20, .iload_n 1, 1), (21, .iastore, 1), (22, .aload_n 0, 1), (23, .getfield 18, 3), (26, .aload_n 0, 1), (27, .getfield 34, 3), (30, .iconst (-1), 1), (31, .iastore, 1), (32, .aload_n 0, 1), (33, .dup, 1), (34, .getfield 34, 3), (37, .iconst 1, 1), (38, .iadd, 1), (39, .putfield 34, 3), (42, .aload_n 0, 1), (43, .getfield 34, 3), (46, .iconst 1, 1), (47, .isub, 1), (48, .ireturn, 1)]
def bq_X3_setDoing : List (ab_C × List ab_Q) := [(([.inl 14, .inr ((-2147483648), 2147483647), .inr ((-2147483648), 2147483647)], [], [(16, none)], [(some ((-2147483648), 2147483647, none), [], [])]), [])]
def bc_X3_setDoing : List ab_C := bq_X3_setDoing.map (fun c => c.1)
def be_X3_setDoing : Nat → Option (Nat × Option Nat × List ab_C) := fun ix => match ix with
  | 39 => some (2, some 3, bc_X3_has)
  | 44 => some (2, some 3, bc_X3_mends)
  | _ => none
def bx_X3_setDoing : ex_K := (RX3, ec_fx fl_X3, ec_cx cl_X3, sl_X3, (fun ix => (be_X3_setDoing ix).map (fun q => (q.1, q.2.1, ab_sp ab_hd q.2.2))), ec_nz, ec_no)
def bi_X3_setDoing : List (Nat × Instr × Nat) := [(0, .aload_n 0, 1), (1, .iload_n 1, 1), (2, .invokevirtual 39, 3), (5, .ifCond .eq 12, 3), (8, .iload_n 2, 1), (9, .ifCond .lt 8, 3), (12, .iload_n 2, 1), (13, .iconst 3, 1), (14, .if_icmp .lt 6, 3), (17, .ldc 43, 2), (19, .ireturn, 1), (20, .aload_n 0, 1), (21, .iload_n 1, 1), (22, .invokevirtual 44, 3), (25, .ifCond .eq 6, 3), (28, .ldc 47, 2), (30, .ireturn, 1), (31, .aload_n 0, 1), (32, .getfield 15, 3), (35, .iload_n 1, 1), (36, .iaload, 1), (37, .istore_n 3, 1), (38, .aload_n 0, 1), (39, .getfield 15, 3), (42, .iload_n 1, 1), (43, .iload_n 2, 1), (44, .iastore, 1), (45, .iload_n 3, 1), (46, .ireturn, 1)]
def bq_X3_tellOf : List (ab_C × List ab_Q) := [(([.inl 14, .inr ((-2147483648), 2147483647), .inr ((-2147483648), 2147483647)], [], [], [(some ((-2147483648), 2147483647, none), [], [])]), [])]
def bc_X3_tellOf : List ab_C := bq_X3_tellOf.map (fun c => c.1)
def be_X3_tellOf : Nat → Option (Nat × Option Nat × List ab_C) := fun ix => match ix with
  | 39 => some (2, some 3, bc_X3_has)
  | _ => none
def bx_X3_tellOf : ex_K := (RX3, ec_fx fl_X3, ec_cx cl_X3, sl_X3, (fun ix => (be_X3_tellOf ix).map (fun q => (q.1, q.2.1, ab_sp ab_hd q.2.2))), ec_nz, ec_no)
def bi_X3_tellOf : List (Nat × Instr × Nat) := [(0, .aload_n 0, 1), (1, .iload_n 1, 1), (2, .invokevirtual 39, 3), (5, .ifCond .ne 6, 3), (8, .ldc 43, 2), (10, .ireturn, 1), (11, .iload_n 2, 1), (12, .tableswitch 82 0 5 #[40, 47, 54, 61, 68, 75], 40), (52, .aload_n 0, 1), (53, .getfield 9, 3), (56, .iload_n 1, 1), (57, .iaload, 1), (58, .ireturn, 1), (59, .aload_n 0, 1), (60, .getfield 15, 3), (63, .iload_n 1, 1), (64, .iaload, 1), (65, .ireturn, 1), (66, .aload_n 0, 1), (67, .getfield 18, 3), (70, .iload_n 1, 1), (71, .iaload, 1), (72, .ireturn, 1), (73, .aload_n 0, 1), (74, .getfield 21, 3), (77, .iload_n 1, 1), (78, .iaload, 1), (79, .ireturn, 1), (80, .aload_n 0, 1), (81, .getfield 24, 3), (84, .iload_n 1, 1), (85, .iaload, 1), (86, .ireturn, 1), (87, .aload_n 0, 1), (88, .getfield 27, 3), (91, .iload_n 1, 1), (92, .iaload, 1), (93, .ireturn, 1), (94, .ldc 43, 2), (96, .ireturn, 1)]
def bq_X3_startMending : List (ab_C × List ab_Q) := [(([.inl 14, .inr (0, 5), .inr (0, 9), .inr (1, 60)], [], [(16, none), (17, none), (18, none)], [(none, [], [])]), []),
  (([.inl 43, .inr (0, 5), .inr (0, 9), .inr (1, 60)], [], [(45, none), (46, none), (47, none)], [(none, [], [])]), [])]
def bc_X3_startMending : List ab_C := bq_X3_startMending.map (fun c => c.1)
def bx_X3_startMending : ex_K := (RX3, ec_fx fl_X3, ec_cx cl_X3, sl_X3, (fun ix => (ec_no ix).map (fun (q : Nat × Option Nat × List ab_C) => (q.1, q.2.1, ab_sp ab_hd q.2.2))), ec_nz, ec_no)
def bi_X3_startMending : List (Nat × Instr × Nat) := [(0, .aload_n 0, 1), (1, .getfield 18, 3), (4, .iload_n 1, 1), (5, .iload_n 2, 1), (6, .iastore, 1), (7, .aload_n 0, 1), (8, .getfield 21, 3), (11, .iload_n 1, 1), (12, .iload_n 3, 1), (13, .iastore, 1), (14, .aload_n 0, 1), (15, .getfield 15, 3), (18, .iload_n 1, 1), (19, .iconst 1, 1), (20, .iastore, 1), (21, .return_, 1)]
def bq_X3_isMended : List (ab_C × List ab_Q) := [(([.inl 14, .inr (0, 9)], [], [], [(some (0, 1, none), [], [])]), [(2, [some (.inl 14), some (.inr (.inl (0, 9, none, none))), some (.inr (.inl (0, 6, none, none)))], [((1, 7, 6), 0, 6, some (8006, 0)), ((1, 14, 6), 0, 6, some (15006, 0)), ((1, 76, 0), 0, 6, some (77000, 0)), ((1, 76, 9), 0, 6, some (77009, 0))], 13, [0, 0, (-2)])]),
  (([.inl 43, .inr (0, 9)], [], [], [(some (0, 1, none), [], [])]), [(2, [some (.inl 43), some (.inr (.inl (0, 9, none, none))), some (.inr (.inl (0, 6, none, none)))], [((1, 7, 6), 0, 6, some (8006, 0)), ((1, 14, 6), 0, 6, some (15006, 0)), ((1, 76, 0), 0, 6, some (77000, 0)), ((1, 76, 9), 0, 6, some (77009, 0))], 13, [0, 0, (-2)])])]
def bc_X3_isMended : List ab_C := bq_X3_isMended.map (fun c => c.1)
def bx_X3_isMended : ex_K := (RX3, ec_fx fl_X3, ec_cx cl_X3, sl_X3, (fun ix => (ec_no ix).map (fun (q : Nat × Option Nat × List ab_C) => (q.1, q.2.1, ab_sp ab_hd q.2.2))), ec_nz, ec_no)
def bi_X3_isMended : List (Nat × Instr × Nat) := [(0, .iconst 0, 1), (1, .istore_n 2, 1), (2, .iload_n 2, 1), (3, .aload_n 0, 1), (4, .getfield 34, 3), (7, .if_icmp .ge 21, 3), (10, .aload_n 0, 1), (11, .getfield 18, 3), (14, .iload_n 2, 1), (15, .iaload, 1), (16, .iload_n 1, 1), (17, .if_icmp .ne 5, 3), (20, .iconst 1, 1), (21, .ireturn, 1), (22, .iinc 2 1, 3), (25, .goto (-23), 3), (28, .iconst 0, 1), (29, .ireturn, 1)]
def bq_X3_menders : List (ab_C × List ab_Q) := [(([.inl 14], [], [], [(some ((-2147483648), 2147483647, none), [], [])]), [(4, [some (.inl 14), some (.inr (.inl ((-2147483648), 2147483647, none, none))), some (.inr (.inl (0, 6, none, none)))], [((1, 7, 6), 0, 6, some (8006, 0)), ((1, 14, 6), 0, 6, some (15006, 0)), ((1, 76, 0), 0, 6, some (77000, 0)), ((1, 76, 9), 0, 6, some (77009, 0))], 13, [0, 0, (-2)])])]
def bc_X3_menders : List ab_C := bq_X3_menders.map (fun c => c.1)
def be_X3_menders : Nat → Option (Nat × Option Nat × List ab_C) := fun ix => match ix with
  | 44 => some (2, some 3, bc_X3_mends)
  | 48 => some (1, none, bc_X9_one)
  | _ => none
def bx_X3_menders : ex_K := (RX3, ec_fx fl_X3, ec_cx cl_X3, sl_X3, (fun ix => (be_X3_menders ix).map (fun q => (q.1, q.2.1, ab_sp ab_hd q.2.2))), ec_nz, ec_no)
def bi_X3_menders : List (Nat × Instr × Nat) := [(0, .iconst 0, 1), (1, .istore_n 1, 1), (2, .iconst 0, 1), (3, .istore_n 2, 1), (4, .iload_n 2, 1), (5, .aload_n 0, 1), (6, .getfield 34, 3), (9, .if_icmp .ge 20, 3), (12, .iload_n 1, 1), (13, .aload_n 0, 1), (14, .iload_n 2, 1), (15, .invokevirtual 44, 3), (18, .invokestatic 48, 3), (21, .iadd, 1), (22, .istore_n 1, 1), (23, .iinc 2 1, 3), (26, .goto (-22), 3), (29, .iload_n 1, 1), (30, .ireturn, 1)]
def bq_X6_has : List (ab_C × List ab_Q) := [(([.inl 21, .inr ((-2147483648), 2147483647)], [], [], [(some (0, 0, none), [], []), (some (1, 1, none), [((0, 1, 0), 0, 9, none)], [])]), []),
  (([.inl 50, .inr ((-2147483648), 2147483647)], [], [], [(some (0, 0, none), [], []), (some (1, 1, none), [((0, 1, 0), 0, 9, none)], [])]), [])]
def bc_X6_has : List ab_C := bq_X6_has.map (fun c => c.1)
def bx_X6_has : ex_K := (RX6, ec_fx fl_X6, ec_cx cl_X6, sl_X6, (fun ix => (ec_no ix).map (fun (q : Nat × Option Nat × List ab_C) => (q.1, q.2.1, ab_sp ab_hd q.2.2))), ec_nz, ec_no)
def bi_X6_has : List (Nat × Instr × Nat) := [(0, .iload_n 1, 1), (1, .ifCond .lt 15, 3), (4, .iload_n 1, 1), (5, .aload_n 0, 1), (6, .getfield 58, 3), (9, .if_icmp .ge 7, 3), (12, .iconst 1, 1), (13, .goto 4, 3), (16, .iconst 0, 1), (17, .ireturn, 1)]
def bq_X6_makeNew : List (ab_C × List ab_Q) := [(([.inl 21, .inr ((-1), 9)], [], [(28, none), (30, none)], [(none, [], [])]), []),
  (([.inl 50, .inr ((-1), 9)], [], [(57, none), (59, none)], [(none, [], [])]), [])]
def bc_X6_makeNew : List ab_C := bq_X6_makeNew.map (fun c => c.1)
def be_X6_makeNew : Nat → Option (Nat × Option Nat × List ab_C) := fun ix => match ix with
  | 77 => some (2, some 6, bc_X6_has)
  | _ => none
def bx_X6_makeNew : ex_K := (RX6, ec_fx fl_X6, ec_cx cl_X6, sl_X6, (fun ix => (be_X6_makeNew ix).map (fun q => (q.1, q.2.1, ab_sp ab_hd q.2.2))), ec_nz, ec_no)
def bi_X6_makeNew : List (Nat × Instr × Nat) := [(0, .aload_n 0, 1), (1, .iload_n 1, 1), (2, .invokevirtual 77, 3), (5, .ifCond .eq 17, 3), (8, .aload_n 0, 1), (9, .getfield 37, 3), (12, .iload_n 1, 1), (13, .iconst 0, 1), (14, .bastore, 1), (15, .aload_n 0, 1), (16, .getfield 30, 3), (19, .iload_n 1, 1), (20, .iconst 0, 1), (21, .iastore, 1), (22, .return_, 1)]
def bq_X3_mendOn : List (ab_C × List ab_Q) := [(([.inl 14, .inl 21], [], [(17, none), (18, none), (28, none), (30, none)], [(none, [], [])]), [(2, [some (.inl 14), some (.inl 21), some (.inr (.inl (0, 6, none, none)))], [((1, 7, 6), 0, 6, some (8006, 0)), ((1, 14, 6), 0, 6, some (15006, 0)), ((1, 76, 0), 0, 6, some (77000, 0)), ((1, 76, 9), 0, 6, some (77009, 0))], 13, [0, 0, (-2)])]),
  (([.inl 43, .inl 50], [], [(46, none), (47, none), (57, none), (59, none)], [(none, [], [])]), [(2, [some (.inl 43), some (.inl 50), some (.inr (.inl (0, 6, none, none)))], [((1, 7, 6), 0, 6, some (8006, 0)), ((1, 14, 6), 0, 6, some (15006, 0)), ((1, 76, 0), 0, 6, some (77000, 0)), ((1, 76, 9), 0, 6, some (77009, 0))], 13, [0, 0, (-2)])])]
def bc_X3_mendOn : List ab_C := bq_X3_mendOn.map (fun c => c.1)
def be_X3_mendOn : Nat → Option (Nat × Option Nat × List ab_C) := fun ix => match ix with
  | 44 => some (2, some 3, bc_X3_mends)
  | 52 => some (2, some 6, bc_X6_makeNew)
  | _ => none
def bx_X3_mendOn : ex_K := (RX3, ec_fx fl_X3, ec_cx cl_X3, sl_X3, (fun ix => (be_X3_mendOn ix).map (fun q => (q.1, q.2.1, ab_sp ab_hd q.2.2))), ec_nz, ec_no)
def bi_X3_mendOn : List (Nat × Instr × Nat) := [(0, .iconst 0, 1), (1, .istore_n 2, 1), (2, .iload_n 2, 1), (3, .aload_n 0, 1), (4, .getfield 34, 3), (7, .if_icmp .ge 53, 3), (10, .aload_n 0, 1), (11, .iload_n 2, 1), (12, .invokevirtual 44, 3), (15, .ifCond .eq 39, 3), (18, .aload_n 0, 1), (19, .getfield 21, 3), (22, .iload_n 2, 1), (23, .dup2, 1), (24, .iaload, 1), (25, .iconst 1, 1), (26, .isub, 1), (27, .iastore, 1), (28, .aload_n 0, 1), (29, .getfield 21, 3), (32, .iload_n 2, 1), (33, .iaload, 1), (34, .ifCond .ne 20, 3), (37, .aload_n 1, 1), (38, .aload_n 0, 1), (39, .getfield 18, 3), (42, .iload_n 2, 1), (43, .iaload, 1), (44, .invokevirtual 52, 3), (47, .aload_n 0, 1), (48, .getfield 18, 3), (51, .iload_n 2, 1), (52, .iconst (-1), 1), (53, .iastore, 1), (54, .iinc 2 1, 3), (57, .goto (-55), 3), (60, .return_, 1)]
def bq_X3_breathe : List (ab_C × List ab_Q) := [(([.inl 14, .inr (0, 5), .inl 7], [], [(8, none), (19, none)], [(none, [], [])]), []),
  (([.inl 43, .inr (0, 5), .inl 36], [], [(37, none), (48, none)], [(none, [], [])]), [])]
def bc_X3_breathe : List ab_C := bq_X3_breathe.map (fun c => c.1)
def be_X3_breathe : Nat → Option (Nat × Option Nat × List ab_C) := fun ix => match ix with
  | 77 => some (4, some 0, bc_X0_take)
  | 68 => some (4, some 0, bc_X0_give)
  | 48 => some (1, none, bc_X9_one)
  | _ => none
def bx_X3_breathe : ex_K := (RX3, ec_fx fl_X3, ec_cx cl_X3, sl_X3, (fun ix => (be_X3_breathe ix).map (fun q => (q.1, q.2.1, ab_sp ab_hd q.2.2))), ec_nz, ec_no)
def bi_X3_breathe : List (Nat × Instr × Nat) := [(0, .getstatic 74, 3), (3, .aload_n 0, 1), (4, .getfield 15, 3), (7, .iload_n 1, 1), (8, .iaload, 1), (9, .iaload, 1), (10, .istore_n 3, 1), (11, .aload_n 2, 1), (12, .aload_n 0, 1), (13, .getfield 9, 3), (16, .iload_n 1, 1), (17, .iaload, 1), (18, .iconst 0, 1), (19, .iload_n 3, 1), (20, .invokevirtual 77, 3), (23, .istore 4, 2), (25, .aload_n 2, 1), (26, .aload_n 0, 1), (27, .getfield 9, 3), (30, .iload_n 1, 1), (31, .iaload, 1), (32, .iconst 1, 1), (33, .iload 4, 2), (35, .invokevirtual 68, 3), (38, .aload_n 0, 1), (39, .getfield 24, 3), (42, .iload_n 1, 1), (43, .dup2, 1), (44, .iaload, 1), (45, .iload 4, 2), (47, .iload_n 3, 1), (48, .if_icmp .ge 7, 3), (51, .iconst 1, 1), (52, .goto 4, 3), (55, .iconst 0, 1), (56, .invokestatic 48, 3), (59, .iadd, 1), (60, .iastore, 1), (61, .return_, 1)]
def bq_X3_drink : List (ab_C × List ab_Q) := [(([.inl 14, .inr (0, 5), .inl 7], [], [(8, none), (13, none), (20, none)], [(none, [], [])]), []),
  (([.inl 43, .inr (0, 5), .inl 36], [], [(37, none), (42, none), (49, none)], [(none, [], [])]), [])]
def bc_X3_drink : List ab_C := bq_X3_drink.map (fun c => c.1)
def be_X3_drink : Nat → Option (Nat × Option Nat × List ab_C) := fun ix => match ix with
  | 81 => some (3, some 0, bc_X0_draw)
  | 68 => some (4, some 0, bc_X0_give)
  | 85 => some (3, some 0, bc_X0_fill)
  | 48 => some (1, none, bc_X9_one)
  | _ => none
def bx_X3_drink : ex_K := (RX3, ec_fx fl_X3, ec_cx cl_X3, sl_X3, (fun ix => (be_X3_drink ix).map (fun q => (q.1, q.2.1, ab_sp ab_hd q.2.2))), ec_nz, ec_no)
def bi_X3_drink : List (Nat × Instr × Nat) := [(0, .aload_n 2, 1), (1, .iconst 0, 1), (2, .bipush 10, 2), (4, .invokevirtual 81, 3), (7, .istore_n 3, 1), (8, .iload_n 3, 1), (9, .iconst 4, 1), (10, .imul, 1), (11, .bipush 10, 2), (13, .idiv, 1), (14, .istore 4, 2), (16, .aload_n 2, 1), (17, .aload_n 0, 1), (18, .getfield 9, 3), (21, .iload_n 1, 1), (22, .iaload, 1), (23, .iconst 2, 1), (24, .iload 4, 2), (26, .invokevirtual 68, 3), (29, .aload_n 2, 1), (30, .iconst 1, 1), (31, .iload_n 3, 1), (32, .iload 4, 2), (34, .isub, 1), (35, .invokevirtual 85, 3), (38, .aload_n 0, 1), (39, .getfield 27, 3), (42, .iload_n 1, 1), (43, .dup2, 1), (44, .iaload, 1), (45, .iload_n 3, 1), (46, .bipush 10, 2), (48, .if_icmp .ge 7, 3), (51, .iconst 1, 1), (52, .goto 4, 3), (55, .iconst 0, 1), (56, .invokestatic 48, 3), (59, .iadd, 1), (60, .iastore, 1), (61, .return_, 1)]
def bq_X3_live : List (ab_C × List ab_Q) := [(([.inl 14, .inl 7], [], [(8, none), (13, none), (19, none), (20, none)], [(none, [], [])]), [(2, [some (.inl 14), some (.inl 7), some (.inr (.inl (0, 6, none, none)))], [((1, 7, 6), 0, 6, some (8006, 0)), ((1, 14, 6), 0, 6, some (15006, 0)), ((1, 76, 0), 0, 6, some (77000, 0)), ((1, 76, 9), 0, 6, some (77009, 0))], 13, [0, 0, (-2)])]),
  (([.inl 43, .inl 36], [], [(37, none), (42, none), (48, none), (49, none)], [(none, [], [])]), [(2, [some (.inl 43), some (.inl 36), some (.inr (.inl (0, 6, none, none)))], [((1, 7, 6), 0, 6, some (8006, 0)), ((1, 14, 6), 0, 6, some (15006, 0)), ((1, 76, 0), 0, 6, some (77000, 0)), ((1, 76, 9), 0, 6, some (77009, 0))], 13, [0, 0, (-2)])])]
def bc_X3_live : List ab_C := bq_X3_live.map (fun c => c.1)
def be_X3_live : Nat → Option (Nat × Option Nat × List ab_C) := fun ix => match ix with
  | 58 => some (3, some 3, bc_X3_breathe)
  | 62 => some (3, some 3, bc_X3_drink)
  | 68 => some (4, some 0, bc_X0_give)
  | _ => none
def bx_X3_live : ex_K := (RX3, ec_fx fl_X3, ec_cx cl_X3, sl_X3, (fun ix => (be_X3_live ix).map (fun q => (q.1, q.2.1, ab_sp ab_hd q.2.2))), ec_nz, ec_no)
def bi_X3_live : List (Nat × Instr × Nat) := [(0, .iconst 0, 1), (1, .istore_n 2, 1), (2, .iload_n 2, 1), (3, .aload_n 0, 1), (4, .getfield 34, 3), (7, .if_icmp .ge 42, 3), (10, .aload_n 0, 1), (11, .iload_n 2, 1), (12, .aload_n 1, 1), (13, .invokevirtual 58, 3), (16, .aload_n 0, 1), (17, .iload_n 2, 1), (18, .aload_n 1, 1), (19, .invokevirtual 62, 3), (22, .aload_n 1, 1), (23, .aload_n 0, 1), (24, .getfield 9, 3), (27, .iload_n 2, 1), (28, .iaload, 1), (29, .iconst 4, 1), (30, .getstatic 65, 3), (33, .aload_n 0, 1), (34, .getfield 15, 3), (37, .iload_n 2, 1), (38, .iaload, 1), (39, .iaload, 1), (40, .invokevirtual 68, 3), (43, .iinc 2 1, 3), (46, .goto (-44), 3), (49, .return_, 1)]
def bq_X4_startOver : List (ab_C × List ab_Q) := [(([.inl 64, .inl 7], [], [(64, some 1)], [(some ((-2147483648), 2147483647, none), [], [])]), [])]
def bc_X4_startOver : List ab_C := bq_X4_startOver.map (fun c => c.1)
def bx_X4_startOver : ex_K := (RX4, ec_fx fl_X4, ec_cx cl_X4, sl_X4, (fun ix => (ec_no ix).map (fun (q : Nat × Option Nat × List ab_C) => (q.1, q.2.1, ab_sp ab_hd q.2.2))), ec_nz, ec_no)
def bi_X4_startOver : List (Nat × Instr × Nat) := [(0, .aload_n 0, 1), (1, .iconst 1, 1), (2, .aload_n 1, 1), (3, .getfield 15, 3), (6, .ishl, 1), (7, .iconst 1, 1), (8, .isub, 1), (9, .putfield 21, 3), (12, .aload_n 1, 1), (13, .getfield 15, 3), (16, .ireturn, 1)]
def bq_X4_join : List (ab_C × List ab_Q) := [(([.inl 64, .inl 7, .inr ((-2147483648), 2147483647)], [], [(65, none)], [(none, [], [])]), [(2, [some (.inl 64), some (.inl 7), some (.inr (.inl ((-2147483648), 2147483647, none, none))), some (.inr (.inl (0, 6, none, none)))], [((1, 7, 6), 0, 6, some (8006, 0)), ((1, 14, 6), 0, 6, some (15006, 0)), ((1, 76, 0), 0, 6, some (77000, 0)), ((1, 76, 9), 0, 6, some (77009, 0))], 13, [0, 0, 0, (-2)])])]
def bc_X4_join : List ab_C := bq_X4_join.map (fun c => c.1)
def bx_X4_join : ex_K := (RX4, ec_fx fl_X4, ec_cx cl_X4, sl_X4, (fun ix => (ec_no ix).map (fun (q : Nat × Option Nat × List ab_C) => (q.1, q.2.1, ab_sp ab_hd q.2.2))), ec_nz, ec_no)
def bi_X4_join : List (Nat × Instr × Nat) := [(0, .iconst 0, 1), (1, .istore_n 3, 1), (2, .iload_n 3, 1), (3, .aload_n 1, 1), (4, .getfield 15, 3), (7, .if_icmp .ge 25, 3), (10, .iload_n 2, 1), (11, .iload_n 3, 1), (12, .ishr, 1), (13, .iconst 1, 1), (14, .iand, 1), (15, .iconst 1, 1), (16, .if_icmp .ne 10, 3), (19, .aload_n 0, 1), (20, .getfield 9, 3), (23, .iload_n 3, 1), (24, .iload_n 2, 1), (25, .iastore, 1), (26, .iinc 3 1, 3), (29, .goto (-27), 3), (32, .return_, 1)]
def bq_X4_findParts : List (ab_C × List ab_Q) := [(([.inl 64, .inl 7, .inr (0, 2147483647)], [], [(65, none)], [(none, [], [])]), [(2, [some (.inl 64), some (.inl 7), some (.inr (.inl (0, 2147483647, none, none))), some (.inr (.inl (0, 6, none, none)))], [((1, 7, 6), 0, 6, some (8006, 0)), ((1, 14, 6), 0, 6, some (15006, 0)), ((1, 76, 0), 0, 6, some (77000, 0)), ((1, 76, 9), 0, 6, some (77009, 0))], 31, [0, 0, 0, (-2)]), (27, [some (.inl 64), some (.inl 7), some (.inr (.inl (0, 2147483647, none, none))), some (.inr (.inl (0, 8, none, none)))], [((1, 7, 6), 0, 6, some (8006, 0)), ((1, 14, 6), 0, 6, some (15006, 0)), ((1, 76, 0), 0, 6, some (77000, 0)), ((1, 76, 9), 0, 6, some (77009, 0))], 17, [0, 0, 0, (-2)])])]
def bc_X4_findParts : List ab_C := bq_X4_findParts.map (fun c => c.1)
def be_X4_findParts : Nat → Option (Nat × Option Nat × List ab_C) := fun ix => match ix with
  | 59 => some (3, some 4, bc_X4_join)
  | _ => none
def bx_X4_findParts : ex_K := (RX4, ec_fx fl_X4, ec_cx cl_X4, sl_X4, (fun ix => (be_X4_findParts ix).map (fun q => (q.1, q.2.1, ab_sp ab_hd q.2.2))), ec_nz, ec_no)
def bi_X4_findParts : List (Nat × Instr × Nat) := [(0, .iconst 0, 1), (1, .istore_n 3, 1), (2, .iload_n 3, 1), (3, .aload_n 1, 1), (4, .getfield 15, 3), (7, .if_icmp .ge 18, 3), (10, .aload_n 0, 1), (11, .getfield 9, 3), (14, .iload_n 3, 1), (15, .iconst 1, 1), (16, .iload_n 3, 1), (17, .ishl, 1), (18, .iastore, 1), (19, .iinc 3 1, 3), (22, .goto (-20), 3), (25, .iconst 0, 1), (26, .istore_n 3, 1), (27, .iload_n 3, 1), (28, .aload_n 1, 1), (29, .getfield 28, 3), (32, .if_icmp .ge 45, 3), (35, .iload_n 2, 1), (36, .iload_n 3, 1), (37, .ishr, 1), (38, .iconst 1, 1), (39, .iand, 1), (40, .ifCond .ne 31, 3), (43, .aload_n 0, 1), (44, .aload_n 1, 1), (45, .aload_n 0, 1), (46, .getfield 9, 3), (49, .aload_n 1, 1), (50, .getfield 53, 3), (53, .iload_n 3, 1), (54, .iaload, 1), (55, .iaload, 1), (56, .aload_n 0, 1), (57, .getfield 9, 3), (60, .aload_n 1, 1), (61, .getfield 56, 3), (64, .iload_n 3, 1), (65, .iaload, 1), (66, .iaload, 1), (67, .ior, 1), (68, .invokevirtual 59, 3), (71, .iinc 3 1, 3), (74, .goto (-47), 3), (77, .return_, 1)]
def bq_X4_narrow : List (ab_C × List ab_Q) := [(([.inl 64, .inl 7, .inr ((-2147483648), 2147483647), .inr ((-2147483648), 2147483647)], [], [(64, some 1), (65, none)], [(some ((-2147483648), 2147483647, none), [], [])]), [])]
def bc_X4_narrow : List ab_C := bq_X4_narrow.map (fun c => c.1)
def be_X4_narrow : Nat → Option (Nat × Option Nat × List ab_C) := fun ix => match ix with
  | 24 => some (2, some 0, bc_X0_hasModule)
  | 32 => some (3, some 4, bc_X4_findParts)
  | _ => none
def bx_X4_narrow : ex_K := (RX4, ec_fx fl_X4, ec_cx cl_X4, sl_X4, (fun ix => (be_X4_narrow ix).map (fun q => (q.1, q.2.1, ab_sp ab_hd q.2.2))), ec_nz, ec_no)
def bi_X4_narrow : List (Nat × Instr × Nat) := [(0, .aload_n 1, 1), (1, .iload_n 3, 1), (2, .invokevirtual 24, 3), (5, .ifCond .eq 17, 3), (8, .iload_n 2, 1), (9, .ifCond .lt 13, 3), (12, .iload_n 2, 1), (13, .iconst 1, 1), (14, .aload_n 1, 1), (15, .getfield 28, 3), (18, .ishl, 1), (19, .if_icmp .lt 6, 3), (22, .ldc 31, 2), (24, .ireturn, 1), (25, .aload_n 0, 1), (26, .aload_n 1, 1), (27, .iload_n 2, 1), (28, .invokevirtual 32, 3), (31, .aload_n 0, 1), (32, .getfield 21, 3), (35, .aload_n 0, 1), (36, .getfield 9, 3), (39, .iload_n 3, 1), (40, .iaload, 1), (41, .iand, 1), (42, .istore 4, 2), (44, .iload 4, 2), (46, .ifCond .ne 6, 3), (49, .ldc 36, 2), (51, .ireturn, 1), (52, .aload_n 0, 1), (53, .iload 4, 2), (55, .putfield 21, 3), (58, .iload 4, 2), (60, .ireturn, 1)]
def bq_J6_bitCount_0f7a4 : List (ab_C × List ab_Q) := [(([.inr ((-2147483648), 2147483647)], [], [], [(some ((-2147483648), 2147483647, none), [], [])]), [])]
def bc_J6_bitCount_0f7a4 : List ab_C := bq_J6_bitCount_0f7a4.map (fun c => c.1)
def bl_J6_bitCount_0f7a4 : List (Nat × Int32) := [(265, 1431655765), (266, 858993459), (267, 252645135)]
def bx_J6_bitCount_0f7a4 : ex_K := (RJ6, ec_no, ec_cx bl_J6_bitCount_0f7a4, ec_no, (fun ix => (ec_no ix).map (fun (q : Nat × Option Nat × List ab_C) => (q.1, q.2.1, ab_sp ab_hd q.2.2))), ec_nz, ec_no)
def bi_J6_bitCount_0f7a4 : List (Nat × Instr × Nat) := [(0, .iload_n 0, 1), (1, .iload_n 0, 1), (2, .iconst 1, 1), (3, .iushr, 1), (4, .ldc_w 265, 3), (7, .iand, 1), (8, .isub, 1), (9, .istore_n 0, 1), (10, .iload_n 0, 1), (11, .ldc_w 266, 3), (14, .iand, 1), (15, .iload_n 0, 1), (16, .iconst 2, 1), (17, .iushr, 1), (18, .ldc_w 266, 3), (21, .iand, 1), (22, .iadd, 1), (23, .istore_n 0, 1), (24, .iload_n 0, 1), (25, .iload_n 0, 1), (26, .iconst 4, 1), (27, .iushr, 1), (28, .iadd, 1), (29, .ldc_w 267, 3), (32, .iand, 1), (33, .istore_n 0, 1), (34, .iload_n 0, 1), (35, .iload_n 0, 1), (36, .bipush 8, 2), (38, .iushr, 1), (39, .iadd, 1), (40, .istore_n 0, 1), (41, .iload_n 0, 1), (42, .iload_n 0, 1), (43, .bipush 16, 2), (45, .iushr, 1), (46, .iadd, 1), (47, .istore_n 0, 1), (48, .iload_n 0, 1), (49, .bipush 63, 2), (51, .iand, 1), (52, .ireturn, 1)]
def bq_X4_leftAtWorst : List (ab_C × List ab_Q) := [(([.inl 64, .inl 7, .inr (0, 2147483647)], [], [(65, none)], [(some ((-2147483648), 2147483647, none), [], [])]), [(11, [some (.inl 64), some (.inl 7), some (.inr (.inl (0, 2147483647, none, none))), some (.inr (.inl (0, 2147483647, none, none))), some (.inr (.inl (0, 6, none, none)))], [((1, 7, 6), 0, 6, some (8006, 0)), ((1, 14, 6), 0, 6, some (15006, 0)), ((1, 76, 0), 0, 6, some (77000, 0)), ((1, 76, 9), 0, 6, some (77009, 0))], 13, [0, 0, 0, 0, (-2)])])]
def bc_X4_leftAtWorst : List ab_C := bq_X4_leftAtWorst.map (fun c => c.1)
def be_X4_leftAtWorst : Nat → Option (Nat × Option Nat × List ab_C) := fun ix => match ix with
  | 32 => some (3, some 4, bc_X4_findParts)
  | 41 => some (1, none, bc_J6_bitCount_0f7a4)
  | _ => none
def bx_X4_leftAtWorst : ex_K := (RX4, ec_fx fl_X4, ec_cx cl_X4, sl_X4, (fun ix => (be_X4_leftAtWorst ix).map (fun q => (q.1, q.2.1, ab_sp ab_hd q.2.2))), al_X4, ec_no)
def bi_X4_leftAtWorst : List (Nat × Instr × Nat) := [(0, .aload_n 0, 1), (1, .aload_n 1, 1), (2, .iload_n 2, 1), (3, .invokevirtual 32, 3), (6, .iconst 0, 1), (7, .istore_n 3, 1), (8, .iconst 0, 1), (9, .istore 4, 2), (11, .iload 4, 2), (13, .aload_n 1, 1), (14, .getfield 15, 3), (17, .if_icmp .ge 29, 3), (20, .iload_n 3, 1), (21, .aload_n 0, 1), (22, .getfield 9, 3), (25, .iload 4, 2), (27, .iaload, 1), (28, .aload_n 0, 1), (29, .getfield 21, 3), (32, .iand, 1), (33, .invokestatic 41, 3), (36, .invokestatic 47, 3), (39, .istore_n 3, 1), (40, .iinc 4 1, 3), (43, .goto (-32), 3), (46, .iload_n 3, 1), (47, .ireturn, 1)]
def bq_X4_bestTest : List (ab_C × List ab_Q) := [(([.inl 64, .inl 7, .inr ((-2147483648), 2147483647)], [], [(65, none)], [(some ((-2147483648), 2147483647, none), [], [])]), [(43, [some (.inl 64), some (.inl 7), some (.inr (.inl (0, 1, none, none))), some (.inr (.inl (0, 2147483647, none, none))), some (.inr (.inl ((-2147483648), 2147483647, none, none))), some (.inr (.inl ((-2147483648), 2147483647, none, none))), some (.inr (.inl (1, 2147483647, none, none))), none, none], [((1, 7, 6), 0, 6, some (8006, 0)), ((1, 14, 6), 0, 6, some (15006, 0)), ((1, 76, 0), 0, 6, some (77000, 0)), ((1, 76, 9), 0, 6, some (77009, 0))], 4294967295, [0, 0, 0, 0, 0, 0, (-2), 0, 0])])]
def bc_X4_bestTest : List ab_C := bq_X4_bestTest.map (fun c => c.1)
def be_X4_bestTest : Nat → Option (Nat × Option Nat × List ab_C) := fun ix => match ix with
  | 37 => some (3, some 4, bc_X4_leftAtWorst)
  | 41 => some (1, none, bc_J6_bitCount_0f7a4)
  | _ => none
def bx_X4_bestTest : ex_K := (RX4, ec_fx fl_X4, ec_cx cl_X4, sl_X4, (fun ix => (be_X4_bestTest ix).map (fun q => (q.1, q.2.1, ab_sp ab_hd q.2.2))), ec_nz, ec_no)
def bi_X4_bestTest : List (Nat × Instr × Nat) := [(0, .iload_n 2, 1), (1, .ifCond .eq 11, 3), (4, .iload_n 2, 1), (5, .iconst 1, 1), (6, .if_icmp .eq 6, 3), (9, .ldc 31, 2), (11, .ireturn, 1), (12, .aload_n 0, 1), (13, .getfield 21, 3), (16, .ifCond .ne 6, 3), (19, .ldc 36, 2), (21, .ireturn, 1), (22, .iconst 0, 1), (23, .istore_n 3, 1), (24, .aload_n 0, 1), (25, .aload_n 1, 1), (26, .iconst 0, 1), (27, .invokevirtual 37, 3), (30, .istore 4, 2), (32, .iconst 1, 1), (33, .aload_n 1, 1), (34, .getfield 28, 3), (37, .ishl, 1), (38, .istore 5, 2), (40, .iconst 1, 1), (41, .istore 6, 2), (43, .iload 6, 2), (45, .iload 5, 2), (47, .if_icmp .ge 63, 3), (50, .aload_n 0, 1), (51, .aload_n 1, 1), (52, .iload 6, 2), (54, .invokevirtual 37, 3), (57, .istore 7, 2), (59, .iload 6, 2), (61, .invokestatic 41, 3), (64, .iload_n 3, 1), (65, .invokestatic 41, 3), (68, .if_icmp .ge 7, 3), (71, .iconst 1, 1), (72, .goto 4, 3), (75, .iconst 0, 1), (76, .istore 8, 2), (78, .iload 7, 2), (80, .iload 4, 2), (82, .if_icmp .lt 15, 3), (85, .iload 7, 2), (87, .iload 4, 2), (89, .if_icmp .ne 15, 3), (92, .iload 8, 2), (94, .ifCond .eq 10, 3), (97, .iload 6, 2), (99, .istore_n 3, 1), (100, .iload 7, 2), (102, .istore 4, 2), (104, .iinc 6 1, 3), (107, .goto (-64), 3), (110, .iload_n 2, 1), (111, .ifCond .ne 7, 3), (114, .iload_n 3, 1), (115, .goto 5, 3), (118, .iload 4, 2), (120, .ireturn, 1)]
def bq_X5_isSensor : List (ab_C × List ab_Q) := [(([.inr ((-2147483648), 2147483647)], [], [], [(some (0, 0, none), [], []), (some (1, 1, none), [((0, 0, 0), 0, 3, none)], [])]), [])]
def bc_X5_isSensor : List ab_C := bq_X5_isSensor.map (fun c => c.1)
def bx_X5_isSensor : ex_K := (RX5, ec_fx fl_X5, ec_cx cl_X5, sl_X5, (fun ix => (ec_no ix).map (fun (q : Nat × Option Nat × List ab_C) => (q.1, q.2.1, ab_sp ab_hd q.2.2))), ec_nz, ec_no)
def bi_X5_isSensor : List (Nat × Instr × Nat) := [(0, .iload_n 0, 1), (1, .ifCond .lt 12, 3), (4, .iload_n 0, 1), (5, .iconst 4, 1), (6, .if_icmp .ge 7, 3), (9, .iconst 1, 1), (10, .goto 4, 3), (13, .iconst 0, 1), (14, .ireturn, 1)]
def bq_X5_addReading : List (ab_C × List ab_Q) := [(([.inl 66, .inr ((-2147483648), 2147483647), .inr ((-2147483648), 2147483647), .inr ((-2147483648), 2147483647)], [], [(66, some 7), (67, none), (68, none), (69, none), (70, none)], [(some ((-2147483648), 2147483647, none), [], [])]), [])]
def bc_X5_addReading : List ab_C := bq_X5_addReading.map (fun c => c.1)
def be_X5_addReading : Nat → Option (Nat × Option Nat × List ab_C) := fun ix => match ix with
  | 37 => some (1, none, bc_X5_isSensor)
  | _ => none
def bx_X5_addReading : ex_K := (RX5, ec_fx fl_X5, ec_cx cl_X5, sl_X5, (fun ix => (be_X5_addReading ix).map (fun q => (q.1, q.2.1, ab_sp ab_hd q.2.2))), ec_nz, ec_no)
def bi_X5_addReading : List (Nat × Instr × Nat) := [(0, .iload_n 1, 1), (1, .invokestatic 37, 3), (4, .ifCond .eq 17, 3), (7, .iload_n 2, 1), (8, .sipush (-10000), 3), (11, .if_icmp .lt 10, 3), (14, .iload_n 2, 1), (15, .sipush 10000, 3), (18, .if_icmp .le 6, 3), (21, .ldc 41, 2), (23, .ireturn, 1), (24, .aload_n 0, 1), (25, .getfield 42, 3), (28, .bipush 40, 2), (30, .if_icmp .lt 6, 3), (33, .ldc 45, 2), (35, .ireturn, 1), (36, .aload_n 0, 1), (37, .getfield 9, 3), (40, .aload_n 0, 1), (41, .getfield 42, 3), (44, .iload_n 1, 1), (45, .iastore, 1), (46, .aload_n 0, 1), (47, .getfield 15, 3), (50, .aload_n 0, 1), (51, .getfield 42, 3), (54, .iload_n 3, 1), (55, .iastore, 1), (56, .aload_n 0, 1), (57, .getfield 18, 3), (60, .aload_n 0, 1), (61, .getfield 42, 3), (64, .iload_n 2, 1), (65, .iastore, 1), (66, .aload_n 0, 1), (67, .getfield 21, 3), (70, .aload_n 0, 1), (71, .getfield 42, 3), (74, .iload_n 3, 1), (75, .aload_n 0, 1), (76, .getfield 33, 3), (79, .iadd, 1), (80, .iastore, 1), (81, .aload_n 0, 1), (82, .dup, 1), (83, .getfield 42, 3), (86, .iconst 1, 1), (87, .iadd, 1), (88, .putfield 42, 3), (91, .aload_n 0, 1), (92, .getfield 42, 3), (95, .iconst 1, 1), (96, .isub, 1), (97, .ireturn, 1)]
def bq_X5_addCalibration : List (ab_C × List ab_Q) := [(([.inl 66, .inr ((-2147483648), 2147483647), .inr ((-2147483648), 2147483647), .inr ((-2147483648), 2147483647)], [], [(66, some 8), (71, none), (72, none), (73, none)], [(some ((-2147483648), 2147483647, none), [], [])]), [])]
def bc_X5_addCalibration : List ab_C := bq_X5_addCalibration.map (fun c => c.1)
def be_X5_addCalibration : Nat → Option (Nat × Option Nat × List ab_C) := fun ix => match ix with
  | 37 => some (1, none, bc_X5_isSensor)
  | _ => none
def bx_X5_addCalibration : ex_K := (RX5, ec_fx fl_X5, ec_cx cl_X5, sl_X5, (fun ix => (be_X5_addCalibration ix).map (fun q => (q.1, q.2.1, ab_sp ab_hd q.2.2))), ec_nz, ec_no)
def bi_X5_addCalibration : List (Nat × Instr × Nat) := [(0, .iload_n 1, 1), (1, .invokestatic 37, 3), (4, .ifCond .eq 17, 3), (7, .iload_n 2, 1), (8, .sipush (-1000), 3), (11, .if_icmp .lt 10, 3), (14, .iload_n 2, 1), (15, .sipush 1000, 3), (18, .if_icmp .le 6, 3), (21, .ldc 41, 2), (23, .ireturn, 1), (24, .aload_n 0, 1), (25, .getfield 46, 3), (28, .bipush 20, 2), (30, .if_icmp .lt 6, 3), (33, .ldc 45, 2), (35, .ireturn, 1), (36, .aload_n 0, 1), (37, .getfield 24, 3), (40, .aload_n 0, 1), (41, .getfield 46, 3), (44, .iload_n 1, 1), (45, .iastore, 1), (46, .aload_n 0, 1), (47, .getfield 27, 3), (50, .aload_n 0, 1), (51, .getfield 46, 3), (54, .iload_n 3, 1), (55, .iastore, 1), (56, .aload_n 0, 1), (57, .getfield 30, 3), (60, .aload_n 0, 1), (61, .getfield 46, 3), (64, .iload_n 2, 1), (65, .iastore, 1), (66, .aload_n 0, 1), (67, .dup, 1), (68, .getfield 46, 3), (71, .iconst 1, 1), (72, .iadd, 1), (73, .putfield 46, 3), (76, .aload_n 0, 1), (77, .getfield 46, 3), (80, .ireturn, 1)]
def bq_X5_setDelay : List (ab_C × List ab_Q) := [(([.inl 66, .inr ((-2147483648), 2147483647)], [], [(66, some 9)], [(some ((-2147483648), 2147483647, none), [], [])]), [])]
def bc_X5_setDelay : List ab_C := bq_X5_setDelay.map (fun c => c.1)
def bx_X5_setDelay : ex_K := (RX5, ec_fx fl_X5, ec_cx cl_X5, sl_X5, (fun ix => (ec_no ix).map (fun (q : Nat × Option Nat × List ab_C) => (q.1, q.2.1, ab_sp ab_hd q.2.2))), ec_nz, ec_no)
def bi_X5_setDelay : List (Nat × Instr × Nat) := [(0, .iload_n 1, 1), (1, .ifCond .lt 9, 3), (4, .iload_n 1, 1), (5, .bipush 100, 2), (7, .if_icmp .le 6, 3), (10, .ldc 41, 2), (12, .ireturn, 1), (13, .aload_n 0, 1), (14, .getfield 33, 3), (17, .istore_n 2, 1), (18, .aload_n 0, 1), (19, .iload_n 1, 1), (20, .putfield 33, 3), (23, .iload_n 2, 1), (24, .ireturn, 1)]
def bq_X5_latestHeard : List (ab_C × List ab_Q) := [(([.inl 66, .inr ((-2147483648), 2147483647), .inr ((-2147483648), 2147483647)], [], [], [(some ((-2147483648), 2147483647, none), [], [])]), [(28, [some (.inl 66), some (.inr (.inl (0, 3, none, none))), some (.inr (.inl (0, 4000, none, none))), some (.inr (.inl ((-1), 39, none, none)))], [((1, 7, 6), 0, 6, some (8006, 0)), ((1, 14, 6), 0, 6, some (15006, 0)), ((1, 76, 0), 0, 6, some (77000, 0)), ((1, 76, 9), 0, 6, some (77009, 0))], 3, [0, 0, 0, 2])])]
def bc_X5_latestHeard : List ab_C := bq_X5_latestHeard.map (fun c => c.1)
def be_X5_latestHeard : Nat → Option (Nat × Option Nat × List ab_C) := fun ix => match ix with
  | 37 => some (1, none, bc_X5_isSensor)
  | _ => none
def bx_X5_latestHeard : ex_K := (RX5, ec_fx fl_X5, ec_cx cl_X5, sl_X5, (fun ix => (be_X5_latestHeard ix).map (fun q => (q.1, q.2.1, ab_sp ab_hd q.2.2))), ec_nz, ec_no)
def bi_X5_latestHeard : List (Nat × Instr × Nat) := [(0, .iload_n 1, 1), (1, .invokestatic 37, 3), (4, .ifCond .eq 14, 3), (7, .iload_n 2, 1), (8, .ifCond .lt 10, 3), (11, .iload_n 2, 1), (12, .sipush 4000, 3), (15, .if_icmp .le 6, 3), (18, .ldc 41, 2), (20, .ireturn, 1), (21, .aload_n 0, 1), (22, .getfield 42, 3), (25, .iconst 1, 1), (26, .isub, 1), (27, .istore_n 3, 1), (28, .iload_n 3, 1), (29, .ifCond .lt 31, 3), (32, .aload_n 0, 1), (33, .getfield 9, 3), (36, .iload_n 3, 1), (37, .iaload, 1), (38, .iload_n 1, 1), (39, .if_icmp .ne 15, 3), (42, .aload_n 0, 1), (43, .getfield 21, 3), (46, .iload_n 3, 1), (47, .iaload, 1), (48, .iload_n 2, 1), (49, .if_icmp .gt 5, 3), (52, .iload_n 3, 1), (53, .ireturn, 1), (54, .iinc 3 (-1), 3), (57, .goto (-29), 3), (60, .ldc 49, 2), (62, .ireturn, 1)]
def bq_X5_between : List (ab_C × List ab_Q) := [(([.inl 66, .inr (0, 19), .inr (0, 19), .inr ((-2147483648), 2147483647)], [], [], [(some ((-2147483648), 2147483647, none), [], [])]), [])]
def bc_X5_between : List ab_C := bq_X5_between.map (fun c => c.1)
def bx_X5_between : ex_K := (RX5, ec_fx fl_X5, ec_cx cl_X5, sl_X5, (fun ix => (ec_no ix).map (fun (q : Nat × Option Nat × List ab_C) => (q.1, q.2.1, ab_sp ab_hd q.2.2))), ec_nz, ec_no)
def bi_X5_between : List (Nat × Instr × Nat) := [(0, .aload_n 0, 1), (1, .getfield 27, 3), (4, .iload_n 2, 1), (5, .iaload, 1), (6, .aload_n 0, 1), (7, .getfield 27, 3), (10, .iload_n 1, 1), (11, .iaload, 1), (12, .isub, 1), (13, .istore 4, 2), (15, .iload 4, 2), (17, .ifCond .gt 10, 3), (20, .aload_n 0, 1), (21, .getfield 30, 3), (24, .iload_n 1, 1), (25, .iaload, 1), (26, .ireturn, 1), (27, .aload_n 0, 1), (28, .getfield 30, 3), (31, .iload_n 2, 1), (32, .iaload, 1), (33, .aload_n 0, 1), (34, .getfield 30, 3), (37, .iload_n 1, 1), (38, .iaload, 1), (39, .isub, 1), (40, .istore 5, 2), (42, .aload_n 0, 1), (43, .getfield 30, 3), (46, .iload_n 1, 1), (47, .iaload, 1), (48, .iload 5, 2), (50, .iload_n 3, 1), (51, .aload_n 0, 1), (52, .getfield 27, 3), (55, .iload_n 1, 1), (56, .iaload, 1), (57, .isub, 1), (58, .imul, 1), (59, .iload 4, 2), (61, .idiv, 1), (62, .iadd, 1), (63, .ireturn, 1)]
def bq_X5_tooMuch : List (ab_C × List ab_Q) := [(([.inl 66, .inr ((-2147483648), 2147483647), .inr ((-2147483648), 2147483647)], [], [], [(some ((-2147483648), 2147483647, none), [], [])]), [(8, [some (.inl 66), some (.inr (.inl ((-2147483648), 2147483647, none, none))), some (.inr (.inl ((-2147483648), 2147483647, none, none))), some (.inr (.inl ((-1), 19, none, none))), some (.inr (.inl ((-1), 19, none, none))), some (.inr (.inl (0, 20, none, none)))], [((1, 7, 6), 0, 6, some (8006, 0)), ((1, 14, 6), 0, 6, some (15006, 0)), ((1, 76, 0), 0, 6, some (77000, 0)), ((1, 76, 9), 0, 6, some (77009, 0))], 41, [0, 0, 0, 0, 0, (-2)])])]
def bc_X5_tooMuch : List ab_C := bq_X5_tooMuch.map (fun c => c.1)
def be_X5_tooMuch : Nat → Option (Nat × Option Nat × List ab_C) := fun ix => match ix with
  | 54 => some (4, some 5, bc_X5_between)
  | _ => none
def bx_X5_tooMuch : ex_K := (RX5, ec_fx fl_X5, ec_cx cl_X5, sl_X5, (fun ix => (be_X5_tooMuch ix).map (fun q => (q.1, q.2.1, ab_sp ab_hd q.2.2))), ec_nz, ec_no)
def bi_X5_tooMuch : List (Nat × Instr × Nat) := [(0, .iconst (-1), 1), (1, .istore_n 3, 1), (2, .iconst (-1), 1), (3, .istore 4, 2), (5, .iconst 0, 1), (6, .istore 5, 2), (8, .iload 5, 2), (10, .aload_n 0, 1), (11, .getfield 46, 3), (14, .if_icmp .ge 66, 3), (17, .aload_n 0, 1), (18, .getfield 24, 3), (21, .iload 5, 2), (23, .iaload, 1), (24, .iload_n 1, 1), (25, .if_icmp .eq 6, 3), (28, .goto 46, 3), (31, .aload_n 0, 1), (32, .getfield 27, 3), (35, .iload 5, 2), (37, .iaload, 1), (38, .iload_n 2, 1), (39, .if_icmp .gt 9, 3), (42, .iload 5, 2), (44, .istore_n 3, 1), (45, .goto 29, 3), (48, .iload 4, 2), (50, .ifCond .lt 20, 3), (53, .aload_n 0, 1), (54, .getfield 27, 3), (57, .iload 5, 2), (59, .iaload, 1), (60, .aload_n 0, 1), (61, .getfield 27, 3), (64, .iload 4, 2), (66, .iaload, 1), (67, .if_icmp .ne 7, 3), (70, .iload 5, 2), (72, .istore 4, 2), (74, .iinc 5 1, 3), (77, .goto (-69), 3), (80, .iload_n 3, 1), (81, .ifCond .ge 20, 3), (84, .iload 4, 2), (86, .ifCond .ge 7, 3), (89, .iconst 0, 1), (90, .goto 10, 3), (93, .aload_n 0, 1), (94, .getfield 30, 3), (97, .iload 4, 2), (99, .iaload, 1), (100, .ireturn, 1), (101, .iload 4, 2), (103, .ifCond .ge 12, 3), (106, .aload_n 0, 1), (107, .getfield 30, 3), (110, .iload_n 3, 1), (111, .iaload, 1), (112, .goto 11, 3), (115, .aload_n 0, 1), (116, .iload_n 3, 1), (117, .iload 4, 2), (119, .iload_n 2, 1), (120, .invokevirtual 54, 3), (123, .ireturn, 1)]
def bq_X5_workedBack : List (ab_C × List ab_Q) := [(([.inl 66, .inr ((-2147483648), 2147483647)], [], [], [(some ((-2147483648), 2147483647, none), [], [])]), [])]
def bc_X5_workedBack : List ab_C := bq_X5_workedBack.map (fun c => c.1)
def be_X5_workedBack : Nat → Option (Nat × Option Nat × List ab_C) := fun ix => match ix with
  | 50 => some (3, some 5, bc_X5_tooMuch)
  | _ => none
def bx_X5_workedBack : ex_K := (RX5, ec_fx fl_X5, ec_cx cl_X5, sl_X5, (fun ix => (be_X5_workedBack ix).map (fun q => (q.1, q.2.1, ab_sp ab_hd q.2.2))), ec_nz, ec_no)
def bi_X5_workedBack : List (Nat × Instr × Nat) := [(0, .iload_n 1, 1), (1, .ifCond .lt 11, 3), (4, .iload_n 1, 1), (5, .aload_n 0, 1), (6, .getfield 42, 3), (9, .if_icmp .lt 6, 3), (12, .ldc 41, 2), (14, .ireturn, 1), (15, .aload_n 0, 1), (16, .getfield 18, 3), (19, .iload_n 1, 1), (20, .iaload, 1), (21, .aload_n 0, 1), (22, .aload_n 0, 1), (23, .getfield 9, 3), (26, .iload_n 1, 1), (27, .iaload, 1), (28, .aload_n 0, 1), (29, .getfield 15, 3), (32, .iload_n 1, 1), (33, .iaload, 1), (34, .invokevirtual 50, 3), (37, .isub, 1), (38, .ireturn, 1)]
def bq_X6_becomeLike : List (ab_C × List ab_Q) := [(([.inl 50, .inl 21], [], [(50, some 11), (50, some 12), (50, some 13), (50, some 14), (51, none), (52, none), (53, none), (54, none), (55, none), (56, none), (57, none), (58, none), (59, none), (60, none), (61, none)], [(none, [], [])]), [])]
def bc_X6_becomeLike : List ab_C := bq_X6_becomeLike.map (fun c => c.1)
def be_X6_becomeLike : Nat → Option (Nat × Option Nat × List ab_C) := fun ix => match ix with
  | 50 => some (2, none, bc_X9_copy)
  | 54 => some (2, none, bc_X9_copyFlags)
  | _ => none
def bx_X6_becomeLike : ex_K := (RX6, ec_fx fl_X6, ec_cx cl_X6, sl_X6, (fun ix => (be_X6_becomeLike ix).map (fun q => (q.1, q.2.1, ab_sp ab_hd q.2.2))), ec_nz, ec_no)
def bi_X6_becomeLike : List (Nat × Instr × Nat) := [(0, .aload_n 1, 1), (1, .getfield 9, 3), (4, .aload_n 0, 1), (5, .getfield 9, 3), (8, .invokestatic 50, 3), (11, .aload_n 1, 1), (12, .getfield 15, 3), (15, .aload_n 0, 1), (16, .getfield 15, 3), (19, .invokestatic 50, 3), (22, .aload_n 1, 1), (23, .getfield 18, 3), (26, .aload_n 0, 1), (27, .getfield 18, 3), (30, .invokestatic 50, 3), (33, .aload_n 1, 1), (34, .getfield 21, 3), (37, .aload_n 0, 1), (38, .getfield 21, 3), (41, .invokestatic 50, 3), (44, .aload_n 1, 1), (45, .getfield 24, 3), (48, .aload_n 0, 1), (49, .getfield 24, 3), (52, .invokestatic 50, 3), (55, .aload_n 1, 1), (56, .getfield 27, 3), (59, .aload_n 0, 1), (60, .getfield 27, 3), (63, .invokestatic 50, 3), (66, .aload_n 1, 1), (67, .getfield 30, 3), (70, .aload_n 0, 1), (71, .getfield 30, 3), (74, .invokestatic 50, 3), (77, .aload_n 1, 1), (78, .getfield 33, 3), (81, .aload_n 0, 1), (82, .getfield 33, 3), (85, .invokestatic 54, 3), (88, .aload_n 1, 1), (89, .getfield 37, 3), (92, .aload_n 0, 1), (93, .getfield 37, 3), (96, .invokestatic 54, 3), (99, .aload_n 1, 1), (100, .getfield 40, 3), (103, .aload_n 0, 1), (104, .getfield 40, 3), (107, .invokestatic 54, 3), (110, .aload_n 1, 1), (111, .getfield 43, 3), (114, .aload_n 0, 1), (115, .getfield 43, 3), (118, .invokestatic 50, 3), (121, .aload_n 0, 1), (122, .aload_n 1, 1), (123, .getfield 58, 3), (126, .putfield 58, 3), (129, .aload_n 0, 1), (130, .aload_n 1, 1), (131, .getfield 61, 3), (134, .putfield 61, 3), (137, .aload_n 0, 1), (138, .aload_n 1, 1), (139, .getfield 46, 3), (142, .putfield 46, 3), (145, .aload_n 0, 1), (146, .aload_n 1, 1), (147, .getfield 64, 3), (150, .putfield 64, 3), (153, .return_, 1)]
def bq_X6_isKind : List (ab_C × List ab_Q) := [(([.inr ((-2147483648), 2147483647)], [], [], [(some (0, 0, none), [], []), (some (1, 1, none), [((0, 0, 0), 0, 5, none)], [])]), [])]
def bc_X6_isKind : List ab_C := bq_X6_isKind.map (fun c => c.1)
def bx_X6_isKind : ex_K := (RX6, ec_fx fl_X6, ec_cx cl_X6, sl_X6, (fun ix => (ec_no ix).map (fun (q : Nat × Option Nat × List ab_C) => (q.1, q.2.1, ab_sp ab_hd q.2.2))), ec_nz, ec_no)
def bi_X6_isKind : List (Nat × Instr × Nat) := [(0, .iload_n 0, 1), (1, .ifCond .lt 13, 3), (4, .iload_n 0, 1), (5, .bipush 6, 2), (7, .if_icmp .ge 7, 3), (10, .iconst 1, 1), (11, .goto 4, 3), (14, .iconst 0, 1), (15, .ireturn, 1)]
def bq_X6_isUse : List (ab_C × List ab_Q) := [(([.inr ((-2147483648), 2147483647)], [], [], [(some (0, 0, none), [], []), (some (1, 1, none), [((0, 0, 0), 0, 2147483647, none)], [])]), [])]
def bc_X6_isUse : List ab_C := bq_X6_isUse.map (fun c => c.1)
def bx_X6_isUse : ex_K := (RX6, ec_fx fl_X6, ec_cx cl_X6, sl_X6, (fun ix => (ec_no ix).map (fun (q : Nat × Option Nat × List ab_C) => (q.1, q.2.1, ab_sp ab_hd q.2.2))), ec_nz, ec_no)
def bi_X6_isUse : List (Nat × Instr × Nat) := [(0, .iload_n 0, 1), (1, .ifCond .lt 40, 3), (4, .iload_n 0, 1), (5, .ldc 76, 2), (7, .idiv, 1), (8, .bipush 100, 2), (10, .if_icmp .gt 31, 3), (13, .iload_n 0, 1), (14, .sipush 1000, 3), (17, .idiv, 1), (18, .sipush 1000, 3), (21, .irem, 1), (22, .bipush 100, 2), (24, .if_icmp .gt 17, 3), (27, .iload_n 0, 1), (28, .sipush 1000, 3), (31, .irem, 1), (32, .bipush 100, 2), (34, .if_icmp .gt 7, 3), (37, .iconst 1, 1), (38, .goto 4, 3), (41, .iconst 0, 1), (42, .ireturn, 1)]
def bq_X6_addMachine : List (ab_C × List ab_Q) := [(([.inl 21, .inr ((-2147483648), 2147483647), .inr (0, 5), .inr ((-2147483648), 2147483647), .inr ((-2147483648), 2147483647)], [], [(21, some 11), (22, none), (23, none), (24, none), (25, none), (26, none), (27, none), (29, none)], [(some ((-2147483648), 2147483647, none), [], [])]), [])]
def bc_X6_addMachine : List ab_C := bq_X6_addMachine.map (fun c => c.1)
def be_X6_addMachine : Nat → Option (Nat × Option Nat × List ab_C) := fun ix => match ix with
  | 67 => some (1, none, bc_X6_isKind)
  | 71 => some (1, none, bc_X6_isUse)
  | _ => none
def bx_X6_addMachine : ex_K := (RX6, ec_fx fl_X6, ec_cx cl_X6, sl_X6, (fun ix => (be_X6_addMachine ix).map (fun q => (q.1, q.2.1, ab_sp ab_hd q.2.2))), ec_nz, ec_no)
def bi_X6_addMachine : List (Nat × Instr × Nat) := [(0, .iload_n 1, 1), (1, .invokestatic 67, 3), (4, .ifCond .eq 24, 3), (7, .iload_n 3, 1), (8, .invokestatic 71, 3), (11, .ifCond .eq 17, 3), (14, .iload 4, 2), (16, .iconst 1, 1), (17, .if_icmp .lt 11, 3), (20, .iload 4, 2), (22, .sipush 1000, 3), (25, .if_icmp .le 6, 3), (28, .ldc 74, 2), (30, .ireturn, 1), (31, .aload_n 0, 1), (32, .getfield 58, 3), (35, .bipush 10, 2), (37, .if_icmp .lt 6, 3), (40, .ldc 75, 2), (42, .ireturn, 1), (43, .aload_n 0, 1), (44, .getfield 58, 3), (47, .istore 5, 2), (49, .aload_n 0, 1), (50, .getfield 9, 3), (53, .iload 5, 2), (55, .iload_n 1, 1), (56, .iastore, 1), (57, .aload_n 0, 1), (58, .getfield 15, 3), (61, .iload 5, 2), (63, .iload_n 2, 1), (64, .iastore, 1), (65, .aload_n 0, 1), (66, .getfield 18, 3), (69, .iload 5, 2), (71, .iload_n 3, 1), (72, .ldc 76, 2), (74, .idiv, 1), (75, .iastore, 1), (76, .aload_n 0, 1), (77, .getfield 21, 3), (80, .iload 5, 2), (82, .iload_n 3, 1), (83, .sipush 1000, 3), (86, .idiv, 1), (87, .sipush 1000, 3), (90, .irem, 1), (91, .iastore, 1), (92, .aload_n 0, 1), (93, .getfield 24, 3), (96, .iload 5, 2), (98, .iload_n 3, 1), (99, .sipush 1000, 3), (102, .irem, 1), (103, .iastore, 1), (104, .aload_n 0, 1), (105, .getfield 27, 3), (108, .iload 5, 2), (110, .iload 4, 2), (112, .iastore, 1), (113, .aload_n 0, 1), (114, .getfield 33, 3), (117, .iload 5, 2), (119, .iconst 1, 1), (120, .bastore, 1), (121, .aload_n 0, 1), (122, .dup, 1), (123, .getfield 58, 3), (126, .iconst 1, 1), (127, .iadd, 1), (128, .putfield 58, 3), (131, .iload 5, 2), (133, .ireturn, 1)]
def bq_X6_isUnder : List (ab_C × List ab_Q) := [(([.inr (0, 5), .inr (0, 5)], [], [], [(some (0, 1, none), [], [])]), [(4, [some (.inr (.inl (0, 5, none, none))), some (.inr (.inl (0, 5, none, none))), some (.inr (.inl ((-1), 5, none, none))), some (.inr (.inl (0, 6, none, none)))], [((1, 7, 6), 0, 6, some (8006, 0)), ((1, 14, 6), 0, 6, some (15006, 0)), ((1, 76, 0), 0, 6, some (77000, 0)), ((1, 76, 9), 0, 6, some (77009, 0))], 13, [0, 0, 0, (-2)])])]
def bc_X6_isUnder : List ab_C := bq_X6_isUnder.map (fun c => c.1)
def be_X6_isUnder : Nat → Option (Nat × Option Nat × List ab_C) := fun ix => match ix with
  | 67 => some (1, none, bc_X6_isKind)
  | _ => none
def bx_X6_isUnder : ex_K := (RX6, ec_fx fl_X6, ec_cx cl_X6, sl_X6, (fun ix => (be_X6_isUnder ix).map (fun q => (q.1, q.2.1, ab_sp ab_hd q.2.2))), ec_nz, ec_no)
def bi_X6_isUnder : List (Nat × Instr × Nat) := [(0, .iload_n 0, 1), (1, .istore_n 2, 1), (2, .iconst 0, 1), (3, .istore_n 3, 1), (4, .iload_n 3, 1), (5, .bipush 6, 2), (7, .if_icmp .ge 29, 3), (10, .iload_n 2, 1), (11, .invokestatic 67, 3), (14, .ifCond .eq 22, 3), (17, .iload_n 2, 1), (18, .iload_n 1, 1), (19, .if_icmp .ne 5, 3), (22, .iconst 1, 1), (23, .ireturn, 1), (24, .getstatic 85, 3), (27, .iload_n 2, 1), (28, .iaload, 1), (29, .istore_n 2, 1), (30, .iinc 3 1, 3), (33, .goto (-29), 3), (36, .iconst 0, 1), (37, .ireturn, 1)]
def bq_X6_rateAs : List (ab_C × List ab_Q) := [(([.inl 21, .inr ((-2147483648), 2147483647), .inr ((-2147483648), 2147483647)], [], [], [(some ((-2147483648), 2147483647, none), [], [])]), [])]
def bc_X6_rateAs : List ab_C := bq_X6_rateAs.map (fun c => c.1)
def be_X6_rateAs : Nat → Option (Nat × Option Nat × List ab_C) := fun ix => match ix with
  | 77 => some (2, some 6, bc_X6_has)
  | 67 => some (1, none, bc_X6_isKind)
  | 80 => some (2, none, bc_X6_isUnder)
  | _ => none
def bx_X6_rateAs : ex_K := (RX6, ec_fx fl_X6, ec_cx cl_X6, sl_X6, (fun ix => (be_X6_rateAs ix).map (fun q => (q.1, q.2.1, ab_sp ab_hd q.2.2))), ec_nz, ec_no)
def bi_X6_rateAs : List (Nat × Instr × Nat) := [(0, .aload_n 0, 1), (1, .iload_n 1, 1), (2, .invokevirtual 77, 3), (5, .ifCond .eq 10, 3), (8, .iload_n 2, 1), (9, .invokestatic 67, 3), (12, .ifCond .ne 6, 3), (15, .ldc 74, 2), (17, .ireturn, 1), (18, .aload_n 0, 1), (19, .getfield 9, 3), (22, .iload_n 1, 1), (23, .iaload, 1), (24, .iload_n 2, 1), (25, .invokestatic 80, 3), (28, .ifCond .eq 12, 3), (31, .aload_n 0, 1), (32, .getfield 18, 3), (35, .iload_n 1, 1), (36, .iaload, 1), (37, .goto 5, 3), (40, .ldc 84, 2), (42, .ireturn, 1)]
def bq_X6_setOn : List (ab_C × List ab_Q) := [(([.inl 21, .inr ((-2147483648), 2147483647), .inr ((-2147483648), 2147483647)], [], [(29, none)], [(some ((-2147483648), 2147483647, none), [], [])]), []),
  (([.inl 50, .inr ((-2147483648), 2147483647), .inr (0, 1)], [], [(58, none)], [(some ((-2147483648), 2147483647, none), [], [])]), [])]
def bc_X6_setOn : List ab_C := bq_X6_setOn.map (fun c => c.1)
def be_X6_setOn : Nat → Option (Nat × Option Nat × List ab_C) := fun ix => match ix with
  | 77 => some (2, some 6, bc_X6_has)
  | 88 => some (1, none, bc_X9_isSwitch)
  | 91 => some (1, none, bc_X9_one)
  | _ => none
def bx_X6_setOn : ex_K := (RX6, ec_fx fl_X6, ec_cx cl_X6, sl_X6, (fun ix => (be_X6_setOn ix).map (fun q => (q.1, q.2.1, ab_sp ab_hd q.2.2))), ec_nz, ec_no)
def bi_X6_setOn : List (Nat × Instr × Nat) := [(0, .aload_n 0, 1), (1, .iload_n 1, 1), (2, .invokevirtual 77, 3), (5, .ifCond .eq 10, 3), (8, .iload_n 2, 1), (9, .invokestatic 88, 3), (12, .ifCond .ne 6, 3), (15, .ldc 74, 2), (17, .ireturn, 1), (18, .aload_n 0, 1), (19, .getfield 33, 3), (22, .iload_n 1, 1), (23, .baload, 1), (24, .invokestatic 91, 3), (27, .istore_n 3, 1), (28, .aload_n 0, 1), (29, .getfield 33, 3), (32, .iload_n 1, 1), (33, .iload_n 2, 1), (34, .iconst 1, 1), (35, .if_icmp .ne 7, 3), (38, .iconst 1, 1), (39, .goto 4, 3), (42, .iconst 0, 1), (43, .bastore, 1), (44, .iload_n 3, 1), (45, .ireturn, 1)]
def bq_X6_tellOf : List (ab_C × List ab_Q) := [(([.inl 21, .inr ((-2147483648), 2147483647), .inr ((-2147483648), 2147483647)], [], [], [(some ((-2147483648), 2147483647, none), [], [])]), [])]
def bc_X6_tellOf : List ab_C := bq_X6_tellOf.map (fun c => c.1)
def be_X6_tellOf : Nat → Option (Nat × Option Nat × List ab_C) := fun ix => match ix with
  | 77 => some (2, some 6, bc_X6_has)
  | 91 => some (1, none, bc_X9_one)
  | _ => none
def bx_X6_tellOf : ex_K := (RX6, ec_fx fl_X6, ec_cx cl_X6, sl_X6, (fun ix => (be_X6_tellOf ix).map (fun q => (q.1, q.2.1, ab_sp ab_hd q.2.2))), ec_nz, ec_no)
def bi_X6_tellOf : List (Nat × Instr × Nat) := [(0, .aload_n 0, 1), (1, .iload_n 1, 1), (2, .invokevirtual 77, 3), (5, .ifCond .ne 6, 3), (8, .ldc 74, 2), (10, .ireturn, 1), (11, .iload_n 2, 1), (12, .tableswitch 124 0 8 #[52, 59, 66, 73, 80, 87, 97, 107, 117], 52), (64, .aload_n 0, 1), (65, .getfield 9, 3), (68, .iload_n 1, 1), (69, .iaload, 1), (70, .ireturn, 1), (71, .aload_n 0, 1), (72, .getfield 15, 3), (75, .iload_n 1, 1), (76, .iaload, 1), (77, .ireturn, 1), (78, .aload_n 0, 1), (79, .getfield 21, 3), (82, .iload_n 1, 1), (83, .iaload, 1), (84, .ireturn, 1), (85, .aload_n 0, 1), (86, .getfield 24, 3), (89, .iload_n 1, 1), (90, .iaload, 1), (91, .ireturn, 1), (92, .aload_n 0, 1), (93, .getfield 30, 3), (96, .iload_n 1, 1), (97, .iaload, 1), (98, .ireturn, 1), (99, .aload_n 0, 1), (100, .getfield 33, 3), (103, .iload_n 1, 1), (104, .baload, 1), (105, .invokestatic 91, 3), (108, .ireturn, 1), (109, .aload_n 0, 1), (110, .getfield 37, 3), (113, .iload_n 1, 1), (114, .baload, 1), (115, .invokestatic 91, 3), (118, .ireturn, 1), (119, .aload_n 0, 1), (120, .getfield 40, 3), (123, .iload_n 1, 1), (124, .baload, 1), (125, .invokestatic 91, 3), (128, .ireturn, 1), (129, .aload_n 0, 1), (130, .getfield 27, 3), (133, .iload_n 1, 1), (134, .iaload, 1), (135, .ireturn, 1), (136, .ldc 74, 2), (138, .ireturn, 1)]
def bq_X6_setSpares : List (ab_C × List ab_Q) := [(([.inl 21, .inr ((-2147483648), 2147483647), .inr ((-2147483648), 2147483647)], [], [(32, none)], [(some ((-2147483648), 2147483647, none), [], [])]), [])]
def bc_X6_setSpares : List ab_C := bq_X6_setSpares.map (fun c => c.1)
def be_X6_setSpares : Nat → Option (Nat × Option Nat × List ab_C) := fun ix => match ix with
  | 67 => some (1, none, bc_X6_isKind)
  | _ => none
def bx_X6_setSpares : ex_K := (RX6, ec_fx fl_X6, ec_cx cl_X6, sl_X6, (fun ix => (be_X6_setSpares ix).map (fun q => (q.1, q.2.1, ab_sp ab_hd q.2.2))), ec_nz, ec_no)
def bi_X6_setSpares : List (Nat × Instr × Nat) := [(0, .iload_n 1, 1), (1, .invokestatic 67, 3), (4, .ifCond .eq 14, 3), (7, .iload_n 2, 1), (8, .iconst (-1), 1), (9, .if_icmp .lt 9, 3), (12, .iload_n 2, 1), (13, .bipush 20, 2), (15, .if_icmp .le 6, 3), (18, .ldc 74, 2), (20, .ireturn, 1), (21, .aload_n 0, 1), (22, .getfield 43, 3), (25, .iload_n 1, 1), (26, .iaload, 1), (27, .istore_n 3, 1), (28, .iload_n 2, 1), (29, .iconst (-1), 1), (30, .if_icmp .eq 10, 3), (33, .aload_n 0, 1), (34, .getfield 43, 3), (37, .iload_n 1, 1), (38, .iload_n 2, 1), (39, .iastore, 1), (40, .iload_n 3, 1), (41, .ireturn, 1)]
def bq_X6_setSun : List (ab_C × List ab_Q) := [(([.inl 21, .inr ((-2147483648), 2147483647), .inr ((-2147483648), 2147483647)], [], [(21, some 12), (21, some 13), (21, some 14)], [(some ((-2147483648), 2147483647, none), [], [])]), [])]
def bc_X6_setSun : List ab_C := bq_X6_setSun.map (fun c => c.1)
def bx_X6_setSun : ex_K := (RX6, ec_fx fl_X6, ec_cx cl_X6, sl_X6, (fun ix => (ec_no ix).map (fun (q : Nat × Option Nat × List ab_C) => (q.1, q.2.1, ab_sp ab_hd q.2.2))), al_X6, ec_no)
def bi_X6_setSun : List (Nat × Instr × Nat) := [(0, .iload_n 1, 1), (1, .ifCond .lt 21, 3), (4, .iload_n 1, 1), (5, .sipush 500, 3), (8, .if_icmp .gt 14, 3), (11, .iload_n 2, 1), (12, .ifCond .lt 10, 3), (15, .iload_n 2, 1), (16, .sipush 5000, 3), (19, .if_icmp .le 6, 3), (22, .ldc 74, 2), (24, .ireturn, 1), (25, .aload_n 0, 1), (26, .iload_n 1, 1), (27, .putfield 61, 3), (30, .aload_n 0, 1), (31, .iload_n 2, 1), (32, .putfield 46, 3), (35, .aload_n 0, 1), (36, .aload_n 0, 1), (37, .getfield 64, 3), (40, .aload_n 0, 1), (41, .getfield 46, 3), (44, .invokestatic 95, 3), (47, .putfield 64, 3), (50, .aload_n 0, 1), (51, .getfield 64, 3), (54, .ireturn, 1)]
def bq_X6_setBattery : List (ab_C × List ab_Q) := [(([.inl 21, .inr ((-2147483648), 2147483647)], [], [(21, some 14)], [(some ((-2147483648), 2147483647, none), [], [])]), [])]
def bc_X6_setBattery : List ab_C := bq_X6_setBattery.map (fun c => c.1)
def bx_X6_setBattery : ex_K := (RX6, ec_fx fl_X6, ec_cx cl_X6, sl_X6, (fun ix => (ec_no ix).map (fun (q : Nat × Option Nat × List ab_C) => (q.1, q.2.1, ab_sp ab_hd q.2.2))), ec_nz, ec_no)
def bi_X6_setBattery : List (Nat × Instr × Nat) := [(0, .iload_n 1, 1), (1, .iconst (-1), 1), (2, .if_icmp .lt 11, 3), (5, .iload_n 1, 1), (6, .aload_n 0, 1), (7, .getfield 46, 3), (10, .if_icmp .le 6, 3), (13, .ldc 74, 2), (15, .ireturn, 1), (16, .aload_n 0, 1), (17, .getfield 64, 3), (20, .istore_n 2, 1), (21, .iload_n 1, 1), (22, .iconst (-1), 1), (23, .if_icmp .eq 8, 3), (26, .aload_n 0, 1), (27, .iload_n 1, 1), (28, .putfield 64, 3), (31, .iload_n 2, 1), (32, .ireturn, 1)]
def bq_X6_isReady : List (ab_C × List ab_Q) := [(([.inl 21, .inr (0, 9)], [], [], [(some (0, 0, none), [], []), (some (1, 1, none), [], [])]), []),
  (([.inl 50, .inr (0, 9)], [], [], [(some (0, 0, none), [], []), (some (1, 1, none), [], [])]), [])]
def bc_X6_isReady : List ab_C := bq_X6_isReady.map (fun c => c.1)
def bx_X6_isReady : ex_K := (RX6, ec_fx fl_X6, ec_cx cl_X6, sl_X6, (fun ix => (ec_no ix).map (fun (q : Nat × Option Nat × List ab_C) => (q.1, q.2.1, ab_sp ab_hd q.2.2))), ec_nz, ec_no)
def bi_X6_isReady : List (Nat × Instr × Nat) := [(0, .aload_n 0, 1), (1, .getfield 33, 3), (4, .iload_n 1, 1), (5, .baload, 1), (6, .ifCond .eq 16, 3), (9, .aload_n 0, 1), (10, .getfield 37, 3), (13, .iload_n 1, 1), (14, .baload, 1), (15, .ifCond .ne 7, 3), (18, .iconst 1, 1), (19, .goto 4, 3), (22, .iconst 0, 1), (23, .ireturn, 1)]
def bq_X6_sharePower : List (ab_C × List ab_Q) := [(([.inl 21, .inr ((-2147483648), 2147483647)], [], [(21, some 14), (31, none)], [(none, [], [])]), [(36, [some (.inl 21), some (.inr (.inl ((-2147483648), 2147483647, none, none))), some (.inr (.inl (0, 1, none, none))), some (.inr (.inl ((-2147483648), 2147483647, none, none))), some (.inr (.inl (0, 10, none, none)))], [((1, 7, 6), 0, 6, some (8006, 0)), ((1, 14, 6), 0, 6, some (15006, 0)), ((1, 76, 0), 0, 6, some (77000, 0)), ((1, 76, 9), 0, 6, some (77009, 0))], 21, [0, 0, 0, 0, (-2)])]),
  (([.inl 50, .inr ((-2147483648), 2147483647)], [], [(50, some 14), (60, none)], [(none, [], [])]), [(36, [some (.inl 50), some (.inr (.inl ((-2147483648), 2147483647, none, none))), some (.inr (.inl (0, 1, none, none))), some (.inr (.inl ((-2147483648), 2147483647, none, none))), some (.inr (.inl (0, 10, none, none)))], [((1, 7, 6), 0, 6, some (8006, 0)), ((1, 14, 6), 0, 6, some (15006, 0)), ((1, 76, 0), 0, 6, some (77000, 0)), ((1, 76, 9), 0, 6, some (77009, 0))], 21, [0, 0, 0, 0, (-2)])])]
def bc_X6_sharePower : List ab_C := bq_X6_sharePower.map (fun c => c.1)
def be_X6_sharePower : Nat → Option (Nat × Option Nat × List ab_C) := fun ix => match ix with
  | 101 => some (2, some 6, bc_X6_isReady)
  | _ => none
def bx_X6_sharePower : ex_K := (RX6, ec_fx fl_X6, ec_cx cl_X6, sl_X6, (fun ix => (be_X6_sharePower ix).map (fun q => (q.1, q.2.1, ab_sp ab_hd q.2.2))), al_X6, ec_no)
def bi_X6_sharePower : List (Nat × Instr × Nat) := [(0, .iload_n 1, 1), (1, .bipush 9, 2), (3, .irem, 1), (4, .bipush 6, 2), (6, .if_icmp .ge 7, 3), (9, .iconst 1, 1), (10, .goto 4, 3), (13, .iconst 0, 1), (14, .istore_n 2, 1), (15, .aload_n 0, 1), (16, .getfield 64, 3), (19, .iload_n 2, 1), (20, .ifCond .eq 10, 3), (23, .aload_n 0, 1), (24, .getfield 61, 3), (27, .goto 4, 3), (30, .iconst 0, 1), (31, .iadd, 1), (32, .istore_n 3, 1), (33, .iconst 0, 1), (34, .istore 4, 2), (36, .iload 4, 2), (38, .aload_n 0, 1), (39, .getfield 58, 3), (42, .if_icmp .ge 61, 3), (45, .aload_n 0, 1), (46, .getfield 40, 3), (49, .iload 4, 2), (51, .aload_n 0, 1), (52, .iload 4, 2), (54, .invokevirtual 101, 3), (57, .ifCond .eq 18, 3), (60, .iload_n 3, 1), (61, .aload_n 0, 1), (62, .getfield 21, 3), (65, .iload 4, 2), (67, .iaload, 1), (68, .if_icmp .lt 7, 3), (71, .iconst 1, 1), (72, .goto 4, 3), (75, .iconst 0, 1), (76, .bastore, 1), (77, .aload_n 0, 1), (78, .getfield 40, 3), (81, .iload 4, 2), (83, .baload, 1), (84, .ifCond .eq 13, 3), (87, .iload_n 3, 1), (88, .aload_n 0, 1), (89, .getfield 21, 3), (92, .iload 4, 2), (94, .iaload, 1), (95, .isub, 1), (96, .istore_n 3, 1), (97, .iinc 4 1, 3), (100, .goto (-64), 3), (103, .aload_n 0, 1), (104, .iload_n 3, 1), (105, .aload_n 0, 1), (106, .getfield 46, 3), (109, .invokestatic 95, 3), (112, .putfield 64, 3), (115, .return_, 1)]
def bq_X6_split : List (ab_C × List ab_Q) := [(([.inl 21, .inr (0, 9), .inl 7], [], [(8, none), (13, none)], [(none, [], [])]), []),
  (([.inl 50, .inr (0, 9), .inl 36], [], [(37, none), (42, none)], [(none, [], [])]), [])]
def bc_X6_split : List ab_C := bq_X6_split.map (fun c => c.1)
def be_X6_split : Nat → Option (Nat × Option Nat × List ab_C) := fun ix => match ix with
  | 128 => some (3, some 0, bc_X0_draw)
  | 108 => some (4, some 0, bc_X0_give)
  | 118 => some (3, some 0, bc_X0_fill)
  | _ => none
def bx_X6_split : ex_K := (RX6, ec_fx fl_X6, ec_cx cl_X6, sl_X6, (fun ix => (be_X6_split ix).map (fun q => (q.1, q.2.1, ab_sp ab_hd q.2.2))), ec_nz, ec_no)
def bi_X6_split : List (Nat × Instr × Nat) := [(0, .aload_n 2, 1), (1, .iconst 0, 1), (2, .aload_n 0, 1), (3, .getfield 18, 3), (6, .iload_n 1, 1), (7, .iaload, 1), (8, .invokevirtual 128, 3), (11, .istore_n 3, 1), (12, .iload_n 3, 1), (13, .bipush 8, 2), (15, .imul, 1), (16, .bipush 9, 2), (18, .idiv, 1), (19, .istore 4, 2), (21, .aload_n 2, 1), (22, .aload_n 0, 1), (23, .getfield 15, 3), (26, .iload_n 1, 1), (27, .iaload, 1), (28, .iconst 0, 1), (29, .iload 4, 2), (31, .invokevirtual 108, 3), (34, .aload_n 2, 1), (35, .iconst 4, 1), (36, .iload_n 3, 1), (37, .iload 4, 2), (39, .isub, 1), (40, .invokevirtual 118, 3), (43, .return_, 1)]
def bq_X6_distil : List (ab_C × List ab_Q) := [(([.inl 21, .inr (0, 9), .inl 7], [], [(13, none)], [(none, [], [])]), []),
  (([.inl 50, .inr (0, 9), .inl 36], [], [(42, none)], [(none, [], [])]), [])]
def bc_X6_distil : List ab_C := bq_X6_distil.map (fun c => c.1)
def be_X6_distil : Nat → Option (Nat × Option Nat × List ab_C) := fun ix => match ix with
  | 128 => some (3, some 0, bc_X0_draw)
  | 118 => some (3, some 0, bc_X0_fill)
  | _ => none
def bx_X6_distil : ex_K := (RX6, ec_fx fl_X6, ec_cx cl_X6, sl_X6, (fun ix => (be_X6_distil ix).map (fun q => (q.1, q.2.1, ab_sp ab_hd q.2.2))), ec_nz, ec_no)
def bi_X6_distil : List (Nat × Instr × Nat) := [(0, .aload_n 2, 1), (1, .iconst 1, 1), (2, .aload_n 0, 1), (3, .getfield 18, 3), (6, .iload_n 1, 1), (7, .iaload, 1), (8, .invokevirtual 128, 3), (11, .istore_n 3, 1), (12, .iload_n 3, 1), (13, .iconst 3, 1), (14, .imul, 1), (15, .iconst 4, 1), (16, .idiv, 1), (17, .istore 4, 2), (19, .aload_n 2, 1), (20, .iconst 0, 1), (21, .iload 4, 2), (23, .invokevirtual 118, 3), (26, .aload_n 2, 1), (27, .iconst 2, 1), (28, .iload_n 3, 1), (29, .iload 4, 2), (31, .isub, 1), (32, .invokevirtual 118, 3), (35, .return_, 1)]
def bq_X6_work : List (ab_C × List ab_Q) := [(([.inl 21, .inr (0, 9), .inl 7], [], [(8, none), (13, none)], [(none, [], [])]), []),
  (([.inl 50, .inr (0, 9), .inl 36], [], [(37, none), (42, none)], [(none, [], [])]), [])]
def bc_X6_work : List ab_C := bq_X6_work.map (fun c => c.1)
def be_X6_work : Nat → Option (Nat × Option Nat × List ab_C) := fun ix => match ix with
  | 114 => some (4, some 0, bc_X0_take)
  | 118 => some (3, some 0, bc_X0_fill)
  | 122 => some (3, some 6, bc_X6_split)
  | 125 => some (3, some 6, bc_X6_distil)
  | _ => none
def bx_X6_work : ex_K := (RX6, ec_fx fl_X6, ec_cx cl_X6, sl_X6, (fun ix => (be_X6_work ix).map (fun q => (q.1, q.2.1, ab_sp ab_hd q.2.2))), ec_nz, ec_no)
def bi_X6_work : List (Nat × Instr × Nat) := [(0, .aload_n 0, 1), (1, .getfield 9, 3), (4, .iload_n 1, 1), (5, .iaload, 1), (6, .tableswitch 130 1 5 #[34, 59, 68, 93, 102], 34), (40, .aload_n 2, 1), (41, .iconst 3, 1), (42, .aload_n 2, 1), (43, .aload_n 0, 1), (44, .getfield 15, 3), (47, .iload_n 1, 1), (48, .iaload, 1), (49, .iconst 1, 1), (50, .aload_n 0, 1), (51, .getfield 18, 3), (54, .iload_n 1, 1), (55, .iaload, 1), (56, .invokevirtual 114, 3), (59, .invokevirtual 118, 3), (62, .goto 74, 3), (65, .aload_n 0, 1), (66, .iload_n 1, 1), (67, .aload_n 2, 1), (68, .invokevirtual 122, 3), (71, .goto 65, 3), (74, .aload_n 2, 1), (75, .iconst 0, 1), (76, .aload_n 2, 1), (77, .aload_n 0, 1), (78, .getfield 15, 3), (81, .iload_n 1, 1), (82, .iaload, 1), (83, .iconst 2, 1), (84, .aload_n 0, 1), (85, .getfield 18, 3), (88, .iload_n 1, 1), (89, .iaload, 1), (90, .invokevirtual 114, 3), (93, .invokevirtual 118, 3), (96, .goto 40, 3), (99, .aload_n 0, 1), (100, .iload_n 1, 1), (101, .aload_n 2, 1), (102, .invokevirtual 125, 3), (105, .goto 31, 3), (108, .aload_n 2, 1), (109, .iconst 5, 1), (110, .aload_n 2, 1), (111, .aload_n 0, 1), (112, .getfield 15, 3), (115, .iload_n 1, 1), (116, .iaload, 1), (117, .iconst 4, 1), (118, .bipush 10, 2), (120, .aload_n 0, 1), (121, .getfield 18, 3), (124, .iload_n 1, 1), (125, .iaload, 1), (126, .imul, 1), (127, .invokevirtual 114, 3), (130, .invokevirtual 118, 3), (133, .goto 3, 3), (136, .return_, 1)]
def bq_X6_workAll : List (ab_C × List ab_Q) := [(([.inl 21, .inl 7], [], [(8, none), (13, none), (28, none), (30, none)], [(none, [], [])]), [(2, [some (.inl 21), some (.inl 7), some (.inr (.inl (0, 10, none, none)))], [((1, 7, 6), 0, 6, some (8006, 0)), ((1, 14, 6), 0, 6, some (15006, 0)), ((1, 76, 0), 0, 6, some (77000, 0)), ((1, 76, 9), 0, 6, some (77009, 0))], 21, [0, 0, (-2)])]),
  (([.inl 50, .inl 36], [], [(37, none), (42, none), (57, none), (59, none)], [(none, [], [])]), [(2, [some (.inl 50), some (.inl 36), some (.inr (.inl (0, 10, none, none)))], [((1, 7, 6), 0, 6, some (8006, 0)), ((1, 14, 6), 0, 6, some (15006, 0)), ((1, 76, 0), 0, 6, some (77000, 0)), ((1, 76, 9), 0, 6, some (77009, 0))], 21, [0, 0, (-2)])])]
def bc_X6_workAll : List ab_C := bq_X6_workAll.map (fun c => c.1)
def be_X6_workAll : Nat → Option (Nat × Option Nat × List ab_C) := fun ix => match ix with
  | 104 => some (3, some 6, bc_X6_work)
  | 108 => some (4, some 0, bc_X0_give)
  | _ => none
def bx_X6_workAll : ex_K := (RX6, ec_fx fl_X6, ec_cx cl_X6, sl_X6, (fun ix => (be_X6_workAll ix).map (fun q => (q.1, q.2.1, ab_sp ab_hd q.2.2))), ec_nz, ec_no)
def bi_X6_workAll : List (Nat × Instr × Nat) := [(0, .iconst 0, 1), (1, .istore_n 2, 1), (2, .iload_n 2, 1), (3, .aload_n 0, 1), (4, .getfield 58, 3), (7, .if_icmp .ge 72, 3), (10, .aload_n 0, 1), (11, .getfield 40, 3), (14, .iload_n 2, 1), (15, .baload, 1), (16, .ifCond .eq 57, 3), (19, .aload_n 0, 1), (20, .iload_n 2, 1), (21, .aload_n 1, 1), (22, .invokevirtual 104, 3), (25, .aload_n 0, 1), (26, .getfield 30, 3), (29, .iload_n 2, 1), (30, .dup2, 1), (31, .iaload, 1), (32, .iconst 1, 1), (33, .iadd, 1), (34, .iastore, 1), (35, .aload_n 1, 1), (36, .aload_n 0, 1), (37, .getfield 15, 3), (40, .iload_n 2, 1), (41, .iaload, 1), (42, .iconst 4, 1), (43, .iconst 2, 1), (44, .invokevirtual 108, 3), (47, .aload_n 0, 1), (48, .getfield 37, 3), (51, .iload_n 2, 1), (52, .aload_n 0, 1), (53, .getfield 30, 3), (56, .iload_n 2, 1), (57, .iaload, 1), (58, .aload_n 0, 1), (59, .getfield 27, 3), (62, .iload_n 2, 1), (63, .iaload, 1), (64, .if_icmp .lt 7, 3), (67, .iconst 1, 1), (68, .goto 4, 3), (71, .iconst 0, 1), (72, .bastore, 1), (73, .iinc 2 1, 3), (76, .goto (-74), 3), (79, .return_, 1)]
def bq_X6_readySet : List (ab_C × List ab_Q) := [(([.inl 21], [], [], [(some ((-2147483648), 2147483647, none), [], [])]), [(4, [some (.inl 21), some (.inr (.inl ((-2147483648), 2147483647, none, none))), some (.inr (.inl (0, 10, none, none)))], [((1, 7, 6), 0, 6, some (8006, 0)), ((1, 14, 6), 0, 6, some (15006, 0)), ((1, 76, 0), 0, 6, some (77000, 0)), ((1, 76, 9), 0, 6, some (77009, 0))], 21, [0, 0, (-2)])])]
def bc_X6_readySet : List ab_C := bq_X6_readySet.map (fun c => c.1)
def be_X6_readySet : Nat → Option (Nat × Option Nat × List ab_C) := fun ix => match ix with
  | 101 => some (2, some 6, bc_X6_isReady)
  | _ => none
def bx_X6_readySet : ex_K := (RX6, ec_fx fl_X6, ec_cx cl_X6, sl_X6, (fun ix => (be_X6_readySet ix).map (fun q => (q.1, q.2.1, ab_sp ab_hd q.2.2))), ec_nz, ec_no)
def bi_X6_readySet : List (Nat × Instr × Nat) := [(0, .iconst 0, 1), (1, .istore_n 1, 1), (2, .iconst 0, 1), (3, .istore_n 2, 1), (4, .iload_n 2, 1), (5, .aload_n 0, 1), (6, .getfield 58, 3), (9, .if_icmp .ge 23, 3), (12, .aload_n 0, 1), (13, .iload_n 2, 1), (14, .invokevirtual 101, 3), (17, .ifCond .eq 9, 3), (20, .iload_n 1, 1), (21, .iconst 1, 1), (22, .iload_n 2, 1), (23, .ishl, 1), (24, .ior, 1), (25, .istore_n 1, 1), (26, .iinc 2 1, 3), (29, .goto (-25), 3), (32, .iload_n 1, 1), (33, .ireturn, 1)]
def bq_X6_sumOver : List (ab_C × List ab_Q) := [(([.inl 21, .inr ((-2147483648), 2147483647), .inl 26], [], [], [(some ((-2147483648), 2147483647, none), [], [])]), [(5, [some (.inl 21), some (.inr (.inl ((-2147483648), 2147483647, none, none))), some (.inl 26), some (.inr (.inl ((-2147483648), 2147483647, none, none))), some (.inr (.inl (0, 10, none, none)))], [((1, 7, 6), 0, 6, some (8006, 0)), ((1, 14, 6), 0, 6, some (15006, 0)), ((1, 76, 0), 0, 6, some (77000, 0)), ((1, 76, 9), 0, 6, some (77009, 0))], 21, [0, 0, 0, 0, (-2)])]),
  (([.inl 21, .inr ((-2147483648), 2147483647), .inl 25], [], [], [(some ((-2147483648), 2147483647, none), [], [])]), [(5, [some (.inl 21), some (.inr (.inl ((-2147483648), 2147483647, none, none))), some (.inl 25), some (.inr (.inl ((-2147483648), 2147483647, none, none))), some (.inr (.inl (0, 10, none, none)))], [((1, 7, 6), 0, 6, some (8006, 0)), ((1, 14, 6), 0, 6, some (15006, 0)), ((1, 76, 0), 0, 6, some (77000, 0)), ((1, 76, 9), 0, 6, some (77009, 0))], 21, [0, 0, 0, 0, (-2)])])]
def bc_X6_sumOver : List ab_C := bq_X6_sumOver.map (fun c => c.1)
def bx_X6_sumOver : ex_K := (RX6, ec_fx fl_X6, ec_cx cl_X6, sl_X6, (fun ix => (ec_no ix).map (fun (q : Nat × Option Nat × List ab_C) => (q.1, q.2.1, ab_sp ab_hd q.2.2))), ec_nz, ec_no)
def bi_X6_sumOver : List (Nat × Instr × Nat) := [(0, .iconst 0, 1), (1, .istore_n 3, 1), (2, .iconst 0, 1), (3, .istore 4, 2), (5, .iload 4, 2), (7, .aload_n 0, 1), (8, .getfield 58, 3), (11, .if_icmp .ge 26, 3), (14, .iload_n 1, 1), (15, .iload 4, 2), (17, .ishr, 1), (18, .iconst 1, 1), (19, .iand, 1), (20, .iconst 1, 1), (21, .if_icmp .ne 10, 3), (24, .iload_n 3, 1), (25, .aload_n 2, 1), (26, .iload 4, 2), (28, .iaload, 1), (29, .iadd, 1), (30, .istore_n 3, 1), (31, .iinc 4 1, 3), (34, .goto (-29), 3), (37, .iload_n 3, 1), (38, .ireturn, 1)]
def bq_X6_leastHarm : List (ab_C × List ab_Q) := [(([.inl 21, .inr (0, 1000)], [], [], [(some ((-2147483648), 2147483647, none), [], [])]), [(21, [some (.inl 21), some (.inr (.inl (0, 1000, none, none))), some (.inr (.inl ((-2147483648), 2147483647, none, none))), some (.inr (.inl ((-2147483648), 2147483647, none, none))), some (.inr (.inl ((-2147483648), 2147483647, none, none))), some (.inr (.inl (0, 2147483647, none, none))), none, none], [((1, 7, 6), 0, 6, some (8006, 0)), ((1, 14, 6), 0, 6, some (15006, 0)), ((1, 76, 0), 0, 6, some (77000, 0)), ((1, 76, 9), 0, 6, some (77009, 0))], 4294967295, [0, 0, 0, 0, 0, (-2), 0, 0])])]
def bc_X6_leastHarm : List ab_C := bq_X6_leastHarm.map (fun c => c.1)
def be_X6_leastHarm : Nat → Option (Nat × Option Nat × List ab_C) := fun ix => match ix with
  | 139 => some (1, some 6, bc_X6_readySet)
  | 135 => some (3, some 6, bc_X6_sumOver)
  | 143 => some (1, none, bc_J6_bitCount_0f7a4)
  | _ => none
def bx_X6_leastHarm : ex_K := (RX6, ec_fx fl_X6, ec_cx cl_X6, sl_X6, (fun ix => (be_X6_leastHarm ix).map (fun q => (q.1, q.2.1, ab_sp ab_hd q.2.2))), ec_nz, ec_no)
def bi_X6_leastHarm : List (Nat × Instr × Nat) := [(0, .aload_n 0, 1), (1, .invokevirtual 139, 3), (4, .istore_n 2, 1), (5, .iload_n 2, 1), (6, .istore_n 3, 1), (7, .aload_n 0, 1), (8, .iload_n 2, 1), (9, .aload_n 0, 1), (10, .getfield 24, 3), (13, .invokevirtual 135, 3), (16, .istore 4, 2), (18, .iconst 0, 1), (19, .istore 5, 2), (21, .iload 5, 2), (23, .iload_n 2, 1), (24, .if_icmp .ge 96, 3), (27, .iload 5, 2), (29, .iload_n 2, 1), (30, .iconst (-1), 1), (31, .ixor, 1), (32, .iand, 1), (33, .ifCond .ne 81, 3), (36, .aload_n 0, 1), (37, .iload_n 2, 1), (38, .iload 5, 2), (40, .iconst (-1), 1), (41, .ixor, 1), (42, .iand, 1), (43, .aload_n 0, 1), (44, .getfield 21, 3), (47, .invokevirtual 135, 3), (50, .iload_n 1, 1), (51, .if_icmp .le 6, 3), (54, .goto 60, 3), (57, .aload_n 0, 1), (58, .iload 5, 2), (60, .aload_n 0, 1), (61, .getfield 24, 3), (64, .invokevirtual 135, 3), (67, .istore 6, 2), (69, .iload 5, 2), (71, .invokestatic 143, 3), (74, .iload_n 3, 1), (75, .invokestatic 143, 3), (78, .if_icmp .ge 7, 3), (81, .iconst 1, 1), (82, .goto 4, 3), (85, .iconst 0, 1), (86, .istore 7, 2), (88, .iload 6, 2), (90, .iload 4, 2), (92, .if_icmp .lt 15, 3), (95, .iload 6, 2), (97, .iload 4, 2), (99, .if_icmp .ne 15, 3), (102, .iload 7, 2), (104, .ifCond .eq 10, 3), (107, .iload 5, 2), (109, .istore_n 3, 1), (110, .iload 6, 2), (112, .istore 4, 2), (114, .iinc 5 1, 3), (117, .goto (-96), 3), (120, .iload_n 3, 1), (121, .ireturn, 1)]
def bq_X6_shedding : List (ab_C × List ab_Q) := [(([.inl 21, .inr ((-2147483648), 2147483647), .inr ((-2147483648), 2147483647)], [], [], [(some ((-2147483648), 2147483647, none), [], [])]), [])]
def bc_X6_shedding : List ab_C := bq_X6_shedding.map (fun c => c.1)
def be_X6_shedding : Nat → Option (Nat × Option Nat × List ab_C) := fun ix => match ix with
  | 131 => some (2, some 6, bc_X6_leastHarm)
  | 135 => some (3, some 6, bc_X6_sumOver)
  | 139 => some (1, some 6, bc_X6_readySet)
  | _ => none
def bx_X6_shedding : ex_K := (RX6, ec_fx fl_X6, ec_cx cl_X6, sl_X6, (fun ix => (be_X6_shedding ix).map (fun q => (q.1, q.2.1, ab_sp ab_hd q.2.2))), ec_nz, ec_no)
def bi_X6_shedding : List (Nat × Instr × Nat) := [(0, .iload_n 1, 1), (1, .ifCond .lt 10, 3), (4, .iload_n 1, 1), (5, .sipush 1000, 3), (8, .if_icmp .le 6, 3), (11, .ldc 74, 2), (13, .ireturn, 1), (14, .iload_n 2, 1), (15, .tableswitch 66 0 2 #[25, 31, 45], 25), (40, .aload_n 0, 1), (41, .iload_n 1, 1), (42, .invokevirtual 131, 3), (45, .ireturn, 1), (46, .aload_n 0, 1), (47, .aload_n 0, 1), (48, .iload_n 1, 1), (49, .invokevirtual 131, 3), (52, .aload_n 0, 1), (53, .getfield 24, 3), (56, .invokevirtual 135, 3), (59, .ireturn, 1), (60, .aload_n 0, 1), (61, .aload_n 0, 1), (62, .invokevirtual 139, 3), (65, .aload_n 0, 1), (66, .iload_n 1, 1), (67, .invokevirtual 131, 3), (70, .iconst (-1), 1), (71, .ixor, 1), (72, .iand, 1), (73, .aload_n 0, 1), (74, .getfield 21, 3), (77, .invokevirtual 135, 3), (80, .ireturn, 1), (81, .ldc 74, 2), (83, .ireturn, 1)]
def bq_X7_has : List (ab_C × List ab_Q) := [(([.inl 1, .inr ((-2147483648), 2147483647)], [], [], [(some (0, 0, none), [], []), (some (1, 1, none), [((0, 1, 0), 0, 39, none)], [])]), [])]
def bc_X7_has : List ab_C := bq_X7_has.map (fun c => c.1)
def bx_X7_has : ex_K := (RX7, ec_fx fl_X7, ec_cx cl_X7, sl_X7, (fun ix => (ec_no ix).map (fun (q : Nat × Option Nat × List ab_C) => (q.1, q.2.1, ab_sp ab_hd q.2.2))), ec_nz, ec_no)
def bi_X7_has : List (Nat × Instr × Nat) := [(0, .iload_n 1, 1), (1, .ifCond .lt 15, 3), (4, .iload_n 1, 1), (5, .aload_n 0, 1), (6, .getfield 24, 3), (9, .if_icmp .ge 7, 3), (12, .iconst 1, 1), (13, .goto 4, 3), (16, .iconst 0, 1), (17, .ireturn, 1)]
def bq_X7_addLine : List (ab_C × List ab_Q) := [(([.inl 1, .inr (0, 11), .inr ((-2147483648), 2147483647), .inr ((-2147483648), 2147483647), .inr ((-2147483648), 2147483647)], [], [(1, some 4), (2, none), (3, none), (4, none), (5, none)], [(some ((-2147483648), 2147483647, none), [], [])]), [])]
def bc_X7_addLine : List ab_C := bq_X7_addLine.map (fun c => c.1)
def bx_X7_addLine : ex_K := (RX7, ec_fx fl_X7, ec_cx cl_X7, sl_X7, (fun ix => (ec_no ix).map (fun (q : Nat × Option Nat × List ab_C) => (q.1, q.2.1, ab_sp ab_hd q.2.2))), ec_nz, ec_no)
def bi_X7_addLine : List (Nat × Instr × Nat) := [(0, .aload_n 0, 1), (1, .getfield 24, 3), (4, .bipush 40, 2), (6, .if_icmp .lt 6, 3), (9, .ldc 28, 2), (11, .ireturn, 1), (12, .aload_n 0, 1), (13, .getfield 9, 3), (16, .aload_n 0, 1), (17, .getfield 24, 3), (20, .iload_n 1, 1), (21, .iastore, 1), (22, .aload_n 0, 1), (23, .getfield 15, 3), (26, .aload_n 0, 1), (27, .getfield 24, 3), (30, .iload_n 2, 1), (31, .iastore, 1), (32, .aload_n 0, 1), (33, .getfield 18, 3), (36, .aload_n 0, 1), (37, .getfield 24, 3), (40, .iload_n 3, 1), (41, .iastore, 1), (42, .aload_n 0, 1), (43, .getfield 21, 3), (46, .aload_n 0, 1), (47, .getfield 24, 3), (50, .iload 4, 2), (52, .iastore, 1), (53, .aload_n 0, 1), (54, .dup, 1), (55, .getfield 24, 3), (58, .iconst 1, 1), (59, .iadd, 1), (60, .putfield 24, 3), (63, .aload_n 0, 1), (64, .getfield 24, 3), (67, .iconst 1, 1), (68, .isub, 1), (69, .ireturn, 1)]
def bq_X8_becomeLike : List (ab_C × List ab_Q) := [(([.inl 35, .inl 6], [], [(35, some 6), (36, some 6), (36, some 7), (37, none), (38, none), (39, none), (40, none), (41, none), (42, none), (43, some 6), (44, none), (45, none), (46, none), (47, none), (48, none), (49, none), (50, some 11), (50, some 12), (50, some 13), (50, some 14), (51, none), (52, none), (53, none), (54, none), (55, none), (56, none), (57, none), (58, none), (59, none), (60, none), (61, none), (62, some 0), (62, some 1), (62, some 2), (62, some 3), (62, some 4), (62, some 5), (63, some 0), (63, some 1), (63, some 2), (63, some 3), (63, some 4), (63, some 5), (63, some 6)], [(none, [], [])]), [])]
def bc_X8_becomeLike : List ab_C := bq_X8_becomeLike.map (fun c => c.1)
def be_X8_becomeLike : Nat → Option (Nat × Option Nat × List ab_C) := fun ix => match ix with
  | 50 => some (2, some 0, bc_X0_becomeLike)
  | 54 => some (2, some 3, bc_X3_becomeLike)
  | 57 => some (2, some 6, bc_X6_becomeLike)
  | 60 => some (2, some 1, bc_X1_becomeLike)
  | 63 => some (2, some 2, bc_X2_becomeLike)
  | _ => none
def bx_X8_becomeLike : ex_K := (RX8, ec_fx fl_X8, ec_cx cl_X8, sl_X8, (fun ix => (be_X8_becomeLike ix).map (fun q => (q.1, q.2.1, ab_sp ab_hd q.2.2))), ec_nz, ec_no)
def bi_X8_becomeLike : List (Nat × Instr × Nat) := [(0, .aload_n 0, 1), (1, .getfield 12, 3), (4, .aload_n 1, 1), (5, .getfield 12, 3), (8, .invokevirtual 50, 3), (11, .aload_n 0, 1), (12, .getfield 21, 3), (15, .aload_n 1, 1), (16, .getfield 21, 3), (19, .invokevirtual 54, 3), (22, .aload_n 0, 1), (23, .getfield 28, 3), (26, .aload_n 1, 1), (27, .getfield 28, 3), (30, .invokevirtual 57, 3), (33, .aload_n 0, 1), (34, .getfield 35, 3), (37, .aload_n 1, 1), (38, .getfield 35, 3), (41, .invokevirtual 60, 3), (44, .aload_n 0, 1), (45, .getfield 42, 3), (48, .aload_n 1, 1), (49, .getfield 42, 3), (52, .invokevirtual 63, 3), (55, .aload_n 0, 1), (56, .aload_n 1, 1), (57, .getfield 66, 3), (60, .putfield 66, 3), (63, .return_, 1)]
def bq_X8_isCheck : List (ab_C × List ab_Q) := [(([.inl 6, .inr ((-2147483648), 2147483647), .inr ((-9), 9), .inr ((-2147483648), 2147483647)], [], [], [(some (0, 0, none), [], []), (some (1, 1, none), [((0, 1, 0), 5, 5, none), ((0, 2, 0), 0, 3, none)], []), (some (1, 1, none), [((0, 1, 0), 6, 6, none)], []), (some (1, 1, none), [((0, 1, 0), 7, 7, none), ((0, 2, 0), 0, 9, none)], []), (some (1, 1, none), [((0, 1, 0), 0, 4, none), ((0, 2, 0), 0, 5, none)], [])]), []),
  (([.inl 35, .inr ((-2147483648), 2147483647), .inr ((-9), 9), .inr ((-2147483648), 2147483647)], [], [], [(some (0, 0, none), [], []), (some (1, 1, none), [((0, 1, 0), 5, 5, none), ((0, 2, 0), 0, 3, none)], []), (some (1, 1, none), [((0, 1, 0), 6, 6, none)], []), (some (1, 1, none), [((0, 1, 0), 7, 7, none), ((0, 2, 0), 0, 9, none)], []), (some (1, 1, none), [((0, 1, 0), 0, 4, none), ((0, 2, 0), 0, 5, none)], [])]), [])]
def bc_X8_isCheck : List ab_C := bq_X8_isCheck.map (fun c => c.1)
def be_X8_isCheck : Nat → Option (Nat × Option Nat × List ab_C) := fun ix => match ix with
  | 116 => some (2, some 6, bc_X6_has)
  | 208 => some (1, none, bc_X0_isSort)
  | 100 => some (2, some 0, bc_X0_hasModule)
  | _ => none
def bx_X8_isCheck : ex_K := (RX8, ec_fx fl_X8, ec_cx cl_X8, sl_X8, (fun ix => (be_X8_isCheck ix).map (fun q => (q.1, q.2.1, ab_sp ab_hd q.2.2))), ec_nz, ec_no)
def bi_X8_isCheck : List (Nat × Instr × Nat) := [(0, .iload_n 1, 1), (1, .tableswitch 65 5 7 #[27, 42, 44], 27), (28, .iload_n 2, 1), (29, .ifCond .lt 12, 3), (32, .iload_n 2, 1), (33, .iconst 4, 1), (34, .if_icmp .ge 7, 3), (37, .iconst 1, 1), (38, .goto 4, 3), (41, .iconst 0, 1), (42, .ireturn, 1), (43, .iconst 1, 1), (44, .ireturn, 1), (45, .iload_n 3, 1), (46, .ifCond .ne 18, 3), (49, .aload_n 0, 1), (50, .getfield 28, 3), (53, .iload_n 2, 1), (54, .invokevirtual 116, 3), (57, .ifCond .eq 7, 3), (60, .iconst 1, 1), (61, .goto 4, 3), (64, .iconst 0, 1), (65, .ireturn, 1), (66, .iload_n 1, 1), (67, .invokestatic 208, 3), (70, .ifCond .eq 18, 3), (73, .aload_n 0, 1), (74, .getfield 12, 3), (77, .iload_n 2, 1), (78, .invokevirtual 100, 3), (81, .ifCond .eq 7, 3), (84, .iconst 1, 1), (85, .goto 4, 3), (88, .iconst 0, 1), (89, .ireturn, 1)]
def bq_X8_holds : List (ab_C × List ab_Q) := [(([.inl 6, .inr (0, 4), .inr (0, 5), .inr ((-2147483648), 2147483647)], [], [], [(some (0, 0, none), [((0, 3, 0), (-2147483647), 2147483647, none)], []), (some (1, 1, none), [], [])]), []),
  (([.inl 6, .inr (7, 7), .inr (0, 9), .inr ((-2147483648), 2147483647)], [], [], [(some (0, 0, none), [], []), (some (1, 1, none), [], [])]), []),
  (([.inl 6, .inr (6, 6), .inr ((-2147483648), 2147483647), .inr ((-2147483648), 2147483647)], [], [], [(some (0, 0, none), [((0, 3, 0), (-2147483647), 2147483647, none)], []), (some (1, 1, none), [], [])]), []),
  (([.inl 6, .inr (5, 5), .inr (0, 3), .inr ((-2147483648), 2147483647)], [], [], [(some (0, 0, none), [((0, 3, 0), (-2147483647), 2147483647, none)], []), (some (1, 1, none), [], [])]), []),
  (([.inl 35, .inr (0, 4), .inr (0, 5), .inr ((-2147483648), 2147483647)], [], [], [(some (0, 0, none), [((0, 3, 0), (-2147483647), 2147483647, none)], []), (some (1, 1, none), [], [])]), []),
  (([.inl 35, .inr (7, 7), .inr (0, 9), .inr ((-2147483648), 2147483647)], [], [], [(some (0, 0, none), [], []), (some (1, 1, none), [], [])]), []),
  (([.inl 35, .inr (6, 6), .inr ((-2147483648), 2147483647), .inr ((-2147483648), 2147483647)], [], [], [(some (0, 0, none), [((0, 3, 0), (-2147483647), 2147483647, none)], []), (some (1, 1, none), [], [])]), []),
  (([.inl 35, .inr (5, 5), .inr (0, 3), .inr ((-2147483648), 2147483647)], [], [], [(some (0, 0, none), [((0, 3, 0), (-2147483647), 2147483647, none)], []), (some (1, 1, none), [], [])]), [])]
def bc_X8_holds : List ab_C := bq_X8_holds.map (fun c => c.1)
def be_X8_holds : Nat → Option (Nat × Option Nat × List ab_C) := fun ix => match ix with
  | 217 => some (3, some 0, bc_X0_amount)
  | _ => none
def bx_X8_holds : ex_K := (RX8, ec_fx fl_X8, ec_cx cl_X8, sl_X8, (fun ix => (be_X8_holds ix).map (fun q => (q.1, q.2.1, ab_sp ab_hd q.2.2))), ec_nz, ec_no)
def bi_X8_holds : List (Nat × Instr × Nat) := [(0, .iload_n 1, 1), (1, .tableswitch 81 5 7 #[27, 46, 63], 27), (28, .aload_n 0, 1), (29, .getfield 12, 3), (32, .getfield 211, 3), (35, .iload_n 2, 1), (36, .iaload, 1), (37, .iload_n 3, 1), (38, .if_icmp .lt 7, 3), (41, .iconst 1, 1), (42, .goto 4, 3), (45, .iconst 0, 1), (46, .ireturn, 1), (47, .aload_n 0, 1), (48, .getfield 28, 3), (51, .getfield 214, 3), (54, .iload_n 3, 1), (55, .if_icmp .lt 7, 3), (58, .iconst 1, 1), (59, .goto 4, 3), (62, .iconst 0, 1), (63, .ireturn, 1), (64, .aload_n 0, 1), (65, .getfield 28, 3), (68, .getfield 117, 3), (71, .iload_n 2, 1), (72, .baload, 1), (73, .ifCond .ne 7, 3), (76, .iconst 1, 1), (77, .goto 4, 3), (80, .iconst 0, 1), (81, .ireturn, 1), (82, .aload_n 0, 1), (83, .getfield 12, 3), (86, .iload_n 2, 1), (87, .iload_n 1, 1), (88, .invokevirtual 217, 3), (91, .iload_n 3, 1), (92, .if_icmp .lt 7, 3), (95, .iconst 1, 1), (96, .goto 4, 3), (99, .iconst 0, 1), (100, .ireturn, 1)]
def bq_X8_lineAfterCheck : List (ab_C × List ab_Q) := [(([.inl 6, .inr (0, 39)], [], [], [(some ((-2147483648), 2147483647, none), [], [])]), []),
  (([.inl 35, .inr (0, 39)], [], [], [(some ((-2147483648), 2147483647, none), [], [])]), [])]
def bc_X8_lineAfterCheck : List ab_C := bq_X8_lineAfterCheck.map (fun c => c.1)
def be_X8_lineAfterCheck : Nat → Option (Nat × Option Nat × List ab_C) := fun ix => match ix with
  | 149 => some (2, some 7, bc_X7_has)
  | 201 => some (4, some 8, bc_X8_isCheck)
  | 205 => some (4, some 8, bc_X8_holds)
  | _ => none
def bx_X8_lineAfterCheck : ex_K := (RX8, ec_fx fl_X8, ec_cx cl_X8, sl_X8, (fun ix => (be_X8_lineAfterCheck ix).map (fun q => (q.1, q.2.1, ab_sp ab_hd q.2.2))), ec_nz, ec_no)
def bi_X8_lineAfterCheck : List (Nat × Instr × Nat) := [(0, .aload_n 0, 1), (1, .getfield 46, 3), (4, .getfield 168, 3), (7, .iload_n 1, 1), (8, .iaload, 1), (9, .istore_n 2, 1), (10, .aload_n 0, 1), (11, .getfield 46, 3), (14, .getfield 181, 3), (17, .iload_n 1, 1), (18, .iaload, 1), (19, .bipush 10, 2), (21, .irem, 1), (22, .istore_n 3, 1), (23, .aload_n 0, 1), (24, .getfield 46, 3), (27, .getfield 181, 3), (30, .iload_n 1, 1), (31, .iaload, 1), (32, .bipush 10, 2), (34, .idiv, 1), (35, .istore 4, 2), (37, .aload_n 0, 1), (38, .getfield 46, 3), (41, .getfield 194, 3), (44, .iload_n 1, 1), (45, .iaload, 1), (46, .istore 5, 2), (48, .aload_n 0, 1), (49, .getfield 46, 3), (52, .iload 5, 2), (54, .invokevirtual 149, 3), (57, .ifCond .eq 14, 3), (60, .aload_n 0, 1), (61, .iload_n 2, 1), (62, .iload_n 3, 1), (63, .iload 4, 2), (65, .invokevirtual 201, 3), (68, .ifCond .ne 5, 3), (71, .iconst (-1), 1), (72, .ireturn, 1), (73, .aload_n 0, 1), (74, .iload_n 2, 1), (75, .iload_n 3, 1), (76, .iload 4, 2), (78, .invokevirtual 205, 3), (81, .ifCond .eq 9, 3), (84, .iload_n 1, 1), (85, .iconst 1, 1), (86, .iadd, 1), (87, .goto 5, 3), (90, .iload 5, 2), (92, .ireturn, 1)]
def bq_X8_walk : List (ab_C × List ab_Q) := [(([.inl 6, .inr ((-2147483648), 2147483647), .inr ((-2147483648), 2147483647)], [], [(15, none)], [(some ((-2147483648), 2147483647, none), [], [])]), []),
  (([.inl 35, .inr ((-2147483648), 2147483647), .inr ((-2147483648), 2147483647)], [], [(44, none)], [(some ((-2147483648), 2147483647, none), [], [])]), [])]
def bc_X8_walk : List ab_C := bq_X8_walk.map (fun c => c.1)
def be_X8_walk : Nat → Option (Nat × Option Nat × List ab_C) := fun ix => match ix with
  | 96 => some (2, some 3, bc_X3_has)
  | 100 => some (2, some 0, bc_X0_hasModule)
  | 104 => some (2, some 3, bc_X3_mends)
  | 111 => some (3, some 0, bc_X0_openBetween)
  | _ => none
def bx_X8_walk : ex_K := (RX8, ec_fx fl_X8, ec_cx cl_X8, sl_X8, (fun ix => (be_X8_walk ix).map (fun q => (q.1, q.2.1, ab_sp ab_hd q.2.2))), ec_nz, ec_no)
def bi_X8_walk : List (Nat × Instr × Nat) := [(0, .aload_n 0, 1), (1, .getfield 21, 3), (4, .iload_n 1, 1), (5, .invokevirtual 96, 3), (8, .ifCond .eq 14, 3), (11, .aload_n 0, 1), (12, .getfield 12, 3), (15, .iload_n 2, 1), (16, .invokevirtual 100, 3), (19, .ifCond .ne 6, 3), (22, .ldc 103, 2), (24, .ireturn, 1), (25, .aload_n 0, 1), (26, .getfield 21, 3), (29, .iload_n 1, 1), (30, .invokevirtual 104, 3), (33, .ifCond .ne 36, 3), (36, .aload_n 0, 1), (37, .getfield 21, 3), (40, .getfield 107, 3), (43, .iload_n 1, 1), (44, .iaload, 1), (45, .iload_n 2, 1), (46, .if_icmp .eq 23, 3), (49, .aload_n 0, 1), (50, .getfield 12, 3), (53, .aload_n 0, 1), (54, .getfield 21, 3), (57, .getfield 107, 3), (60, .iload_n 1, 1), (61, .iaload, 1), (62, .iload_n 2, 1), (63, .invokevirtual 111, 3), (66, .ifCond .ne 6, 3), (69, .ldc 115, 2), (71, .ireturn, 1), (72, .aload_n 0, 1), (73, .getfield 21, 3), (76, .getfield 107, 3), (79, .iload_n 1, 1), (80, .iload_n 2, 1), (81, .iastore, 1), (82, .iconst 1, 1), (83, .ireturn, 1)]
def bq_X8_mend : List (ab_C × List ab_Q) := [(([.inl 6, .inr ((-2147483648), 2147483647), .inr ((-2147483648), 2147483647), .inr ((-2147483648), 2147483647)], [], [(16, none), (17, none), (18, none), (32, none)], [(some ((-2147483648), 2147483647, none), [], [])]), []),
  (([.inl 35, .inr ((-2147483648), 2147483647), .inr ((-2147483648), 2147483647), .inr ((-2147483648), 2147483647)], [], [(45, none), (46, none), (47, none), (61, none)], [(some ((-2147483648), 2147483647, none), [], [])]), [])]
def bc_X8_mend : List ab_C := bq_X8_mend.map (fun c => c.1)
def be_X8_mend : Nat → Option (Nat × Option Nat × List ab_C) := fun ix => match ix with
  | 96 => some (2, some 3, bc_X3_has)
  | 116 => some (2, some 6, bc_X6_has)
  | 121 => some (2, some 3, bc_X3_isMended)
  | 104 => some (2, some 3, bc_X3_mends)
  | 132 => some (4, some 3, bc_X3_startMending)
  | _ => none
def bx_X8_mend : ex_K := (RX8, ec_fx fl_X8, ec_cx cl_X8, sl_X8, (fun ix => (be_X8_mend ix).map (fun q => (q.1, q.2.1, ab_sp ab_hd q.2.2))), ec_nz, ec_no)
def bi_X8_mend : List (Nat × Instr × Nat) := [(0, .aload_n 0, 1), (1, .getfield 21, 3), (4, .iload_n 1, 1), (5, .invokevirtual 96, 3), (8, .ifCond .eq 25, 3), (11, .aload_n 0, 1), (12, .getfield 28, 3), (15, .iload_n 2, 1), (16, .invokevirtual 116, 3), (19, .ifCond .eq 14, 3), (22, .iload_n 3, 1), (23, .iconst 1, 1), (24, .if_icmp .lt 9, 3), (27, .iload_n 3, 1), (28, .bipush 60, 2), (30, .if_icmp .le 6, 3), (33, .ldc 103, 2), (35, .ireturn, 1), (36, .aload_n 0, 1), (37, .getfield 28, 3), (40, .getfield 117, 3), (43, .iload_n 2, 1), (44, .baload, 1), (45, .ifCond .eq 46, 3), (48, .aload_n 0, 1), (49, .getfield 21, 3), (52, .iload_n 2, 1), (53, .invokevirtual 121, 3), (56, .ifCond .ne 35, 3), (59, .aload_n 0, 1), (60, .getfield 21, 3), (63, .iload_n 1, 1), (64, .invokevirtual 104, 3), (67, .ifCond .ne 24, 3), (70, .aload_n 0, 1), (71, .getfield 21, 3), (74, .getfield 107, 3), (77, .iload_n 1, 1), (78, .iaload, 1), (79, .aload_n 0, 1), (80, .getfield 28, 3), (83, .getfield 124, 3), (86, .iload_n 2, 1), (87, .iaload, 1), (88, .if_icmp .eq 6, 3), (91, .ldc 115, 2), (93, .ireturn, 1), (94, .aload_n 0, 1), (95, .getfield 28, 3), (98, .getfield 125, 3), (101, .iload_n 2, 1), (102, .iaload, 1), (103, .istore 4, 2), (105, .aload_n 0, 1), (106, .getfield 28, 3), (109, .getfield 128, 3), (112, .iload 4, 2), (114, .iaload, 1), (115, .iconst 1, 1), (116, .if_icmp .ge 6, 3), (119, .ldc 131, 2), (121, .ireturn, 1), (122, .aload_n 0, 1), (123, .getfield 28, 3), (126, .getfield 128, 3), (129, .iload 4, 2), (131, .dup2, 1), (132, .iaload, 1), (133, .iconst 1, 1), (134, .isub, 1), (135, .iastore, 1), (136, .aload_n 0, 1), (137, .getfield 21, 3), (140, .iload_n 1, 1), (141, .iload_n 2, 1), (142, .iload_n 3, 1), (143, .invokevirtual 132, 3), (146, .aload_n 0, 1), (147, .getfield 28, 3), (150, .getfield 128, 3), (153, .iload 4, 2), (155, .iaload, 1), (156, .ireturn, 1)]
def bq_X8_actByText : List (ab_C × List ab_Q) := [(([.inl 6, .inr (0, 39)], [], [(12, none), (15, none), (16, none), (17, none), (18, none), (29, none), (32, none)], [(some ((-2147483648), 2147483647, none), [], [])]), []),
  (([.inl 35, .inr (0, 39)], [], [(41, none), (44, none), (45, none), (46, none), (47, none), (58, none), (61, none)], [(some ((-2147483648), 2147483647, none), [], [])]), [])]
def bc_X8_actByText : List ab_C := bq_X8_actByText.map (fun c => c.1)
def be_X8_actByText : Nat → Option (Nat × Option Nat × List ab_C) := fun ix => match ix with
  | 184 => some (3, some 6, bc_X6_setOn)
  | 188 => some (3, some 0, bc_X0_setOpen)
  | 191 => some (3, some 8, bc_X8_walk)
  | 197 => some (4, some 8, bc_X8_mend)
  | _ => none
def bx_X8_actByText : ex_K := (RX8, ec_fx fl_X8, ec_cx cl_X8, sl_X8, (fun ix => (be_X8_actByText ix).map (fun q => (q.1, q.2.1, ab_sp ab_hd q.2.2))), ec_nz, ec_no)
def bi_X8_actByText : List (Nat × Instr × Nat) := [(0, .aload_n 0, 1), (1, .getfield 46, 3), (4, .getfield 168, 3), (7, .iload_n 1, 1), (8, .iaload, 1), (9, .istore_n 2, 1), (10, .aload_n 0, 1), (11, .getfield 46, 3), (14, .getfield 181, 3), (17, .iload_n 1, 1), (18, .iaload, 1), (19, .istore_n 3, 1), (20, .aload_n 0, 1), (21, .getfield 46, 3), (24, .getfield 155, 3), (27, .iload_n 1, 1), (28, .iaload, 1), (29, .tableswitch 118 2 11 #[55, 65, 75, 85, 118, 95, 118, 118, 118, 102], 55), (84, .aload_n 0, 1), (85, .getfield 28, 3), (88, .iload_n 2, 1), (89, .iconst 1, 1), (90, .invokevirtual 184, 3), (93, .ireturn, 1), (94, .aload_n 0, 1), (95, .getfield 28, 3), (98, .iload_n 2, 1), (99, .iconst 0, 1), (100, .invokevirtual 184, 3), (103, .ireturn, 1), (104, .aload_n 0, 1), (105, .getfield 12, 3), (108, .iload_n 2, 1), (109, .iconst 1, 1), (110, .invokevirtual 188, 3), (113, .ireturn, 1), (114, .aload_n 0, 1), (115, .getfield 12, 3), (118, .iload_n 2, 1), (119, .iconst 0, 1), (120, .invokevirtual 188, 3), (123, .ireturn, 1), (124, .aload_n 0, 1), (125, .iload_n 2, 1), (126, .iload_n 3, 1), (127, .invokevirtual 191, 3), (130, .ireturn, 1), (131, .aload_n 0, 1), (132, .iload_n 2, 1), (133, .iload_n 3, 1), (134, .aload_n 0, 1), (135, .getfield 46, 3), (138, .getfield 194, 3), (141, .iload_n 1, 1), (142, .iaload, 1), (143, .invokevirtual 197, 3), (146, .ireturn, 1), (147, .ldc 115, 2), (149, .ireturn, 1)]
def bq_X8_lineAfter : List (ab_C × List ab_Q) := [(([.inl 6, .inr (0, 39)], [], [(12, none), (15, none), (16, none), (17, none), (18, none), (29, none), (32, none), (34, some 4), (34, some 5)], [(some ((-2147483648), 2147483647, none), [], [])]), []),
  (([.inl 35, .inr (0, 39)], [], [(41, none), (44, none), (45, none), (46, none), (47, none), (58, none), (61, none), (63, some 4), (63, some 5)], [(some ((-2147483648), 2147483647, none), [], [])]), [])]
def bc_X8_lineAfter : List ab_C := bq_X8_lineAfter.map (fun c => c.1)
def be_X8_lineAfter : Nat → Option (Nat × Option Nat × List ab_C) := fun ix => match ix with
  | 171 => some (2, some 8, bc_X8_lineAfterCheck)
  | 149 => some (2, some 7, bc_X7_has)
  | 177 => some (2, some 8, bc_X8_actByText)
  | _ => none
def bx_X8_lineAfter : ex_K := (RX8, ec_fx fl_X8, ec_cx cl_X8, sl_X8, (fun ix => (be_X8_lineAfter ix).map (fun q => (q.1, q.2.1, ab_sp ab_hd q.2.2))), ec_nz, ec_no)
def bi_X8_lineAfter : List (Nat × Instr × Nat) := [(0, .aload_n 0, 1), (1, .getfield 46, 3), (4, .getfield 168, 3), (7, .iload_n 1, 1), (8, .iaload, 1), (9, .istore_n 2, 1), (10, .aload_n 0, 1), (11, .getfield 46, 3), (14, .getfield 155, 3), (17, .iload_n 1, 1), (18, .iaload, 1), (19, .tableswitch 130 1 10 #[53, 130, 130, 130, 130, 103, 130, 78, 61, 59], 53), (72, .aload_n 0, 1), (73, .iload_n 1, 1), (74, .invokevirtual 171, 3), (77, .ireturn, 1), (78, .iconst (-1), 1), (79, .ireturn, 1), (80, .aload_n 0, 1), (81, .getfield 46, 3), (84, .iload_n 2, 1), (85, .invokevirtual 149, 3), (88, .ifCond .eq 7, 3), (91, .iload_n 2, 1), (92, .goto 4, 3), (95, .iconst (-1), 1), (96, .ireturn, 1), (97, .aload_n 0, 1), (98, .getfield 46, 3), (101, .iload_n 2, 1), (102, .invokevirtual 149, 3), (105, .ifCond .ne 5, 3), (108, .iconst (-1), 1), (109, .ireturn, 1), (110, .aload_n 0, 1), (111, .getfield 42, 3), (114, .iload_n 2, 1), (115, .putfield 174, 3), (118, .iload_n 1, 1), (119, .iconst 1, 1), (120, .iadd, 1), (121, .ireturn, 1), (122, .iload_n 2, 1), (123, .iconst 1, 1), (124, .if_icmp .lt 9, 3), (127, .iload_n 2, 1), (128, .bipush 100, 2), (130, .if_icmp .le 5, 3), (133, .iconst (-1), 1), (134, .ireturn, 1), (135, .aload_n 0, 1), (136, .getfield 42, 3), (139, .iload_n 2, 1), (140, .iconst 1, 1), (141, .isub, 1), (142, .putfield 143, 3), (145, .iload_n 1, 1), (146, .iconst 1, 1), (147, .iadd, 1), (148, .ireturn, 1), (149, .aload_n 0, 1), (150, .iload_n 1, 1), (151, .invokevirtual 177, 3), (154, .ldc 180, 2), (156, .if_icmp .ge 7, 3), (159, .iconst (-1), 1), (160, .goto 6, 3), (163, .iload_n 1, 1), (164, .iconst 1, 1), (165, .iadd, 1), (166, .ireturn, 1)]
def bq_X8_doText : List (ab_C × List ab_Q) := [(([.inl 6], [], [(12, none), (15, none), (16, none), (17, none), (18, none), (29, none), (32, none), (34, some 0), (34, some 1), (34, some 2), (34, some 3), (34, some 4), (34, some 5), (34, some 6)], [(none, [], [])]), []),
  (([.inl 35], [], [(41, none), (44, none), (45, none), (46, none), (47, none), (58, none), (61, none), (63, some 0), (63, some 1), (63, some 2), (63, some 3), (63, some 4), (63, some 5), (63, some 6)], [(none, [], [])]), [])]
def bc_X8_doText : List ab_C := bq_X8_doText.map (fun c => c.1)
def be_X8_doText : Nat → Option (Nat × Option Nat × List ab_C) := fun ix => match ix with
  | 149 => some (2, some 7, bc_X7_has)
  | 152 => some (2, some 2, bc_X2_finish)
  | 161 => some (2, some 8, bc_X8_lineAfter)
  | 165 => some (2, some 2, bc_X2_goOnAt)
  | _ => none
def bx_X8_doText : ex_K := (RX8, ec_fx fl_X8, ec_cx cl_X8, sl_X8, (fun ix => (be_X8_doText ix).map (fun q => (q.1, q.2.1, ab_sp ab_hd q.2.2))), ec_nz, ec_no)
def bi_X8_doText : List (Nat × Instr × Nat) := [(0, .aload_n 0, 1), (1, .getfield 42, 3), (4, .getfield 136, 3), (7, .ifCond .eq 13, 3), (10, .aload_n 0, 1), (11, .getfield 42, 3), (14, .getfield 140, 3), (17, .ifCond .eq 4, 3), (20, .return_, 1), (21, .aload_n 0, 1), (22, .getfield 42, 3), (25, .getfield 143, 3), (28, .ifCond .le 17, 3), (31, .aload_n 0, 1), (32, .getfield 42, 3), (35, .dup, 1), (36, .getfield 143, 3), (39, .iconst 1, 1), (40, .isub, 1), (41, .putfield 143, 3), (44, .return_, 1), (45, .aload_n 0, 1), (46, .getfield 42, 3), (49, .getfield 146, 3), (52, .istore_n 1, 1), (53, .aload_n 0, 1), (54, .getfield 46, 3), (57, .iload_n 1, 1), (58, .invokevirtual 149, 3), (61, .ifCond .ne 14, 3), (64, .aload_n 0, 1), (65, .getfield 42, 3), (68, .iconst 4, 1), (69, .invokevirtual 152, 3), (72, .goto 52, 3), (75, .aload_n 0, 1), (76, .getfield 46, 3), (79, .getfield 155, 3), (82, .iload_n 1, 1), (83, .iaload, 1), (84, .ifCond .ne 28, 3), (87, .aload_n 0, 1), (88, .getfield 42, 3), (91, .aload_n 0, 1), (92, .getfield 42, 3), (95, .getfield 158, 3), (98, .ifCond .eq 7, 3), (101, .iconst 2, 1), (102, .goto 4, 3), (105, .iconst 1, 1), (106, .invokevirtual 152, 3), (109, .goto 15, 3), (112, .aload_n 0, 1), (113, .getfield 42, 3), (116, .aload_n 0, 1), (117, .iload_n 1, 1), (118, .invokevirtual 161, 3), (121, .invokevirtual 165, 3), (124, .return_, 1)]
def bq_X8_passTick : List (ab_C × List ab_Q) := [(([.inl 6], [], [(6, some 6), (8, none), (12, none), (13, none), (15, none), (16, none), (17, none), (18, none), (19, none), (20, none), (21, some 14), (28, none), (29, none), (30, none), (31, none), (32, none), (33, some 3), (33, some 4), (33, some 5), (34, some 0), (34, some 1), (34, some 2), (34, some 3), (34, some 4), (34, some 5), (34, some 6)], [(some (0, 1, none), [], [])]), []),
  (([.inl 35], [], [(35, some 6), (37, none), (41, none), (42, none), (44, none), (45, none), (46, none), (47, none), (48, none), (49, none), (50, some 14), (57, none), (58, none), (59, none), (60, none), (61, none), (62, some 3), (62, some 4), (62, some 5), (63, some 0), (63, some 1), (63, some 2), (63, some 3), (63, some 4), (63, some 5), (63, some 6)], [(some (0, 1, none), [], [])]), [])]
def bc_X8_passTick : List ab_C := bq_X8_passTick.map (fun c => c.1)
def be_X8_passTick : Nat → Option (Nat × Option Nat × List ab_C) := fun ix => match ix with
  | 70 => some (1, some 8, bc_X8_doText)
  | 73 => some (2, some 3, bc_X3_mendOn)
  | 76 => some (2, some 6, bc_X6_sharePower)
  | 80 => some (2, some 6, bc_X6_workAll)
  | 83 => some (2, some 3, bc_X3_live)
  | 86 => some (1, some 0, bc_X0_leakOut)
  | 89 => some (1, some 0, bc_X0_mixThroughHatches)
  | 92 => some (4, some 1, bc_X1_look)
  | _ => none
def bx_X8_passTick : ex_K := (RX8, ec_fx fl_X8, ec_cx cl_X8, sl_X8, (fun ix => (be_X8_passTick ix).map (fun q => (q.1, q.2.1, ab_sp ab_hd q.2.2))), ec_nz, ec_no)
def bi_X8_passTick : List (Nat × Instr × Nat) := [(0, .aload_n 0, 1), (1, .invokevirtual 70, 3), (4, .aload_n 0, 1), (5, .getfield 21, 3), (8, .aload_n 0, 1), (9, .getfield 28, 3), (12, .invokevirtual 73, 3), (15, .aload_n 0, 1), (16, .getfield 28, 3), (19, .aload_n 0, 1), (20, .getfield 66, 3), (23, .invokevirtual 76, 3), (26, .aload_n 0, 1), (27, .getfield 28, 3), (30, .aload_n 0, 1), (31, .getfield 12, 3), (34, .invokevirtual 80, 3), (37, .aload_n 0, 1), (38, .getfield 21, 3), (41, .aload_n 0, 1), (42, .getfield 12, 3), (45, .invokevirtual 83, 3), (48, .aload_n 0, 1), (49, .getfield 12, 3), (52, .invokevirtual 86, 3), (55, .aload_n 0, 1), (56, .getfield 12, 3), (59, .invokevirtual 89, 3), (62, .aload_n 0, 1), (63, .getfield 35, 3), (66, .aload_n 0, 1), (67, .getfield 12, 3), (70, .aload_n 0, 1), (71, .getfield 21, 3), (74, .aload_n 0, 1), (75, .getfield 66, 3), (78, .invokevirtual 92, 3), (81, .istore_n 1, 1), (82, .aload_n 0, 1), (83, .dup, 1), (84, .getfield 66, 3), (87, .iconst 1, 1), (88, .iadd, 1), (89, .putfield 66, 3), (92, .iload_n 1, 1), (93, .ireturn, 1)]
def bq_X9_counted : List (ab_C × List ab_Q) := [(([.inl 0, .inr ((-1000000004), (-1000000004))], [], [(75, some 4)], [(some ((-1000000004), (-1000000004), some (1, 0)), [], [])]), []),
  (([.inl 0, .inr ((-1000000001), (-1000000001))], [], [(75, some 1)], [(some ((-1000000001), (-1000000001), some (1, 0)), [], [])]), []),
  (([.inl 0, .inr ((-1000000003), (-1000000003))], [], [(75, some 3)], [(some ((-1000000003), (-1000000003), some (1, 0)), [], [])]), []),
  (([.inl 0, .inr ((-2147483648), 2147483647)], [], [(75, none)], [(some ((-2147483648), 2147483647, some (1, 0)), [], [])]), [])]
def bc_X9_counted : List ab_C := bq_X9_counted.map (fun c => c.1)
def bx_X9_counted : ex_K := (RX9, ec_fx fl_X9, ec_cx cl_X9, sl_X9, (fun ix => (ec_no ix).map (fun (q : Nat × Option Nat × List ab_C) => (q.1, q.2.1, ab_sp ab_hd q.2.2))), ec_nz, ec_no)
def bi_X9_counted : List (Nat × Instr × Nat) := [(0, .iload_n 1, 1), (1, .ldc_w 275, 3), (4, .if_icmp .ge 24, 3), (7, .iload_n 1, 1), (8, .ldc_w 276, 3), (11, .if_icmp .lt 17, 3), (14, .aload_n 0, 1), (15, .getfield 46, 3), (18, .ldc_w 275, 3), (21, .iload_n 1, 1), (22, .isub, 1), (23, .dup2, 1), (24, .iaload, 1), (25, .iconst 1, 1), (26, .iadd, 1), (27, .iastore, 1), (28, .iload_n 1, 1), (29, .ireturn, 1)]
def bq_X9_module : List (ab_C × List ab_Q) := [(([.inl 0], [], [(7, some 6), (75, none)], [(some ((-2147483648), 2147483647, some (8006, 0)), [((8, 8006, 0), 0, 5, none)], [((1, 7, 6), 1, 6, some (8006, 1))]), (some ((-1000000004), (-1000000004), none), [((8, 8006, 0), 6, 6, none)], [((1, 7, 6), 6, 6, some (8006, 0))])]), [])]
def bc_X9_module : List ab_C := bq_X9_module.map (fun c => c.1)
def be_X9_module : Nat → Option (Nat × Option Nat × List ab_C) := fun ix => match ix with
  | 58 => some (1, some 0, bc_X0_addModule)
  | 64 => some (2, some 9, bc_X9_counted)
  | _ => none
def bx_X9_module : ex_K := (RX9, ec_fx fl_X9, ec_cx cl_X9, sl_X9, (fun ix => (be_X9_module ix).map (fun q => (q.1, q.2.1, ab_sp ab_hd q.2.2))), ec_nz, ec_no)
def bi_X9_module : List (Nat × Instr × Nat) := [(0, .aload_n 0, 1), (1, .aload_n 0, 1), (2, .getfield 21, 3), (5, .getfield 54, 3), (8, .invokevirtual 58, 3), (11, .invokevirtual 64, 3), (14, .ireturn, 1)]
def bq_X9_hatch : List (ab_C × List ab_Q) := [(([.inl 0, .inr ((-2147483648), 2147483647), .inr ((-2147483648), 2147483647)], [], [(7, some 7), (10, none), (11, none), (12, none), (75, none)], [(some ((-2147483648), 2147483647, none), [], [])]), [])]
def bc_X9_hatch : List ab_C := bq_X9_hatch.map (fun c => c.1)
def be_X9_hatch : Nat → Option (Nat × Option Nat × List ab_C) := fun ix => match ix with
  | 68 => some (3, some 0, bc_X0_addHatch)
  | 64 => some (2, some 9, bc_X9_counted)
  | _ => none
def bx_X9_hatch : ex_K := (RX9, ec_fx fl_X9, ec_cx cl_X9, sl_X9, (fun ix => (be_X9_hatch ix).map (fun q => (q.1, q.2.1, ab_sp ab_hd q.2.2))), ec_nz, ec_no)
def bi_X9_hatch : List (Nat × Instr × Nat) := [(0, .aload_n 0, 1), (1, .aload_n 0, 1), (2, .getfield 21, 3), (5, .getfield 54, 3), (8, .iload_n 1, 1), (9, .iload_n 2, 1), (10, .invokevirtual 68, 3), (13, .invokevirtual 64, 3), (16, .ireturn, 1)]
def bq_X9_shut : List (ab_C × List ab_Q) := [(([.inl 0, .inr ((-2147483648), 2147483647), .inr ((-2147483648), 2147483647)], [], [(12, none), (75, none)], [(some ((-2147483648), 2147483647, none), [], [])]), [])]
def bc_X9_shut : List ab_C := bq_X9_shut.map (fun c => c.1)
def be_X9_shut : Nat → Option (Nat × Option Nat × List ab_C) := fun ix => match ix with
  | 72 => some (3, some 0, bc_X0_setOpen)
  | 64 => some (2, some 9, bc_X9_counted)
  | _ => none
def bx_X9_shut : ex_K := (RX9, ec_fx fl_X9, ec_cx cl_X9, sl_X9, (fun ix => (be_X9_shut ix).map (fun q => (q.1, q.2.1, ab_sp ab_hd q.2.2))), ec_nz, ec_no)
def bi_X9_shut : List (Nat × Instr × Nat) := [(0, .aload_n 0, 1), (1, .aload_n 0, 1), (2, .getfield 21, 3), (5, .getfield 54, 3), (8, .iload_n 1, 1), (9, .iload_n 2, 1), (10, .invokevirtual 72, 3), (13, .invokevirtual 64, 3), (16, .ireturn, 1)]
def bq_X9_gas : List (ab_C × List ab_Q) := [(([.inl 0, .inr ((-2147483648), 2147483647), .inr ((-2147483648), 2147483647), .inr ((-2147483648), 2147483647)], [], [(8, none), (75, none)], [(some ((-2147483648), 2147483647, none), [], [])]), [])]
def bc_X9_gas : List ab_C := bq_X9_gas.map (fun c => c.1)
def be_X9_gas : Nat → Option (Nat × Option Nat × List ab_C) := fun ix => match ix with
  | 75 => some (4, some 0, bc_X0_setHeld)
  | 64 => some (2, some 9, bc_X9_counted)
  | _ => none
def bx_X9_gas : ex_K := (RX9, ec_fx fl_X9, ec_cx cl_X9, sl_X9, (fun ix => (be_X9_gas ix).map (fun q => (q.1, q.2.1, ab_sp ab_hd q.2.2))), ec_nz, ec_no)
def bi_X9_gas : List (Nat × Instr × Nat) := [(0, .aload_n 0, 1), (1, .aload_n 0, 1), (2, .getfield 21, 3), (5, .getfield 54, 3), (8, .iload_n 1, 1), (9, .iload_n 2, 1), (10, .iload_n 3, 1), (11, .invokevirtual 75, 3), (14, .invokevirtual 64, 3), (17, .ireturn, 1)]
def bq_X9_leak : List (ab_C × List ab_Q) := [(([.inl 0, .inr ((-2147483648), 2147483647), .inr ((-2147483648), 2147483647)], [], [(9, none), (75, none)], [(some ((-2147483648), 2147483647, none), [], [])]), [])]
def bc_X9_leak : List ab_C := bq_X9_leak.map (fun c => c.1)
def be_X9_leak : Nat → Option (Nat × Option Nat × List ab_C) := fun ix => match ix with
  | 79 => some (3, some 0, bc_X0_setLeak)
  | 64 => some (2, some 9, bc_X9_counted)
  | _ => none
def bx_X9_leak : ex_K := (RX9, ec_fx fl_X9, ec_cx cl_X9, sl_X9, (fun ix => (be_X9_leak ix).map (fun q => (q.1, q.2.1, ab_sp ab_hd q.2.2))), ec_nz, ec_no)
def bi_X9_leak : List (Nat × Instr × Nat) := [(0, .aload_n 0, 1), (1, .aload_n 0, 1), (2, .getfield 21, 3), (5, .getfield 54, 3), (8, .iload_n 1, 1), (9, .iload_n 2, 1), (10, .invokevirtual 79, 3), (13, .invokevirtual 64, 3), (16, .ireturn, 1)]
def bq_X9_tank : List (ab_C × List ab_Q) := [(([.inl 0, .inr ((-2147483648), 2147483647), .inr ((-2147483648), 2147483647)], [], [(13, none), (75, none)], [(some ((-2147483648), 2147483647, none), [], [])]), [])]
def bc_X9_tank : List ab_C := bq_X9_tank.map (fun c => c.1)
def be_X9_tank : Nat → Option (Nat × Option Nat × List ab_C) := fun ix => match ix with
  | 82 => some (3, some 0, bc_X0_setStored)
  | 64 => some (2, some 9, bc_X9_counted)
  | _ => none
def bx_X9_tank : ex_K := (RX9, ec_fx fl_X9, ec_cx cl_X9, sl_X9, (fun ix => (be_X9_tank ix).map (fun q => (q.1, q.2.1, ab_sp ab_hd q.2.2))), ec_nz, ec_no)
def bi_X9_tank : List (Nat × Instr × Nat) := [(0, .aload_n 0, 1), (1, .aload_n 0, 1), (2, .getfield 21, 3), (5, .getfield 54, 3), (8, .iload_n 1, 1), (9, .iload_n 2, 1), (10, .invokevirtual 82, 3), (13, .invokevirtual 64, 3), (16, .ireturn, 1)]
def bq_X9_grams : List (ab_C × List ab_Q) := [(([.inl 0], [], [], [(some ((-2147483648), 2147483647, none), [], [])]), [])]
def bc_X9_grams : List ab_C := bq_X9_grams.map (fun c => c.1)
def be_X9_grams : Nat → Option (Nat × Option Nat × List ab_C) := fun ix => match ix with
  | 85 => some (1, some 0, bc_X0_allGrams)
  | _ => none
def bx_X9_grams : ex_K := (RX9, ec_fx fl_X9, ec_cx cl_X9, sl_X9, (fun ix => (be_X9_grams ix).map (fun q => (q.1, q.2.1, ab_sp ab_hd q.2.2))), ec_nz, ec_no)
def bi_X9_grams : List (Nat × Instr × Nat) := [(0, .aload_n 0, 1), (1, .getfield 21, 3), (4, .getfield 54, 3), (7, .invokevirtual 85, 3), (10, .ireturn, 1)]
def bq_X9_person : List (ab_C × List ab_Q) := [(([.inl 0, .inr ((-2147483648), 2147483647)], [], [(14, some 6), (15, none), (17, none), (75, none)], [(some ((-1000000001), (-1000000001), none), [((0, 1, 0), (-2147483648), (-1), none)], [((1, 14, 6), 0, 6, some (15006, 0))]), (some ((-1000000001), (-1000000001), none), [((0, 1, 0), 0, 2147483647, none), ((8, 8006, 0), 0, 6, none), ((9, 1, 8006), 0, 4294967296, none)], [((1, 14, 6), 0, 6, some (15006, 0))]), (some ((-2147483648), 2147483647, some (15006, 0)), [((0, 1, 0), 0, 5, none), ((8, 15006, 0), 0, 5, none), ((8, 8006, 0), 1, 6, none), ((9, 1, 8006), (-4294967296), (-1), none)], [((1, 14, 6), 1, 6, some (15006, 1))]), (some ((-1000000004), (-1000000004), none), [((0, 1, 0), 0, 5, none), ((8, 15006, 0), 6, 6, none), ((8, 8006, 0), 1, 6, none), ((9, 1, 8006), (-4294967296), (-1), none)], [((1, 14, 6), 6, 6, some (15006, 0))])]), [])]
def bc_X9_person : List ab_C := bq_X9_person.map (fun c => c.1)
def be_X9_person : Nat → Option (Nat × Option Nat × List ab_C) := fun ix => match ix with
  | 88 => some (2, some 0, bc_X0_hasModule)
  | 64 => some (2, some 9, bc_X9_counted)
  | 97 => some (2, some 3, bc_X3_addPerson)
  | _ => none
def bx_X9_person : ex_K := (RX9, ec_fx fl_X9, ec_cx cl_X9, sl_X9, (fun ix => (be_X9_person ix).map (fun q => (q.1, q.2.1, ab_sp ab_hd q.2.2))), ec_nz, ec_no)
def bi_X9_person : List (Nat × Instr × Nat) := [(0, .aload_n 0, 1), (1, .getfield 21, 3), (4, .getfield 54, 3), (7, .iload_n 1, 1), (8, .invokevirtual 88, 3), (11, .ifCond .ne 10, 3), (14, .aload_n 0, 1), (15, .ldc 92, 2), (17, .invokevirtual 64, 3), (20, .ireturn, 1), (21, .aload_n 0, 1), (22, .aload_n 0, 1), (23, .getfield 21, 3), (26, .getfield 93, 3), (29, .iload_n 1, 1), (30, .invokevirtual 97, 3), (33, .invokevirtual 64, 3), (36, .ireturn, 1)]
def bq_X9_go : List (ab_C × List ab_Q) := [(([.inl 0, .inr ((-2147483648), 2147483647), .inr ((-2147483648), 2147483647)], [], [(15, none), (75, none)], [(some ((-2147483648), 2147483647, none), [], [])]), [])]
def bc_X9_go : List ab_C := bq_X9_go.map (fun c => c.1)
def be_X9_go : Nat → Option (Nat × Option Nat × List ab_C) := fun ix => match ix with
  | 102 => some (3, some 8, bc_X8_walk)
  | 64 => some (2, some 9, bc_X9_counted)
  | _ => none
def bx_X9_go : ex_K := (RX9, ec_fx fl_X9, ec_cx cl_X9, sl_X9, (fun ix => (be_X9_go ix).map (fun q => (q.1, q.2.1, ab_sp ab_hd q.2.2))), ec_nz, ec_no)
def bi_X9_go : List (Nat × Instr × Nat) := [(0, .aload_n 0, 1), (1, .aload_n 0, 1), (2, .getfield 21, 3), (5, .iload_n 1, 1), (6, .iload_n 2, 1), (7, .invokevirtual 102, 3), (10, .invokevirtual 64, 3), (13, .ireturn, 1)]
def bq_X9_doing : List (ab_C × List ab_Q) := [(([.inl 0, .inr ((-2147483648), 2147483647), .inr ((-2147483648), 2147483647)], [], [(16, none), (75, none)], [(some ((-2147483648), 2147483647, none), [], [])]), [])]
def bc_X9_doing : List ab_C := bq_X9_doing.map (fun c => c.1)
def be_X9_doing : Nat → Option (Nat × Option Nat × List ab_C) := fun ix => match ix with
  | 105 => some (3, some 3, bc_X3_setDoing)
  | 64 => some (2, some 9, bc_X9_counted)
  | _ => none
def bx_X9_doing : ex_K := (RX9, ec_fx fl_X9, ec_cx cl_X9, sl_X9, (fun ix => (be_X9_doing ix).map (fun q => (q.1, q.2.1, ab_sp ab_hd q.2.2))), ec_nz, ec_no)
def bi_X9_doing : List (Nat × Instr × Nat) := [(0, .aload_n 0, 1), (1, .aload_n 0, 1), (2, .getfield 21, 3), (5, .getfield 93, 3), (8, .iload_n 1, 1), (9, .iload_n 2, 1), (10, .invokevirtual 105, 3), (13, .invokevirtual 64, 3), (16, .ireturn, 1)]
def bq_X9_about : List (ab_C × List ab_Q) := [(([.inl 0, .inr ((-2147483648), 2147483647), .inr ((-2147483648), 2147483647)], [], [(75, none)], [(some ((-2147483648), 2147483647, none), [], [])]), [])]
def bc_X9_about : List ab_C := bq_X9_about.map (fun c => c.1)
def be_X9_about : Nat → Option (Nat × Option Nat × List ab_C) := fun ix => match ix with
  | 108 => some (3, some 3, bc_X3_tellOf)
  | 64 => some (2, some 9, bc_X9_counted)
  | _ => none
def bx_X9_about : ex_K := (RX9, ec_fx fl_X9, ec_cx cl_X9, sl_X9, (fun ix => (be_X9_about ix).map (fun q => (q.1, q.2.1, ab_sp ab_hd q.2.2))), ec_nz, ec_no)
def bi_X9_about : List (Nat × Instr × Nat) := [(0, .aload_n 0, 1), (1, .aload_n 0, 1), (2, .getfield 21, 3), (5, .getfield 93, 3), (8, .iload_n 1, 1), (9, .iload_n 2, 1), (10, .invokevirtual 108, 3), (13, .invokevirtual 64, 3), (16, .ireturn, 1)]
def bq_X9_machine : List (ab_C × List ab_Q) := [(([.inl 0, .inr ((-2147483648), 2147483647), .inr ((-2147483648), 2147483647), .inr ((-2147483648), 2147483647), .inr ((-2147483648), 2147483647)], [], [(21, some 11), (22, none), (23, none), (24, none), (25, none), (26, none), (27, none), (29, none), (75, none)], [(some ((-2147483648), 2147483647, none), [], [])]), [])]
def bc_X9_machine : List ab_C := bq_X9_machine.map (fun c => c.1)
def be_X9_machine : Nat → Option (Nat × Option Nat × List ab_C) := fun ix => match ix with
  | 88 => some (2, some 0, bc_X0_hasModule)
  | 64 => some (2, some 9, bc_X9_counted)
  | 115 => some (5, some 6, bc_X6_addMachine)
  | _ => none
def bx_X9_machine : ex_K := (RX9, ec_fx fl_X9, ec_cx cl_X9, sl_X9, (fun ix => (be_X9_machine ix).map (fun q => (q.1, q.2.1, ab_sp ab_hd q.2.2))), ec_nz, ec_no)
def bi_X9_machine : List (Nat × Instr × Nat) := [(0, .aload_n 0, 1), (1, .getfield 21, 3), (4, .getfield 54, 3), (7, .iload_n 2, 1), (8, .invokevirtual 88, 3), (11, .ifCond .ne 10, 3), (14, .aload_n 0, 1), (15, .ldc 92, 2), (17, .invokevirtual 64, 3), (20, .ireturn, 1), (21, .aload_n 0, 1), (22, .aload_n 0, 1), (23, .getfield 21, 3), (26, .getfield 111, 3), (29, .iload_n 1, 1), (30, .iload_n 2, 1), (31, .iload_n 3, 1), (32, .iload 4, 2), (34, .invokevirtual 115, 3), (37, .invokevirtual 64, 3), (40, .ireturn, 1)]
def bq_X9_as : List (ab_C × List ab_Q) := [(([.inl 0, .inr ((-2147483648), 2147483647), .inr ((-2147483648), 2147483647)], [], [(75, none)], [(some ((-2147483648), 2147483647, none), [], [])]), [])]
def bc_X9_as : List ab_C := bq_X9_as.map (fun c => c.1)
def be_X9_as : Nat → Option (Nat × Option Nat × List ab_C) := fun ix => match ix with
  | 121 => some (3, some 6, bc_X6_rateAs)
  | 64 => some (2, some 9, bc_X9_counted)
  | _ => none
def bx_X9_as : ex_K := (RX9, ec_fx fl_X9, ec_cx cl_X9, sl_X9, (fun ix => (be_X9_as ix).map (fun q => (q.1, q.2.1, ab_sp ab_hd q.2.2))), ec_nz, ec_no)
def bi_X9_as : List (Nat × Instr × Nat) := [(0, .aload_n 0, 1), (1, .aload_n 0, 1), (2, .getfield 21, 3), (5, .getfield 111, 3), (8, .iload_n 1, 1), (9, .iload_n 2, 1), (10, .invokevirtual 121, 3), (13, .invokevirtual 64, 3), (16, .ireturn, 1)]
def bq_X9_turn : List (ab_C × List ab_Q) := [(([.inl 0, .inr ((-2147483648), 2147483647), .inr ((-2147483648), 2147483647)], [], [(29, none), (75, none)], [(some ((-2147483648), 2147483647, none), [], [])]), [])]
def bc_X9_turn : List ab_C := bq_X9_turn.map (fun c => c.1)
def be_X9_turn : Nat → Option (Nat × Option Nat × List ab_C) := fun ix => match ix with
  | 124 => some (3, some 6, bc_X6_setOn)
  | 64 => some (2, some 9, bc_X9_counted)
  | _ => none
def bx_X9_turn : ex_K := (RX9, ec_fx fl_X9, ec_cx cl_X9, sl_X9, (fun ix => (be_X9_turn ix).map (fun q => (q.1, q.2.1, ab_sp ab_hd q.2.2))), ec_nz, ec_no)
def bi_X9_turn : List (Nat × Instr × Nat) := [(0, .aload_n 0, 1), (1, .aload_n 0, 1), (2, .getfield 21, 3), (5, .getfield 111, 3), (8, .iload_n 1, 1), (9, .iload_n 2, 1), (10, .invokevirtual 124, 3), (13, .invokevirtual 64, 3), (16, .ireturn, 1)]
def bq_X9_of : List (ab_C × List ab_Q) := [(([.inl 0, .inr ((-2147483648), 2147483647), .inr ((-2147483648), 2147483647)], [], [(75, none)], [(some ((-2147483648), 2147483647, none), [], [])]), [])]
def bc_X9_of : List ab_C := bq_X9_of.map (fun c => c.1)
def be_X9_of : Nat → Option (Nat × Option Nat × List ab_C) := fun ix => match ix with
  | 127 => some (3, some 6, bc_X6_tellOf)
  | 64 => some (2, some 9, bc_X9_counted)
  | _ => none
def bx_X9_of : ex_K := (RX9, ec_fx fl_X9, ec_cx cl_X9, sl_X9, (fun ix => (be_X9_of ix).map (fun q => (q.1, q.2.1, ab_sp ab_hd q.2.2))), ec_nz, ec_no)
def bi_X9_of : List (Nat × Instr × Nat) := [(0, .aload_n 0, 1), (1, .aload_n 0, 1), (2, .getfield 21, 3), (5, .getfield 111, 3), (8, .iload_n 1, 1), (9, .iload_n 2, 1), (10, .invokevirtual 127, 3), (13, .invokevirtual 64, 3), (16, .ireturn, 1)]
def bq_X9_spares : List (ab_C × List ab_Q) := [(([.inl 0, .inr ((-2147483648), 2147483647), .inr ((-2147483648), 2147483647)], [], [(32, none), (75, none)], [(some ((-2147483648), 2147483647, none), [], [])]), [])]
def bc_X9_spares : List ab_C := bq_X9_spares.map (fun c => c.1)
def be_X9_spares : Nat → Option (Nat × Option Nat × List ab_C) := fun ix => match ix with
  | 128 => some (3, some 6, bc_X6_setSpares)
  | 64 => some (2, some 9, bc_X9_counted)
  | _ => none
def bx_X9_spares : ex_K := (RX9, ec_fx fl_X9, ec_cx cl_X9, sl_X9, (fun ix => (be_X9_spares ix).map (fun q => (q.1, q.2.1, ab_sp ab_hd q.2.2))), ec_nz, ec_no)
def bi_X9_spares : List (Nat × Instr × Nat) := [(0, .aload_n 0, 1), (1, .aload_n 0, 1), (2, .getfield 21, 3), (5, .getfield 111, 3), (8, .iload_n 1, 1), (9, .iload_n 2, 1), (10, .invokevirtual 128, 3), (13, .invokevirtual 64, 3), (16, .ireturn, 1)]
def bq_X9_repair : List (ab_C × List ab_Q) := [(([.inl 0, .inr ((-2147483648), 2147483647), .inr ((-2147483648), 2147483647), .inr ((-2147483648), 2147483647)], [], [(16, none), (17, none), (18, none), (32, none), (75, none)], [(some ((-2147483648), 2147483647, none), [], [])]), [])]
def bc_X9_repair : List ab_C := bq_X9_repair.map (fun c => c.1)
def be_X9_repair : Nat → Option (Nat × Option Nat × List ab_C) := fun ix => match ix with
  | 131 => some (4, some 8, bc_X8_mend)
  | 64 => some (2, some 9, bc_X9_counted)
  | _ => none
def bx_X9_repair : ex_K := (RX9, ec_fx fl_X9, ec_cx cl_X9, sl_X9, (fun ix => (be_X9_repair ix).map (fun q => (q.1, q.2.1, ab_sp ab_hd q.2.2))), ec_nz, ec_no)
def bi_X9_repair : List (Nat × Instr × Nat) := [(0, .aload_n 0, 1), (1, .aload_n 0, 1), (2, .getfield 21, 3), (5, .iload_n 1, 1), (6, .iload_n 2, 1), (7, .iload_n 3, 1), (8, .invokevirtual 131, 3), (11, .invokevirtual 64, 3), (14, .ireturn, 1)]
def bq_X9_shed : List (ab_C × List ab_Q) := [(([.inl 0, .inr ((-2147483648), 2147483647), .inr ((-2147483648), 2147483647)], [], [(75, none)], [(some ((-2147483648), 2147483647, none), [], [])]), [])]
def bc_X9_shed : List ab_C := bq_X9_shed.map (fun c => c.1)
def be_X9_shed : Nat → Option (Nat × Option Nat × List ab_C) := fun ix => match ix with
  | 134 => some (3, some 6, bc_X6_shedding)
  | 64 => some (2, some 9, bc_X9_counted)
  | _ => none
def bx_X9_shed : ex_K := (RX9, ec_fx fl_X9, ec_cx cl_X9, sl_X9, (fun ix => (be_X9_shed ix).map (fun q => (q.1, q.2.1, ab_sp ab_hd q.2.2))), ec_nz, ec_no)
def bi_X9_shed : List (Nat × Instr × Nat) := [(0, .aload_n 0, 1), (1, .aload_n 0, 1), (2, .getfield 21, 3), (5, .getfield 111, 3), (8, .iload_n 1, 1), (9, .iload_n 2, 1), (10, .invokevirtual 134, 3), (13, .invokevirtual 64, 3), (16, .ireturn, 1)]
def bq_X9_sun : List (ab_C × List ab_Q) := [(([.inl 0, .inr ((-2147483648), 2147483647), .inr ((-2147483648), 2147483647)], [], [(21, some 12), (21, some 13), (21, some 14), (75, none)], [(some ((-2147483648), 2147483647, none), [], [])]), [])]
def bc_X9_sun : List ab_C := bq_X9_sun.map (fun c => c.1)
def be_X9_sun : Nat → Option (Nat × Option Nat × List ab_C) := fun ix => match ix with
  | 137 => some (3, some 6, bc_X6_setSun)
  | 64 => some (2, some 9, bc_X9_counted)
  | _ => none
def bx_X9_sun : ex_K := (RX9, ec_fx fl_X9, ec_cx cl_X9, sl_X9, (fun ix => (be_X9_sun ix).map (fun q => (q.1, q.2.1, ab_sp ab_hd q.2.2))), ec_nz, ec_no)
def bi_X9_sun : List (Nat × Instr × Nat) := [(0, .aload_n 0, 1), (1, .aload_n 0, 1), (2, .getfield 21, 3), (5, .getfield 111, 3), (8, .iload_n 1, 1), (9, .iload_n 2, 1), (10, .invokevirtual 137, 3), (13, .invokevirtual 64, 3), (16, .ireturn, 1)]
def bq_X9_battery : List (ab_C × List ab_Q) := [(([.inl 0, .inr ((-2147483648), 2147483647)], [], [(21, some 14), (75, none)], [(some ((-2147483648), 2147483647, none), [], [])]), [])]
def bc_X9_battery : List ab_C := bq_X9_battery.map (fun c => c.1)
def be_X9_battery : Nat → Option (Nat × Option Nat × List ab_C) := fun ix => match ix with
  | 140 => some (2, some 6, bc_X6_setBattery)
  | 64 => some (2, some 9, bc_X9_counted)
  | _ => none
def bx_X9_battery : ex_K := (RX9, ec_fx fl_X9, ec_cx cl_X9, sl_X9, (fun ix => (be_X9_battery ix).map (fun q => (q.1, q.2.1, ab_sp ab_hd q.2.2))), ec_nz, ec_no)
def bi_X9_battery : List (Nat × Instr × Nat) := [(0, .aload_n 0, 1), (1, .aload_n 0, 1), (2, .getfield 21, 3), (5, .getfield 111, 3), (8, .iload_n 1, 1), (9, .invokevirtual 140, 3), (12, .invokevirtual 64, 3), (15, .ireturn, 1)]
def bq_X9_bounds : List (ab_C × List ab_Q) := [(([.inl 0, .inr ((-2147483648), 2147483647), .inr ((-2147483648), 2147483647), .inr ((-2147483648), 2147483647)], [], [(33, some 0), (33, some 1), (33, some 2), (75, none)], [(some ((-2147483648), 2147483647, none), [], [])]), [])]
def bc_X9_bounds : List ab_C := bq_X9_bounds.map (fun c => c.1)
def be_X9_bounds : Nat → Option (Nat × Option Nat × List ab_C) := fun ix => match ix with
  | 147 => some (4, some 1, bc_X1_setAll)
  | 64 => some (2, some 9, bc_X9_counted)
  | _ => none
def bx_X9_bounds : ex_K := (RX9, ec_fx fl_X9, ec_cx cl_X9, sl_X9, (fun ix => (be_X9_bounds ix).map (fun q => (q.1, q.2.1, ab_sp ab_hd q.2.2))), ec_nz, ec_no)
def bi_X9_bounds : List (Nat × Instr × Nat) := [(0, .aload_n 0, 1), (1, .aload_n 0, 1), (2, .getfield 21, 3), (5, .getfield 143, 3), (8, .iload_n 1, 1), (9, .iload_n 2, 1), (10, .iload_n 3, 1), (11, .invokevirtual 147, 3), (14, .invokevirtual 64, 3), (17, .ireturn, 1)]
def bq_X9_ticks : List (ab_C × List ab_Q) := [(([.inl 0, .inr ((-2147483648), 2147483647)], [], [(6, some 6), (8, none), (12, none), (13, none), (15, none), (16, none), (17, none), (18, none), (19, none), (20, none), (21, some 14), (28, none), (29, none), (30, none), (31, none), (32, none), (33, some 3), (33, some 4), (33, some 5), (34, some 0), (34, some 1), (34, some 2), (34, some 3), (34, some 4), (34, some 5), (34, some 6), (75, some 1), (75, some 4)], [(some ((-2147483648), 2147483647, none), [], [])]), [(42, [some (.inl 0), some (.inr (.inl (1, 100, none, none))), some (.inr (.inl (0, 100, none, none)))], [((1, 7, 6), 0, 6, some (8006, 0)), ((1, 14, 6), 0, 6, some (15006, 0)), ((1, 76, 0), 0, 6, some (77000, 0)), ((1, 76, 9), 0, 6, some (77009, 0))], 201, [0, 0, (-2)])])]
def bc_X9_ticks : List ab_C := bq_X9_ticks.map (fun c => c.1)
def be_X9_ticks : Nat → Option (Nat × Option Nat × List ab_C) := fun ix => match ix with
  | 64 => some (2, some 9, bc_X9_counted)
  | 156 => some (1, some 8, bc_X8_passTick)
  | _ => none
def bx_X9_ticks : ex_K := (RX9, ec_fx fl_X9, ec_cx cl_X9, sl_X9, (fun ix => (be_X9_ticks ix).map (fun q => (q.1, q.2.1, ab_sp ab_hd q.2.2))), ec_nz, ec_no)
def bi_X9_ticks : List (Nat × Instr × Nat) := [(0, .iload_n 1, 1), (1, .iconst 1, 1), (2, .if_icmp .lt 9, 3), (5, .iload_n 1, 1), (6, .bipush 100, 2), (8, .if_icmp .le 10, 3), (11, .aload_n 0, 1), (12, .ldc 92, 2), (14, .invokevirtual 64, 3), (17, .ireturn, 1), (18, .aload_n 0, 1), (19, .getfield 21, 3), (22, .getfield 152, 3), (25, .iload_n 1, 1), (26, .iadd, 1), (27, .sipush 3000, 3), (30, .if_icmp .le 10, 3), (33, .aload_n 0, 1), (34, .ldc 155, 2), (36, .invokevirtual 64, 3), (39, .ireturn, 1), (40, .iconst 0, 1), (41, .istore_n 2, 1), (42, .iload_n 2, 1), (43, .iload_n 1, 1), (44, .if_icmp .ge 17, 3), (47, .aload_n 0, 1), (48, .getfield 21, 3), (51, .invokevirtual 156, 3), (54, .pop, 1), (55, .iinc 2 1, 3), (58, .goto (-16), 3), (61, .aload_n 0, 1), (62, .getfield 21, 3), (65, .getfield 152, 3), (68, .ireturn, 1)]
def bq_X9_broke : List (ab_C × List ab_Q) := [(([.inl 0, .inr ((-2147483648), 2147483647)], [], [(75, none)], [(some ((-2147483648), 2147483647, none), [], [])]), [])]
def bc_X9_broke : List ab_C := bq_X9_broke.map (fun c => c.1)
def be_X9_broke : Nat → Option (Nat × Option Nat × List ab_C) := fun ix => match ix with
  | 160 => some (2, some 1, bc_X1_tellFirstBreak)
  | 64 => some (2, some 9, bc_X9_counted)
  | _ => none
def bx_X9_broke : ex_K := (RX9, ec_fx fl_X9, ec_cx cl_X9, sl_X9, (fun ix => (be_X9_broke ix).map (fun q => (q.1, q.2.1, ab_sp ab_hd q.2.2))), ec_nz, ec_no)
def bi_X9_broke : List (Nat × Instr × Nat) := [(0, .aload_n 0, 1), (1, .aload_n 0, 1), (2, .getfield 21, 3), (5, .getfield 143, 3), (8, .iload_n 1, 1), (9, .invokevirtual 160, 3), (12, .invokevirtual 64, 3), (15, .ireturn, 1)]
def bq_X9_ahead : List (ab_C × List ab_Q) := [(([.inl 0, .inr ((-2147483648), 2147483647)], [], [(35, some 6), (36, some 6), (36, some 7), (37, none), (38, none), (39, none), (40, none), (41, none), (42, none), (43, some 6), (44, none), (45, none), (46, none), (47, none), (48, none), (49, none), (50, some 11), (50, some 12), (50, some 13), (50, some 14), (51, none), (52, none), (53, none), (54, none), (55, none), (56, none), (57, none), (58, none), (59, none), (60, none), (61, none), (62, some 0), (62, some 1), (62, some 2), (62, some 3), (62, some 4), (62, some 5), (63, some 0), (63, some 1), (63, some 2), (63, some 3), (63, some 4), (63, some 5), (63, some 6), (75, some 1)], [(some ((-2147483648), 2147483647, none), [], [])]), [(32, [some (.inl 0), some (.inr (.inl (1, 200, none, none))), some (.inr (.inl (1, 201, none, none)))], [((1, 7, 6), 0, 6, some (8006, 0)), ((1, 14, 6), 0, 6, some (15006, 0)), ((1, 76, 0), 0, 6, some (77000, 0)), ((1, 76, 9), 0, 6, some (77009, 0))], 403, [0, 0, (-2)])])]
def bc_X9_ahead : List ab_C := bq_X9_ahead.map (fun c => c.1)
def be_X9_ahead : Nat → Option (Nat × Option Nat × List ab_C) := fun ix => match ix with
  | 64 => some (2, some 9, bc_X9_counted)
  | 163 => some (2, some 8, bc_X8_becomeLike)
  | 156 => some (1, some 8, bc_X8_passTick)
  | _ => none
def bx_X9_ahead : ex_K := (RX9, ec_fx fl_X9, ec_cx cl_X9, sl_X9, (fun ix => (be_X9_ahead ix).map (fun q => (q.1, q.2.1, ab_sp ab_hd q.2.2))), ec_nz, ec_no)
def bi_X9_ahead : List (Nat × Instr × Nat) := [(0, .iload_n 1, 1), (1, .iconst 1, 1), (2, .if_icmp .lt 10, 3), (5, .iload_n 1, 1), (6, .sipush 200, 3), (9, .if_icmp .le 10, 3), (12, .aload_n 0, 1), (13, .ldc 92, 2), (15, .invokevirtual 64, 3), (18, .ireturn, 1), (19, .aload_n 0, 1), (20, .getfield 25, 3), (23, .aload_n 0, 1), (24, .getfield 21, 3), (27, .invokevirtual 163, 3), (30, .iconst 1, 1), (31, .istore_n 2, 1), (32, .iload_n 2, 1), (33, .iload_n 1, 1), (34, .if_icmp .gt 21, 3), (37, .aload_n 0, 1), (38, .getfield 25, 3), (41, .invokevirtual 156, 3), (44, .ifCond .eq 5, 3), (47, .iload_n 2, 1), (48, .ireturn, 1), (49, .iinc 2 1, 3), (52, .goto (-20), 3), (55, .iconst 0, 1), (56, .ireturn, 1)]
def bq_X9_line : List (ab_C × List ab_Q) := [(([.inl 0, .inr ((-2147483648), 2147483647), .inr ((-2147483648), 2147483647), .inr ((-2147483648), 2147483647), .inr ((-2147483648), 2147483647)], [], [(1, some 4), (2, none), (3, none), (4, none), (5, none), (75, none)], [(some ((-2147483648), 2147483647, none), [], [])]), [])]
def bc_X9_line : List ab_C := bq_X9_line.map (fun c => c.1)
def be_X9_line : Nat → Option (Nat × Option Nat × List ab_C) := fun ix => match ix with
  | 64 => some (2, some 9, bc_X9_counted)
  | 178 => some (5, some 7, bc_X7_addLine)
  | _ => none
def bx_X9_line : ex_K := (RX9, ec_fx fl_X9, ec_cx cl_X9, sl_X9, (fun ix => (be_X9_line ix).map (fun q => (q.1, q.2.1, ab_sp ab_hd q.2.2))), ec_nz, ec_no)
def bi_X9_line : List (Nat × Instr × Nat) := [(0, .iload_n 1, 1), (1, .ifCond .lt 9, 3), (4, .iload_n 1, 1), (5, .bipush 12, 2), (7, .if_icmp .lt 10, 3), (10, .aload_n 0, 1), (11, .ldc 92, 2), (13, .invokevirtual 64, 3), (16, .ireturn, 1), (17, .aload_n 0, 1), (18, .getfield 21, 3), (21, .getfield 167, 3), (24, .getfield 171, 3), (27, .ifCond .eq 10, 3), (30, .aload_n 0, 1), (31, .ldc 177, 2), (33, .invokevirtual 64, 3), (36, .ireturn, 1), (37, .aload_n 0, 1), (38, .aload_n 0, 1), (39, .getfield 12, 3), (42, .iload_n 1, 1), (43, .iload_n 2, 1), (44, .iload_n 3, 1), (45, .iload 4, 2), (47, .invokevirtual 178, 3), (50, .invokevirtual 64, 3), (53, .ireturn, 1)]
def bq_X9_erase : List (ab_C × List ab_Q) := [(([.inl 0], [], [(1, some 4), (75, some 3)], [(some ((-2147483648), 2147483647, none), [], [])]), [])]
def bc_X9_erase : List ab_C := bq_X9_erase.map (fun c => c.1)
def be_X9_erase : Nat → Option (Nat × Option Nat × List ab_C) := fun ix => match ix with
  | 64 => some (2, some 9, bc_X9_counted)
  | _ => none
def bx_X9_erase : ex_K := (RX9, ec_fx fl_X9, ec_cx cl_X9, sl_X9, (fun ix => (be_X9_erase ix).map (fun q => (q.1, q.2.1, ab_sp ab_hd q.2.2))), ec_nz, ec_no)
def bi_X9_erase : List (Nat × Instr × Nat) := [(0, .aload_n 0, 1), (1, .getfield 21, 3), (4, .getfield 167, 3), (7, .getfield 171, 3), (10, .ifCond .eq 10, 3), (13, .aload_n 0, 1), (14, .ldc 177, 2), (16, .invokevirtual 64, 3), (19, .ireturn, 1), (20, .aload_n 0, 1), (21, .getfield 12, 3), (24, .getfield 181, 3), (27, .istore_n 1, 1), (28, .aload_n 0, 1), (29, .getfield 12, 3), (32, .iconst 0, 1), (33, .putfield 181, 3), (36, .iload_n 1, 1), (37, .ireturn, 1)]
def bq_X9_begin : List (ab_C × List ab_Q) := [(([.inl 0], [], [(34, some 0), (34, some 1), (34, some 2), (34, some 3), (34, some 4), (34, some 5), (75, some 3)], [(some ((-2147483648), 2147483647, none), [], [])]), [])]
def bc_X9_begin : List ab_C := bq_X9_begin.map (fun c => c.1)
def be_X9_begin : Nat → Option (Nat × Option Nat × List ab_C) := fun ix => match ix with
  | 64 => some (2, some 9, bc_X9_counted)
  | 184 => some (1, some 2, bc_X2_start)
  | _ => none
def bx_X9_begin : ex_K := (RX9, ec_fx fl_X9, ec_cx cl_X9, sl_X9, (fun ix => (be_X9_begin ix).map (fun q => (q.1, q.2.1, ab_sp ab_hd q.2.2))), ec_nz, ec_no)
def bi_X9_begin : List (Nat × Instr × Nat) := [(0, .aload_n 0, 1), (1, .getfield 21, 3), (4, .getfield 167, 3), (7, .getfield 171, 3), (10, .ifCond .ne 13, 3), (13, .aload_n 0, 1), (14, .getfield 12, 3), (17, .getfield 181, 3), (20, .ifCond .ne 10, 3), (23, .aload_n 0, 1), (24, .ldc 177, 2), (26, .invokevirtual 64, 3), (29, .ireturn, 1), (30, .aload_n 0, 1), (31, .getfield 21, 3), (34, .getfield 167, 3), (37, .invokevirtual 184, 3), (40, .iconst 1, 1), (41, .ireturn, 1)]
def bq_X9_halt : List (ab_C × List ab_Q) := [(([.inl 0, .inr ((-2147483648), 2147483647)], [], [(34, some 1), (75, none)], [(some ((-2147483648), 2147483647, none), [], [])]), [])]
def bc_X9_halt : List ab_C := bq_X9_halt.map (fun c => c.1)
def be_X9_halt : Nat → Option (Nat × Option Nat × List ab_C) := fun ix => match ix with
  | 187 => some (2, some 2, bc_X2_setHalted)
  | 64 => some (2, some 9, bc_X9_counted)
  | _ => none
def bx_X9_halt : ex_K := (RX9, ec_fx fl_X9, ec_cx cl_X9, sl_X9, (fun ix => (be_X9_halt ix).map (fun q => (q.1, q.2.1, ab_sp ab_hd q.2.2))), ec_nz, ec_no)
def bi_X9_halt : List (Nat × Instr × Nat) := [(0, .aload_n 0, 1), (1, .aload_n 0, 1), (2, .getfield 21, 3), (5, .getfield 167, 3), (8, .iload_n 1, 1), (9, .invokevirtual 187, 3), (12, .invokevirtual 64, 3), (15, .ireturn, 1)]
def bq_X9_abort : List (ab_C × List ab_Q) := [(([.inl 0], [], [(34, some 0), (34, some 1), (34, some 2), (34, some 3), (34, some 5), (34, some 6), (75, some 3)], [(some ((-2147483648), 2147483647, none), [], [])]), [])]
def bc_X9_abort : List ab_C := bq_X9_abort.map (fun c => c.1)
def be_X9_abort : Nat → Option (Nat × Option Nat × List ab_C) := fun ix => match ix with
  | 64 => some (2, some 9, bc_X9_counted)
  | 190 => some (1, some 2, bc_X2_giveUp)
  | 193 => some (1, none, bc_X9_one)
  | _ => none
def bx_X9_abort : ex_K := (RX9, ec_fx fl_X9, ec_cx cl_X9, sl_X9, (fun ix => (be_X9_abort ix).map (fun q => (q.1, q.2.1, ab_sp ab_hd q.2.2))), ec_nz, ec_no)
def bi_X9_abort : List (Nat × Instr × Nat) := [(0, .aload_n 0, 1), (1, .getfield 21, 3), (4, .getfield 167, 3), (7, .getfield 171, 3), (10, .ifCond .ne 10, 3), (13, .aload_n 0, 1), (14, .ldc 177, 2), (16, .invokevirtual 64, 3), (19, .ireturn, 1), (20, .aload_n 0, 1), (21, .getfield 21, 3), (24, .getfield 167, 3), (27, .invokevirtual 190, 3), (30, .aload_n 0, 1), (31, .getfield 21, 3), (34, .getfield 167, 3), (37, .getfield 171, 3), (40, .invokestatic 193, 3), (43, .ireturn, 1)]
def bq_X9_text : List (ab_C × List ab_Q) := [(([.inl 0, .inr ((-2147483648), 2147483647)], [], [(75, none)], [(some ((-2147483648), 2147483647, none), [], [])]), [])]
def bc_X9_text : List ab_C := bq_X9_text.map (fun c => c.1)
def be_X9_text : Nat → Option (Nat × Option Nat × List ab_C) := fun ix => match ix with
  | 197 => some (2, some 2, bc_X2_tellOf)
  | 64 => some (2, some 9, bc_X9_counted)
  | _ => none
def bx_X9_text : ex_K := (RX9, ec_fx fl_X9, ec_cx cl_X9, sl_X9, (fun ix => (be_X9_text ix).map (fun q => (q.1, q.2.1, ab_sp ab_hd q.2.2))), ec_nz, ec_no)
def bi_X9_text : List (Nat × Instr × Nat) := [(0, .aload_n 0, 1), (1, .aload_n 0, 1), (2, .getfield 21, 3), (5, .getfield 167, 3), (8, .iload_n 1, 1), (9, .invokevirtual 197, 3), (12, .invokevirtual 64, 3), (15, .ireturn, 1)]
def bq_X9_hunt : List (ab_C × List ab_Q) := [(([.inl 0], [], [(64, some 1)], [(some ((-2147483648), 2147483647, none), [], [])]), [])]
def bc_X9_hunt : List ab_C := bq_X9_hunt.map (fun c => c.1)
def be_X9_hunt : Nat → Option (Nat × Option Nat × List ab_C) := fun ix => match ix with
  | 199 => some (2, some 4, bc_X4_startOver)
  | _ => none
def bx_X9_hunt : ex_K := (RX9, ec_fx fl_X9, ec_cx cl_X9, sl_X9, (fun ix => (be_X9_hunt ix).map (fun q => (q.1, q.2.1, ab_sp ab_hd q.2.2))), ec_nz, ec_no)
def bi_X9_hunt : List (Nat × Instr × Nat) := [(0, .aload_n 0, 1), (1, .getfield 31, 3), (4, .aload_n 0, 1), (5, .getfield 21, 3), (8, .getfield 54, 3), (11, .invokevirtual 199, 3), (14, .ireturn, 1)]
def bq_X9_test : List (ab_C × List ab_Q) := [(([.inl 0, .inr ((-2147483648), 2147483647), .inr ((-2147483648), 2147483647)], [], [(64, some 1), (65, none), (75, none)], [(some ((-2147483648), 2147483647, none), [], [])]), [])]
def bc_X9_test : List ab_C := bq_X9_test.map (fun c => c.1)
def be_X9_test : Nat → Option (Nat × Option Nat × List ab_C) := fun ix => match ix with
  | 203 => some (4, some 4, bc_X4_narrow)
  | 64 => some (2, some 9, bc_X9_counted)
  | _ => none
def bx_X9_test : ex_K := (RX9, ec_fx fl_X9, ec_cx cl_X9, sl_X9, (fun ix => (be_X9_test ix).map (fun q => (q.1, q.2.1, ab_sp ab_hd q.2.2))), ec_nz, ec_no)
def bi_X9_test : List (Nat × Instr × Nat) := [(0, .aload_n 0, 1), (1, .aload_n 0, 1), (2, .getfield 31, 3), (5, .aload_n 0, 1), (6, .getfield 21, 3), (9, .getfield 54, 3), (12, .iload_n 1, 1), (13, .iload_n 2, 1), (14, .invokevirtual 203, 3), (17, .invokevirtual 64, 3), (20, .ireturn, 1)]
def bq_X9_best : List (ab_C × List ab_Q) := [(([.inl 0, .inr ((-2147483648), 2147483647)], [], [(65, none), (75, none)], [(some ((-2147483648), 2147483647, none), [], [])]), [])]
def bc_X9_best : List ab_C := bq_X9_best.map (fun c => c.1)
def be_X9_best : Nat → Option (Nat × Option Nat × List ab_C) := fun ix => match ix with
  | 207 => some (3, some 4, bc_X4_bestTest)
  | 64 => some (2, some 9, bc_X9_counted)
  | _ => none
def bx_X9_best : ex_K := (RX9, ec_fx fl_X9, ec_cx cl_X9, sl_X9, (fun ix => (be_X9_best ix).map (fun q => (q.1, q.2.1, ab_sp ab_hd q.2.2))), ec_nz, ec_no)
def bi_X9_best : List (Nat × Instr × Nat) := [(0, .aload_n 0, 1), (1, .aload_n 0, 1), (2, .getfield 31, 3), (5, .aload_n 0, 1), (6, .getfield 21, 3), (9, .getfield 54, 3), (12, .iload_n 1, 1), (13, .invokevirtual 207, 3), (16, .invokevirtual 64, 3), (19, .ireturn, 1)]
def bq_X9_suspects : List (ab_C × List ab_Q) := [(([.inl 0], [], [], [(some ((-2147483648), 2147483647, none), [], [])]), [])]
def bc_X9_suspects : List ab_C := bq_X9_suspects.map (fun c => c.1)
def bx_X9_suspects : ex_K := (RX9, ec_fx fl_X9, ec_cx cl_X9, sl_X9, (fun ix => (ec_no ix).map (fun (q : Nat × Option Nat × List ab_C) => (q.1, q.2.1, ab_sp ab_hd q.2.2))), ec_nz, ec_no)
def bi_X9_suspects : List (Nat × Instr × Nat) := [(0, .aload_n 0, 1), (1, .getfield 31, 3), (4, .getfield 211, 3), (7, .ireturn, 1)]
def bq_X9_read : List (ab_C × List ab_Q) := [(([.inl 0, .inr ((-2147483648), 2147483647), .inr ((-2147483648), 2147483647)], [], [(66, some 7), (67, none), (68, none), (69, none), (70, none), (75, none)], [(some ((-2147483648), 2147483647, none), [], [])]), [])]
def bc_X9_read : List ab_C := bq_X9_read.map (fun c => c.1)
def be_X9_read : Nat → Option (Nat × Option Nat × List ab_C) := fun ix => match ix with
  | 214 => some (4, some 5, bc_X5_addReading)
  | 64 => some (2, some 9, bc_X9_counted)
  | _ => none
def bx_X9_read : ex_K := (RX9, ec_fx fl_X9, ec_cx cl_X9, sl_X9, (fun ix => (be_X9_read ix).map (fun q => (q.1, q.2.1, ab_sp ab_hd q.2.2))), ec_nz, ec_no)
def bi_X9_read : List (Nat × Instr × Nat) := [(0, .aload_n 0, 1), (1, .aload_n 0, 1), (2, .getfield 38, 3), (5, .iload_n 1, 1), (6, .iload_n 2, 1), (7, .aload_n 0, 1), (8, .getfield 21, 3), (11, .getfield 152, 3), (14, .invokevirtual 214, 3), (17, .invokevirtual 64, 3), (20, .ireturn, 1)]
def bq_X9_calibrate : List (ab_C × List ab_Q) := [(([.inl 0, .inr ((-2147483648), 2147483647), .inr ((-2147483648), 2147483647)], [], [(66, some 8), (71, none), (72, none), (73, none), (75, none)], [(some ((-2147483648), 2147483647, none), [], [])]), [])]
def bc_X9_calibrate : List ab_C := bq_X9_calibrate.map (fun c => c.1)
def be_X9_calibrate : Nat → Option (Nat × Option Nat × List ab_C) := fun ix => match ix with
  | 217 => some (4, some 5, bc_X5_addCalibration)
  | 64 => some (2, some 9, bc_X9_counted)
  | _ => none
def bx_X9_calibrate : ex_K := (RX9, ec_fx fl_X9, ec_cx cl_X9, sl_X9, (fun ix => (be_X9_calibrate ix).map (fun q => (q.1, q.2.1, ab_sp ab_hd q.2.2))), ec_nz, ec_no)
def bi_X9_calibrate : List (Nat × Instr × Nat) := [(0, .aload_n 0, 1), (1, .aload_n 0, 1), (2, .getfield 38, 3), (5, .iload_n 1, 1), (6, .iload_n 2, 1), (7, .aload_n 0, 1), (8, .getfield 21, 3), (11, .getfield 152, 3), (14, .invokevirtual 217, 3), (17, .invokevirtual 64, 3), (20, .ireturn, 1)]
def bq_X9_worked : List (ab_C × List ab_Q) := [(([.inl 0, .inr ((-2147483648), 2147483647)], [], [(75, none)], [(some ((-2147483648), 2147483647, none), [], [])]), [])]
def bc_X9_worked : List ab_C := bq_X9_worked.map (fun c => c.1)
def be_X9_worked : Nat → Option (Nat × Option Nat × List ab_C) := fun ix => match ix with
  | 220 => some (2, some 5, bc_X5_workedBack)
  | 64 => some (2, some 9, bc_X9_counted)
  | _ => none
def bx_X9_worked : ex_K := (RX9, ec_fx fl_X9, ec_cx cl_X9, sl_X9, (fun ix => (be_X9_worked ix).map (fun q => (q.1, q.2.1, ab_sp ab_hd q.2.2))), ec_nz, ec_no)
def bi_X9_worked : List (Nat × Instr × Nat) := [(0, .aload_n 0, 1), (1, .aload_n 0, 1), (2, .getfield 38, 3), (5, .iload_n 1, 1), (6, .invokevirtual 220, 3), (9, .invokevirtual 64, 3), (12, .ireturn, 1)]
def bq_X9_delay : List (ab_C × List ab_Q) := [(([.inl 0, .inr ((-2147483648), 2147483647)], [], [(66, some 9), (75, none)], [(some ((-2147483648), 2147483647, none), [], [])]), [])]
def bc_X9_delay : List ab_C := bq_X9_delay.map (fun c => c.1)
def be_X9_delay : Nat → Option (Nat × Option Nat × List ab_C) := fun ix => match ix with
  | 223 => some (2, some 5, bc_X5_setDelay)
  | 64 => some (2, some 9, bc_X9_counted)
  | _ => none
def bx_X9_delay : ex_K := (RX9, ec_fx fl_X9, ec_cx cl_X9, sl_X9, (fun ix => (be_X9_delay ix).map (fun q => (q.1, q.2.1, ab_sp ab_hd q.2.2))), ec_nz, ec_no)
def bi_X9_delay : List (Nat × Instr × Nat) := [(0, .aload_n 0, 1), (1, .aload_n 0, 1), (2, .getfield 38, 3), (5, .iload_n 1, 1), (6, .invokevirtual 223, 3), (9, .invokevirtual 64, 3), (12, .ireturn, 1)]
def bq_X9_known : List (ab_C × List ab_Q) := [(([.inl 0, .inr ((-2147483648), 2147483647), .inr ((-2147483648), 2147483647)], [], [(75, none)], [(some ((-2147483648), 2147483647, none), [], [])]), [])]
def bc_X9_known : List ab_C := bq_X9_known.map (fun c => c.1)
def be_X9_known : Nat → Option (Nat × Option Nat × List ab_C) := fun ix => match ix with
  | 226 => some (3, some 5, bc_X5_latestHeard)
  | 64 => some (2, some 9, bc_X9_counted)
  | _ => none
def bx_X9_known : ex_K := (RX9, ec_fx fl_X9, ec_cx cl_X9, sl_X9, (fun ix => (be_X9_known ix).map (fun q => (q.1, q.2.1, ab_sp ab_hd q.2.2))), ec_nz, ec_no)
def bi_X9_known : List (Nat × Instr × Nat) := [(0, .aload_n 0, 1), (1, .aload_n 0, 1), (2, .getfield 38, 3), (5, .iload_n 1, 1), (6, .iload_n 2, 1), (7, .invokevirtual 226, 3), (10, .invokevirtual 64, 3), (13, .ireturn, 1)]
def bq_X9_isMass : List (ab_C × List ab_Q) := [(([.inr ((-2147483648), 2147483647)], [], [], [(some (0, 0, none), [], []), (some (1, 1, none), [((0, 0, 0), 1, 10000000, none)], [])]), [])]
def bc_X9_isMass : List ab_C := bq_X9_isMass.map (fun c => c.1)
def bx_X9_isMass : ex_K := (RX9, ec_fx fl_X9, ec_cx cl_X9, sl_X9, (fun ix => (ec_no ix).map (fun (q : Nat × Option Nat × List ab_C) => (q.1, q.2.1, ab_sp ab_hd q.2.2))), ec_nz, ec_no)
def bi_X9_isMass : List (Nat × Instr × Nat) := [(0, .iload_n 0, 1), (1, .iconst 1, 1), (2, .if_icmp .lt 13, 3), (5, .iload_n 0, 1), (6, .ldc 241, 2), (8, .if_icmp .gt 7, 3), (11, .iconst 1, 1), (12, .goto 4, 3), (15, .iconst 0, 1), (16, .ireturn, 1)]
def bq_X9_setMass : List (ab_C × List ab_Q) := [(([.inl 0, .inr ((-2147483648), 2147483647)], [], [(0, some 8)], [(some ((-2147483648), 2147483647, none), [], [])]), [])]
def bc_X9_setMass : List ab_C := bq_X9_setMass.map (fun c => c.1)
def be_X9_setMass : Nat → Option (Nat × Option Nat × List ab_C) := fun ix => match ix with
  | 235 => some (1, none, bc_X9_isMass)
  | _ => none
def bx_X9_setMass : ex_K := (RX9, ec_fx fl_X9, ec_cx cl_X9, sl_X9, (fun ix => (be_X9_setMass ix).map (fun q => (q.1, q.2.1, ab_sp ab_hd q.2.2))), ec_nz, ec_no)
def bi_X9_setMass : List (Nat × Instr × Nat) := [(0, .iload_n 1, 1), (1, .ldc_w 275, 3), (4, .if_icmp .eq 13, 3), (7, .iload_n 1, 1), (8, .invokestatic 235, 3), (11, .ifCond .ne 6, 3), (14, .ldc 92, 2), (16, .ireturn, 1), (17, .aload_n 0, 1), (18, .getfield 50, 3), (21, .istore_n 2, 1), (22, .iload_n 1, 1), (23, .ldc_w 275, 3), (26, .if_icmp .eq 8, 3), (29, .aload_n 0, 1), (30, .iload_n 1, 1), (31, .putfield 50, 3), (34, .iload_n 2, 1), (35, .ireturn, 1)]
def bq_X9_isSpeed : List (ab_C × List ab_Q) := [(([.inr ((-2147483648), 2147483647)], [], [], [(some (0, 0, none), [], []), (some (1, 1, none), [((0, 0, 0), (-1000), 1000, none)], [])]), [])]
def bc_X9_isSpeed : List ab_C := bq_X9_isSpeed.map (fun c => c.1)
def bx_X9_isSpeed : ex_K := (RX9, ec_fx fl_X9, ec_cx cl_X9, sl_X9, (fun ix => (ec_no ix).map (fun (q : Nat × Option Nat × List ab_C) => (q.1, q.2.1, ab_sp ab_hd q.2.2))), ec_nz, ec_no)
def bi_X9_isSpeed : List (Nat × Instr × Nat) := [(0, .iload_n 0, 1), (1, .sipush (-1000), 3), (4, .if_icmp .lt 14, 3), (7, .iload_n 0, 1), (8, .sipush 1000, 3), (11, .if_icmp .gt 7, 3), (14, .iconst 1, 1), (15, .goto 4, 3), (18, .iconst 0, 1), (19, .ireturn, 1)]
def bq_X9_setSpeed : List (ab_C × List ab_Q) := [(([.inl 0, .inr ((-2147483648), 2147483647)], [], [(0, some 9)], [(some ((-2147483648), 2147483647, none), [], [])]), [])]
def bc_X9_setSpeed : List ab_C := bq_X9_setSpeed.map (fun c => c.1)
def be_X9_setSpeed : Nat → Option (Nat × Option Nat × List ab_C) := fun ix => match ix with
  | 238 => some (1, none, bc_X9_isSpeed)
  | _ => none
def bx_X9_setSpeed : ex_K := (RX9, ec_fx fl_X9, ec_cx cl_X9, sl_X9, (fun ix => (be_X9_setSpeed ix).map (fun q => (q.1, q.2.1, ab_sp ab_hd q.2.2))), ec_nz, ec_no)
def bi_X9_setSpeed : List (Nat × Instr × Nat) := [(0, .iload_n 1, 1), (1, .ldc_w 275, 3), (4, .if_icmp .eq 13, 3), (7, .iload_n 1, 1), (8, .invokestatic 238, 3), (11, .ifCond .ne 6, 3), (14, .ldc 92, 2), (16, .ireturn, 1), (17, .aload_n 0, 1), (18, .getfield 242, 3), (21, .istore_n 2, 1), (22, .iload_n 1, 1), (23, .ldc_w 275, 3), (26, .if_icmp .eq 8, 3), (29, .aload_n 0, 1), (30, .iload_n 1, 1), (31, .putfield 242, 3), (34, .iload_n 2, 1), (35, .ireturn, 1)]
def bq_X9_mass : List (ab_C × List ab_Q) := [(([.inl 0, .inr ((-2147483648), 2147483647), .inr ((-2147483648), 2147483647)], [], [(0, some 8), (0, some 9), (75, none)], [(some ((-2147483648), 2147483647, none), [], [])]), [])]
def bc_X9_mass : List ab_C := bq_X9_mass.map (fun c => c.1)
def be_X9_mass : Nat → Option (Nat × Option Nat × List ab_C) := fun ix => match ix with
  | 229 => some (2, some 9, bc_X9_setMass)
  | 64 => some (2, some 9, bc_X9_counted)
  | 232 => some (2, some 9, bc_X9_setSpeed)
  | _ => none
def bx_X9_mass : ex_K := (RX9, ec_fx fl_X9, ec_cx cl_X9, sl_X9, (fun ix => (be_X9_mass ix).map (fun q => (q.1, q.2.1, ab_sp ab_hd q.2.2))), ec_nz, ec_no)
def bi_X9_mass : List (Nat × Instr × Nat) := [(0, .iload_n 1, 1), (1, .ifCond .ne 13, 3), (4, .aload_n 0, 1), (5, .aload_n 0, 1), (6, .iload_n 2, 1), (7, .invokevirtual 229, 3), (10, .invokevirtual 64, 3), (13, .ireturn, 1), (14, .iload_n 1, 1), (15, .iconst 1, 1), (16, .if_icmp .ne 13, 3), (19, .aload_n 0, 1), (20, .aload_n 0, 1), (21, .iload_n 2, 1), (22, .invokevirtual 232, 3), (25, .invokevirtual 64, 3), (28, .ireturn, 1), (29, .aload_n 0, 1), (30, .ldc 92, 2), (32, .invokevirtual 64, 3), (35, .ireturn, 1)]
def bq_X9_dock : List (ab_C × List ab_Q) := [(([.inl 0, .inr ((-2147483648), 2147483647), .inr ((-2147483648), 2147483647)], [], [(0, some 8), (0, some 9), (75, some 1), (75, some 3)], [(some ((-2147483648), 2147483647, none), [], [])]), [])]
def bc_X9_dock : List ab_C := bq_X9_dock.map (fun c => c.1)
def be_X9_dock : Nat → Option (Nat × Option Nat × List ab_C) := fun ix => match ix with
  | 235 => some (1, none, bc_X9_isMass)
  | 238 => some (1, none, bc_X9_isSpeed)
  | 64 => some (2, some 9, bc_X9_counted)
  | _ => none
def bx_X9_dock : ex_K := (RX9, ec_fx fl_X9, ec_cx cl_X9, sl_X9, (fun ix => (be_X9_dock ix).map (fun q => (q.1, q.2.1, ab_sp ab_hd q.2.2))), ec_nz, ec_no)
def bi_X9_dock : List (Nat × Instr × Nat) := [(0, .iload_n 1, 1), (1, .invokestatic 235, 3), (4, .ifCond .eq 10, 3), (7, .iload_n 2, 1), (8, .invokestatic 238, 3), (11, .ifCond .ne 10, 3), (14, .aload_n 0, 1), (15, .ldc 92, 2), (17, .invokevirtual 64, 3), (20, .ireturn, 1), (21, .aload_n 0, 1), (22, .getfield 50, 3), (25, .iload_n 1, 1), (26, .iadd, 1), (27, .istore_n 3, 1), (28, .iload_n 3, 1), (29, .ldc 241, 2), (31, .if_icmp .le 10, 3), (34, .aload_n 0, 1), (35, .ldc 177, 2), (37, .invokevirtual 64, 3), (40, .ireturn, 1), (41, .aload_n 0, 1), (42, .getfield 50, 3), (45, .i2l, 1), (46, .aload_n 0, 1), (47, .getfield 242, 3), (50, .i2l, 1), (51, .lmul, 1), (52, .iload_n 1, 1), (53, .i2l, 1), (54, .iload_n 2, 1), (55, .i2l, 1), (56, .lmul, 1), (57, .ladd, 1), (58, .lstore 4, 2), (60, .aload_n 0, 1), (61, .lload 4, 2), (63, .iload_n 3, 1), (64, .i2l, 1), (65, .ldiv, 1), (66, .l2i, 1), (67, .putfield 242, 3), (70, .aload_n 0, 1), (71, .iload_n 3, 1), (72, .putfield 50, 3), (75, .aload_n 0, 1), (76, .getfield 242, 3), (79, .ireturn, 1)]
def bq_X9_undock : List (ab_C × List ab_Q) := [(([.inl 0, .inr ((-2147483648), 2147483647)], [], [(0, some 8), (75, some 1), (75, some 3)], [(some ((-2147483648), 2147483647, none), [], [])]), [])]
def bc_X9_undock : List ab_C := bq_X9_undock.map (fun c => c.1)
def be_X9_undock : Nat → Option (Nat × Option Nat × List ab_C) := fun ix => match ix with
  | 235 => some (1, none, bc_X9_isMass)
  | 64 => some (2, some 9, bc_X9_counted)
  | _ => none
def bx_X9_undock : ex_K := (RX9, ec_fx fl_X9, ec_cx cl_X9, sl_X9, (fun ix => (be_X9_undock ix).map (fun q => (q.1, q.2.1, ab_sp ab_hd q.2.2))), ec_nz, ec_no)
def bi_X9_undock : List (Nat × Instr × Nat) := [(0, .iload_n 1, 1), (1, .invokestatic 235, 3), (4, .ifCond .ne 10, 3), (7, .aload_n 0, 1), (8, .ldc 92, 2), (10, .invokevirtual 64, 3), (13, .ireturn, 1), (14, .aload_n 0, 1), (15, .getfield 50, 3), (18, .iload_n 1, 1), (19, .isub, 1), (20, .iconst 1, 1), (21, .if_icmp .ge 10, 3), (24, .aload_n 0, 1), (25, .ldc 177, 2), (27, .invokevirtual 64, 3), (30, .ireturn, 1), (31, .aload_n 0, 1), (32, .dup, 1), (33, .getfield 50, 3), (36, .iload_n 1, 1), (37, .isub, 1), (38, .putfield 50, 3), (41, .aload_n 0, 1), (42, .getfield 50, 3), (45, .ireturn, 1)]
def bq_X9_tell : List (ab_C × List ab_Q) := [(([.inl 0, .inr ((-2147483648), 2147483647)], [], [(0, some 7), (74, none), (75, some 4)], [(some ((-2147483648), 2147483647, none), [], [])]), [])]
def bc_X9_tell : List ab_C := bq_X9_tell.map (fun c => c.1)
def be_X9_tell : Nat → Option (Nat × Option Nat × List ab_C) := fun ix => match ix with
  | 64 => some (2, some 9, bc_X9_counted)
  | _ => none
def bx_X9_tell : ex_K := (RX9, ec_fx fl_X9, ec_cx cl_X9, sl_X9, (fun ix => (be_X9_tell ix).map (fun q => (q.1, q.2.1, ab_sp ab_hd q.2.2))), ec_nz, ec_no)
def bi_X9_tell : List (Nat × Instr × Nat) := [(0, .aload_n 0, 1), (1, .getfield 245, 3), (4, .bipush 24, 2), (6, .if_icmp .lt 10, 3), (9, .aload_n 0, 1), (10, .ldc 155, 2), (12, .invokevirtual 64, 3), (15, .ireturn, 1), (16, .aload_n 0, 1), (17, .getfield 42, 3), (20, .aload_n 0, 1), (21, .getfield 245, 3), (24, .iload_n 1, 1), (25, .iastore, 1), (26, .aload_n 0, 1), (27, .dup, 1), (28, .getfield 245, 3), (31, .iconst 1, 1), (32, .iadd, 1), (33, .putfield 245, 3), (36, .aload_n 0, 1), (37, .getfield 245, 3), (40, .ireturn, 1)]
def bq_X9_check : List (ab_C × List ab_Q) := [(([.inl 0, .inr ((-2147483648), 2147483647), .inr ((-2147483648), 2147483647)], [], [(0, some 7), (35, some 6), (36, some 6), (36, some 7), (37, none), (38, none), (39, none), (40, none), (41, none), (42, none), (43, some 6), (44, none), (45, none), (46, none), (47, none), (48, none), (49, none), (50, some 11), (50, some 12), (50, some 13), (50, some 14), (51, none), (52, none), (53, none), (54, none), (55, none), (56, none), (57, none), (58, none), (59, none), (60, none), (61, none), (62, some 0), (62, some 1), (62, some 2), (62, some 3), (62, some 4), (62, some 5), (63, some 0), (63, some 1), (63, some 2), (63, some 3), (63, some 4), (63, some 5), (63, some 6), (75, some 1)], [(some ((-2147483648), 2147483647, none), [], [])]), [(52, [some (.inl 0), some (.inr (.inl (0, 5, none, none))), some (.inr (.inl (0, 4, none, none))), some (.inr (.inl (0, 24, none, none))), some (.inr (.inl (0, 24, none, none)))], [((1, 7, 6), 0, 6, some (8006, 0)), ((1, 14, 6), 0, 6, some (15006, 0)), ((1, 76, 0), 0, 6, some (77000, 0)), ((1, 76, 9), 0, 6, some (77009, 0))], 49, [0, 0, 0, 0, (-2)])])]
def bc_X9_check : List ab_C := bq_X9_check.map (fun c => c.1)
def be_X9_check : Nat → Option (Nat × Option Nat × List ab_C) := fun ix => match ix with
  | 88 => some (2, some 0, bc_X0_hasModule)
  | 248 => some (1, none, bc_X0_isSort)
  | 64 => some (2, some 9, bc_X9_counted)
  | 163 => some (2, some 8, bc_X8_becomeLike)
  | 156 => some (1, some 8, bc_X8_passTick)
  | 251 => some (3, some 0, bc_X0_amount)
  | _ => none
def bx_X9_check : ex_K := (RX9, ec_fx fl_X9, ec_cx cl_X9, sl_X9, (fun ix => (be_X9_check ix).map (fun q => (q.1, q.2.1, ab_sp ab_hd q.2.2))), ec_nz, ec_no)
def bi_X9_check : List (Nat × Instr × Nat) := [(0, .aload_n 0, 1), (1, .getfield 245, 3), (4, .istore_n 3, 1), (5, .aload_n 0, 1), (6, .iconst 0, 1), (7, .putfield 245, 3), (10, .aload_n 0, 1), (11, .getfield 21, 3), (14, .getfield 54, 3), (17, .iload_n 1, 1), (18, .invokevirtual 88, 3), (21, .ifCond .eq 10, 3), (24, .iload_n 2, 1), (25, .invokestatic 248, 3), (28, .ifCond .ne 10, 3), (31, .aload_n 0, 1), (32, .ldc 92, 2), (34, .invokevirtual 64, 3), (37, .ireturn, 1), (38, .aload_n 0, 1), (39, .getfield 25, 3), (42, .aload_n 0, 1), (43, .getfield 21, 3), (46, .invokevirtual 163, 3), (49, .iconst 0, 1), (50, .istore 4, 2), (52, .iload 4, 2), (54, .iload_n 3, 1), (55, .if_icmp .ge 44, 3), (58, .aload_n 0, 1), (59, .getfield 25, 3), (62, .invokevirtual 156, 3), (65, .pop, 1), (66, .aload_n 0, 1), (67, .getfield 25, 3), (70, .getfield 54, 3), (73, .iload_n 1, 1), (74, .iload_n 2, 1), (75, .invokevirtual 251, 3), (78, .aload_n 0, 1), (79, .getfield 42, 3), (82, .iload 4, 2), (84, .iaload, 1), (85, .if_icmp .eq 8, 3), (88, .iconst 1, 1), (89, .iload 4, 2), (91, .iadd, 1), (92, .ireturn, 1), (93, .iinc 4 1, 3), (96, .goto (-44), 3), (99, .iconst 0, 1), (100, .ireturn, 1)]
def bq_X9_count : List (ab_C × List ab_Q) := [(([.inl 0, .inr ((-2147483648), 2147483647)], [], [(75, some 1)], [(some ((-2147483648), 2147483647, none), [], [])]), [])]
def bc_X9_count : List ab_C := bq_X9_count.map (fun c => c.1)
def be_X9_count : Nat → Option (Nat × Option Nat × List ab_C) := fun ix => match ix with
  | 272 => some (1, some 3, bc_X3_menders)
  | 64 => some (2, some 9, bc_X9_counted)
  | _ => none
def bx_X9_count : ex_K := (RX9, ec_fx fl_X9, ec_cx cl_X9, sl_X9, (fun ix => (be_X9_count ix).map (fun q => (q.1, q.2.1, ab_sp ab_hd q.2.2))), ec_nz, ec_no)
def bi_X9_count : List (Nat × Instr × Nat) := [(0, .iload_n 1, 1), (1, .tableswitch 147 0 9 #[55, 66, 77, 88, 99, 107, 115, 123, 131, 136], 55), (56, .aload_n 0, 1), (57, .getfield 21, 3), (60, .getfield 54, 3), (63, .getfield 254, 3), (66, .ireturn, 1), (67, .aload_n 0, 1), (68, .getfield 21, 3), (71, .getfield 54, 3), (74, .getfield 257, 3), (77, .ireturn, 1), (78, .aload_n 0, 1), (79, .getfield 21, 3), (82, .getfield 93, 3), (85, .getfield 260, 3), (88, .ireturn, 1), (89, .aload_n 0, 1), (90, .getfield 21, 3), (93, .getfield 111, 3), (96, .getfield 263, 3), (99, .ireturn, 1), (100, .aload_n 0, 1), (101, .getfield 21, 3), (104, .getfield 152, 3), (107, .ireturn, 1), (108, .aload_n 0, 1), (109, .getfield 12, 3), (112, .getfield 181, 3), (115, .ireturn, 1), (116, .aload_n 0, 1), (117, .getfield 38, 3), (120, .getfield 266, 3), (123, .ireturn, 1), (124, .aload_n 0, 1), (125, .getfield 38, 3), (128, .getfield 269, 3), (131, .ireturn, 1), (132, .aload_n 0, 1), (133, .getfield 245, 3), (136, .ireturn, 1), (137, .aload_n 0, 1), (138, .getfield 21, 3), (141, .getfield 93, 3), (144, .invokevirtual 272, 3), (147, .ireturn, 1), (148, .aload_n 0, 1), (149, .ldc 92, 2), (151, .invokevirtual 64, 3), (154, .ireturn, 1)]
def bq_X9_found : List (ab_C × List ab_Q) := [(([.inl 0, .inr ((-2147483648), 2147483647)], [], [(75, some 1)], [(some ((-2147483648), 2147483647, none), [], [])]), [])]
def bc_X9_found : List ab_C := bq_X9_found.map (fun c => c.1)
def be_X9_found : Nat → Option (Nat × Option Nat × List ab_C) := fun ix => match ix with
  | 64 => some (2, some 9, bc_X9_counted)
  | _ => none
def bx_X9_found : ex_K := (RX9, ec_fx fl_X9, ec_cx cl_X9, sl_X9, (fun ix => (be_X9_found ix).map (fun q => (q.1, q.2.1, ab_sp ab_hd q.2.2))), ec_nz, ec_no)
def bi_X9_found : List (Nat × Instr × Nat) := [(0, .iload_n 1, 1), (1, .iconst 1, 1), (2, .if_icmp .lt 8, 3), (5, .iload_n 1, 1), (6, .iconst 5, 1), (7, .if_icmp .le 10, 3), (10, .aload_n 0, 1), (11, .ldc 92, 2), (13, .invokevirtual 64, 3), (16, .ireturn, 1), (17, .aload_n 0, 1), (18, .getfield 46, 3), (21, .iload_n 1, 1), (22, .iaload, 1), (23, .ireturn, 1)]
def bq_X10_finding : List (ab_C × List ab_Q) := [(([.inl 76, .inr (4, 4)], [], [(114, some 4)], [(some ((-1000000004), (-1000000004), none), [], [])]), []),
  (([.inl 76, .inr (1, 1)], [], [(114, some 1)], [(some ((-1000000001), (-1000000001), none), [], [])]), []),
  (([.inl 76, .inr (3, 3)], [], [(114, some 3)], [(some ((-1000000003), (-1000000003), none), [], [])]), []),
  (([.inl 76, .inr (5, 5)], [], [(114, some 5)], [(some ((-1000000005), (-1000000005), none), [], [])]), []),
  (([.inl 76, .inr (2, 2)], [], [(114, some 2)], [(some ((-1000000002), (-1000000002), none), [], [])]), []),
  (([.inl 76, .inr (1, 3)], [], [(114, none)], [(some ((-1000000003), (-1000000001), none), [], [])]), [])]
def bc_X10_finding : List ab_C := bq_X10_finding.map (fun c => c.1)
def bx_X10_finding : ex_K := (RX10, ec_fx fl_X10, ec_cx cl_X10, sl_X10, (fun ix => (ec_no ix).map (fun (q : Nat × Option Nat × List ab_C) => (q.1, q.2.1, ab_sp ab_hd q.2.2))), ec_nz, ec_no)
def bi_X10_finding : List (Nat × Instr × Nat) := [(0, .aload_n 0, 1), (1, .getfield 141, 3), (4, .iload_n 1, 1), (5, .dup2, 1), (6, .iaload, 1), (7, .iconst 1, 1), (8, .iadd, 1), (9, .iastore, 1), (10, .ldc 147, 2), (12, .iload_n 1, 1), (13, .isub, 1), (14, .ireturn, 1)]
def bq_X10_isIn : List (ab_C × List ab_Q) := [(([.inr ((-2147483648), 2147483647), .inr (0, 0), .inr (1, 1)], [], [], [(some (0, 0, none), [], []), (some (1, 1, none), [((0, 0, 0), 0, 1, none)], [])]), []),
  (([.inr ((-2147483648), 2147483647), .inr (0, 0), .inr (4, 4)], [], [], [(some (0, 0, none), [], []), (some (1, 1, none), [((0, 0, 0), 0, 4, none)], [])]), []),
  (([.inr ((-2147483648), 2147483647), .inr ((-1), (-1)), .inr (100000, 100000)], [], [], [(some (0, 0, none), [], []), (some (1, 1, none), [((0, 0, 0), (-1), 100000, none)], [])]), []),
  (([.inr ((-2147483648), 2147483647), .inr (0, 0), .inr (50, 50)], [], [], [(some (0, 0, none), [], []), (some (1, 1, none), [((0, 0, 0), 0, 50, none)], [])]), []),
  (([.inr ((-2147483648), 2147483647), .inr (0, 0), .inr (5, 5)], [], [], [(some (0, 0, none), [], []), (some (1, 1, none), [((0, 0, 0), 0, 5, none)], [])]), []),
  (([.inr ((-2147483648), 2147483647), .inr ((-1), (-1)), .inr (1000000, 1000000)], [], [], [(some (0, 0, none), [], []), (some (1, 1, none), [((0, 0, 0), (-1), 1000000, none)], [])]), []),
  (([.inr ((-2147483648), 2147483647), .inr (0, 0), .inr (2, 2)], [], [], [(some (0, 0, none), [], []), (some (1, 1, none), [((0, 0, 0), 0, 2, none)], [])]), []),
  (([.inr ((-2147483648), 2147483647), .inr (0, 0), .inr (100, 100)], [], [], [(some (0, 0, none), [], []), (some (1, 1, none), [((0, 0, 0), 0, 100, none)], [])]), []),
  (([.inr ((-2147483648), 2147483647), .inr (1, 1), .inr (1000, 1000)], [], [], [(some (0, 0, none), [], []), (some (1, 1, none), [((0, 0, 0), 1, 1000, none)], [])]), []),
  (([.inr ((-2147483648), 2147483647), .inr (0, 0), .inr (8, 8)], [], [], [(some (0, 0, none), [], []), (some (1, 1, none), [((0, 0, 0), 0, 8, none)], [])]), []),
  (([.inr ((-2147483648), 2147483647), .inr ((-1), (-1)), .inr (20, 20)], [], [], [(some (0, 0, none), [], []), (some (1, 1, none), [((0, 0, 0), (-1), 20, none)], [])]), []),
  (([.inr ((-2147483648), 2147483647), .inr (1, 1), .inr (60, 60)], [], [], [(some (0, 0, none), [], []), (some (1, 1, none), [((0, 0, 0), 1, 60, none)], [])]), []),
  (([.inr ((-2147483648), 2147483647), .inr (0, 0), .inr (1000, 1000)], [], [], [(some (0, 0, none), [], []), (some (1, 1, none), [((0, 0, 0), 0, 1000, none)], [])]), []),
  (([.inr ((-2147483648), 2147483647), .inr (0, 0), .inr (11, 11)], [], [], [(some (0, 0, none), [], []), (some (1, 1, none), [((0, 0, 0), 0, 11, none)], [])]), []),
  (([.inr ((-2147483648), 2147483647), .inr (0, 0), .inr (6, 6)], [], [], [(some (0, 0, none), [], []), (some (1, 1, none), [((0, 0, 0), 0, 6, none)], [])]), []),
  (([.inr ((-2147483648), 2147483647), .inr (0, 0), .inr (500, 500)], [], [], [(some (0, 0, none), [], []), (some (1, 1, none), [((0, 0, 0), 0, 500, none)], [])]), []),
  (([.inr ((-2147483648), 2147483647), .inr (0, 0), .inr (5000, 5000)], [], [], [(some (0, 0, none), [], []), (some (1, 1, none), [((0, 0, 0), 0, 5000, none)], [])]), []),
  (([.inr ((-2147483648), 2147483647), .inr (0, 0), .inr (100000, 100000)], [], [], [(some (0, 0, none), [], []), (some (1, 1, none), [((0, 0, 0), 0, 100000, none)], [])]), []),
  (([.inr ((-2147483648), 2147483647), .inr (1, 1), .inr (100, 100)], [], [], [(some (0, 0, none), [], []), (some (1, 1, none), [((0, 0, 0), 1, 100, none)], [])]), []),
  (([.inr ((-2147483648), 2147483647), .inr (0, 0), .inr (7, 7)], [], [], [(some (0, 0, none), [], []), (some (1, 1, none), [((0, 0, 0), 0, 7, none)], [])]), []),
  (([.inr ((-2147483648), 2147483647), .inr (1, 1), .inr (200, 200)], [], [], [(some (0, 0, none), [], []), (some (1, 1, none), [((0, 0, 0), 1, 200, none)], [])]), []),
  (([.inr ((-2147483648), 2147483647), .inr (0, 0), .inr (3, 3)], [], [], [(some (0, 0, none), [], []), (some (1, 1, none), [((0, 0, 0), 0, 3, none)], [])]), []),
  (([.inr ((-2147483648), 2147483647), .inr ((-10000), (-10000)), .inr (10000, 10000)], [], [], [(some (0, 0, none), [], []), (some (1, 1, none), [((0, 0, 0), (-10000), 10000, none)], [])]), []),
  (([.inr ((-2147483648), 2147483647), .inr ((-1000), (-1000)), .inr (1000, 1000)], [], [], [(some (0, 0, none), [], []), (some (1, 1, none), [((0, 0, 0), (-1000), 1000, none)], [])]), []),
  (([.inr ((-2147483648), 2147483647), .inr (0, 0), .inr (4000, 4000)], [], [], [(some (0, 0, none), [], []), (some (1, 1, none), [((0, 0, 0), 0, 4000, none)], [])]), []),
  (([.inr ((-2147483648), 2147483647), .inr (1, 1), .inr (10000000, 10000000)], [], [], [(some (0, 0, none), [], []), (some (1, 1, none), [((0, 0, 0), 1, 10000000, none)], [])]), []),
  (([.inr ((-2147483648), 2147483647), .inr (1, 1), .inr (5, 5)], [], [], [(some (0, 0, none), [], []), (some (1, 1, none), [((0, 0, 0), 1, 5, none)], [])]), []),
  (([.inr ((-2147483648), 2147483647), .inr ((-1), 0), .inr ((-2147483648), 2147483647)], [], [], [(some (0, 0, none), [], []), (some (1, 1, none), [((0, 0, 0), (-1), 2147483647, none), ((0, 2, 0), (-1), 2147483647, none)], [])]), [])]
def bc_X10_isIn : List ab_C := bq_X10_isIn.map (fun c => c.1)
def bx_X10_isIn : ex_K := (RX10, ec_fx fl_X10, ec_cx cl_X10, sl_X10, (fun ix => (ec_no ix).map (fun (q : Nat × Option Nat × List ab_C) => (q.1, q.2.1, ab_sp ab_hd q.2.2))), ec_nz, ec_no)
def bi_X10_isIn : List (Nat × Instr × Nat) := [(0, .iload_n 0, 1), (1, .iload_n 1, 1), (2, .if_icmp .lt 12, 3), (5, .iload_n 0, 1), (6, .iload_n 2, 1), (7, .if_icmp .gt 7, 3), (10, .iconst 1, 1), (11, .goto 4, 3), (14, .iconst 0, 1), (15, .ireturn, 1)]
def bq_X10_isModule : List (ab_C × List ab_Q) := [(([.inl 76, .inr ((-2147483648), 2147483647)], [], [], [(some (1, 1, none), [((0, 1, 0), 0, 5, none), ((9, 1, 77000), (-4294967296), (-1), none), ((8, 77000, 0), 1, 6, none)], []), (some (0, 0, none), [((0, 1, 0), 0, 2147483647, none), ((9, 1, 77000), 0, 4294967296, none), ((8, 77000, 0), 0, 6, none)], []), (some (0, 0, none), [((0, 1, 0), (-2147483648), (-1), none)], [])]), [])]
def bc_X10_isModule : List ab_C := bq_X10_isModule.map (fun c => c.1)
def bx_X10_isModule : ex_K := (RX10, ec_fx fl_X10, ec_cx cl_X10, sl_X10, (fun ix => (ec_no ix).map (fun (q : Nat × Option Nat × List ab_C) => (q.1, q.2.1, ab_sp ab_hd q.2.2))), ec_nz, ec_no)
def bi_X10_isModule : List (Nat × Instr × Nat) := [(0, .iload_n 1, 1), (1, .ifCond .lt 15, 3), (4, .iload_n 1, 1), (5, .aload_n 0, 1), (6, .getfield 148, 3), (9, .if_icmp .ge 7, 3), (12, .iconst 1, 1), (13, .goto 4, 3), (16, .iconst 0, 1), (17, .ireturn, 1)]
def bq_X10_isHatch : List (ab_C × List ab_Q) := [(([.inl 76, .inr ((-2147483648), 2147483647)], [], [], [(some (0, 0, none), [], []), (some (1, 1, none), [((0, 1, 0), 0, 7, none)], [])]), [])]
def bc_X10_isHatch : List ab_C := bq_X10_isHatch.map (fun c => c.1)
def bx_X10_isHatch : ex_K := (RX10, ec_fx fl_X10, ec_cx cl_X10, sl_X10, (fun ix => (ec_no ix).map (fun (q : Nat × Option Nat × List ab_C) => (q.1, q.2.1, ab_sp ab_hd q.2.2))), ec_nz, ec_no)
def bi_X10_isHatch : List (Nat × Instr × Nat) := [(0, .iload_n 1, 1), (1, .ifCond .lt 15, 3), (4, .iload_n 1, 1), (5, .aload_n 0, 1), (6, .getfield 151, 3), (9, .if_icmp .ge 7, 3), (12, .iconst 1, 1), (13, .goto 4, 3), (16, .iconst 0, 1), (17, .ireturn, 1)]
def bq_X10_isPerson : List (ab_C × List ab_Q) := [(([.inl 76, .inr ((-2147483648), 2147483647)], [], [], [(some (0, 0, none), [], []), (some (1, 1, none), [((0, 1, 0), 0, 5, none)], [])]), [])]
def bc_X10_isPerson : List ab_C := bq_X10_isPerson.map (fun c => c.1)
def bx_X10_isPerson : ex_K := (RX10, ec_fx fl_X10, ec_cx cl_X10, sl_X10, (fun ix => (ec_no ix).map (fun (q : Nat × Option Nat × List ab_C) => (q.1, q.2.1, ab_sp ab_hd q.2.2))), ec_nz, ec_no)
def bi_X10_isPerson : List (Nat × Instr × Nat) := [(0, .iload_n 1, 1), (1, .ifCond .lt 15, 3), (4, .iload_n 1, 1), (5, .aload_n 0, 1), (6, .getfield 154, 3), (9, .if_icmp .ge 7, 3), (12, .iconst 1, 1), (13, .goto 4, 3), (16, .iconst 0, 1), (17, .ireturn, 1)]
def bq_X10_isMachine : List (ab_C × List ab_Q) := [(([.inl 76, .inr ((-2147483648), 2147483647)], [], [], [(some (0, 0, none), [], []), (some (1, 1, none), [((0, 1, 0), 0, 9, none)], [])]), [])]
def bc_X10_isMachine : List ab_C := bq_X10_isMachine.map (fun c => c.1)
def bx_X10_isMachine : ex_K := (RX10, ec_fx fl_X10, ec_cx cl_X10, sl_X10, (fun ix => (ec_no ix).map (fun (q : Nat × Option Nat × List ab_C) => (q.1, q.2.1, ab_sp ab_hd q.2.2))), ec_nz, ec_no)
def bi_X10_isMachine : List (Nat × Instr × Nat) := [(0, .iload_n 1, 1), (1, .ifCond .lt 15, 3), (4, .iload_n 1, 1), (5, .aload_n 0, 1), (6, .getfield 157, 3), (9, .if_icmp .ge 7, 3), (12, .iconst 1, 1), (13, .goto 4, 3), (16, .iconst 0, 1), (17, .ireturn, 1)]
def bq_X10_module : List (ab_C × List ab_Q) := [(([.inl 76], [], [(76, some 0), (114, some 4)], [(some ((-1000000004), (-1000000004), none), [((8, 77000, 0), 6, 6, none)], [((1, 76, 0), 6, 6, some (77000, 0))]), (some (0, 5, some (77000, 0)), [((8, 77000, 0), 0, 5, none)], [((1, 76, 0), 1, 6, some (77000, 1))])]), [])]
def bc_X10_module : List ab_C := bq_X10_module.map (fun c => c.1)
def be_X10_module : Nat → Option (Nat × Option Nat × List ab_C) := fun ix => match ix with
  | 160 => some (2, some 10, bc_X10_finding)
  | _ => none
def bx_X10_module : ex_K := (RX10, ec_fx fl_X10, ec_cx cl_X10, sl_X10, (fun ix => (be_X10_module ix).map (fun q => (q.1, q.2.1, ab_sp ab_hd q.2.2))), ec_nz, ec_no)
def bi_X10_module : List (Nat × Instr × Nat) := [(0, .aload_n 0, 1), (1, .getfield 148, 3), (4, .bipush 6, 2), (6, .if_icmp .ne 9, 3), (9, .aload_n 0, 1), (10, .iconst 4, 1), (11, .invokevirtual 160, 3), (14, .ireturn, 1), (15, .aload_n 0, 1), (16, .dup, 1), (17, .getfield 148, 3), (20, .iconst 1, 1), (21, .iadd, 1), (22, .putfield 148, 3), (25, .aload_n 0, 1), (26, .getfield 148, 3), (29, .iconst 1, 1), (30, .isub, 1), (31, .ireturn, 1)]
def bq_X10_hatch : List (ab_C × List ab_Q) := [(([.inl 76, .inr ((-2147483648), 2147483647), .inr ((-2147483648), 2147483647)], [], [(76, some 4), (80, none), (81, none), (82, none), (114, some 1), (114, some 4)], [(some ((-2147483648), 2147483647, none), [], [])]), [])]
def bc_X10_hatch : List ab_C := bq_X10_hatch.map (fun c => c.1)
def be_X10_hatch : Nat → Option (Nat × Option Nat × List ab_C) := fun ix => match ix with
  | 164 => some (2, some 10, bc_X10_isModule)
  | 160 => some (2, some 10, bc_X10_finding)
  | _ => none
def bx_X10_hatch : ex_K := (RX10, ec_fx fl_X10, ec_cx cl_X10, sl_X10, (fun ix => (be_X10_hatch ix).map (fun q => (q.1, q.2.1, ab_sp ab_hd q.2.2))), ec_nz, ec_no)
def bi_X10_hatch : List (Nat × Instr × Nat) := [(0, .aload_n 0, 1), (1, .iload_n 1, 1), (2, .invokevirtual 164, 3), (5, .ifCond .eq 16, 3), (8, .aload_n 0, 1), (9, .iload_n 2, 1), (10, .invokevirtual 164, 3), (13, .ifCond .eq 8, 3), (16, .iload_n 1, 1), (17, .iload_n 2, 1), (18, .if_icmp .ne 9, 3), (21, .aload_n 0, 1), (22, .iconst 1, 1), (23, .invokevirtual 160, 3), (26, .ireturn, 1), (27, .aload_n 0, 1), (28, .getfield 151, 3), (31, .bipush 8, 2), (33, .if_icmp .ne 9, 3), (36, .aload_n 0, 1), (37, .iconst 4, 1), (38, .invokevirtual 160, 3), (41, .ireturn, 1), (42, .aload_n 0, 1), (43, .getfield 19, 3), (46, .aload_n 0, 1), (47, .getfield 151, 3), (50, .iload_n 1, 1), (51, .iastore, 1), (52, .aload_n 0, 1), (53, .getfield 22, 3), (56, .aload_n 0, 1), (57, .getfield 151, 3), (60, .iload_n 2, 1), (61, .iastore, 1), (62, .aload_n 0, 1), (63, .getfield 25, 3), (66, .aload_n 0, 1), (67, .getfield 151, 3), (70, .iconst 1, 1), (71, .iastore, 1), (72, .aload_n 0, 1), (73, .dup, 1), (74, .getfield 151, 3), (77, .iconst 1, 1), (78, .iadd, 1), (79, .putfield 151, 3), (82, .aload_n 0, 1), (83, .getfield 151, 3), (86, .iconst 1, 1), (87, .isub, 1), (88, .ireturn, 1)]
def bq_X10_shut : List (ab_C × List ab_Q) := [(([.inl 76, .inr ((-2147483648), 2147483647), .inr ((-2147483648), 2147483647)], [], [(82, none), (114, some 1)], [(some ((-2147483648), 2147483647, none), [], [])]), [])]
def bc_X10_shut : List ab_C := bq_X10_shut.map (fun c => c.1)
def be_X10_shut : Nat → Option (Nat × Option Nat × List ab_C) := fun ix => match ix with
  | 168 => some (2, some 10, bc_X10_isHatch)
  | 171 => some (3, none, bc_X10_isIn)
  | 160 => some (2, some 10, bc_X10_finding)
  | _ => none
def bx_X10_shut : ex_K := (RX10, ec_fx fl_X10, ec_cx cl_X10, sl_X10, (fun ix => (be_X10_shut ix).map (fun q => (q.1, q.2.1, ab_sp ab_hd q.2.2))), ec_nz, ec_no)
def bi_X10_shut : List (Nat × Instr × Nat) := [(0, .aload_n 0, 1), (1, .iload_n 1, 1), (2, .invokevirtual 168, 3), (5, .ifCond .eq 12, 3), (8, .iload_n 2, 1), (9, .iconst 0, 1), (10, .iconst 1, 1), (11, .invokestatic 171, 3), (14, .ifCond .ne 9, 3), (17, .aload_n 0, 1), (18, .iconst 1, 1), (19, .invokevirtual 160, 3), (22, .ireturn, 1), (23, .aload_n 0, 1), (24, .getfield 25, 3), (27, .iload_n 1, 1), (28, .iaload, 1), (29, .istore_n 3, 1), (30, .aload_n 0, 1), (31, .getfield 25, 3), (34, .iload_n 1, 1), (35, .iload_n 2, 1), (36, .iastore, 1), (37, .iload_n 3, 1), (38, .ireturn, 1)]
def bq_X10_gas : List (ab_C × List ab_Q) := [(([.inl 76, .inr ((-2147483648), 2147483647), .inr ((-2147483648), 2147483647), .inr ((-2147483648), 2147483647)], [], [(77, none), (78, none), (114, some 1)], [(some ((-2147483648), 2147483647, none), [], [])]), [])]
def bc_X10_gas : List ab_C := bq_X10_gas.map (fun c => c.1)
def be_X10_gas : Nat → Option (Nat × Option Nat × List ab_C) := fun ix => match ix with
  | 164 => some (2, some 10, bc_X10_isModule)
  | 171 => some (3, none, bc_X10_isIn)
  | 160 => some (2, some 10, bc_X10_finding)
  | _ => none
def bx_X10_gas : ex_K := (RX10, ec_fx fl_X10, ec_cx cl_X10, sl_X10, (fun ix => (be_X10_gas ix).map (fun q => (q.1, q.2.1, ab_sp ab_hd q.2.2))), ec_nz, ec_no)
def bi_X10_gas : List (Nat × Instr × Nat) := [(0, .aload_n 0, 1), (1, .iload_n 1, 1), (2, .invokevirtual 164, 3), (5, .ifCond .eq 22, 3), (8, .iload_n 2, 1), (9, .iconst 0, 1), (10, .iconst 4, 1), (11, .invokestatic 171, 3), (14, .ifCond .eq 13, 3), (17, .iload_n 3, 1), (18, .iconst (-1), 1), (19, .ldc 175, 2), (21, .invokestatic 171, 3), (24, .ifCond .ne 9, 3), (27, .aload_n 0, 1), (28, .iconst 1, 1), (29, .invokevirtual 160, 3), (32, .ireturn, 1), (33, .iload_n 2, 1), (34, .iconst 4, 1), (35, .if_icmp .ne 12, 3), (38, .aload_n 0, 1), (39, .getfield 13, 3), (42, .iload_n 1, 1), (43, .iaload, 1), (44, .goto 13, 3), (47, .aload_n 0, 1), (48, .getfield 7, 3), (51, .iconst 4, 1), (52, .iload_n 1, 1), (53, .imul, 1), (54, .iload_n 2, 1), (55, .iadd, 1), (56, .iaload, 1), (57, .istore 4, 2), (59, .iload_n 3, 1), (60, .ifCond .lt 15, 3), (63, .iload_n 2, 1), (64, .iconst 4, 1), (65, .if_icmp .ne 10, 3), (68, .aload_n 0, 1), (69, .getfield 13, 3), (72, .iload_n 1, 1), (73, .iload_n 3, 1), (74, .iastore, 1), (75, .iload_n 3, 1), (76, .ifCond .lt 19, 3), (79, .iload_n 2, 1), (80, .iconst 4, 1), (81, .if_icmp .ge 14, 3), (84, .aload_n 0, 1), (85, .getfield 7, 3), (88, .iconst 4, 1), (89, .iload_n 1, 1), (90, .imul, 1), (91, .iload_n 2, 1), (92, .iadd, 1), (93, .iload_n 3, 1), (94, .iastore, 1), (95, .iload 4, 2), (97, .ireturn, 1)]
def bq_X10_leak : List (ab_C × List ab_Q) := [(([.inl 76, .inr ((-2147483648), 2147483647), .inr ((-2147483648), 2147483647)], [], [(79, none), (114, some 1)], [(some ((-2147483648), 2147483647, none), [], [])]), [])]
def bc_X10_leak : List ab_C := bq_X10_leak.map (fun c => c.1)
def be_X10_leak : Nat → Option (Nat × Option Nat × List ab_C) := fun ix => match ix with
  | 164 => some (2, some 10, bc_X10_isModule)
  | 171 => some (3, none, bc_X10_isIn)
  | 160 => some (2, some 10, bc_X10_finding)
  | _ => none
def bx_X10_leak : ex_K := (RX10, ec_fx fl_X10, ec_cx cl_X10, sl_X10, (fun ix => (be_X10_leak ix).map (fun q => (q.1, q.2.1, ab_sp ab_hd q.2.2))), ec_nz, ec_no)
def bi_X10_leak : List (Nat × Instr × Nat) := [(0, .aload_n 0, 1), (1, .iload_n 1, 1), (2, .invokevirtual 164, 3), (5, .ifCond .eq 13, 3), (8, .iload_n 2, 1), (9, .iconst 0, 1), (10, .bipush 50, 2), (12, .invokestatic 171, 3), (15, .ifCond .ne 9, 3), (18, .aload_n 0, 1), (19, .iconst 1, 1), (20, .invokevirtual 160, 3), (23, .ireturn, 1), (24, .aload_n 0, 1), (25, .getfield 16, 3), (28, .iload_n 1, 1), (29, .iaload, 1), (30, .istore_n 3, 1), (31, .aload_n 0, 1), (32, .getfield 16, 3), (35, .iload_n 1, 1), (36, .iload_n 2, 1), (37, .iastore, 1), (38, .iload_n 3, 1), (39, .ireturn, 1)]
def bq_X10_tank : List (ab_C × List ab_Q) := [(([.inl 76, .inr ((-2147483648), 2147483647), .inr ((-2147483648), 2147483647)], [], [(83, none), (114, some 1)], [(some ((-2147483648), 2147483647, none), [], [])]), [])]
def bc_X10_tank : List ab_C := bq_X10_tank.map (fun c => c.1)
def be_X10_tank : Nat → Option (Nat × Option Nat × List ab_C) := fun ix => match ix with
  | 171 => some (3, none, bc_X10_isIn)
  | 160 => some (2, some 10, bc_X10_finding)
  | _ => none
def bx_X10_tank : ex_K := (RX10, ec_fx fl_X10, ec_cx cl_X10, sl_X10, (fun ix => (be_X10_tank ix).map (fun q => (q.1, q.2.1, ab_sp ab_hd q.2.2))), ec_nz, ec_no)
def bi_X10_tank : List (Nat × Instr × Nat) := [(0, .iload_n 1, 1), (1, .iconst 0, 1), (2, .iconst 5, 1), (3, .invokestatic 171, 3), (6, .ifCond .eq 13, 3), (9, .iload_n 2, 1), (10, .iconst (-1), 1), (11, .ldc 176, 2), (13, .invokestatic 171, 3), (16, .ifCond .ne 9, 3), (19, .aload_n 0, 1), (20, .iconst 1, 1), (21, .invokevirtual 160, 3), (24, .ireturn, 1), (25, .aload_n 0, 1), (26, .getfield 28, 3), (29, .iload_n 1, 1), (30, .iaload, 1), (31, .istore_n 3, 1), (32, .aload_n 0, 1), (33, .getfield 28, 3), (36, .iload_n 1, 1), (37, .iload_n 2, 1), (38, .ifCond .ge 7, 3), (41, .iload_n 3, 1), (42, .goto 4, 3), (45, .iload_n 2, 1), (46, .iastore, 1), (47, .iload_n 3, 1), (48, .ireturn, 1)]
def bq_X10_grams : List (ab_C × List ab_Q) := [(([.inl 76], [], [], [(some ((-2147483648), 2147483647, none), [], [])]), [(4, [some (.inl 76), some (.inr (.inl ((-2147483648), 2147483647, none, none))), some (.inr (.inl (0, 24, none, none)))], [((1, 7, 6), 0, 6, some (8006, 0)), ((1, 14, 6), 0, 6, some (15006, 0)), ((1, 76, 0), 0, 6, some (77000, 0)), ((1, 76, 9), 0, 6, some (77009, 0))], 61, [0, 0, (-2)]), (31, [some (.inl 76), some (.inr (.inl ((-2147483648), 2147483647, none, none))), some (.inr (.inl (0, 5, none, none)))], [((1, 7, 6), 0, 6, some (8006, 0)), ((1, 14, 6), 0, 6, some (15006, 0)), ((1, 76, 0), 0, 6, some (77000, 0)), ((1, 76, 9), 0, 6, some (77009, 0))], 11, [0, 0, (-2)])])]
def bc_X10_grams : List ab_C := bq_X10_grams.map (fun c => c.1)
def bx_X10_grams : ex_K := (RX10, ec_fx fl_X10, ec_cx cl_X10, sl_X10, (fun ix => (ec_no ix).map (fun (q : Nat × Option Nat × List ab_C) => (q.1, q.2.1, ab_sp ab_hd q.2.2))), ec_nz, ec_no)
def bi_X10_grams : List (Nat × Instr × Nat) := [(0, .iconst 0, 1), (1, .istore_n 1, 1), (2, .iconst 0, 1), (3, .istore_n 2, 1), (4, .iload_n 2, 1), (5, .iconst 4, 1), (6, .aload_n 0, 1), (7, .getfield 148, 3), (10, .imul, 1), (11, .if_icmp .ge 18, 3), (14, .iload_n 1, 1), (15, .aload_n 0, 1), (16, .getfield 7, 3), (19, .iload_n 2, 1), (20, .iaload, 1), (21, .iadd, 1), (22, .istore_n 1, 1), (23, .iinc 2 1, 3), (26, .goto (-22), 3), (29, .iconst 0, 1), (30, .istore_n 2, 1), (31, .iload_n 2, 1), (32, .iconst 4, 1), (33, .if_icmp .gt 18, 3), (36, .iload_n 1, 1), (37, .aload_n 0, 1), (38, .getfield 28, 3), (41, .iload_n 2, 1), (42, .iaload, 1), (43, .iadd, 1), (44, .istore_n 1, 1), (45, .iinc 2 1, 3), (48, .goto (-17), 3), (51, .iload_n 1, 1), (52, .ireturn, 1)]
def bq_X10_person : List (ab_C × List ab_Q) := [(([.inl 76, .inr ((-2147483648), 2147483647)], [], [(76, some 9), (84, none), (86, none), (114, some 1), (114, some 4)], [(some ((-1000000001), (-1000000001), none), [((0, 1, 0), (-2147483648), (-1), none)], [((1, 76, 9), 0, 6, some (77009, 0))]), (some ((-1000000001), (-1000000001), none), [((0, 1, 0), 0, 2147483647, none), ((8, 77000, 0), 0, 6, none), ((9, 1, 77000), 0, 4294967296, none)], [((1, 76, 9), 0, 6, some (77009, 0))]), (some ((-1000000004), (-1000000004), none), [((0, 1, 0), 0, 5, none), ((8, 77009, 0), 6, 6, none), ((8, 77000, 0), 1, 6, none), ((9, 1, 77000), (-4294967296), (-1), none)], [((1, 76, 9), 6, 6, some (77009, 0))]), (some (0, 5, some (77009, 0)), [((0, 1, 0), 0, 5, none), ((8, 77009, 0), 0, 5, none), ((8, 77000, 0), 1, 6, none), ((9, 1, 77000), (-4294967296), (-1), none)], [((1, 76, 9), 1, 6, some (77009, 1))])]), [])]
def bc_X10_person : List ab_C := bq_X10_person.map (fun c => c.1)
def be_X10_person : Nat → Option (Nat × Option Nat × List ab_C) := fun ix => match ix with
  | 164 => some (2, some 10, bc_X10_isModule)
  | 160 => some (2, some 10, bc_X10_finding)
  | _ => none
def bx_X10_person : ex_K := (RX10, ec_fx fl_X10, ec_cx cl_X10, sl_X10, (fun ix => (be_X10_person ix).map (fun q => (q.1, q.2.1, ab_sp ab_hd q.2.2))), ec_nz, ec_no)
def bi_X10_person : List (Nat × Instr × Nat) := [(0, .aload_n 0, 1), (1, .iload_n 1, 1), (2, .invokevirtual 164, 3), (5, .ifCond .ne 9, 3), (8, .aload_n 0, 1), (9, .iconst 1, 1), (10, .invokevirtual 160, 3), (13, .ireturn, 1), (14, .aload_n 0, 1), (15, .getfield 154, 3), (18, .bipush 6, 2), (20, .if_icmp .ne 9, 3), (23, .aload_n 0, 1), (24, .iconst 4, 1), (25, .invokevirtual 160, 3), (28, .ireturn, 1), (29, .aload_n 0, 1), (30, .getfield 31, 3), (33, .aload_n 0, 1), (34, .getfield 154, 3), (37, .iload_n 1, 1), (38, .iastore, 1), (39, .aload_n 0, 1), (40, .getfield 37, 3), (43, .aload_n 0, 1), (44, .getfield 154, 3), (47, .iconst (-1), 1), (48, .iastore, 1), (49, .aload_n 0, 1), (50, .dup, 1), (51, .getfield 154, 3), (54, .iconst 1, 1), (55, .iadd, 1), (56, .putfield 154, 3), (59, .aload_n 0, 1), (60, .getfield 154, 3), (63, .iconst 1, 1), (64, .isub, 1), (65, .ireturn, 1)]
def bq_X10_canGo : List (ab_C × List ab_Q) := [(([.inl 76, .inr (0, 5), .inr (0, 5)], [], [], [(some (0, 1, none), [], [])]), [(5, [some (.inl 76), some (.inr (.inl (0, 5, none, none))), some (.inr (.inl (0, 5, none, none))), some (.inr (.inl (0, 1, none, none))), some (.inr (.inl (0, 8, none, none)))], [((1, 7, 6), 0, 6, some (8006, 0)), ((1, 14, 6), 0, 6, some (15006, 0)), ((1, 76, 0), 0, 6, some (77000, 0)), ((1, 76, 9), 0, 6, some (77009, 0))], 17, [0, 0, 0, 0, (-2)])])]
def bc_X10_canGo : List ab_C := bq_X10_canGo.map (fun c => c.1)
def bx_X10_canGo : ex_K := (RX10, ec_fx fl_X10, ec_cx cl_X10, sl_X10, (fun ix => (ec_no ix).map (fun (q : Nat × Option Nat × List ab_C) => (q.1, q.2.1, ab_sp ab_hd q.2.2))), ec_nz, ec_no)
def bi_X10_canGo : List (Nat × Instr × Nat) := [(0, .iconst 0, 1), (1, .istore_n 3, 1), (2, .iconst 0, 1), (3, .istore 4, 2), (5, .iload 4, 2), (7, .aload_n 0, 1), (8, .getfield 151, 3), (11, .if_icmp .ge 82, 3), (14, .iload_n 3, 1), (15, .aload_n 0, 1), (16, .getfield 25, 3), (19, .iload 4, 2), (21, .iaload, 1), (22, .iconst 1, 1), (23, .if_icmp .ne 61, 3), (26, .aload_n 0, 1), (27, .getfield 19, 3), (30, .iload 4, 2), (32, .iaload, 1), (33, .aload_n 0, 1), (34, .getfield 31, 3), (37, .iload_n 1, 1), (38, .iaload, 1), (39, .if_icmp .ne 14, 3), (42, .aload_n 0, 1), (43, .getfield 22, 3), (46, .iload 4, 2), (48, .iaload, 1), (49, .iload_n 2, 1), (50, .if_icmp .eq 30, 3), (53, .aload_n 0, 1), (54, .getfield 22, 3), (57, .iload 4, 2), (59, .iaload, 1), (60, .aload_n 0, 1), (61, .getfield 31, 3), (64, .iload_n 1, 1), (65, .iaload, 1), (66, .if_icmp .ne 18, 3), (69, .aload_n 0, 1), (70, .getfield 19, 3), (73, .iload 4, 2), (75, .iaload, 1), (76, .iload_n 2, 1), (77, .if_icmp .ne 7, 3), (80, .iconst 1, 1), (81, .goto 4, 3), (84, .iconst 0, 1), (85, .ior, 1), (86, .istore_n 3, 1), (87, .iinc 4 1, 3), (90, .goto (-85), 3), (93, .aload_n 0, 1), (94, .getfield 37, 3), (97, .iload_n 1, 1), (98, .iaload, 1), (99, .ifCond .ge 21, 3), (102, .aload_n 0, 1), (103, .getfield 31, 3), (106, .iload_n 1, 1), (107, .iaload, 1), (108, .iload_n 2, 1), (109, .if_icmp .eq 11, 3), (112, .iload_n 3, 1), (113, .ifCond .eq 7, 3), (116, .iconst 1, 1), (117, .goto 4, 3), (120, .iconst 0, 1), (121, .ireturn, 1)]
def bq_X10_go : List (ab_C × List ab_Q) := [(([.inl 76, .inr ((-2147483648), 2147483647), .inr ((-2147483648), 2147483647)], [], [(84, none), (114, some 1), (114, some 3)], [(some ((-2147483648), 2147483647, none), [], [])]), [])]
def bc_X10_go : List ab_C := bq_X10_go.map (fun c => c.1)
def be_X10_go : Nat → Option (Nat × Option Nat × List ab_C) := fun ix => match ix with
  | 177 => some (2, some 10, bc_X10_isPerson)
  | 164 => some (2, some 10, bc_X10_isModule)
  | 160 => some (2, some 10, bc_X10_finding)
  | 180 => some (3, some 10, bc_X10_canGo)
  | _ => none
def bx_X10_go : ex_K := (RX10, ec_fx fl_X10, ec_cx cl_X10, sl_X10, (fun ix => (be_X10_go ix).map (fun q => (q.1, q.2.1, ab_sp ab_hd q.2.2))), ec_nz, ec_no)
def bi_X10_go : List (Nat × Instr × Nat) := [(0, .aload_n 0, 1), (1, .iload_n 1, 1), (2, .invokevirtual 177, 3), (5, .ifCond .eq 11, 3), (8, .aload_n 0, 1), (9, .iload_n 2, 1), (10, .invokevirtual 164, 3), (13, .ifCond .ne 9, 3), (16, .aload_n 0, 1), (17, .iconst 1, 1), (18, .invokevirtual 160, 3), (21, .ireturn, 1), (22, .aload_n 0, 1), (23, .iload_n 1, 1), (24, .iload_n 2, 1), (25, .invokevirtual 180, 3), (28, .ifCond .ne 9, 3), (31, .aload_n 0, 1), (32, .iconst 3, 1), (33, .invokevirtual 160, 3), (36, .ireturn, 1), (37, .aload_n 0, 1), (38, .getfield 31, 3), (41, .iload_n 1, 1), (42, .iload_n 2, 1), (43, .iastore, 1), (44, .iconst 1, 1), (45, .ireturn, 1)]
def bq_X10_doing : List (ab_C × List ab_Q) := [(([.inl 76, .inr ((-2147483648), 2147483647), .inr ((-2147483648), 2147483647)], [], [(85, none), (114, some 1), (114, some 3)], [(some ((-2147483648), 2147483647, none), [], [])]), [])]
def bc_X10_doing : List ab_C := bq_X10_doing.map (fun c => c.1)
def be_X10_doing : Nat → Option (Nat × Option Nat × List ab_C) := fun ix => match ix with
  | 177 => some (2, some 10, bc_X10_isPerson)
  | 171 => some (3, none, bc_X10_isIn)
  | 160 => some (2, some 10, bc_X10_finding)
  | _ => none
def bx_X10_doing : ex_K := (RX10, ec_fx fl_X10, ec_cx cl_X10, sl_X10, (fun ix => (be_X10_doing ix).map (fun q => (q.1, q.2.1, ab_sp ab_hd q.2.2))), ec_nz, ec_no)
def bi_X10_doing : List (Nat × Instr × Nat) := [(0, .aload_n 0, 1), (1, .iload_n 1, 1), (2, .invokevirtual 177, 3), (5, .ifCond .eq 12, 3), (8, .iload_n 2, 1), (9, .iconst 0, 1), (10, .iconst 2, 1), (11, .invokestatic 171, 3), (14, .ifCond .ne 9, 3), (17, .aload_n 0, 1), (18, .iconst 1, 1), (19, .invokevirtual 160, 3), (22, .ireturn, 1), (23, .aload_n 0, 1), (24, .getfield 37, 3), (27, .iload_n 1, 1), (28, .iaload, 1), (29, .ifCond .lt 9, 3), (32, .aload_n 0, 1), (33, .iconst 3, 1), (34, .invokevirtual 160, 3), (37, .ireturn, 1), (38, .aload_n 0, 1), (39, .getfield 34, 3), (42, .iload_n 1, 1), (43, .iaload, 1), (44, .istore_n 3, 1), (45, .aload_n 0, 1), (46, .getfield 34, 3), (49, .iload_n 1, 1), (50, .iload_n 2, 1), (51, .iastore, 1), (52, .iload_n 3, 1), (53, .ireturn, 1)]
def bq_X10_about : List (ab_C × List ab_Q) := [(([.inl 76, .inr ((-2147483648), 2147483647), .inr ((-2147483648), 2147483647)], [], [(114, some 1)], [(some ((-2147483648), 2147483647, none), [], [])]), [])]
def bc_X10_about : List ab_C := bq_X10_about.map (fun c => c.1)
def be_X10_about : Nat → Option (Nat × Option Nat × List ab_C) := fun ix => match ix with
  | 177 => some (2, some 10, bc_X10_isPerson)
  | 171 => some (3, none, bc_X10_isIn)
  | 160 => some (2, some 10, bc_X10_finding)
  | _ => none
def bx_X10_about : ex_K := (RX10, ec_fx fl_X10, ec_cx cl_X10, sl_X10, (fun ix => (be_X10_about ix).map (fun q => (q.1, q.2.1, ab_sp ab_hd q.2.2))), ec_nz, ec_no)
def bi_X10_about : List (Nat × Instr × Nat) := [(0, .aload_n 0, 1), (1, .iload_n 1, 1), (2, .invokevirtual 177, 3), (5, .ifCond .eq 12, 3), (8, .iload_n 2, 1), (9, .iconst 0, 1), (10, .iconst 5, 1), (11, .invokestatic 171, 3), (14, .ifCond .ne 9, 3), (17, .aload_n 0, 1), (18, .iconst 1, 1), (19, .invokevirtual 160, 3), (22, .ireturn, 1), (23, .iload_n 2, 1), (24, .tableswitch 71 0 4 #[36, 43, 50, 57, 64], 36), (60, .aload_n 0, 1), (61, .getfield 31, 3), (64, .iload_n 1, 1), (65, .iaload, 1), (66, .ireturn, 1), (67, .aload_n 0, 1), (68, .getfield 34, 3), (71, .iload_n 1, 1), (72, .iaload, 1), (73, .ireturn, 1), (74, .aload_n 0, 1), (75, .getfield 37, 3), (78, .iload_n 1, 1), (79, .iaload, 1), (80, .ireturn, 1), (81, .aload_n 0, 1), (82, .getfield 40, 3), (85, .iload_n 1, 1), (86, .iaload, 1), (87, .ireturn, 1), (88, .aload_n 0, 1), (89, .getfield 43, 3), (92, .iload_n 1, 1), (93, .iaload, 1), (94, .ireturn, 1), (95, .aload_n 0, 1), (96, .getfield 46, 3), (99, .iload_n 1, 1), (100, .iaload, 1), (101, .ireturn, 1)]
def bq_X10_machine : List (ab_C × List ab_Q) := [(([.inl 76, .inr ((-2147483648), 2147483647), .inr ((-2147483648), 2147483647), .inr ((-2147483648), 2147483647), .inr ((-2147483648), 2147483647)], [], [(76, some 16), (90, none), (91, none), (92, none), (93, none), (94, none), (95, none), (97, none), (114, some 1), (114, some 4)], [(some ((-2147483648), 2147483647, none), [], [])]), [])]
def bc_X10_machine : List ab_C := bq_X10_machine.map (fun c => c.1)
def be_X10_machine : Nat → Option (Nat × Option Nat × List ab_C) := fun ix => match ix with
  | 171 => some (3, none, bc_X10_isIn)
  | 164 => some (2, some 10, bc_X10_isModule)
  | 160 => some (2, some 10, bc_X10_finding)
  | _ => none
def bx_X10_machine : ex_K := (RX10, ec_fx fl_X10, ec_cx cl_X10, sl_X10, (fun ix => (be_X10_machine ix).map (fun q => (q.1, q.2.1, ab_sp ab_hd q.2.2))), ec_nz, ec_no)
def bi_X10_machine : List (Nat × Instr × Nat) := [(0, .iload_n 1, 1), (1, .iconst 0, 1), (2, .iconst 5, 1), (3, .invokestatic 171, 3), (6, .ifCond .eq 76, 3), (9, .aload_n 0, 1), (10, .iload_n 2, 1), (11, .invokevirtual 164, 3), (14, .ifCond .eq 68, 3), (17, .iload_n 3, 1), (18, .ifCond .lt 64, 3), (21, .iload_n 3, 1), (22, .ldc 176, 2), (24, .idiv, 1), (25, .iconst 0, 1), (26, .bipush 100, 2), (28, .invokestatic 171, 3), (31, .ifCond .eq 51, 3), (34, .iload_n 3, 1), (35, .sipush 1000, 3), (38, .idiv, 1), (39, .sipush 1000, 3), (42, .irem, 1), (43, .iconst 0, 1), (44, .bipush 100, 2), (46, .invokestatic 171, 3), (49, .ifCond .eq 33, 3), (52, .iload_n 3, 1), (53, .sipush 1000, 3), (56, .irem, 1), (57, .iconst 0, 1), (58, .bipush 100, 2), (60, .invokestatic 171, 3), (63, .ifCond .eq 19, 3), (66, .iload 4, 2), (68, .iconst 1, 1), (69, .sipush 1000, 3), (72, .invokestatic 171, 3), (75, .ifCond .eq 7, 3), (78, .iconst 1, 1), (79, .goto 4, 3), (82, .iconst 0, 1), (83, .istore 5, 2), (85, .iload 5, 2), (87, .ifCond .ne 9, 3), (90, .aload_n 0, 1), (91, .iconst 1, 1), (92, .invokevirtual 160, 3), (95, .ireturn, 1), (96, .aload_n 0, 1), (97, .getfield 157, 3), (100, .bipush 10, 2), (102, .if_icmp .ne 9, 3), (105, .aload_n 0, 1), (106, .iconst 4, 1), (107, .invokevirtual 160, 3), (110, .ireturn, 1), (111, .aload_n 0, 1), (112, .getfield 49, 3), (115, .aload_n 0, 1), (116, .getfield 157, 3), (119, .iload_n 1, 1), (120, .iastore, 1), (121, .aload_n 0, 1), (122, .getfield 52, 3), (125, .aload_n 0, 1), (126, .getfield 157, 3), (129, .iload_n 2, 1), (130, .iastore, 1), (131, .aload_n 0, 1), (132, .getfield 55, 3), (135, .aload_n 0, 1), (136, .getfield 157, 3), (139, .iload_n 3, 1), (140, .ldc 176, 2), (142, .idiv, 1), (143, .iastore, 1), (144, .aload_n 0, 1), (145, .getfield 58, 3), (148, .aload_n 0, 1), (149, .getfield 157, 3), (152, .iload_n 3, 1), (153, .sipush 1000, 3), (156, .idiv, 1), (157, .sipush 1000, 3), (160, .irem, 1), (161, .iastore, 1), (162, .aload_n 0, 1), (163, .getfield 61, 3), (166, .aload_n 0, 1), (167, .getfield 157, 3), (170, .iload_n 3, 1), (171, .sipush 1000, 3), (174, .irem, 1), (175, .iastore, 1), (176, .aload_n 0, 1), (177, .getfield 64, 3), (180, .aload_n 0, 1), (181, .getfield 157, 3), (184, .iload 4, 2), (186, .iastore, 1), (187, .aload_n 0, 1), (188, .getfield 70, 3), (191, .aload_n 0, 1), (192, .getfield 157, 3), (195, .iconst 1, 1), (196, .iastore, 1), (197, .aload_n 0, 1), (198, .dup, 1), (199, .getfield 157, 3), (202, .iconst 1, 1), (203, .iadd, 1), (204, .putfield 157, 3), (207, .aload_n 0, 1), (208, .getfield 157, 3), (211, .iconst 1, 1), (212, .isub, 1), (213, .ireturn, 1)]
def bq_X10_as : List (ab_C × List ab_Q) := [(([.inl 76, .inr ((-2147483648), 2147483647), .inr ((-2147483648), 2147483647)], [], [(114, some 1), (114, some 5)], [(some ((-2147483648), 2147483647, none), [], [])]), [])]
def bc_X10_as : List ab_C := bq_X10_as.map (fun c => c.1)
def be_X10_as : Nat → Option (Nat × Option Nat × List ab_C) := fun ix => match ix with
  | 184 => some (2, some 10, bc_X10_isMachine)
  | 171 => some (3, none, bc_X10_isIn)
  | 160 => some (2, some 10, bc_X10_finding)
  | _ => none
def bx_X10_as : ex_K := (RX10, ec_fx fl_X10, ec_cx cl_X10, sl_X10, (fun ix => (be_X10_as ix).map (fun q => (q.1, q.2.1, ab_sp ab_hd q.2.2))), ec_nz, ec_no)
def bi_X10_as : List (Nat × Instr × Nat) := [(0, .aload_n 0, 1), (1, .iload_n 1, 1), (2, .invokevirtual 184, 3), (5, .ifCond .eq 12, 3), (8, .iload_n 2, 1), (9, .iconst 0, 1), (10, .iconst 5, 1), (11, .invokestatic 171, 3), (14, .ifCond .ne 9, 3), (17, .aload_n 0, 1), (18, .iconst 1, 1), (19, .invokevirtual 160, 3), (22, .ireturn, 1), (23, .iload_n 2, 1), (24, .ifCond .eq 28, 3), (27, .aload_n 0, 1), (28, .getfield 49, 3), (31, .iload_n 1, 1), (32, .iaload, 1), (33, .iload_n 2, 1), (34, .if_icmp .eq 18, 3), (37, .iload_n 2, 1), (38, .iconst 3, 1), (39, .if_icmp .ne 22, 3), (42, .aload_n 0, 1), (43, .getfield 49, 3), (46, .iload_n 1, 1), (47, .iaload, 1), (48, .iconst 4, 1), (49, .if_icmp .ne 12, 3), (52, .aload_n 0, 1), (53, .getfield 55, 3), (56, .iload_n 1, 1), (57, .iaload, 1), (58, .goto 8, 3), (61, .aload_n 0, 1), (62, .iconst 5, 1), (63, .invokevirtual 160, 3), (66, .ireturn, 1)]
def bq_X10_turn : List (ab_C × List ab_Q) := [(([.inl 76, .inr ((-2147483648), 2147483647), .inr ((-2147483648), 2147483647)], [], [(97, none), (114, some 1)], [(some ((-2147483648), 2147483647, none), [], [])]), [])]
def bc_X10_turn : List ab_C := bq_X10_turn.map (fun c => c.1)
def be_X10_turn : Nat → Option (Nat × Option Nat × List ab_C) := fun ix => match ix with
  | 184 => some (2, some 10, bc_X10_isMachine)
  | 171 => some (3, none, bc_X10_isIn)
  | 160 => some (2, some 10, bc_X10_finding)
  | _ => none
def bx_X10_turn : ex_K := (RX10, ec_fx fl_X10, ec_cx cl_X10, sl_X10, (fun ix => (be_X10_turn ix).map (fun q => (q.1, q.2.1, ab_sp ab_hd q.2.2))), ec_nz, ec_no)
def bi_X10_turn : List (Nat × Instr × Nat) := [(0, .aload_n 0, 1), (1, .iload_n 1, 1), (2, .invokevirtual 184, 3), (5, .ifCond .eq 12, 3), (8, .iload_n 2, 1), (9, .iconst 0, 1), (10, .iconst 1, 1), (11, .invokestatic 171, 3), (14, .ifCond .ne 9, 3), (17, .aload_n 0, 1), (18, .iconst 1, 1), (19, .invokevirtual 160, 3), (22, .ireturn, 1), (23, .aload_n 0, 1), (24, .getfield 70, 3), (27, .iload_n 1, 1), (28, .iaload, 1), (29, .istore_n 3, 1), (30, .aload_n 0, 1), (31, .getfield 70, 3), (34, .iload_n 1, 1), (35, .iload_n 2, 1), (36, .iastore, 1), (37, .iload_n 3, 1), (38, .ireturn, 1)]
def bq_X10_of : List (ab_C × List ab_Q) := [(([.inl 76, .inr ((-2147483648), 2147483647), .inr ((-2147483648), 2147483647)], [], [(114, some 1)], [(some ((-2147483648), 2147483647, none), [], [])]), [])]
def bc_X10_of : List ab_C := bq_X10_of.map (fun c => c.1)
def be_X10_of : Nat → Option (Nat × Option Nat × List ab_C) := fun ix => match ix with
  | 184 => some (2, some 10, bc_X10_isMachine)
  | 171 => some (3, none, bc_X10_isIn)
  | 160 => some (2, some 10, bc_X10_finding)
  | _ => none
def bx_X10_of : ex_K := (RX10, ec_fx fl_X10, ec_cx cl_X10, sl_X10, (fun ix => (be_X10_of ix).map (fun q => (q.1, q.2.1, ab_sp ab_hd q.2.2))), ec_nz, ec_no)
def bi_X10_of : List (Nat × Instr × Nat) := [(0, .aload_n 0, 1), (1, .iload_n 1, 1), (2, .invokevirtual 184, 3), (5, .ifCond .eq 13, 3), (8, .iload_n 2, 1), (9, .iconst 0, 1), (10, .bipush 8, 2), (12, .invokestatic 171, 3), (15, .ifCond .ne 9, 3), (18, .aload_n 0, 1), (19, .iconst 1, 1), (20, .invokevirtual 160, 3), (23, .ireturn, 1), (24, .iload_n 2, 1), (25, .tableswitch 103 0 7 #[47, 54, 61, 68, 75, 82, 89, 96], 47), (72, .aload_n 0, 1), (73, .getfield 49, 3), (76, .iload_n 1, 1), (77, .iaload, 1), (78, .ireturn, 1), (79, .aload_n 0, 1), (80, .getfield 52, 3), (83, .iload_n 1, 1), (84, .iaload, 1), (85, .ireturn, 1), (86, .aload_n 0, 1), (87, .getfield 58, 3), (90, .iload_n 1, 1), (91, .iaload, 1), (92, .ireturn, 1), (93, .aload_n 0, 1), (94, .getfield 61, 3), (97, .iload_n 1, 1), (98, .iaload, 1), (99, .ireturn, 1), (100, .aload_n 0, 1), (101, .getfield 67, 3), (104, .iload_n 1, 1), (105, .iaload, 1), (106, .ireturn, 1), (107, .aload_n 0, 1), (108, .getfield 70, 3), (111, .iload_n 1, 1), (112, .iaload, 1), (113, .ireturn, 1), (114, .aload_n 0, 1), (115, .getfield 73, 3), (118, .iload_n 1, 1), (119, .iaload, 1), (120, .ireturn, 1), (121, .aload_n 0, 1), (122, .getfield 76, 3), (125, .iload_n 1, 1), (126, .iaload, 1), (127, .ireturn, 1), (128, .aload_n 0, 1), (129, .getfield 64, 3), (132, .iload_n 1, 1), (133, .iaload, 1), (134, .ireturn, 1)]
def bq_X10_spares : List (ab_C × List ab_Q) := [(([.inl 76, .inr ((-2147483648), 2147483647), .inr ((-2147483648), 2147483647)], [], [(100, none), (114, some 1)], [(some ((-2147483648), 2147483647, none), [], [])]), [])]
def bc_X10_spares : List ab_C := bq_X10_spares.map (fun c => c.1)
def be_X10_spares : Nat → Option (Nat × Option Nat × List ab_C) := fun ix => match ix with
  | 171 => some (3, none, bc_X10_isIn)
  | 160 => some (2, some 10, bc_X10_finding)
  | _ => none
def bx_X10_spares : ex_K := (RX10, ec_fx fl_X10, ec_cx cl_X10, sl_X10, (fun ix => (be_X10_spares ix).map (fun q => (q.1, q.2.1, ab_sp ab_hd q.2.2))), ec_nz, ec_no)
def bi_X10_spares : List (Nat × Instr × Nat) := [(0, .iload_n 1, 1), (1, .iconst 0, 1), (2, .iconst 5, 1), (3, .invokestatic 171, 3), (6, .ifCond .eq 13, 3), (9, .iload_n 2, 1), (10, .iconst (-1), 1), (11, .bipush 20, 2), (13, .invokestatic 171, 3), (16, .ifCond .ne 9, 3), (19, .aload_n 0, 1), (20, .iconst 1, 1), (21, .invokevirtual 160, 3), (24, .ireturn, 1), (25, .aload_n 0, 1), (26, .getfield 79, 3), (29, .iload_n 1, 1), (30, .iaload, 1), (31, .istore_n 3, 1), (32, .aload_n 0, 1), (33, .getfield 79, 3), (36, .iload_n 1, 1), (37, .iload_n 2, 1), (38, .ifCond .ge 7, 3), (41, .iload_n 3, 1), (42, .goto 4, 3), (45, .iload_n 2, 1), (46, .iastore, 1), (47, .iload_n 3, 1), (48, .ireturn, 1)]
def bq_X10_isMended : List (ab_C × List ab_Q) := [(([.inl 76, .inr (0, 9)], [], [], [(some (0, 1, none), [], [])]), [(4, [some (.inl 76), some (.inr (.inl (0, 9, none, none))), some (.inr (.inl (0, 1, none, none))), some (.inr (.inl (0, 6, none, none)))], [((1, 7, 6), 0, 6, some (8006, 0)), ((1, 14, 6), 0, 6, some (15006, 0)), ((1, 76, 0), 0, 6, some (77000, 0)), ((1, 76, 9), 0, 6, some (77009, 0))], 13, [0, 0, 0, (-2)])])]
def bc_X10_isMended : List ab_C := bq_X10_isMended.map (fun c => c.1)
def bx_X10_isMended : ex_K := (RX10, ec_fx fl_X10, ec_cx cl_X10, sl_X10, (fun ix => (ec_no ix).map (fun (q : Nat × Option Nat × List ab_C) => (q.1, q.2.1, ab_sp ab_hd q.2.2))), ec_nz, ec_no)
def bi_X10_isMended : List (Nat × Instr × Nat) := [(0, .iconst 0, 1), (1, .istore_n 2, 1), (2, .iconst 0, 1), (3, .istore_n 3, 1), (4, .iload_n 3, 1), (5, .aload_n 0, 1), (6, .getfield 154, 3), (9, .if_icmp .ge 27, 3), (12, .iload_n 2, 1), (13, .aload_n 0, 1), (14, .getfield 37, 3), (17, .iload_n 3, 1), (18, .iaload, 1), (19, .iload_n 1, 1), (20, .if_icmp .ne 7, 3), (23, .iconst 1, 1), (24, .goto 4, 3), (27, .iconst 0, 1), (28, .ior, 1), (29, .istore_n 2, 1), (30, .iinc 3 1, 3), (33, .goto (-29), 3), (36, .iload_n 2, 1), (37, .ireturn, 1)]
def bq_X10_refusesMend : List (ab_C × List ab_Q) := [(([.inl 76, .inr ((-2147483648), 2147483647), .inr ((-2147483648), 2147483647), .inr ((-2147483648), 2147483647)], [], [], [(some (1, 3, none), [], []), (some (0, 0, none), [((0, 1, 0), 0, 5, none), ((0, 2, 0), 0, 9, none)], [])]), [])]
def bc_X10_refusesMend : List ab_C := bq_X10_refusesMend.map (fun c => c.1)
def be_X10_refusesMend : Nat → Option (Nat × Option Nat × List ab_C) := fun ix => match ix with
  | 177 => some (2, some 10, bc_X10_isPerson)
  | 184 => some (2, some 10, bc_X10_isMachine)
  | 171 => some (3, none, bc_X10_isIn)
  | 187 => some (2, some 10, bc_X10_isMended)
  | _ => none
def bx_X10_refusesMend : ex_K := (RX10, ec_fx fl_X10, ec_cx cl_X10, sl_X10, (fun ix => (be_X10_refusesMend ix).map (fun q => (q.1, q.2.1, ab_sp ab_hd q.2.2))), ec_nz, ec_no)
def bi_X10_refusesMend : List (Nat × Instr × Nat) := [(0, .aload_n 0, 1), (1, .iload_n 1, 1), (2, .invokevirtual 177, 3), (5, .ifCond .eq 21, 3), (8, .aload_n 0, 1), (9, .iload_n 2, 1), (10, .invokevirtual 184, 3), (13, .ifCond .eq 13, 3), (16, .iload_n 3, 1), (17, .iconst 1, 1), (18, .bipush 60, 2), (20, .invokestatic 171, 3), (23, .ifCond .ne 5, 3), (26, .iconst 1, 1), (27, .ireturn, 1), (28, .aload_n 0, 1), (29, .getfield 73, 3), (32, .iload_n 2, 1), (33, .iaload, 1), (34, .ifCond .eq 35, 3), (37, .aload_n 0, 1), (38, .iload_n 2, 1), (39, .invokevirtual 187, 3), (42, .ifCond .ne 27, 3), (45, .aload_n 0, 1), (46, .getfield 37, 3), (49, .iload_n 1, 1), (50, .iaload, 1), (51, .ifCond .ge 18, 3), (54, .aload_n 0, 1), (55, .getfield 31, 3), (58, .iload_n 1, 1), (59, .iaload, 1), (60, .aload_n 0, 1), (61, .getfield 52, 3), (64, .iload_n 2, 1), (65, .iaload, 1), (66, .if_icmp .eq 5, 3), (69, .iconst 3, 1), (70, .ireturn, 1), (71, .aload_n 0, 1), (72, .getfield 79, 3), (75, .aload_n 0, 1), (76, .getfield 49, 3), (79, .iload_n 2, 1), (80, .iaload, 1), (81, .iaload, 1), (82, .ifCond .ne 7, 3), (85, .iconst 2, 1), (86, .goto 4, 3), (89, .iconst 0, 1), (90, .ireturn, 1)]
def bq_X10_beginMend : List (ab_C × List ab_Q) := [(([.inl 76, .inr (0, 5), .inr (0, 9), .inr ((-2147483648), 2147483647)], [], [(85, none), (86, none), (87, none), (100, none)], [(none, [], [])]), [])]
def bc_X10_beginMend : List ab_C := bq_X10_beginMend.map (fun c => c.1)
def bx_X10_beginMend : ex_K := (RX10, ec_fx fl_X10, ec_cx cl_X10, sl_X10, (fun ix => (ec_no ix).map (fun (q : Nat × Option Nat × List ab_C) => (q.1, q.2.1, ab_sp ab_hd q.2.2))), ec_nz, ec_no)
def bi_X10_beginMend : List (Nat × Instr × Nat) := [(0, .aload_n 0, 1), (1, .getfield 79, 3), (4, .aload_n 0, 1), (5, .getfield 49, 3), (8, .iload_n 2, 1), (9, .iaload, 1), (10, .dup2, 1), (11, .iaload, 1), (12, .iconst 1, 1), (13, .isub, 1), (14, .iastore, 1), (15, .aload_n 0, 1), (16, .getfield 37, 3), (19, .iload_n 1, 1), (20, .iload_n 2, 1), (21, .iastore, 1), (22, .aload_n 0, 1), (23, .getfield 40, 3), (26, .iload_n 1, 1), (27, .iload_n 3, 1), (28, .iastore, 1), (29, .aload_n 0, 1), (30, .getfield 34, 3), (33, .iload_n 1, 1), (34, .iconst 1, 1), (35, .iastore, 1), (36, .return_, 1)]
def bq_X10_repair : List (ab_C × List ab_Q) := [(([.inl 76, .inr ((-2147483648), 2147483647), .inr ((-2147483648), 2147483647), .inr ((-2147483648), 2147483647)], [], [(85, none), (86, none), (87, none), (100, none), (114, none)], [(some ((-2147483648), 2147483647, none), [], [])]), [])]
def bc_X10_repair : List ab_C := bq_X10_repair.map (fun c => c.1)
def be_X10_repair : Nat → Option (Nat × Option Nat × List ab_C) := fun ix => match ix with
  | 190 => some (4, some 10, bc_X10_refusesMend)
  | 160 => some (2, some 10, bc_X10_finding)
  | 194 => some (4, some 10, bc_X10_beginMend)
  | _ => none
def bx_X10_repair : ex_K := (RX10, ec_fx fl_X10, ec_cx cl_X10, sl_X10, (fun ix => (be_X10_repair ix).map (fun q => (q.1, q.2.1, ab_sp ab_hd q.2.2))), ec_nz, ec_no)
def bi_X10_repair : List (Nat × Instr × Nat) := [(0, .aload_n 0, 1), (1, .iload_n 1, 1), (2, .iload_n 2, 1), (3, .iload_n 3, 1), (4, .invokevirtual 190, 3), (7, .istore 4, 2), (9, .iload 4, 2), (11, .ifCond .eq 10, 3), (14, .aload_n 0, 1), (15, .iload 4, 2), (17, .invokevirtual 160, 3), (20, .ireturn, 1), (21, .aload_n 0, 1), (22, .iload_n 1, 1), (23, .iload_n 2, 1), (24, .iload_n 3, 1), (25, .invokevirtual 194, 3), (28, .aload_n 0, 1), (29, .getfield 79, 3), (32, .aload_n 0, 1), (33, .getfield 49, 3), (36, .iload_n 2, 1), (37, .iaload, 1), (38, .iaload, 1), (39, .ireturn, 1)]
def bq_X10_canShed : List (ab_C × List ab_Q) := [(([.inl 76, .inr (0, 9)], [], [], [(some (0, 0, none), [], []), (some (1, 1, none), [], [])]), [])]
def bc_X10_canShed : List ab_C := bq_X10_canShed.map (fun c => c.1)
def bx_X10_canShed : ex_K := (RX10, ec_fx fl_X10, ec_cx cl_X10, sl_X10, (fun ix => (ec_no ix).map (fun (q : Nat × Option Nat × List ab_C) => (q.1, q.2.1, ab_sp ab_hd q.2.2))), ec_nz, ec_no)
def bi_X10_canShed : List (Nat × Instr × Nat) := [(0, .aload_n 0, 1), (1, .getfield 70, 3), (4, .iload_n 1, 1), (5, .iaload, 1), (6, .iconst 1, 1), (7, .if_icmp .ne 16, 3), (10, .aload_n 0, 1), (11, .getfield 73, 3), (14, .iload_n 1, 1), (15, .iaload, 1), (16, .ifCond .ne 7, 3), (19, .iconst 1, 1), (20, .goto 4, 3), (23, .iconst 0, 1), (24, .ireturn, 1)]
def bq_X10_together : List (ab_C × List ab_Q) := [(([.inl 76, .inr ((-2147483648), 2147483647), .inr (0, 1), .inr (0, 2)], [], [], [(some ((-2147483648), 2147483647, none), [], [])]), [(6, [some (.inl 76), some (.inr (.inl ((-2147483648), 2147483647, none, none))), some (.inr (.inl (0, 1, none, none))), some (.inr (.inl (0, 2, none, none))), some (.inr (.inl ((-2147483648), 2147483647, none, none))), some (.inr (.inl (0, 10, none, none))), none], [((1, 7, 6), 0, 6, some (8006, 0)), ((1, 14, 6), 0, 6, some (15006, 0)), ((1, 76, 0), 0, 6, some (77000, 0)), ((1, 76, 9), 0, 6, some (77009, 0))], 21, [0, 0, 0, 0, 0, (-2), 0])])]
def bc_X10_together : List ab_C := bq_X10_together.map (fun c => c.1)
def be_X10_together : Nat → Option (Nat × Option Nat × List ab_C) := fun ix => match ix with
  | 198 => some (2, some 10, bc_X10_canShed)
  | _ => none
def bx_X10_together : ex_K := (RX10, ec_fx fl_X10, ec_cx cl_X10, sl_X10, (fun ix => (be_X10_together ix).map (fun q => (q.1, q.2.1, ab_sp ab_hd q.2.2))), ec_nz, ec_no)
def bi_X10_together : List (Nat × Instr × Nat) := [(0, .iconst 0, 1), (1, .istore 4, 2), (3, .iconst 0, 1), (4, .istore 5, 2), (6, .iload 5, 2), (8, .aload_n 0, 1), (9, .getfield 157, 3), (12, .if_icmp .ge 80, 3), (15, .iload_n 1, 1), (16, .iload 5, 2), (18, .ishr, 1), (19, .iconst 1, 1), (20, .iand, 1), (21, .iconst 1, 1), (22, .if_icmp .ne 7, 3), (25, .iconst 1, 1), (26, .goto 4, 3), (29, .iconst 0, 1), (30, .istore 6, 2), (32, .iload 4, 2), (34, .aload_n 0, 1), (35, .iload 5, 2), (37, .invokevirtual 198, 3), (40, .ifCond .eq 42, 3), (43, .iload 6, 2), (45, .iload_n 2, 1), (46, .if_icmp .ne 36, 3), (49, .iload_n 3, 1), (50, .ifCond .ne 13, 3), (53, .aload_n 0, 1), (54, .getfield 58, 3), (57, .iload 5, 2), (59, .iaload, 1), (60, .goto 23, 3), (63, .iload_n 3, 1), (64, .iconst 1, 1), (65, .if_icmp .ne 13, 3), (68, .aload_n 0, 1), (69, .getfield 61, 3), (72, .iload 5, 2), (74, .iaload, 1), (75, .goto 8, 3), (78, .iconst 1, 1), (79, .goto 4, 3), (82, .iconst 0, 1), (83, .iadd, 1), (84, .istore 4, 2), (86, .iinc 5 1, 3), (89, .goto (-83), 3), (92, .iload 4, 2), (94, .ireturn, 1)]
def bq_X10_shed : List (ab_C × List ab_Q) := [(([.inl 76, .inr ((-2147483648), 2147483647), .inr ((-2147483648), 2147483647)], [], [(114, some 1)], [(some ((-2147483648), 2147483647, none), [], [])]), [(31, [some (.inl 76), some (.inr (.inl (0, 1000, none, none))), some (.inr (.inl (0, 2, none, none))), some (.inr (.inl ((-2147483648), 2147483647, none, none))), some (.inr (.inl (0, 10, none, none))), none, none, none], [((1, 7, 6), 0, 6, some (8006, 0)), ((1, 14, 6), 0, 6, some (15006, 0)), ((1, 76, 0), 0, 6, some (77000, 0)), ((1, 76, 9), 0, 6, some (77009, 0))], 4294967317, [0, 0, 0, 0, (-2), 0, 0, 0]), (72, [some (.inl 76), some (.inr (.inl (0, 1000, none, none))), some (.inr (.inl (0, 2, none, none))), some (.inr (.inl ((-2147483648), 2147483647, none, none))), some (.inr (.inl ((-2147483648), 2147483647, none, none))), some (.inr (.inl (0, 2147483647, none, none))), none, none], [((1, 7, 6), 0, 6, some (8006, 0)), ((1, 14, 6), 0, 6, some (15006, 0)), ((1, 76, 0), 0, 6, some (77000, 0)), ((1, 76, 9), 0, 6, some (77009, 0))], 4294967295, [0, 0, 0, 0, 0, (-2), 0, 0])])]
def bc_X10_shed : List ab_C := bq_X10_shed.map (fun c => c.1)
def be_X10_shed : Nat → Option (Nat × Option Nat × List ab_C) := fun ix => match ix with
  | 171 => some (3, none, bc_X10_isIn)
  | 160 => some (2, some 10, bc_X10_finding)
  | 198 => some (2, some 10, bc_X10_canShed)
  | 201 => some (4, some 10, bc_X10_together)
  | _ => none
def bx_X10_shed : ex_K := (RX10, ec_fx fl_X10, ec_cx cl_X10, sl_X10, (fun ix => (be_X10_shed ix).map (fun q => (q.1, q.2.1, ab_sp ab_hd q.2.2))), ec_nz, ec_no)
def bi_X10_shed : List (Nat × Instr × Nat) := [(0, .iload_n 1, 1), (1, .iconst 0, 1), (2, .sipush 1000, 3), (5, .invokestatic 171, 3), (8, .ifCond .eq 12, 3), (11, .iload_n 2, 1), (12, .iconst 0, 1), (13, .iconst 2, 1), (14, .invokestatic 171, 3), (17, .ifCond .ne 9, 3), (20, .aload_n 0, 1), (21, .iconst 1, 1), (22, .invokevirtual 160, 3), (25, .ireturn, 1), (26, .iconst 0, 1), (27, .istore_n 3, 1), (28, .iconst 0, 1), (29, .istore 4, 2), (31, .iload 4, 2), (33, .aload_n 0, 1), (34, .getfield 157, 3), (37, .if_icmp .ge 29, 3), (40, .iload_n 3, 1), (41, .aload_n 0, 1), (42, .iload 4, 2), (44, .invokevirtual 198, 3), (47, .ifCond .eq 10, 3), (50, .iconst 1, 1), (51, .iload 4, 2), (53, .ishl, 1), (54, .goto 4, 3), (57, .iconst 0, 1), (58, .ior, 1), (59, .istore_n 3, 1), (60, .iinc 4 1, 3), (63, .goto (-32), 3), (66, .iload_n 3, 1), (67, .istore 4, 2), (69, .iconst 0, 1), (70, .istore 5, 2), (72, .iload 5, 2), (74, .iconst 1, 1), (75, .aload_n 0, 1), (76, .getfield 157, 3), (79, .ishl, 1), (80, .if_icmp .ge 104, 3), (83, .iload 5, 2), (85, .iload_n 3, 1), (86, .iconst (-1), 1), (87, .ixor, 1), (88, .iand, 1), (89, .ifCond .ne 89, 3), (92, .aload_n 0, 1), (93, .iload 5, 2), (95, .iconst 0, 1), (96, .iconst 0, 1), (97, .invokevirtual 201, 3), (100, .iload_n 1, 1), (101, .if_icmp .gt 77, 3), (104, .aload_n 0, 1), (105, .iload 5, 2), (107, .iconst 1, 1), (108, .iconst 1, 1), (109, .invokevirtual 201, 3), (112, .aload_n 0, 1), (113, .iload 4, 2), (115, .iconst 1, 1), (116, .iconst 1, 1), (117, .invokevirtual 201, 3), (120, .isub, 1), (121, .istore 6, 2), (123, .aload_n 0, 1), (124, .iload 5, 2), (126, .iconst 1, 1), (127, .iconst 2, 1), (128, .invokevirtual 201, 3), (131, .aload_n 0, 1), (132, .iload 4, 2), (134, .iconst 1, 1), (135, .iconst 2, 1), (136, .invokevirtual 201, 3), (139, .isub, 1), (140, .istore 7, 2), (142, .iload 6, 2), (144, .ifCond .lt 25, 3), (147, .iload 6, 2), (149, .ifCond .ne 25, 3), (152, .iload 7, 2), (154, .ifCond .lt 15, 3), (157, .iload 7, 2), (159, .ifCond .ne 15, 3), (162, .iload 5, 2), (164, .iload 4, 2), (166, .if_icmp .ge 8, 3), (169, .iload 5, 2), (171, .goto 5, 3), (174, .iload 4, 2), (176, .istore 4, 2), (178, .iinc 5 1, 3), (181, .goto (-109), 3), (184, .iload_n 2, 1), (185, .ifCond .ne 8, 3), (188, .iload 4, 2), (190, .goto 27, 3), (193, .iload_n 2, 1), (194, .iconst 1, 1), (195, .if_icmp .ne 14, 3), (198, .aload_n 0, 1), (199, .iload 4, 2), (201, .iconst 1, 1), (202, .iconst 1, 1), (203, .invokevirtual 201, 3), (206, .goto 11, 3), (209, .aload_n 0, 1), (210, .iload 4, 2), (212, .iconst 0, 1), (213, .iconst 0, 1), (214, .invokevirtual 201, 3), (217, .ireturn, 1)]
def bq_X10_endText : List (ab_C × List ab_Q) := [(([.inl 76, .inr (1, 4)], [], [(101, some 4), (101, some 5), (101, some 6), (101, some 7), (101, some 8), (101, some 9), (101, some 10)], [(none, [], [])]), [])]
def bc_X10_endText : List ab_C := bq_X10_endText.map (fun c => c.1)
def bx_X10_endText : ex_K := (RX10, ec_fx fl_X10, ec_cx cl_X10, sl_X10, (fun ix => (ec_no ix).map (fun (q : Nat × Option Nat × List ab_C) => (q.1, q.2.1, ab_sp ab_hd q.2.2))), ec_nz, ec_no)
def bi_X10_endText : List (Nat × Instr × Nat) := [(0, .aload_n 0, 1), (1, .getfield 82, 3), (4, .iconst 4, 1), (5, .iconst 0, 1), (6, .iastore, 1), (7, .aload_n 0, 1), (8, .getfield 82, 3), (11, .iconst 5, 1), (12, .iconst (-1), 1), (13, .iastore, 1), (14, .aload_n 0, 1), (15, .getfield 82, 3), (18, .bipush 6, 2), (20, .iconst 0, 1), (21, .iastore, 1), (22, .aload_n 0, 1), (23, .getfield 82, 3), (26, .bipush 7, 2), (28, .iconst 0, 1), (29, .iastore, 1), (30, .aload_n 0, 1), (31, .getfield 82, 3), (34, .bipush 8, 2), (36, .iconst (-1), 1), (37, .iastore, 1), (38, .aload_n 0, 1), (39, .getfield 82, 3), (42, .bipush 9, 2), (44, .iconst 0, 1), (45, .iastore, 1), (46, .aload_n 0, 1), (47, .getfield 82, 3), (50, .bipush 10, 2), (52, .iload_n 1, 1), (53, .iastore, 1), (54, .return_, 1)]
def bq_X10_abortText : List (ab_C × List ab_Q) := [(([.inl 76], [], [(101, some 4), (101, some 5), (101, some 6), (101, some 7), (101, some 8), (101, some 9), (101, some 10)], [(none, [], [])]), [])]
def bc_X10_abortText : List ab_C := bq_X10_abortText.map (fun c => c.1)
def be_X10_abortText : Nat → Option (Nat × Option Nat × List ab_C) := fun ix => match ix with
  | 205 => some (2, some 10, bc_X10_endText)
  | _ => none
def bx_X10_abortText : ex_K := (RX10, ec_fx fl_X10, ec_cx cl_X10, sl_X10, (fun ix => (be_X10_abortText ix).map (fun q => (q.1, q.2.1, ab_sp ab_hd q.2.2))), ec_nz, ec_no)
def bi_X10_abortText : List (Nat × Instr × Nat) := [(0, .aload_n 0, 1), (1, .getfield 82, 3), (4, .bipush 8, 2), (6, .iaload, 1), (7, .ifCond .lt 14, 3), (10, .aload_n 0, 1), (11, .getfield 82, 3), (14, .bipush 7, 2), (16, .iaload, 1), (17, .iconst 1, 1), (18, .if_icmp .ne 9, 3), (21, .aload_n 0, 1), (22, .iconst 3, 1), (23, .invokevirtual 205, 3), (26, .return_, 1), (27, .aload_n 0, 1), (28, .getfield 82, 3), (31, .iconst 5, 1), (32, .aload_n 0, 1), (33, .getfield 82, 3), (36, .bipush 8, 2), (38, .iaload, 1), (39, .iastore, 1), (40, .aload_n 0, 1), (41, .getfield 82, 3), (44, .bipush 7, 2), (46, .iconst 1, 1), (47, .iastore, 1), (48, .aload_n 0, 1), (49, .getfield 82, 3), (52, .bipush 6, 2), (54, .iconst 0, 1), (55, .iastore, 1), (56, .aload_n 0, 1), (57, .getfield 82, 3), (60, .bipush 9, 2), (62, .iconst 0, 1), (63, .iastore, 1), (64, .return_, 1)]
def bq_X10_isLine : List (ab_C × List ab_Q) := [(([.inl 76, .inr ((-2147483648), 2147483647)], [], [], [(some (0, 0, none), [], []), (some (1, 1, none), [((0, 1, 0), 0, 39, none)], [])]), [])]
def bc_X10_isLine : List ab_C := bq_X10_isLine.map (fun c => c.1)
def bx_X10_isLine : ex_K := (RX10, ec_fx fl_X10, ec_cx cl_X10, sl_X10, (fun ix => (ec_no ix).map (fun (q : Nat × Option Nat × List ab_C) => (q.1, q.2.1, ab_sp ab_hd q.2.2))), ec_nz, ec_no)
def bi_X10_isLine : List (Nat × Instr × Nat) := [(0, .iload_n 1, 1), (1, .ifCond .lt 15, 3), (4, .iload_n 1, 1), (5, .aload_n 0, 1), (6, .getfield 209, 3), (9, .if_icmp .ge 7, 3), (12, .iconst 1, 1), (13, .goto 4, 3), (16, .iconst 0, 1), (17, .ireturn, 1)]
def bq_X10_canCheck : List (ab_C × List ab_Q) := [(([.inl 76, .inr ((-2147483648), 2147483647), .inr ((-2147483648), 2147483647), .inr ((-2147483648), 2147483647)], [], [], [(some (0, 0, none), [], []), (some (1, 1, none), [((0, 1, 0), 0, 4, none), ((0, 2, 0), 0, 2147483647, none), ((3, 2, 10), 0, 5, none)], []), (some (1, 1, none), [((0, 1, 0), 5, 5, none), ((0, 2, 0), 0, 2147483647, none), ((3, 2, 10), 0, 3, none)], []), (some (1, 1, none), [((0, 1, 0), 6, 6, none), ((0, 2, 0), 0, 2147483647, none)], []), (some (1, 1, none), [((0, 1, 0), 7, 7, none), ((0, 2, 0), 0, 2147483647, none), ((3, 2, 10), 0, 9, none)], [])]), [])]
def bc_X10_canCheck : List ab_C := bq_X10_canCheck.map (fun c => c.1)
def be_X10_canCheck : Nat → Option (Nat × Option Nat × List ab_C) := fun ix => match ix with
  | 212 => some (2, some 10, bc_X10_isLine)
  | 171 => some (3, none, bc_X10_isIn)
  | 164 => some (2, some 10, bc_X10_isModule)
  | 184 => some (2, some 10, bc_X10_isMachine)
  | _ => none
def bx_X10_canCheck : ex_K := (RX10, ec_fx fl_X10, ec_cx cl_X10, sl_X10, (fun ix => (be_X10_canCheck ix).map (fun q => (q.1, q.2.1, ab_sp ab_hd q.2.2))), ec_nz, ec_no)
def bi_X10_canCheck : List (Nat × Instr × Nat) := [(0, .iload_n 2, 1), (1, .ifCond .lt 21, 3), (4, .aload_n 0, 1), (5, .iload_n 3, 1), (6, .invokevirtual 212, 3), (9, .ifCond .eq 13, 3), (12, .iload_n 1, 1), (13, .iconst 0, 1), (14, .bipush 7, 2), (16, .invokestatic 171, 3), (19, .ifCond .ne 5, 3), (22, .iconst 0, 1), (23, .ireturn, 1), (24, .iload_n 1, 1), (25, .iconst 5, 1), (26, .if_icmp .ge 14, 3), (29, .aload_n 0, 1), (30, .iload_n 2, 1), (31, .bipush 10, 2), (33, .irem, 1), (34, .invokevirtual 164, 3), (37, .goto 53, 3), (40, .iload_n 1, 1), (41, .iconst 5, 1), (42, .if_icmp .ne 19, 3), (45, .iload_n 2, 1), (46, .bipush 10, 2), (48, .irem, 1), (49, .iconst 3, 1), (50, .if_icmp .gt 7, 3), (53, .iconst 1, 1), (54, .goto 36, 3), (57, .iconst 0, 1), (58, .goto 32, 3), (61, .iload_n 1, 1), (62, .bipush 6, 2), (64, .if_icmp .eq 21, 3), (67, .aload_n 0, 1), (68, .iload_n 2, 1), (69, .bipush 10, 2), (71, .irem, 1), (72, .invokevirtual 184, 3), (75, .ifCond .eq 14, 3), (78, .iload_n 2, 1), (79, .bipush 10, 2), (81, .idiv, 1), (82, .ifCond .ne 7, 3), (85, .iconst 1, 1), (86, .goto 4, 3), (89, .iconst 0, 1), (90, .ireturn, 1)]
def bq_X10_isSo : List (ab_C × List ab_Q) := [(([.inl 76, .inr (7, 7), .inr (0, 2147483647)], [((3, 2, 10), 0, 9, none)], [], [(some (0, 0, none), [], []), (some (1, 1, none), [], [])]), []),
  (([.inl 76, .inr (6, 6), .inr (0, 2147483647)], [], [], [(some (0, 0, none), [], []), (some (1, 1, none), [], [])]), []),
  (([.inl 76, .inr (5, 5), .inr (0, 2147483647)], [((3, 2, 10), 0, 3, none)], [], [(some (0, 0, none), [], []), (some (1, 1, none), [], [])]), []),
  (([.inl 76, .inr (0, 4), .inr (0, 2147483647)], [((3, 2, 10), 0, 5, none)], [], [(some (0, 0, none), [], []), (some (1, 1, none), [], [])]), [])]
def bc_X10_isSo : List ab_C := bq_X10_isSo.map (fun c => c.1)
def bx_X10_isSo : ex_K := (RX10, ec_fx fl_X10, ec_cx cl_X10, sl_X10, (fun ix => (ec_no ix).map (fun (q : Nat × Option Nat × List ab_C) => (q.1, q.2.1, ab_sp ab_hd q.2.2))), ec_nz, ec_no)
def bi_X10_isSo : List (Nat × Instr × Nat) := [(0, .iload_n 1, 1), (1, .tableswitch 132 0 6 #[43, 43, 43, 43, 69, 91, 113], 43), (44, .aload_n 0, 1), (45, .getfield 7, 3), (48, .iconst 4, 1), (49, .iload_n 2, 1), (50, .bipush 10, 2), (52, .irem, 1), (53, .imul, 1), (54, .iload_n 1, 1), (55, .iadd, 1), (56, .iaload, 1), (57, .iload_n 2, 1), (58, .bipush 10, 2), (60, .idiv, 1), (61, .if_icmp .lt 7, 3), (64, .iconst 1, 1), (65, .goto 4, 3), (68, .iconst 0, 1), (69, .ireturn, 1), (70, .aload_n 0, 1), (71, .getfield 13, 3), (74, .iload_n 2, 1), (75, .bipush 10, 2), (77, .irem, 1), (78, .iaload, 1), (79, .iload_n 2, 1), (80, .bipush 10, 2), (82, .idiv, 1), (83, .if_icmp .lt 7, 3), (86, .iconst 1, 1), (87, .goto 4, 3), (90, .iconst 0, 1), (91, .ireturn, 1), (92, .aload_n 0, 1), (93, .getfield 28, 3), (96, .iload_n 2, 1), (97, .bipush 10, 2), (99, .irem, 1), (100, .iaload, 1), (101, .iload_n 2, 1), (102, .bipush 10, 2), (104, .idiv, 1), (105, .if_icmp .lt 7, 3), (108, .iconst 1, 1), (109, .goto 4, 3), (112, .iconst 0, 1), (113, .ireturn, 1), (114, .aload_n 0, 1), (115, .getfield 82, 3), (118, .iconst 1, 1), (119, .iaload, 1), (120, .iload_n 2, 1), (121, .bipush 10, 2), (123, .idiv, 1), (124, .if_icmp .lt 7, 3), (127, .iconst 1, 1), (128, .goto 4, 3), (131, .iconst 0, 1), (132, .ireturn, 1), (133, .aload_n 0, 1), (134, .getfield 73, 3), (137, .iload_n 2, 1), (138, .bipush 10, 2), (140, .irem, 1), (141, .iaload, 1), (142, .ifCond .ne 7, 3), (145, .iconst 1, 1), (146, .goto 4, 3), (149, .iconst 0, 1), (150, .ireturn, 1)]
def bq_X10_doLine : List (ab_C × List ab_Q) := [(([.inl 76, .inr ((-2147483648), 2147483647), .inr ((-2147483648), 2147483647), .inr ((-2147483648), 2147483647), .inr ((-2147483648), 2147483647)], [], [(82, none), (84, none), (85, none), (86, none), (87, none), (97, none), (100, none), (101, some 5), (101, some 8), (101, some 9)], [(some (0, 0, none), [], []), (some (1, 1, none), [((0, 1, 0), 1, 11, none), ((0, 2, 0), 0, 100, none)], [])]), [])]
def bc_X10_doLine : List ab_C := bq_X10_doLine.map (fun c => c.1)
def be_X10_doLine : Nat → Option (Nat × Option Nat × List ab_C) := fun ix => match ix with
  | 215 => some (4, some 10, bc_X10_canCheck)
  | 218 => some (3, some 10, bc_X10_isSo)
  | 184 => some (2, some 10, bc_X10_isMachine)
  | 168 => some (2, some 10, bc_X10_isHatch)
  | 171 => some (3, none, bc_X10_isIn)
  | 177 => some (2, some 10, bc_X10_isPerson)
  | 164 => some (2, some 10, bc_X10_isModule)
  | 180 => some (3, some 10, bc_X10_canGo)
  | 212 => some (2, some 10, bc_X10_isLine)
  | 190 => some (4, some 10, bc_X10_refusesMend)
  | 194 => some (4, some 10, bc_X10_beginMend)
  | _ => none
def bx_X10_doLine : ex_K := (RX10, ec_fx fl_X10, ec_cx cl_X10, sl_X10, (fun ix => (be_X10_doLine ix).map (fun q => (q.1, q.2.1, ab_sp ab_hd q.2.2))), ec_nz, ec_no)
def bi_X10_doLine : List (Nat × Instr × Nat) := [(0, .iload_n 1, 1), (1, .tableswitch 286 1 11 #[59, 102, 102, 131, 131, 160, 185, 222, 243, 286, 262], 59), (60, .aload_n 0, 1), (61, .iload_n 2, 1), (62, .iload_n 3, 1), (63, .iload 4, 2), (65, .invokevirtual 215, 3), (68, .ifCond .ne 5, 3), (71, .iconst 0, 1), (72, .ireturn, 1), (73, .aload_n 0, 1), (74, .getfield 82, 3), (77, .iconst 5, 1), (78, .aload_n 0, 1), (79, .iload_n 2, 1), (80, .iload_n 3, 1), (81, .invokevirtual 218, 3), (84, .ifCond .eq 14, 3), (87, .aload_n 0, 1), (88, .getfield 82, 3), (91, .iconst 5, 1), (92, .iaload, 1), (93, .iconst 1, 1), (94, .iadd, 1), (95, .goto 5, 3), (98, .iload 4, 2), (100, .iastore, 1), (101, .iconst 1, 1), (102, .ireturn, 1), (103, .aload_n 0, 1), (104, .iload_n 2, 1), (105, .invokevirtual 184, 3), (108, .ifCond .ne 5, 3), (111, .iconst 0, 1), (112, .ireturn, 1), (113, .aload_n 0, 1), (114, .getfield 70, 3), (117, .iload_n 2, 1), (118, .iload_n 1, 1), (119, .iconst 2, 1), (120, .if_icmp .ne 7, 3), (123, .iconst 1, 1), (124, .goto 4, 3), (127, .iconst 0, 1), (128, .iastore, 1), (129, .goto 160, 3), (132, .aload_n 0, 1), (133, .iload_n 2, 1), (134, .invokevirtual 168, 3), (137, .ifCond .ne 5, 3), (140, .iconst 0, 1), (141, .ireturn, 1), (142, .aload_n 0, 1), (143, .getfield 25, 3), (146, .iload_n 2, 1), (147, .iload_n 1, 1), (148, .iconst 4, 1), (149, .if_icmp .ne 7, 3), (152, .iconst 1, 1), (153, .goto 4, 3), (156, .iconst 0, 1), (157, .iastore, 1), (158, .goto 131, 3), (161, .iload_n 2, 1), (162, .iconst 1, 1), (163, .bipush 100, 2), (165, .invokestatic 171, 3), (168, .ifCond .ne 5, 3), (171, .iconst 0, 1), (172, .ireturn, 1), (173, .aload_n 0, 1), (174, .getfield 82, 3), (177, .bipush 9, 2), (179, .iload_n 2, 1), (180, .iconst 1, 1), (181, .isub, 1), (182, .iastore, 1), (183, .goto 106, 3), (186, .aload_n 0, 1), (187, .iload_n 2, 1), (188, .invokevirtual 177, 3), (191, .ifCond .eq 20, 3), (194, .aload_n 0, 1), (195, .iload_n 3, 1), (196, .invokevirtual 164, 3), (199, .ifCond .eq 12, 3), (202, .aload_n 0, 1), (203, .iload_n 2, 1), (204, .iload_n 3, 1), (205, .invokevirtual 180, 3), (208, .ifCond .ne 5, 3), (211, .iconst 0, 1), (212, .ireturn, 1), (213, .aload_n 0, 1), (214, .getfield 31, 3), (217, .iload_n 2, 1), (218, .iload_n 3, 1), (219, .iastore, 1), (220, .goto 69, 3), (223, .aload_n 0, 1), (224, .iload_n 2, 1), (225, .invokevirtual 212, 3), (228, .ifCond .ne 5, 3), (231, .iconst 0, 1), (232, .ireturn, 1), (233, .aload_n 0, 1), (234, .getfield 82, 3), (237, .bipush 8, 2), (239, .iload_n 2, 1), (240, .iastore, 1), (241, .goto 48, 3), (244, .aload_n 0, 1), (245, .iload_n 2, 1), (246, .invokevirtual 212, 3), (249, .ifCond .ne 5, 3), (252, .iconst 0, 1), (253, .ireturn, 1), (254, .aload_n 0, 1), (255, .getfield 82, 3), (258, .iconst 5, 1), (259, .iload_n 2, 1), (260, .iastore, 1), (261, .iconst 1, 1), (262, .ireturn, 1), (263, .aload_n 0, 1), (264, .iload_n 2, 1), (265, .iload_n 3, 1), (266, .iload 4, 2), (268, .invokevirtual 190, 3), (271, .ifCond .eq 5, 3), (274, .iconst 0, 1), (275, .ireturn, 1), (276, .aload_n 0, 1), (277, .iload_n 2, 1), (278, .iload_n 3, 1), (279, .iload 4, 2), (281, .invokevirtual 194, 3), (284, .goto 5, 3), (287, .iconst 0, 1), (288, .ireturn, 1), (289, .aload_n 0, 1), (290, .getfield 82, 3), (293, .iconst 5, 1), (294, .dup2, 1), (295, .iaload, 1), (296, .iconst 1, 1), (297, .iadd, 1), (298, .iastore, 1), (299, .iconst 1, 1), (300, .ireturn, 1)]
def bq_X10_runText : List (ab_C × List ab_Q) := [(([.inl 76], [], [(82, none), (84, none), (85, none), (86, none), (87, none), (97, none), (100, none), (101, some 4), (101, some 5), (101, some 6), (101, some 7), (101, some 8), (101, some 9), (101, some 10)], [(none, [], [])]), [])]
def bc_X10_runText : List ab_C := bq_X10_runText.map (fun c => c.1)
def be_X10_runText : Nat → Option (Nat × Option Nat × List ab_C) := fun ix => match ix with
  | 212 => some (2, some 10, bc_X10_isLine)
  | 205 => some (2, some 10, bc_X10_endText)
  | 221 => some (5, some 10, bc_X10_doLine)
  | 225 => some (1, some 10, bc_X10_abortText)
  | _ => none
def bx_X10_runText : ex_K := (RX10, ec_fx fl_X10, ec_cx cl_X10, sl_X10, (fun ix => (be_X10_runText ix).map (fun q => (q.1, q.2.1, ab_sp ab_hd q.2.2))), ec_nz, ec_no)
def bi_X10_runText : List (Nat × Instr × Nat) := [(0, .aload_n 0, 1), (1, .getfield 82, 3), (4, .iconst 4, 1), (5, .iaload, 1), (6, .ifCond .eq 14, 3), (9, .aload_n 0, 1), (10, .getfield 82, 3), (13, .bipush 6, 2), (15, .iaload, 1), (16, .iconst 1, 1), (17, .if_icmp .ne 4, 3), (20, .return_, 1), (21, .aload_n 0, 1), (22, .getfield 82, 3), (25, .bipush 9, 2), (27, .iaload, 1), (28, .ifCond .le 15, 3), (31, .aload_n 0, 1), (32, .getfield 82, 3), (35, .bipush 9, 2), (37, .dup2, 1), (38, .iaload, 1), (39, .iconst 1, 1), (40, .isub, 1), (41, .iastore, 1), (42, .return_, 1), (43, .aload_n 0, 1), (44, .getfield 82, 3), (47, .iconst 5, 1), (48, .iaload, 1), (49, .istore_n 1, 1), (50, .aload_n 0, 1), (51, .iload_n 1, 1), (52, .invokevirtual 212, 3), (55, .ifCond .ne 11, 3), (58, .aload_n 0, 1), (59, .iconst 4, 1), (60, .invokevirtual 205, 3), (63, .goto 70, 3), (66, .aload_n 0, 1), (67, .getfield 98, 3), (70, .iload_n 1, 1), (71, .iaload, 1), (72, .ifCond .ne 26, 3), (75, .aload_n 0, 1), (76, .aload_n 0, 1), (77, .getfield 82, 3), (80, .bipush 7, 2), (82, .iaload, 1), (83, .iconst 1, 1), (84, .if_icmp .ne 7, 3), (87, .iconst 2, 1), (88, .goto 4, 3), (91, .iconst 1, 1), (92, .invokevirtual 205, 3), (95, .goto 38, 3), (98, .aload_n 0, 1), (99, .aload_n 0, 1), (100, .getfield 98, 3), (103, .iload_n 1, 1), (104, .iaload, 1), (105, .aload_n 0, 1), (106, .getfield 101, 3), (109, .iload_n 1, 1), (110, .iaload, 1), (111, .aload_n 0, 1), (112, .getfield 104, 3), (115, .iload_n 1, 1), (116, .iaload, 1), (117, .aload_n 0, 1), (118, .getfield 107, 3), (121, .iload_n 1, 1), (122, .iaload, 1), (123, .invokevirtual 221, 3), (126, .ifCond .ne 7, 3), (129, .aload_n 0, 1), (130, .invokevirtual 225, 3), (133, .return_, 1)]
def bq_X10_line : List (ab_C × List ab_Q) := [(([.inl 76, .inr ((-2147483648), 2147483647), .inr ((-2147483648), 2147483647), .inr ((-2147483648), 2147483647), .inr ((-2147483648), 2147483647)], [], [(76, some 34), (102, none), (103, none), (104, none), (105, none), (114, some 1), (114, some 3), (114, some 4)], [(some ((-2147483648), 2147483647, none), [], [])]), [])]
def bc_X10_line : List ab_C := bq_X10_line.map (fun c => c.1)
def be_X10_line : Nat → Option (Nat × Option Nat × List ab_C) := fun ix => match ix with
  | 171 => some (3, none, bc_X10_isIn)
  | 160 => some (2, some 10, bc_X10_finding)
  | _ => none
def bx_X10_line : ex_K := (RX10, ec_fx fl_X10, ec_cx cl_X10, sl_X10, (fun ix => (be_X10_line ix).map (fun q => (q.1, q.2.1, ab_sp ab_hd q.2.2))), ec_nz, ec_no)
def bi_X10_line : List (Nat × Instr × Nat) := [(0, .iload_n 1, 1), (1, .iconst 0, 1), (2, .bipush 11, 2), (4, .invokestatic 171, 3), (7, .ifCond .ne 9, 3), (10, .aload_n 0, 1), (11, .iconst 1, 1), (12, .invokevirtual 160, 3), (15, .ireturn, 1), (16, .aload_n 0, 1), (17, .getfield 82, 3), (20, .iconst 4, 1), (21, .iaload, 1), (22, .iconst 1, 1), (23, .if_icmp .ne 9, 3), (26, .aload_n 0, 1), (27, .iconst 3, 1), (28, .invokevirtual 160, 3), (31, .ireturn, 1), (32, .aload_n 0, 1), (33, .getfield 209, 3), (36, .bipush 40, 2), (38, .if_icmp .ne 9, 3), (41, .aload_n 0, 1), (42, .iconst 4, 1), (43, .invokevirtual 160, 3), (46, .ireturn, 1), (47, .aload_n 0, 1), (48, .getfield 98, 3), (51, .aload_n 0, 1), (52, .getfield 209, 3), (55, .iload_n 1, 1), (56, .iastore, 1), (57, .aload_n 0, 1), (58, .getfield 101, 3), (61, .aload_n 0, 1), (62, .getfield 209, 3), (65, .iload_n 2, 1), (66, .iastore, 1), (67, .aload_n 0, 1), (68, .getfield 104, 3), (71, .aload_n 0, 1), (72, .getfield 209, 3), (75, .iload_n 3, 1), (76, .iastore, 1), (77, .aload_n 0, 1), (78, .getfield 107, 3), (81, .aload_n 0, 1), (82, .getfield 209, 3), (85, .iload 4, 2), (87, .iastore, 1), (88, .aload_n 0, 1), (89, .dup, 1), (90, .getfield 209, 3), (93, .iconst 1, 1), (94, .iadd, 1), (95, .putfield 209, 3), (98, .aload_n 0, 1), (99, .getfield 209, 3), (102, .iconst 1, 1), (103, .isub, 1), (104, .ireturn, 1)]
def bq_X10_erase : List (ab_C × List ab_Q) := [(([.inl 76], [], [(76, some 34), (114, some 3)], [(some ((-2147483648), 2147483647, none), [], [])]), [])]
def bc_X10_erase : List ab_C := bq_X10_erase.map (fun c => c.1)
def be_X10_erase : Nat → Option (Nat × Option Nat × List ab_C) := fun ix => match ix with
  | 160 => some (2, some 10, bc_X10_finding)
  | _ => none
def bx_X10_erase : ex_K := (RX10, ec_fx fl_X10, ec_cx cl_X10, sl_X10, (fun ix => (be_X10_erase ix).map (fun q => (q.1, q.2.1, ab_sp ab_hd q.2.2))), ec_nz, ec_no)
def bi_X10_erase : List (Nat × Instr × Nat) := [(0, .aload_n 0, 1), (1, .getfield 82, 3), (4, .iconst 4, 1), (5, .iaload, 1), (6, .iconst 1, 1), (7, .if_icmp .ne 9, 3), (10, .aload_n 0, 1), (11, .iconst 3, 1), (12, .invokevirtual 160, 3), (15, .ireturn, 1), (16, .aload_n 0, 1), (17, .getfield 209, 3), (20, .istore_n 1, 1), (21, .aload_n 0, 1), (22, .iconst 0, 1), (23, .putfield 209, 3), (26, .iload_n 1, 1), (27, .ireturn, 1)]
def bq_X10_begin : List (ab_C × List ab_Q) := [(([.inl 76], [], [(101, some 4), (101, some 5), (114, some 3)], [(some ((-2147483648), 2147483647, none), [], [])]), [])]
def bc_X10_begin : List ab_C := bq_X10_begin.map (fun c => c.1)
def be_X10_begin : Nat → Option (Nat × Option Nat × List ab_C) := fun ix => match ix with
  | 160 => some (2, some 10, bc_X10_finding)
  | _ => none
def bx_X10_begin : ex_K := (RX10, ec_fx fl_X10, ec_cx cl_X10, sl_X10, (fun ix => (be_X10_begin ix).map (fun q => (q.1, q.2.1, ab_sp ab_hd q.2.2))), ec_nz, ec_no)
def bi_X10_begin : List (Nat × Instr × Nat) := [(0, .aload_n 0, 1), (1, .getfield 82, 3), (4, .iconst 4, 1), (5, .iaload, 1), (6, .iconst 1, 1), (7, .if_icmp .eq 10, 3), (10, .aload_n 0, 1), (11, .getfield 209, 3), (14, .ifCond .ne 9, 3), (17, .aload_n 0, 1), (18, .iconst 3, 1), (19, .invokevirtual 160, 3), (22, .ireturn, 1), (23, .aload_n 0, 1), (24, .getfield 82, 3), (27, .iconst 4, 1), (28, .iconst 1, 1), (29, .iastore, 1), (30, .aload_n 0, 1), (31, .getfield 82, 3), (34, .iconst 5, 1), (35, .iconst 0, 1), (36, .iastore, 1), (37, .iconst 1, 1), (38, .ireturn, 1)]
def bq_X10_halt : List (ab_C × List ab_Q) := [(([.inl 76, .inr ((-2147483648), 2147483647)], [], [(101, some 6), (114, some 1), (114, some 3)], [(some ((-2147483648), 2147483647, none), [], [])]), [])]
def bc_X10_halt : List ab_C := bq_X10_halt.map (fun c => c.1)
def be_X10_halt : Nat → Option (Nat × Option Nat × List ab_C) := fun ix => match ix with
  | 171 => some (3, none, bc_X10_isIn)
  | 160 => some (2, some 10, bc_X10_finding)
  | _ => none
def bx_X10_halt : ex_K := (RX10, ec_fx fl_X10, ec_cx cl_X10, sl_X10, (fun ix => (be_X10_halt ix).map (fun q => (q.1, q.2.1, ab_sp ab_hd q.2.2))), ec_nz, ec_no)
def bi_X10_halt : List (Nat × Instr × Nat) := [(0, .iload_n 1, 1), (1, .iconst 0, 1), (2, .iconst 1, 1), (3, .invokestatic 171, 3), (6, .ifCond .ne 9, 3), (9, .aload_n 0, 1), (10, .iconst 1, 1), (11, .invokevirtual 160, 3), (14, .ireturn, 1), (15, .aload_n 0, 1), (16, .getfield 82, 3), (19, .iconst 4, 1), (20, .iaload, 1), (21, .ifCond .eq 14, 3), (24, .aload_n 0, 1), (25, .getfield 82, 3), (28, .bipush 6, 2), (30, .iaload, 1), (31, .iload_n 1, 1), (32, .if_icmp .ne 9, 3), (35, .aload_n 0, 1), (36, .iconst 3, 1), (37, .invokevirtual 160, 3), (40, .ireturn, 1), (41, .aload_n 0, 1), (42, .getfield 82, 3), (45, .bipush 6, 2), (47, .iload_n 1, 1), (48, .iastore, 1), (49, .iconst 1, 1), (50, .ireturn, 1)]
def bq_X10_abort : List (ab_C × List ab_Q) := [(([.inl 76], [], [(101, some 4), (101, some 5), (101, some 6), (101, some 7), (101, some 8), (101, some 9), (101, some 10), (114, some 3)], [(some ((-2147483648), 2147483647, none), [], [])]), [])]
def bc_X10_abort : List ab_C := bq_X10_abort.map (fun c => c.1)
def be_X10_abort : Nat → Option (Nat × Option Nat × List ab_C) := fun ix => match ix with
  | 160 => some (2, some 10, bc_X10_finding)
  | 225 => some (1, some 10, bc_X10_abortText)
  | _ => none
def bx_X10_abort : ex_K := (RX10, ec_fx fl_X10, ec_cx cl_X10, sl_X10, (fun ix => (be_X10_abort ix).map (fun q => (q.1, q.2.1, ab_sp ab_hd q.2.2))), ec_nz, ec_no)
def bi_X10_abort : List (Nat × Instr × Nat) := [(0, .aload_n 0, 1), (1, .getfield 82, 3), (4, .iconst 4, 1), (5, .iaload, 1), (6, .ifCond .ne 9, 3), (9, .aload_n 0, 1), (10, .iconst 3, 1), (11, .invokevirtual 160, 3), (14, .ireturn, 1), (15, .aload_n 0, 1), (16, .invokevirtual 225, 3), (19, .aload_n 0, 1), (20, .getfield 82, 3), (23, .iconst 4, 1), (24, .iaload, 1), (25, .ireturn, 1)]
def bq_X10_text : List (ab_C × List ab_Q) := [(([.inl 76, .inr ((-2147483648), 2147483647)], [], [(114, some 1)], [(some ((-2147483648), 2147483647, none), [], [])]), [])]
def bc_X10_text : List ab_C := bq_X10_text.map (fun c => c.1)
def be_X10_text : Nat → Option (Nat × Option Nat × List ab_C) := fun ix => match ix with
  | 171 => some (3, none, bc_X10_isIn)
  | 160 => some (2, some 10, bc_X10_finding)
  | _ => none
def bx_X10_text : ex_K := (RX10, ec_fx fl_X10, ec_cx cl_X10, sl_X10, (fun ix => (be_X10_text ix).map (fun q => (q.1, q.2.1, ab_sp ab_hd q.2.2))), ec_nz, ec_no)
def bi_X10_text : List (Nat × Instr × Nat) := [(0, .iload_n 1, 1), (1, .iconst 0, 1), (2, .bipush 6, 2), (4, .invokestatic 171, 3), (7, .ifCond .ne 9, 3), (10, .aload_n 0, 1), (11, .iconst 1, 1), (12, .invokevirtual 160, 3), (15, .ireturn, 1), (16, .aload_n 0, 1), (17, .getfield 82, 3), (20, .iconst 4, 1), (21, .iload_n 1, 1), (22, .iadd, 1), (23, .iaload, 1), (24, .ireturn, 1)]
def bq_X10_mendAll : List (ab_C × List ab_Q) := [(([.inl 76], [], [(86, none), (87, none), (96, none), (98, none)], [(none, [], [])]), [(2, [some (.inl 76), some (.inr (.inl (0, 6, none, none)))], [((1, 7, 6), 0, 6, some (8006, 0)), ((1, 14, 6), 0, 6, some (15006, 0)), ((1, 76, 0), 0, 6, some (77000, 0)), ((1, 76, 9), 0, 6, some (77009, 0))], 13, [0, (-2)])])]
def bc_X10_mendAll : List ab_C := bq_X10_mendAll.map (fun c => c.1)
def bx_X10_mendAll : ex_K := (RX10, ec_fx fl_X10, ec_cx cl_X10, sl_X10, (fun ix => (ec_no ix).map (fun (q : Nat × Option Nat × List ab_C) => (q.1, q.2.1, ab_sp ab_hd q.2.2))), ec_nz, ec_no)
def bi_X10_mendAll : List (Nat × Instr × Nat) := [(0, .iconst 0, 1), (1, .istore_n 1, 1), (2, .iload_n 1, 1), (3, .aload_n 0, 1), (4, .getfield 154, 3), (7, .if_icmp .ge 68, 3), (10, .aload_n 0, 1), (11, .getfield 37, 3), (14, .iload_n 1, 1), (15, .iaload, 1), (16, .ifCond .lt 53, 3), (19, .aload_n 0, 1), (20, .getfield 40, 3), (23, .iload_n 1, 1), (24, .dup2, 1), (25, .iaload, 1), (26, .iconst 1, 1), (27, .isub, 1), (28, .iastore, 1), (29, .aload_n 0, 1), (30, .getfield 40, 3), (33, .iload_n 1, 1), (34, .iaload, 1), (35, .ifCond .ne 34, 3), (38, .aload_n 0, 1), (39, .getfield 73, 3), (42, .aload_n 0, 1), (43, .getfield 37, 3), (46, .iload_n 1, 1), (47, .iaload, 1), (48, .iconst 0, 1), (49, .iastore, 1), (50, .aload_n 0, 1), (51, .getfield 67, 3), (54, .aload_n 0, 1), (55, .getfield 37, 3), (58, .iload_n 1, 1), (59, .iaload, 1), (60, .iconst 0, 1), (61, .iastore, 1), (62, .aload_n 0, 1), (63, .getfield 37, 3), (66, .iload_n 1, 1), (67, .iconst (-1), 1), (68, .iastore, 1), (69, .iinc 1 1, 3), (72, .goto (-70), 3), (75, .return_, 1)]
def bq_X10_feedAll : List (ab_C × List ab_Q) := [(([.inl 76], [], [(99, none), (101, some 1)], [(none, [], [])]), [(32, [some (.inl 76), some (.inr (.inl ((-2147483648), 2147483647, none, none))), some (.inr (.inl (0, 10, none, none))), none], [((1, 7, 6), 0, 6, some (8006, 0)), ((1, 14, 6), 0, 6, some (15006, 0)), ((1, 76, 0), 0, 6, some (77000, 0)), ((1, 76, 9), 0, 6, some (77009, 0))], 21, [0, 0, (-2), 0])])]
def bc_X10_feedAll : List ab_C := bq_X10_feedAll.map (fun c => c.1)
def be_X10_feedAll : Nat → Option (Nat × Option Nat × List ab_C) := fun ix => match ix with
  | 198 => some (2, some 10, bc_X10_canShed)
  | _ => none
def bx_X10_feedAll : ex_K := (RX10, ec_fx fl_X10, ec_cx cl_X10, sl_X10, (fun ix => (be_X10_feedAll ix).map (fun q => (q.1, q.2.1, ab_sp ab_hd q.2.2))), ec_nz, ec_no)
def bi_X10_feedAll : List (Nat × Instr × Nat) := [(0, .aload_n 0, 1), (1, .getfield 82, 3), (4, .iconst 1, 1), (5, .iaload, 1), (6, .aload_n 0, 1), (7, .getfield 82, 3), (10, .iconst 0, 1), (11, .iaload, 1), (12, .bipush 9, 2), (14, .irem, 1), (15, .bipush 6, 2), (17, .if_icmp .ge 10, 3), (20, .aload_n 0, 1), (21, .getfield 228, 3), (24, .goto 4, 3), (27, .iconst 0, 1), (28, .iadd, 1), (29, .istore_n 1, 1), (30, .iconst 0, 1), (31, .istore_n 2, 1), (32, .iload_n 2, 1), (33, .aload_n 0, 1), (34, .getfield 157, 3), (37, .if_icmp .ge 65, 3), (40, .aload_n 0, 1), (41, .iload_n 2, 1), (42, .invokevirtual 198, 3), (45, .ifCond .eq 17, 3), (48, .iload_n 1, 1), (49, .aload_n 0, 1), (50, .getfield 58, 3), (53, .iload_n 2, 1), (54, .iaload, 1), (55, .if_icmp .lt 7, 3), (58, .iconst 1, 1), (59, .goto 4, 3), (62, .iconst 0, 1), (63, .istore_n 3, 1), (64, .aload_n 0, 1), (65, .getfield 76, 3), (68, .iload_n 2, 1), (69, .iload_n 3, 1), (70, .ifCond .eq 7, 3), (73, .iconst 1, 1), (74, .goto 4, 3), (77, .iconst 0, 1), (78, .iastore, 1), (79, .iload_n 1, 1), (80, .iload_n 3, 1), (81, .ifCond .eq 12, 3), (84, .aload_n 0, 1), (85, .getfield 58, 3), (88, .iload_n 2, 1), (89, .iaload, 1), (90, .goto 4, 3), (93, .iconst 0, 1), (94, .isub, 1), (95, .istore_n 1, 1), (96, .iinc 2 1, 3), (99, .goto (-67), 3), (102, .aload_n 0, 1), (103, .getfield 82, 3), (106, .iconst 1, 1), (107, .iload_n 1, 1), (108, .aload_n 0, 1), (109, .getfield 85, 3), (112, .if_icmp .le 10, 3), (115, .aload_n 0, 1), (116, .getfield 85, 3), (119, .goto 4, 3), (122, .iload_n 1, 1), (123, .iastore, 1), (124, .return_, 1)]
def bq_X10_lesser : List (ab_C × List ab_Q) := [(([.inr ((-2147483648), 2147483647), .inr ((-2147483648), 2147483647)], [], [], [(some ((-2147483648), 2147483647, none), [], [])]), [])]
def bc_X10_lesser : List ab_C := bq_X10_lesser.map (fun c => c.1)
def bx_X10_lesser : ex_K := (RX10, ec_fx fl_X10, ec_cx cl_X10, sl_X10, (fun ix => (ec_no ix).map (fun (q : Nat × Option Nat × List ab_C) => (q.1, q.2.1, ab_sp ab_hd q.2.2))), ec_nz, ec_no)
def bi_X10_lesser : List (Nat × Instr × Nat) := [(0, .iload_n 0, 1), (1, .iload_n 1, 1), (2, .if_icmp .ge 7, 3), (5, .iload_n 0, 1), (6, .goto 4, 3), (9, .iload_n 1, 1), (10, .ireturn, 1)]
def bq_X10_workOf : List (ab_C × List ab_Q) := [(([.inl 76, .inr (0, 9)], [], [(77, none), (78, none), (83, some 0), (83, some 1), (83, some 2), (83, some 3), (83, some 4), (83, some 5), (96, none), (98, none)], [(none, [], [])]), [])]
def bc_X10_workOf : List ab_C := bq_X10_workOf.map (fun c => c.1)
def be_X10_workOf : Nat → Option (Nat × Option Nat × List ab_C) := fun ix => match ix with
  | 231 => some (2, none, bc_X10_lesser)
  | _ => none
def bx_X10_workOf : ex_K := (RX10, ec_fx fl_X10, ec_cx cl_X10, sl_X10, (fun ix => (be_X10_workOf ix).map (fun q => (q.1, q.2.1, ab_sp ab_hd q.2.2))), ec_nz, ec_no)
def bi_X10_workOf : List (Nat × Instr × Nat) := [(0, .iconst 4, 1), (1, .aload_n 0, 1), (2, .getfield 52, 3), (5, .iload_n 1, 1), (6, .iaload, 1), (7, .imul, 1), (8, .istore_n 2, 1), (9, .aload_n 0, 1), (10, .getfield 49, 3), (13, .iload_n 1, 1), (14, .iaload, 1), (15, .tableswitch 295 1 5 #[33, 76, 141, 184, 243], 33), (48, .aload_n 0, 1), (49, .getfield 55, 3), (52, .iload_n 1, 1), (53, .iaload, 1), (54, .aload_n 0, 1), (55, .getfield 7, 3), (58, .iload_n 2, 1), (59, .iconst 1, 1), (60, .iadd, 1), (61, .iaload, 1), (62, .invokestatic 231, 3), (65, .istore_n 3, 1), (66, .aload_n 0, 1), (67, .getfield 7, 3), (70, .iload_n 2, 1), (71, .iconst 1, 1), (72, .iadd, 1), (73, .dup2, 1), (74, .iaload, 1), (75, .iload_n 3, 1), (76, .isub, 1), (77, .iastore, 1), (78, .aload_n 0, 1), (79, .getfield 28, 3), (82, .iconst 3, 1), (83, .dup2, 1), (84, .iaload, 1), (85, .iload_n 3, 1), (86, .iadd, 1), (87, .iastore, 1), (88, .goto 222, 3), (91, .aload_n 0, 1), (92, .getfield 55, 3), (95, .iload_n 1, 1), (96, .iaload, 1), (97, .aload_n 0, 1), (98, .getfield 28, 3), (101, .iconst 0, 1), (102, .iaload, 1), (103, .invokestatic 231, 3), (106, .istore_n 3, 1), (107, .aload_n 0, 1), (108, .getfield 28, 3), (111, .iconst 0, 1), (112, .dup2, 1), (113, .iaload, 1), (114, .iload_n 3, 1), (115, .isub, 1), (116, .iastore, 1), (117, .aload_n 0, 1), (118, .getfield 7, 3), (121, .iload_n 2, 1), (122, .iconst 0, 1), (123, .iadd, 1), (124, .dup2, 1), (125, .iaload, 1), (126, .bipush 8, 2), (128, .iload_n 3, 1), (129, .imul, 1), (130, .bipush 9, 2), (132, .idiv, 1), (133, .iadd, 1), (134, .iastore, 1), (135, .aload_n 0, 1), (136, .getfield 28, 3), (139, .iconst 4, 1), (140, .dup2, 1), (141, .iaload, 1), (142, .iload_n 3, 1), (143, .bipush 8, 2), (145, .iload_n 3, 1), (146, .imul, 1), (147, .bipush 9, 2), (149, .idiv, 1), (150, .isub, 1), (151, .iadd, 1), (152, .iastore, 1), (153, .goto 157, 3), (156, .aload_n 0, 1), (157, .getfield 55, 3), (160, .iload_n 1, 1), (161, .iaload, 1), (162, .aload_n 0, 1), (163, .getfield 7, 3), (166, .iload_n 2, 1), (167, .iconst 2, 1), (168, .iadd, 1), (169, .iaload, 1), (170, .invokestatic 231, 3), (173, .istore_n 3, 1), (174, .aload_n 0, 1), (175, .getfield 7, 3), (178, .iload_n 2, 1), (179, .iconst 2, 1), (180, .iadd, 1), (181, .dup2, 1), (182, .iaload, 1), (183, .iload_n 3, 1), (184, .isub, 1), (185, .iastore, 1), (186, .aload_n 0, 1), (187, .getfield 28, 3), (190, .iconst 0, 1), (191, .dup2, 1), (192, .iaload, 1), (193, .iload_n 3, 1), (194, .iadd, 1), (195, .iastore, 1), (196, .goto 114, 3), (199, .aload_n 0, 1), (200, .getfield 55, 3), (203, .iload_n 1, 1), (204, .iaload, 1), (205, .aload_n 0, 1), (206, .getfield 28, 3), (209, .iconst 1, 1), (210, .iaload, 1), (211, .invokestatic 231, 3), (214, .istore_n 3, 1), (215, .aload_n 0, 1), (216, .getfield 28, 3), (219, .iconst 1, 1), (220, .dup2, 1), (221, .iaload, 1), (222, .iload_n 3, 1), (223, .isub, 1), (224, .iastore, 1), (225, .aload_n 0, 1), (226, .getfield 28, 3), (229, .iconst 0, 1), (230, .dup2, 1), (231, .iaload, 1), (232, .iconst 3, 1), (233, .iload_n 3, 1), (234, .imul, 1), (235, .iconst 4, 1), (236, .idiv, 1), (237, .iadd, 1), (238, .iastore, 1), (239, .aload_n 0, 1), (240, .getfield 28, 3), (243, .iconst 2, 1), (244, .dup2, 1), (245, .iaload, 1), (246, .iload_n 3, 1), (247, .iconst 3, 1), (248, .iload_n 3, 1), (249, .imul, 1), (250, .iconst 4, 1), (251, .idiv, 1), (252, .isub, 1), (253, .iadd, 1), (254, .iastore, 1), (255, .goto 55, 3), (258, .bipush 10, 2), (260, .aload_n 0, 1), (261, .getfield 55, 3), (264, .iload_n 1, 1), (265, .iaload, 1), (266, .imul, 1), (267, .aload_n 0, 1), (268, .getfield 13, 3), (271, .aload_n 0, 1), (272, .getfield 52, 3), (275, .iload_n 1, 1), (276, .iaload, 1), (277, .iaload, 1), (278, .invokestatic 231, 3), (281, .istore_n 3, 1), (282, .aload_n 0, 1), (283, .getfield 13, 3), (286, .aload_n 0, 1), (287, .getfield 52, 3), (290, .iload_n 1, 1), (291, .iaload, 1), (292, .dup2, 1), (293, .iaload, 1), (294, .iload_n 3, 1), (295, .isub, 1), (296, .iastore, 1), (297, .aload_n 0, 1), (298, .getfield 28, 3), (301, .iconst 5, 1), (302, .dup2, 1), (303, .iaload, 1), (304, .iload_n 3, 1), (305, .iadd, 1), (306, .iastore, 1), (307, .goto 3, 3), (310, .aload_n 0, 1), (311, .getfield 67, 3), (314, .iload_n 1, 1), (315, .dup2, 1), (316, .iaload, 1), (317, .iconst 1, 1), (318, .iadd, 1), (319, .iastore, 1), (320, .aload_n 0, 1), (321, .getfield 13, 3), (324, .aload_n 0, 1), (325, .getfield 52, 3), (328, .iload_n 1, 1), (329, .iaload, 1), (330, .dup2, 1), (331, .iaload, 1), (332, .iconst 2, 1), (333, .iadd, 1), (334, .iastore, 1), (335, .aload_n 0, 1), (336, .getfield 73, 3), (339, .iload_n 1, 1), (340, .aload_n 0, 1), (341, .getfield 67, 3), (344, .iload_n 1, 1), (345, .iaload, 1), (346, .aload_n 0, 1), (347, .getfield 64, 3), (350, .iload_n 1, 1), (351, .iaload, 1), (352, .if_icmp .ne 7, 3), (355, .iconst 1, 1), (356, .goto 9, 3), (359, .aload_n 0, 1), (360, .getfield 73, 3), (363, .iload_n 1, 1), (364, .iaload, 1), (365, .iastore, 1), (366, .return_, 1)]
def bq_X10_breathe : List (ab_C × List ab_Q) := [(([.inl 76, .inr (0, 5)], [], [(77, none), (78, none), (83, some 0), (83, some 1), (88, none), (89, none)], [(none, [], [])]), [])]
def bc_X10_breathe : List ab_C := bq_X10_breathe.map (fun c => c.1)
def be_X10_breathe : Nat → Option (Nat × Option Nat × List ab_C) := fun ix => match ix with
  | 231 => some (2, none, bc_X10_lesser)
  | _ => none
def bx_X10_breathe : ex_K := (RX10, ec_fx fl_X10, ec_cx cl_X10, sl_X10, (fun ix => (be_X10_breathe ix).map (fun q => (q.1, q.2.1, ab_sp ab_hd q.2.2))), ec_nz, ec_no)
def bi_X10_breathe : List (Nat × Instr × Nat) := [(0, .iconst 4, 1), (1, .aload_n 0, 1), (2, .getfield 31, 3), (5, .iload_n 1, 1), (6, .iaload, 1), (7, .imul, 1), (8, .istore_n 2, 1), (9, .aload_n 0, 1), (10, .getfield 34, 3), (13, .iload_n 1, 1), (14, .iaload, 1), (15, .ifCond .ne 7, 3), (18, .iconst 4, 1), (19, .goto 20, 3), (22, .aload_n 0, 1), (23, .getfield 34, 3), (26, .iload_n 1, 1), (27, .iaload, 1), (28, .iconst 1, 1), (29, .if_icmp .ne 8, 3), (32, .bipush 6, 2), (34, .goto 5, 3), (37, .bipush 14, 2), (39, .istore_n 3, 1), (40, .iload_n 3, 1), (41, .aload_n 0, 1), (42, .getfield 7, 3), (45, .iload_n 2, 1), (46, .iconst 0, 1), (47, .iadd, 1), (48, .iaload, 1), (49, .invokestatic 231, 3), (52, .istore 4, 2), (54, .aload_n 0, 1), (55, .getfield 43, 3), (58, .iload_n 1, 1), (59, .dup2, 1), (60, .iaload, 1), (61, .iload 4, 2), (63, .iload_n 3, 1), (64, .if_icmp .ge 7, 3), (67, .iconst 1, 1), (68, .goto 4, 3), (71, .iconst 0, 1), (72, .iadd, 1), (73, .iastore, 1), (74, .aload_n 0, 1), (75, .getfield 7, 3), (78, .iload_n 2, 1), (79, .iconst 0, 1), (80, .iadd, 1), (81, .dup2, 1), (82, .iaload, 1), (83, .iload 4, 2), (85, .isub, 1), (86, .iastore, 1), (87, .aload_n 0, 1), (88, .getfield 7, 3), (91, .iload_n 2, 1), (92, .iconst 1, 1), (93, .iadd, 1), (94, .dup2, 1), (95, .iaload, 1), (96, .iload 4, 2), (98, .iadd, 1), (99, .iastore, 1), (100, .bipush 10, 2), (102, .aload_n 0, 1), (103, .getfield 28, 3), (106, .iconst 0, 1), (107, .iaload, 1), (108, .invokestatic 231, 3), (111, .istore 4, 2), (113, .aload_n 0, 1), (114, .getfield 46, 3), (117, .iload_n 1, 1), (118, .dup2, 1), (119, .iaload, 1), (120, .iload 4, 2), (122, .bipush 10, 2), (124, .if_icmp .ge 7, 3), (127, .iconst 1, 1), (128, .goto 4, 3), (131, .iconst 0, 1), (132, .iadd, 1), (133, .iastore, 1), (134, .aload_n 0, 1), (135, .getfield 28, 3), (138, .iconst 0, 1), (139, .dup2, 1), (140, .iaload, 1), (141, .iload 4, 2), (143, .isub, 1), (144, .iastore, 1), (145, .aload_n 0, 1), (146, .getfield 7, 3), (149, .iload_n 2, 1), (150, .iconst 2, 1), (151, .iadd, 1), (152, .dup2, 1), (153, .iaload, 1), (154, .iconst 4, 1), (155, .iload 4, 2), (157, .imul, 1), (158, .bipush 10, 2), (160, .idiv, 1), (161, .iadd, 1), (162, .iastore, 1), (163, .aload_n 0, 1), (164, .getfield 28, 3), (167, .iconst 1, 1), (168, .dup2, 1), (169, .iaload, 1), (170, .iload 4, 2), (172, .iconst 4, 1), (173, .iload 4, 2), (175, .imul, 1), (176, .bipush 10, 2), (178, .idiv, 1), (179, .isub, 1), (180, .iadd, 1), (181, .iastore, 1), (182, .aload_n 0, 1), (183, .getfield 13, 3), (186, .aload_n 0, 1), (187, .getfield 31, 3), (190, .iload_n 1, 1), (191, .iaload, 1), (192, .dup2, 1), (193, .iaload, 1), (194, .aload_n 0, 1), (195, .getfield 34, 3), (198, .iload_n 1, 1), (199, .iaload, 1), (200, .ifCond .ne 8, 3), (203, .bipush 10, 2), (205, .goto 20, 3), (208, .aload_n 0, 1), (209, .getfield 34, 3), (212, .iload_n 1, 1), (213, .iaload, 1), (214, .iconst 1, 1), (215, .if_icmp .ne 8, 3), (218, .bipush 15, 2), (220, .goto 5, 3), (223, .bipush 40, 2), (225, .iadd, 1), (226, .iastore, 1), (227, .return_, 1)]
def bq_X10_leakAll : List (ab_C × List ab_Q) := [(([.inl 76], [], [(77, none), (83, some 4)], [(none, [], [])]), [(2, [some (.inl 76), some (.inr (.inl (0, 24, none, none))), none], [((1, 7, 6), 0, 6, some (8006, 0)), ((1, 14, 6), 0, 6, some (15006, 0)), ((1, 76, 0), 0, 6, some (77000, 0)), ((1, 76, 9), 0, 6, some (77009, 0))], 49, [0, (-2), 0])])]
def bc_X10_leakAll : List ab_C := bq_X10_leakAll.map (fun c => c.1)
def bx_X10_leakAll : ex_K := (RX10, ec_fx fl_X10, ec_cx cl_X10, sl_X10, (fun ix => (ec_no ix).map (fun (q : Nat × Option Nat × List ab_C) => (q.1, q.2.1, ab_sp ab_hd q.2.2))), ec_nz, ll_X10)
def bi_X10_leakAll : List (Nat × Instr × Nat) := [(0, .iconst 0, 1), (1, .istore_n 1, 1), (2, .iload_n 1, 1), (3, .iconst 4, 1), (4, .aload_n 0, 1), (5, .getfield 148, 3), (8, .imul, 1), (9, .if_icmp .ge 52, 3), (12, .aload_n 0, 1), (13, .getfield 7, 3), (16, .iload_n 1, 1), (17, .iaload, 1), (18, .i2l, 1), (19, .aload_n 0, 1), (20, .getfield 16, 3), (23, .iload_n 1, 1), (24, .iconst 4, 1), (25, .idiv, 1), (26, .iaload, 1), (27, .i2l, 1), (28, .lmul, 1), (29, .ldc2_w 235, 3), (32, .ldiv, 1), (33, .l2i, 1), (34, .istore_n 2, 1), (35, .aload_n 0, 1), (36, .getfield 7, 3), (39, .iload_n 1, 1), (40, .dup2, 1), (41, .iaload, 1), (42, .iload_n 2, 1), (43, .isub, 1), (44, .iastore, 1), (45, .aload_n 0, 1), (46, .getfield 28, 3), (49, .iconst 4, 1), (50, .dup2, 1), (51, .iaload, 1), (52, .iload_n 2, 1), (53, .iadd, 1), (54, .iastore, 1), (55, .iinc 1 1, 3), (58, .goto (-56), 3), (61, .return_, 1)]
def bq_X10_mixAll : List (ab_C × List ab_Q) := [(([.inl 76], [], [(77, none), (78, none)], [(none, [], [])]), [(2, [some (.inl 76), some (.inr (.inl (0, 8, none, none))), none, none], [((1, 7, 6), 0, 6, some (8006, 0)), ((1, 14, 6), 0, 6, some (15006, 0)), ((1, 76, 0), 0, 6, some (77000, 0)), ((1, 76, 9), 0, 6, some (77009, 0))], 107, [0, (-12), 0, 0]), (22, [some (.inl 76), some (.inr (.inl (0, 7, none, none))), some (.inr (.inl (0, 4, none, none))), none], [((1, 7, 6), 0, 6, some (8006, 0)), ((1, 14, 6), 0, 6, some (15006, 0)), ((1, 76, 0), 0, 6, some (77000, 0)), ((1, 76, 9), 0, 6, some (77009, 0))], 105, [0, (-12), (-2), 0])])]
def bc_X10_mixAll : List ab_C := bq_X10_mixAll.map (fun c => c.1)
def bx_X10_mixAll : ex_K := (RX10, ec_fx fl_X10, ec_cx cl_X10, sl_X10, (fun ix => (ec_no ix).map (fun (q : Nat × Option Nat × List ab_C) => (q.1, q.2.1, ab_sp ab_hd q.2.2))), ec_nz, ec_no)
def bi_X10_mixAll : List (Nat × Instr × Nat) := [(0, .iconst 0, 1), (1, .istore_n 1, 1), (2, .iload_n 1, 1), (3, .aload_n 0, 1), (4, .getfield 151, 3), (7, .if_icmp .ge 160, 3), (10, .aload_n 0, 1), (11, .getfield 25, 3), (14, .iload_n 1, 1), (15, .iaload, 1), (16, .iconst 1, 1), (17, .if_icmp .ne 144, 3), (20, .iconst 0, 1), (21, .istore_n 2, 1), (22, .iload_n 2, 1), (23, .iconst 4, 1), (24, .if_icmp .ge 81, 3), (27, .aload_n 0, 1), (28, .getfield 7, 3), (31, .iconst 4, 1), (32, .aload_n 0, 1), (33, .getfield 19, 3), (36, .iload_n 1, 1), (37, .iaload, 1), (38, .imul, 1), (39, .iload_n 2, 1), (40, .iadd, 1), (41, .iaload, 1), (42, .aload_n 0, 1), (43, .getfield 7, 3), (46, .iconst 4, 1), (47, .aload_n 0, 1), (48, .getfield 22, 3), (51, .iload_n 1, 1), (52, .iaload, 1), (53, .imul, 1), (54, .iload_n 2, 1), (55, .iadd, 1), (56, .iaload, 1), (57, .isub, 1), (58, .iconst 4, 1), (59, .idiv, 1), (60, .istore_n 3, 1), (61, .aload_n 0, 1), (62, .getfield 7, 3), (65, .iconst 4, 1), (66, .aload_n 0, 1), (67, .getfield 19, 3), (70, .iload_n 1, 1), (71, .iaload, 1), (72, .imul, 1), (73, .iload_n 2, 1), (74, .iadd, 1), (75, .dup2, 1), (76, .iaload, 1), (77, .iload_n 3, 1), (78, .isub, 1), (79, .iastore, 1), (80, .aload_n 0, 1), (81, .getfield 7, 3), (84, .iconst 4, 1), (85, .aload_n 0, 1), (86, .getfield 22, 3), (89, .iload_n 1, 1), (90, .iaload, 1), (91, .imul, 1), (92, .iload_n 2, 1), (93, .iadd, 1), (94, .dup2, 1), (95, .iaload, 1), (96, .iload_n 3, 1), (97, .iadd, 1), (98, .iastore, 1), (99, .iinc 2 1, 3), (102, .goto (-80), 3), (105, .aload_n 0, 1), (106, .getfield 13, 3), (109, .aload_n 0, 1), (110, .getfield 19, 3), (113, .iload_n 1, 1), (114, .iaload, 1), (115, .iaload, 1), (116, .aload_n 0, 1), (117, .getfield 13, 3), (120, .aload_n 0, 1), (121, .getfield 22, 3), (124, .iload_n 1, 1), (125, .iaload, 1), (126, .iaload, 1), (127, .isub, 1), (128, .iconst 4, 1), (129, .idiv, 1), (130, .istore_n 2, 1), (131, .aload_n 0, 1), (132, .getfield 13, 3), (135, .aload_n 0, 1), (136, .getfield 19, 3), (139, .iload_n 1, 1), (140, .iaload, 1), (141, .dup2, 1), (142, .iaload, 1), (143, .iload_n 2, 1), (144, .isub, 1), (145, .iastore, 1), (146, .aload_n 0, 1), (147, .getfield 13, 3), (150, .aload_n 0, 1), (151, .getfield 22, 3), (154, .iload_n 1, 1), (155, .iaload, 1), (156, .dup2, 1), (157, .iaload, 1), (158, .iload_n 2, 1), (159, .iadd, 1), (160, .iastore, 1), (161, .iinc 1 1, 3), (164, .goto (-162), 3), (167, .return_, 1)]
def bq_X10_brokenAt : List (ab_C × List ab_Q) := [(([.inl 76], [], [], [(some ((-2147483648), 2147483647, none), [], [])]), [(2, [some (.inl 76), some (.inr (.inl (0, 6, none, none))), none, none], [((1, 7, 6), 0, 6, some (8006, 0)), ((1, 14, 6), 0, 6, some (15006, 0)), ((1, 76, 0), 0, 6, some (77000, 0)), ((1, 76, 9), 0, 6, some (77009, 0))], 111, [0, (-16), 0, 0]), (14, [some (.inl 76), some (.inr (.inl (0, 5, none, none))), some (.inr (.inl (0, 1, none, none))), some (.inr (.inl (0, 6, none, none)))], [((1, 7, 6), 0, 6, some (8006, 0)), ((1, 14, 6), 0, 6, some (15006, 0)), ((1, 76, 0), 1, 6, some (77000, 0)), ((1, 76, 9), 0, 6, some (77009, 0))], 109, [0, (-16), 0, (-2)])])]
def bc_X10_brokenAt : List ab_C := bq_X10_brokenAt.map (fun c => c.1)
def bx_X10_brokenAt : ex_K := (RX10, ec_fx fl_X10, ec_cx cl_X10, sl_X10, (fun ix => (ec_no ix).map (fun (q : Nat × Option Nat × List ab_C) => (q.1, q.2.1, ab_sp ab_hd q.2.2))), ec_nz, ec_no)
def bi_X10_brokenAt : List (Nat × Instr × Nat) := [(0, .iconst 0, 1), (1, .istore_n 1, 1), (2, .iload_n 1, 1), (3, .aload_n 0, 1), (4, .getfield 148, 3), (7, .if_icmp .ge 98, 3), (10, .iconst 0, 1), (11, .istore_n 2, 1), (12, .iconst 0, 1), (13, .istore_n 3, 1), (14, .iload_n 3, 1), (15, .aload_n 0, 1), (16, .getfield 154, 3), (19, .if_icmp .ge 27, 3), (22, .iload_n 2, 1), (23, .aload_n 0, 1), (24, .getfield 31, 3), (27, .iload_n 3, 1), (28, .iaload, 1), (29, .iload_n 1, 1), (30, .if_icmp .ne 7, 3), (33, .iconst 1, 1), (34, .goto 4, 3), (37, .iconst 0, 1), (38, .ior, 1), (39, .istore_n 2, 1), (40, .iinc 3 1, 3), (43, .goto (-29), 3), (46, .iload_n 2, 1), (47, .ifCond .eq 52, 3), (50, .aload_n 0, 1), (51, .getfield 7, 3), (54, .iconst 4, 1), (55, .iload_n 1, 1), (56, .imul, 1), (57, .iconst 0, 1), (58, .iadd, 1), (59, .iaload, 1), (60, .aload_n 0, 1), (61, .getfield 89, 3), (64, .if_icmp .lt 33, 3), (67, .aload_n 0, 1), (68, .getfield 7, 3), (71, .iconst 4, 1), (72, .iload_n 1, 1), (73, .imul, 1), (74, .iconst 1, 1), (75, .iadd, 1), (76, .iaload, 1), (77, .aload_n 0, 1), (78, .getfield 92, 3), (81, .if_icmp .gt 16, 3), (84, .aload_n 0, 1), (85, .getfield 13, 3), (88, .iload_n 1, 1), (89, .iaload, 1), (90, .aload_n 0, 1), (91, .getfield 95, 3), (94, .if_icmp .le 5, 3), (97, .iload_n 1, 1), (98, .ireturn, 1), (99, .iinc 1 1, 3), (102, .goto (-100), 3), (105, .iconst (-1), 1), (106, .ireturn, 1)]
def bq_X10_tick : List (ab_C × List ab_Q) := [(([.inl 76], [], [(77, none), (78, none), (82, none), (83, some 0), (83, some 1), (83, some 2), (83, some 3), (83, some 4), (83, some 5), (84, none), (85, none), (86, none), (87, none), (88, none), (89, none), (96, none), (97, none), (98, none), (99, none), (100, none), (101, some 0), (101, some 1), (101, some 2), (101, some 3), (101, some 4), (101, some 5), (101, some 6), (101, some 7), (101, some 8), (101, some 9), (101, some 10)], [(some (0, 1, none), [], [])]), [(14, [some (.inl 76), some (.inr (.inl (0, 10, none, none)))], [((1, 7, 6), 0, 6, some (8006, 0)), ((1, 14, 6), 0, 6, some (15006, 0)), ((1, 76, 0), 0, 6, some (77000, 0)), ((1, 76, 9), 0, 6, some (77009, 0))], 35, [0, (-2)]), (45, [some (.inl 76), some (.inr (.inl (0, 6, none, none)))], [((1, 7, 6), 0, 6, some (8006, 0)), ((1, 14, 6), 0, 6, some (15006, 0)), ((1, 76, 0), 0, 6, some (77000, 0)), ((1, 76, 9), 0, 6, some (77009, 0))], 13, [0, (-2)])])]
def bc_X10_tick : List ab_C := bq_X10_tick.map (fun c => c.1)
def be_X10_tick : Nat → Option (Nat × Option Nat × List ab_C) := fun ix => match ix with
  | 237 => some (1, some 10, bc_X10_runText)
  | 240 => some (1, some 10, bc_X10_mendAll)
  | 243 => some (1, some 10, bc_X10_feedAll)
  | 246 => some (2, some 10, bc_X10_workOf)
  | 249 => some (2, some 10, bc_X10_breathe)
  | 252 => some (1, some 10, bc_X10_leakAll)
  | 255 => some (1, some 10, bc_X10_mixAll)
  | 258 => some (1, some 10, bc_X10_brokenAt)
  | _ => none
def bx_X10_tick : ex_K := (RX10, ec_fx fl_X10, ec_cx cl_X10, sl_X10, (fun ix => (be_X10_tick ix).map (fun q => (q.1, q.2.1, ab_sp ab_hd q.2.2))), ec_nz, ec_no)
def bi_X10_tick : List (Nat × Instr × Nat) := [(0, .aload_n 0, 1), (1, .invokevirtual 237, 3), (4, .aload_n 0, 1), (5, .invokevirtual 240, 3), (8, .aload_n 0, 1), (9, .invokevirtual 243, 3), (12, .iconst 0, 1), (13, .istore_n 1, 1), (14, .iload_n 1, 1), (15, .aload_n 0, 1), (16, .getfield 157, 3), (19, .if_icmp .ge 24, 3), (22, .aload_n 0, 1), (23, .getfield 76, 3), (26, .iload_n 1, 1), (27, .iaload, 1), (28, .iconst 1, 1), (29, .if_icmp .ne 8, 3), (32, .aload_n 0, 1), (33, .iload_n 1, 1), (34, .invokevirtual 246, 3), (37, .iinc 1 1, 3), (40, .goto (-26), 3), (43, .iconst 0, 1), (44, .istore_n 1, 1), (45, .iload_n 1, 1), (46, .aload_n 0, 1), (47, .getfield 154, 3), (50, .if_icmp .ge 14, 3), (53, .aload_n 0, 1), (54, .iload_n 1, 1), (55, .invokevirtual 249, 3), (58, .iinc 1 1, 3), (61, .goto (-16), 3), (64, .aload_n 0, 1), (65, .invokevirtual 252, 3), (68, .aload_n 0, 1), (69, .invokevirtual 255, 3), (72, .aload_n 0, 1), (73, .invokevirtual 258, 3), (76, .istore_n 1, 1), (77, .iload_n 1, 1), (78, .ifCond .lt 31, 3), (81, .aload_n 0, 1), (82, .getfield 82, 3), (85, .iconst 2, 1), (86, .iaload, 1), (87, .ifCond .ge 22, 3), (90, .aload_n 0, 1), (91, .getfield 82, 3), (94, .iconst 2, 1), (95, .aload_n 0, 1), (96, .getfield 82, 3), (99, .iconst 0, 1), (100, .iaload, 1), (101, .iastore, 1), (102, .aload_n 0, 1), (103, .getfield 82, 3), (106, .iconst 3, 1), (107, .iload_n 1, 1), (108, .iastore, 1), (109, .aload_n 0, 1), (110, .getfield 82, 3), (113, .iconst 0, 1), (114, .dup2, 1), (115, .iaload, 1), (116, .iconst 1, 1), (117, .iadd, 1), (118, .iastore, 1), (119, .iload_n 1, 1), (120, .ifCond .lt 7, 3), (123, .iconst 1, 1), (124, .goto 4, 3), (127, .iconst 0, 1), (128, .ireturn, 1)]
def bq_X10_sun : List (ab_C × List ab_Q) := [(([.inl 76, .inr ((-2147483648), 2147483647), .inr ((-2147483648), 2147483647)], [], [(76, some 29), (76, some 30), (101, some 1), (114, some 1)], [(some ((-2147483648), 2147483647, none), [], [])]), [])]
def bc_X10_sun : List ab_C := bq_X10_sun.map (fun c => c.1)
def be_X10_sun : Nat → Option (Nat × Option Nat × List ab_C) := fun ix => match ix with
  | 171 => some (3, none, bc_X10_isIn)
  | 160 => some (2, some 10, bc_X10_finding)
  | 231 => some (2, none, bc_X10_lesser)
  | _ => none
def bx_X10_sun : ex_K := (RX10, ec_fx fl_X10, ec_cx cl_X10, sl_X10, (fun ix => (be_X10_sun ix).map (fun q => (q.1, q.2.1, ab_sp ab_hd q.2.2))), ec_nz, ec_no)
def bi_X10_sun : List (Nat × Instr × Nat) := [(0, .iload_n 1, 1), (1, .iconst 0, 1), (2, .sipush 500, 3), (5, .invokestatic 171, 3), (8, .ifCond .eq 14, 3), (11, .iload_n 2, 1), (12, .iconst 0, 1), (13, .sipush 5000, 3), (16, .invokestatic 171, 3), (19, .ifCond .ne 9, 3), (22, .aload_n 0, 1), (23, .iconst 1, 1), (24, .invokevirtual 160, 3), (27, .ireturn, 1), (28, .aload_n 0, 1), (29, .iload_n 1, 1), (30, .putfield 228, 3), (33, .aload_n 0, 1), (34, .iload_n 2, 1), (35, .putfield 85, 3), (38, .aload_n 0, 1), (39, .getfield 82, 3), (42, .iconst 1, 1), (43, .aload_n 0, 1), (44, .getfield 82, 3), (47, .iconst 1, 1), (48, .iaload, 1), (49, .aload_n 0, 1), (50, .getfield 85, 3), (53, .invokestatic 231, 3), (56, .iastore, 1), (57, .aload_n 0, 1), (58, .getfield 82, 3), (61, .iconst 1, 1), (62, .iaload, 1), (63, .ireturn, 1)]
def bq_X10_battery : List (ab_C × List ab_Q) := [(([.inl 76, .inr ((-2147483648), 2147483647)], [], [(101, some 1), (114, some 1)], [(some ((-2147483648), 2147483647, none), [], [])]), [])]
def bc_X10_battery : List ab_C := bq_X10_battery.map (fun c => c.1)
def be_X10_battery : Nat → Option (Nat × Option Nat × List ab_C) := fun ix => match ix with
  | 171 => some (3, none, bc_X10_isIn)
  | 160 => some (2, some 10, bc_X10_finding)
  | _ => none
def bx_X10_battery : ex_K := (RX10, ec_fx fl_X10, ec_cx cl_X10, sl_X10, (fun ix => (be_X10_battery ix).map (fun q => (q.1, q.2.1, ab_sp ab_hd q.2.2))), ec_nz, ec_no)
def bi_X10_battery : List (Nat × Instr × Nat) := [(0, .iload_n 1, 1), (1, .iconst (-1), 1), (2, .aload_n 0, 1), (3, .getfield 85, 3), (6, .invokestatic 171, 3), (9, .ifCond .ne 9, 3), (12, .aload_n 0, 1), (13, .iconst 1, 1), (14, .invokevirtual 160, 3), (17, .ireturn, 1), (18, .aload_n 0, 1), (19, .getfield 82, 3), (22, .iconst 1, 1), (23, .iaload, 1), (24, .istore_n 2, 1), (25, .aload_n 0, 1), (26, .getfield 82, 3), (29, .iconst 1, 1), (30, .iload_n 1, 1), (31, .ifCond .ge 7, 3), (34, .iload_n 2, 1), (35, .goto 4, 3), (38, .iload_n 1, 1), (39, .iastore, 1), (40, .iload_n 2, 1), (41, .ireturn, 1)]
def bq_X10_bounds : List (ab_C × List ab_Q) := [(([.inl 76, .inr ((-2147483648), 2147483647), .inr ((-2147483648), 2147483647), .inr ((-2147483648), 2147483647)], [], [(76, some 31), (76, some 32), (76, some 33), (114, some 1)], [(some ((-2147483648), 2147483647, none), [], [])]), [])]
def bc_X10_bounds : List ab_C := bq_X10_bounds.map (fun c => c.1)
def be_X10_bounds : Nat → Option (Nat × Option Nat × List ab_C) := fun ix => match ix with
  | 171 => some (3, none, bc_X10_isIn)
  | 160 => some (2, some 10, bc_X10_finding)
  | _ => none
def bx_X10_bounds : ex_K := (RX10, ec_fx fl_X10, ec_cx cl_X10, sl_X10, (fun ix => (be_X10_bounds ix).map (fun q => (q.1, q.2.1, ab_sp ab_hd q.2.2))), ec_nz, ec_no)
def bi_X10_bounds : List (Nat × Instr × Nat) := [(0, .iload_n 1, 1), (1, .iconst 0, 1), (2, .ldc 175, 2), (4, .invokestatic 171, 3), (7, .ifCond .eq 23, 3), (10, .iload_n 2, 1), (11, .iconst 0, 1), (12, .ldc 175, 2), (14, .invokestatic 171, 3), (17, .ifCond .eq 13, 3), (20, .iload_n 3, 1), (21, .iconst 0, 1), (22, .ldc 175, 2), (24, .invokestatic 171, 3), (27, .ifCond .ne 9, 3), (30, .aload_n 0, 1), (31, .iconst 1, 1), (32, .invokevirtual 160, 3), (35, .ireturn, 1), (36, .aload_n 0, 1), (37, .iload_n 1, 1), (38, .putfield 89, 3), (41, .aload_n 0, 1), (42, .iload_n 2, 1), (43, .putfield 92, 3), (46, .aload_n 0, 1), (47, .iload_n 3, 1), (48, .putfield 95, 3), (51, .iconst 1, 1), (52, .ireturn, 1)]
def bq_X10_ticks : List (ab_C × List ab_Q) := [(([.inl 76, .inr ((-2147483648), 2147483647)], [], [(77, none), (78, none), (82, none), (83, some 0), (83, some 1), (83, some 2), (83, some 3), (83, some 4), (83, some 5), (84, none), (85, none), (86, none), (87, none), (88, none), (89, none), (96, none), (97, none), (98, none), (99, none), (100, none), (101, some 0), (101, some 1), (101, some 2), (101, some 3), (101, some 4), (101, some 5), (101, some 6), (101, some 7), (101, some 8), (101, some 9), (101, some 10), (114, some 1), (114, some 4)], [(some ((-2147483648), 2147483647, none), [], [])]), [(38, [some (.inl 76), some (.inr (.inl (1, 100, none, none))), some (.inr (.inl (0, 100, none, none))), none], [((1, 7, 6), 0, 6, some (8006, 0)), ((1, 14, 6), 0, 6, some (15006, 0)), ((1, 76, 0), 0, 6, some (77000, 0)), ((1, 76, 9), 0, 6, some (77009, 0))], 201, [0, 0, (-2), 0])])]
def bc_X10_ticks : List ab_C := bq_X10_ticks.map (fun c => c.1)
def be_X10_ticks : Nat → Option (Nat × Option Nat × List ab_C) := fun ix => match ix with
  | 171 => some (3, none, bc_X10_isIn)
  | 160 => some (2, some 10, bc_X10_finding)
  | 262 => some (1, some 10, bc_X10_tick)
  | _ => none
def bx_X10_ticks : ex_K := (RX10, ec_fx fl_X10, ec_cx cl_X10, sl_X10, (fun ix => (be_X10_ticks ix).map (fun q => (q.1, q.2.1, ab_sp ab_hd q.2.2))), ec_nz, ec_no)
def bi_X10_ticks : List (Nat × Instr × Nat) := [(0, .iload_n 1, 1), (1, .iconst 1, 1), (2, .bipush 100, 2), (4, .invokestatic 171, 3), (7, .ifCond .ne 9, 3), (10, .aload_n 0, 1), (11, .iconst 1, 1), (12, .invokevirtual 160, 3), (15, .ireturn, 1), (16, .aload_n 0, 1), (17, .getfield 82, 3), (20, .iconst 0, 1), (21, .iaload, 1), (22, .iload_n 1, 1), (23, .iadd, 1), (24, .sipush 3000, 3), (27, .if_icmp .le 9, 3), (30, .aload_n 0, 1), (31, .iconst 4, 1), (32, .invokevirtual 160, 3), (35, .ireturn, 1), (36, .iconst 0, 1), (37, .istore_n 2, 1), (38, .iload_n 2, 1), (39, .iload_n 1, 1), (40, .if_icmp .ge 14, 3), (43, .aload_n 0, 1), (44, .invokevirtual 262, 3), (47, .istore_n 3, 1), (48, .iinc 2 1, 3), (51, .goto (-13), 3), (54, .aload_n 0, 1), (55, .getfield 82, 3), (58, .iconst 0, 1), (59, .iaload, 1), (60, .ireturn, 1)]
def bq_X10_broke : List (ab_C × List ab_Q) := [(([.inl 76, .inr ((-2147483648), 2147483647)], [], [(114, some 1), (114, some 2)], [(some ((-2147483648), 2147483647, none), [], [])]), [])]
def bc_X10_broke : List ab_C := bq_X10_broke.map (fun c => c.1)
def be_X10_broke : Nat → Option (Nat × Option Nat × List ab_C) := fun ix => match ix with
  | 171 => some (3, none, bc_X10_isIn)
  | 160 => some (2, some 10, bc_X10_finding)
  | _ => none
def bx_X10_broke : ex_K := (RX10, ec_fx fl_X10, ec_cx cl_X10, sl_X10, (fun ix => (be_X10_broke ix).map (fun q => (q.1, q.2.1, ab_sp ab_hd q.2.2))), ec_nz, ec_no)
def bi_X10_broke : List (Nat × Instr × Nat) := [(0, .iload_n 1, 1), (1, .iconst 0, 1), (2, .iconst 1, 1), (3, .invokestatic 171, 3), (6, .ifCond .ne 9, 3), (9, .aload_n 0, 1), (10, .iconst 1, 1), (11, .invokevirtual 160, 3), (14, .ireturn, 1), (15, .aload_n 0, 1), (16, .getfield 82, 3), (19, .iconst 2, 1), (20, .iaload, 1), (21, .ifCond .ge 11, 3), (24, .aload_n 0, 1), (25, .iconst 2, 1), (26, .invokevirtual 160, 3), (29, .goto 11, 3), (32, .aload_n 0, 1), (33, .getfield 82, 3), (36, .iconst 2, 1), (37, .iload_n 1, 1), (38, .iadd, 1), (39, .iaload, 1), (40, .ireturn, 1)]
def bq_X10_lays : List (ab_C × List ab_Q) := [(([.inl 76, .inl 77, .inr (1, 1)], [((1, 76, 56), 0, 0, none)], [(76, some 56), (115, none)], [(none, [], [((1, 76, 56), 24, 24, none)])]), []),
  (([.inl 76, .inl 78, .inr (1, 1)], [((1, 76, 56), 24, 24, none)], [(76, some 56), (115, none)], [(none, [], [((1, 76, 56), 30, 30, none)])]), []),
  (([.inl 76, .inl 82, .inr (1, 1)], [((1, 76, 56), 30, 30, none)], [(76, some 56), (115, none)], [(none, [], [((1, 76, 56), 38, 38, none)])]), []),
  (([.inl 76, .inl 83, .inr (1, 1)], [((1, 76, 56), 38, 38, none)], [(76, some 56), (115, none)], [(none, [], [((1, 76, 56), 44, 44, none)])]), []),
  (([.inl 76, .inl 84, .inr (1, 1)], [((1, 76, 56), 44, 44, none)], [(76, some 56), (115, none)], [(none, [], [((1, 76, 56), 50, 50, none)])]), []),
  (([.inl 76, .inl 85, .inr (1, 1)], [((1, 76, 56), 50, 50, none)], [(76, some 56), (115, none)], [(none, [], [((1, 76, 56), 56, 56, none)])]), []),
  (([.inl 76, .inl 86, .inr (1, 1)], [((1, 76, 56), 56, 56, none)], [(76, some 56), (115, none)], [(none, [], [((1, 76, 56), 62, 62, none)])]), []),
  (([.inl 76, .inl 87, .inr (1, 1)], [((1, 76, 56), 62, 62, none)], [(76, some 56), (115, none)], [(none, [], [((1, 76, 56), 68, 68, none)])]), []),
  (([.inl 76, .inl 88, .inr (1, 1)], [((1, 76, 56), 68, 68, none)], [(76, some 56), (115, none)], [(none, [], [((1, 76, 56), 74, 74, none)])]), []),
  (([.inl 76, .inl 89, .inr (1, 1)], [((1, 76, 56), 74, 74, none)], [(76, some 56), (115, none)], [(none, [], [((1, 76, 56), 80, 80, none)])]), []),
  (([.inl 76, .inl 96, .inr (1, 1)], [((1, 76, 56), 80, 80, none)], [(76, some 56), (115, none)], [(none, [], [((1, 76, 56), 90, 90, none)])]), []),
  (([.inl 76, .inl 97, .inr (1, 1)], [((1, 76, 56), 90, 90, none)], [(76, some 56), (115, none)], [(none, [], [((1, 76, 56), 100, 100, none)])]), []),
  (([.inl 76, .inl 98, .inr (1, 1)], [((1, 76, 56), 100, 100, none)], [(76, some 56), (115, none)], [(none, [], [((1, 76, 56), 110, 110, none)])]), []),
  (([.inl 76, .inl 99, .inr (1, 1)], [((1, 76, 56), 110, 110, none)], [(76, some 56), (115, none)], [(none, [], [((1, 76, 56), 120, 120, none)])]), []),
  (([.inl 76, .inl 100, .inr (1, 1)], [((1, 76, 56), 120, 120, none)], [(76, some 56), (115, none)], [(none, [], [((1, 76, 56), 126, 126, none)])]), []),
  (([.inl 76, .inl 101, .inr (1, 1)], [((1, 76, 56), 126, 126, none)], [(76, some 56), (115, none)], [(none, [], [((1, 76, 56), 137, 137, none)])]), []),
  (([.inl 76, .inl 77, .inr (0, 0)], [((1, 76, 56), 0, 0, none)], [(76, some 56), (77, none)], [(none, [], [((1, 76, 56), 24, 24, none)])]), []),
  (([.inl 76, .inl 78, .inr (0, 0)], [((1, 76, 56), 24, 24, none)], [(76, some 56), (78, none)], [(none, [], [((1, 76, 56), 30, 30, none)])]), []),
  (([.inl 76, .inl 82, .inr (0, 0)], [((1, 76, 56), 30, 30, none)], [(76, some 56), (82, none)], [(none, [], [((1, 76, 56), 38, 38, none)])]), []),
  (([.inl 76, .inl 83, .inr (0, 0)], [((1, 76, 56), 38, 38, none)], [(76, some 56), (83, none)], [(none, [], [((1, 76, 56), 44, 44, none)])]), []),
  (([.inl 76, .inl 84, .inr (0, 0)], [((1, 76, 56), 44, 44, none)], [(76, some 56), (84, none)], [(none, [], [((1, 76, 56), 50, 50, none)])]), []),
  (([.inl 76, .inl 85, .inr (0, 0)], [((1, 76, 56), 50, 50, none)], [(76, some 56), (85, none)], [(none, [], [((1, 76, 56), 56, 56, none)])]), []),
  (([.inl 76, .inl 86, .inr (0, 0)], [((1, 76, 56), 56, 56, none)], [(76, some 56), (86, none)], [(none, [], [((1, 76, 56), 62, 62, none)])]), []),
  (([.inl 76, .inl 87, .inr (0, 0)], [((1, 76, 56), 62, 62, none)], [(76, some 56), (87, none)], [(none, [], [((1, 76, 56), 68, 68, none)])]), []),
  (([.inl 76, .inl 88, .inr (0, 0)], [((1, 76, 56), 68, 68, none)], [(76, some 56), (88, none)], [(none, [], [((1, 76, 56), 74, 74, none)])]), []),
  (([.inl 76, .inl 89, .inr (0, 0)], [((1, 76, 56), 74, 74, none)], [(76, some 56), (89, none)], [(none, [], [((1, 76, 56), 80, 80, none)])]), []),
  (([.inl 76, .inl 96, .inr (0, 0)], [((1, 76, 56), 80, 80, none)], [(76, some 56), (96, none)], [(none, [], [((1, 76, 56), 90, 90, none)])]), []),
  (([.inl 76, .inl 97, .inr (0, 0)], [((1, 76, 56), 90, 90, none)], [(76, some 56), (97, none)], [(none, [], [((1, 76, 56), 100, 100, none)])]), []),
  (([.inl 76, .inl 98, .inr (0, 0)], [((1, 76, 56), 100, 100, none)], [(76, some 56), (98, none)], [(none, [], [((1, 76, 56), 110, 110, none)])]), []),
  (([.inl 76, .inl 99, .inr (0, 0)], [((1, 76, 56), 110, 110, none)], [(76, some 56), (99, none)], [(none, [], [((1, 76, 56), 120, 120, none)])]), []),
  (([.inl 76, .inl 100, .inr (0, 0)], [((1, 76, 56), 120, 120, none)], [(76, some 56), (100, none)], [(none, [], [((1, 76, 56), 126, 126, none)])]), []),
  (([.inl 76, .inl 101, .inr (0, 0)], [((1, 76, 56), 126, 126, none)], [(76, some 56), (101, none)], [(none, [], [((1, 76, 56), 137, 137, none)])]), [])]
def bc_X10_lays : List ab_C := bq_X10_lays.map (fun c => c.1)
def bx_X10_lays : ex_K := (RX10, ec_fx fl_X10, ec_cx cl_X10, sl_X10, (fun ix => (ec_no ix).map (fun (q : Nat × Option Nat × List ab_C) => (q.1, q.2.1, ab_sp ab_hd q.2.2))), ec_nz, ec_no)
def bi_X10_lays : List (Nat × Instr × Nat) := [(0, .iconst 0, 1), (1, .istore_n 3, 1), (2, .iload_n 3, 1), (3, .aload_n 1, 1), (4, .arraylength, 1), (5, .if_icmp .ge 50, 3), (8, .iload_n 2, 1), (9, .ifCond .eq 18, 3), (12, .aload_n 0, 1), (13, .getfield 144, 3), (16, .aload_n 0, 1), (17, .getfield 266, 3), (20, .aload_n 1, 1), (21, .iload_n 3, 1), (22, .iaload, 1), (23, .iastore, 1), (24, .goto 15, 3), (27, .aload_n 1, 1), (28, .iload_n 3, 1), (29, .aload_n 0, 1), (30, .getfield 144, 3), (33, .aload_n 0, 1), (34, .getfield 266, 3), (37, .iaload, 1), (38, .iastore, 1), (39, .aload_n 0, 1), (40, .dup, 1), (41, .getfield 266, 3), (44, .iconst 1, 1), (45, .iadd, 1), (46, .putfield 266, 3), (49, .iinc 3 1, 3), (52, .goto (-50), 3), (55, .return_, 1)]
def bq_X10_layAside : List (ab_C × List ab_Q) := [(([.inl 76, .inr (1, 1)], [], [(76, some 56), (115, none)], [(none, [], [])]), []),
  (([.inl 76, .inr (0, 0)], [], [(76, some 56), (77, none), (78, none), (82, none), (83, none), (84, none), (85, none), (86, none), (87, none), (88, none), (89, none), (96, none), (97, none), (98, none), (99, none), (100, none), (101, none)], [(none, [], [])]), [])]
def bc_X10_layAside : List ab_C := bq_X10_layAside.map (fun c => c.1)
def be_X10_layAside : Nat → Option (Nat × Option Nat × List ab_C) := fun ix => match ix with
  | 269 => some (3, some 10, bc_X10_lays)
  | _ => none
def bx_X10_layAside : ex_K := (RX10, ec_fx fl_X10, ec_cx cl_X10, sl_X10, (fun ix => (be_X10_layAside ix).map (fun q => (q.1, q.2.1, ab_sp ab_hd q.2.2))), ec_nz, ec_no)
def bi_X10_layAside : List (Nat × Instr × Nat) := [(0, .aload_n 0, 1), (1, .iconst 0, 1), (2, .putfield 266, 3), (5, .aload_n 0, 1), (6, .aload_n 0, 1), (7, .getfield 7, 3), (10, .iload_n 1, 1), (11, .invokevirtual 269, 3), (14, .aload_n 0, 1), (15, .aload_n 0, 1), (16, .getfield 13, 3), (19, .iload_n 1, 1), (20, .invokevirtual 269, 3), (23, .aload_n 0, 1), (24, .aload_n 0, 1), (25, .getfield 25, 3), (28, .iload_n 1, 1), (29, .invokevirtual 269, 3), (32, .aload_n 0, 1), (33, .aload_n 0, 1), (34, .getfield 28, 3), (37, .iload_n 1, 1), (38, .invokevirtual 269, 3), (41, .aload_n 0, 1), (42, .aload_n 0, 1), (43, .getfield 31, 3), (46, .iload_n 1, 1), (47, .invokevirtual 269, 3), (50, .aload_n 0, 1), (51, .aload_n 0, 1), (52, .getfield 34, 3), (55, .iload_n 1, 1), (56, .invokevirtual 269, 3), (59, .aload_n 0, 1), (60, .aload_n 0, 1), (61, .getfield 37, 3), (64, .iload_n 1, 1), (65, .invokevirtual 269, 3), (68, .aload_n 0, 1), (69, .aload_n 0, 1), (70, .getfield 40, 3), (73, .iload_n 1, 1), (74, .invokevirtual 269, 3), (77, .aload_n 0, 1), (78, .aload_n 0, 1), (79, .getfield 43, 3), (82, .iload_n 1, 1), (83, .invokevirtual 269, 3), (86, .aload_n 0, 1), (87, .aload_n 0, 1), (88, .getfield 46, 3), (91, .iload_n 1, 1), (92, .invokevirtual 269, 3), (95, .aload_n 0, 1), (96, .aload_n 0, 1), (97, .getfield 67, 3), (100, .iload_n 1, 1), (101, .invokevirtual 269, 3), (104, .aload_n 0, 1), (105, .aload_n 0, 1), (106, .getfield 70, 3), (109, .iload_n 1, 1), (110, .invokevirtual 269, 3), (113, .aload_n 0, 1), (114, .aload_n 0, 1), (115, .getfield 73, 3), (118, .iload_n 1, 1), (119, .invokevirtual 269, 3), (122, .aload_n 0, 1), (123, .aload_n 0, 1), (124, .getfield 76, 3), (127, .iload_n 1, 1), (128, .invokevirtual 269, 3), (131, .aload_n 0, 1), (132, .aload_n 0, 1), (133, .getfield 79, 3), (136, .iload_n 1, 1), (137, .invokevirtual 269, 3), (140, .aload_n 0, 1), (141, .aload_n 0, 1), (142, .getfield 82, 3), (145, .iload_n 1, 1), (146, .invokevirtual 269, 3), (149, .return_, 1)]
def bq_X10_ahead : List (ab_C × List ab_Q) := [(([.inl 76, .inr ((-2147483648), 2147483647)], [], [(76, some 56), (77, none), (78, none), (82, none), (83, none), (84, none), (85, none), (86, none), (87, none), (88, none), (89, none), (96, none), (97, none), (98, none), (99, none), (100, none), (101, none), (114, some 1), (115, none)], [(some ((-2147483648), 2147483647, none), [], [])]), [(26, [some (.inl 76), some (.inr (.inl (1, 200, none, none))), some (.inr (.inl (0, 200, none, none))), some (.inr (.inl (1, 201, none, none)))], [((1, 7, 6), 0, 6, some (8006, 0)), ((1, 14, 6), 0, 6, some (15006, 0)), ((1, 76, 0), 0, 6, some (77000, 0)), ((1, 76, 9), 0, 6, some (77009, 0))], 403, [0, 0, 0, (-2)])])]
def bc_X10_ahead : List ab_C := bq_X10_ahead.map (fun c => c.1)
def be_X10_ahead : Nat → Option (Nat × Option Nat × List ab_C) := fun ix => match ix with
  | 171 => some (3, none, bc_X10_isIn)
  | 160 => some (2, some 10, bc_X10_finding)
  | 273 => some (2, some 10, bc_X10_layAside)
  | 262 => some (1, some 10, bc_X10_tick)
  | _ => none
def bx_X10_ahead : ex_K := (RX10, ec_fx fl_X10, ec_cx cl_X10, sl_X10, (fun ix => (be_X10_ahead ix).map (fun q => (q.1, q.2.1, ab_sp ab_hd q.2.2))), ec_nz, ec_no)
def bi_X10_ahead : List (Nat × Instr × Nat) := [(0, .iload_n 1, 1), (1, .iconst 1, 1), (2, .sipush 200, 3), (5, .invokestatic 171, 3), (8, .ifCond .ne 9, 3), (11, .aload_n 0, 1), (12, .iconst 1, 1), (13, .invokevirtual 160, 3), (16, .ireturn, 1), (17, .aload_n 0, 1), (18, .iconst 1, 1), (19, .invokevirtual 273, 3), (22, .iconst 0, 1), (23, .istore_n 2, 1), (24, .iconst 1, 1), (25, .istore_n 3, 1), (26, .iload_n 3, 1), (27, .iload_n 1, 1), (28, .if_icmp .gt 26, 3), (31, .iload_n 2, 1), (32, .ifCond .ne 22, 3), (35, .aload_n 0, 1), (36, .invokevirtual 262, 3), (39, .ifCond .eq 7, 3), (42, .iload_n 3, 1), (43, .goto 4, 3), (46, .iconst 0, 1), (47, .istore_n 2, 1), (48, .iinc 3 1, 3), (51, .goto (-25), 3), (54, .aload_n 0, 1), (55, .iconst 0, 1), (56, .invokevirtual 273, 3), (59, .iload_n 2, 1), (60, .ireturn, 1)]
def bq_X10_partOf : List (ab_C × List ab_Q) := [(([.inl 76, .inr (0, 5), .inr ((-1), 2147483647)], [], [], [(some ((-2147483648), 2147483647, none), [], [])]), [])]
def bc_X10_partOf : List ab_C := bq_X10_partOf.map (fun c => c.1)
def bx_X10_partOf : ex_K := (RX10, ec_fx fl_X10, ec_cx cl_X10, sl_X10, (fun ix => (ec_no ix).map (fun (q : Nat × Option Nat × List ab_C) => (q.1, q.2.1, ab_sp ab_hd q.2.2))), ec_nz, ec_no)
def bq_X10_ones : List (ab_C × List ab_Q) := [(([.inr ((-2147483648), 2147483647)], [], [], [(some ((-2147483648), 2147483647, none), [], [])]), [(4, [some (.inr (.inl ((-2147483648), 2147483647, none, none))), some (.inr (.inl ((-2147483648), 2147483647, none, none))), some (.inr (.inl (0, 8, none, none)))], [((1, 7, 6), 0, 6, some (8006, 0)), ((1, 14, 6), 0, 6, some (15006, 0)), ((1, 76, 0), 0, 6, some (77000, 0)), ((1, 76, 9), 0, 6, some (77009, 0))], 17, [0, 0, (-2)])])]
def bc_X10_ones : List ab_C := bq_X10_ones.map (fun c => c.1)
def bx_X10_ones : ex_K := (RX10, ec_fx fl_X10, ec_cx cl_X10, sl_X10, (fun ix => (ec_no ix).map (fun (q : Nat × Option Nat × List ab_C) => (q.1, q.2.1, ab_sp ab_hd q.2.2))), ec_nz, ec_no)
def bi_X10_ones : List (Nat × Instr × Nat) := [(0, .iconst 0, 1), (1, .istore_n 1, 1), (2, .iconst 0, 1), (3, .istore_n 2, 1), (4, .iload_n 2, 1), (5, .bipush 8, 2), (7, .if_icmp .ge 17, 3), (10, .iload_n 1, 1), (11, .iload_n 0, 1), (12, .iload_n 2, 1), (13, .ishr, 1), (14, .iconst 1, 1), (15, .iand, 1), (16, .iadd, 1), (17, .istore_n 1, 1), (18, .iinc 2 1, 3), (21, .goto (-17), 3), (24, .iload_n 1, 1), (25, .ireturn, 1)]
def bq_X10_hunt : List (ab_C × List ab_Q) := [(([.inl 76], [], [(76, some 39)], [(some ((-2147483648), 2147483647, none), [], [])]), [])]
def bc_X10_hunt : List ab_C := bq_X10_hunt.map (fun c => c.1)
def bx_X10_hunt : ex_K := (RX10, ec_fx fl_X10, ec_cx cl_X10, sl_X10, (fun ix => (ec_no ix).map (fun (q : Nat × Option Nat × List ab_C) => (q.1, q.2.1, ab_sp ab_hd q.2.2))), ec_nz, ec_no)
def bi_X10_hunt : List (Nat × Instr × Nat) := [(0, .aload_n 0, 1), (1, .iconst 1, 1), (2, .aload_n 0, 1), (3, .getfield 148, 3), (6, .ishl, 1), (7, .iconst 1, 1), (8, .isub, 1), (9, .putfield 277, 3), (12, .aload_n 0, 1), (13, .getfield 148, 3), (16, .ireturn, 1)]
def bq_X10_test : List (ab_C × List ab_Q) := [(([.inl 76, .inr ((-2147483648), 2147483647), .inr ((-2147483648), 2147483647)], [], [(76, some 39), (114, some 1), (114, some 2)], [(some ((-2147483648), 2147483647, none), [], [])]), [])]
def bc_X10_test : List ab_C := bq_X10_test.map (fun c => c.1)
def be_X10_test : Nat → Option (Nat × Option Nat × List ab_C) := fun ix => match ix with
  | 164 => some (2, some 10, bc_X10_isModule)
  | 171 => some (3, none, bc_X10_isIn)
  | 160 => some (2, some 10, bc_X10_finding)
  | 280 => some (3, some 10, bc_X10_partOf)
  | _ => none
def bx_X10_test : ex_K := (RX10, ec_fx fl_X10, ec_cx cl_X10, sl_X10, (fun ix => (be_X10_test ix).map (fun q => (q.1, q.2.1, ab_sp ab_hd q.2.2))), ec_nz, ec_no)
def bi_X10_test : List (Nat × Instr × Nat) := [(0, .aload_n 0, 1), (1, .iload_n 2, 1), (2, .invokevirtual 164, 3), (5, .ifCond .eq 19, 3), (8, .iload_n 1, 1), (9, .iconst 0, 1), (10, .iconst 1, 1), (11, .aload_n 0, 1), (12, .getfield 151, 3), (15, .ishl, 1), (16, .iconst 1, 1), (17, .isub, 1), (18, .invokestatic 171, 3), (21, .ifCond .ne 9, 3), (24, .aload_n 0, 1), (25, .iconst 1, 1), (26, .invokevirtual 160, 3), (29, .ireturn, 1), (30, .aload_n 0, 1), (31, .getfield 277, 3), (34, .aload_n 0, 1), (35, .iload_n 2, 1), (36, .iload_n 1, 1), (37, .invokevirtual 280, 3), (40, .iand, 1), (41, .istore_n 3, 1), (42, .iload_n 3, 1), (43, .ifCond .ne 9, 3), (46, .aload_n 0, 1), (47, .iconst 2, 1), (48, .invokevirtual 160, 3), (51, .ireturn, 1), (52, .aload_n 0, 1), (53, .iload_n 3, 1), (54, .putfield 277, 3), (57, .aload_n 0, 1), (58, .getfield 277, 3), (61, .ireturn, 1)]
def bq_X10_worst : List (ab_C × List ab_Q) := [(([.inl 76, .inr (0, 2147483647)], [], [], [(some ((-2147483648), 2147483647, none), [], [])]), [(4, [some (.inl 76), some (.inr (.inl (0, 2147483647, none, none))), some (.inr (.inl (0, 2147483647, none, none))), some (.inr (.inl (0, 6, none, none))), none], [((1, 7, 6), 0, 6, some (8006, 0)), ((1, 14, 6), 0, 6, some (15006, 0)), ((1, 76, 0), 0, 6, some (77000, 0)), ((1, 76, 9), 0, 6, some (77009, 0))], 13, [0, 0, 0, (-2), 0])])]
def bc_X10_worst : List ab_C := bq_X10_worst.map (fun c => c.1)
def be_X10_worst : Nat → Option (Nat × Option Nat × List ab_C) := fun ix => match ix with
  | 280 => some (3, some 10, bc_X10_partOf)
  | 283 => some (1, none, bc_X10_ones)
  | _ => none
def bx_X10_worst : ex_K := (RX10, ec_fx fl_X10, ec_cx cl_X10, sl_X10, (fun ix => (be_X10_worst ix).map (fun q => (q.1, q.2.1, ab_sp ab_hd q.2.2))), ec_nz, ec_no)
def bi_X10_worst : List (Nat × Instr × Nat) := [(0, .iconst 0, 1), (1, .istore_n 2, 1), (2, .iconst 0, 1), (3, .istore_n 3, 1), (4, .iload_n 3, 1), (5, .aload_n 0, 1), (6, .getfield 148, 3), (9, .if_icmp .ge 38, 3), (12, .aload_n 0, 1), (13, .getfield 277, 3), (16, .aload_n 0, 1), (17, .iload_n 3, 1), (18, .iload_n 1, 1), (19, .invokevirtual 280, 3), (22, .iand, 1), (23, .invokestatic 283, 3), (26, .istore 4, 2), (28, .iload 4, 2), (30, .iload_n 2, 1), (31, .if_icmp .le 8, 3), (34, .iload 4, 2), (36, .goto 4, 3), (39, .iload_n 2, 1), (40, .istore_n 2, 1), (41, .iinc 3 1, 3), (44, .goto (-40), 3), (47, .iload_n 2, 1), (48, .ireturn, 1)]
def bq_X10_best : List (ab_C × List ab_Q) := [(([.inl 76, .inr ((-2147483648), 2147483647)], [], [(114, some 1), (114, some 2)], [(some ((-2147483648), 2147483647, none), [], [])]), [(32, [some (.inl 76), some (.inr (.inl (0, 1, none, none))), some (.inr (.inl (0, 2147483647, none, none))), some (.inr (.inl (1, 2147483647, none, none))), none], [((1, 7, 6), 0, 6, some (8006, 0)), ((1, 14, 6), 0, 6, some (15006, 0)), ((1, 76, 0), 0, 6, some (77000, 0)), ((1, 76, 9), 0, 6, some (77009, 0))], 4294967295, [0, 0, 0, (-2), 0])])]
def bc_X10_best : List ab_C := bq_X10_best.map (fun c => c.1)
def be_X10_best : Nat → Option (Nat × Option Nat × List ab_C) := fun ix => match ix with
  | 171 => some (3, none, bc_X10_isIn)
  | 160 => some (2, some 10, bc_X10_finding)
  | 286 => some (2, some 10, bc_X10_worst)
  | 283 => some (1, none, bc_X10_ones)
  | _ => none
def bx_X10_best : ex_K := (RX10, ec_fx fl_X10, ec_cx cl_X10, sl_X10, (fun ix => (be_X10_best ix).map (fun q => (q.1, q.2.1, ab_sp ab_hd q.2.2))), ec_nz, ec_no)
def bi_X10_best : List (Nat × Instr × Nat) := [(0, .iload_n 1, 1), (1, .iconst 0, 1), (2, .iconst 1, 1), (3, .invokestatic 171, 3), (6, .ifCond .ne 9, 3), (9, .aload_n 0, 1), (10, .iconst 1, 1), (11, .invokevirtual 160, 3), (14, .ireturn, 1), (15, .aload_n 0, 1), (16, .getfield 277, 3), (19, .ifCond .ne 9, 3), (22, .aload_n 0, 1), (23, .iconst 2, 1), (24, .invokevirtual 160, 3), (27, .ireturn, 1), (28, .iconst 0, 1), (29, .istore_n 2, 1), (30, .iconst 1, 1), (31, .istore_n 3, 1), (32, .iload_n 3, 1), (33, .iconst 1, 1), (34, .aload_n 0, 1), (35, .getfield 151, 3), (38, .ishl, 1), (39, .if_icmp .ge 49, 3), (42, .aload_n 0, 1), (43, .iload_n 3, 1), (44, .invokevirtual 286, 3), (47, .aload_n 0, 1), (48, .iload_n 2, 1), (49, .invokevirtual 286, 3), (52, .isub, 1), (53, .istore 4, 2), (55, .iload 4, 2), (57, .ifCond .lt 19, 3), (60, .iload 4, 2), (62, .ifCond .ne 18, 3), (65, .iload_n 3, 1), (66, .invokestatic 283, 3), (69, .iload_n 2, 1), (70, .invokestatic 283, 3), (73, .if_icmp .ge 7, 3), (76, .iload_n 3, 1), (77, .goto 4, 3), (80, .iload_n 2, 1), (81, .istore_n 2, 1), (82, .iinc 3 1, 3), (85, .goto (-53), 3), (88, .iload_n 1, 1), (89, .ifCond .ne 7, 3), (92, .iload_n 2, 1), (93, .goto 8, 3), (96, .aload_n 0, 1), (97, .iload_n 2, 1), (98, .invokevirtual 286, 3), (101, .ireturn, 1)]
def bq_X10_suspects : List (ab_C × List ab_Q) := [(([.inl 76], [], [], [(some ((-2147483648), 2147483647, none), [], [])]), [])]
def bc_X10_suspects : List ab_C := bq_X10_suspects.map (fun c => c.1)
def bx_X10_suspects : ex_K := (RX10, ec_fx fl_X10, ec_cx cl_X10, sl_X10, (fun ix => (ec_no ix).map (fun (q : Nat × Option Nat × List ab_C) => (q.1, q.2.1, ab_sp ab_hd q.2.2))), ec_nz, ec_no)
def bi_X10_suspects : List (Nat × Instr × Nat) := [(0, .aload_n 0, 1), (1, .getfield 277, 3), (4, .ireturn, 1)]
def bq_X10_read : List (ab_C × List ab_Q) := [(([.inl 76, .inr ((-2147483648), 2147483647), .inr ((-2147483648), 2147483647)], [], [(76, some 40), (106, none), (107, none), (108, none), (109, none), (114, some 1), (114, some 4)], [(some ((-2147483648), 2147483647, none), [], [])]), [])]
def bc_X10_read : List ab_C := bq_X10_read.map (fun c => c.1)
def be_X10_read : Nat → Option (Nat × Option Nat × List ab_C) := fun ix => match ix with
  | 171 => some (3, none, bc_X10_isIn)
  | 160 => some (2, some 10, bc_X10_finding)
  | _ => none
def bx_X10_read : ex_K := (RX10, ec_fx fl_X10, ec_cx cl_X10, sl_X10, (fun ix => (be_X10_read ix).map (fun q => (q.1, q.2.1, ab_sp ab_hd q.2.2))), ec_nz, ec_no)
def bi_X10_read : List (Nat × Instr × Nat) := [(0, .iload_n 1, 1), (1, .iconst 0, 1), (2, .iconst 3, 1), (3, .invokestatic 171, 3), (6, .ifCond .eq 16, 3), (9, .iload_n 2, 1), (10, .sipush (-10000), 3), (13, .sipush 10000, 3), (16, .invokestatic 171, 3), (19, .ifCond .ne 9, 3), (22, .aload_n 0, 1), (23, .iconst 1, 1), (24, .invokevirtual 160, 3), (27, .ireturn, 1), (28, .aload_n 0, 1), (29, .getfield 289, 3), (32, .bipush 40, 2), (34, .if_icmp .ne 9, 3), (37, .aload_n 0, 1), (38, .iconst 4, 1), (39, .invokevirtual 160, 3), (42, .ireturn, 1), (43, .aload_n 0, 1), (44, .getfield 110, 3), (47, .aload_n 0, 1), (48, .getfield 289, 3), (51, .iload_n 1, 1), (52, .iastore, 1), (53, .aload_n 0, 1), (54, .getfield 113, 3), (57, .aload_n 0, 1), (58, .getfield 289, 3), (61, .aload_n 0, 1), (62, .getfield 82, 3), (65, .iconst 0, 1), (66, .iaload, 1), (67, .iastore, 1), (68, .aload_n 0, 1), (69, .getfield 116, 3), (72, .aload_n 0, 1), (73, .getfield 289, 3), (76, .iload_n 2, 1), (77, .iastore, 1), (78, .aload_n 0, 1), (79, .getfield 119, 3), (82, .aload_n 0, 1), (83, .getfield 289, 3), (86, .aload_n 0, 1), (87, .getfield 82, 3), (90, .iconst 0, 1), (91, .iaload, 1), (92, .aload_n 0, 1), (93, .getfield 131, 3), (96, .iadd, 1), (97, .iastore, 1), (98, .aload_n 0, 1), (99, .dup, 1), (100, .getfield 289, 3), (103, .iconst 1, 1), (104, .iadd, 1), (105, .putfield 289, 3), (108, .aload_n 0, 1), (109, .getfield 289, 3), (112, .iconst 1, 1), (113, .isub, 1), (114, .ireturn, 1)]
def bq_X10_calibrate : List (ab_C × List ab_Q) := [(([.inl 76, .inr ((-2147483648), 2147483647), .inr ((-2147483648), 2147483647)], [], [(76, some 45), (110, none), (111, none), (112, none), (114, some 1), (114, some 4)], [(some ((-2147483648), 2147483647, none), [], [])]), [])]
def bc_X10_calibrate : List ab_C := bq_X10_calibrate.map (fun c => c.1)
def be_X10_calibrate : Nat → Option (Nat × Option Nat × List ab_C) := fun ix => match ix with
  | 171 => some (3, none, bc_X10_isIn)
  | 160 => some (2, some 10, bc_X10_finding)
  | _ => none
def bx_X10_calibrate : ex_K := (RX10, ec_fx fl_X10, ec_cx cl_X10, sl_X10, (fun ix => (be_X10_calibrate ix).map (fun q => (q.1, q.2.1, ab_sp ab_hd q.2.2))), ec_nz, ec_no)
def bi_X10_calibrate : List (Nat × Instr × Nat) := [(0, .iload_n 1, 1), (1, .iconst 0, 1), (2, .iconst 3, 1), (3, .invokestatic 171, 3), (6, .ifCond .eq 16, 3), (9, .iload_n 2, 1), (10, .sipush (-1000), 3), (13, .sipush 1000, 3), (16, .invokestatic 171, 3), (19, .ifCond .ne 9, 3), (22, .aload_n 0, 1), (23, .iconst 1, 1), (24, .invokevirtual 160, 3), (27, .ireturn, 1), (28, .aload_n 0, 1), (29, .getfield 292, 3), (32, .bipush 20, 2), (34, .if_icmp .ne 9, 3), (37, .aload_n 0, 1), (38, .iconst 4, 1), (39, .invokevirtual 160, 3), (42, .ireturn, 1), (43, .aload_n 0, 1), (44, .getfield 122, 3), (47, .aload_n 0, 1), (48, .getfield 292, 3), (51, .iload_n 1, 1), (52, .iastore, 1), (53, .aload_n 0, 1), (54, .getfield 125, 3), (57, .aload_n 0, 1), (58, .getfield 292, 3), (61, .aload_n 0, 1), (62, .getfield 82, 3), (65, .iconst 0, 1), (66, .iaload, 1), (67, .iastore, 1), (68, .aload_n 0, 1), (69, .getfield 128, 3), (72, .aload_n 0, 1), (73, .getfield 292, 3), (76, .iload_n 2, 1), (77, .iastore, 1), (78, .aload_n 0, 1), (79, .dup, 1), (80, .getfield 292, 3), (83, .iconst 1, 1), (84, .iadd, 1), (85, .putfield 292, 3), (88, .aload_n 0, 1), (89, .getfield 292, 3), (92, .ireturn, 1)]
def bq_X10_tooMuch : List (ab_C × List ab_Q) := [(([.inl 76, .inr ((-2147483648), 2147483647), .inr ((-2147483648), 2147483647)], [], [], [(some ((-2147483648), 2147483647, none), [], [])]), [])]
def bc_X10_tooMuch : List ab_C := bq_X10_tooMuch.map (fun c => c.1)
def bx_X10_tooMuch : ex_K := (RX10, ec_fx fl_X10, ec_cx cl_X10, sl_X10, (fun ix => (ec_no ix).map (fun (q : Nat × Option Nat × List ab_C) => (q.1, q.2.1, ab_sp ab_hd q.2.2))), ec_nz, ec_no)
def bq_X10_worked : List (ab_C × List ab_Q) := [(([.inl 76, .inr ((-2147483648), 2147483647)], [], [(114, some 1)], [(some ((-2147483648), 2147483647, none), [], [])]), [])]
def bc_X10_worked : List ab_C := bq_X10_worked.map (fun c => c.1)
def be_X10_worked : Nat → Option (Nat × Option Nat × List ab_C) := fun ix => match ix with
  | 160 => some (2, some 10, bc_X10_finding)
  | 295 => some (3, some 10, bc_X10_tooMuch)
  | _ => none
def bx_X10_worked : ex_K := (RX10, ec_fx fl_X10, ec_cx cl_X10, sl_X10, (fun ix => (be_X10_worked ix).map (fun q => (q.1, q.2.1, ab_sp ab_hd q.2.2))), ec_nz, ec_no)
def bi_X10_worked : List (Nat × Instr × Nat) := [(0, .iload_n 1, 1), (1, .ifCond .lt 11, 3), (4, .iload_n 1, 1), (5, .aload_n 0, 1), (6, .getfield 289, 3), (9, .if_icmp .lt 9, 3), (12, .aload_n 0, 1), (13, .iconst 1, 1), (14, .invokevirtual 160, 3), (17, .ireturn, 1), (18, .aload_n 0, 1), (19, .getfield 116, 3), (22, .iload_n 1, 1), (23, .iaload, 1), (24, .aload_n 0, 1), (25, .aload_n 0, 1), (26, .getfield 110, 3), (29, .iload_n 1, 1), (30, .iaload, 1), (31, .aload_n 0, 1), (32, .getfield 113, 3), (35, .iload_n 1, 1), (36, .iaload, 1), (37, .invokevirtual 295, 3), (40, .isub, 1), (41, .ireturn, 1)]
def bq_X10_delay : List (ab_C × List ab_Q) := [(([.inl 76, .inr ((-2147483648), 2147483647)], [], [(76, some 49), (114, some 1)], [(some ((-2147483648), 2147483647, none), [], [])]), [])]
def bc_X10_delay : List ab_C := bq_X10_delay.map (fun c => c.1)
def be_X10_delay : Nat → Option (Nat × Option Nat × List ab_C) := fun ix => match ix with
  | 171 => some (3, none, bc_X10_isIn)
  | 160 => some (2, some 10, bc_X10_finding)
  | _ => none
def bx_X10_delay : ex_K := (RX10, ec_fx fl_X10, ec_cx cl_X10, sl_X10, (fun ix => (be_X10_delay ix).map (fun q => (q.1, q.2.1, ab_sp ab_hd q.2.2))), ec_nz, ec_no)
def bi_X10_delay : List (Nat × Instr × Nat) := [(0, .iload_n 1, 1), (1, .iconst 0, 1), (2, .bipush 100, 2), (4, .invokestatic 171, 3), (7, .ifCond .ne 9, 3), (10, .aload_n 0, 1), (11, .iconst 1, 1), (12, .invokevirtual 160, 3), (15, .ireturn, 1), (16, .aload_n 0, 1), (17, .getfield 131, 3), (20, .istore_n 2, 1), (21, .aload_n 0, 1), (22, .iload_n 1, 1), (23, .putfield 131, 3), (26, .iload_n 2, 1), (27, .ireturn, 1)]
def bq_X10_known : List (ab_C × List ab_Q) := [(([.inl 76, .inr ((-2147483648), 2147483647), .inr ((-2147483648), 2147483647)], [], [(114, some 1), (114, some 2)], [(some ((-2147483648), 2147483647, none), [], [])]), [(31, [some (.inl 76), some (.inr (.inl (0, 3, none, none))), some (.inr (.inl (0, 4000, none, none))), some (.inr (.inl ((-1), 39, none, none))), some (.inr (.inl (0, 40, none, none)))], [((1, 7, 6), 0, 6, some (8006, 0)), ((1, 14, 6), 0, 6, some (15006, 0)), ((1, 76, 0), 0, 6, some (77000, 0)), ((1, 76, 9), 0, 6, some (77009, 0))], 81, [0, 0, 0, 0, (-2)])])]
def bc_X10_known : List ab_C := bq_X10_known.map (fun c => c.1)
def be_X10_known : Nat → Option (Nat × Option Nat × List ab_C) := fun ix => match ix with
  | 171 => some (3, none, bc_X10_isIn)
  | 160 => some (2, some 10, bc_X10_finding)
  | _ => none
def bx_X10_known : ex_K := (RX10, ec_fx fl_X10, ec_cx cl_X10, sl_X10, (fun ix => (be_X10_known ix).map (fun q => (q.1, q.2.1, ab_sp ab_hd q.2.2))), ec_nz, ec_no)
def bi_X10_known : List (Nat × Instr × Nat) := [(0, .iload_n 1, 1), (1, .iconst 0, 1), (2, .iconst 3, 1), (3, .invokestatic 171, 3), (6, .ifCond .eq 14, 3), (9, .iload_n 2, 1), (10, .iconst 0, 1), (11, .sipush 4000, 3), (14, .invokestatic 171, 3), (17, .ifCond .ne 9, 3), (20, .aload_n 0, 1), (21, .iconst 1, 1), (22, .invokevirtual 160, 3), (25, .ireturn, 1), (26, .iconst (-1), 1), (27, .istore_n 3, 1), (28, .iconst 0, 1), (29, .istore 4, 2), (31, .iload 4, 2), (33, .aload_n 0, 1), (34, .getfield 289, 3), (37, .if_icmp .ge 38, 3), (40, .aload_n 0, 1), (41, .getfield 110, 3), (44, .iload 4, 2), (46, .iaload, 1), (47, .iload_n 1, 1), (48, .if_icmp .ne 19, 3), (51, .aload_n 0, 1), (52, .getfield 119, 3), (55, .iload 4, 2), (57, .iaload, 1), (58, .iload_n 2, 1), (59, .if_icmp .gt 8, 3), (62, .iload 4, 2), (64, .goto 4, 3), (67, .iload_n 3, 1), (68, .istore_n 3, 1), (69, .iinc 4 1, 3), (72, .goto (-41), 3), (75, .iload_n 3, 1), (76, .ifCond .ge 11, 3), (79, .aload_n 0, 1), (80, .iconst 2, 1), (81, .invokevirtual 160, 3), (84, .goto 4, 3), (87, .iload_n 3, 1), (88, .ireturn, 1)]
def bq_X10_mass : List (ab_C × List ab_Q) := [(([.inl 76, .inr ((-2147483648), 2147483647), .inr ((-2147483648), 2147483647)], [], [(76, some 50), (76, some 51), (114, some 1)], [(some ((-2147483648), 2147483647, none), [], [])]), [])]
def bc_X10_mass : List ab_C := bq_X10_mass.map (fun c => c.1)
def be_X10_mass : Nat → Option (Nat × Option Nat × List ab_C) := fun ix => match ix with
  | 171 => some (3, none, bc_X10_isIn)
  | 160 => some (2, some 10, bc_X10_finding)
  | _ => none
def bx_X10_mass : ex_K := (RX10, ec_fx fl_X10, ec_cx cl_X10, sl_X10, (fun ix => (be_X10_mass ix).map (fun q => (q.1, q.2.1, ab_sp ab_hd q.2.2))), ec_nz, ec_no)
def bi_X10_mass : List (Nat × Instr × Nat) := [(0, .iload_n 1, 1), (1, .iconst 0, 1), (2, .iconst 1, 1), (3, .invokestatic 171, 3), (6, .ifCond .eq 40, 3), (9, .iload_n 2, 1), (10, .ldc 147, 2), (12, .if_icmp .eq 40, 3), (15, .iload_n 1, 1), (16, .ifCond .ne 17, 3), (19, .iload_n 2, 1), (20, .iconst 1, 1), (21, .ldc_w 298, 3), (24, .invokestatic 171, 3), (27, .ifCond .eq 19, 3), (30, .goto 22, 3), (33, .iload_n 2, 1), (34, .sipush (-1000), 3), (37, .sipush 1000, 3), (40, .invokestatic 171, 3), (43, .ifCond .ne 9, 3), (46, .aload_n 0, 1), (47, .iconst 1, 1), (48, .invokevirtual 160, 3), (51, .ireturn, 1), (52, .iload_n 1, 1), (53, .ifCond .ne 10, 3), (56, .aload_n 0, 1), (57, .getfield 135, 3), (60, .goto 7, 3), (63, .aload_n 0, 1), (64, .getfield 299, 3), (67, .istore_n 3, 1), (68, .iload_n 2, 1), (69, .ldc 147, 2), (71, .if_icmp .eq 12, 3), (74, .iload_n 1, 1), (75, .ifCond .ne 8, 3), (78, .aload_n 0, 1), (79, .iload_n 2, 1), (80, .putfield 135, 3), (83, .iload_n 2, 1), (84, .ldc 147, 2), (86, .if_icmp .eq 13, 3), (89, .iload_n 1, 1), (90, .iconst 1, 1), (91, .if_icmp .ne 8, 3), (94, .aload_n 0, 1), (95, .iload_n 2, 1), (96, .putfield 299, 3), (99, .iload_n 3, 1), (100, .ireturn, 1)]
def bq_X10_dock : List (ab_C × List ab_Q) := [(([.inl 76, .inr ((-2147483648), 2147483647), .inr ((-2147483648), 2147483647)], [], [(76, some 50), (76, some 51), (114, some 1), (114, some 3)], [(some ((-2147483648), 2147483647, none), [], [])]), [])]
def bc_X10_dock : List ab_C := bq_X10_dock.map (fun c => c.1)
def be_X10_dock : Nat → Option (Nat × Option Nat × List ab_C) := fun ix => match ix with
  | 171 => some (3, none, bc_X10_isIn)
  | 160 => some (2, some 10, bc_X10_finding)
  | _ => none
def bx_X10_dock : ex_K := (RX10, ec_fx fl_X10, ec_cx cl_X10, sl_X10, (fun ix => (be_X10_dock ix).map (fun q => (q.1, q.2.1, ab_sp ab_hd q.2.2))), ec_nz, ec_no)
def bi_X10_dock : List (Nat × Instr × Nat) := [(0, .iload_n 1, 1), (1, .iconst 1, 1), (2, .ldc_w 298, 3), (5, .invokestatic 171, 3), (8, .ifCond .eq 16, 3), (11, .iload_n 2, 1), (12, .sipush (-1000), 3), (15, .sipush 1000, 3), (18, .invokestatic 171, 3), (21, .ifCond .ne 9, 3), (24, .aload_n 0, 1), (25, .iconst 1, 1), (26, .invokevirtual 160, 3), (29, .ireturn, 1), (30, .aload_n 0, 1), (31, .getfield 135, 3), (34, .iload_n 1, 1), (35, .iadd, 1), (36, .ldc_w 298, 3), (39, .if_icmp .le 9, 3), (42, .aload_n 0, 1), (43, .iconst 3, 1), (44, .invokevirtual 160, 3), (47, .ireturn, 1), (48, .aload_n 0, 1), (49, .aload_n 0, 1), (50, .getfield 135, 3), (53, .i2l, 1), (54, .aload_n 0, 1), (55, .getfield 299, 3), (58, .i2l, 1), (59, .lmul, 1), (60, .iload_n 1, 1), (61, .i2l, 1), (62, .iload_n 2, 1), (63, .i2l, 1), (64, .lmul, 1), (65, .ladd, 1), (66, .aload_n 0, 1), (67, .getfield 135, 3), (70, .iload_n 1, 1), (71, .iadd, 1), (72, .i2l, 1), (73, .ldiv, 1), (74, .l2i, 1), (75, .putfield 299, 3), (78, .aload_n 0, 1), (79, .dup, 1), (80, .getfield 135, 3), (83, .iload_n 1, 1), (84, .iadd, 1), (85, .putfield 135, 3), (88, .aload_n 0, 1), (89, .getfield 299, 3), (92, .ireturn, 1)]
def bq_X10_undock : List (ab_C × List ab_Q) := [(([.inl 76, .inr ((-2147483648), 2147483647)], [], [(76, some 50), (114, some 1), (114, some 3)], [(some ((-2147483648), 2147483647, none), [], [])]), [])]
def bc_X10_undock : List ab_C := bq_X10_undock.map (fun c => c.1)
def be_X10_undock : Nat → Option (Nat × Option Nat × List ab_C) := fun ix => match ix with
  | 171 => some (3, none, bc_X10_isIn)
  | 160 => some (2, some 10, bc_X10_finding)
  | _ => none
def bx_X10_undock : ex_K := (RX10, ec_fx fl_X10, ec_cx cl_X10, sl_X10, (fun ix => (be_X10_undock ix).map (fun q => (q.1, q.2.1, ab_sp ab_hd q.2.2))), ec_nz, ec_no)
def bi_X10_undock : List (Nat × Instr × Nat) := [(0, .iload_n 1, 1), (1, .iconst 1, 1), (2, .ldc_w 298, 3), (5, .invokestatic 171, 3), (8, .ifCond .ne 9, 3), (11, .aload_n 0, 1), (12, .iconst 1, 1), (13, .invokevirtual 160, 3), (16, .ireturn, 1), (17, .aload_n 0, 1), (18, .getfield 135, 3), (21, .iload_n 1, 1), (22, .isub, 1), (23, .iconst 1, 1), (24, .if_icmp .ge 9, 3), (27, .aload_n 0, 1), (28, .iconst 3, 1), (29, .invokevirtual 160, 3), (32, .ireturn, 1), (33, .aload_n 0, 1), (34, .dup, 1), (35, .getfield 135, 3), (38, .iload_n 1, 1), (39, .isub, 1), (40, .putfield 135, 3), (43, .aload_n 0, 1), (44, .getfield 135, 3), (47, .ireturn, 1)]
def bq_X10_tell : List (ab_C × List ab_Q) := [(([.inl 76, .inr ((-2147483648), 2147483647)], [], [(76, some 52), (113, none), (114, some 4)], [(some ((-2147483648), 2147483647, none), [], [])]), [])]
def bc_X10_tell : List ab_C := bq_X10_tell.map (fun c => c.1)
def be_X10_tell : Nat → Option (Nat × Option Nat × List ab_C) := fun ix => match ix with
  | 160 => some (2, some 10, bc_X10_finding)
  | _ => none
def bx_X10_tell : ex_K := (RX10, ec_fx fl_X10, ec_cx cl_X10, sl_X10, (fun ix => (be_X10_tell ix).map (fun q => (q.1, q.2.1, ab_sp ab_hd q.2.2))), ec_nz, ec_no)
def bi_X10_tell : List (Nat × Instr × Nat) := [(0, .aload_n 0, 1), (1, .getfield 302, 3), (4, .bipush 24, 2), (6, .if_icmp .ne 9, 3), (9, .aload_n 0, 1), (10, .iconst 4, 1), (11, .invokevirtual 160, 3), (14, .ireturn, 1), (15, .aload_n 0, 1), (16, .getfield 138, 3), (19, .aload_n 0, 1), (20, .getfield 302, 3), (23, .iload_n 1, 1), (24, .iastore, 1), (25, .aload_n 0, 1), (26, .dup, 1), (27, .getfield 302, 3), (30, .iconst 1, 1), (31, .iadd, 1), (32, .putfield 302, 3), (35, .aload_n 0, 1), (36, .getfield 302, 3), (39, .ireturn, 1)]
def bq_X10_check : List (ab_C × List ab_Q) := [(([.inl 76, .inr ((-2147483648), 2147483647), .inr ((-2147483648), 2147483647)], [], [(76, some 52), (76, some 56), (77, none), (78, none), (82, none), (83, none), (84, none), (85, none), (86, none), (87, none), (88, none), (89, none), (96, none), (97, none), (98, none), (99, none), (100, none), (101, none), (114, some 1), (115, none)], [(some ((-2147483648), 2147483647, none), [], [])]), [(44, [some (.inl 76), some (.inr (.inl (0, 5, none, none))), some (.inr (.inl (0, 4, none, none))), some (.inr (.inl (0, 24, none, none))), some (.inr (.inl (0, 24, none, none))), some (.inr (.inl (0, 24, none, none))), none], [((1, 7, 6), 0, 6, some (8006, 0)), ((1, 14, 6), 0, 6, some (15006, 0)), ((1, 76, 0), 0, 6, some (77000, 0)), ((1, 76, 9), 0, 6, some (77009, 0))], 49, [0, 0, 0, 0, 0, (-2), 0])])]
def bc_X10_check : List ab_C := bq_X10_check.map (fun c => c.1)
def be_X10_check : Nat → Option (Nat × Option Nat × List ab_C) := fun ix => match ix with
  | 164 => some (2, some 10, bc_X10_isModule)
  | 171 => some (3, none, bc_X10_isIn)
  | 160 => some (2, some 10, bc_X10_finding)
  | 273 => some (2, some 10, bc_X10_layAside)
  | 262 => some (1, some 10, bc_X10_tick)
  | _ => none
def bx_X10_check : ex_K := (RX10, ec_fx fl_X10, ec_cx cl_X10, sl_X10, (fun ix => (be_X10_check ix).map (fun q => (q.1, q.2.1, ab_sp ab_hd q.2.2))), ec_nz, ec_no)
def bi_X10_check : List (Nat × Instr × Nat) := [(0, .aload_n 0, 1), (1, .getfield 302, 3), (4, .istore_n 3, 1), (5, .aload_n 0, 1), (6, .iconst 0, 1), (7, .putfield 302, 3), (10, .aload_n 0, 1), (11, .iload_n 1, 1), (12, .invokevirtual 164, 3), (15, .ifCond .eq 12, 3), (18, .iload_n 2, 1), (19, .iconst 0, 1), (20, .iconst 4, 1), (21, .invokestatic 171, 3), (24, .ifCond .ne 9, 3), (27, .aload_n 0, 1), (28, .iconst 1, 1), (29, .invokevirtual 160, 3), (32, .ireturn, 1), (33, .aload_n 0, 1), (34, .iconst 1, 1), (35, .invokevirtual 273, 3), (38, .iconst 0, 1), (39, .istore 4, 2), (41, .iconst 0, 1), (42, .istore 5, 2), (44, .iload 5, 2), (46, .iload_n 3, 1), (47, .if_icmp .ge 64, 3), (50, .iload 4, 2), (52, .ifCond .ne 59, 3), (55, .aload_n 0, 1), (56, .invokevirtual 262, 3), (59, .istore 6, 2), (61, .aload_n 0, 1), (62, .getfield 138, 3), (65, .iload 5, 2), (67, .iaload, 1), (68, .iload_n 2, 1), (69, .iconst 4, 1), (70, .if_icmp .ne 12, 3), (73, .aload_n 0, 1), (74, .getfield 13, 3), (77, .iload_n 1, 1), (78, .iaload, 1), (79, .goto 13, 3), (82, .aload_n 0, 1), (83, .getfield 7, 3), (86, .iconst 4, 1), (87, .iload_n 1, 1), (88, .imul, 1), (89, .iload_n 2, 1), (90, .iadd, 1), (91, .iaload, 1), (92, .if_icmp .eq 10, 3), (95, .iconst 1, 1), (96, .iload 5, 2), (98, .iadd, 1), (99, .goto 4, 3), (102, .iconst 0, 1), (103, .istore 4, 2), (105, .iinc 5 1, 3), (108, .goto (-64), 3), (111, .aload_n 0, 1), (112, .iconst 0, 1), (113, .invokevirtual 273, 3), (116, .iload 4, 2), (118, .ireturn, 1)]
def bq_X10_count : List (ab_C × List ab_Q) := [(([.inl 76, .inr ((-2147483648), 2147483647)], [], [(114, some 1)], [(some ((-2147483648), 2147483647, none), [], [])]), [(105, [some (.inl 76), some (.inr (.inl (9, 9, none, none))), some (.inr (.inl ((-2147483648), 2147483647, none, none))), some (.inr (.inl (0, 6, none, none)))], [((1, 7, 6), 0, 6, some (8006, 0)), ((1, 14, 6), 0, 6, some (15006, 0)), ((1, 76, 0), 0, 6, some (77000, 0)), ((1, 76, 9), 0, 6, some (77009, 0))], 13, [0, 0, 0, (-2)])])]
def bc_X10_count : List ab_C := bq_X10_count.map (fun c => c.1)
def be_X10_count : Nat → Option (Nat × Option Nat × List ab_C) := fun ix => match ix with
  | 160 => some (2, some 10, bc_X10_finding)
  | _ => none
def bx_X10_count : ex_K := (RX10, ec_fx fl_X10, ec_cx cl_X10, sl_X10, (fun ix => (be_X10_count ix).map (fun q => (q.1, q.2.1, ab_sp ab_hd q.2.2))), ec_nz, ec_no)
def bi_X10_count : List (Nat × Instr × Nat) := [(0, .iconst 0, 1), (1, .istore_n 2, 1), (2, .iload_n 1, 1), (3, .tableswitch 135 0 9 #[53, 58, 63, 68, 73, 80, 85, 90, 95, 100], 53), (56, .aload_n 0, 1), (57, .getfield 148, 3), (60, .ireturn, 1), (61, .aload_n 0, 1), (62, .getfield 151, 3), (65, .ireturn, 1), (66, .aload_n 0, 1), (67, .getfield 154, 3), (70, .ireturn, 1), (71, .aload_n 0, 1), (72, .getfield 157, 3), (75, .ireturn, 1), (76, .aload_n 0, 1), (77, .getfield 82, 3), (80, .iconst 0, 1), (81, .iaload, 1), (82, .ireturn, 1), (83, .aload_n 0, 1), (84, .getfield 209, 3), (87, .ireturn, 1), (88, .aload_n 0, 1), (89, .getfield 289, 3), (92, .ireturn, 1), (93, .aload_n 0, 1), (94, .getfield 292, 3), (97, .ireturn, 1), (98, .aload_n 0, 1), (99, .getfield 302, 3), (102, .ireturn, 1), (103, .iconst 0, 1), (104, .istore_n 3, 1), (105, .iload_n 3, 1), (106, .aload_n 0, 1), (107, .getfield 154, 3), (110, .if_icmp .ge 26, 3), (113, .iload_n 2, 1), (114, .aload_n 0, 1), (115, .getfield 37, 3), (118, .iload_n 3, 1), (119, .iaload, 1), (120, .ifCond .lt 7, 3), (123, .iconst 1, 1), (124, .goto 4, 3), (127, .iconst 0, 1), (128, .iadd, 1), (129, .istore_n 2, 1), (130, .iinc 3 1, 3), (133, .goto (-28), 3), (136, .iload_n 2, 1), (137, .ireturn, 1), (138, .aload_n 0, 1), (139, .iconst 1, 1), (140, .invokevirtual 160, 3), (143, .ireturn, 1)]
def bq_X10_found : List (ab_C × List ab_Q) := [(([.inl 76, .inr ((-2147483648), 2147483647)], [], [(114, some 1)], [(some ((-2147483648), 2147483647, none), [], [])]), [])]
def bc_X10_found : List ab_C := bq_X10_found.map (fun c => c.1)
def be_X10_found : Nat → Option (Nat × Option Nat × List ab_C) := fun ix => match ix with
  | 171 => some (3, none, bc_X10_isIn)
  | 160 => some (2, some 10, bc_X10_finding)
  | _ => none
def bx_X10_found : ex_K := (RX10, ec_fx fl_X10, ec_cx cl_X10, sl_X10, (fun ix => (be_X10_found ix).map (fun q => (q.1, q.2.1, ab_sp ab_hd q.2.2))), ec_nz, ec_no)
def bi_X10_found : List (Nat × Instr × Nat) := [(0, .iload_n 1, 1), (1, .iconst 1, 1), (2, .iconst 5, 1), (3, .invokestatic 171, 3), (6, .ifCond .eq 12, 3), (9, .aload_n 0, 1), (10, .getfield 141, 3), (13, .iload_n 1, 1), (14, .iaload, 1), (15, .goto 8, 3), (18, .aload_n 0, 1), (19, .iconst 1, 1), (20, .invokevirtual 160, 3), (23, .ireturn, 1)]
