theorem bw_X9_found : ec_cw yX9_found cX9_found 2 (some .int) := ⟨ec_in (i := 1098) (by decide +kernel) rfl, ec_in (i := 58) (by decide +kernel) rfl, by decide, by decide⟩
theorem bv_X9_found : Cond.instanceMethod yX9_found ∈ ec_tb ∧ Cond.selects yX9_found.cls yX9_found yX9_found ∈ ec_tb := ⟨ec_in (i := 1096) (by decide +kernel) rfl, ec_in (i := 1097) (by decide +kernel) rfl⟩
def be_X9_found : Nat → Option (Nat × Option Nat × List ab_C) := fun ix => match ix with
  | 64 => some (2, some 9, bc_X9_counted)
  | _ => none
theorem bk_X9_found (l : Launch) : ∀ (ix n : Nat) (rc : Option Nat) (sp : ex_S), (be_X9_found ix).map (fun q => (q.1, q.2.1, ab_sp ab_hd q.2.2)) = some (n, rc, sp) → ex_cok l RX9 1 21 ix n rc sp := by
  intro ix n rc sp h
  obtain ⟨l0, h2, rfl⟩ := ab_dmk h
  clear h
  unfold be_X9_found at h2
  split at h2
  · cases h2; exact ec_cV (bm_X9_counted l) bw_X9_counted bv_X9_counted (by decide) (by decide) (Or.inl (ec_in (i := 424) (by decide +kernel) rfl)) (T := TX9) (N := 10) rfl (by decide) (by decide +kernel)
  · cases h2
def bx_X9_found : ex_K := (RX9, ec_fx fl_X9, ec_cx cl_X9, sl_X9, (fun ix => (be_X9_found ix).map (fun q => (q.1, q.2.1, ab_sp ab_hd q.2.2))), ec_nz, ec_no)
theorem bj_X9_found (l : Launch) : ex_ok l 1 21 bx_X9_found := ⟨ec_fok fo_X9, ec_cok co_X9, so_X9, bk_X9_found l, fun _ h => (by cases h), fun _ h => (by cases h), fun _ h => (by cases h), fun _ _ h => (by cases h)⟩
def bq_X9_found : List (ab_C × List ab_Q) := [(([.inl 0, .inr ((-2147483648), 2147483647)], [], [(75, some 1)], [(some ((-2147483648), 2147483647), [], [])]), [])]
def bc_X9_found : List ab_C := bq_X9_found.map (fun c => c.1)
def bi_X9_found : List (Nat × Instr × Nat) := [(0, .iload_n 1, 1), (1, .iconst 1, 1), (2, .if_icmp .lt 8, 3), (5, .iload_n 1, 1), (6, .iconst 5, 1), (7, .if_icmp .le 10, 3), (10, .aload_n 0, 1), (11, .ldc 92, 2), (13, .invokevirtual 64, 3), (16, .ireturn, 1), (17, .aload_n 0, 1), (18, .getfield 46, 3), (21, .iload_n 1, 1), (22, .iaload, 1), (23, .ireturn, 1)]
theorem bd_X9_found : ∀ q ∈ bi_X9_found, decode cX9_found q.1 = .ok q.2 := by decide +kernel
theorem bz_X9_found : bq_X9_found.all (ab_ck ab_hd ab_xs bx_X9_found be_X9_found bi_X9_found (some .int) 2 13) = true := by decide +kernel
theorem bm_X9_found (l : Launch) : ex_Met l yX9_found cX9_found 2 (some .int) 1 21 (ab_sp ab_hd bc_X9_found) := ab_met (by decide) rfl (bj_X9_found l) bd_X9_found ab_hcm ab_xk bz_X9_found
