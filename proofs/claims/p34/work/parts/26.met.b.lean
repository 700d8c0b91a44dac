theorem ba_X4_narrow : ec_al [(964, Cond.code yX4_narrow cX4_narrow 5 (some .int)), (66, Cond.initialized yX4_narrow.cls), (962, Cond.instanceMethod yX4_narrow), (963, Cond.selects yX4_narrow.cls yX4_narrow yX4_narrow), (965, Cond.methodLink RX4 24 yX0_hasModule), (967, Cond.methodLink RX4 32 yX4_findParts)] := ec_alk (by decide +kernel)
theorem bw_X4_narrow : ec_cw yX4_narrow cX4_narrow 5 (some .int) := ⟨ba_X4_narrow.1, ba_X4_narrow.2.1, nc_RX4⟩
theorem bv_X4_narrow : Cond.instanceMethod yX4_narrow ∈ ec_tb ∧ Cond.selects yX4_narrow.cls yX4_narrow yX4_narrow ∈ ec_tb := ⟨ba_X4_narrow.2.2.1, ba_X4_narrow.2.2.2.1⟩
theorem bp_X4_narrow : (parseMethodDescriptor yX4_narrow.desc).map (fun d => d.parameters.length) = some 3 := by decide +kernel
theorem bk_X4_narrow (l : Launch) : ∀ (ix n : Nat) (rc : Option Nat) (sp : ex_S), (be_X4_narrow ix).map (fun q => (q.1, q.2.1, ab_sp ab_hd q.2.2)) = some (n, rc, sp) → ex_cok l RX4 2 46 ix n rc sp := by
  intro ix n rc sp h
  obtain ⟨l0, h2, rfl⟩ := ab_dmk h
  clear h
  unfold be_X4_narrow at h2
  split at h2
  · cases h2; exact ec_cV (bm_X0_hasModule l) bw_X0_hasModule bv_X0_hasModule (by decide) (by decide) (Or.inl ba_X4_narrow.2.2.2.2.1) (T := TX0) (N := 8) rfl (by decide) bp_X0_hasModule
  · cases h2; exact ec_cV (bm_X4_findParts l) bw_X4_findParts bv_X4_findParts (by decide) (by decide) (Or.inl ba_X4_narrow.2.2.2.2.2.1) (T := TX4) (N := 2) rfl (by decide) bp_X4_findParts
  · cases h2
theorem bj_X4_narrow (l : Launch) : ex_ok l 2 46 bx_X4_narrow := ec_okp fo_X4 co_X4 so_X4 (bk_X4_narrow l)
theorem dX4_narrow_0 : decode cX4_narrow 0 = .ok (.aload_n 1, 1) := by decide +kernel
theorem dX4_narrow_1 : decode cX4_narrow 1 = .ok (.iload_n 3, 1) := by decide +kernel
theorem dX4_narrow_2 : decode cX4_narrow 2 = .ok (.invokevirtual 24, 3) := by decide +kernel
theorem dX4_narrow_5 : decode cX4_narrow 5 = .ok (.ifCond .eq 17, 3) := by decide +kernel
theorem dX4_narrow_8 : decode cX4_narrow 8 = .ok (.iload_n 2, 1) := by decide +kernel
theorem dX4_narrow_9 : decode cX4_narrow 9 = .ok (.ifCond .lt 13, 3) := by decide +kernel
theorem dX4_narrow_12 : decode cX4_narrow 12 = .ok (.iload_n 2, 1) := by decide +kernel
theorem dX4_narrow_13 : decode cX4_narrow 13 = .ok (.iconst 1, 1) := by decide +kernel
theorem dX4_narrow_14 : decode cX4_narrow 14 = .ok (.aload_n 1, 1) := by decide +kernel
theorem dX4_narrow_15 : decode cX4_narrow 15 = .ok (.getfield 28, 3) := by decide +kernel
theorem dX4_narrow_18 : decode cX4_narrow 18 = .ok (.ishl, 1) := by decide +kernel
theorem dX4_narrow_19 : decode cX4_narrow 19 = .ok (.if_icmp .lt 6, 3) := by decide +kernel
theorem dX4_narrow_22 : decode cX4_narrow 22 = .ok (.ldc 31, 2) := by decide +kernel
theorem dX4_narrow_24 : decode cX4_narrow 24 = .ok (.ireturn, 1) := by decide +kernel
theorem dX4_narrow_25 : decode cX4_narrow 25 = .ok (.aload_n 0, 1) := by decide +kernel
theorem dX4_narrow_26 : decode cX4_narrow 26 = .ok (.aload_n 1, 1) := by decide +kernel
theorem dX4_narrow_27 : decode cX4_narrow 27 = .ok (.iload_n 2, 1) := by decide +kernel
theorem dX4_narrow_28 : decode cX4_narrow 28 = .ok (.invokevirtual 32, 3) := by decide +kernel
theorem dX4_narrow_31 : decode cX4_narrow 31 = .ok (.aload_n 0, 1) := by decide +kernel
theorem dX4_narrow_32 : decode cX4_narrow 32 = .ok (.getfield 21, 3) := by decide +kernel
theorem dX4_narrow_35 : decode cX4_narrow 35 = .ok (.aload_n 0, 1) := by decide +kernel
theorem dX4_narrow_36 : decode cX4_narrow 36 = .ok (.getfield 9, 3) := by decide +kernel
theorem dX4_narrow_39 : decode cX4_narrow 39 = .ok (.iload_n 3, 1) := by decide +kernel
theorem dX4_narrow_40 : decode cX4_narrow 40 = .ok (.iaload, 1) := by decide +kernel
theorem dX4_narrow_41 : decode cX4_narrow 41 = .ok (.iand, 1) := by decide +kernel
theorem dX4_narrow_42 : decode cX4_narrow 42 = .ok (.istore 4, 2) := by decide +kernel
theorem dX4_narrow_44 : decode cX4_narrow 44 = .ok (.iload 4, 2) := by decide +kernel
theorem dX4_narrow_46 : decode cX4_narrow 46 = .ok (.ifCond .ne 6, 3) := by decide +kernel
theorem dX4_narrow_49 : decode cX4_narrow 49 = .ok (.ldc 36, 2) := by decide +kernel
theorem dX4_narrow_51 : decode cX4_narrow 51 = .ok (.ireturn, 1) := by decide +kernel
theorem dX4_narrow_52 : decode cX4_narrow 52 = .ok (.aload_n 0, 1) := by decide +kernel
theorem dX4_narrow_53 : decode cX4_narrow 53 = .ok (.iload 4, 2) := by decide +kernel
theorem dX4_narrow_55 : decode cX4_narrow 55 = .ok (.putfield 21, 3) := by decide +kernel
theorem dX4_narrow_58 : decode cX4_narrow 58 = .ok (.iload 4, 2) := by decide +kernel
theorem dX4_narrow_60 : decode cX4_narrow 60 = .ok (.ireturn, 1) := by decide +kernel
set_option maxRecDepth 100000 in
set_option maxHeartbeats 4000000 in
theorem nw_w0 {cs : ex_C} {Q : ex_Q} {I : Nat → Option (ex_L → ex_V → ex_C → Prop)} {c m : Int32} (hI : ∀ pc, I pc = none) (hk1 : ab_hk ab_hd cs) (hQ : ∀ (x : Int32) cs', ab_hk ab_hd cs' → ab_fr [(64, some 1), (65, none)] cs cs' → x.toInt = hu_t (gi cs 7 6) (gi cs 7 7) (gi cs 64 1) c m (hu_P (gi cs 7) (gi cs 10) (gi cs 11) (gi cs 65) c m) → (gi cs' 64 1).toInt = hu_s (gi cs 7 6) (gi cs 7 7) (gi cs 64 1) c m (hu_P (gi cs 7) (gi cs 10) (gi cs 11) (gi cs 65) c m) → Q (some (.int x)) cs') : ex_wp ec_xt bx_X4_narrow cX4_narrow (some .int) I Q 60 0 [some (.ref 64), some (.ref 7), some (.int c), some (.int m), none] [] cs := by
  have z0 := ab_z0
  obtain ⟨fs, h7, a6, a7, a2, a3, h10, h11, ⟨M1, M2⟩, ⟨H1, H2⟩, E10, E11⟩ := hu_air (cs := cs) hk1 (rfl) (rfl) (rfl)
  obtain ⟨gs, h64, ul, u0, u1, h65⟩ := hu_hun hk1
  refine wq_aload_n dX4_narrow_0 rfl rfl ?_
  refine go_wp (hI _) (wq_iload_n dX4_narrow_1 rfl rfl ?_)
  refine go_wp (hI _) (wq_virtual (q := 2) (ci := 0) (a := 7) (av := [.ref 7, .int m]) (r := []) dX4_narrow_2 rfl (Nat.le_of_ble_eq_true rfl) rfl rfl rfl (Nat.le_of_ble_eq_true rfl) h7 rfl (hx_call 0 (c := ([.inl 7, .inr ((-2147483648), 2147483647)], [], [], [(some (1, 1, none), [((0, 1, 0), 0, 5, none), ((9, 1, 8006), (-4294967296), (-1), none), ((8, 8006, 0), 1, 6, none)], []), (some (0, 0, none), [((0, 1, 0), 0, 2147483647, none), ((9, 1, 8006), 0, 4294967296, none), ((8, 8006, 0), 0, 6, none)], []), (some (0, 0, none), [((0, 1, 0), (-2147483648), (-1), none)], [])])) rfl (hx_pr2 hx_cr (hx_ci (hx_tb _))) hk1 (fun r cs1 hp => ?_)))
  obtain ⟨hk1, hf1, x, rfl, hx⟩ := hu_hm hk1 hp
  refine ret_int ?_
  obtain ⟨fsb, h7b, a6b, a7b, a2b, a3b, h10b, h11b, -, -, -, -⟩ := hu_air (cs := cs) hk1 (gi_fr hf1 (fun _ => rfl)) (gi_fr hf1 (fun _ => rfl)) (gi_fr hf1 (fun _ => rfl))
  obtain ⟨gsb, h64b, ulb, u0b, u1b, h65b⟩ := hu_hun hk1
  have es : gi cs1 64 1 = gi cs 64 1 := gi_f1 hf1 rfl
  refine go_wp (hI _) (wq_if_eq (t := 22) dX4_narrow_5 (by decide) rfl (fun q1 => ?_) (fun q1 => ?_))
  · have q1' : Int32.toInt x = Int32.toInt 0 := (ab_ieq (x := x) (y := 0)).1 q1
    refine go_wp (hI _) (wq_ldc (v := (-1000000001)) dX4_narrow_22 rfl rfl ?_)
    refine go_wp (hI _) (wq_ireturn dX4_narrow_24 trivial (hQ _ _ hk1 (hx_fr hf1) ((hu_tb (by unfold hu_b; omega)).1) ((congrArg Int32.toInt es).trans (hu_tb (by unfold hu_b; omega)).2)))
  · have q1' : Int32.toInt x ≠ Int32.toInt 0 := (ab_ieq (x := x) (y := 0)).2 q1
    refine go_wp (hI _) (wq_iload_n dX4_narrow_8 rfl rfl ?_)
    refine go_wp (hI _) (wq_if_lt (t := 22) dX4_narrow_9 (by decide) rfl (fun q2 => ?_) (fun q2 => ?_))
    · have q2' : Int32.toInt c < Int32.toInt 0 := (ab_ilt (x := c) (y := 0)).1 q2
      refine go_wp (hI _) (wq_ldc (v := (-1000000001)) dX4_narrow_22 rfl rfl ?_)
      refine go_wp (hI _) (wq_ireturn dX4_narrow_24 trivial (hQ _ _ hk1 (hx_fr hf1) ((hu_tb (by unfold hu_b; omega)).1) ((congrArg Int32.toInt es).trans (hu_tb (by unfold hu_b; omega)).2)))
    · have q2' : Int32.toInt c ≥ Int32.toInt 0 := (ab_ilt (x := c) (y := 0)).2 q2
      refine go_wp (hI _) (wq_iload_n dX4_narrow_12 rfl rfl ?_)
      refine go_wp (hI _) (wq_iconst (v := 1) dX4_narrow_13 (by decide) rfl ?_)
      refine go_wp (hI _) (wq_aload_n dX4_narrow_14 rfl rfl ?_)
      refine go_wp (hI _) (wq_getfield dX4_narrow_15 fe_X4_28 h7b a7b rfl ?_)
      refine go_wp (hI _) (wq_ishl (v := ((1 : Int32) <<< ((gi cs 7 7) &&& 31))) dX4_narrow_18 rfl rfl ?_)
      refine go_wp (hI _) (wq_icmp_lt (t := 25) dX4_narrow_19 (by decide) rfl (fun q3 => ?_) (fun q3 => ?_))
      · have q3' : Int32.toInt c < Int32.toInt ((1 : Int32) <<< ((gi cs 7 7) &&& 31)) := (ab_ilt (x := c) (y := ((1 : Int32) <<< ((gi cs 7 7) &&& 31)))).1 q3
        refine go_wp (hI _) (wq_aload_n dX4_narrow_25 rfl rfl ?_)
        refine go_wp (hI _) (wq_aload_n dX4_narrow_26 rfl rfl ?_)
        refine go_wp (hI _) (wq_iload_n dX4_narrow_27 rfl rfl ?_)
        refine go_wp (hI _) (wq_virtual (q := 3) (ci := 4) (a := 64) (av := [.ref 64, .ref 7, .int c]) (r := []) dX4_narrow_28 rfl (Nat.le_of_ble_eq_true rfl) rfl rfl rfl (Nat.le_of_ble_eq_true rfl) h64b rfl (hx_call 0 (c := ([.inl 64, .inl 7, .inr ((-2147483648), 2147483647)], [], [(65, none)], [(none, [], [((1, 65, 0), (-2147483648), 2147483647, some (900000020, 0)), ((1, 65, 1), (-2147483648), 2147483647, some (900000021, 0)), ((1, 65, 2), (-2147483648), 2147483647, some (900000022, 0)), ((1, 65, 3), (-2147483648), 2147483647, some (900000023, 0)), ((1, 65, 4), (-2147483648), 2147483647, some (900000024, 0)), ((1, 65, 5), (-2147483648), 2147483647, some (900000025, 0))])])) rfl (hx_pr3 hx_cr hx_cr (hx_ci (hx_tb _))) hk1 (fun r cs2 hp => ?_)))
        obtain ⟨hk2, hf2, rfl, hn2⟩ := hu_void hp
        refine ret_void ?_
        have hj2 := hu_f6 hn2 hf1
        have hf12 : ab_fr [(65, none)] cs cs2 := (hx_fr hf1).tr hf2
        obtain ⟨fsc, h7c, a6c, a7c, a2c, a3c, h10c, h11c, -, -, -, -⟩ := hu_air (cs := cs) hk2 (gi_fr hf12 (fun _ => rfl)) (gi_fr hf12 (fun _ => rfl)) (gi_fr hf12 (fun _ => rfl))
        obtain ⟨gsc, h64c, ulc, u0c, u1c, h65c⟩ := hu_hun hk2
        have es2 : gi cs2 64 1 = gi cs 64 1 := gi_f1 hf12 rfl
        have ej : gi cs2 65 m.toNatClampNeg = (hu_P (gi cs 7) (gi cs 10) (gi cs 11) (gi cs 65) c m) := hj2 _ (by have : m.toNatClampNeg = m.toInt.toNat := rfl; omega)
        refine go_wp (hI _) (wq_aload_n dX4_narrow_31 rfl rfl ?_)
        refine go_wp (hI _) (wq_getfield dX4_narrow_32 fe_X4_21 h64c u1c rfl ?_)
        refine go_wp (hI _) (wq_aload_n dX4_narrow_35 rfl rfl ?_)
        refine go_wp (hI _) (wq_getfield dX4_narrow_36 fe_X4_9 h64c u0c rfl ?_)
        refine go_wp (hI _) (wq_iload_n dX4_narrow_39 rfl rfl ?_)
        refine go_wp (hI _) (wq_iaload (v := ((gi cs2 65) m.toNatClampNeg)) dX4_narrow_40 (by decide) h65c (vp_mk (by omega) (by omega)) rfl rfl ?_)
        refine go_wp (hI _) (wq_iand (v := ((gi cs2 64 1) &&& ((gi cs2 65) m.toNatClampNeg))) dX4_narrow_41 rfl rfl ?_)
        refine go_wp (hI _) (wq_istore (lv' := [some (.ref 64), some (.ref 7), some (.int c), some (.int m), some (.int ((gi cs2 64 1) &&& ((gi cs2 65) m.toNatClampNeg)))]) dX4_narrow_42 ⟨Nat.le_of_ble_eq_true rfl, rfl⟩ rfl rfl ?_)
        refine go_wp (hI _) (wq_iload dX4_narrow_44 rfl rfl ?_)
        refine go_wp (hI _) (wq_if_ne (t := 52) dX4_narrow_46 (by decide) rfl (fun q4 => ?_) (fun q4 => ?_))
        · have q4' : Int32.toInt ((gi cs2 64 1) &&& ((gi cs2 65) m.toNatClampNeg)) ≠ Int32.toInt 0 := (ab_ieq (x := ((gi cs2 64 1) &&& ((gi cs2 65) m.toNatClampNeg))) (y := 0)).2 q4
          refine go_wp (hI _) (wq_aload_n dX4_narrow_52 rfl rfl ?_)
          refine go_wp (hI _) (wq_iload dX4_narrow_53 rfl rfl ?_)
          refine go_wp (hI _) (wq_putfield (fs' := (gsc.set 1 (.int ((gi cs2 64 1) &&& ((gi cs2 65) m.toNatClampNeg))))) (cs' := (cs2.set 64 (.inr (4, (gsc.set 1 (.int ((gi cs2 64 1) &&& ((gi cs2 65) m.toNatClampNeg)))))))) dX4_narrow_55 fe_X4_21 h64c (by omega) trivial rfl rfl rfl ?_)
          obtain ⟨hk3, hf3, hr3⟩ := hu_put (j := 1) (v := ((gi cs2 64 1) &&& ((gi cs2 65) m.toNatClampNeg))) hk2 rfl h64c rfl
          have er3 := (gi_ri hr3).1
          refine go_wp (hI _) (wq_iload dX4_narrow_58 rfl rfl ?_)
          refine go_wp (hI _) (wq_ireturn dX4_narrow_60 trivial (hQ _ _ hk3 ((hf12.sub (by decide)).tr (hf3.sub (by decide))) (by rw [es2, ej]; exact (hu_tl (fun q => by rcases q with q | q | q | q <;> omega) (by rw [← es2, ← ej]; exact q4')).1) (by rw [er3, es2, ej]; exact (hu_tl (fun q => by rcases q with q | q | q | q <;> omega) (by rw [← es2, ← ej]; exact q4')).2)))
        · have q4' : Int32.toInt ((gi cs2 64 1) &&& ((gi cs2 65) m.toNatClampNeg)) = Int32.toInt 0 := (ab_ieq (x := ((gi cs2 64 1) &&& ((gi cs2 65) m.toNatClampNeg))) (y := 0)).1 q4
          refine go_wp (hI _) (wq_ldc (v := (-1000000002)) dX4_narrow_49 rfl rfl ?_)
          refine go_wp (hI _) (wq_ireturn dX4_narrow_51 trivial (hQ _ _ hk2 (hf12.sub (by decide)) (hu_tn (fun q => by rcases q with q | q | q | q <;> omega) (by rw [← es2, ← ej]; exact q4')).1 ((congrArg Int32.toInt es2).trans (hu_tn (fun q => by rcases q with q | q | q | q <;> omega) (by rw [← es2, ← ej]; exact q4')).2)))
      · have q3' : Int32.toInt c ≥ Int32.toInt ((1 : Int32) <<< ((gi cs 7 7) &&& 31)) := (ab_ilt (x := c) (y := ((1 : Int32) <<< ((gi cs 7 7) &&& 31)))).2 q3
        refine go_wp (hI _) (wq_ldc (v := (-1000000001)) dX4_narrow_22 rfl rfl ?_)
        refine go_wp (hI _) (wq_ireturn dX4_narrow_24 trivial (hQ _ _ hk1 (hx_fr hf1) ((hu_tb (by unfold hu_b; omega)).1) ((congrArg Int32.toInt es).trans (hu_tb (by unfold hu_b; omega)).2)))
set_option maxRecDepth 100000 in
theorem bm_X4_narrow (l : Launch) : ex_Met l yX4_narrow cX4_narrow 5 (some .int) 2 46 (ab_sp ab_hd bc_X4_narrow) := by
  intro D ad ca n sz av cs Q h
  refine ex_lmet (by decide) rfl (bj_X4_narrow l) D ad ca n sz av cs Q ?_
  obtain ⟨c0, hc0, ⟨hp1, hp2, -⟩, hk, hQ⟩ := h
  have hc' : c0 = ([.inl 64, .inl 7, .inr (-2147483648, 2147483647), .inr (-2147483648, 2147483647)], [], [(64, some 1), (65, none)], [(some (-2147483648, 2147483647, some (900000004, 0)), [], [((1, 64, 1), -2147483648, 2147483647, some (900000005, 0))])]) := by
    unfold bc_X4_narrow bq_X4_narrow at hc0
    simpa using hc0
  subst hc'
  obtain ⟨v0, e0, pz0⟩ := hp2 0 _ rfl
  obtain ⟨v1, e1, pz1⟩ := hp2 1 _ rfl
  obtain ⟨v2, e2, c, rfl, c1, c2⟩ := hp2 2 _ rfl
  obtain ⟨v3, e3, m, rfl, m1, m2⟩ := hp2 3 _ rfl
  cases pz0
  cases pz1
  have hav : av = [.ref 64, .ref 7, .int c, .int m] := hx_av4 hp1 e0 e1 e2 e3
  subst hav
  refine sl_in 60 (fun _ => none) rfl (Nat.le_of_ble_eq_true rfl) rfl (nw_w0 (fun _ => rfl) hk (fun x cs' hk' hf' hx hs => ?_)) (fun pc J n lv st cs' hI hJ => (by cases hI))
  refine hQ _ _ ⟨hk', hf', _, List.mem_cons_self, ⟨x, rfl, hx_tb x, fun d hd => ?_⟩, fun q hq => (by cases hq), fun q hq => ?_⟩
  · cases hd
    rw [hg_4, hx]
    show _ = _ + (0 : Int)
    omega
  · rcases List.mem_singleton.mp hq with rfl
    exact hu_ff (hu_r64 hk') (by rw [hg_5]; exact hs)
theorem ba_J6_bitCount_0f7a4 : ec_al [(657, Cond.code yJ6_bitCount_0f7a4 cJ6_bitCount_0f7a4 1 (some .int)), (69, Cond.initialized yJ6_bitCount_0f7a4.cls), (656, Cond.static yJ6_bitCount_0f7a4)] := ec_alk (by decide +kernel)
theorem bw_J6_bitCount_0f7a4 : ec_cw yJ6_bitCount_0f7a4 cJ6_bitCount_0f7a4 1 (some .int) := ⟨ba_J6_bitCount_0f7a4.1, ba_J6_bitCount_0f7a4.2.1, nc_RJ6⟩
theorem bv_J6_bitCount_0f7a4 : Cond.static yJ6_bitCount_0f7a4 ∈ ec_tb := ba_J6_bitCount_0f7a4.2.2.1
theorem bp_J6_bitCount_0f7a4 : (parseMethodDescriptor yJ6_bitCount_0f7a4.desc).map (fun d => d.parameters.length) = some 1 := by decide +kernel
theorem bo_J6_bitCount_0f7a4 : bl_J6_bitCount_0f7a4.all (fun q => decide (Cond.constant RJ6 q.1 q.2 ∈ lw_tbl) && goodWord (Cond.constant RJ6 q.1 q.2)) = true := by decide +kernel
theorem bj_J6_bitCount_0f7a4 (l : Launch) : ex_ok l 0 0 bx_J6_bitCount_0f7a4 := ⟨fun _ _ _ _ _ h => (by cases h), ec_cok bo_J6_bitCount_0f7a4, fun _ _ h => (by cases h), ec_okn, fun _ h => (by cases h), fun _ h => (by cases h), fun _ h => (by cases h), fun _ _ h => (by cases h)⟩
theorem dJ6_bitCount_0f7a4_0 : decode cJ6_bitCount_0f7a4 0 = .ok (.iload_n 0, 1) := by decide +kernel
theorem dJ6_bitCount_0f7a4_1 : decode cJ6_bitCount_0f7a4 1 = .ok (.iload_n 0, 1) := by decide +kernel
theorem dJ6_bitCount_0f7a4_2 : decode cJ6_bitCount_0f7a4 2 = .ok (.iconst 1, 1) := by decide +kernel
theorem dJ6_bitCount_0f7a4_3 : decode cJ6_bitCount_0f7a4 3 = .ok (.iushr, 1) := by decide +kernel
theorem dJ6_bitCount_0f7a4_4 : decode cJ6_bitCount_0f7a4 4 = .ok (.ldc_w 265, 3) := by decide +kernel
theorem dJ6_bitCount_0f7a4_7 : decode cJ6_bitCount_0f7a4 7 = .ok (.iand, 1) := by decide +kernel
theorem dJ6_bitCount_0f7a4_8 : decode cJ6_bitCount_0f7a4 8 = .ok (.isub, 1) := by decide +kernel
theorem dJ6_bitCount_0f7a4_9 : decode cJ6_bitCount_0f7a4 9 = .ok (.istore_n 0, 1) := by decide +kernel
theorem dJ6_bitCount_0f7a4_10 : decode cJ6_bitCount_0f7a4 10 = .ok (.iload_n 0, 1) := by decide +kernel
theorem dJ6_bitCount_0f7a4_11 : decode cJ6_bitCount_0f7a4 11 = .ok (.ldc_w 266, 3) := by decide +kernel
theorem dJ6_bitCount_0f7a4_14 : decode cJ6_bitCount_0f7a4 14 = .ok (.iand, 1) := by decide +kernel
theorem dJ6_bitCount_0f7a4_15 : decode cJ6_bitCount_0f7a4 15 = .ok (.iload_n 0, 1) := by decide +kernel
theorem dJ6_bitCount_0f7a4_16 : decode cJ6_bitCount_0f7a4 16 = .ok (.iconst 2, 1) := by decide +kernel
theorem dJ6_bitCount_0f7a4_17 : decode cJ6_bitCount_0f7a4 17 = .ok (.iushr, 1) := by decide +kernel
theorem dJ6_bitCount_0f7a4_18 : decode cJ6_bitCount_0f7a4 18 = .ok (.ldc_w 266, 3) := by decide +kernel
theorem dJ6_bitCount_0f7a4_21 : decode cJ6_bitCount_0f7a4 21 = .ok (.iand, 1) := by decide +kernel
theorem dJ6_bitCount_0f7a4_22 : decode cJ6_bitCount_0f7a4 22 = .ok (.iadd, 1) := by decide +kernel
theorem dJ6_bitCount_0f7a4_23 : decode cJ6_bitCount_0f7a4 23 = .ok (.istore_n 0, 1) := by decide +kernel
theorem dJ6_bitCount_0f7a4_24 : decode cJ6_bitCount_0f7a4 24 = .ok (.iload_n 0, 1) := by decide +kernel
theorem dJ6_bitCount_0f7a4_25 : decode cJ6_bitCount_0f7a4 25 = .ok (.iload_n 0, 1) := by decide +kernel
theorem dJ6_bitCount_0f7a4_26 : decode cJ6_bitCount_0f7a4 26 = .ok (.iconst 4, 1) := by decide +kernel
theorem dJ6_bitCount_0f7a4_27 : decode cJ6_bitCount_0f7a4 27 = .ok (.iushr, 1) := by decide +kernel
theorem dJ6_bitCount_0f7a4_28 : decode cJ6_bitCount_0f7a4 28 = .ok (.iadd, 1) := by decide +kernel
theorem dJ6_bitCount_0f7a4_29 : decode cJ6_bitCount_0f7a4 29 = .ok (.ldc_w 267, 3) := by decide +kernel
theorem dJ6_bitCount_0f7a4_32 : decode cJ6_bitCount_0f7a4 32 = .ok (.iand, 1) := by decide +kernel
theorem dJ6_bitCount_0f7a4_33 : decode cJ6_bitCount_0f7a4 33 = .ok (.istore_n 0, 1) := by decide +kernel
theorem dJ6_bitCount_0f7a4_34 : decode cJ6_bitCount_0f7a4 34 = .ok (.iload_n 0, 1) := by decide +kernel
theorem dJ6_bitCount_0f7a4_35 : decode cJ6_bitCount_0f7a4 35 = .ok (.iload_n 0, 1) := by decide +kernel
theorem dJ6_bitCount_0f7a4_36 : decode cJ6_bitCount_0f7a4 36 = .ok (.bipush 8, 2) := by decide +kernel
theorem dJ6_bitCount_0f7a4_38 : decode cJ6_bitCount_0f7a4 38 = .ok (.iushr, 1) := by decide +kernel
theorem dJ6_bitCount_0f7a4_39 : decode cJ6_bitCount_0f7a4 39 = .ok (.iadd, 1) := by decide +kernel
theorem dJ6_bitCount_0f7a4_40 : decode cJ6_bitCount_0f7a4 40 = .ok (.istore_n 0, 1) := by decide +kernel
theorem dJ6_bitCount_0f7a4_41 : decode cJ6_bitCount_0f7a4 41 = .ok (.iload_n 0, 1) := by decide +kernel
theorem dJ6_bitCount_0f7a4_42 : decode cJ6_bitCount_0f7a4 42 = .ok (.iload_n 0, 1) := by decide +kernel
theorem dJ6_bitCount_0f7a4_43 : decode cJ6_bitCount_0f7a4 43 = .ok (.bipush 16, 2) := by decide +kernel
theorem dJ6_bitCount_0f7a4_45 : decode cJ6_bitCount_0f7a4 45 = .ok (.iushr, 1) := by decide +kernel
theorem dJ6_bitCount_0f7a4_46 : decode cJ6_bitCount_0f7a4 46 = .ok (.iadd, 1) := by decide +kernel
theorem dJ6_bitCount_0f7a4_47 : decode cJ6_bitCount_0f7a4 47 = .ok (.istore_n 0, 1) := by decide +kernel
theorem dJ6_bitCount_0f7a4_48 : decode cJ6_bitCount_0f7a4 48 = .ok (.iload_n 0, 1) := by decide +kernel
theorem dJ6_bitCount_0f7a4_49 : decode cJ6_bitCount_0f7a4 49 = .ok (.bipush 63, 2) := by decide +kernel
theorem dJ6_bitCount_0f7a4_51 : decode cJ6_bitCount_0f7a4 51 = .ok (.iand, 1) := by decide +kernel
theorem dJ6_bitCount_0f7a4_52 : decode cJ6_bitCount_0f7a4 52 = .ok (.ireturn, 1) := by decide +kernel
set_option maxRecDepth 100000 in
set_option maxHeartbeats 4000000 in
theorem bi_w0 {cs : ex_C} {Q : ex_Q} {I : Nat → Option (ex_L → ex_V → ex_C → Prop)} {x : Int32} (hI : ∀ pc, I pc = none) (hk1 : ab_hk ab_hd cs) (hQ : ∀ (r : Int32) cs', ab_hk ab_hd cs' → ab_fr [] cs cs' → r = bc_J x → Q (some (.int r)) cs') : ex_wp ec_xt bx_J6_bitCount_0f7a4 cJ6_bitCount_0f7a4 (some .int) I Q 60 0 [some (.int x)] [] cs := by
  refine wq_iload_n dJ6_bitCount_0f7a4_0 rfl rfl ?_
  refine go_wp (hI _) (wq_iload_n dJ6_bitCount_0f7a4_1 rfl rfl ?_)
  refine go_wp (hI _) (wq_iconst (v := 1) dJ6_bitCount_0f7a4_2 (by decide) rfl ?_)
  refine go_wp (hI _) (wq_iushr (v := (ir_s x 1)) dJ6_bitCount_0f7a4_3 rfl rfl ?_)
  refine go_wp (hI _) (wq_ldc_w (v := 1431655765) dJ6_bitCount_0f7a4_4 rfl rfl ?_)
  refine go_wp (hI _) (wq_iand (v := ((ir_s x 1) &&& 1431655765)) dJ6_bitCount_0f7a4_7 rfl rfl ?_)
  refine go_wp (hI _) (wq_isub (v := (x - ((ir_s x 1) &&& 1431655765))) dJ6_bitCount_0f7a4_8 rfl rfl ?_)
  refine go_wp (hI _) (wq_istore_n (lv' := [some (.int (bc_1 x))]) dJ6_bitCount_0f7a4_9 ⟨Nat.le_of_ble_eq_true rfl, trivial⟩ rfl rfl ?_)
  refine go_wp (hI _) (wq_iload_n dJ6_bitCount_0f7a4_10 rfl rfl ?_)
  refine go_wp (hI _) (wq_ldc_w (v := 858993459) dJ6_bitCount_0f7a4_11 rfl rfl ?_)
  refine go_wp (hI _) (wq_iand (v := ((bc_1 x) &&& 858993459)) dJ6_bitCount_0f7a4_14 rfl rfl ?_)
  refine go_wp (hI _) (wq_iload_n dJ6_bitCount_0f7a4_15 rfl rfl ?_)
  refine go_wp (hI _) (wq_iconst (v := 2) dJ6_bitCount_0f7a4_16 (by decide) rfl ?_)
  refine go_wp (hI _) (wq_iushr (v := (ir_s (bc_1 x) 2)) dJ6_bitCount_0f7a4_17 rfl rfl ?_)
  refine go_wp (hI _) (wq_ldc_w (v := 858993459) dJ6_bitCount_0f7a4_18 rfl rfl ?_)
  refine go_wp (hI _) (wq_iand (v := ((ir_s (bc_1 x) 2) &&& 858993459)) dJ6_bitCount_0f7a4_21 rfl rfl ?_)
  refine go_wp (hI _) (wq_iadd (v := (((bc_1 x) &&& 858993459) + ((ir_s (bc_1 x) 2) &&& 858993459))) dJ6_bitCount_0f7a4_22 rfl rfl ?_)
  refine go_wp (hI _) (wq_istore_n (lv' := [some (.int (bc_2 (bc_1 x)))]) dJ6_bitCount_0f7a4_23 ⟨Nat.le_of_ble_eq_true rfl, trivial⟩ rfl rfl ?_)
  refine go_wp (hI _) (wq_iload_n dJ6_bitCount_0f7a4_24 rfl rfl ?_)
  refine go_wp (hI _) (wq_iload_n dJ6_bitCount_0f7a4_25 rfl rfl ?_)
  refine go_wp (hI _) (wq_iconst (v := 4) dJ6_bitCount_0f7a4_26 (by decide) rfl ?_)
  refine go_wp (hI _) (wq_iushr (v := (ir_s (bc_2 (bc_1 x)) 4)) dJ6_bitCount_0f7a4_27 rfl rfl ?_)
  refine go_wp (hI _) (wq_iadd (v := ((bc_2 (bc_1 x)) + (ir_s (bc_2 (bc_1 x)) 4))) dJ6_bitCount_0f7a4_28 rfl rfl ?_)
  refine go_wp (hI _) (wq_ldc_w (v := 252645135) dJ6_bitCount_0f7a4_29 rfl rfl ?_)
  refine go_wp (hI _) (wq_iand (v := (((bc_2 (bc_1 x)) + (ir_s (bc_2 (bc_1 x)) 4)) &&& 252645135)) dJ6_bitCount_0f7a4_32 rfl rfl ?_)
  refine go_wp (hI _) (wq_istore_n (lv' := [some (.int (bc_3 (bc_2 (bc_1 x))))]) dJ6_bitCount_0f7a4_33 ⟨Nat.le_of_ble_eq_true rfl, trivial⟩ rfl rfl ?_)
  refine go_wp (hI _) (wq_iload_n dJ6_bitCount_0f7a4_34 rfl rfl ?_)
  refine go_wp (hI _) (wq_iload_n dJ6_bitCount_0f7a4_35 rfl rfl ?_)
  refine go_wp (hI _) (wq_bipush (v := 8) dJ6_bitCount_0f7a4_36 (by decide) rfl ?_)
  refine go_wp (hI _) (wq_iushr (v := (ir_s (bc_3 (bc_2 (bc_1 x))) 8)) dJ6_bitCount_0f7a4_38 rfl rfl ?_)
  refine go_wp (hI _) (wq_iadd (v := ((bc_3 (bc_2 (bc_1 x))) + (ir_s (bc_3 (bc_2 (bc_1 x))) 8))) dJ6_bitCount_0f7a4_39 rfl rfl ?_)
  refine go_wp (hI _) (wq_istore_n (lv' := [some (.int (bc_4 (bc_3 (bc_2 (bc_1 x)))))]) dJ6_bitCount_0f7a4_40 ⟨Nat.le_of_ble_eq_true rfl, trivial⟩ rfl rfl ?_)
  refine go_wp (hI _) (wq_iload_n dJ6_bitCount_0f7a4_41 rfl rfl ?_)
  refine go_wp (hI _) (wq_iload_n dJ6_bitCount_0f7a4_42 rfl rfl ?_)
  refine go_wp (hI _) (wq_bipush (v := 16) dJ6_bitCount_0f7a4_43 (by decide) rfl ?_)
  refine go_wp (hI _) (wq_iushr (v := (ir_s (bc_4 (bc_3 (bc_2 (bc_1 x)))) 16)) dJ6_bitCount_0f7a4_45 rfl rfl ?_)
  refine go_wp (hI _) (wq_iadd (v := ((bc_4 (bc_3 (bc_2 (bc_1 x)))) + (ir_s (bc_4 (bc_3 (bc_2 (bc_1 x)))) 16))) dJ6_bitCount_0f7a4_46 rfl rfl ?_)
  refine go_wp (hI _) (wq_istore_n (lv' := [some (.int (bc_5 (bc_4 (bc_3 (bc_2 (bc_1 x))))))]) dJ6_bitCount_0f7a4_47 ⟨Nat.le_of_ble_eq_true rfl, trivial⟩ rfl rfl ?_)
  refine go_wp (hI _) (wq_iload_n dJ6_bitCount_0f7a4_48 rfl rfl ?_)
  refine go_wp (hI _) (wq_bipush (v := 63) dJ6_bitCount_0f7a4_49 (by decide) rfl ?_)
  refine go_wp (hI _) (wq_iand (v := ((bc_5 (bc_4 (bc_3 (bc_2 (bc_1 x))))) &&& 63)) dJ6_bitCount_0f7a4_51 rfl rfl ?_)
  refine go_wp (hI _) (wq_ireturn dJ6_bitCount_0f7a4_52 trivial (hQ _ _ hk1 ab_rf0 rfl))
set_option maxRecDepth 100000 in
theorem bm_J6_bitCount_0f7a4 (l : Launch) : ex_Met l yJ6_bitCount_0f7a4 cJ6_bitCount_0f7a4 1 (some .int) 0 0 (ab_sp ab_hd bc_J6_bitCount_0f7a4) := by
  intro D ad ca n sz av cs Q h
  refine ex_lmet (by decide) rfl (bj_J6_bitCount_0f7a4 l) D ad ca n sz av cs Q ?_
  obtain ⟨c0, hc0, ⟨hp1, hp2, -⟩, hk, hQ⟩ := h
  have hc' : c0 = ([.inr (-2147483648, 2147483647)], [], [], [(some (-2147483648, 2147483647, some (1000000001, 0)), [], [])]) := by
    unfold bc_J6_bitCount_0f7a4 bq_J6_bitCount_0f7a4 at hc0
    simpa using hc0
  subst hc'
  obtain ⟨v0, e0, x, rfl, x1, x2⟩ := hp2 0 _ rfl
  have hav : av = [.int x] := hx_av1 hp1 e0
  subst hav
  have hQ' : ∀ (r : Int32) cs', ab_hk ab_hd cs' → ab_fr [] cs cs' → r = bc_J x → Q (some (.int r)) cs' := by
    intro r cs' hk' hf' hr
    refine hQ _ _ ⟨hk', hf', _, List.mem_cons_self, ⟨r, rfl, hx_tb r, fun d hd => ?_⟩, fun q hq => (by cases hq), fun q hq => (by cases hq)⟩
    cases hd
    show _ = ab_oo _ _ _ + (0 : Int)
    rw [hd_12, hr]
    omega
  exact sl_in 60 (fun _ => none) rfl (Nat.le_of_ble_eq_true rfl) rfl (bi_w0 (fun _ => rfl) hk hQ') (fun pc J n lv st cs' hI hJ => (by cases hI))
theorem ba_X4_leftAtWorst : ec_al [(987, Cond.code yX4_leftAtWorst cX4_leftAtWorst 5 (some .int)), (66, Cond.initialized yX4_leftAtWorst.cls), (986, Cond.instanceMethod yX4_leftAtWorst), (21, Cond.selects yX4_leftAtWorst.cls yX4_leftAtWorst yX4_leftAtWorst), (967, Cond.methodLink RX4 32 yX4_findParts), (988, Cond.methodLink RX4 41 yJ6_bitCount_0f7a4)] := ec_alk (by decide +kernel)
theorem bw_X4_leftAtWorst : ec_cw yX4_leftAtWorst cX4_leftAtWorst 5 (some .int) := ⟨ba_X4_leftAtWorst.1, ba_X4_leftAtWorst.2.1, nc_RX4⟩
theorem bv_X4_leftAtWorst : Cond.instanceMethod yX4_leftAtWorst ∈ ec_tb ∧ Cond.selects yX4_leftAtWorst.cls yX4_leftAtWorst yX4_leftAtWorst ∈ ec_tb := ⟨ba_X4_leftAtWorst.2.2.1, ba_X4_leftAtWorst.2.2.2.1⟩
theorem bp_X4_leftAtWorst : (parseMethodDescriptor yX4_leftAtWorst.desc).map (fun d => d.parameters.length) = some 2 := by decide +kernel
theorem bk_X4_leftAtWorst (l : Launch) : ∀ (ix n : Nat) (rc : Option Nat) (sp : ex_S), (be_X4_leftAtWorst ix).map (fun q => (q.1, q.2.1, ab_sp ab_hd q.2.2)) = some (n, rc, sp) → ex_cok l RX4 2 46 ix n rc sp := by
  intro ix n rc sp h
  obtain ⟨l0, h2, rfl⟩ := ab_dmk h
  clear h
  unfold be_X4_leftAtWorst at h2
  split at h2
  · cases h2; exact ec_cV (bm_X4_findParts l) bw_X4_findParts bv_X4_findParts (by decide) (by decide) (Or.inl ba_X4_leftAtWorst.2.2.2.2.1) (T := TX4) (N := 2) rfl (by decide) bp_X4_findParts
  · cases h2; exact ec_cS (bm_J6_bitCount_0f7a4 l) bw_J6_bitCount_0f7a4 bv_J6_bitCount_0f7a4 (by decide) (by decide) (Or.inl ba_X4_leftAtWorst.2.2.2.2.2.1) bp_J6_bitCount_0f7a4
  · cases h2
theorem bj_X4_leftAtWorst (l : Launch) : ex_ok l 2 46 bx_X4_leftAtWorst := ⟨ec_fok fo_X4, ec_cok co_X4, so_X4, bk_X4_leftAtWorst l, am_X4, ax_X4 (by decide) (by decide), ao_X4, fun _ _ h => (by cases h)⟩
theorem dX4_leftAtWorst_0 : decode cX4_leftAtWorst 0 = .ok (.aload_n 0, 1) := by decide +kernel
theorem dX4_leftAtWorst_1 : decode cX4_leftAtWorst 1 = .ok (.aload_n 1, 1) := by decide +kernel
theorem dX4_leftAtWorst_2 : decode cX4_leftAtWorst 2 = .ok (.iload_n 2, 1) := by decide +kernel
theorem dX4_leftAtWorst_3 : decode cX4_leftAtWorst 3 = .ok (.invokevirtual 32, 3) := by decide +kernel
theorem dX4_leftAtWorst_6 : decode cX4_leftAtWorst 6 = .ok (.iconst 0, 1) := by decide +kernel
theorem dX4_leftAtWorst_7 : decode cX4_leftAtWorst 7 = .ok (.istore_n 3, 1) := by decide +kernel
theorem dX4_leftAtWorst_8 : decode cX4_leftAtWorst 8 = .ok (.iconst 0, 1) := by decide +kernel
theorem dX4_leftAtWorst_9 : decode cX4_leftAtWorst 9 = .ok (.istore 4, 2) := by decide +kernel
theorem dX4_leftAtWorst_11 : decode cX4_leftAtWorst 11 = .ok (.iload 4, 2) := by decide +kernel
theorem dX4_leftAtWorst_13 : decode cX4_leftAtWorst 13 = .ok (.aload_n 1, 1) := by decide +kernel
theorem dX4_leftAtWorst_14 : decode cX4_leftAtWorst 14 = .ok (.getfield 15, 3) := by decide +kernel
theorem dX4_leftAtWorst_17 : decode cX4_leftAtWorst 17 = .ok (.if_icmp .ge 29, 3) := by decide +kernel
theorem dX4_leftAtWorst_20 : decode cX4_leftAtWorst 20 = .ok (.iload_n 3, 1) := by decide +kernel
theorem dX4_leftAtWorst_21 : decode cX4_leftAtWorst 21 = .ok (.aload_n 0, 1) := by decide +kernel
theorem dX4_leftAtWorst_22 : decode cX4_leftAtWorst 22 = .ok (.getfield 9, 3) := by decide +kernel
theorem dX4_leftAtWorst_25 : decode cX4_leftAtWorst 25 = .ok (.iload 4, 2) := by decide +kernel
theorem dX4_leftAtWorst_27 : decode cX4_leftAtWorst 27 = .ok (.iaload, 1) := by decide +kernel
theorem dX4_leftAtWorst_28 : decode cX4_leftAtWorst 28 = .ok (.aload_n 0, 1) := by decide +kernel
theorem dX4_leftAtWorst_29 : decode cX4_leftAtWorst 29 = .ok (.getfield 21, 3) := by decide +kernel
theorem dX4_leftAtWorst_32 : decode cX4_leftAtWorst 32 = .ok (.iand, 1) := by decide +kernel
theorem dX4_leftAtWorst_33 : decode cX4_leftAtWorst 33 = .ok (.invokestatic 41, 3) := by decide +kernel
theorem dX4_leftAtWorst_36 : decode cX4_leftAtWorst 36 = .ok (.invokestatic 47, 3) := by decide +kernel
theorem dX4_leftAtWorst_39 : decode cX4_leftAtWorst 39 = .ok (.istore_n 3, 1) := by decide +kernel
theorem dX4_leftAtWorst_40 : decode cX4_leftAtWorst 40 = .ok (.iinc 4 1, 3) := by decide +kernel
theorem dX4_leftAtWorst_43 : decode cX4_leftAtWorst 43 = .ok (.goto (-32), 3) := by decide +kernel
theorem dX4_leftAtWorst_46 : decode cX4_leftAtWorst 46 = .ok (.iload_n 3, 1) := by decide +kernel
theorem dX4_leftAtWorst_47 : decode cX4_leftAtWorst 47 = .ok (.ireturn, 1) := by decide +kernel
def lt_J (c : Int32) (cs0 : ex_C) : Nat → ex_L → ex_V → ex_C → Prop := fun n lv st cs => st = [] ∧ ab_hk ab_hd cs ∧ ab_fr [(65, none)] cs0 cs ∧ (∀ j, j < 6 → gi cs 65 j = (pt_n (gi cs0 7) (gi cs0 10) (gi cs0 11) (gi cs0 65) c) j) ∧ ∃ a i : Int32, lv = [some (.ref 64), some (.ref 7), some (.int c), some (.int a), some (.int i)] ∧ a = lw_f (pt_n (gi cs0 7) (gi cs0 10) (gi cs0 11) (gi cs0 65) c) (gi cs0 64 1) i.toNatClampNeg ∧ 0 ≤ i.toInt ∧ i.toInt ≤ (gi cs0 7 6).toInt ∧ (n : Int) = 20 - i.toInt
def lt_I (c : Int32) (cs0 : ex_C) (pc : Nat) : Option (Nat → ex_L → ex_V → ex_C → Prop) := if pc = 11 then some (lt_J c cs0) else none
def lt_B (c : Int32) (cs0 : ex_C) (n : Nat) : Nat → Option (ex_L → ex_V → ex_C → Prop) := fun pc => (lt_I c cs0 pc).map (fun J' lv st cs => ∃ n', n' < n ∧ J' n' lv st cs)
def lt_A (c : Int32) (cs0 : ex_C) : Nat → Option (ex_L → ex_V → ex_C → Prop) := fun pc => (lt_I c cs0 pc).map (fun J' lv st cs => ∃ n', J' n' lv st cs)
set_option maxRecDepth 100000 in
set_option maxHeartbeats 4000000 in
theorem lt_w11 {cs cs1 : ex_C} {Q : ex_Q} {c : Int32} (hk1 : ab_hk ab_hd cs1) (hf : ab_fr [(65, none)] cs cs1) (hj1 : ∀ j, j < 6 → gi cs1 65 j = (pt_n (gi cs 7) (gi cs 10) (gi cs 11) (gi cs 65) c) j) (hQ : ∀ (r : Int32) cs', ab_hk ab_hd cs' → ab_fr [(65, none)] cs cs' → (∀ j, j < 6 → gi cs' 65 j = (pt_n (gi cs 7) (gi cs 10) (gi cs 11) (gi cs 65) c) j) → r = lw (gi cs 7) (gi cs 10) (gi cs 11) (gi cs 65) (gi cs 64 1) c → Q (some (.int r)) cs') {n : Nat} {a i : Int32} (ha : a = lw_f (pt_n (gi cs 7) (gi cs 10) (gi cs 11) (gi cs 65) c) (gi cs 64 1) i.toNatClampNeg) (b3 : 0 ≤ i.toInt) (b4 : i.toInt ≤ (gi cs 7 6).toInt) (hn : (n : Int) = 20 - i.toInt) : ex_wp ec_xt bx_X4_leftAtWorst cX4_leftAtWorst (some .int) (lt_B c cs n) Q 60 11 [some (.ref 64), some (.ref 7), some (.int c), some (.int a), some (.int i)] [] cs1 := by
  have z0 := ab_z0
  obtain ⟨fs, h7, a6, a7, a2, a3, h10, h11, ⟨M1, M2⟩, ⟨H1, H2⟩, E10, E11⟩ := hu_air (cs := cs) hk1 (gi_fr hf (fun _ => rfl)) (gi_fr hf (fun _ => rfl)) (gi_fr hf (fun _ => rfl))
  obtain ⟨gs, h64, ul, u0, u1, h65⟩ := hu_hun hk1
  have es : gi cs1 64 1 = gi cs 64 1 := gi_f1 hf rfl
  refine wq_iload dX4_leftAtWorst_11 rfl rfl ?_
  refine go_wp rfl (wq_aload_n dX4_leftAtWorst_13 rfl rfl ?_)
  refine go_wp rfl (wq_getfield dX4_leftAtWorst_14 fe_X4_15 h7 a6 rfl ?_)
  refine go_wp rfl (wq_icmp_ge (t := 46) dX4_leftAtWorst_17 (by decide) rfl (fun q1 => ?_) (fun q1 => ?_))
  · have q1' : Int32.toInt i ≥ Int32.toInt (gi cs 7 6) := (ab_ige (x := i) (y := (gi cs 7 6))).1 q1
    refine go_wp rfl (wq_iload_n dX4_leftAtWorst_46 rfl rfl ?_)
    refine go_wp rfl (wq_ireturn dX4_leftAtWorst_47 trivial (hQ _ _ hk1 hf hj1 (by rw [ha, show i = gi cs 7 6 from Int32.toInt_inj.mp (by omega)]; rfl)))
  · have q1' : Int32.toInt i < Int32.toInt (gi cs 7 6) := (ab_ige (x := i) (y := (gi cs 7 6))).2 q1
    refine go_wp rfl (wq_iload_n dX4_leftAtWorst_20 rfl rfl ?_)
    refine go_wp rfl (wq_aload_n dX4_leftAtWorst_21 rfl rfl ?_)
    refine go_wp rfl (wq_getfield dX4_leftAtWorst_22 fe_X4_9 h64 u0 rfl ?_)
    refine go_wp rfl (wq_iload dX4_leftAtWorst_25 rfl rfl ?_)
    refine go_wp rfl (wq_iaload (v := ((gi cs1 65) i.toNatClampNeg)) dX4_leftAtWorst_27 (by decide) h65 (vp_mk (by omega) (by omega)) rfl rfl ?_)
    refine go_wp rfl (wq_aload_n dX4_leftAtWorst_28 rfl rfl ?_)
    refine go_wp rfl (wq_getfield dX4_leftAtWorst_29 fe_X4_21 h64 u1 rfl ?_)
    refine go_wp rfl (wq_iand (v := (((gi cs1 65) i.toNatClampNeg) &&& (gi cs1 64 1))) dX4_leftAtWorst_32 rfl rfl ?_)
    refine go_wp rfl (wq_static (q := 1) (av := [.int (((gi cs1 65) i.toNatClampNeg) &&& (gi cs1 64 1))]) (r := [.int a]) dX4_leftAtWorst_33 rfl rfl (Nat.le_of_ble_eq_true rfl) rfl rfl (Nat.le_of_ble_eq_true rfl) rfl (hx_call 0 (c := ([.inr ((-2147483648), 2147483647)], [], [], [(some ((-2147483648), 2147483647, some (1000000001, 0)), [], [])])) rfl (hx_pr1 (hx_ci (hx_tb _))) hk1 (fun r cs2 hp => ?_)))
    obtain ⟨hk2, hg2, y2, rfl, hy2, -⟩ := hu_int hp
    refine ret_int ?_
    rw [hd_12] at hy2
    have hf2 := hf.tr (hx_fr (W := [(65, none)]) hg2)
    refine go_wp rfl (wq_max (v := (mx a y2)) dX4_leftAtWorst_36 rfl (Nat.le_of_ble_eq_true rfl) rfl rfl ?_)
    refine go_wp rfl (wq_istore_n (lv' := [some (.ref 64), some (.ref 7), some (.int c), some (.int (mx a y2)), some (.int i)]) dX4_leftAtWorst_39 ⟨Nat.le_of_ble_eq_true rfl, rfl⟩ rfl rfl ?_)
    refine go_wp rfl (wq_iinc (v := (i + Int32.ofInt 1)) (lv' := [some (.ref 64), some (.ref 7), some (.int c), some (.int (mx a y2)), some (.int (i + Int32.ofInt 1))]) dX4_leftAtWorst_40 rfl ⟨Nat.le_of_ble_eq_true rfl, rfl⟩ rfl rfl rfl ?_)
    refine go_wp rfl (wq_goto (t := 11) dX4_leftAtWorst_43 (by decide) ?_)
    have hi := ab_inc (x := i) (by omega) (by omega)
    have nn : i.toNatClampNeg = i.toInt.toNat := rfl
    exact go_cut rfl ⟨(20 - (i.toInt + 1)).toNat, (by omega), rfl, hk2, hf2, (fun j hj => by rw [gi_fr (k := 65) hg2 (fun _ => rfl)]; exact hj1 j hj), _, _, rfl, (by rw [ha]; exact lw_s b3 (by omega) (by rw [hj1 _ (by omega), es]) hy2), (by omega), (by omega), (by omega)⟩
set_option maxRecDepth 100000 in
set_option maxHeartbeats 4000000 in
theorem lt_w0 {cs : ex_C} {Q : ex_Q} {c : Int32} (hk1 : ab_hk ab_hd cs) : ex_wp ec_xt bx_X4_leftAtWorst cX4_leftAtWorst (some .int) (lt_A c cs) Q 60 0 [some (.ref 64), some (.ref 7), some (.int c), none, none] [] cs := by
  have z0 := ab_z0
  obtain ⟨fs, h7, a6, a7, a2, a3, h10, h11, ⟨M1, M2⟩, ⟨H1, H2⟩, E10, E11⟩ := hu_air (cs := cs) hk1 (rfl) (rfl) (rfl)
  obtain ⟨gs, h64, ul, u0, u1, h65⟩ := hu_hun hk1
  refine wq_aload_n dX4_leftAtWorst_0 rfl rfl ?_
  refine go_wp rfl (wq_aload_n dX4_leftAtWorst_1 rfl rfl ?_)
  refine go_wp rfl (wq_iload_n dX4_leftAtWorst_2 rfl rfl ?_)
  refine go_wp rfl (wq_virtual (q := 3) (ci := 4) (a := 64) (av := [.ref 64, .ref 7, .int c]) (r := []) dX4_leftAtWorst_3 rfl (Nat.le_of_ble_eq_true rfl) rfl rfl rfl (Nat.le_of_ble_eq_true rfl) h64 rfl (hx_call 0 (c := ([.inl 64, .inl 7, .inr ((-2147483648), 2147483647)], [], [(65, none)], [(none, [], [((1, 65, 0), (-2147483648), 2147483647, some (900000020, 0)), ((1, 65, 1), (-2147483648), 2147483647, some (900000021, 0)), ((1, 65, 2), (-2147483648), 2147483647, some (900000022, 0)), ((1, 65, 3), (-2147483648), 2147483647, some (900000023, 0)), ((1, 65, 4), (-2147483648), 2147483647, some (900000024, 0)), ((1, 65, 5), (-2147483648), 2147483647, some (900000025, 0))])])) rfl (hx_pr3 hx_cr hx_cr (hx_ci (hx_tb _))) hk1 (fun r cs2 hp => ?_)))
  obtain ⟨hk2, hf2, rfl, hn2⟩ := hu_void hp
  refine ret_void ?_
  have hj2 := hu_f6 (cs := cs) hn2 ab_rf0
  refine go_wp rfl (wq_iconst (v := 0) dX4_leftAtWorst_6 (by decide) rfl ?_)
  refine go_wp rfl (wq_istore_n (lv' := [some (.ref 64), some (.ref 7), some (.int c), some (.int 0), none]) dX4_leftAtWorst_7 ⟨Nat.le_of_ble_eq_true rfl, rfl⟩ rfl rfl ?_)
  refine go_wp rfl (wq_iconst (v := 0) dX4_leftAtWorst_8 (by decide) rfl ?_)
  refine go_wp rfl (wq_istore (lv' := [some (.ref 64), some (.ref 7), some (.int c), some (.int 0), some (.int 0)]) dX4_leftAtWorst_9 ⟨Nat.le_of_ble_eq_true rfl, rfl⟩ rfl rfl ?_)
  exact go_cut rfl ⟨20, rfl, hk2, hf2, hj2, _, _, rfl, rfl, (by rw [ab_z0]; omega), (by rw [ab_z0]; omega), (by rw [ab_z0]; omega)⟩
set_option maxRecDepth 100000 in
theorem bm_X4_leftAtWorst (l : Launch) : ex_Met l yX4_leftAtWorst cX4_leftAtWorst 5 (some .int) 2 46 (ab_sp ab_hd bc_X4_leftAtWorst) := by
  intro D ad ca n sz av cs Q h
  refine ex_lmet (by decide) rfl (bj_X4_leftAtWorst l) D ad ca n sz av cs Q ?_
  obtain ⟨c0, hc0, ⟨hp1, hp2, -⟩, hk, hQ⟩ := h
  have hc' : c0 = ([.inl 64, .inl 7, .inr (-2147483648, 2147483647)], [], [(65, none)], [(some (-2147483648, 2147483647, some (900000030, 0)), [], [((1, 65, 0), -2147483648, 2147483647, some (900000020, 0)), ((1, 65, 1), -2147483648, 2147483647, some (900000021, 0)), ((1, 65, 2), -2147483648, 2147483647, some (900000022, 0)), ((1, 65, 3), -2147483648, 2147483647, some (900000023, 0)), ((1, 65, 4), -2147483648, 2147483647, some (900000024, 0)), ((1, 65, 5), -2147483648, 2147483647, some (900000025, 0))])]) := by
    unfold bc_X4_leftAtWorst bq_X4_leftAtWorst at hc0
    simpa using hc0
  subst hc'
  obtain ⟨v0, e0, pz0⟩ := hp2 0 _ rfl
  obtain ⟨v1, e1, pz1⟩ := hp2 1 _ rfl
  obtain ⟨v2, e2, c, rfl, c1, c2⟩ := hp2 2 _ rfl
  cases pz0
  cases pz1
  have hav : av = [.ref 64, .ref 7, .int c] := hx_av3 hp1 e0 e1 e2
  subst hav
  have hQ' : ∀ (r : Int32) cs', ab_hk ab_hd cs' → ab_fr [(65, none)] cs cs' → (∀ j, j < 6 → gi cs' 65 j = (pt_n (gi cs 7) (gi cs 10) (gi cs 11) (gi cs 65) c) j) → r = lw (gi cs 7) (gi cs 10) (gi cs 11) (gi cs 65) (gi cs 64 1) c → Q (some (.int r)) cs' := by
    intro r cs' hk' hf' hr hrr
    refine hQ _ _ ⟨hk', hf', _, List.mem_cons_self, ⟨r, rfl, hx_tb r, fun d hd => ?_⟩, fun q hq => (by cases hq), fun q hq => ?_⟩
    · cases hd
      show _ = ab_oo _ _ _ + (0 : Int)
      rw [hg_30, hrr]
      omega
    obtain ⟨gs, h64, ul, u0, u1, h65⟩ := hu_hun hk'
    have ri : ∀ j, ab_ri cs' 65 j = some (gi cs' 65 j).toInt := fun j => (by
      unfold ab_ri ab_rd
      rw [h65])
    have hq' := hq
    simp only [List.mem_cons, List.not_mem_nil, or_false] at hq'
    rcases hq' with rfl | rfl | rfl | rfl | rfl | rfl
    · exact hu_ff (ri 0) (hg_f0.symm ▸ (by rw [hr 0 (by omega)]; rfl))
    · exact hu_ff (ri 1) (hg_f1.symm ▸ (by rw [hr 1 (by omega)]; rfl))
    · exact hu_ff (ri 2) (hg_f2.symm ▸ (by rw [hr 2 (by omega)]; rfl))
    · exact hu_ff (ri 3) (hg_f3.symm ▸ (by rw [hr 3 (by omega)]; rfl))
    · exact hu_ff (ri 4) (hg_f4.symm ▸ (by rw [hr 4 (by omega)]; rfl))
    · exact hu_ff (ri 5) (hg_f5.symm ▸ (by rw [hr 5 (by omega)]; rfl))
  refine sl_in 60 (lt_I c cs) rfl (Nat.le_of_ble_eq_true rfl) rfl (lt_w0 hk) (fun pc J n lv st cs1 hI hJ => ?_)
  unfold lt_I at hI
  split at hI
  · rename_i e'
    subst e'
    cases hI
    obtain ⟨rfl, hk1, hf, hj1, a, i, rfl, ha, b3, b4, hn⟩ := hJ
    exact lt_w11 hk1 hf hj1 hQ' ha b3 b4 hn
  · cases hI
theorem ba_X4_bestTest : ec_al [(983, Cond.code yX4_bestTest cX4_bestTest 9 (some .int)), (66, Cond.initialized yX4_bestTest.cls), (981, Cond.instanceMethod yX4_bestTest), (982, Cond.selects yX4_bestTest.cls yX4_bestTest yX4_bestTest), (984, Cond.methodLink RX4 37 yX4_leftAtWorst), (988, Cond.methodLink RX4 41 yJ6_bitCount_0f7a4)] := ec_alk (by decide +kernel)
theorem bw_X4_bestTest : ec_cw yX4_bestTest cX4_bestTest 9 (some .int) := ⟨ba_X4_bestTest.1, ba_X4_bestTest.2.1, nc_RX4⟩
theorem bv_X4_bestTest : Cond.instanceMethod yX4_bestTest ∈ ec_tb ∧ Cond.selects yX4_bestTest.cls yX4_bestTest yX4_bestTest ∈ ec_tb := ⟨ba_X4_bestTest.2.2.1, ba_X4_bestTest.2.2.2.1⟩
theorem bp_X4_bestTest : (parseMethodDescriptor yX4_bestTest.desc).map (fun d => d.parameters.length) = some 2 := by decide +kernel
theorem bk_X4_bestTest (l : Launch) : ∀ (ix n : Nat) (rc : Option Nat) (sp : ex_S), (be_X4_bestTest ix).map (fun q => (q.1, q.2.1, ab_sp ab_hd q.2.2)) = some (n, rc, sp) → ex_cok l RX4 3 70 ix n rc sp := by
  intro ix n rc sp h
  obtain ⟨l0, h2, rfl⟩ := ab_dmk h
  clear h
  unfold be_X4_bestTest at h2
  split at h2
  · cases h2; exact ec_cV (bm_X4_leftAtWorst l) bw_X4_leftAtWorst bv_X4_leftAtWorst (by decide) (by decide) (Or.inl ba_X4_bestTest.2.2.2.2.1) (T := TX4) (N := 2) rfl (by decide) bp_X4_leftAtWorst
  · cases h2; exact ec_cS (bm_J6_bitCount_0f7a4 l) bw_J6_bitCount_0f7a4 bv_J6_bitCount_0f7a4 (by decide) (by decide) (Or.inl ba_X4_bestTest.2.2.2.2.2.1) bp_J6_bitCount_0f7a4
  · cases h2
theorem bj_X4_bestTest (l : Launch) : ex_ok l 3 70 bx_X4_bestTest := ec_okp fo_X4 co_X4 so_X4 (bk_X4_bestTest l)
theorem dX4_bestTest_0 : decode cX4_bestTest 0 = .ok (.iload_n 2, 1) := by decide +kernel
theorem dX4_bestTest_1 : decode cX4_bestTest 1 = .ok (.ifCond .eq 11, 3) := by decide +kernel
theorem dX4_bestTest_4 : decode cX4_bestTest 4 = .ok (.iload_n 2, 1) := by decide +kernel
theorem dX4_bestTest_5 : decode cX4_bestTest 5 = .ok (.iconst 1, 1) := by decide +kernel
theorem dX4_bestTest_6 : decode cX4_bestTest 6 = .ok (.if_icmp .eq 6, 3) := by decide +kernel
theorem dX4_bestTest_9 : decode cX4_bestTest 9 = .ok (.ldc 31, 2) := by decide +kernel
theorem dX4_bestTest_11 : decode cX4_bestTest 11 = .ok (.ireturn, 1) := by decide +kernel
theorem dX4_bestTest_12 : decode cX4_bestTest 12 = .ok (.aload_n 0, 1) := by decide +kernel
theorem dX4_bestTest_13 : decode cX4_bestTest 13 = .ok (.getfield 21, 3) := by decide +kernel
theorem dX4_bestTest_16 : decode cX4_bestTest 16 = .ok (.ifCond .ne 6, 3) := by decide +kernel
theorem dX4_bestTest_19 : decode cX4_bestTest 19 = .ok (.ldc 36, 2) := by decide +kernel
theorem dX4_bestTest_21 : decode cX4_bestTest 21 = .ok (.ireturn, 1) := by decide +kernel
theorem dX4_bestTest_22 : decode cX4_bestTest 22 = .ok (.iconst 0, 1) := by decide +kernel
theorem dX4_bestTest_23 : decode cX4_bestTest 23 = .ok (.istore_n 3, 1) := by decide +kernel
theorem dX4_bestTest_24 : decode cX4_bestTest 24 = .ok (.aload_n 0, 1) := by decide +kernel
theorem dX4_bestTest_25 : decode cX4_bestTest 25 = .ok (.aload_n 1, 1) := by decide +kernel
theorem dX4_bestTest_26 : decode cX4_bestTest 26 = .ok (.iconst 0, 1) := by decide +kernel
theorem dX4_bestTest_27 : decode cX4_bestTest 27 = .ok (.invokevirtual 37, 3) := by decide +kernel
theorem dX4_bestTest_30 : decode cX4_bestTest 30 = .ok (.istore 4, 2) := by decide +kernel
theorem dX4_bestTest_32 : decode cX4_bestTest 32 = .ok (.iconst 1, 1) := by decide +kernel
theorem dX4_bestTest_33 : decode cX4_bestTest 33 = .ok (.aload_n 1, 1) := by decide +kernel
theorem dX4_bestTest_34 : decode cX4_bestTest 34 = .ok (.getfield 28, 3) := by decide +kernel
theorem dX4_bestTest_37 : decode cX4_bestTest 37 = .ok (.ishl, 1) := by decide +kernel
theorem dX4_bestTest_38 : decode cX4_bestTest 38 = .ok (.istore 5, 2) := by decide +kernel
theorem dX4_bestTest_40 : decode cX4_bestTest 40 = .ok (.iconst 1, 1) := by decide +kernel
theorem dX4_bestTest_41 : decode cX4_bestTest 41 = .ok (.istore 6, 2) := by decide +kernel
theorem dX4_bestTest_43 : decode cX4_bestTest 43 = .ok (.iload 6, 2) := by decide +kernel
theorem dX4_bestTest_45 : decode cX4_bestTest 45 = .ok (.iload 5, 2) := by decide +kernel
theorem dX4_bestTest_47 : decode cX4_bestTest 47 = .ok (.if_icmp .ge 63, 3) := by decide +kernel
theorem dX4_bestTest_50 : decode cX4_bestTest 50 = .ok (.aload_n 0, 1) := by decide +kernel
theorem dX4_bestTest_51 : decode cX4_bestTest 51 = .ok (.aload_n 1, 1) := by decide +kernel
theorem dX4_bestTest_52 : decode cX4_bestTest 52 = .ok (.iload 6, 2) := by decide +kernel
theorem dX4_bestTest_54 : decode cX4_bestTest 54 = .ok (.invokevirtual 37, 3) := by decide +kernel
theorem dX4_bestTest_57 : decode cX4_bestTest 57 = .ok (.istore 7, 2) := by decide +kernel
theorem dX4_bestTest_59 : decode cX4_bestTest 59 = .ok (.iload 6, 2) := by decide +kernel
theorem dX4_bestTest_61 : decode cX4_bestTest 61 = .ok (.invokestatic 41, 3) := by decide +kernel
theorem dX4_bestTest_64 : decode cX4_bestTest 64 = .ok (.iload_n 3, 1) := by decide +kernel
theorem dX4_bestTest_65 : decode cX4_bestTest 65 = .ok (.invokestatic 41, 3) := by decide +kernel
theorem dX4_bestTest_68 : decode cX4_bestTest 68 = .ok (.if_icmp .ge 7, 3) := by decide +kernel
theorem dX4_bestTest_71 : decode cX4_bestTest 71 = .ok (.iconst 1, 1) := by decide +kernel
theorem dX4_bestTest_72 : decode cX4_bestTest 72 = .ok (.goto 4, 3) := by decide +kernel
theorem dX4_bestTest_75 : decode cX4_bestTest 75 = .ok (.iconst 0, 1) := by decide +kernel
theorem dX4_bestTest_76 : decode cX4_bestTest 76 = .ok (.istore 8, 2) := by decide +kernel
theorem dX4_bestTest_78 : decode cX4_bestTest 78 = .ok (.iload 7, 2) := by decide +kernel
theorem dX4_bestTest_80 : decode cX4_bestTest 80 = .ok (.iload 4, 2) := by decide +kernel
theorem dX4_bestTest_82 : decode cX4_bestTest 82 = .ok (.if_icmp .lt 15, 3) := by decide +kernel
theorem dX4_bestTest_85 : decode cX4_bestTest 85 = .ok (.iload 7, 2) := by decide +kernel
theorem dX4_bestTest_87 : decode cX4_bestTest 87 = .ok (.iload 4, 2) := by decide +kernel
theorem dX4_bestTest_89 : decode cX4_bestTest 89 = .ok (.if_icmp .ne 15, 3) := by decide +kernel
theorem dX4_bestTest_92 : decode cX4_bestTest 92 = .ok (.iload 8, 2) := by decide +kernel
theorem dX4_bestTest_94 : decode cX4_bestTest 94 = .ok (.ifCond .eq 10, 3) := by decide +kernel
theorem dX4_bestTest_97 : decode cX4_bestTest 97 = .ok (.iload 6, 2) := by decide +kernel
theorem dX4_bestTest_99 : decode cX4_bestTest 99 = .ok (.istore_n 3, 1) := by decide +kernel
theorem dX4_bestTest_100 : decode cX4_bestTest 100 = .ok (.iload 7, 2) := by decide +kernel
theorem dX4_bestTest_102 : decode cX4_bestTest 102 = .ok (.istore 4, 2) := by decide +kernel
theorem dX4_bestTest_104 : decode cX4_bestTest 104 = .ok (.iinc 6 1, 3) := by decide +kernel
theorem dX4_bestTest_107 : decode cX4_bestTest 107 = .ok (.goto (-64), 3) := by decide +kernel
theorem dX4_bestTest_110 : decode cX4_bestTest 110 = .ok (.iload_n 2, 1) := by decide +kernel
theorem dX4_bestTest_111 : decode cX4_bestTest 111 = .ok (.ifCond .ne 7, 3) := by decide +kernel
theorem dX4_bestTest_114 : decode cX4_bestTest 114 = .ok (.iload_n 3, 1) := by decide +kernel
theorem dX4_bestTest_115 : decode cX4_bestTest 115 = .ok (.goto 5, 3) := by decide +kernel
theorem dX4_bestTest_118 : decode cX4_bestTest 118 = .ok (.iload 4, 2) := by decide +kernel
theorem dX4_bestTest_120 : decode cX4_bestTest 120 = .ok (.ireturn, 1) := by decide +kernel
def be_J (w : Int32) (cs0 : ex_C) : Nat → ex_L → ex_V → ex_C → Prop := fun n lv st cs => st = [] ∧ ab_hk ab_hd cs ∧ ab_fr [(65, none)] cs0 cs ∧ (w.toInt = 0 ∨ w.toInt = 1) ∧ ¬ (gi cs0 64 1).toInt = 0 ∧ ∃ (k : Nat) (b a i : Int32) (x7 x8 : Option Value), lv = [some (.ref 64), some (.ref 7), some (.int w), some (.int b), some (.int a), some (.int ((1 : Int32) <<< ((gi cs0 7 7) &&& 31))), some (.int i), x7, x8] ∧ (∀ j, j < 6 → gi cs 65 j = (bt_f (gi cs0 7) (gi cs0 10) (gi cs0 11) (gi cs0 65) (gi cs0 64 1) k).2.2 j) ∧ b = (bt_f (gi cs0 7) (gi cs0 10) (gi cs0 11) (gi cs0 65) (gi cs0 64 1) k).1 ∧ a = (bt_f (gi cs0 7) (gi cs0 10) (gi cs0 11) (gi cs0 65) (gi cs0 64 1) k).2.1 ∧ i.toInt = (k : Int) + 1 ∧ i.toInt ≤ ((1 : Int32) <<< ((gi cs0 7 7) &&& 31)).toInt ∧ (n : Int) = 300 - i.toInt
def be_I (w : Int32) (cs0 : ex_C) (pc : Nat) : Option (Nat → ex_L → ex_V → ex_C → Prop) := if pc = 43 then some (be_J w cs0) else none
def be_B (w : Int32) (cs0 : ex_C) (n : Nat) : Nat → Option (ex_L → ex_V → ex_C → Prop) := fun pc => (be_I w cs0 pc).map (fun J' lv st cs => ∃ n', n' < n ∧ J' n' lv st cs)
def be_A (w : Int32) (cs0 : ex_C) : Nat → Option (ex_L → ex_V → ex_C → Prop) := fun pc => (be_I w cs0 pc).map (fun J' lv st cs => ∃ n', J' n' lv st cs)
set_option maxRecDepth 100000 in
set_option maxHeartbeats 4000000 in
theorem be_w43 {cs cs1 : ex_C} {Q : ex_Q} {w : Int32} (hk1 : ab_hk ab_hd cs1) (hf : ab_fr [(65, none)] cs cs1) (hw : w.toInt = 0 ∨ w.toInt = 1) (hs0 : ¬ (gi cs 64 1).toInt = 0) (hQ : ∀ (r : Int32) cs', ab_hk ab_hd cs' → ab_fr [(65, none)] cs cs' → r.toInt = (bt (gi cs 7) (gi cs 10) (gi cs 11) (gi cs 64) (gi cs 65) w) → Q (some (.int r)) cs') {n k : Nat} {b a i : Int32} {x7 x8 : Option Value} (hj1 : ∀ j, j < 6 → gi cs1 65 j = (bt_f (gi cs 7) (gi cs 10) (gi cs 11) (gi cs 65) (gi cs 64 1) k).2.2 j) (hb : b = (bt_f (gi cs 7) (gi cs 10) (gi cs 11) (gi cs 65) (gi cs 64 1) k).1) (ha : a = (bt_f (gi cs 7) (gi cs 10) (gi cs 11) (gi cs 65) (gi cs 64 1) k).2.1) (hi1 : i.toInt = (k : Int) + 1) (hi2 : i.toInt ≤ ((1 : Int32) <<< ((gi cs 7 7) &&& 31)).toInt) (hn : (n : Int) = 300 - i.toInt) : ex_wp ec_xt bx_X4_bestTest cX4_bestTest (some .int) (be_B w cs n) Q 90 43 [some (.ref 64), some (.ref 7), some (.int w), some (.int b), some (.int a), some (.int ((1 : Int32) <<< ((gi cs 7 7) &&& 31))), some (.int i), x7, x8] [] cs1 := by
  have z0 := ab_z0
  obtain ⟨fs, h7, a6, a7, a2, a3, h10, h11, ⟨M1, M2⟩, ⟨H1, H2⟩, E10, E11⟩ := hu_air (cs := cs) hk1 (gi_fr hf (fun _ => rfl)) (gi_fr hf (fun _ => rfl)) (gi_fr hf (fun _ => rfl))
  obtain ⟨gs, h64, ul, u0, u1, h65⟩ := hu_hun hk1
  have es : gi cs1 64 1 = gi cs 64 1 := gi_f1 hf rfl
  have hsh := (hu_sh H1 H2).2
  have hkk : ((1 : Int32) <<< ((gi cs 7 7) &&& 31)).toInt ≤ i.toInt → k = bs_n (gi cs 7 7) := fun h => (by
    unfold bs_n
    omega)
  refine wq_iload dX4_bestTest_43 rfl rfl ?_
  refine go_wp rfl (wq_iload dX4_bestTest_45 rfl rfl ?_)
  refine go_wp rfl (wq_icmp_ge (t := 110) dX4_bestTest_47 (by decide) rfl (fun q1 => ?_) (fun q1 => ?_))
  · have q1' : Int32.toInt i ≥ Int32.toInt ((1 : Int32) <<< ((gi cs 7 7) &&& 31)) := (ab_ige (x := i) (y := ((1 : Int32) <<< ((gi cs 7 7) &&& 31)))).1 q1
    refine go_wp rfl (wq_iload_n dX4_bestTest_110 rfl rfl ?_)
    refine go_wp rfl (wq_if_ne (t := 118) dX4_bestTest_111 (by decide) rfl (fun q2 => ?_) (fun q2 => ?_))
    · have q2' : Int32.toInt w ≠ Int32.toInt 0 := (ab_ieq (x := w) (y := 0)).2 q2
      refine go_wp rfl (wq_iload dX4_bestTest_118 rfl rfl ?_)
      refine go_wp rfl (wq_ireturn dX4_bestTest_120 trivial (hQ _ _ hk1 hf (by rw [ha]; exact (bt_ye hw hs0 (hkk (by omega))).2 q2')))
    · have q2' : Int32.toInt w = Int32.toInt 0 := (ab_ieq (x := w) (y := 0)).1 q2
      refine go_wp rfl (wq_iload_n dX4_bestTest_114 rfl rfl ?_)
      refine go_wp rfl (wq_goto (t := 120) dX4_bestTest_115 (by decide) ?_)
      refine go_wp rfl (wq_ireturn dX4_bestTest_120 trivial (hQ _ _ hk1 hf (by rw [hb]; exact (bt_ye hw hs0 (hkk (by omega))).1 q2')))
  · have q1' : Int32.toInt i < Int32.toInt ((1 : Int32) <<< ((gi cs 7 7) &&& 31)) := (ab_ige (x := i) (y := ((1 : Int32) <<< ((gi cs 7 7) &&& 31)))).2 q1
    refine go_wp rfl (wq_aload_n dX4_bestTest_50 rfl rfl ?_)
    refine go_wp rfl (wq_aload_n dX4_bestTest_51 rfl rfl ?_)
    refine go_wp rfl (wq_iload dX4_bestTest_52 rfl rfl ?_)
    refine go_wp rfl (wq_virtual (q := 3) (ci := 4) (a := 64) (av := [.ref 64, .ref 7, .int i]) (r := []) dX4_bestTest_54 rfl (Nat.le_of_ble_eq_true rfl) rfl rfl rfl (Nat.le_of_ble_eq_true rfl) h64 rfl (hx_call 0 (c := ([.inl 64, .inl 7, .inr ((-2147483648), 2147483647)], [], [(65, none)], [(some ((-2147483648), 2147483647, some (900000030, 0)), [], [((1, 65, 0), (-2147483648), 2147483647, some (900000020, 0)), ((1, 65, 1), (-2147483648), 2147483647, some (900000021, 0)), ((1, 65, 2), (-2147483648), 2147483647, some (900000022, 0)), ((1, 65, 3), (-2147483648), 2147483647, some (900000023, 0)), ((1, 65, 4), (-2147483648), 2147483647, some (900000024, 0)), ((1, 65, 5), (-2147483648), 2147483647, some (900000025, 0))])])) rfl (hx_pr3 hx_cr hx_cr (hx_ci (hx_tb _))) hk1 (fun r cs2 hp => ?_)))
    obtain ⟨hk2, hg2, y2, rfl, hy2, hn2⟩ := hu_int hp
    refine ret_int ?_
    rw [hg_30] at hy2
    have hj2 := hu_f6 hn2 ab_rf0
    rw [gi_fr (k := 7) hf (fun _ => rfl), gi_fr (k := 10) hf (fun _ => rfl), gi_fr (k := 11) hf (fun _ => rfl), es, (lw_p M2 H2 hj1 E10 E11).1] at hy2
    rw [gi_fr (k := 7) hf (fun _ => rfl), gi_fr (k := 10) hf (fun _ => rfl), gi_fr (k := 11) hf (fun _ => rfl)] at hj2
    have hp2 : ∀ j, j < 6 → gi cs2 65 j = pt_n (gi cs 7) (gi cs 10) (gi cs 11) (bt_f (gi cs 7) (gi cs 10) (gi cs 11) (gi cs 65) (gi cs 64 1) k).2.2 i j := fun j hj => (hj2 j hj).trans ((lw_p (s := gi cs 64 1) M2 H2 hj1 E10 E11).2 j hj)
    have hf2 := hf.tr hg2
    refine go_wp rfl (wq_istore (lv' := [some (.ref 64), some (.ref 7), some (.int w), some (.int b), some (.int a), some (.int ((1 : Int32) <<< ((gi cs 7 7) &&& 31))), some (.int i), some (.int y2), x8]) dX4_bestTest_57 ⟨Nat.le_of_ble_eq_true rfl, rfl⟩ rfl rfl ?_)
    refine go_wp rfl (wq_iload dX4_bestTest_59 rfl rfl ?_)
    refine go_wp rfl (wq_static (q := 1) (av := [.int i]) (r := []) dX4_bestTest_61 rfl rfl (Nat.le_of_ble_eq_true rfl) rfl rfl (Nat.le_of_ble_eq_true rfl) rfl (hx_call 0 (c := ([.inr ((-2147483648), 2147483647)], [], [], [(some ((-2147483648), 2147483647, some (1000000001, 0)), [], [])])) rfl (hx_pr1 (hx_ci (hx_tb _))) hk2 (fun r cs3 hp => ?_)))
    obtain ⟨hk3, hg3, y3, rfl, hy3, -⟩ := hu_int hp
    refine ret_int ?_
    rw [hd_12] at hy3
    have hf3 := hf2.tr (hx_fr (W := [(65, none)]) hg3)
    refine go_wp rfl (wq_iload_n dX4_bestTest_64 rfl rfl ?_)
    refine go_wp rfl (wq_static (q := 1) (av := [.int b]) (r := [.int y3]) dX4_bestTest_65 rfl rfl (Nat.le_of_ble_eq_true rfl) rfl rfl (Nat.le_of_ble_eq_true rfl) rfl (hx_call 0 (c := ([.inr ((-2147483648), 2147483647)], [], [], [(some ((-2147483648), 2147483647, some (1000000001, 0)), [], [])])) rfl (hx_pr1 (hx_ci (hx_tb _))) hk3 (fun r cs4 hp => ?_)))
    obtain ⟨hk4, hg4, y4, rfl, hy4, -⟩ := hu_int hp
    refine ret_int ?_
    rw [hd_12] at hy4
    have hf4 := hf3.tr (hx_fr (W := [(65, none)]) hg4)
    refine go_wp rfl (wq_icmp_ge (t := 75) dX4_bestTest_68 (by decide) rfl (fun q3 => ?_) (fun q3 => ?_))
    · have q3' : Int32.toInt y3 ≥ Int32.toInt y4 := (ab_ige (x := y3) (y := y4)).1 q3
      refine go_wp rfl (wq_iconst (v := 0) dX4_bestTest_75 (by decide) rfl ?_)
      refine go_wp rfl (wq_istore (lv' := [some (.ref 64), some (.ref 7), some (.int w), some (.int b), some (.int a), some (.int ((1 : Int32) <<< ((gi cs 7 7) &&& 31))), some (.int i), some (.int y2), some (.int 0)]) dX4_bestTest_76 ⟨Nat.le_of_ble_eq_true rfl, rfl⟩ rfl rfl ?_)
      refine go_wp rfl (wq_iload dX4_bestTest_78 rfl rfl ?_)
      refine go_wp rfl (wq_iload dX4_bestTest_80 rfl rfl ?_)
      refine go_wp rfl (wq_icmp_lt (t := 97) dX4_bestTest_82 (by decide) rfl (fun q4 => ?_) (fun q4 => ?_))
      · have q4' : Int32.toInt y2 < Int32.toInt a := (ab_ilt (x := y2) (y := a)).1 q4
        refine go_wp rfl (wq_iload dX4_bestTest_97 rfl rfl ?_)
        refine go_wp rfl (wq_istore_n (lv' := [some (.ref 64), some (.ref 7), some (.int w), some (.int i), some (.int a), some (.int ((1 : Int32) <<< ((gi cs 7 7) &&& 31))), some (.int i), some (.int y2), some (.int 0)]) dX4_bestTest_99 ⟨Nat.le_of_ble_eq_true rfl, rfl⟩ rfl rfl ?_)
        refine go_wp rfl (wq_iload dX4_bestTest_100 rfl rfl ?_)
        refine go_wp rfl (wq_istore (lv' := [some (.ref 64), some (.ref 7), some (.int w), some (.int i), some (.int y2), some (.int ((1 : Int32) <<< ((gi cs 7 7) &&& 31))), some (.int i), some (.int y2), some (.int 0)]) dX4_bestTest_102 ⟨Nat.le_of_ble_eq_true rfl, rfl⟩ rfl rfl ?_)
        refine go_wp rfl (wq_iinc (v := (i + Int32.ofInt 1)) (lv' := [some (.ref 64), some (.ref 7), some (.int w), some (.int i), some (.int y2), some (.int ((1 : Int32) <<< ((gi cs 7 7) &&& 31))), some (.int (i + Int32.ofInt 1)), some (.int y2), some (.int 0)]) dX4_bestTest_104 rfl ⟨Nat.le_of_ble_eq_true rfl, rfl⟩ rfl rfl rfl ?_)
        refine go_wp rfl (wq_goto (t := 43) dX4_bestTest_107 (by decide) ?_)
        have hi := ab_inc (x := i) (by omega) (by omega)
        have e65 : gi cs4 65 = gi cs2 65 := (gi_fr hg4 (fun _ => rfl)).trans (gi_fr hg3 (fun _ => rfl))
        have en : bt_f (gi cs 7) (gi cs 10) (gi cs 11) (gi cs 65) (gi cs 64 1) (k + 1) = (i, y2, pt_n (gi cs 7) (gi cs 10) (gi cs 11) (bt_f (gi cs 7) (gi cs 10) (gi cs 11) (gi cs 65) (gi cs 64 1) k).2.2 i) := by
          show bt_n (gi cs 7) (gi cs 10) (gi cs 11) (gi cs 64 1) (Int32.ofNat (k + 1)) (bt_f (gi cs 7) (gi cs 10) (gi cs 11) (gi cs 65) (gi cs 64 1) k) = _
          rw [← nx_n hi1]
          exact bt_1 (l := y2) (y := y3) (z := y4) hy2 hy3 (by rw [← hb]; exact hy4) (by rw [← ha]; omega)
        exact go_cut rfl ⟨(300 - (i.toInt + 1)).toNat, (by omega), rfl, hk4, hf4, hw, hs0, k + 1, _, _, _, _, _, rfl, (fun j hj => by rw [e65, en]; exact hp2 j hj), (congrArg Prod.fst en).symm, (congrArg (fun q => q.2.1) en).symm, (by omega), (by omega), (by omega)⟩
      · have q4' : Int32.toInt y2 ≥ Int32.toInt a := (ab_ilt (x := y2) (y := a)).2 q4
        refine go_wp rfl (wq_iload dX4_bestTest_85 rfl rfl ?_)
        refine go_wp rfl (wq_iload dX4_bestTest_87 rfl rfl ?_)
        refine go_wp rfl (wq_icmp_ne (t := 104) dX4_bestTest_89 (by decide) rfl (fun q5 => ?_) (fun q5 => ?_))
        · have q5' : Int32.toInt y2 ≠ Int32.toInt a := (ab_ieq (x := y2) (y := a)).2 q5
          refine go_wp rfl (wq_iinc (v := (i + Int32.ofInt 1)) (lv' := [some (.ref 64), some (.ref 7), some (.int w), some (.int b), some (.int a), some (.int ((1 : Int32) <<< ((gi cs 7 7) &&& 31))), some (.int (i + Int32.ofInt 1)), some (.int y2), some (.int 0)]) dX4_bestTest_104 rfl ⟨Nat.le_of_ble_eq_true rfl, rfl⟩ rfl rfl rfl ?_)
          refine go_wp rfl (wq_goto (t := 43) dX4_bestTest_107 (by decide) ?_)
          have hi := ab_inc (x := i) (by omega) (by omega)
          have e65 : gi cs4 65 = gi cs2 65 := (gi_fr hg4 (fun _ => rfl)).trans (gi_fr hg3 (fun _ => rfl))
          have en : bt_f (gi cs 7) (gi cs 10) (gi cs 11) (gi cs 65) (gi cs 64 1) (k + 1) = ((bt_f (gi cs 7) (gi cs 10) (gi cs 11) (gi cs 65) (gi cs 64 1) k).1, (bt_f (gi cs 7) (gi cs 10) (gi cs 11) (gi cs 65) (gi cs 64 1) k).2.1, pt_n (gi cs 7) (gi cs 10) (gi cs 11) (bt_f (gi cs 7) (gi cs 10) (gi cs 11) (gi cs 65) (gi cs 64 1) k).2.2 i) := by
            show bt_n (gi cs 7) (gi cs 10) (gi cs 11) (gi cs 64 1) (Int32.ofNat (k + 1)) (bt_f (gi cs 7) (gi cs 10) (gi cs 11) (gi cs 65) (gi cs 64 1) k) = _
            rw [← nx_n hi1]
            exact bt_0 (l := y2) (y := y3) (z := y4) hy2 hy3 (by rw [← hb]; exact hy4) (by rw [← ha]; omega)
          exact go_cut rfl ⟨(300 - (i.toInt + 1)).toNat, (by omega), rfl, hk4, hf4, hw, hs0, k + 1, _, _, _, _, _, rfl, (fun j hj => by rw [e65, en]; exact hp2 j hj), hb.trans (congrArg Prod.fst en).symm, ha.trans (congrArg (fun q => q.2.1) en).symm, (by omega), (by omega), (by omega)⟩
        · have q5' : Int32.toInt y2 = Int32.toInt a := (ab_ieq (x := y2) (y := a)).1 q5
          refine go_wp rfl (wq_iload dX4_bestTest_92 rfl rfl ?_)
          refine go_wp rfl (wq_if_eq (t := 104) dX4_bestTest_94 (by decide) rfl (fun q6 => ?_) (fun q6 => ?_))
          · have q6' : Int32.toInt 0 = Int32.toInt 0 := (ab_ieq (x := 0) (y := 0)).1 q6
            refine go_wp rfl (wq_iinc (v := (i + Int32.ofInt 1)) (lv' := [some (.ref 64), some (.ref 7), some (.int w), some (.int b), some (.int a), some (.int ((1 : Int32) <<< ((gi cs 7 7) &&& 31))), some (.int (i + Int32.ofInt 1)), some (.int y2), some (.int 0)]) dX4_bestTest_104 rfl ⟨Nat.le_of_ble_eq_true rfl, rfl⟩ rfl rfl rfl ?_)
            refine go_wp rfl (wq_goto (t := 43) dX4_bestTest_107 (by decide) ?_)
            have hi := ab_inc (x := i) (by omega) (by omega)
            have e65 : gi cs4 65 = gi cs2 65 := (gi_fr hg4 (fun _ => rfl)).trans (gi_fr hg3 (fun _ => rfl))
            have en : bt_f (gi cs 7) (gi cs 10) (gi cs 11) (gi cs 65) (gi cs 64 1) (k + 1) = ((bt_f (gi cs 7) (gi cs 10) (gi cs 11) (gi cs 65) (gi cs 64 1) k).1, (bt_f (gi cs 7) (gi cs 10) (gi cs 11) (gi cs 65) (gi cs 64 1) k).2.1, pt_n (gi cs 7) (gi cs 10) (gi cs 11) (bt_f (gi cs 7) (gi cs 10) (gi cs 11) (gi cs 65) (gi cs 64 1) k).2.2 i) := by
              show bt_n (gi cs 7) (gi cs 10) (gi cs 11) (gi cs 64 1) (Int32.ofNat (k + 1)) (bt_f (gi cs 7) (gi cs 10) (gi cs 11) (gi cs 65) (gi cs 64 1) k) = _
              rw [← nx_n hi1]
              exact bt_0 (l := y2) (y := y3) (z := y4) hy2 hy3 (by rw [← hb]; exact hy4) (by rw [← ha]; omega)
            exact go_cut rfl ⟨(300 - (i.toInt + 1)).toNat, (by omega), rfl, hk4, hf4, hw, hs0, k + 1, _, _, _, _, _, rfl, (fun j hj => by rw [e65, en]; exact hp2 j hj), hb.trans (congrArg Prod.fst en).symm, ha.trans (congrArg (fun q => q.2.1) en).symm, (by omega), (by omega), (by omega)⟩
          · have q6' : Int32.toInt 0 ≠ Int32.toInt 0 := (ab_ieq (x := 0) (y := 0)).2 q6
            refine go_wp rfl (wq_iload dX4_bestTest_97 rfl rfl ?_)
            refine go_wp rfl (wq_istore_n (lv' := [some (.ref 64), some (.ref 7), some (.int w), some (.int i), some (.int a), some (.int ((1 : Int32) <<< ((gi cs 7 7) &&& 31))), some (.int i), some (.int y2), some (.int 0)]) dX4_bestTest_99 ⟨Nat.le_of_ble_eq_true rfl, rfl⟩ rfl rfl ?_)
            refine go_wp rfl (wq_iload dX4_bestTest_100 rfl rfl ?_)
            refine go_wp rfl (wq_istore (lv' := [some (.ref 64), some (.ref 7), some (.int w), some (.int i), some (.int y2), some (.int ((1 : Int32) <<< ((gi cs 7 7) &&& 31))), some (.int i), some (.int y2), some (.int 0)]) dX4_bestTest_102 ⟨Nat.le_of_ble_eq_true rfl, rfl⟩ rfl rfl ?_)
            refine go_wp rfl (wq_iinc (v := (i + Int32.ofInt 1)) (lv' := [some (.ref 64), some (.ref 7), some (.int w), some (.int i), some (.int y2), some (.int ((1 : Int32) <<< ((gi cs 7 7) &&& 31))), some (.int (i + Int32.ofInt 1)), some (.int y2), some (.int 0)]) dX4_bestTest_104 rfl ⟨Nat.le_of_ble_eq_true rfl, rfl⟩ rfl rfl rfl ?_)
            refine go_wp rfl (wq_goto (t := 43) dX4_bestTest_107 (by decide) ?_)
            exact absurd q6' (by decide)
    · have q3' : Int32.toInt y3 < Int32.toInt y4 := (ab_ige (x := y3) (y := y4)).2 q3
      refine go_wp rfl (wq_iconst (v := 1) dX4_bestTest_71 (by decide) rfl ?_)
      refine go_wp rfl (wq_goto (t := 76) dX4_bestTest_72 (by decide) ?_)
      refine go_wp rfl (wq_istore (lv' := [some (.ref 64), some (.ref 7), some (.int w), some (.int b), some (.int a), some (.int ((1 : Int32) <<< ((gi cs 7 7) &&& 31))), some (.int i), some (.int y2), some (.int 1)]) dX4_bestTest_76 ⟨Nat.le_of_ble_eq_true rfl, rfl⟩ rfl rfl ?_)
      refine go_wp rfl (wq_iload dX4_bestTest_78 rfl rfl ?_)
      refine go_wp rfl (wq_iload dX4_bestTest_80 rfl rfl ?_)
      refine go_wp rfl (wq_icmp_lt (t := 97) dX4_bestTest_82 (by decide) rfl (fun q7 => ?_) (fun q7 => ?_))
      · have q7' : Int32.toInt y2 < Int32.toInt a := (ab_ilt (x := y2) (y := a)).1 q7
        refine go_wp rfl (wq_iload dX4_bestTest_97 rfl rfl ?_)
        refine go_wp rfl (wq_istore_n (lv' := [some (.ref 64), some (.ref 7), some (.int w), some (.int i), some (.int a), some (.int ((1 : Int32) <<< ((gi cs 7 7) &&& 31))), some (.int i), some (.int y2), some (.int 1)]) dX4_bestTest_99 ⟨Nat.le_of_ble_eq_true rfl, rfl⟩ rfl rfl ?_)
        refine go_wp rfl (wq_iload dX4_bestTest_100 rfl rfl ?_)
        refine go_wp rfl (wq_istore (lv' := [some (.ref 64), some (.ref 7), some (.int w), some (.int i), some (.int y2), some (.int ((1 : Int32) <<< ((gi cs 7 7) &&& 31))), some (.int i), some (.int y2), some (.int 1)]) dX4_bestTest_102 ⟨Nat.le_of_ble_eq_true rfl, rfl⟩ rfl rfl ?_)
        refine go_wp rfl (wq_iinc (v := (i + Int32.ofInt 1)) (lv' := [some (.ref 64), some (.ref 7), some (.int w), some (.int i), some (.int y2), some (.int ((1 : Int32) <<< ((gi cs 7 7) &&& 31))), some (.int (i + Int32.ofInt 1)), some (.int y2), some (.int 1)]) dX4_bestTest_104 rfl ⟨Nat.le_of_ble_eq_true rfl, rfl⟩ rfl rfl rfl ?_)
        refine go_wp rfl (wq_goto (t := 43) dX4_bestTest_107 (by decide) ?_)
        have hi := ab_inc (x := i) (by omega) (by omega)
        have e65 : gi cs4 65 = gi cs2 65 := (gi_fr hg4 (fun _ => rfl)).trans (gi_fr hg3 (fun _ => rfl))
        have en : bt_f (gi cs 7) (gi cs 10) (gi cs 11) (gi cs 65) (gi cs 64 1) (k + 1) = (i, y2, pt_n (gi cs 7) (gi cs 10) (gi cs 11) (bt_f (gi cs 7) (gi cs 10) (gi cs 11) (gi cs 65) (gi cs 64 1) k).2.2 i) := by
          show bt_n (gi cs 7) (gi cs 10) (gi cs 11) (gi cs 64 1) (Int32.ofNat (k + 1)) (bt_f (gi cs 7) (gi cs 10) (gi cs 11) (gi cs 65) (gi cs 64 1) k) = _
          rw [← nx_n hi1]
          exact bt_1 (l := y2) (y := y3) (z := y4) hy2 hy3 (by rw [← hb]; exact hy4) (by rw [← ha]; omega)
        exact go_cut rfl ⟨(300 - (i.toInt + 1)).toNat, (by omega), rfl, hk4, hf4, hw, hs0, k + 1, _, _, _, _, _, rfl, (fun j hj => by rw [e65, en]; exact hp2 j hj), (congrArg Prod.fst en).symm, (congrArg (fun q => q.2.1) en).symm, (by omega), (by omega), (by omega)⟩
      · have q7' : Int32.toInt y2 ≥ Int32.toInt a := (ab_ilt (x := y2) (y := a)).2 q7
        refine go_wp rfl (wq_iload dX4_bestTest_85 rfl rfl ?_)
        refine go_wp rfl (wq_iload dX4_bestTest_87 rfl rfl ?_)
        refine go_wp rfl (wq_icmp_ne (t := 104) dX4_bestTest_89 (by decide) rfl (fun q8 => ?_) (fun q8 => ?_))
        · have q8' : Int32.toInt y2 ≠ Int32.toInt a := (ab_ieq (x := y2) (y := a)).2 q8
          refine go_wp rfl (wq_iinc (v := (i + Int32.ofInt 1)) (lv' := [some (.ref 64), some (.ref 7), some (.int w), some (.int b), some (.int a), some (.int ((1 : Int32) <<< ((gi cs 7 7) &&& 31))), some (.int (i + Int32.ofInt 1)), some (.int y2), some (.int 1)]) dX4_bestTest_104 rfl ⟨Nat.le_of_ble_eq_true rfl, rfl⟩ rfl rfl rfl ?_)
          refine go_wp rfl (wq_goto (t := 43) dX4_bestTest_107 (by decide) ?_)
          have hi := ab_inc (x := i) (by omega) (by omega)
          have e65 : gi cs4 65 = gi cs2 65 := (gi_fr hg4 (fun _ => rfl)).trans (gi_fr hg3 (fun _ => rfl))
          have en : bt_f (gi cs 7) (gi cs 10) (gi cs 11) (gi cs 65) (gi cs 64 1) (k + 1) = ((bt_f (gi cs 7) (gi cs 10) (gi cs 11) (gi cs 65) (gi cs 64 1) k).1, (bt_f (gi cs 7) (gi cs 10) (gi cs 11) (gi cs 65) (gi cs 64 1) k).2.1, pt_n (gi cs 7) (gi cs 10) (gi cs 11) (bt_f (gi cs 7) (gi cs 10) (gi cs 11) (gi cs 65) (gi cs 64 1) k).2.2 i) := by
            show bt_n (gi cs 7) (gi cs 10) (gi cs 11) (gi cs 64 1) (Int32.ofNat (k + 1)) (bt_f (gi cs 7) (gi cs 10) (gi cs 11) (gi cs 65) (gi cs 64 1) k) = _
            rw [← nx_n hi1]
            exact bt_0 (l := y2) (y := y3) (z := y4) hy2 hy3 (by rw [← hb]; exact hy4) (by rw [← ha]; omega)
          exact go_cut rfl ⟨(300 - (i.toInt + 1)).toNat, (by omega), rfl, hk4, hf4, hw, hs0, k + 1, _, _, _, _, _, rfl, (fun j hj => by rw [e65, en]; exact hp2 j hj), hb.trans (congrArg Prod.fst en).symm, ha.trans (congrArg (fun q => q.2.1) en).symm, (by omega), (by omega), (by omega)⟩
        · have q8' : Int32.toInt y2 = Int32.toInt a := (ab_ieq (x := y2) (y := a)).1 q8
          refine go_wp rfl (wq_iload dX4_bestTest_92 rfl rfl ?_)
          refine go_wp rfl (wq_if_eq (t := 104) dX4_bestTest_94 (by decide) rfl (fun q9 => ?_) (fun q9 => ?_))
          · have q9' : Int32.toInt 1 = Int32.toInt 0 := (ab_ieq (x := 1) (y := 0)).1 q9
            refine go_wp rfl (wq_iinc (v := (i + Int32.ofInt 1)) (lv' := [some (.ref 64), some (.ref 7), some (.int w), some (.int b), some (.int a), some (.int ((1 : Int32) <<< ((gi cs 7 7) &&& 31))), some (.int (i + Int32.ofInt 1)), some (.int y2), some (.int 1)]) dX4_bestTest_104 rfl ⟨Nat.le_of_ble_eq_true rfl, rfl⟩ rfl rfl rfl ?_)
            refine go_wp rfl (wq_goto (t := 43) dX4_bestTest_107 (by decide) ?_)
            exact absurd q9' (by decide)
          · have q9' : Int32.toInt 1 ≠ Int32.toInt 0 := (ab_ieq (x := 1) (y := 0)).2 q9
            refine go_wp rfl (wq_iload dX4_bestTest_97 rfl rfl ?_)
            refine go_wp rfl (wq_istore_n (lv' := [some (.ref 64), some (.ref 7), some (.int w), some (.int i), some (.int a), some (.int ((1 : Int32) <<< ((gi cs 7 7) &&& 31))), some (.int i), some (.int y2), some (.int 1)]) dX4_bestTest_99 ⟨Nat.le_of_ble_eq_true rfl, rfl⟩ rfl rfl ?_)
            refine go_wp rfl (wq_iload dX4_bestTest_100 rfl rfl ?_)
            refine go_wp rfl (wq_istore (lv' := [some (.ref 64), some (.ref 7), some (.int w), some (.int i), some (.int y2), some (.int ((1 : Int32) <<< ((gi cs 7 7) &&& 31))), some (.int i), some (.int y2), some (.int 1)]) dX4_bestTest_102 ⟨Nat.le_of_ble_eq_true rfl, rfl⟩ rfl rfl ?_)
            refine go_wp rfl (wq_iinc (v := (i + Int32.ofInt 1)) (lv' := [some (.ref 64), some (.ref 7), some (.int w), some (.int i), some (.int y2), some (.int ((1 : Int32) <<< ((gi cs 7 7) &&& 31))), some (.int (i + Int32.ofInt 1)), some (.int y2), some (.int 1)]) dX4_bestTest_104 rfl ⟨Nat.le_of_ble_eq_true rfl, rfl⟩ rfl rfl rfl ?_)
            refine go_wp rfl (wq_goto (t := 43) dX4_bestTest_107 (by decide) ?_)
            have hi := ab_inc (x := i) (by omega) (by omega)
            have e65 : gi cs4 65 = gi cs2 65 := (gi_fr hg4 (fun _ => rfl)).trans (gi_fr hg3 (fun _ => rfl))
            have en : bt_f (gi cs 7) (gi cs 10) (gi cs 11) (gi cs 65) (gi cs 64 1) (k + 1) = (i, y2, pt_n (gi cs 7) (gi cs 10) (gi cs 11) (bt_f (gi cs 7) (gi cs 10) (gi cs 11) (gi cs 65) (gi cs 64 1) k).2.2 i) := by
              show bt_n (gi cs 7) (gi cs 10) (gi cs 11) (gi cs 64 1) (Int32.ofNat (k + 1)) (bt_f (gi cs 7) (gi cs 10) (gi cs 11) (gi cs 65) (gi cs 64 1) k) = _
              rw [← nx_n hi1]
              exact bt_1 (l := y2) (y := y3) (z := y4) hy2 hy3 (by rw [← hb]; exact hy4) (by rw [← ha]; omega)
            exact go_cut rfl ⟨(300 - (i.toInt + 1)).toNat, (by omega), rfl, hk4, hf4, hw, hs0, k + 1, _, _, _, _, _, rfl, (fun j hj => by rw [e65, en]; exact hp2 j hj), (congrArg Prod.fst en).symm, (congrArg (fun q => q.2.1) en).symm, (by omega), (by omega), (by omega)⟩
set_option maxRecDepth 100000 in
set_option maxHeartbeats 4000000 in
theorem be_w0 {cs : ex_C} {Q : ex_Q} {w : Int32} (hk1 : ab_hk ab_hd cs) (hQ : ∀ (r : Int32) cs', ab_hk ab_hd cs' → ab_fr [(65, none)] cs cs' → r.toInt = (bt (gi cs 7) (gi cs 10) (gi cs 11) (gi cs 64) (gi cs 65) w) → Q (some (.int r)) cs') : ex_wp ec_xt bx_X4_bestTest cX4_bestTest (some .int) (be_A w cs) Q 90 0 [some (.ref 64), some (.ref 7), some (.int w), none, none, none, none, none, none] [] cs := by
  have z0 := ab_z0
  obtain ⟨fs, h7, a6, a7, a2, a3, h10, h11, ⟨M1, M2⟩, ⟨H1, H2⟩, E10, E11⟩ := hu_air (cs := cs) hk1 (rfl) (rfl) (rfl)
  obtain ⟨gs, h64, ul, u0, u1, h65⟩ := hu_hun hk1
  have z1 := ab_z1
  refine wq_iload_n dX4_bestTest_0 rfl rfl ?_
  refine go_wp rfl (wq_if_eq (t := 12) dX4_bestTest_1 (by decide) rfl (fun q1 => ?_) (fun q1 => ?_))
  · have q1' : Int32.toInt w = Int32.toInt 0 := (ab_ieq (x := w) (y := 0)).1 q1
    refine go_wp rfl (wq_aload_n dX4_bestTest_12 rfl rfl ?_)
    refine go_wp rfl (wq_getfield dX4_bestTest_13 fe_X4_21 h64 u1 rfl ?_)
    refine go_wp rfl (wq_if_ne (t := 22) dX4_bestTest_16 (by decide) rfl (fun q2 => ?_) (fun q2 => ?_))
    · have q2' : Int32.toInt (gi cs 64 1) ≠ Int32.toInt 0 := (ab_ieq (x := (gi cs 64 1)) (y := 0)).2 q2
      refine go_wp rfl (wq_iconst (v := 0) dX4_bestTest_22 (by decide) rfl ?_)
      refine go_wp rfl (wq_istore_n (lv' := [some (.ref 64), some (.ref 7), some (.int w), some (.int 0), none, none, none, none, none]) dX4_bestTest_23 ⟨Nat.le_of_ble_eq_true rfl, rfl⟩ rfl rfl ?_)
      refine go_wp rfl (wq_aload_n dX4_bestTest_24 rfl rfl ?_)
      refine go_wp rfl (wq_aload_n dX4_bestTest_25 rfl rfl ?_)
      refine go_wp rfl (wq_iconst (v := 0) dX4_bestTest_26 (by decide) rfl ?_)
      refine go_wp rfl (wq_virtual (q := 3) (ci := 4) (a := 64) (av := [.ref 64, .ref 7, .int 0]) (r := []) dX4_bestTest_27 rfl (Nat.le_of_ble_eq_true rfl) rfl rfl rfl (Nat.le_of_ble_eq_true rfl) h64 rfl (hx_call 0 (c := ([.inl 64, .inl 7, .inr ((-2147483648), 2147483647)], [], [(65, none)], [(some ((-2147483648), 2147483647, some (900000030, 0)), [], [((1, 65, 0), (-2147483648), 2147483647, some (900000020, 0)), ((1, 65, 1), (-2147483648), 2147483647, some (900000021, 0)), ((1, 65, 2), (-2147483648), 2147483647, some (900000022, 0)), ((1, 65, 3), (-2147483648), 2147483647, some (900000023, 0)), ((1, 65, 4), (-2147483648), 2147483647, some (900000024, 0)), ((1, 65, 5), (-2147483648), 2147483647, some (900000025, 0))])])) rfl (hx_pr3 hx_cr hx_cr (hx_ci (hx_tb _))) hk1 (fun r cs2 hp => ?_)))
      obtain ⟨hk2, hg2, y2, rfl, hy2, hn2⟩ := hu_int hp
      refine ret_int ?_
      rw [hg_30] at hy2
      have hj2 := hu_f6 hn2 ab_rf0
      obtain ⟨fsb, h7b, a6b, a7b, a2b, a3b, -⟩ := hu_air (cs := cs) hk2 (gi_fr hg2 (fun _ => rfl)) (gi_fr hg2 (fun _ => rfl)) (gi_fr hg2 (fun _ => rfl))
      refine go_wp rfl (wq_istore (lv' := [some (.ref 64), some (.ref 7), some (.int w), some (.int 0), some (.int y2), none, none, none, none]) dX4_bestTest_30 ⟨Nat.le_of_ble_eq_true rfl, rfl⟩ rfl rfl ?_)
      refine go_wp rfl (wq_iconst (v := 1) dX4_bestTest_32 (by decide) rfl ?_)
      refine go_wp rfl (wq_aload_n dX4_bestTest_33 rfl rfl ?_)
      refine go_wp rfl (wq_getfield dX4_bestTest_34 fe_X4_28 h7b a7b rfl ?_)
      refine go_wp rfl (wq_ishl (v := ((1 : Int32) <<< ((gi cs 7 7) &&& 31))) dX4_bestTest_37 rfl rfl ?_)
      refine go_wp rfl (wq_istore (lv' := [some (.ref 64), some (.ref 7), some (.int w), some (.int 0), some (.int y2), some (.int ((1 : Int32) <<< ((gi cs 7 7) &&& 31))), none, none, none]) dX4_bestTest_38 ⟨Nat.le_of_ble_eq_true rfl, rfl⟩ rfl rfl ?_)
      refine go_wp rfl (wq_iconst (v := 1) dX4_bestTest_40 (by decide) rfl ?_)
      refine go_wp rfl (wq_istore (lv' := [some (.ref 64), some (.ref 7), some (.int w), some (.int 0), some (.int y2), some (.int ((1 : Int32) <<< ((gi cs 7 7) &&& 31))), some (.int 1), none, none]) dX4_bestTest_41 ⟨Nat.le_of_ble_eq_true rfl, rfl⟩ rfl rfl ?_)
      have hsh := (hu_sh H1 H2).2
      have z1 := ab_z1
      exact go_cut rfl ⟨299, rfl, hk2, hg2, (by have q := q1'; omega), q2', 0, _, _, _, _, _, rfl, hj2, rfl, (Int32.toInt_inj.mp hy2), (by omega), (by omega), (by omega)⟩
    · have q2' : Int32.toInt (gi cs 64 1) = Int32.toInt 0 := (ab_ieq (x := (gi cs 64 1)) (y := 0)).1 q2
      refine go_wp rfl (wq_ldc (v := (-1000000002)) dX4_bestTest_19 rfl rfl ?_)
      refine go_wp rfl (wq_ireturn dX4_bestTest_21 trivial (hQ _ _ hk1 ab_rf0 (Eq.trans (by decide) (bt_no (by omega) q2'))))
  · have q1' : Int32.toInt w ≠ Int32.toInt 0 := (ab_ieq (x := w) (y := 0)).2 q1
    refine go_wp rfl (wq_iload_n dX4_bestTest_4 rfl rfl ?_)
    refine go_wp rfl (wq_iconst (v := 1) dX4_bestTest_5 (by decide) rfl ?_)
    refine go_wp rfl (wq_icmp_eq (t := 12) dX4_bestTest_6 (by decide) rfl (fun q3 => ?_) (fun q3 => ?_))
    · have q3' : Int32.toInt w = Int32.toInt 1 := (ab_ieq (x := w) (y := 1)).1 q3
      refine go_wp rfl (wq_aload_n dX4_bestTest_12 rfl rfl ?_)
      refine go_wp rfl (wq_getfield dX4_bestTest_13 fe_X4_21 h64 u1 rfl ?_)
      refine go_wp rfl (wq_if_ne (t := 22) dX4_bestTest_16 (by decide) rfl (fun q4 => ?_) (fun q4 => ?_))
      · have q4' : Int32.toInt (gi cs 64 1) ≠ Int32.toInt 0 := (ab_ieq (x := (gi cs 64 1)) (y := 0)).2 q4
        refine go_wp rfl (wq_iconst (v := 0) dX4_bestTest_22 (by decide) rfl ?_)
        refine go_wp rfl (wq_istore_n (lv' := [some (.ref 64), some (.ref 7), some (.int w), some (.int 0), none, none, none, none, none]) dX4_bestTest_23 ⟨Nat.le_of_ble_eq_true rfl, rfl⟩ rfl rfl ?_)
        refine go_wp rfl (wq_aload_n dX4_bestTest_24 rfl rfl ?_)
        refine go_wp rfl (wq_aload_n dX4_bestTest_25 rfl rfl ?_)
        refine go_wp rfl (wq_iconst (v := 0) dX4_bestTest_26 (by decide) rfl ?_)
        refine go_wp rfl (wq_virtual (q := 3) (ci := 4) (a := 64) (av := [.ref 64, .ref 7, .int 0]) (r := []) dX4_bestTest_27 rfl (Nat.le_of_ble_eq_true rfl) rfl rfl rfl (Nat.le_of_ble_eq_true rfl) h64 rfl (hx_call 0 (c := ([.inl 64, .inl 7, .inr ((-2147483648), 2147483647)], [], [(65, none)], [(some ((-2147483648), 2147483647, some (900000030, 0)), [], [((1, 65, 0), (-2147483648), 2147483647, some (900000020, 0)), ((1, 65, 1), (-2147483648), 2147483647, some (900000021, 0)), ((1, 65, 2), (-2147483648), 2147483647, some (900000022, 0)), ((1, 65, 3), (-2147483648), 2147483647, some (900000023, 0)), ((1, 65, 4), (-2147483648), 2147483647, some (900000024, 0)), ((1, 65, 5), (-2147483648), 2147483647, some (900000025, 0))])])) rfl (hx_pr3 hx_cr hx_cr (hx_ci (hx_tb _))) hk1 (fun r cs2 hp => ?_)))
        obtain ⟨hk2, hg2, y2, rfl, hy2, hn2⟩ := hu_int hp
        refine ret_int ?_
        rw [hg_30] at hy2
        have hj2 := hu_f6 hn2 ab_rf0
        obtain ⟨fsb, h7b, a6b, a7b, a2b, a3b, -⟩ := hu_air (cs := cs) hk2 (gi_fr hg2 (fun _ => rfl)) (gi_fr hg2 (fun _ => rfl)) (gi_fr hg2 (fun _ => rfl))
        refine go_wp rfl (wq_istore (lv' := [some (.ref 64), some (.ref 7), some (.int w), some (.int 0), some (.int y2), none, none, none, none]) dX4_bestTest_30 ⟨Nat.le_of_ble_eq_true rfl, rfl⟩ rfl rfl ?_)
        refine go_wp rfl (wq_iconst (v := 1) dX4_bestTest_32 (by decide) rfl ?_)
        refine go_wp rfl (wq_aload_n dX4_bestTest_33 rfl rfl ?_)
        refine go_wp rfl (wq_getfield dX4_bestTest_34 fe_X4_28 h7b a7b rfl ?_)
        refine go_wp rfl (wq_ishl (v := ((1 : Int32) <<< ((gi cs 7 7) &&& 31))) dX4_bestTest_37 rfl rfl ?_)
        refine go_wp rfl (wq_istore (lv' := [some (.ref 64), some (.ref 7), some (.int w), some (.int 0), some (.int y2), some (.int ((1 : Int32) <<< ((gi cs 7 7) &&& 31))), none, none, none]) dX4_bestTest_38 ⟨Nat.le_of_ble_eq_true rfl, rfl⟩ rfl rfl ?_)
        refine go_wp rfl (wq_iconst (v := 1) dX4_bestTest_40 (by decide) rfl ?_)
        refine go_wp rfl (wq_istore (lv' := [some (.ref 64), some (.ref 7), some (.int w), some (.int 0), some (.int y2), some (.int ((1 : Int32) <<< ((gi cs 7 7) &&& 31))), some (.int 1), none, none]) dX4_bestTest_41 ⟨Nat.le_of_ble_eq_true rfl, rfl⟩ rfl rfl ?_)
        have hsh := (hu_sh H1 H2).2
        have z1 := ab_z1
        exact go_cut rfl ⟨299, rfl, hk2, hg2, (by have q := q3'; omega), q4', 0, _, _, _, _, _, rfl, hj2, rfl, (Int32.toInt_inj.mp hy2), (by omega), (by omega), (by omega)⟩
      · have q4' : Int32.toInt (gi cs 64 1) = Int32.toInt 0 := (ab_ieq (x := (gi cs 64 1)) (y := 0)).1 q4
        refine go_wp rfl (wq_ldc (v := (-1000000002)) dX4_bestTest_19 rfl rfl ?_)
        refine go_wp rfl (wq_ireturn dX4_bestTest_21 trivial (hQ _ _ hk1 ab_rf0 (Eq.trans (by decide) (bt_no (by omega) q4'))))
    · have q3' : Int32.toInt w ≠ Int32.toInt 1 := (ab_ieq (x := w) (y := 1)).2 q3
      refine go_wp rfl (wq_ldc (v := (-1000000001)) dX4_bestTest_9 rfl rfl ?_)
      refine go_wp rfl (wq_ireturn dX4_bestTest_11 trivial (hQ _ _ hk1 ab_rf0 (Eq.trans (by decide) (bt_b (by omega)))))
set_option maxRecDepth 100000 in
theorem bm_X4_bestTest (l : Launch) : ex_Met l yX4_bestTest cX4_bestTest 9 (some .int) 3 70 (ab_sp ab_hd bc_X4_bestTest) := by
  intro D ad ca n sz av cs Q h
  refine ex_lmet (by decide) rfl (bj_X4_bestTest l) D ad ca n sz av cs Q ?_
  obtain ⟨c0, hc0, ⟨hp1, hp2, -⟩, hk, hQ⟩ := h
  have hc' : c0 = ([.inl 64, .inl 7, .inr (-2147483648, 2147483647)], [], [(65, none)], [(some (-2147483648, 2147483647, some (900000031, 0)), [], [])]) := by
    unfold bc_X4_bestTest bq_X4_bestTest at hc0
    simpa using hc0
  subst hc'
  obtain ⟨v0, e0, pz0⟩ := hp2 0 _ rfl
  obtain ⟨v1, e1, pz1⟩ := hp2 1 _ rfl
  obtain ⟨v2, e2, w, rfl, w1, w2⟩ := hp2 2 _ rfl
  cases pz0
  cases pz1
  have hav : av = [.ref 64, .ref 7, .int w] := hx_av3 hp1 e0 e1 e2
  subst hav
  have hQ' : ∀ (r : Int32) cs', ab_hk ab_hd cs' → ab_fr [(65, none)] cs cs' → r.toInt = (bt (gi cs 7) (gi cs 10) (gi cs 11) (gi cs 64) (gi cs 65) w) → Q (some (.int r)) cs' := by
    intro r cs' hk' hf' hr
    refine hQ _ _ ⟨hk', hf', _, List.mem_cons_self, ⟨r, rfl, hx_tb r, fun d hd => ?_⟩, fun q hq => (by cases hq), fun q hq => (by cases hq)⟩
    cases hd
    show _ = ab_oo _ _ _ + (0 : Int)
    rw [hg_31, hr]
    omega
  refine sl_in 90 (be_I w cs) rfl (Nat.le_of_ble_eq_true rfl) rfl (be_w0 hk hQ') (fun pc J n lv st cs1 hI hJ => ?_)
  unfold be_I at hI
  split at hI
  · rename_i e'
    subst e'
    cases hI
    obtain ⟨rfl, hk1, hf, hw, hs0, k, b, a, i, x7, x8, rfl, hj1, hb, ha, hi1, hi2, hn⟩ := hJ
    exact be_w43 hk1 hf hw hs0 hQ' hj1 hb ha hi1 hi2 hn
  · cases hI
theorem ba_X5_isSensor : ec_al [(1006, Cond.code yX5_isSensor cX5_isSensor 1 (some .boolean)), (67, Cond.initialized yX5_isSensor.cls), (1005, Cond.static yX5_isSensor)] := ec_alk (by decide +kernel)
theorem bw_X5_isSensor : ec_cw yX5_isSensor cX5_isSensor 1 (some .boolean) := ⟨ba_X5_isSensor.1, ba_X5_isSensor.2.1, nc_RX5⟩
theorem bv_X5_isSensor : Cond.static yX5_isSensor ∈ ec_tb := ba_X5_isSensor.2.2.1
theorem bp_X5_isSensor : (parseMethodDescriptor yX5_isSensor.desc).map (fun d => d.parameters.length) = some 1 := by decide +kernel
theorem bj_X5_isSensor (l : Launch) : ex_ok l 0 0 bx_X5_isSensor := ec_okp fo_X5 co_X5 so_X5 (ec_okn)
theorem bm_X5_isSensor (l : Launch) : ex_Met l yX5_isSensor cX5_isSensor 1 (some .boolean) 0 0 (ab_sp ab_hd bc_X5_isSensor) := ab_met (by decide) pn_RX5 rfl (bj_X5_isSensor l) bd_X5_isSensor ab_hcm ab_xk bz_X5_isSensor
theorem ba_X5_addReading : ec_al [(1003, Cond.code yX5_addReading cX5_addReading 4 (some .int)), (67, Cond.initialized yX5_addReading.cls), (1001, Cond.instanceMethod yX5_addReading), (1002, Cond.selects yX5_addReading.cls yX5_addReading yX5_addReading), (1004, Cond.methodLink RX5 37 yX5_isSensor)] := ec_alk (by decide +kernel)
theorem bw_X5_addReading : ec_cw yX5_addReading cX5_addReading 4 (some .int) := ⟨ba_X5_addReading.1, ba_X5_addReading.2.1, nc_RX5⟩
theorem bv_X5_addReading : Cond.instanceMethod yX5_addReading ∈ ec_tb ∧ Cond.selects yX5_addReading.cls yX5_addReading yX5_addReading ∈ ec_tb := ⟨ba_X5_addReading.2.2.1, ba_X5_addReading.2.2.2.1⟩
theorem bp_X5_addReading : (parseMethodDescriptor yX5_addReading.desc).map (fun d => d.parameters.length) = some 3 := by decide +kernel
theorem bk_X5_addReading (l : Launch) : ∀ (ix n : Nat) (rc : Option Nat) (sp : ex_S), (be_X5_addReading ix).map (fun q => (q.1, q.2.1, ab_sp ab_hd q.2.2)) = some (n, rc, sp) → ex_cok l RX5 1 20 ix n rc sp := by
  intro ix n rc sp h
  obtain ⟨l0, h2, rfl⟩ := ab_dmk h
  clear h
  unfold be_X5_addReading at h2
  split at h2
  · cases h2; exact ec_cS (bm_X5_isSensor l) bw_X5_isSensor bv_X5_isSensor (by decide) (by decide) (Or.inl ba_X5_addReading.2.2.2.2.1) bp_X5_isSensor
  · cases h2
theorem bj_X5_addReading (l : Launch) : ex_ok l 1 20 bx_X5_addReading := ec_okp fo_X5 co_X5 so_X5 (bk_X5_addReading l)
theorem bm_X5_addReading (l : Launch) : ex_Met l yX5_addReading cX5_addReading 4 (some .int) 1 20 (ab_sp ab_hd bc_X5_addReading) := ab_met (by decide) pn_RX5 rfl (bj_X5_addReading l) bd_X5_addReading ab_hcm ab_xk bz_X5_addReading
theorem ba_X5_addCalibration : ec_al [(1016, Cond.code yX5_addCalibration cX5_addCalibration 4 (some .int)), (67, Cond.initialized yX5_addCalibration.cls), (1014, Cond.instanceMethod yX5_addCalibration), (1015, Cond.selects yX5_addCalibration.cls yX5_addCalibration yX5_addCalibration), (1004, Cond.methodLink RX5 37 yX5_isSensor)] := ec_alk (by decide +kernel)
theorem bw_X5_addCalibration : ec_cw yX5_addCalibration cX5_addCalibration 4 (some .int) := ⟨ba_X5_addCalibration.1, ba_X5_addCalibration.2.1, nc_RX5⟩
theorem bv_X5_addCalibration : Cond.instanceMethod yX5_addCalibration ∈ ec_tb ∧ Cond.selects yX5_addCalibration.cls yX5_addCalibration yX5_addCalibration ∈ ec_tb := ⟨ba_X5_addCalibration.2.2.1, ba_X5_addCalibration.2.2.2.1⟩
theorem bp_X5_addCalibration : (parseMethodDescriptor yX5_addCalibration.desc).map (fun d => d.parameters.length) = some 3 := by decide +kernel
theorem bk_X5_addCalibration (l : Launch) : ∀ (ix n : Nat) (rc : Option Nat) (sp : ex_S), (be_X5_addCalibration ix).map (fun q => (q.1, q.2.1, ab_sp ab_hd q.2.2)) = some (n, rc, sp) → ex_cok l RX5 1 20 ix n rc sp := by
  intro ix n rc sp h
  obtain ⟨l0, h2, rfl⟩ := ab_dmk h
  clear h
  unfold be_X5_addCalibration at h2
  split at h2
  · cases h2; exact ec_cS (bm_X5_isSensor l) bw_X5_isSensor bv_X5_isSensor (by decide) (by decide) (Or.inl ba_X5_addCalibration.2.2.2.2.1) bp_X5_isSensor
  · cases h2
theorem bj_X5_addCalibration (l : Launch) : ex_ok l 1 20 bx_X5_addCalibration := ec_okp fo_X5 co_X5 so_X5 (bk_X5_addCalibration l)
theorem bm_X5_addCalibration (l : Launch) : ex_Met l yX5_addCalibration cX5_addCalibration 4 (some .int) 1 20 (ab_sp ab_hd bc_X5_addCalibration) := ab_met (by decide) pn_RX5 rfl (bj_X5_addCalibration l) bd_X5_addCalibration ab_hcm ab_xk bz_X5_addCalibration
theorem ba_X5_setDelay : ec_al [(1040, Cond.code yX5_setDelay cX5_setDelay 3 (some .int)), (67, Cond.initialized yX5_setDelay.cls), (1038, Cond.instanceMethod yX5_setDelay), (1039, Cond.selects yX5_setDelay.cls yX5_setDelay yX5_setDelay)] := ec_alk (by decide +kernel)
theorem bw_X5_setDelay : ec_cw yX5_setDelay cX5_setDelay 3 (some .int) := ⟨ba_X5_setDelay.1, ba_X5_setDelay.2.1, nc_RX5⟩
theorem bv_X5_setDelay : Cond.instanceMethod yX5_setDelay ∈ ec_tb ∧ Cond.selects yX5_setDelay.cls yX5_setDelay yX5_setDelay ∈ ec_tb := ⟨ba_X5_setDelay.2.2.1, ba_X5_setDelay.2.2.2.1⟩
theorem bp_X5_setDelay : (parseMethodDescriptor yX5_setDelay.desc).map (fun d => d.parameters.length) = some 1 := by decide +kernel
theorem bj_X5_setDelay (l : Launch) : ex_ok l 0 0 bx_X5_setDelay := ec_okp fo_X5 co_X5 so_X5 (ec_okn)
theorem bm_X5_setDelay (l : Launch) : ex_Met l yX5_setDelay cX5_setDelay 3 (some .int) 0 0 (ab_sp ab_hd bc_X5_setDelay) := ab_met (by decide) pn_RX5 rfl (bj_X5_setDelay l) bd_X5_setDelay ab_hcm ab_xk bz_X5_setDelay
theorem ba_X5_latestHeard : ec_al [(1048, Cond.code yX5_latestHeard cX5_latestHeard 4 (some .int)), (67, Cond.initialized yX5_latestHeard.cls), (1046, Cond.instanceMethod yX5_latestHeard), (1047, Cond.selects yX5_latestHeard.cls yX5_latestHeard yX5_latestHeard), (1004, Cond.methodLink RX5 37 yX5_isSensor)] := ec_alk (by decide +kernel)
theorem bw_X5_latestHeard : ec_cw yX5_latestHeard cX5_latestHeard 4 (some .int) := ⟨ba_X5_latestHeard.1, ba_X5_latestHeard.2.1, nc_RX5⟩
theorem bv_X5_latestHeard : Cond.instanceMethod yX5_latestHeard ∈ ec_tb ∧ Cond.selects yX5_latestHeard.cls yX5_latestHeard yX5_latestHeard ∈ ec_tb := ⟨ba_X5_latestHeard.2.2.1, ba_X5_latestHeard.2.2.2.1⟩
theorem bp_X5_latestHeard : (parseMethodDescriptor yX5_latestHeard.desc).map (fun d => d.parameters.length) = some 2 := by decide +kernel
theorem bk_X5_latestHeard (l : Launch) : ∀ (ix n : Nat) (rc : Option Nat) (sp : ex_S), (be_X5_latestHeard ix).map (fun q => (q.1, q.2.1, ab_sp ab_hd q.2.2)) = some (n, rc, sp) → ex_cok l RX5 1 20 ix n rc sp := by
  intro ix n rc sp h
  obtain ⟨l0, h2, rfl⟩ := ab_dmk h
  clear h
  unfold be_X5_latestHeard at h2
  split at h2
  · cases h2; exact ec_cS (bm_X5_isSensor l) bw_X5_isSensor bv_X5_isSensor (by decide) (by decide) (Or.inl ba_X5_latestHeard.2.2.2.2.1) bp_X5_isSensor
  · cases h2
theorem bj_X5_latestHeard (l : Launch) : ex_ok l 1 20 bx_X5_latestHeard := ec_okp fo_X5 co_X5 so_X5 (bk_X5_latestHeard l)
theorem bm_X5_latestHeard (l : Launch) : ex_Met l yX5_latestHeard cX5_latestHeard 4 (some .int) 1 20 (ab_sp ab_hd bc_X5_latestHeard) := ab_met (by decide) pn_RX5 rfl (bj_X5_latestHeard l) bd_X5_latestHeard ab_hcm ab_xk bz_X5_latestHeard
theorem ba_X5_between : ec_al [(1032, Cond.code yX5_between cX5_between 6 (some .int)), (67, Cond.initialized yX5_between.cls), (1031, Cond.instanceMethod yX5_between), (23, Cond.selects yX5_between.cls yX5_between yX5_between)] := ec_alk (by decide +kernel)
theorem bw_X5_between : ec_cw yX5_between cX5_between 6 (some .int) := ⟨ba_X5_between.1, ba_X5_between.2.1, nc_RX5⟩
theorem bv_X5_between : Cond.instanceMethod yX5_between ∈ ec_tb ∧ Cond.selects yX5_between.cls yX5_between yX5_between ∈ ec_tb := ⟨ba_X5_between.2.2.1, ba_X5_between.2.2.2.1⟩
theorem bp_X5_between : (parseMethodDescriptor yX5_between.desc).map (fun d => d.parameters.length) = some 3 := by decide +kernel
theorem bj_X5_between (l : Launch) : ex_ok l 0 0 bx_X5_between := ec_okp fo_X5 co_X5 so_X5 (ec_okn)
theorem bm_X5_between (l : Launch) : ex_Met l yX5_between cX5_between 6 (some .int) 0 0 (ab_sp ab_hd bc_X5_between) := ab_met (by decide) pn_RX5 rfl (bj_X5_between l) bd_X5_between ab_hcm ab_xk bz_X5_between
theorem ba_X5_tooMuch : ec_al [(1028, Cond.code yX5_tooMuch cX5_tooMuch 6 (some .int)), (67, Cond.initialized yX5_tooMuch.cls), (1027, Cond.instanceMethod yX5_tooMuch), (22, Cond.selects yX5_tooMuch.cls yX5_tooMuch yX5_tooMuch), (1029, Cond.methodLink RX5 54 yX5_between)] := ec_alk (by decide +kernel)
theorem bw_X5_tooMuch : ec_cw yX5_tooMuch cX5_tooMuch 6 (some .int) := ⟨ba_X5_tooMuch.1, ba_X5_tooMuch.2.1, nc_RX5⟩
theorem bv_X5_tooMuch : Cond.instanceMethod yX5_tooMuch ∈ ec_tb ∧ Cond.selects yX5_tooMuch.cls yX5_tooMuch yX5_tooMuch ∈ ec_tb := ⟨ba_X5_tooMuch.2.2.1, ba_X5_tooMuch.2.2.2.1⟩
theorem bp_X5_tooMuch : (parseMethodDescriptor yX5_tooMuch.desc).map (fun d => d.parameters.length) = some 2 := by decide +kernel
theorem bk_X5_tooMuch (l : Launch) : ∀ (ix n : Nat) (rc : Option Nat) (sp : ex_S), (be_X5_tooMuch ix).map (fun q => (q.1, q.2.1, ab_sp ab_hd q.2.2)) = some (n, rc, sp) → ex_cok l RX5 1 25 ix n rc sp := by
  intro ix n rc sp h
  obtain ⟨l0, h2, rfl⟩ := ab_dmk h
  clear h
  unfold be_X5_tooMuch at h2
  split at h2
  · cases h2; exact ec_cV (bm_X5_between l) bw_X5_between bv_X5_between (by decide) (by decide) (Or.inl ba_X5_tooMuch.2.2.2.2.1) (T := TX5) (N := 10) rfl (by decide) bp_X5_between
  · cases h2
theorem bj_X5_tooMuch (l : Launch) : ex_ok l 1 25 bx_X5_tooMuch := ec_okp fo_X5 co_X5 so_X5 (bk_X5_tooMuch l)
theorem bm_X5_tooMuch (l : Launch) : ex_Met l yX5_tooMuch cX5_tooMuch 6 (some .int) 1 25 (ab_sp ab_hd bc_X5_tooMuch) := ab_met (by decide) pn_RX5 rfl (bj_X5_tooMuch l) bd_X5_tooMuch ab_hcm ab_xk bz_X5_tooMuch
theorem ba_X5_workedBack : ec_al [(1024, Cond.code yX5_workedBack cX5_workedBack 2 (some .int)), (67, Cond.initialized yX5_workedBack.cls), (1022, Cond.instanceMethod yX5_workedBack), (1023, Cond.selects yX5_workedBack.cls yX5_workedBack yX5_workedBack), (1025, Cond.methodLink RX5 50 yX5_tooMuch)] := ec_alk (by decide +kernel)
theorem bw_X5_workedBack : ec_cw yX5_workedBack cX5_workedBack 2 (some .int) := ⟨ba_X5_workedBack.1, ba_X5_workedBack.2.1, nc_RX5⟩
theorem bv_X5_workedBack : Cond.instanceMethod yX5_workedBack ∈ ec_tb ∧ Cond.selects yX5_workedBack.cls yX5_workedBack yX5_workedBack ∈ ec_tb := ⟨ba_X5_workedBack.2.2.1, ba_X5_workedBack.2.2.2.1⟩
theorem bp_X5_workedBack : (parseMethodDescriptor yX5_workedBack.desc).map (fun d => d.parameters.length) = some 1 := by decide +kernel
theorem bk_X5_workedBack (l : Launch) : ∀ (ix n : Nat) (rc : Option Nat) (sp : ex_S), (be_X5_workedBack ix).map (fun q => (q.1, q.2.1, ab_sp ab_hd q.2.2)) = some (n, rc, sp) → ex_cok l RX5 2 50 ix n rc sp := by
  intro ix n rc sp h
  obtain ⟨l0, h2, rfl⟩ := ab_dmk h
  clear h
  unfold be_X5_workedBack at h2
  split at h2
  · cases h2; exact ec_cV (bm_X5_tooMuch l) bw_X5_tooMuch bv_X5_tooMuch (by decide) (by decide) (Or.inl ba_X5_workedBack.2.2.2.2.1) (T := TX5) (N := 10) rfl (by decide) bp_X5_tooMuch
  · cases h2
theorem bj_X5_workedBack (l : Launch) : ex_ok l 2 50 bx_X5_workedBack := ec_okp fo_X5 co_X5 so_X5 (bk_X5_workedBack l)
theorem bm_X5_workedBack (l : Launch) : ex_Met l yX5_workedBack cX5_workedBack 2 (some .int) 2 50 (ab_sp ab_hd bc_X5_workedBack) := ab_met (by decide) pn_RX5 rfl (bj_X5_workedBack l) bd_X5_workedBack ab_hcm ab_xk bz_X5_workedBack
theorem ba_X6_becomeLike : ec_al [(890, Cond.code yX6_becomeLike cX6_becomeLike 2 none), (63, Cond.initialized yX6_becomeLike.cls), (888, Cond.instanceMethod yX6_becomeLike), (889, Cond.selects yX6_becomeLike.cls yX6_becomeLike yX6_becomeLike)] := ec_alk (by decide +kernel)
theorem bw_X6_becomeLike : ec_cw yX6_becomeLike cX6_becomeLike 2 none := ⟨ba_X6_becomeLike.1, ba_X6_becomeLike.2.1, nc_RX6⟩
theorem bv_X6_becomeLike : Cond.instanceMethod yX6_becomeLike ∈ ec_tb ∧ Cond.selects yX6_becomeLike.cls yX6_becomeLike yX6_becomeLike ∈ ec_tb := ⟨ba_X6_becomeLike.2.2.1, ba_X6_becomeLike.2.2.2.1⟩
theorem bp_X6_becomeLike : (parseMethodDescriptor yX6_becomeLike.desc).map (fun d => d.parameters.length) = some 1 := by decide +kernel
theorem bk_X6_becomeLike (l : Launch) : ∀ (ix n : Nat) (rc : Option Nat) (sp : ex_S), (be_X6_becomeLike ix).map (fun q => (q.1, q.2.1, ab_sp ab_hd q.2.2)) = some (n, rc, sp) → ex_cok l RX6 2 47 ix n rc sp := by
  intro ix n rc sp h
  obtain ⟨l0, h2, rfl⟩ := ab_dmk h
  clear h
  unfold be_X6_becomeLike at h2
  split at h2
  · cases h2; exact ec_cS (bm_X9_copy l) bw_X9_copy bv_X9_copy (by decide) (by decide) (Or.inr ⟨"TinStation", List.mem_of_getElem? (i := 8) rfl⟩) bp_X9_copy
  · cases h2; exact ec_cS (bm_X9_copyFlags l) bw_X9_copyFlags bv_X9_copyFlags (by decide) (by decide) (Or.inr ⟨"TinStation", List.mem_of_getElem? (i := 9) rfl⟩) bp_X9_copyFlags
  · cases h2
theorem bj_X6_becomeLike (l : Launch) : ex_ok l 2 47 bx_X6_becomeLike := ec_okp fo_X6 co_X6 so_X6 (bk_X6_becomeLike l)
theorem bm_X6_becomeLike (l : Launch) : ex_Met l yX6_becomeLike cX6_becomeLike 2 none 2 47 (ab_sp ab_hd bc_X6_becomeLike) := ab_met (by decide) pn_RX6 rfl (bj_X6_becomeLike l) bd_X6_becomeLike ab_hcm ab_xk bz_X6_becomeLike
theorem ba_X6_isKind : ec_al [(562, Cond.code yX6_isKind cX6_isKind 1 (some .boolean)), (63, Cond.initialized yX6_isKind.cls), (561, Cond.static yX6_isKind)] := ec_alk (by decide +kernel)
theorem bw_X6_isKind : ec_cw yX6_isKind cX6_isKind 1 (some .boolean) := ⟨ba_X6_isKind.1, ba_X6_isKind.2.1, nc_RX6⟩
theorem bv_X6_isKind : Cond.static yX6_isKind ∈ ec_tb := ba_X6_isKind.2.2.1
theorem bp_X6_isKind : (parseMethodDescriptor yX6_isKind.desc).map (fun d => d.parameters.length) = some 1 := by decide +kernel
theorem bj_X6_isKind (l : Launch) : ex_ok l 0 0 bx_X6_isKind := ec_okp fo_X6 co_X6 so_X6 (ec_okn)
theorem bm_X6_isKind (l : Launch) : ex_Met l yX6_isKind cX6_isKind 1 (some .boolean) 0 0 (ab_sp ab_hd bc_X6_isKind) := ab_met (by decide) pn_RX6 rfl (bj_X6_isKind l) bd_X6_isKind ab_hcm ab_xk bz_X6_isKind
theorem ba_X6_isUse : ec_al [(565, Cond.code yX6_isUse cX6_isUse 1 (some .boolean)), (63, Cond.initialized yX6_isUse.cls), (564, Cond.static yX6_isUse)] := ec_alk (by decide +kernel)
theorem bw_X6_isUse : ec_cw yX6_isUse cX6_isUse 1 (some .boolean) := ⟨ba_X6_isUse.1, ba_X6_isUse.2.1, nc_RX6⟩
theorem bv_X6_isUse : Cond.static yX6_isUse ∈ ec_tb := ba_X6_isUse.2.2.1
theorem bp_X6_isUse : (parseMethodDescriptor yX6_isUse.desc).map (fun d => d.parameters.length) = some 1 := by decide +kernel
theorem bj_X6_isUse (l : Launch) : ex_ok l 0 0 bx_X6_isUse := ec_okp fo_X6 co_X6 so_X6 (ec_okn)
theorem bm_X6_isUse (l : Launch) : ex_Met l yX6_isUse cX6_isUse 1 (some .boolean) 0 0 (ab_sp ab_hd bc_X6_isUse) := ab_met (by decide) pn_RX6 rfl (bj_X6_isUse l) bd_X6_isUse ab_hcm ab_xk bz_X6_isUse
theorem ba_X6_addMachine : ec_al [(559, Cond.code yX6_addMachine cX6_addMachine 6 (some .int)), (63, Cond.initialized yX6_addMachine.cls), (557, Cond.instanceMethod yX6_addMachine), (558, Cond.selects yX6_addMachine.cls yX6_addMachine yX6_addMachine), (560, Cond.methodLink RX6 67 yX6_isKind), (563, Cond.methodLink RX6 71 yX6_isUse)] := ec_alk (by decide +kernel)
theorem bw_X6_addMachine : ec_cw yX6_addMachine cX6_addMachine 6 (some .int) := ⟨ba_X6_addMachine.1, ba_X6_addMachine.2.1, nc_RX6⟩
theorem bv_X6_addMachine : Cond.instanceMethod yX6_addMachine ∈ ec_tb ∧ Cond.selects yX6_addMachine.cls yX6_addMachine yX6_addMachine ∈ ec_tb := ⟨ba_X6_addMachine.2.2.1, ba_X6_addMachine.2.2.2.1⟩
theorem bp_X6_addMachine : (parseMethodDescriptor yX6_addMachine.desc).map (fun d => d.parameters.length) = some 4 := by decide +kernel
theorem bk_X6_addMachine (l : Launch) : ∀ (ix n : Nat) (rc : Option Nat) (sp : ex_S), (be_X6_addMachine ix).map (fun q => (q.1, q.2.1, ab_sp ab_hd q.2.2)) = some (n, rc, sp) → ex_cok l RX6 1 20 ix n rc sp := by
  intro ix n rc sp h
  obtain ⟨l0, h2, rfl⟩ := ab_dmk h
  clear h
  unfold be_X6_addMachine at h2
  split at h2
  · cases h2; exact ec_cS (bm_X6_isKind l) bw_X6_isKind bv_X6_isKind (by decide) (by decide) (Or.inl ba_X6_addMachine.2.2.2.2.1) bp_X6_isKind
  · cases h2; exact ec_cS (bm_X6_isUse l) bw_X6_isUse bv_X6_isUse (by decide) (by decide) (Or.inl ba_X6_addMachine.2.2.2.2.2.1) bp_X6_isUse
  · cases h2
theorem bj_X6_addMachine (l : Launch) : ex_ok l 1 20 bx_X6_addMachine := ec_okp fo_X6 co_X6 so_X6 (bk_X6_addMachine l)
theorem bm_X6_addMachine (l : Launch) : ex_Met l yX6_addMachine cX6_addMachine 6 (some .int) 1 20 (ab_sp ab_hd bc_X6_addMachine) := ab_met (by decide) pn_RX6 rfl (bj_X6_addMachine l) bd_X6_addMachine ab_hcm ab_xk bz_X6_addMachine
theorem ba_X6_isUnder : ec_al [(583, Cond.code yX6_isUnder cX6_isUnder 4 (some .boolean)), (63, Cond.initialized yX6_isUnder.cls), (582, Cond.static yX6_isUnder), (560, Cond.methodLink RX6 67 yX6_isKind)] := ec_alk (by decide +kernel)
theorem bw_X6_isUnder : ec_cw yX6_isUnder cX6_isUnder 4 (some .boolean) := ⟨ba_X6_isUnder.1, ba_X6_isUnder.2.1, nc_RX6⟩
theorem bv_X6_isUnder : Cond.static yX6_isUnder ∈ ec_tb := ba_X6_isUnder.2.2.1
theorem bp_X6_isUnder : (parseMethodDescriptor yX6_isUnder.desc).map (fun d => d.parameters.length) = some 2 := by decide +kernel
theorem bk_X6_isUnder (l : Launch) : ∀ (ix n : Nat) (rc : Option Nat) (sp : ex_S), (be_X6_isUnder ix).map (fun q => (q.1, q.2.1, ab_sp ab_hd q.2.2)) = some (n, rc, sp) → ex_cok l RX6 1 20 ix n rc sp := by
  intro ix n rc sp h
  obtain ⟨l0, h2, rfl⟩ := ab_dmk h
  clear h
  unfold be_X6_isUnder at h2
  split at h2
  · cases h2; exact ec_cS (bm_X6_isKind l) bw_X6_isKind bv_X6_isKind (by decide) (by decide) (Or.inl ba_X6_isUnder.2.2.2.1) bp_X6_isKind
  · cases h2
theorem bj_X6_isUnder (l : Launch) : ex_ok l 1 20 bx_X6_isUnder := ec_okp fo_X6 co_X6 so_X6 (bk_X6_isUnder l)
theorem bm_X6_isUnder (l : Launch) : ex_Met l yX6_isUnder cX6_isUnder 4 (some .boolean) 1 20 (ab_sp ab_hd bc_X6_isUnder) := ab_met (by decide) pn_RX6 rfl (bj_X6_isUnder l) bd_X6_isUnder ab_hcm ab_xk bz_X6_isUnder
theorem ba_X6_rateAs : ec_al [(576, Cond.code yX6_rateAs cX6_rateAs 3 (some .int)), (63, Cond.initialized yX6_rateAs.cls), (574, Cond.instanceMethod yX6_rateAs), (575, Cond.selects yX6_rateAs.cls yX6_rateAs yX6_rateAs), (577, Cond.methodLink RX6 77 yX6_has), (560, Cond.methodLink RX6 67 yX6_isKind), (581, Cond.methodLink RX6 80 yX6_isUnder)] := ec_alk (by decide +kernel)
theorem bw_X6_rateAs : ec_cw yX6_rateAs cX6_rateAs 3 (some .int) := ⟨ba_X6_rateAs.1, ba_X6_rateAs.2.1, nc_RX6⟩
theorem bv_X6_rateAs : Cond.instanceMethod yX6_rateAs ∈ ec_tb ∧ Cond.selects yX6_rateAs.cls yX6_rateAs yX6_rateAs ∈ ec_tb := ⟨ba_X6_rateAs.2.2.1, ba_X6_rateAs.2.2.2.1⟩
theorem bp_X6_rateAs : (parseMethodDescriptor yX6_rateAs.desc).map (fun d => d.parameters.length) = some 2 := by decide +kernel
theorem bk_X6_rateAs (l : Launch) : ∀ (ix n : Nat) (rc : Option Nat) (sp : ex_S), (be_X6_rateAs ix).map (fun q => (q.1, q.2.1, ab_sp ab_hd q.2.2)) = some (n, rc, sp) → ex_cok l RX6 2 43 ix n rc sp := by
  intro ix n rc sp h
  obtain ⟨l0, h2, rfl⟩ := ab_dmk h
  clear h
  unfold be_X6_rateAs at h2
  split at h2
  · cases h2; exact ec_cV (bm_X6_has l) bw_X6_has bv_X6_has (by decide) (by decide) (Or.inl ba_X6_rateAs.2.2.2.2.1) (T := TX6) (N := 15) rfl (by decide) bp_X6_has
  · cases h2; exact ec_cS (bm_X6_isKind l) bw_X6_isKind bv_X6_isKind (by decide) (by decide) (Or.inl ba_X6_rateAs.2.2.2.2.2.1) bp_X6_isKind
  · cases h2; exact ec_cS (bm_X6_isUnder l) bw_X6_isUnder bv_X6_isUnder (by decide) (by decide) (Or.inl ba_X6_rateAs.2.2.2.2.2.2.1) bp_X6_isUnder
  · cases h2
theorem bj_X6_rateAs (l : Launch) : ex_ok l 2 43 bx_X6_rateAs := ec_okp fo_X6 co_X6 so_X6 (bk_X6_rateAs l)
theorem bm_X6_rateAs (l : Launch) : ex_Met l yX6_rateAs cX6_rateAs 3 (some .int) 2 43 (ab_sp ab_hd bc_X6_rateAs) := ab_met (by decide) pn_RX6 rfl (bj_X6_rateAs l) bd_X6_rateAs ab_hcm ab_xk bz_X6_rateAs
