theorem ba_L0 : ec_al [(415, Cond.methodLink RL 13 yX9_module), (1278, Cond.methodLink RL 17 yX10_module), (430, Cond.methodLink RL 18 yX9_hatch), (1287, Cond.methodLink RL 22 yX10_hatch), (443, Cond.methodLink RL 23 yX9_shut), (1295, Cond.methodLink RL 26 yX10_shut), (461, Cond.methodLink RL 27 yX9_gas), (1306, Cond.methodLink RL 31 yX10_gas)] := ec_alk (by decide +kernel)
theorem ba_L1 : ec_al [(473, Cond.methodLink RL 32 yX9_leak), (1311, Cond.methodLink RL 35 yX10_leak), (481, Cond.methodLink RL 36 yX9_tank), (1315, Cond.methodLink RL 39 yX10_tank), (490, Cond.methodLink RL 40 yX9_grams), (1320, Cond.methodLink RL 43 yX10_grams), (498, Cond.methodLink RL 44 yX9_person), (1324, Cond.methodLink RL 48 yX10_person)] := ec_alk (by decide +kernel)
theorem ba_L2 : ec_al [(509, Cond.methodLink RL 49 yX9_go), (1328, Cond.methodLink RL 52 yX10_go), (532, Cond.methodLink RL 53 yX9_doing), (1340, Cond.methodLink RL 56 yX10_doing), (544, Cond.methodLink RL 57 yX9_about), (1344, Cond.methodLink RL 60 yX10_about), (552, Cond.methodLink RL 61 yX9_machine), (1348, Cond.methodLink RL 65 yX10_machine)] := ec_alk (by decide +kernel)
theorem ba_L3 : ec_al [(569, Cond.methodLink RL 66 yX9_as), (1352, Cond.methodLink RL 69 yX10_as), (587, Cond.methodLink RL 70 yX9_turn), (1360, Cond.methodLink RL 73 yX10_turn), (597, Cond.methodLink RL 74 yX9_of), (1364, Cond.methodLink RL 77 yX10_of), (605, Cond.methodLink RL 78 yX9_spares), (1368, Cond.methodLink RL 81 yX10_spares)] := ec_alk (by decide +kernel)
theorem ba_L4 : ec_al [(613, Cond.methodLink RL 82 yX9_repair), (1372, Cond.methodLink RL 85 yX10_repair), (631, Cond.methodLink RL 86 yX9_shed), (1388, Cond.methodLink RL 89 yX10_shed), (661, Cond.methodLink RL 90 yX9_sun), (1432, Cond.methodLink RL 93 yX10_sun), (672, Cond.methodLink RL 94 yX9_battery), (1439, Cond.methodLink RL 97 yX10_battery)] := ec_alk (by decide +kernel)
theorem ba_L5 : ec_al [(680, Cond.methodLink RL 98 yX9_bounds), (1443, Cond.methodLink RL 101 yX10_bounds), (693, Cond.methodLink RL 102 yX9_ticks), (1447, Cond.methodLink RL 105 yX10_ticks), (851, Cond.methodLink RL 106 yX9_broke), (1504, Cond.methodLink RL 109 yX10_broke), (860, Cond.methodLink RL 110 yX9_ahead), (1508, Cond.methodLink RL 113 yX10_ahead)] := ec_alk (by decide +kernel)
theorem ba_L6 : ec_al [(901, Cond.methodLink RL 114 yX9_line), (1400, Cond.methodLink RL 117 yX10_line), (911, Cond.methodLink RL 118 yX9_erase), (1404, Cond.methodLink RL 121 yX10_erase), (915, Cond.methodLink RL 122 yX9_begin), (1408, Cond.methodLink RL 125 yX10_begin), (923, Cond.methodLink RL 126 yX9_halt), (1412, Cond.methodLink RL 129 yX10_halt)] := ec_alk (by decide +kernel)
theorem ba_L7 : ec_al [(934, Cond.methodLink RL 130 yX9_abort), (1416, Cond.methodLink RL 133 yX10_abort), (940, Cond.methodLink RL 134 yX9_text), (1428, Cond.methodLink RL 137 yX10_text), (949, Cond.methodLink RL 138 yX9_hunt), (1520, Cond.methodLink RL 141 yX10_hunt), (957, Cond.methodLink RL 142 yX9_test), (1524, Cond.methodLink RL 145 yX10_test)] := ec_alk (by decide +kernel)
theorem ba_L8 : ec_al [(976, Cond.methodLink RL 146 yX9_best), (1532, Cond.methodLink RL 149 yX10_best), (992, Cond.methodLink RL 150 yX9_suspects), (1543, Cond.methodLink RL 153 yX10_suspects), (996, Cond.methodLink RL 154 yX9_read), (1547, Cond.methodLink RL 157 yX10_read), (1009, Cond.methodLink RL 158 yX9_calibrate), (1551, Cond.methodLink RL 161 yX10_calibrate)] := ec_alk (by decide +kernel)
theorem ba_L9 : ec_al [(1017, Cond.methodLink RL 162 yX9_worked), (1555, Cond.methodLink RL 165 yX10_worked), (1033, Cond.methodLink RL 166 yX9_delay), (1563, Cond.methodLink RL 169 yX10_delay), (1041, Cond.methodLink RL 170 yX9_known), (1567, Cond.methodLink RL 173 yX10_known), (1050, Cond.methodLink RL 174 yX9_mass), (1571, Cond.methodLink RL 177 yX10_mass)] := ec_alk (by decide +kernel)
theorem ba_L10 : ec_al [(1069, Cond.methodLink RL 178 yX9_dock), (1576, Cond.methodLink RL 181 yX10_dock), (1073, Cond.methodLink RL 182 yX9_undock), (1580, Cond.methodLink RL 185 yX10_undock), (1077, Cond.methodLink RL 186 yX9_tell), (1584, Cond.methodLink RL 189 yX10_tell), (1081, Cond.methodLink RL 190 yX9_check), (1588, Cond.methodLink RL 193 yX10_check)] := ec_alk (by decide +kernel)
theorem ba_L11 : ec_al [(1087, Cond.methodLink RL 194 yX9_count), (1592, Cond.methodLink RL 197 yX10_count), (1095, Cond.methodLink RL 198 yX9_found), (1596, Cond.methodLink RL 201 yX10_found)] := ec_alk (by decide +kernel)
def be_L : Nat → Option (Nat × Option Nat × List ab_C) := fun ix => match ix with
  | 13 => some (1, some 9, bc_X9_module)
  | 17 => some (1, some 10, bc_X10_module)
  | 18 => some (3, some 9, bc_X9_hatch)
  | 22 => some (3, some 10, bc_X10_hatch)
  | 23 => some (3, some 9, bc_X9_shut)
  | 26 => some (3, some 10, bc_X10_shut)
  | 27 => some (4, some 9, bc_X9_gas)
  | 31 => some (4, some 10, bc_X10_gas)
  | 32 => some (3, some 9, bc_X9_leak)
  | 35 => some (3, some 10, bc_X10_leak)
  | 36 => some (3, some 9, bc_X9_tank)
  | 39 => some (3, some 10, bc_X10_tank)
  | 40 => some (1, some 9, bc_X9_grams)
  | 43 => some (1, some 10, bc_X10_grams)
  | 44 => some (2, some 9, bc_X9_person)
  | 48 => some (2, some 10, bc_X10_person)
  | 49 => some (3, some 9, bc_X9_go)
  | 52 => some (3, some 10, bc_X10_go)
  | 53 => some (3, some 9, bc_X9_doing)
  | 56 => some (3, some 10, bc_X10_doing)
  | 57 => some (3, some 9, bc_X9_about)
  | 60 => some (3, some 10, bc_X10_about)
  | 61 => some (5, some 9, bc_X9_machine)
  | 65 => some (5, some 10, bc_X10_machine)
  | 66 => some (3, some 9, bc_X9_as)
  | 69 => some (3, some 10, bc_X10_as)
  | 70 => some (3, some 9, bc_X9_turn)
  | 73 => some (3, some 10, bc_X10_turn)
  | 74 => some (3, some 9, bc_X9_of)
  | 77 => some (3, some 10, bc_X10_of)
  | 78 => some (3, some 9, bc_X9_spares)
  | 81 => some (3, some 10, bc_X10_spares)
  | 82 => some (4, some 9, bc_X9_repair)
  | 85 => some (4, some 10, bc_X10_repair)
  | 86 => some (3, some 9, bc_X9_shed)
  | 89 => some (3, some 10, bc_X10_shed)
  | 90 => some (3, some 9, bc_X9_sun)
  | 93 => some (3, some 10, bc_X10_sun)
  | 94 => some (2, some 9, bc_X9_battery)
  | 97 => some (2, some 10, bc_X10_battery)
  | 98 => some (4, some 9, bc_X9_bounds)
  | 101 => some (4, some 10, bc_X10_bounds)
  | 102 => some (2, some 9, bc_X9_ticks)
  | 105 => some (2, some 10, bc_X10_ticks)
  | 106 => some (2, some 9, bc_X9_broke)
  | 109 => some (2, some 10, bc_X10_broke)
  | 110 => some (2, some 9, bc_X9_ahead)
  | 113 => some (2, some 10, bc_X10_ahead)
  | 114 => some (5, some 9, bc_X9_line)
  | 117 => some (5, some 10, bc_X10_line)
  | 118 => some (1, some 9, bc_X9_erase)
  | 121 => some (1, some 10, bc_X10_erase)
  | 122 => some (1, some 9, bc_X9_begin)
  | 125 => some (1, some 10, bc_X10_begin)
  | 126 => some (2, some 9, bc_X9_halt)
  | 129 => some (2, some 10, bc_X10_halt)
  | 130 => some (1, some 9, bc_X9_abort)
  | 133 => some (1, some 10, bc_X10_abort)
  | 134 => some (2, some 9, bc_X9_text)
  | 137 => some (2, some 10, bc_X10_text)
  | 138 => some (1, some 9, bc_X9_hunt)
  | 141 => some (1, some 10, bc_X10_hunt)
  | 142 => some (3, some 9, bc_X9_test)
  | 145 => some (3, some 10, bc_X10_test)
  | 146 => some (2, some 9, bc_X9_best)
  | 149 => some (2, some 10, bc_X10_best)
  | 150 => some (1, some 9, bc_X9_suspects)
  | 153 => some (1, some 10, bc_X10_suspects)
  | 154 => some (3, some 9, bc_X9_read)
  | 157 => some (3, some 10, bc_X10_read)
  | 158 => some (3, some 9, bc_X9_calibrate)
  | 161 => some (3, some 10, bc_X10_calibrate)
  | 162 => some (2, some 9, bc_X9_worked)
  | 165 => some (2, some 10, bc_X10_worked)
  | 166 => some (2, some 9, bc_X9_delay)
  | 169 => some (2, some 10, bc_X10_delay)
  | 170 => some (3, some 9, bc_X9_known)
  | 173 => some (3, some 10, bc_X10_known)
  | 174 => some (3, some 9, bc_X9_mass)
  | 177 => some (3, some 10, bc_X10_mass)
  | 178 => some (3, some 9, bc_X9_dock)
  | 181 => some (3, some 10, bc_X10_dock)
  | 182 => some (2, some 9, bc_X9_undock)
  | 185 => some (2, some 10, bc_X10_undock)
  | 186 => some (2, some 9, bc_X9_tell)
  | 189 => some (2, some 10, bc_X10_tell)
  | 190 => some (3, some 9, bc_X9_check)
  | 193 => some (3, some 10, bc_X10_check)
  | 194 => some (2, some 9, bc_X9_count)
  | 197 => some (2, some 10, bc_X10_count)
  | 198 => some (2, some 9, bc_X9_found)
  | 201 => some (2, some 10, bc_X10_found)
  | _ => none
theorem bk_L (l : Launch) : ∀ (ix n : Nat) (rc : Option Nat) (sp : ex_S), (be_L ix).map (fun q => (q.1, q.2.1, ab_sp ab_hd q.2.2)) = some (n, rc, sp) → ex_cok l RL 9 316 ix n rc sp := by
  intro ix n rc sp h
  obtain ⟨l0, h2, rfl⟩ := ab_dmk h
  clear h
  unfold be_L at h2
  split at h2
  · cases h2; exact ec_cV (bm_X9_module l) bw_X9_module bv_X9_module (by decide) (by decide) (Or.inl ba_L0.1) (T := TX9) (N := 10) rfl (by decide) bp_X9_module
  · cases h2; exact ec_cV (bm_X10_module l) bw_X10_module bv_X10_module (by decide) (by decide) (Or.inl ba_L0.2.1) (T := TX10) (N := 57) rfl (by decide) bp_X10_module
  · cases h2; exact ec_cV (bm_X9_hatch l) bw_X9_hatch bv_X9_hatch (by decide) (by decide) (Or.inl ba_L0.2.2.1) (T := TX9) (N := 10) rfl (by decide) bp_X9_hatch
  · cases h2; exact ec_cV (bm_X10_hatch l) bw_X10_hatch bv_X10_hatch (by decide) (by decide) (Or.inl ba_L0.2.2.2.1) (T := TX10) (N := 57) rfl (by decide) bp_X10_hatch
  · cases h2; exact ec_cV (bm_X9_shut l) bw_X9_shut bv_X9_shut (by decide) (by decide) (Or.inl ba_L0.2.2.2.2.1) (T := TX9) (N := 10) rfl (by decide) bp_X9_shut
  · cases h2; exact ec_cV (bm_X10_shut l) bw_X10_shut bv_X10_shut (by decide) (by decide) (Or.inl ba_L0.2.2.2.2.2.1) (T := TX10) (N := 57) rfl (by decide) bp_X10_shut
  · cases h2; exact ec_cV (bm_X9_gas l) bw_X9_gas bv_X9_gas (by decide) (by decide) (Or.inl ba_L0.2.2.2.2.2.2.1) (T := TX9) (N := 10) rfl (by decide) bp_X9_gas
  · cases h2; exact ec_cV (bm_X10_gas l) bw_X10_gas bv_X10_gas (by decide) (by decide) (Or.inl ba_L0.2.2.2.2.2.2.2.1) (T := TX10) (N := 57) rfl (by decide) bp_X10_gas
  · cases h2; exact ec_cV (bm_X9_leak l) bw_X9_leak bv_X9_leak (by decide) (by decide) (Or.inl ba_L1.1) (T := TX9) (N := 10) rfl (by decide) bp_X9_leak
  · cases h2; exact ec_cV (bm_X10_leak l) bw_X10_leak bv_X10_leak (by decide) (by decide) (Or.inl ba_L1.2.1) (T := TX10) (N := 57) rfl (by decide) bp_X10_leak
  · cases h2; exact ec_cV (bm_X9_tank l) bw_X9_tank bv_X9_tank (by decide) (by decide) (Or.inl ba_L1.2.2.1) (T := TX9) (N := 10) rfl (by decide) bp_X9_tank
  · cases h2; exact ec_cV (bm_X10_tank l) bw_X10_tank bv_X10_tank (by decide) (by decide) (Or.inl ba_L1.2.2.2.1) (T := TX10) (N := 57) rfl (by decide) bp_X10_tank
  · cases h2; exact ec_cV (bm_X9_grams l) bw_X9_grams bv_X9_grams (by decide) (by decide) (Or.inl ba_L1.2.2.2.2.1) (T := TX9) (N := 10) rfl (by decide) bp_X9_grams
  · cases h2; exact ec_cV (bm_X10_grams l) bw_X10_grams bv_X10_grams (by decide) (by decide) (Or.inl ba_L1.2.2.2.2.2.1) (T := TX10) (N := 57) rfl (by decide) bp_X10_grams
  · cases h2; exact ec_cV (bm_X9_person l) bw_X9_person bv_X9_person (by decide) (by decide) (Or.inl ba_L1.2.2.2.2.2.2.1) (T := TX9) (N := 10) rfl (by decide) bp_X9_person
  · cases h2; exact ec_cV (bm_X10_person l) bw_X10_person bv_X10_person (by decide) (by decide) (Or.inl ba_L1.2.2.2.2.2.2.2.1) (T := TX10) (N := 57) rfl (by decide) bp_X10_person
  · cases h2; exact ec_cV (bm_X9_go l) bw_X9_go bv_X9_go (by decide) (by decide) (Or.inl ba_L2.1) (T := TX9) (N := 10) rfl (by decide) bp_X9_go
  · cases h2; exact ec_cV (bm_X10_go l) bw_X10_go bv_X10_go (by decide) (by decide) (Or.inl ba_L2.2.1) (T := TX10) (N := 57) rfl (by decide) bp_X10_go
  · cases h2; exact ec_cV (bm_X9_doing l) bw_X9_doing bv_X9_doing (by decide) (by decide) (Or.inl ba_L2.2.2.1) (T := TX9) (N := 10) rfl (by decide) bp_X9_doing
  · cases h2; exact ec_cV (bm_X10_doing l) bw_X10_doing bv_X10_doing (by decide) (by decide) (Or.inl ba_L2.2.2.2.1) (T := TX10) (N := 57) rfl (by decide) bp_X10_doing
  · cases h2; exact ec_cV (bm_X9_about l) bw_X9_about bv_X9_about (by decide) (by decide) (Or.inl ba_L2.2.2.2.2.1) (T := TX9) (N := 10) rfl (by decide) bp_X9_about
  · cases h2; exact ec_cV (bm_X10_about l) bw_X10_about bv_X10_about (by decide) (by decide) (Or.inl ba_L2.2.2.2.2.2.1) (T := TX10) (N := 57) rfl (by decide) bp_X10_about
  · cases h2; exact ec_cV (bm_X9_machine l) bw_X9_machine bv_X9_machine (by decide) (by decide) (Or.inl ba_L2.2.2.2.2.2.2.1) (T := TX9) (N := 10) rfl (by decide) bp_X9_machine
  · cases h2; exact ec_cV (bm_X10_machine l) bw_X10_machine bv_X10_machine (by decide) (by decide) (Or.inl ba_L2.2.2.2.2.2.2.2.1) (T := TX10) (N := 57) rfl (by decide) bp_X10_machine
  · cases h2; exact ec_cV (bm_X9_as l) bw_X9_as bv_X9_as (by decide) (by decide) (Or.inl ba_L3.1) (T := TX9) (N := 10) rfl (by decide) bp_X9_as
  · cases h2; exact ec_cV (bm_X10_as l) bw_X10_as bv_X10_as (by decide) (by decide) (Or.inl ba_L3.2.1) (T := TX10) (N := 57) rfl (by decide) bp_X10_as
  · cases h2; exact ec_cV (bm_X9_turn l) bw_X9_turn bv_X9_turn (by decide) (by decide) (Or.inl ba_L3.2.2.1) (T := TX9) (N := 10) rfl (by decide) bp_X9_turn
  · cases h2; exact ec_cV (bm_X10_turn l) bw_X10_turn bv_X10_turn (by decide) (by decide) (Or.inl ba_L3.2.2.2.1) (T := TX10) (N := 57) rfl (by decide) bp_X10_turn
  · cases h2; exact ec_cV (bm_X9_of l) bw_X9_of bv_X9_of (by decide) (by decide) (Or.inl ba_L3.2.2.2.2.1) (T := TX9) (N := 10) rfl (by decide) bp_X9_of
  · cases h2; exact ec_cV (bm_X10_of l) bw_X10_of bv_X10_of (by decide) (by decide) (Or.inl ba_L3.2.2.2.2.2.1) (T := TX10) (N := 57) rfl (by decide) bp_X10_of
  · cases h2; exact ec_cV (bm_X9_spares l) bw_X9_spares bv_X9_spares (by decide) (by decide) (Or.inl ba_L3.2.2.2.2.2.2.1) (T := TX9) (N := 10) rfl (by decide) bp_X9_spares
  · cases h2; exact ec_cV (bm_X10_spares l) bw_X10_spares bv_X10_spares (by decide) (by decide) (Or.inl ba_L3.2.2.2.2.2.2.2.1) (T := TX10) (N := 57) rfl (by decide) bp_X10_spares
  · cases h2; exact ec_cV (bm_X9_repair l) bw_X9_repair bv_X9_repair (by decide) (by decide) (Or.inl ba_L4.1) (T := TX9) (N := 10) rfl (by decide) bp_X9_repair
  · cases h2; exact ec_cV (bm_X10_repair l) bw_X10_repair bv_X10_repair (by decide) (by decide) (Or.inl ba_L4.2.1) (T := TX10) (N := 57) rfl (by decide) bp_X10_repair
  · cases h2; exact ec_cV (bm_X9_shed l) bw_X9_shed bv_X9_shed (by decide) (by decide) (Or.inl ba_L4.2.2.1) (T := TX9) (N := 10) rfl (by decide) bp_X9_shed
  · cases h2; exact ec_cV (bm_X10_shed l) bw_X10_shed bv_X10_shed (by decide) (by decide) (Or.inl ba_L4.2.2.2.1) (T := TX10) (N := 57) rfl (by decide) bp_X10_shed
  · cases h2; exact ec_cV (bm_X9_sun l) bw_X9_sun bv_X9_sun (by decide) (by decide) (Or.inl ba_L4.2.2.2.2.1) (T := TX9) (N := 10) rfl (by decide) bp_X9_sun
  · cases h2; exact ec_cV (bm_X10_sun l) bw_X10_sun bv_X10_sun (by decide) (by decide) (Or.inl ba_L4.2.2.2.2.2.1) (T := TX10) (N := 57) rfl (by decide) bp_X10_sun
  · cases h2; exact ec_cV (bm_X9_battery l) bw_X9_battery bv_X9_battery (by decide) (by decide) (Or.inl ba_L4.2.2.2.2.2.2.1) (T := TX9) (N := 10) rfl (by decide) bp_X9_battery
  · cases h2; exact ec_cV (bm_X10_battery l) bw_X10_battery bv_X10_battery (by decide) (by decide) (Or.inl ba_L4.2.2.2.2.2.2.2.1) (T := TX10) (N := 57) rfl (by decide) bp_X10_battery
  · cases h2; exact ec_cV (bm_X9_bounds l) bw_X9_bounds bv_X9_bounds (by decide) (by decide) (Or.inl ba_L5.1) (T := TX9) (N := 10) rfl (by decide) bp_X9_bounds
  · cases h2; exact ec_cV (bm_X10_bounds l) bw_X10_bounds bv_X10_bounds (by decide) (by decide) (Or.inl ba_L5.2.1) (T := TX10) (N := 57) rfl (by decide) bp_X10_bounds
  · cases h2; exact ec_cV (bm_X9_ticks l) bw_X9_ticks bv_X9_ticks (by decide) (by decide) (Or.inl ba_L5.2.2.1) (T := TX9) (N := 10) rfl (by decide) bp_X9_ticks
  · cases h2; exact ec_cV (bm_X10_ticks l) bw_X10_ticks bv_X10_ticks (by decide) (by decide) (Or.inl ba_L5.2.2.2.1) (T := TX10) (N := 57) rfl (by decide) bp_X10_ticks
  · cases h2; exact ec_cV (bm_X9_broke l) bw_X9_broke bv_X9_broke (by decide) (by decide) (Or.inl ba_L5.2.2.2.2.1) (T := TX9) (N := 10) rfl (by decide) bp_X9_broke
  · cases h2; exact ec_cV (bm_X10_broke l) bw_X10_broke bv_X10_broke (by decide) (by decide) (Or.inl ba_L5.2.2.2.2.2.1) (T := TX10) (N := 57) rfl (by decide) bp_X10_broke
  · cases h2; exact ec_cV (bm_X9_ahead l) bw_X9_ahead bv_X9_ahead (by decide) (by decide) (Or.inl ba_L5.2.2.2.2.2.2.1) (T := TX9) (N := 10) rfl (by decide) bp_X9_ahead
  · cases h2; exact ec_cV (bm_X10_ahead l) bw_X10_ahead bv_X10_ahead (by decide) (by decide) (Or.inl ba_L5.2.2.2.2.2.2.2.1) (T := TX10) (N := 57) rfl (by decide) bp_X10_ahead
  · cases h2; exact ec_cV (bm_X9_line l) bw_X9_line bv_X9_line (by decide) (by decide) (Or.inl ba_L6.1) (T := TX9) (N := 10) rfl (by decide) bp_X9_line
  · cases h2; exact ec_cV (bm_X10_line l) bw_X10_line bv_X10_line (by decide) (by decide) (Or.inl ba_L6.2.1) (T := TX10) (N := 57) rfl (by decide) bp_X10_line
  · cases h2; exact ec_cV (bm_X9_erase l) bw_X9_erase bv_X9_erase (by decide) (by decide) (Or.inl ba_L6.2.2.1) (T := TX9) (N := 10) rfl (by decide) bp_X9_erase
  · cases h2; exact ec_cV (bm_X10_erase l) bw_X10_erase bv_X10_erase (by decide) (by decide) (Or.inl ba_L6.2.2.2.1) (T := TX10) (N := 57) rfl (by decide) bp_X10_erase
  · cases h2; exact ec_cV (bm_X9_begin l) bw_X9_begin bv_X9_begin (by decide) (by decide) (Or.inl ba_L6.2.2.2.2.1) (T := TX9) (N := 10) rfl (by decide) bp_X9_begin
  · cases h2; exact ec_cV (bm_X10_begin l) bw_X10_begin bv_X10_begin (by decide) (by decide) (Or.inl ba_L6.2.2.2.2.2.1) (T := TX10) (N := 57) rfl (by decide) bp_X10_begin
  · cases h2; exact ec_cV (bm_X9_halt l) bw_X9_halt bv_X9_halt (by decide) (by decide) (Or.inl ba_L6.2.2.2.2.2.2.1) (T := TX9) (N := 10) rfl (by decide) bp_X9_halt
  · cases h2; exact ec_cV (bm_X10_halt l) bw_X10_halt bv_X10_halt (by decide) (by decide) (Or.inl ba_L6.2.2.2.2.2.2.2.1) (T := TX10) (N := 57) rfl (by decide) bp_X10_halt
  · cases h2; exact ec_cV (bm_X9_abort l) bw_X9_abort bv_X9_abort (by decide) (by decide) (Or.inl ba_L7.1) (T := TX9) (N := 10) rfl (by decide) bp_X9_abort
  · cases h2; exact ec_cV (bm_X10_abort l) bw_X10_abort bv_X10_abort (by decide) (by decide) (Or.inl ba_L7.2.1) (T := TX10) (N := 57) rfl (by decide) bp_X10_abort
  · cases h2; exact ec_cV (bm_X9_text l) bw_X9_text bv_X9_text (by decide) (by decide) (Or.inl ba_L7.2.2.1) (T := TX9) (N := 10) rfl (by decide) bp_X9_text
  · cases h2; exact ec_cV (bm_X10_text l) bw_X10_text bv_X10_text (by decide) (by decide) (Or.inl ba_L7.2.2.2.1) (T := TX10) (N := 57) rfl (by decide) bp_X10_text
  · cases h2; exact ec_cV (bm_X9_hunt l) bw_X9_hunt bv_X9_hunt (by decide) (by decide) (Or.inl ba_L7.2.2.2.2.1) (T := TX9) (N := 10) rfl (by decide) bp_X9_hunt
  · cases h2; exact ec_cV (bm_X10_hunt l) bw_X10_hunt bv_X10_hunt (by decide) (by decide) (Or.inl ba_L7.2.2.2.2.2.1) (T := TX10) (N := 57) rfl (by decide) bp_X10_hunt
  · cases h2; exact ec_cV (bm_X9_test l) bw_X9_test bv_X9_test (by decide) (by decide) (Or.inl ba_L7.2.2.2.2.2.2.1) (T := TX9) (N := 10) rfl (by decide) bp_X9_test
  · cases h2; exact ec_cV (bm_X10_test l) bw_X10_test bv_X10_test (by decide) (by decide) (Or.inl ba_L7.2.2.2.2.2.2.2.1) (T := TX10) (N := 57) rfl (by decide) bp_X10_test
  · cases h2; exact ec_cV (bm_X9_best l) bw_X9_best bv_X9_best (by decide) (by decide) (Or.inl ba_L8.1) (T := TX9) (N := 10) rfl (by decide) bp_X9_best
  · cases h2; exact ec_cV (bm_X10_best l) bw_X10_best bv_X10_best (by decide) (by decide) (Or.inl ba_L8.2.1) (T := TX10) (N := 57) rfl (by decide) bp_X10_best
  · cases h2; exact ec_cV (bm_X9_suspects l) bw_X9_suspects bv_X9_suspects (by decide) (by decide) (Or.inl ba_L8.2.2.1) (T := TX9) (N := 10) rfl (by decide) bp_X9_suspects
  · cases h2; exact ec_cV (bm_X10_suspects l) bw_X10_suspects bv_X10_suspects (by decide) (by decide) (Or.inl ba_L8.2.2.2.1) (T := TX10) (N := 57) rfl (by decide) bp_X10_suspects
  · cases h2; exact ec_cV (bm_X9_read l) bw_X9_read bv_X9_read (by decide) (by decide) (Or.inl ba_L8.2.2.2.2.1) (T := TX9) (N := 10) rfl (by decide) bp_X9_read
  · cases h2; exact ec_cV (bm_X10_read l) bw_X10_read bv_X10_read (by decide) (by decide) (Or.inl ba_L8.2.2.2.2.2.1) (T := TX10) (N := 57) rfl (by decide) bp_X10_read
  · cases h2; exact ec_cV (bm_X9_calibrate l) bw_X9_calibrate bv_X9_calibrate (by decide) (by decide) (Or.inl ba_L8.2.2.2.2.2.2.1) (T := TX9) (N := 10) rfl (by decide) bp_X9_calibrate
  · cases h2; exact ec_cV (bm_X10_calibrate l) bw_X10_calibrate bv_X10_calibrate (by decide) (by decide) (Or.inl ba_L8.2.2.2.2.2.2.2.1) (T := TX10) (N := 57) rfl (by decide) bp_X10_calibrate
  · cases h2; exact ec_cV (bm_X9_worked l) bw_X9_worked bv_X9_worked (by decide) (by decide) (Or.inl ba_L9.1) (T := TX9) (N := 10) rfl (by decide) bp_X9_worked
  · cases h2; exact ec_cV (bm_X10_worked l) bw_X10_worked bv_X10_worked (by decide) (by decide) (Or.inl ba_L9.2.1) (T := TX10) (N := 57) rfl (by decide) bp_X10_worked
  · cases h2; exact ec_cV (bm_X9_delay l) bw_X9_delay bv_X9_delay (by decide) (by decide) (Or.inl ba_L9.2.2.1) (T := TX9) (N := 10) rfl (by decide) bp_X9_delay
  · cases h2; exact ec_cV (bm_X10_delay l) bw_X10_delay bv_X10_delay (by decide) (by decide) (Or.inl ba_L9.2.2.2.1) (T := TX10) (N := 57) rfl (by decide) bp_X10_delay
  · cases h2; exact ec_cV (bm_X9_known l) bw_X9_known bv_X9_known (by decide) (by decide) (Or.inl ba_L9.2.2.2.2.1) (T := TX9) (N := 10) rfl (by decide) bp_X9_known
  · cases h2; exact ec_cV (bm_X10_known l) bw_X10_known bv_X10_known (by decide) (by decide) (Or.inl ba_L9.2.2.2.2.2.1) (T := TX10) (N := 57) rfl (by decide) bp_X10_known
  · cases h2; exact ec_cV (bm_X9_mass l) bw_X9_mass bv_X9_mass (by decide) (by decide) (Or.inl ba_L9.2.2.2.2.2.2.1) (T := TX9) (N := 10) rfl (by decide) bp_X9_mass
  · cases h2; exact ec_cV (bm_X10_mass l) bw_X10_mass bv_X10_mass (by decide) (by decide) (Or.inl ba_L9.2.2.2.2.2.2.2.1) (T := TX10) (N := 57) rfl (by decide) bp_X10_mass
  · cases h2; exact ec_cV (bm_X9_dock l) bw_X9_dock bv_X9_dock (by decide) (by decide) (Or.inl ba_L10.1) (T := TX9) (N := 10) rfl (by decide) bp_X9_dock
  · cases h2; exact ec_cV (bm_X10_dock l) bw_X10_dock bv_X10_dock (by decide) (by decide) (Or.inl ba_L10.2.1) (T := TX10) (N := 57) rfl (by decide) bp_X10_dock
  · cases h2; exact ec_cV (bm_X9_undock l) bw_X9_undock bv_X9_undock (by decide) (by decide) (Or.inl ba_L10.2.2.1) (T := TX9) (N := 10) rfl (by decide) bp_X9_undock
  · cases h2; exact ec_cV (bm_X10_undock l) bw_X10_undock bv_X10_undock (by decide) (by decide) (Or.inl ba_L10.2.2.2.1) (T := TX10) (N := 57) rfl (by decide) bp_X10_undock
  · cases h2; exact ec_cV (bm_X9_tell l) bw_X9_tell bv_X9_tell (by decide) (by decide) (Or.inl ba_L10.2.2.2.2.1) (T := TX9) (N := 10) rfl (by decide) bp_X9_tell
  · cases h2; exact ec_cV (bm_X10_tell l) bw_X10_tell bv_X10_tell (by decide) (by decide) (Or.inl ba_L10.2.2.2.2.2.1) (T := TX10) (N := 57) rfl (by decide) bp_X10_tell
  · cases h2; exact ec_cV (bm_X9_check l) bw_X9_check bv_X9_check (by decide) (by decide) (Or.inl ba_L10.2.2.2.2.2.2.1) (T := TX9) (N := 10) rfl (by decide) bp_X9_check
  · cases h2; exact ec_cV (bm_X10_check l) bw_X10_check bv_X10_check (by decide) (by decide) (Or.inl ba_L10.2.2.2.2.2.2.2.1) (T := TX10) (N := 57) rfl (by decide) bp_X10_check
  · cases h2; exact ec_cV (bm_X9_count l) bw_X9_count bv_X9_count (by decide) (by decide) (Or.inl ba_L11.1) (T := TX9) (N := 10) rfl (by decide) bp_X9_count
  · cases h2; exact ec_cV (bm_X10_count l) bw_X10_count bv_X10_count (by decide) (by decide) (Or.inl ba_L11.2.1) (T := TX10) (N := 57) rfl (by decide) bp_X10_count
  · cases h2; exact ec_cV (bm_X9_found l) bw_X9_found bv_X9_found (by decide) (by decide) (Or.inl ba_L11.2.2.1) (T := TX9) (N := 10) rfl (by decide) bp_X9_found
  · cases h2; exact ec_cV (bm_X10_found l) bw_X10_found bv_X10_found (by decide) (by decide) (Or.inl ba_L11.2.2.2.1) (T := TX10) (N := 57) rfl (by decide) bp_X10_found
  · cases h2
def bx_L : ex_K := (RL, ec_no, ec_no, ec_no, (fun ix => (be_L ix).map (fun q => (q.1, q.2.1, ab_sp ab_hd q.2.2))), ec_nz, ec_no)
theorem bj_L (l : Launch) : ex_ok l 9 316 bx_L := ⟨fun _ _ _ _ _ h => (by cases h), fun _ _ h => (by cases h), fun _ _ h => (by cases h), bk_L l, fun _ h => (by cases h), fun _ h => (by cases h), fun _ h => (by cases h), fun _ _ h => (by cases h)⟩
theorem lw_call {hd : List ab_H} {l tl : List ab_C} {c : ab_C} {av : ex_V} {cs : ex_C} {Q : ex_Q} (hl : l = c :: tl) (hp : ab_pre c av cs) (hk : ab_hk hd cs) (h : ∀ r cs', ab_post hd c av cs r cs' → Q r cs') : ab_sp hd l av cs Q := by
  subst hl
  exact ⟨c, List.mem_cons_self, hp, hk, h⟩
theorem lw_callm {hd : List ab_H} {l : List ab_C} {c : ab_C} {av : ex_V} {cs : ex_C} {Q : ex_Q} (hl : c ∈ l) (hp : ab_pre c av cs) (hk : ab_hk hd cs) (h : ∀ r cs', ab_post hd c av cs r cs' → Q r cs') : ab_sp hd l av cs Q := ⟨c, hl, hp, hk, h⟩
theorem po_int {hd : List ab_H} {c : ab_C} {av : ex_V} {cs cs' : ex_C} {r : Option Value} (h : ab_post hd c av cs r cs') (hs : c.2.2.2.all (fun k => k.1.isSome) = true) : (∃ x : Int32, r = some (.int x)) ∧ ab_hk hd cs' ∧ ab_fr c.2.2.1 cs cs' := by
  obtain ⟨h1, h2, k, hk, h3, -⟩ := h
  refine ⟨?_, h1, h2⟩
  have := List.all_eq_true.mp hs k hk
  unfold ab_rt at h3
  split at h3
  · rename_i e
    rw [e] at this
    cases this
  · obtain ⟨x, hx, -⟩ := h3
    exact ⟨x, hx⟩
abbrev ab_ti : ab_T := .inr (-2147483648, 2147483647)
theorem ab_cti (x : Int32) : ab_ct ab_ti (.int x) := ⟨x, rfl, ab_ge x, ab_lt' x⟩
theorem pr_0 {p : Nat} {W : ab_W} {k : List ab_Cs} {cs : ex_C} : ab_pre ([.inl p], [], W, k) [.ref p] cs := by
  refine ⟨rfl, fun i t h => ?_, fun q hq => (by cases hq)⟩
  match i, h with
  | 0, h => cases h; exact ⟨_, rfl, rfl⟩
  | i + 1, h => simp at h
theorem pr_1 {p : Nat} {x : Int32} {W : ab_W} {k : List ab_Cs} {cs : ex_C} : ab_pre ([.inl p, ab_ti], [], W, k) [.ref p, .int x] cs := by
  refine ⟨rfl, fun i t h => ?_, fun q hq => (by cases hq)⟩
  match i, h with
  | 0, h => cases h; exact ⟨_, rfl, rfl⟩
  | 1, h => cases h; exact ⟨_, rfl, ab_cti x⟩
  | i + 2, h => simp at h
theorem pr_2 {p : Nat} {x : Int32} {y : Int32} {W : ab_W} {k : List ab_Cs} {cs : ex_C} : ab_pre ([.inl p, ab_ti, ab_ti], [], W, k) [.ref p, .int x, .int y] cs := by
  refine ⟨rfl, fun i t h => ?_, fun q hq => (by cases hq)⟩
  match i, h with
  | 0, h => cases h; exact ⟨_, rfl, rfl⟩
  | 1, h => cases h; exact ⟨_, rfl, ab_cti x⟩
  | 2, h => cases h; exact ⟨_, rfl, ab_cti y⟩
  | i + 3, h => simp at h
theorem pr_3 {p : Nat} {x : Int32} {y : Int32} {z : Int32} {W : ab_W} {k : List ab_Cs} {cs : ex_C} : ab_pre ([.inl p, ab_ti, ab_ti, ab_ti], [], W, k) [.ref p, .int x, .int y, .int z] cs := by
  refine ⟨rfl, fun i t h => ?_, fun q hq => (by cases hq)⟩
  match i, h with
  | 0, h => cases h; exact ⟨_, rfl, rfl⟩
  | 1, h => cases h; exact ⟨_, rfl, ab_cti x⟩
  | 2, h => cases h; exact ⟨_, rfl, ab_cti y⟩
  | 3, h => cases h; exact ⟨_, rfl, ab_cti z⟩
  | i + 4, h => simp at h
theorem pr_4 {p : Nat} {x : Int32} {y : Int32} {z : Int32} {w : Int32} {W : ab_W} {k : List ab_Cs} {cs : ex_C} : ab_pre ([.inl p, ab_ti, ab_ti, ab_ti, ab_ti], [], W, k) [.ref p, .int x, .int y, .int z, .int w] cs := by
  refine ⟨rfl, fun i t h => ?_, fun q hq => (by cases hq)⟩
  match i, h with
  | 0, h => cases h; exact ⟨_, rfl, rfl⟩
  | 1, h => cases h; exact ⟨_, rfl, ab_cti x⟩
  | 2, h => cases h; exact ⟨_, rfl, ab_cti y⟩
  | 3, h => cases h; exact ⟨_, rfl, ab_cti z⟩
  | 4, h => cases h; exact ⟨_, rfl, ab_cti w⟩
  | i + 5, h => simp at h
def law_J (i : Int32) : ex_L → ex_V → ex_C → Prop := fun lv st cs => lv = [some (.ref 1003), some (.ref 0), some (.ref 76), some (.int (i + Int32.ofInt 5))] ∧ st = [] ∧ ab_hk ab_hd cs ∧ rel_R cs
def law_I (i : Int32) : Nat → Option (ex_L → ex_V → ex_C → Prop) := fun pc => if pc = 18 then some (law_J i) else none
def law_Q : ex_Q := fun rv _ => rv = some (.int 1)
theorem ix_k {i k : Int32} {L : Nat} (h1 : 0 ≤ i.toInt) (h2 : i.toInt + 5 ≤ (L : Int)) (hL : L ≤ 2560) (hk : 0 ≤ k.toInt ∧ k.toInt ≤ 4) : vp_in (i + k) L := by
  have e : (i + k).toInt = i.toInt + k.toInt := by
    rw [Int32.toInt_add, ab_bm (by omega) (by omega)]
  exact vp_mk (by omega) (by omega)
theorem ix_0 {i : Int32} {L : Nat} (h1 : 0 ≤ i.toInt) (h2 : i.toInt + 5 ≤ (L : Int)) : vp_in i L := vp_mk h1 (by omega)
