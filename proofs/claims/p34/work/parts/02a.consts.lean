/-- the words, the kinds of objects, the static arrays that the engine speaks of -/
def ec_tb : List Cond := lw_tbl.filter goodWord
abbrev ec_cl : List vw_C := vwCl
def ec_xt : List (Nat × (Nat → Int32)) := [(6, fun i => match i with
  | 0 => -1
  | 4 => 3
  | _ => 0), (3, fun i => match i with
  | 0 => 4
  | 1 => 6
  | _ => 14), (3, fun i => match i with
  | 0 => 10
  | 1 => 15
  | _ => 40)]
def ec_zs : List (String × String × String × Nat) := [("TinStation$Plant", "KIND_ABOVE", "[I", 0), ("TinStation$Crew", "BREATH", "[I", 1), ("TinStation$Crew", "WARMTH", "[I", 2)]
theorem ec_good : ∀ w ∈ ec_tb, (w.onTables && w.keeps) = true ∨ ∃ ty, w = .arrayClass ty := fun w hw => good_of_word (List.mem_filter.mp hw).2
theorem ec_sub : ∀ w ∈ ec_tb, w ∈ lw_tbl := fun w hw => (List.mem_filter.mp hw).1
theorem ec_in {w : Cond} {i : Nat} (h : lw_tbl[i]? = some w) (hg : goodWord w = true) : w ∈ ec_tb := List.mem_filter.mpr ⟨List.mem_of_getElem? h, hg⟩
theorem ec_ins {ws : List Cond} (h : ws.all (fun w => decide (w ∈ lw_tbl) && goodWord w) = true) : ∀ w ∈ ws, w ∈ ec_tb := fun w hw => by
  have h1 := List.all_eq_true.mp h w hw
  simp only [Bool.and_eq_true, decide_eq_true_eq] at h1
  exact List.mem_filter.mpr h1
theorem ec_k0 : ∀ w ∈ u_ws RX0 TX0 8, w ∈ ec_tb := ec_ins (by decide +kernel)
theorem ec_k1 : ∀ w ∈ u_ws RX1 TX1 6, w ∈ ec_tb := ec_ins (by decide +kernel)
theorem ec_k2 : ∀ w ∈ u_ws RX2 TX2 7, w ∈ ec_tb := ec_ins (by decide +kernel)
theorem ec_k3 : ∀ w ∈ u_ws RX3 TX3 7, w ∈ ec_tb := ec_ins (by decide +kernel)
theorem ec_k4 : ∀ w ∈ u_ws RX4 TX4 2, w ∈ ec_tb := ec_ins (by decide +kernel)
theorem ec_k5 : ∀ w ∈ u_ws RX5 TX5 10, w ∈ ec_tb := ec_ins (by decide +kernel)
theorem ec_k6 : ∀ w ∈ u_ws RX6 TX6 15, w ∈ ec_tb := ec_ins (by decide +kernel)
theorem ec_k7 : ∀ w ∈ u_ws RX7 TX7 5, w ∈ ec_tb := ec_ins (by decide +kernel)
theorem ec_k8 : ∀ w ∈ u_ws RX8 TX8 7, w ∈ ec_tb := ec_ins (by decide +kernel)
theorem ec_k9 : ∀ w ∈ u_ws RX9 TX9 10, w ∈ ec_tb := ec_ins (by decide +kernel)
theorem ec_k10 : ∀ w ∈ u_ws RX10 TX10 57, w ∈ ec_tb := ec_ins (by decide +kernel)
theorem ec_clok {ci : Nat} {C : String} {T : u_T} {N : Nat} (h : ec_cl[ci]? = some (C, T, N)) : (∀ w ∈ u_ws C T N, w ∈ ec_tb) ∧ ∃ ty0 : Nat → FieldType, (∀ k, k < N → parseFieldDescriptor (T k).2.2.1 = some (ty0 k)) ∧ (∀ a, a < N → ∀ b, b < N → a ≠ b → (T a).2.1 ≠ (T b).2.1) := by
  match ci, h with
  | 0, h => cases h; exact ⟨ec_k0, tyX0, tyX0_ok, nmX0⟩
  | 1, h => cases h; exact ⟨ec_k1, tyX1, tyX1_ok, nmX1⟩
  | 2, h => cases h; exact ⟨ec_k2, tyX2, tyX2_ok, nmX2⟩
  | 3, h => cases h; exact ⟨ec_k3, tyX3, tyX3_ok, nmX3⟩
  | 4, h => cases h; exact ⟨ec_k4, tyX4, tyX4_ok, nmX4⟩
  | 5, h => cases h; exact ⟨ec_k5, tyX5, tyX5_ok, nmX5⟩
  | 6, h => cases h; exact ⟨ec_k6, tyX6, tyX6_ok, nmX6⟩
  | 7, h => cases h; exact ⟨ec_k7, tyX7, tyX7_ok, nmX7⟩
  | 8, h => cases h; exact ⟨ec_k8, tyX8, tyX8_ok, nmX8⟩
  | 9, h => cases h; exact ⟨ec_k9, tyX9, tyX9_ok, nmX9⟩
  | 10, h => cases h; exact ⟨ec_k10, tyX10, tyX10_ok, nmX10⟩
  | k + 11, h => simp [ec_cl, vwCl] at h
/-- links to nest mates -/
def ec_ns : List (String × Nat × MethodName × String) := [(RX0, 31, yX9_copy, "TinStation"), (RX0, 35, yX9_copyFlags, "TinStation"), (RX0, 55, yX9_isSwitch, "TinStation"), (RX0, 58, yX9_one, "TinStation"), (RX2, 41, yX9_isSwitch, "TinStation"), (RX2, 47, yX9_one, "TinStation"), (RX3, 30, yX9_copy, "TinStation"), (RX3, 48, yX9_one, "TinStation"), (RX6, 50, yX9_copy, "TinStation"), (RX6, 54, yX9_copyFlags, "TinStation"), (RX6, 88, yX9_isSwitch, "TinStation"), (RX6, 91, yX9_one, "TinStation"), (RX8, 11, yX0_init, "TinStation"), (RX8, 20, yX3_init, "TinStation"), (RX8, 27, yX6_init, "TinStation"), (RX8, 34, yX1_init, "TinStation"), (RX8, 41, yX2_init, "TinStation"), (RX9, 11, yX7_init, "TinStation"), (RX9, 30, yX4_init, "TinStation"), (RX9, 37, yX5_init, "TinStation")]
