/-! LINKS: what a class's instructions name, by the places of its constant pool -/
def ec_fchk (own : String) (fp : List (Nat × Nat)) (q : Nat × Nat × Nat × Bool × FieldType) : Bool := match ec_cl[q.2.1]? with
  | some (_, T, N) => decide (q.2.2.1 < N) && (decide (lw_tbl[(fp.lookup q.1).getD 0]? = some (Cond.fieldLink own q.1 (T q.2.2.1).1 (T q.2.2.1).2.1 (T q.2.2.1).2.2.1)) && goodWord (Cond.fieldLink own q.1 (T q.2.2.1).1 (T q.2.2.1).2.1 (T q.2.2.1).2.2.1)) && decide (parseFieldDescriptor (T q.2.2.1).2.2.1 = some q.2.2.2.2) && (!q.2.2.2.1 || !(T q.2.2.1).2.2.2)
  | none => false
def ec_fx (t : List (Nat × Nat × Nat × Bool × FieldType)) (ix : Nat) : Option (Nat × Nat × Bool × FieldType) := (t.find? (fun q => q.1 == ix)).map (fun q => q.2)
theorem ec_fok {own : String} {fp : List (Nat × Nat)} {t : List (Nat × Nat × Nat × Bool × FieldType)} (h : t.all (ec_fchk own fp) = true) : ∀ (ix ci k : Nat) (b : Bool) (ty : FieldType), ec_fx t ix = some (ci, k, b, ty) → ∃ C T N, ec_cl[ci]? = some (C, T, N) ∧ k < N ∧ (Cond.fieldLink own ix (T k).1 (T k).2.1 (T k).2.2.1 ∈ ec_tb) ∧ parseFieldDescriptor (T k).2.2.1 = some ty ∧ (b = true → (T k).2.2.2 = false) := by
  intro ix ci k b ty hx
  unfold ec_fx at hx
  cases hf : t.find? (fun q => q.1 == ix) with
  | none => rw [hf] at hx; cases hx
  | some q =>
    rw [hf] at hx
    have hq := List.all_eq_true.mp h q (List.mem_of_find?_eq_some hf)
    have hix : q.1 = ix := by simpa using List.find?_some hf
    obtain ⟨i, ci', k', b', ty'⟩ := q
    cases hx
    cases hix
    unfold ec_fchk at hq
    dsimp only at hq
    cases hc : ec_cl[ci]? with
    | none => rw [hc] at hq; cases hq
    | some x =>
      rw [hc] at hq
      obtain ⟨C, T, N⟩ := x
      simp only [Bool.and_eq_true, decide_eq_true_eq, Bool.or_eq_true, Bool.not_eq_true'] at hq
      obtain ⟨⟨⟨h1, h2⟩, h3⟩, h4⟩ := hq
      refine ⟨C, T, N, rfl, h1, List.mem_filter.mpr ⟨List.mem_of_getElem? h2.1, h2.2⟩, h3, fun hb => ?_⟩
      rcases h4 with h4 | h4
      · rw [h4] at hb; cases hb
      · exact h4
def ec_cx (t : List (Nat × Int32)) (ix : Nat) : Option Int32 := (t.find? (fun q => q.1 == ix)).map (fun q => q.2)
theorem ec_cok {own : String} {t : List (Nat × Int32)} (h : t.all (fun q => decide (Cond.constant own q.1 q.2 ∈ lw_tbl) && goodWord (Cond.constant own q.1 q.2)) = true) : ∀ (ix : Nat) (v : Int32), ec_cx t ix = some v → Cond.constant own ix v ∈ ec_tb := by
  intro ix v hx
  unfold ec_cx at hx
  cases hf : t.find? (fun q => q.1 == ix) with
  | none => rw [hf] at hx; cases hx
  | some q =>
    rw [hf] at hx
    have hq := List.all_eq_true.mp h q (List.mem_of_find?_eq_some hf)
    have hix : q.1 = ix := by simpa using List.find?_some hf
    obtain ⟨i, v'⟩ := q
    cases hx
    cases hix
    simp only [Bool.and_eq_true, decide_eq_true_eq] at hq
    exact List.mem_filter.mpr hq
def ec_no {α : Type} : Nat → Option α := fun _ => none
def ec_nz : Nat → Nat := fun _ => 0
def ex_sp (cx : ex_K) (cc : ByteArray) (maxL : Nat) (ret : Option FieldType) (fuel : Nat) : ex_S := fun av cs Q => av.all (fun w => w.category == 1) = true ∧ av.length ≤ maxL ∧ ex_wp ec_xt cx cc ret (fun _ => none) Q fuel 0 (ex_l0 av maxL) [] cs
/-- the contract of a method that is walked where it is called -/
theorem ex_inl {l : Launch} {y : MethodName} {cc : ByteArray} {maxL : Nat} {ret : Option FieldType} {fr lo fuel : Nat} {cx : ex_K} (hy : plainName y.cls = true) (hown : cx.1 = y.cls) (hok : ex_ok l fr lo cx) : ex_Met l y cc maxL ret fr lo (ex_sp cx cc maxL ret fuel) := by
  refine ex_met hy (fun av cs Q h => ⟨fun w hw => by simpa using List.all_eq_true.mp h.1 w hw, h.2.1, fun p e R s m args below meth c D ad ca n0 A C => ?_⟩)
  rw [← hown] at C
  exact ex_wp_sound C hok ⟨Nat.zero_le _, Nat.zero_le _⟩ (fun _ _ _ _ hd hr hq => ex_s_ireturn C hd hr hq) (fun _ _ _ hd hr hq => ex_s_return C hd hr hq) (fun _ _ _ _ _ h => by cases h) _ _ _ _ _ h.2.2
/-- what the tables say of a callee -/
def ec_cw (y : MethodName) (bytes : ByteArray) (maxL : Nat) (ret : Option FieldType) : Prop := Cond.code y bytes maxL ret ∈ ec_tb ∧ Cond.initialized y.cls ∈ ec_tb ∧ (y.cls ≠ "java/lang/invoke/MethodHandle" ∧ y.cls ≠ "java/lang/invoke/VarHandle")
theorem ec_cV {l : Launch} {own : String} {fr lo ix n ci fr' lo' maxL N : Nat} {sp : ex_S} {y : MethodName} {bytes : ByteArray} {ret : Option FieldType} {T : u_T} (hM : ex_Met l y bytes maxL ret fr' lo' sp) (hw : ec_cw y bytes maxL ret) (hv : Cond.instanceMethod y ∈ ec_tb ∧ Cond.selects y.cls y y ∈ ec_tb) (h1 : fr' + 1 ≤ fr) (h2 : 8 + (maxL + 11) + lo' ≤ lo) (hl : Cond.methodLink own ix y ∈ ec_tb ∨ ∃ host, (own, ix, y, host) ∈ ec_ns) (hc : ec_cl[ci]? = some (y.cls, T, N)) (hn : 1 ≤ n) (hp : (parseMethodDescriptor y.desc).map (fun d => d.parameters.length) = some (n - 1)) : ex_cok l own fr lo ix n (some ci) sp :=
  ⟨y, bytes, maxL, ret, fr', lo', h1, h2, hM, hw.1, hw.2.1, hw.2.2, hl, ⟨T, N, hc⟩, hv.1, hv.2, hn, hp⟩
theorem ec_cS {l : Launch} {own : String} {fr lo ix n fr' lo' maxL : Nat} {sp : ex_S} {y : MethodName} {bytes : ByteArray} {ret : Option FieldType} (hM : ex_Met l y bytes maxL ret fr' lo' sp) (hw : ec_cw y bytes maxL ret) (hv : Cond.static y ∈ ec_tb) (h1 : fr' + 1 ≤ fr) (h2 : 8 + (maxL + 11) + lo' ≤ lo) (hl : Cond.methodLink own ix y ∈ ec_tb ∨ ∃ host, (own, ix, y, host) ∈ ec_ns) (hp : (parseMethodDescriptor y.desc).map (fun d => d.parameters.length) = some n) : ex_cok l own fr lo ix n none sp :=
  ⟨y, bytes, maxL, ret, fr', lo', h1, h2, hM, hw.1, hw.2.1, hw.2.2, hl, hv, hp⟩
def fl_X0 : List (Nat × Nat × Nat × Bool × FieldType) := [(9, 0, 0, false, (.array .int)), (15, 0, 1, false, (.array .int)), (18, 0, 2, false, (.array .int)), (21, 0, 3, false, (.array .int)), (24, 0, 4, false, (.array .boolean)), (28, 0, 5, false, (.array .int)), (39, 0, 6, true, .int), (43, 0, 7, true, .int)]
def fp_X0 : List (Nat × Nat) := [(9, 120), (15, 121), (18, 122), (21, 124), (24, 126), (28, 127), (39, 130), (43, 133)]
theorem fo_X0 : fl_X0.all (ec_fchk RX0 fp_X0) = true := by decide +kernel
theorem fe_X0_9 : ec_fx fl_X0 9 = some (0, 0, false, (.array .int)) := rfl
theorem fe_X0_15 : ec_fx fl_X0 15 = some (0, 1, false, (.array .int)) := rfl
theorem fe_X0_18 : ec_fx fl_X0 18 = some (0, 2, false, (.array .int)) := rfl
theorem fe_X0_21 : ec_fx fl_X0 21 = some (0, 3, false, (.array .int)) := rfl
theorem fe_X0_24 : ec_fx fl_X0 24 = some (0, 4, false, (.array .boolean)) := rfl
theorem fe_X0_28 : ec_fx fl_X0 28 = some (0, 5, false, (.array .int)) := rfl
theorem fe_X0_39 : ec_fx fl_X0 39 = some (0, 6, true, .int) := rfl
theorem fe_X0_43 : ec_fx fl_X0 43 = some (0, 7, true, .int) := rfl
def cl_X0 : List (Nat × Int32) := [(46, -1000000004), (51, -1000000001), (65, 100000), (66, 1000000)]
theorem co_X0 : cl_X0.all (fun q => decide (Cond.constant RX0 q.1 q.2 ∈ lw_tbl) && goodWord (Cond.constant RX0 q.1 q.2)) = true := by decide +kernel
theorem ce_X0_46 : ec_cx cl_X0 46 = some (-1000000004) := rfl
theorem ce_X0_51 : ec_cx cl_X0 51 = some (-1000000001) := rfl
theorem ce_X0_65 : ec_cx cl_X0 65 = some (100000) := rfl
theorem ce_X0_66 : ec_cx cl_X0 66 = some (1000000) := rfl
def sl_X0 : Nat → Option Nat := ec_no
theorem so_X0 : ∀ (ix j : Nat), sl_X0 ix = some j → ∃ C n dd, (C, n, dd, j) ∈ ec_zs ∧ Cond.fieldLink RX0 ix C n dd ∈ ec_tb := by
  intro ix j h
  cases h
def al_X0 : Nat → Nat := fun ix => match ix with
  | 67 => 2
  | _ => 0
theorem am_X0 {fr lo : Nat} (h1 : 1 ≤ fr) (h2 : 21 ≤ lo) : ∀ (ix : Nat), al_X0 ix = 2 → Cond.methodLink RX0 ix Lib.Math.min.name ∈ ec_tb ∧ Cond.static Lib.Math.min.name ∈ ec_tb ∧ Cond.initialized "java/lang/Math" ∈ ec_tb ∧ Cond.code Lib.Math.min.name Lib.Math.min.code 2 (some .int) ∈ ec_tb ∧ 1 ≤ fr ∧ 21 ≤ lo := by
  intro ix h
  unfold al_X0 at h
  split at h
  · have hw := ec_ins (ws := [Cond.methodLink RX0 67 Lib.Math.min.name, Cond.static Lib.Math.min.name, Cond.initialized "java/lang/Math", Cond.code Lib.Math.min.name Lib.Math.min.code 2 (some .int)]) (by decide +kernel)
    exact ⟨hw _ (by simp), hw _ (by simp), hw _ (by simp), hw _ (by simp), h1, h2⟩
  · cases h
theorem ax_X0 {fr lo : Nat} : ∀ (ix : Nat), al_X0 ix = 3 → Cond.methodLink RX0 ix Lib.Math.max.name ∈ ec_tb ∧ Cond.static Lib.Math.max.name ∈ ec_tb ∧ Cond.initialized "java/lang/Math" ∈ ec_tb ∧ Cond.code Lib.Math.max.name Lib.Math.max.code 2 (some .int) ∈ ec_tb ∧ 1 ≤ fr ∧ 21 ≤ lo := by
  intro ix h
  unfold al_X0 at h
  split at h
  · cases h
  · cases h
theorem ao_X0 {fr lo : Nat} : ∀ (ix : Nat), al_X0 ix = 1 → Cond.methodLink RX0 ix arraycopyName ∈ ec_tb ∧ Cond.native arraycopyName ∈ ec_tb ∧ Cond.static arraycopyName ∈ ec_tb ∧ Cond.initialized "java/lang/System" ∈ ec_tb ∧ 1 ≤ fr ∧ 8 + (nativeFrameWords "java/lang/System" "arraycopy" 5 + 11) ≤ lo := by
  intro ix h
  unfold al_X0 at h
  split at h
  · cases h
  · cases h
def fl_X1 : List (Nat × Nat × Nat × Bool × FieldType) := [(9, 1, 0, true, .int), (15, 1, 1, true, .int), (18, 1, 2, true, .int), (21, 1, 3, true, .boolean), (25, 1, 4, true, .int), (28, 1, 5, true, .int), (38, 0, 6, true, .int)]
def fp_X1 : List (Nat × Nat) := [(9, 248), (15, 249), (18, 250), (21, 251), (25, 252), (28, 253), (38, 131)]
theorem fo_X1 : fl_X1.all (ec_fchk RX1 fp_X1) = true := by decide +kernel
theorem fe_X1_9 : ec_fx fl_X1 9 = some (1, 0, true, .int) := rfl
theorem fe_X1_15 : ec_fx fl_X1 15 = some (1, 1, true, .int) := rfl
theorem fe_X1_18 : ec_fx fl_X1 18 = some (1, 2, true, .int) := rfl
theorem fe_X1_21 : ec_fx fl_X1 21 = some (1, 3, true, .boolean) := rfl
theorem fe_X1_25 : ec_fx fl_X1 25 = some (1, 4, true, .int) := rfl
theorem fe_X1_28 : ec_fx fl_X1 28 = some (1, 5, true, .int) := rfl
theorem fe_X1_38 : ec_fx fl_X1 38 = some (0, 6, true, .int) := rfl
def cl_X1 : List (Nat × Int32) := [(35, -1000000001), (36, 100000), (37, -1000000002)]
theorem co_X1 : cl_X1.all (fun q => decide (Cond.constant RX1 q.1 q.2 ∈ lw_tbl) && goodWord (Cond.constant RX1 q.1 q.2)) = true := by decide +kernel
theorem ce_X1_35 : ec_cx cl_X1 35 = some (-1000000001) := rfl
theorem ce_X1_36 : ec_cx cl_X1 36 = some (100000) := rfl
theorem ce_X1_37 : ec_cx cl_X1 37 = some (-1000000002) := rfl
def sl_X1 : Nat → Option Nat := ec_no
theorem so_X1 : ∀ (ix j : Nat), sl_X1 ix = some j → ∃ C n dd, (C, n, dd, j) ∈ ec_zs ∧ Cond.fieldLink RX1 ix C n dd ∈ ec_tb := by
  intro ix j h
  cases h
def fl_X2 : List (Nat × Nat × Nat × Bool × FieldType) := [(11, 2, 4, true, .int), (15, 2, 0, true, .boolean), (19, 2, 1, true, .boolean), (22, 2, 2, true, .boolean), (25, 2, 3, true, .int), (28, 2, 5, true, .int), (31, 2, 6, true, .int)]
def fp_X2 : List (Nat × Nat) := [(11, 282), (15, 273), (19, 276), (22, 278), (25, 280), (28, 284), (31, 286)]
theorem fo_X2 : fl_X2.all (ec_fchk RX2 fp_X2) = true := by decide +kernel
theorem fe_X2_11 : ec_fx fl_X2 11 = some (2, 4, true, .int) := rfl
theorem fe_X2_15 : ec_fx fl_X2 15 = some (2, 0, true, .boolean) := rfl
theorem fe_X2_19 : ec_fx fl_X2 19 = some (2, 1, true, .boolean) := rfl
theorem fe_X2_22 : ec_fx fl_X2 22 = some (2, 2, true, .boolean) := rfl
theorem fe_X2_25 : ec_fx fl_X2 25 = some (2, 3, true, .int) := rfl
theorem fe_X2_28 : ec_fx fl_X2 28 = some (2, 5, true, .int) := rfl
theorem fe_X2_31 : ec_fx fl_X2 31 = some (2, 6, true, .int) := rfl
def cl_X2 : List (Nat × Int32) := [(45, -1000000001), (46, -1000000003)]
theorem co_X2 : cl_X2.all (fun q => decide (Cond.constant RX2 q.1 q.2 ∈ lw_tbl) && goodWord (Cond.constant RX2 q.1 q.2)) = true := by decide +kernel
theorem ce_X2_45 : ec_cx cl_X2 45 = some (-1000000001) := rfl
theorem ce_X2_46 : ec_cx cl_X2 46 = some (-1000000003) := rfl
def sl_X2 : Nat → Option Nat := ec_no
theorem so_X2 : ∀ (ix j : Nat), sl_X2 ix = some j → ∃ C n dd, (C, n, dd, j) ∈ ec_zs ∧ Cond.fieldLink RX2 ix C n dd ∈ ec_tb := by
  intro ix j h
  cases h
def fl_X3 : List (Nat × Nat × Nat × Bool × FieldType) := [(9, 3, 0, false, (.array .int)), (15, 3, 1, false, (.array .int)), (18, 3, 2, false, (.array .int)), (21, 3, 3, false, (.array .int)), (24, 3, 4, false, (.array .int)), (27, 3, 5, false, (.array .int)), (34, 3, 6, true, .int)]
def fp_X3 : List (Nat × Nat) := [(9, 160), (15, 162), (18, 163), (21, 164), (24, 165), (27, 166), (34, 167), (65, 817), (74, 806)]
theorem fo_X3 : fl_X3.all (ec_fchk RX3 fp_X3) = true := by decide +kernel
theorem fe_X3_9 : ec_fx fl_X3 9 = some (3, 0, false, (.array .int)) := rfl
theorem fe_X3_15 : ec_fx fl_X3 15 = some (3, 1, false, (.array .int)) := rfl
theorem fe_X3_18 : ec_fx fl_X3 18 = some (3, 2, false, (.array .int)) := rfl
theorem fe_X3_21 : ec_fx fl_X3 21 = some (3, 3, false, (.array .int)) := rfl
theorem fe_X3_24 : ec_fx fl_X3 24 = some (3, 4, false, (.array .int)) := rfl
theorem fe_X3_27 : ec_fx fl_X3 27 = some (3, 5, false, (.array .int)) := rfl
theorem fe_X3_34 : ec_fx fl_X3 34 = some (3, 6, true, .int) := rfl
def cl_X3 : List (Nat × Int32) := [(38, -1000000004), (43, -1000000001), (47, -1000000003)]
theorem co_X3 : cl_X3.all (fun q => decide (Cond.constant RX3 q.1 q.2 ∈ lw_tbl) && goodWord (Cond.constant RX3 q.1 q.2)) = true := by decide +kernel
theorem ce_X3_38 : ec_cx cl_X3 38 = some (-1000000004) := rfl
theorem ce_X3_43 : ec_cx cl_X3 43 = some (-1000000001) := rfl
theorem ce_X3_47 : ec_cx cl_X3 47 = some (-1000000003) := rfl
def sl_X3 : Nat → Option Nat := fun ix => match ix with
  | 65 => some 2
  | 74 => some 1
  | _ => none
theorem so_X3 : ∀ (ix j : Nat), sl_X3 ix = some j → ∃ C n dd, (C, n, dd, j) ∈ ec_zs ∧ Cond.fieldLink RX3 ix C n dd ∈ ec_tb := by
  intro ix j h
  unfold sl_X3 at h
  split at h
  · cases h; exact ⟨"TinStation$Crew", "WARMTH", "[I", by decide +kernel, ec_ins (ws := [Cond.fieldLink RX3 65 "TinStation$Crew" "WARMTH" "[I"]) (by decide +kernel) _ List.mem_cons_self⟩
  · cases h; exact ⟨"TinStation$Crew", "BREATH", "[I", by decide +kernel, ec_ins (ws := [Cond.fieldLink RX3 74 "TinStation$Crew" "BREATH" "[I"]) (by decide +kernel) _ List.mem_cons_self⟩
  · cases h
def fl_X4 : List (Nat × Nat × Nat × Bool × FieldType) := [(9, 4, 0, false, (.array .int)), (15, 0, 6, true, .int), (21, 4, 1, true, .int), (28, 0, 7, true, .int), (53, 0, 2, false, (.array .int)), (56, 0, 3, false, (.array .int))]
def fp_X4 : List (Nat × Nat) := [(9, 336), (15, 129), (21, 337), (28, 134), (53, 123), (56, 125)]
theorem fo_X4 : fl_X4.all (ec_fchk RX4 fp_X4) = true := by decide +kernel
theorem fe_X4_9 : ec_fx fl_X4 9 = some (4, 0, false, (.array .int)) := rfl
theorem fe_X4_15 : ec_fx fl_X4 15 = some (0, 6, true, .int) := rfl
theorem fe_X4_21 : ec_fx fl_X4 21 = some (4, 1, true, .int) := rfl
theorem fe_X4_28 : ec_fx fl_X4 28 = some (0, 7, true, .int) := rfl
theorem fe_X4_53 : ec_fx fl_X4 53 = some (0, 2, false, (.array .int)) := rfl
theorem fe_X4_56 : ec_fx fl_X4 56 = some (0, 3, false, (.array .int)) := rfl
def cl_X4 : List (Nat × Int32) := [(31, -1000000001), (36, -1000000002)]
theorem co_X4 : cl_X4.all (fun q => decide (Cond.constant RX4 q.1 q.2 ∈ lw_tbl) && goodWord (Cond.constant RX4 q.1 q.2)) = true := by decide +kernel
theorem ce_X4_31 : ec_cx cl_X4 31 = some (-1000000001) := rfl
theorem ce_X4_36 : ec_cx cl_X4 36 = some (-1000000002) := rfl
def sl_X4 : Nat → Option Nat := ec_no
theorem so_X4 : ∀ (ix j : Nat), sl_X4 ix = some j → ∃ C n dd, (C, n, dd, j) ∈ ec_zs ∧ Cond.fieldLink RX4 ix C n dd ∈ ec_tb := by
  intro ix j h
  cases h
def al_X4 : Nat → Nat := fun ix => match ix with
  | 47 => 3
  | _ => 0
theorem am_X4 {fr lo : Nat} : ∀ (ix : Nat), al_X4 ix = 2 → Cond.methodLink RX4 ix Lib.Math.min.name ∈ ec_tb ∧ Cond.static Lib.Math.min.name ∈ ec_tb ∧ Cond.initialized "java/lang/Math" ∈ ec_tb ∧ Cond.code Lib.Math.min.name Lib.Math.min.code 2 (some .int) ∈ ec_tb ∧ 1 ≤ fr ∧ 21 ≤ lo := by
  intro ix h
  unfold al_X4 at h
  split at h
  · cases h
  · cases h
theorem ax_X4 {fr lo : Nat} (h1 : 1 ≤ fr) (h2 : 21 ≤ lo) : ∀ (ix : Nat), al_X4 ix = 3 → Cond.methodLink RX4 ix Lib.Math.max.name ∈ ec_tb ∧ Cond.static Lib.Math.max.name ∈ ec_tb ∧ Cond.initialized "java/lang/Math" ∈ ec_tb ∧ Cond.code Lib.Math.max.name Lib.Math.max.code 2 (some .int) ∈ ec_tb ∧ 1 ≤ fr ∧ 21 ≤ lo := by
  intro ix h
  unfold al_X4 at h
  split at h
  · have hw := ec_ins (ws := [Cond.methodLink RX4 47 Lib.Math.max.name, Cond.static Lib.Math.max.name, Cond.initialized "java/lang/Math", Cond.code Lib.Math.max.name Lib.Math.max.code 2 (some .int)]) (by decide +kernel)
    exact ⟨hw _ (by simp), hw _ (by simp), hw _ (by simp), hw _ (by simp), h1, h2⟩
  · cases h
theorem ao_X4 {fr lo : Nat} : ∀ (ix : Nat), al_X4 ix = 1 → Cond.methodLink RX4 ix arraycopyName ∈ ec_tb ∧ Cond.native arraycopyName ∈ ec_tb ∧ Cond.static arraycopyName ∈ ec_tb ∧ Cond.initialized "java/lang/System" ∈ ec_tb ∧ 1 ≤ fr ∧ 8 + (nativeFrameWords "java/lang/System" "arraycopy" 5 + 11) ≤ lo := by
  intro ix h
  unfold al_X4 at h
  split at h
  · cases h
  · cases h
def fl_X5 : List (Nat × Nat × Nat × Bool × FieldType) := [(9, 5, 0, false, (.array .int)), (15, 5, 1, false, (.array .int)), (18, 5, 2, false, (.array .int)), (21, 5, 3, false, (.array .int)), (24, 5, 4, false, (.array .int)), (27, 5, 5, false, (.array .int)), (30, 5, 6, false, (.array .int)), (33, 5, 9, true, .int), (42, 5, 7, true, .int), (46, 5, 8, true, .int)]
def fp_X5 : List (Nat × Nat) := [(9, 350), (15, 351), (18, 352), (21, 353), (24, 354), (27, 355), (30, 356), (33, 361), (42, 357), (46, 359)]
theorem fo_X5 : fl_X5.all (ec_fchk RX5 fp_X5) = true := by decide +kernel
theorem fe_X5_9 : ec_fx fl_X5 9 = some (5, 0, false, (.array .int)) := rfl
theorem fe_X5_15 : ec_fx fl_X5 15 = some (5, 1, false, (.array .int)) := rfl
theorem fe_X5_18 : ec_fx fl_X5 18 = some (5, 2, false, (.array .int)) := rfl
theorem fe_X5_21 : ec_fx fl_X5 21 = some (5, 3, false, (.array .int)) := rfl
theorem fe_X5_24 : ec_fx fl_X5 24 = some (5, 4, false, (.array .int)) := rfl
theorem fe_X5_27 : ec_fx fl_X5 27 = some (5, 5, false, (.array .int)) := rfl
theorem fe_X5_30 : ec_fx fl_X5 30 = some (5, 6, false, (.array .int)) := rfl
theorem fe_X5_33 : ec_fx fl_X5 33 = some (5, 9, true, .int) := rfl
theorem fe_X5_42 : ec_fx fl_X5 42 = some (5, 7, true, .int) := rfl
theorem fe_X5_46 : ec_fx fl_X5 46 = some (5, 8, true, .int) := rfl
def cl_X5 : List (Nat × Int32) := [(41, -1000000001), (45, -1000000004), (49, -1000000002)]
theorem co_X5 : cl_X5.all (fun q => decide (Cond.constant RX5 q.1 q.2 ∈ lw_tbl) && goodWord (Cond.constant RX5 q.1 q.2)) = true := by decide +kernel
theorem ce_X5_41 : ec_cx cl_X5 41 = some (-1000000001) := rfl
theorem ce_X5_45 : ec_cx cl_X5 45 = some (-1000000004) := rfl
theorem ce_X5_49 : ec_cx cl_X5 49 = some (-1000000002) := rfl
def sl_X5 : Nat → Option Nat := ec_no
theorem so_X5 : ∀ (ix j : Nat), sl_X5 ix = some j → ∃ C n dd, (C, n, dd, j) ∈ ec_zs ∧ Cond.fieldLink RX5 ix C n dd ∈ ec_tb := by
  intro ix j h
  cases h
def fl_X6 : List (Nat × Nat × Nat × Bool × FieldType) := [(9, 6, 0, false, (.array .int)), (15, 6, 1, false, (.array .int)), (18, 6, 2, false, (.array .int)), (21, 6, 3, false, (.array .int)), (24, 6, 4, false, (.array .int)), (27, 6, 5, false, (.array .int)), (30, 6, 6, false, (.array .int)), (33, 6, 7, false, (.array .boolean)), (37, 6, 8, false, (.array .boolean)), (40, 6, 9, false, (.array .boolean)), (43, 6, 10, false, (.array .int)), (46, 6, 13, true, .int), (58, 6, 11, true, .int), (61, 6, 12, true, .int), (64, 6, 14, true, .int)]
def fp_X6 : List (Nat × Nat) := [(9, 190), (15, 192), (18, 194), (21, 195), (24, 196), (27, 197), (30, 198), (33, 199), (37, 200), (40, 202), (43, 203), (46, 208), (58, 205), (61, 207), (64, 209), (85, 584)]
theorem fo_X6 : fl_X6.all (ec_fchk RX6 fp_X6) = true := by decide +kernel
theorem fe_X6_9 : ec_fx fl_X6 9 = some (6, 0, false, (.array .int)) := rfl
theorem fe_X6_15 : ec_fx fl_X6 15 = some (6, 1, false, (.array .int)) := rfl
theorem fe_X6_18 : ec_fx fl_X6 18 = some (6, 2, false, (.array .int)) := rfl
theorem fe_X6_21 : ec_fx fl_X6 21 = some (6, 3, false, (.array .int)) := rfl
theorem fe_X6_24 : ec_fx fl_X6 24 = some (6, 4, false, (.array .int)) := rfl
theorem fe_X6_27 : ec_fx fl_X6 27 = some (6, 5, false, (.array .int)) := rfl
theorem fe_X6_30 : ec_fx fl_X6 30 = some (6, 6, false, (.array .int)) := rfl
theorem fe_X6_33 : ec_fx fl_X6 33 = some (6, 7, false, (.array .boolean)) := rfl
theorem fe_X6_37 : ec_fx fl_X6 37 = some (6, 8, false, (.array .boolean)) := rfl
theorem fe_X6_40 : ec_fx fl_X6 40 = some (6, 9, false, (.array .boolean)) := rfl
theorem fe_X6_43 : ec_fx fl_X6 43 = some (6, 10, false, (.array .int)) := rfl
theorem fe_X6_46 : ec_fx fl_X6 46 = some (6, 13, true, .int) := rfl
theorem fe_X6_58 : ec_fx fl_X6 58 = some (6, 11, true, .int) := rfl
theorem fe_X6_61 : ec_fx fl_X6 61 = some (6, 12, true, .int) := rfl
theorem fe_X6_64 : ec_fx fl_X6 64 = some (6, 14, true, .int) := rfl
def cl_X6 : List (Nat × Int32) := [(74, -1000000001), (75, -1000000004), (76, 1000000), (84, -1000000005)]
theorem co_X6 : cl_X6.all (fun q => decide (Cond.constant RX6 q.1 q.2 ∈ lw_tbl) && goodWord (Cond.constant RX6 q.1 q.2)) = true := by decide +kernel
theorem ce_X6_74 : ec_cx cl_X6 74 = some (-1000000001) := rfl
theorem ce_X6_75 : ec_cx cl_X6 75 = some (-1000000004) := rfl
theorem ce_X6_76 : ec_cx cl_X6 76 = some (1000000) := rfl
theorem ce_X6_84 : ec_cx cl_X6 84 = some (-1000000005) := rfl
def sl_X6 : Nat → Option Nat := fun ix => match ix with
  | 85 => some 0
  | _ => none
theorem so_X6 : ∀ (ix j : Nat), sl_X6 ix = some j → ∃ C n dd, (C, n, dd, j) ∈ ec_zs ∧ Cond.fieldLink RX6 ix C n dd ∈ ec_tb := by
  intro ix j h
  unfold sl_X6 at h
  split at h
  · cases h; exact ⟨"TinStation$Plant", "KIND_ABOVE", "[I", by decide +kernel, ec_ins (ws := [Cond.fieldLink RX6 85 "TinStation$Plant" "KIND_ABOVE" "[I"]) (by decide +kernel) _ List.mem_cons_self⟩
  · cases h
def al_X6 : Nat → Nat := fun ix => match ix with
  | 95 => 2
  | _ => 0
theorem am_X6 {fr lo : Nat} (h1 : 1 ≤ fr) (h2 : 21 ≤ lo) : ∀ (ix : Nat), al_X6 ix = 2 → Cond.methodLink RX6 ix Lib.Math.min.name ∈ ec_tb ∧ Cond.static Lib.Math.min.name ∈ ec_tb ∧ Cond.initialized "java/lang/Math" ∈ ec_tb ∧ Cond.code Lib.Math.min.name Lib.Math.min.code 2 (some .int) ∈ ec_tb ∧ 1 ≤ fr ∧ 21 ≤ lo := by
  intro ix h
  unfold al_X6 at h
  split at h
  · have hw := ec_ins (ws := [Cond.methodLink RX6 95 Lib.Math.min.name, Cond.static Lib.Math.min.name, Cond.initialized "java/lang/Math", Cond.code Lib.Math.min.name Lib.Math.min.code 2 (some .int)]) (by decide +kernel)
    exact ⟨hw _ (by simp), hw _ (by simp), hw _ (by simp), hw _ (by simp), h1, h2⟩
  · cases h
theorem ax_X6 {fr lo : Nat} : ∀ (ix : Nat), al_X6 ix = 3 → Cond.methodLink RX6 ix Lib.Math.max.name ∈ ec_tb ∧ Cond.static Lib.Math.max.name ∈ ec_tb ∧ Cond.initialized "java/lang/Math" ∈ ec_tb ∧ Cond.code Lib.Math.max.name Lib.Math.max.code 2 (some .int) ∈ ec_tb ∧ 1 ≤ fr ∧ 21 ≤ lo := by
  intro ix h
  unfold al_X6 at h
  split at h
  · cases h
  · cases h
theorem ao_X6 {fr lo : Nat} : ∀ (ix : Nat), al_X6 ix = 1 → Cond.methodLink RX6 ix arraycopyName ∈ ec_tb ∧ Cond.native arraycopyName ∈ ec_tb ∧ Cond.static arraycopyName ∈ ec_tb ∧ Cond.initialized "java/lang/System" ∈ ec_tb ∧ 1 ≤ fr ∧ 8 + (nativeFrameWords "java/lang/System" "arraycopy" 5 + 11) ≤ lo := by
  intro ix h
  unfold al_X6 at h
  split at h
  · cases h
  · cases h
def fl_X7 : List (Nat × Nat × Nat × Bool × FieldType) := [(9, 7, 0, false, (.array .int)), (15, 7, 1, false, (.array .int)), (18, 7, 2, false, (.array .int)), (21, 7, 3, false, (.array .int)), (24, 7, 4, true, .int)]
def fp_X7 : List (Nat × Nat) := [(9, 86), (15, 88), (18, 90), (21, 92), (24, 94)]
theorem fo_X7 : fl_X7.all (ec_fchk RX7 fp_X7) = true := by decide +kernel
theorem fe_X7_9 : ec_fx fl_X7 9 = some (7, 0, false, (.array .int)) := rfl
theorem fe_X7_15 : ec_fx fl_X7 15 = some (7, 1, false, (.array .int)) := rfl
theorem fe_X7_18 : ec_fx fl_X7 18 = some (7, 2, false, (.array .int)) := rfl
theorem fe_X7_21 : ec_fx fl_X7 21 = some (7, 3, false, (.array .int)) := rfl
theorem fe_X7_24 : ec_fx fl_X7 24 = some (7, 4, true, .int) := rfl
def cl_X7 : List (Nat × Int32) := [(28, -1000000004)]
theorem co_X7 : cl_X7.all (fun q => decide (Cond.constant RX7 q.1 q.2 ∈ lw_tbl) && goodWord (Cond.constant RX7 q.1 q.2)) = true := by decide +kernel
theorem ce_X7_28 : ec_cx cl_X7 28 = some (-1000000004) := rfl
def sl_X7 : Nat → Option Nat := ec_no
theorem so_X7 : ∀ (ix j : Nat), sl_X7 ix = some j → ∃ C n dd, (C, n, dd, j) ∈ ec_zs ∧ Cond.fieldLink RX7 ix C n dd ∈ ec_tb := by
  intro ix j h
  cases h
def fl_X8 : List (Nat × Nat × Nat × Bool × FieldType) := [(12, 8, 1, false, (.object "TinStation$Air")), (21, 8, 2, false, (.object "TinStation$Crew")), (28, 8, 3, false, (.object "TinStation$Plant")), (35, 8, 4, false, (.object "TinStation$Bounds")), (42, 8, 5, false, (.object "TinStation$Course")), (46, 8, 0, false, (.object "TinStation$Script")), (66, 8, 6, true, .int), (107, 3, 0, false, (.array .int)), (117, 6, 8, false, (.array .boolean)), (124, 6, 1, false, (.array .int)), (125, 6, 0, false, (.array .int)), (128, 6, 10, false, (.array .int)), (136, 2, 0, true, .boolean), (140, 2, 1, true, .boolean), (143, 2, 5, true, .int), (146, 2, 3, true, .int), (155, 7, 0, false, (.array .int)), (158, 2, 2, true, .boolean), (168, 7, 1, false, (.array .int)), (174, 2, 4, true, .int), (181, 7, 2, false, (.array .int)), (194, 7, 3, false, (.array .int)), (211, 0, 5, false, (.array .int)), (214, 6, 14, true, .int)]
def fp_X8 : List (Nat × Nat) := [(12, 303), (21, 305), (28, 307), (35, 309), (42, 311), (46, 302), (66, 313), (107, 161), (117, 201), (124, 193), (125, 191), (128, 204), (136, 274), (140, 277), (143, 285), (146, 281), (155, 87), (158, 279), (168, 89), (174, 283), (181, 91), (194, 93), (211, 128), (214, 210)]
theorem fo_X8 : fl_X8.all (ec_fchk RX8 fp_X8) = true := by decide +kernel
theorem fe_X8_12 : ec_fx fl_X8 12 = some (8, 1, false, (.object "TinStation$Air")) := rfl
theorem fe_X8_21 : ec_fx fl_X8 21 = some (8, 2, false, (.object "TinStation$Crew")) := rfl
theorem fe_X8_28 : ec_fx fl_X8 28 = some (8, 3, false, (.object "TinStation$Plant")) := rfl
theorem fe_X8_35 : ec_fx fl_X8 35 = some (8, 4, false, (.object "TinStation$Bounds")) := rfl
theorem fe_X8_42 : ec_fx fl_X8 42 = some (8, 5, false, (.object "TinStation$Course")) := rfl
theorem fe_X8_46 : ec_fx fl_X8 46 = some (8, 0, false, (.object "TinStation$Script")) := rfl
theorem fe_X8_66 : ec_fx fl_X8 66 = some (8, 6, true, .int) := rfl
theorem fe_X8_107 : ec_fx fl_X8 107 = some (3, 0, false, (.array .int)) := rfl
theorem fe_X8_117 : ec_fx fl_X8 117 = some (6, 8, false, (.array .boolean)) := rfl
theorem fe_X8_124 : ec_fx fl_X8 124 = some (6, 1, false, (.array .int)) := rfl
theorem fe_X8_125 : ec_fx fl_X8 125 = some (6, 0, false, (.array .int)) := rfl
theorem fe_X8_128 : ec_fx fl_X8 128 = some (6, 10, false, (.array .int)) := rfl
theorem fe_X8_136 : ec_fx fl_X8 136 = some (2, 0, true, .boolean) := rfl
theorem fe_X8_140 : ec_fx fl_X8 140 = some (2, 1, true, .boolean) := rfl
theorem fe_X8_143 : ec_fx fl_X8 143 = some (2, 5, true, .int) := rfl
theorem fe_X8_146 : ec_fx fl_X8 146 = some (2, 3, true, .int) := rfl
theorem fe_X8_155 : ec_fx fl_X8 155 = some (7, 0, false, (.array .int)) := rfl
theorem fe_X8_158 : ec_fx fl_X8 158 = some (2, 2, true, .boolean) := rfl
theorem fe_X8_168 : ec_fx fl_X8 168 = some (7, 1, false, (.array .int)) := rfl
theorem fe_X8_174 : ec_fx fl_X8 174 = some (2, 4, true, .int) := rfl
theorem fe_X8_181 : ec_fx fl_X8 181 = some (7, 2, false, (.array .int)) := rfl
theorem fe_X8_194 : ec_fx fl_X8 194 = some (7, 3, false, (.array .int)) := rfl
theorem fe_X8_211 : ec_fx fl_X8 211 = some (0, 5, false, (.array .int)) := rfl
theorem fe_X8_214 : ec_fx fl_X8 214 = some (6, 14, true, .int) := rfl
def cl_X8 : List (Nat × Int32) := [(103, -1000000001), (115, -1000000003), (131, -1000000002), (180, -1000000000)]
theorem co_X8 : cl_X8.all (fun q => decide (Cond.constant RX8 q.1 q.2 ∈ lw_tbl) && goodWord (Cond.constant RX8 q.1 q.2)) = true := by decide +kernel
theorem ce_X8_103 : ec_cx cl_X8 103 = some (-1000000001) := rfl
theorem ce_X8_115 : ec_cx cl_X8 115 = some (-1000000003) := rfl
theorem ce_X8_131 : ec_cx cl_X8 131 = some (-1000000002) := rfl
theorem ce_X8_180 : ec_cx cl_X8 180 = some (-1000000000) := rfl
def sl_X8 : Nat → Option Nat := ec_no
theorem so_X8 : ∀ (ix j : Nat), sl_X8 ix = some j → ∃ C n dd, (C, n, dd, j) ∈ ec_zs ∧ Cond.fieldLink RX8 ix C n dd ∈ ec_tb := by
  intro ix j h
  cases h
def fl_X9 : List (Nat × Nat × Nat × Bool × FieldType) := [(12, 9, 0, false, (.object "TinStation$Script")), (21, 9, 1, false, (.object "TinStation$World")), (25, 9, 2, false, (.object "TinStation$World")), (31, 9, 3, false, (.object "TinStation$Hunt")), (38, 9, 4, false, (.object "TinStation$Journal")), (42, 9, 5, false, (.array .int)), (46, 9, 6, false, (.array .int)), (50, 9, 8, true, .int), (54, 8, 1, false, (.object "TinStation$Air")), (93, 8, 2, false, (.object "TinStation$Crew")), (111, 8, 3, false, (.object "TinStation$Plant")), (143, 8, 4, false, (.object "TinStation$Bounds")), (152, 8, 6, true, .int), (167, 8, 5, false, (.object "TinStation$Course")), (171, 2, 0, true, .boolean), (181, 7, 4, true, .int), (211, 4, 1, true, .int), (242, 9, 9, true, .int), (245, 9, 7, true, .int), (254, 0, 6, true, .int), (257, 0, 7, true, .int), (260, 3, 6, true, .int), (263, 6, 11, true, .int), (266, 5, 7, true, .int), (269, 5, 8, true, .int)]
def fp_X9 : List (Nat × Nat) := [(12, 384), (21, 385), (25, 386), (31, 387), (38, 388), (42, 389), (46, 390), (50, 392), (54, 304), (93, 306), (111, 308), (143, 310), (152, 314), (167, 312), (171, 275), (181, 95), (211, 338), (242, 393), (245, 391), (254, 132), (257, 135), (260, 168), (263, 206), (266, 358), (269, 360)]
theorem fo_X9 : fl_X9.all (ec_fchk RX9 fp_X9) = true := by decide +kernel
theorem fe_X9_12 : ec_fx fl_X9 12 = some (9, 0, false, (.object "TinStation$Script")) := rfl
theorem fe_X9_21 : ec_fx fl_X9 21 = some (9, 1, false, (.object "TinStation$World")) := rfl
theorem fe_X9_25 : ec_fx fl_X9 25 = some (9, 2, false, (.object "TinStation$World")) := rfl
theorem fe_X9_31 : ec_fx fl_X9 31 = some (9, 3, false, (.object "TinStation$Hunt")) := rfl
theorem fe_X9_38 : ec_fx fl_X9 38 = some (9, 4, false, (.object "TinStation$Journal")) := rfl
theorem fe_X9_42 : ec_fx fl_X9 42 = some (9, 5, false, (.array .int)) := rfl
theorem fe_X9_46 : ec_fx fl_X9 46 = some (9, 6, false, (.array .int)) := rfl
theorem fe_X9_50 : ec_fx fl_X9 50 = some (9, 8, true, .int) := rfl
theorem fe_X9_54 : ec_fx fl_X9 54 = some (8, 1, false, (.object "TinStation$Air")) := rfl
theorem fe_X9_93 : ec_fx fl_X9 93 = some (8, 2, false, (.object "TinStation$Crew")) := rfl
theorem fe_X9_111 : ec_fx fl_X9 111 = some (8, 3, false, (.object "TinStation$Plant")) := rfl
theorem fe_X9_143 : ec_fx fl_X9 143 = some (8, 4, false, (.object "TinStation$Bounds")) := rfl
theorem fe_X9_152 : ec_fx fl_X9 152 = some (8, 6, true, .int) := rfl
theorem fe_X9_167 : ec_fx fl_X9 167 = some (8, 5, false, (.object "TinStation$Course")) := rfl
theorem fe_X9_171 : ec_fx fl_X9 171 = some (2, 0, true, .boolean) := rfl
theorem fe_X9_181 : ec_fx fl_X9 181 = some (7, 4, true, .int) := rfl
theorem fe_X9_211 : ec_fx fl_X9 211 = some (4, 1, true, .int) := rfl
theorem fe_X9_242 : ec_fx fl_X9 242 = some (9, 9, true, .int) := rfl
theorem fe_X9_245 : ec_fx fl_X9 245 = some (9, 7, true, .int) := rfl
theorem fe_X9_254 : ec_fx fl_X9 254 = some (0, 6, true, .int) := rfl
theorem fe_X9_257 : ec_fx fl_X9 257 = some (0, 7, true, .int) := rfl
theorem fe_X9_260 : ec_fx fl_X9 260 = some (3, 6, true, .int) := rfl
theorem fe_X9_263 : ec_fx fl_X9 263 = some (6, 11, true, .int) := rfl
theorem fe_X9_266 : ec_fx fl_X9 266 = some (5, 7, true, .int) := rfl
theorem fe_X9_269 : ec_fx fl_X9 269 = some (5, 8, true, .int) := rfl
def cl_X9 : List (Nat × Int32) := [(49, 400000), (92, -1000000001), (155, -1000000004), (177, -1000000003), (241, 10000000), (275, -1000000000), (276, -1000000005)]
theorem co_X9 : cl_X9.all (fun q => decide (Cond.constant RX9 q.1 q.2 ∈ lw_tbl) && goodWord (Cond.constant RX9 q.1 q.2)) = true := by decide +kernel
theorem ce_X9_49 : ec_cx cl_X9 49 = some (400000) := rfl
theorem ce_X9_92 : ec_cx cl_X9 92 = some (-1000000001) := rfl
theorem ce_X9_155 : ec_cx cl_X9 155 = some (-1000000004) := rfl
theorem ce_X9_177 : ec_cx cl_X9 177 = some (-1000000003) := rfl
theorem ce_X9_241 : ec_cx cl_X9 241 = some (10000000) := rfl
theorem ce_X9_275 : ec_cx cl_X9 275 = some (-1000000000) := rfl
theorem ce_X9_276 : ec_cx cl_X9 276 = some (-1000000005) := rfl
def sl_X9 : Nat → Option Nat := ec_no
theorem so_X9 : ∀ (ix j : Nat), sl_X9 ix = some j → ∃ C n dd, (C, n, dd, j) ∈ ec_zs ∧ Cond.fieldLink RX9 ix C n dd ∈ ec_tb := by
  intro ix j h
  cases h
def al_X9 : Nat → Nat := fun ix => match ix with
  | 277 => 2
  | 282 => 1
  | _ => 0
theorem am_X9 {fr lo : Nat} (h1 : 1 ≤ fr) (h2 : 21 ≤ lo) : ∀ (ix : Nat), al_X9 ix = 2 → Cond.methodLink RX9 ix Lib.Math.min.name ∈ ec_tb ∧ Cond.static Lib.Math.min.name ∈ ec_tb ∧ Cond.initialized "java/lang/Math" ∈ ec_tb ∧ Cond.code Lib.Math.min.name Lib.Math.min.code 2 (some .int) ∈ ec_tb ∧ 1 ≤ fr ∧ 21 ≤ lo := by
  intro ix h
  unfold al_X9 at h
  split at h
  · have hw := ec_ins (ws := [Cond.methodLink RX9 277 Lib.Math.min.name, Cond.static Lib.Math.min.name, Cond.initialized "java/lang/Math", Cond.code Lib.Math.min.name Lib.Math.min.code 2 (some .int)]) (by decide +kernel)
    exact ⟨hw _ (by simp), hw _ (by simp), hw _ (by simp), hw _ (by simp), h1, h2⟩
  · cases h
  · cases h
theorem ax_X9 {fr lo : Nat} : ∀ (ix : Nat), al_X9 ix = 3 → Cond.methodLink RX9 ix Lib.Math.max.name ∈ ec_tb ∧ Cond.static Lib.Math.max.name ∈ ec_tb ∧ Cond.initialized "java/lang/Math" ∈ ec_tb ∧ Cond.code Lib.Math.max.name Lib.Math.max.code 2 (some .int) ∈ ec_tb ∧ 1 ≤ fr ∧ 21 ≤ lo := by
  intro ix h
  unfold al_X9 at h
  split at h
  · cases h
  · cases h
  · cases h
theorem ao_X9 {fr lo : Nat} (h1 : 1 ≤ fr) (h2 : 26 ≤ lo) : ∀ (ix : Nat), al_X9 ix = 1 → Cond.methodLink RX9 ix arraycopyName ∈ ec_tb ∧ Cond.native arraycopyName ∈ ec_tb ∧ Cond.static arraycopyName ∈ ec_tb ∧ Cond.initialized "java/lang/System" ∈ ec_tb ∧ 1 ≤ fr ∧ 8 + (nativeFrameWords "java/lang/System" "arraycopy" 5 + 11) ≤ lo := by
  intro ix h
  unfold al_X9 at h
  split at h
  · cases h
  · have hw := ec_ins (ws := [Cond.methodLink RX9 282 arraycopyName, Cond.native arraycopyName, Cond.static arraycopyName, Cond.initialized "java/lang/System"]) (by decide +kernel)
    exact ⟨hw _ (by simp), hw _ (by simp), hw _ (by simp), hw _ (by simp), h1, h2⟩
  · cases h
def fl_X10 : List (Nat × Nat × Nat × Bool × FieldType) := [(7, 10, 1, false, (.array .int)), (13, 10, 2, false, (.array .int)), (16, 10, 3, false, (.array .int)), (19, 10, 5, false, (.array .int)), (22, 10, 6, false, (.array .int)), (25, 10, 7, false, (.array .int)), (28, 10, 8, false, (.array .int)), (31, 10, 10, false, (.array .int)), (34, 10, 11, false, (.array .int)), (37, 10, 12, false, (.array .int)), (40, 10, 13, false, (.array .int)), (43, 10, 14, false, (.array .int)), (46, 10, 15, false, (.array .int)), (49, 10, 17, false, (.array .int)), (52, 10, 18, false, (.array .int)), (55, 10, 19, false, (.array .int)), (58, 10, 20, false, (.array .int)), (61, 10, 21, false, (.array .int)), (64, 10, 22, false, (.array .int)), (67, 10, 23, false, (.array .int)), (70, 10, 24, false, (.array .int)), (73, 10, 25, false, (.array .int)), (76, 10, 26, false, (.array .int)), (79, 10, 27, false, (.array .int)), (82, 10, 28, false, (.array .int)), (85, 10, 30, true, .int), (89, 10, 31, true, .int), (92, 10, 32, true, .int), (95, 10, 33, true, .int), (98, 10, 35, false, (.array .int)), (101, 10, 36, false, (.array .int)), (104, 10, 37, false, (.array .int)), (107, 10, 38, false, (.array .int)), (110, 10, 41, false, (.array .int)), (113, 10, 42, false, (.array .int)), (116, 10, 43, false, (.array .int)), (119, 10, 44, false, (.array .int)), (122, 10, 46, false, (.array .int)), (125, 10, 47, false, (.array .int)), (128, 10, 48, false, (.array .int)), (131, 10, 49, true, .int), (135, 10, 50, true, .int), (138, 10, 53, false, (.array .int)), (141, 10, 54, false, (.array .int)), (144, 10, 55, false, (.array .int)), (148, 10, 0, true, .int), (151, 10, 4, true, .int), (154, 10, 9, true, .int), (157, 10, 16, true, .int), (209, 10, 34, true, .int), (228, 10, 29, true, .int), (266, 10, 56, true, .int), (277, 10, 39, true, .int), (289, 10, 40, true, .int), (292, 10, 45, true, .int), (299, 10, 51, true, .int), (302, 10, 52, true, .int)]
def fp_X10 : List (Nat × Nat) := [(7, 1107), (13, 1108), (16, 1109), (19, 1111), (22, 1112), (25, 1113), (28, 1114), (31, 1116), (34, 1117), (37, 1118), (40, 1119), (43, 1120), (46, 1121), (49, 1123), (52, 1124), (55, 1125), (58, 1126), (61, 1127), (64, 1128), (67, 1129), (70, 1130), (73, 1131), (76, 1132), (79, 1133), (82, 1134), (85, 1136), (89, 1137), (92, 1138), (95, 1139), (98, 1141), (101, 1142), (104, 1143), (107, 1144), (110, 1147), (113, 1148), (116, 1149), (119, 1150), (122, 1152), (125, 1153), (128, 1154), (131, 1155), (135, 1156), (138, 1159), (141, 1160), (144, 1161), (148, 1106), (151, 1110), (154, 1115), (157, 1122), (209, 1140), (228, 1135), (266, 1162), (277, 1145), (289, 1146), (292, 1151), (299, 1157), (302, 1158)]
theorem fo_X10 : fl_X10.all (ec_fchk RX10 fp_X10) = true := by decide +kernel
theorem fe_X10_7 : ec_fx fl_X10 7 = some (10, 1, false, (.array .int)) := rfl
theorem fe_X10_13 : ec_fx fl_X10 13 = some (10, 2, false, (.array .int)) := rfl
theorem fe_X10_16 : ec_fx fl_X10 16 = some (10, 3, false, (.array .int)) := rfl
theorem fe_X10_19 : ec_fx fl_X10 19 = some (10, 5, false, (.array .int)) := rfl
theorem fe_X10_22 : ec_fx fl_X10 22 = some (10, 6, false, (.array .int)) := rfl
theorem fe_X10_25 : ec_fx fl_X10 25 = some (10, 7, false, (.array .int)) := rfl
theorem fe_X10_28 : ec_fx fl_X10 28 = some (10, 8, false, (.array .int)) := rfl
theorem fe_X10_31 : ec_fx fl_X10 31 = some (10, 10, false, (.array .int)) := rfl
theorem fe_X10_34 : ec_fx fl_X10 34 = some (10, 11, false, (.array .int)) := rfl
theorem fe_X10_37 : ec_fx fl_X10 37 = some (10, 12, false, (.array .int)) := rfl
theorem fe_X10_40 : ec_fx fl_X10 40 = some (10, 13, false, (.array .int)) := rfl
theorem fe_X10_43 : ec_fx fl_X10 43 = some (10, 14, false, (.array .int)) := rfl
theorem fe_X10_46 : ec_fx fl_X10 46 = some (10, 15, false, (.array .int)) := rfl
theorem fe_X10_49 : ec_fx fl_X10 49 = some (10, 17, false, (.array .int)) := rfl
theorem fe_X10_52 : ec_fx fl_X10 52 = some (10, 18, false, (.array .int)) := rfl
theorem fe_X10_55 : ec_fx fl_X10 55 = some (10, 19, false, (.array .int)) := rfl
theorem fe_X10_58 : ec_fx fl_X10 58 = some (10, 20, false, (.array .int)) := rfl
theorem fe_X10_61 : ec_fx fl_X10 61 = some (10, 21, false, (.array .int)) := rfl
theorem fe_X10_64 : ec_fx fl_X10 64 = some (10, 22, false, (.array .int)) := rfl
theorem fe_X10_67 : ec_fx fl_X10 67 = some (10, 23, false, (.array .int)) := rfl
theorem fe_X10_70 : ec_fx fl_X10 70 = some (10, 24, false, (.array .int)) := rfl
theorem fe_X10_73 : ec_fx fl_X10 73 = some (10, 25, false, (.array .int)) := rfl
theorem fe_X10_76 : ec_fx fl_X10 76 = some (10, 26, false, (.array .int)) := rfl
theorem fe_X10_79 : ec_fx fl_X10 79 = some (10, 27, false, (.array .int)) := rfl
theorem fe_X10_82 : ec_fx fl_X10 82 = some (10, 28, false, (.array .int)) := rfl
theorem fe_X10_85 : ec_fx fl_X10 85 = some (10, 30, true, .int) := rfl
theorem fe_X10_89 : ec_fx fl_X10 89 = some (10, 31, true, .int) := rfl
theorem fe_X10_92 : ec_fx fl_X10 92 = some (10, 32, true, .int) := rfl
theorem fe_X10_95 : ec_fx fl_X10 95 = some (10, 33, true, .int) := rfl
theorem fe_X10_98 : ec_fx fl_X10 98 = some (10, 35, false, (.array .int)) := rfl
theorem fe_X10_101 : ec_fx fl_X10 101 = some (10, 36, false, (.array .int)) := rfl
theorem fe_X10_104 : ec_fx fl_X10 104 = some (10, 37, false, (.array .int)) := rfl
theorem fe_X10_107 : ec_fx fl_X10 107 = some (10, 38, false, (.array .int)) := rfl
theorem fe_X10_110 : ec_fx fl_X10 110 = some (10, 41, false, (.array .int)) := rfl
theorem fe_X10_113 : ec_fx fl_X10 113 = some (10, 42, false, (.array .int)) := rfl
theorem fe_X10_116 : ec_fx fl_X10 116 = some (10, 43, false, (.array .int)) := rfl
theorem fe_X10_119 : ec_fx fl_X10 119 = some (10, 44, false, (.array .int)) := rfl
theorem fe_X10_122 : ec_fx fl_X10 122 = some (10, 46, false, (.array .int)) := rfl
theorem fe_X10_125 : ec_fx fl_X10 125 = some (10, 47, false, (.array .int)) := rfl
theorem fe_X10_128 : ec_fx fl_X10 128 = some (10, 48, false, (.array .int)) := rfl
theorem fe_X10_131 : ec_fx fl_X10 131 = some (10, 49, true, .int) := rfl
theorem fe_X10_135 : ec_fx fl_X10 135 = some (10, 50, true, .int) := rfl
theorem fe_X10_138 : ec_fx fl_X10 138 = some (10, 53, false, (.array .int)) := rfl
theorem fe_X10_141 : ec_fx fl_X10 141 = some (10, 54, false, (.array .int)) := rfl
theorem fe_X10_144 : ec_fx fl_X10 144 = some (10, 55, false, (.array .int)) := rfl
theorem fe_X10_148 : ec_fx fl_X10 148 = some (10, 0, true, .int) := rfl
theorem fe_X10_151 : ec_fx fl_X10 151 = some (10, 4, true, .int) := rfl
theorem fe_X10_154 : ec_fx fl_X10 154 = some (10, 9, true, .int) := rfl
theorem fe_X10_157 : ec_fx fl_X10 157 = some (10, 16, true, .int) := rfl
theorem fe_X10_209 : ec_fx fl_X10 209 = some (10, 34, true, .int) := rfl
theorem fe_X10_228 : ec_fx fl_X10 228 = some (10, 29, true, .int) := rfl
theorem fe_X10_266 : ec_fx fl_X10 266 = some (10, 56, true, .int) := rfl
theorem fe_X10_277 : ec_fx fl_X10 277 = some (10, 39, true, .int) := rfl
theorem fe_X10_289 : ec_fx fl_X10 289 = some (10, 40, true, .int) := rfl
theorem fe_X10_292 : ec_fx fl_X10 292 = some (10, 45, true, .int) := rfl
theorem fe_X10_299 : ec_fx fl_X10 299 = some (10, 51, true, .int) := rfl
theorem fe_X10_302 : ec_fx fl_X10 302 = some (10, 52, true, .int) := rfl
def cl_X10 : List (Nat × Int32) := [(134, 400000), (147, -1000000000), (175, 100000), (176, 1000000), (298, 10000000)]
theorem co_X10 : cl_X10.all (fun q => decide (Cond.constant RX10 q.1 q.2 ∈ lw_tbl) && goodWord (Cond.constant RX10 q.1 q.2)) = true := by decide +kernel
theorem ce_X10_134 : ec_cx cl_X10 134 = some (400000) := rfl
theorem ce_X10_147 : ec_cx cl_X10 147 = some (-1000000000) := rfl
theorem ce_X10_175 : ec_cx cl_X10 175 = some (100000) := rfl
theorem ce_X10_176 : ec_cx cl_X10 176 = some (1000000) := rfl
theorem ce_X10_298 : ec_cx cl_X10 298 = some (10000000) := rfl
def sl_X10 : Nat → Option Nat := ec_no
theorem so_X10 : ∀ (ix j : Nat), sl_X10 ix = some j → ∃ C n dd, (C, n, dd, j) ∈ ec_zs ∧ Cond.fieldLink RX10 ix C n dd ∈ ec_tb := by
  intro ix j h
  cases h
def ll_X10 : Nat → Option Int64 := fun ix => if ix = 235 then some 1000 else none
theorem lo_X10 : ∀ (ix : Nat) (v : Int64), ll_X10 ix = some v → Cond.constantLong RX10 ix v ∈ ec_tb := by
  intro ix v h
  unfold ll_X10 at h
  split at h
  · rename_i hx
    subst hx
    cases h
    exact ec_ins (ws := [Cond.constantLong RX10 235 1000]) (by decide +kernel) _ List.mem_cons_self
  · cases h
