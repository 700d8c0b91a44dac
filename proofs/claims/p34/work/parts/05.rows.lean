section EXS
variable {p : Program} {l : Launch} {e : Env} {R : Room} {s : State} {m : MethodId} {args : Array Value} {below : List Frame} {meth : Method} {c : Code}
variable {D : va_G} {ad ca : Nat → Nat} {n0 nL fr lo : Nat} {A : Nat → Prop} {cc : ByteArray} {ret : Option FieldType} {own : String} {Qw : State → Prop} {kc ks : Nat} {xt : ex_xt}
/-- a state of the walk -/
def ex_G (s : State) (D : va_G) (ad ca : Nat → Nat) (n0 nL : Nat) (A : Nat → Prop) (lv : ex_L) (cs : ex_C) (ls : Array Slot) (H : Heap) (locs : List Loc) : Prop := cs.length = n0 ∧ ex_ls ad lv nL ls ∧ va_P D ec_cl (ex_w ad ca cs) H ∧ va_S A s.heap H locs
/-- from here the walk ends, with Q -/
def ex_T (p : Program) (l : Launch) (e : Env) (R : Room) (s : State) (m : MethodId) (args : Array Value) (below : List Frame) (meth : Method) (c : Code) (D : va_G) (ad ca : Nat → Nat) (n0 nL : Nat) (A : Nat → Prop) (kc ks : Nat) (Qw : State → Prop) (pc : Nat) (lv : ex_L) (st : ex_V) (cs : ex_C) : Prop :=
  ∀ (ls : Array Slot) (H : Heap) (locs : List Loc), ex_G s D ad ca n0 nL A lv cs ls H locs → W p l e R s m args below meth c H locs kc ks Qw (F0 m pc ls (st.map (ex_v ad)))
/-- what holds in the whole method -/
def ex_Cx (xt : ex_xt) (p : Program) (R : Room) (s : State) (m : MethodId) (args : Array Value) (meth : Method) (c : Code) (D : va_G) (ad ca : Nat → Nat) (n0 nL fr lo : Nat) (A : Nat → Prop) (cc : ByteArray) (ret : Option FieldType) (own : String) : Prop :=
  p.tables.exec = Jvm.exec ∧ c.code = cc ∧ c.maxLocals = nL ∧ s.vm.findClass own = some m.cls ∧ (∀ w ∈ ec_tb, w.before args s = true) ∧ meth.sig.returnType = ret ∧ meth.locks = false ∧ ex_D ad n0 A ∧ va_K D ec_cl (ex_tys ca) s ∧ ex_X xt ad A s s.heap ∧ ex_Z ad A s s.heap ∧ (∀ q, ex_A ad n0 s.heap.size q → A q) ∧ fr ≤ R.frames ∧ lo ≤ R.locals ∧ (∀ (j : Nat) (q : Nat × (Nat → Int32)), ec_xt[j]? = some q → xt[j]? = some q) ∧ ex_Nw s
theorem ex_s_iconst (C : ex_Cx xt p R s m args meth c D ad ca n0 nL fr lo A cc ret own) {pc : Nat} {lv : ex_L} {cs : ex_C} {k : Int} {r : ex_V} (hd : decode cc pc = .ok (.iconst k, 1)) (k : ex_T p l e R s m args below meth c D ad ca n0 nL A kc ks Qw (pc + 1) lv (.int (Int32.ofInt k) :: r) cs) : ex_T p l e R s m args below meth c D ad ca n0 nL A kc ks Qw pc lv r cs := by
  obtain ⟨hx, hb, hml, hown, hts, hr, hlk, hD, hK, hX, hZ, hAe, hR1, hR2, hxt, hNw⟩ := C
  intro ls H locs G
  exact lv_iconst (v := Int32.ofInt _) hx hb hd rfl (k ls H locs G)
theorem ex_s_bipush (C : ex_Cx xt p R s m args meth c D ad ca n0 nL fr lo A cc ret own) {pc : Nat} {lv : ex_L} {cs : ex_C} {k : Int} {r : ex_V} (hd : decode cc pc = .ok (.bipush k, 2)) (k : ex_T p l e R s m args below meth c D ad ca n0 nL A kc ks Qw (pc + 2) lv (.int (Int8.ofInt k).toInt32 :: r) cs) : ex_T p l e R s m args below meth c D ad ca n0 nL A kc ks Qw pc lv r cs := by
  obtain ⟨hx, hb, hml, hown, hts, hr, hlk, hD, hK, hX, hZ, hAe, hR1, hR2, hxt, hNw⟩ := C
  intro ls H locs G
  exact lv_bipush (v := (Int8.ofInt _).toInt32) hx hb hd rfl (k ls H locs G)
theorem ex_s_sipush (C : ex_Cx xt p R s m args meth c D ad ca n0 nL fr lo A cc ret own) {pc : Nat} {lv : ex_L} {cs : ex_C} {k : Int} {r : ex_V} (hd : decode cc pc = .ok (.sipush k, 3)) (k : ex_T p l e R s m args below meth c D ad ca n0 nL A kc ks Qw (pc + 3) lv (.int (Int16.ofInt k).toInt32 :: r) cs) : ex_T p l e R s m args below meth c D ad ca n0 nL A kc ks Qw pc lv r cs := by
  obtain ⟨hx, hb, hml, hown, hts, hr, hlk, hD, hK, hX, hZ, hAe, hR1, hR2, hxt, hNw⟩ := C
  intro ls H locs G
  exact lv_sipush (v := (Int16.ofInt _).toInt32) hx hb hd rfl (k ls H locs G)
theorem ex_s_lconst (C : ex_Cx xt p R s m args meth c D ad ca n0 nL fr lo A cc ret own) {pc : Nat} {lv : ex_L} {cs : ex_C} {k : Fin 2} {r : ex_V} (hd : decode cc pc = .ok (.lconst k, 1)) (k : ex_T p l e R s m args below meth c D ad ca n0 nL A kc ks Qw (pc + 1) lv (.long (Int64.ofNat k) :: r) cs) : ex_T p l e R s m args below meth c D ad ca n0 nL A kc ks Qw pc lv r cs := by
  obtain ⟨hx, hb, hml, hown, hts, hr, hlk, hD, hK, hX, hZ, hAe, hR1, hR2, hxt, hNw⟩ := C
  intro ls H locs G
  exact lv_lconst (v := Int64.ofNat _) hx hb hd rfl (k ls H locs G)
theorem ex_s_iadd (C : ex_Cx xt p R s m args meth c D ad ca n0 nL fr lo A cc ret own) {pc : Nat} {lv : ex_L} {cs : ex_C} {x y : Int32} {r : ex_V} (hd : decode cc pc = .ok (.iadd, 1)) (k : ex_T p l e R s m args below meth c D ad ca n0 nL A kc ks Qw (pc + 1) lv (.int (x + y) :: r) cs) : ex_T p l e R s m args below meth c D ad ca n0 nL A kc ks Qw pc lv (.int y :: .int x :: r) cs := by
  obtain ⟨hx, hb, hml, hown, hts, hr, hlk, hD, hK, hX, hZ, hAe, hR1, hR2, hxt, hNw⟩ := C
  intro ls H locs G
  exact lv_iadd (x := x) (y := y) (rest := r.map (ex_v ad)) hx hb hd (k ls H locs G)
theorem ex_s_isub (C : ex_Cx xt p R s m args meth c D ad ca n0 nL fr lo A cc ret own) {pc : Nat} {lv : ex_L} {cs : ex_C} {x y : Int32} {r : ex_V} (hd : decode cc pc = .ok (.isub, 1)) (k : ex_T p l e R s m args below meth c D ad ca n0 nL A kc ks Qw (pc + 1) lv (.int (x - y) :: r) cs) : ex_T p l e R s m args below meth c D ad ca n0 nL A kc ks Qw pc lv (.int y :: .int x :: r) cs := by
  obtain ⟨hx, hb, hml, hown, hts, hr, hlk, hD, hK, hX, hZ, hAe, hR1, hR2, hxt, hNw⟩ := C
  intro ls H locs G
  exact lv_isub (x := x) (y := y) (rest := r.map (ex_v ad)) hx hb hd (k ls H locs G)
theorem ex_s_imul (C : ex_Cx xt p R s m args meth c D ad ca n0 nL fr lo A cc ret own) {pc : Nat} {lv : ex_L} {cs : ex_C} {x y : Int32} {r : ex_V} (hd : decode cc pc = .ok (.imul, 1)) (k : ex_T p l e R s m args below meth c D ad ca n0 nL A kc ks Qw (pc + 1) lv (.int (x * y) :: r) cs) : ex_T p l e R s m args below meth c D ad ca n0 nL A kc ks Qw pc lv (.int y :: .int x :: r) cs := by
  obtain ⟨hx, hb, hml, hown, hts, hr, hlk, hD, hK, hX, hZ, hAe, hR1, hR2, hxt, hNw⟩ := C
  intro ls H locs G
  exact lv_imul (x := x) (y := y) (rest := r.map (ex_v ad)) hx hb hd (k ls H locs G)
theorem ex_s_iand (C : ex_Cx xt p R s m args meth c D ad ca n0 nL fr lo A cc ret own) {pc : Nat} {lv : ex_L} {cs : ex_C} {x y : Int32} {r : ex_V} (hd : decode cc pc = .ok (.iand, 1)) (k : ex_T p l e R s m args below meth c D ad ca n0 nL A kc ks Qw (pc + 1) lv (.int (x &&& y) :: r) cs) : ex_T p l e R s m args below meth c D ad ca n0 nL A kc ks Qw pc lv (.int y :: .int x :: r) cs := by
  obtain ⟨hx, hb, hml, hown, hts, hr, hlk, hD, hK, hX, hZ, hAe, hR1, hR2, hxt, hNw⟩ := C
  intro ls H locs G
  exact lv_iand (x := x) (y := y) (rest := r.map (ex_v ad)) hx hb hd (k ls H locs G)
theorem ex_s_ior (C : ex_Cx xt p R s m args meth c D ad ca n0 nL fr lo A cc ret own) {pc : Nat} {lv : ex_L} {cs : ex_C} {x y : Int32} {r : ex_V} (hd : decode cc pc = .ok (.ior, 1)) (k : ex_T p l e R s m args below meth c D ad ca n0 nL A kc ks Qw (pc + 1) lv (.int (x ||| y) :: r) cs) : ex_T p l e R s m args below meth c D ad ca n0 nL A kc ks Qw pc lv (.int y :: .int x :: r) cs := by
  obtain ⟨hx, hb, hml, hown, hts, hr, hlk, hD, hK, hX, hZ, hAe, hR1, hR2, hxt, hNw⟩ := C
  intro ls H locs G
  exact lv_ior (x := x) (y := y) (rest := r.map (ex_v ad)) hx hb hd (k ls H locs G)
theorem ex_s_ixor (C : ex_Cx xt p R s m args meth c D ad ca n0 nL fr lo A cc ret own) {pc : Nat} {lv : ex_L} {cs : ex_C} {x y : Int32} {r : ex_V} (hd : decode cc pc = .ok (.ixor, 1)) (k : ex_T p l e R s m args below meth c D ad ca n0 nL A kc ks Qw (pc + 1) lv (.int (x ^^^ y) :: r) cs) : ex_T p l e R s m args below meth c D ad ca n0 nL A kc ks Qw pc lv (.int y :: .int x :: r) cs := by
  obtain ⟨hx, hb, hml, hown, hts, hr, hlk, hD, hK, hX, hZ, hAe, hR1, hR2, hxt, hNw⟩ := C
  intro ls H locs G
  exact lv_ixor (x := x) (y := y) (rest := r.map (ex_v ad)) hx hb hd (k ls H locs G)
theorem ex_s_ishl (C : ex_Cx xt p R s m args meth c D ad ca n0 nL fr lo A cc ret own) {pc : Nat} {lv : ex_L} {cs : ex_C} {x y : Int32} {r : ex_V} (hd : decode cc pc = .ok (.ishl, 1)) (k : ex_T p l e R s m args below meth c D ad ca n0 nL A kc ks Qw (pc + 1) lv (.int (x <<< (y &&& 31)) :: r) cs) : ex_T p l e R s m args below meth c D ad ca n0 nL A kc ks Qw pc lv (.int y :: .int x :: r) cs := by
  obtain ⟨hx, hb, hml, hown, hts, hr, hlk, hD, hK, hX, hZ, hAe, hR1, hR2, hxt, hNw⟩ := C
  intro ls H locs G
  exact lv_ishl (x := x) (y := y) (rest := r.map (ex_v ad)) hx hb hd (k ls H locs G)
theorem ex_s_ishr (C : ex_Cx xt p R s m args meth c D ad ca n0 nL fr lo A cc ret own) {pc : Nat} {lv : ex_L} {cs : ex_C} {x y : Int32} {r : ex_V} (hd : decode cc pc = .ok (.ishr, 1)) (k : ex_T p l e R s m args below meth c D ad ca n0 nL A kc ks Qw (pc + 1) lv (.int (x >>> (y &&& 31)) :: r) cs) : ex_T p l e R s m args below meth c D ad ca n0 nL A kc ks Qw pc lv (.int y :: .int x :: r) cs := by
  obtain ⟨hx, hb, hml, hown, hts, hr, hlk, hD, hK, hX, hZ, hAe, hR1, hR2, hxt, hNw⟩ := C
  intro ls H locs G
  exact lv_ishr (x := x) (y := y) (rest := r.map (ex_v ad)) hx hb hd (k ls H locs G)
theorem ex_s_iushr (C : ex_Cx xt p R s m args meth c D ad ca n0 nL fr lo A cc ret own) {pc : Nat} {lv : ex_L} {cs : ex_C} {x y : Int32} {r : ex_V} (hd : decode cc pc = .ok (.iushr, 1)) (k : ex_T p l e R s m args below meth c D ad ca n0 nL A kc ks Qw (pc + 1) lv (.int (x.toUInt32 >>> (y.toUInt32 &&& Int32.toUInt32 31)).toInt32 :: r) cs) : ex_T p l e R s m args below meth c D ad ca n0 nL A kc ks Qw pc lv (.int y :: .int x :: r) cs := by
  obtain ⟨hx, hb, hml, hown, hts, hr, hlk, hD, hK, hX, hZ, hAe, hR1, hR2, hxt, hNw⟩ := C
  intro ls H locs G
  exact lv_iushr (x := x) (y := y) (rest := r.map (ex_v ad)) hx hb hd rfl (k ls H locs G)
theorem ex_s_idiv (C : ex_Cx xt p R s m args meth c D ad ca n0 nL fr lo A cc ret own) {pc : Nat} {lv : ex_L} {cs : ex_C} {x y : Int32} {r : ex_V} (hy : ¬ y = 0) (hd : decode cc pc = .ok (.idiv, 1)) (k : ex_T p l e R s m args below meth c D ad ca n0 nL A kc ks Qw (pc + 1) lv (.int (x / y) :: r) cs) : ex_T p l e R s m args below meth c D ad ca n0 nL A kc ks Qw pc lv (.int y :: .int x :: r) cs := by
  obtain ⟨hx, hb, hml, hown, hts, hr, hlk, hD, hK, hX, hZ, hAe, hR1, hR2, hxt, hNw⟩ := C
  intro ls H locs G
  exact lv_idiv (x := x) (y := y) (rest := r.map (ex_v ad)) hx hb hd hy (k ls H locs G)
theorem ex_s_irem (C : ex_Cx xt p R s m args meth c D ad ca n0 nL fr lo A cc ret own) {pc : Nat} {lv : ex_L} {cs : ex_C} {x y : Int32} {r : ex_V} (hy : ¬ y = 0) (hd : decode cc pc = .ok (.irem, 1)) (k : ex_T p l e R s m args below meth c D ad ca n0 nL A kc ks Qw (pc + 1) lv (.int (x - x / y * y) :: r) cs) : ex_T p l e R s m args below meth c D ad ca n0 nL A kc ks Qw pc lv (.int y :: .int x :: r) cs := by
  obtain ⟨hx, hb, hml, hown, hts, hr, hlk, hD, hK, hX, hZ, hAe, hR1, hR2, hxt, hNw⟩ := C
  intro ls H locs G
  exact lv_irem (x := x) (y := y) (rest := r.map (ex_v ad)) hx hb hd hy (k ls H locs G)
theorem ex_s_ineg (C : ex_Cx xt p R s m args meth c D ad ca n0 nL fr lo A cc ret own) {pc : Nat} {lv : ex_L} {cs : ex_C} {x : Int32} {r : ex_V} (hd : decode cc pc = .ok (.ineg, 1)) (k : ex_T p l e R s m args below meth c D ad ca n0 nL A kc ks Qw (pc + 1) lv (.int (-x) :: r) cs) : ex_T p l e R s m args below meth c D ad ca n0 nL A kc ks Qw pc lv (.int x :: r) cs := by
  obtain ⟨hx, hb, hml, hown, hts, hr, hlk, hD, hK, hX, hZ, hAe, hR1, hR2, hxt, hNw⟩ := C
  intro ls H locs G
  exact lv_ineg (x := x) (rest := r.map (ex_v ad)) hx hb hd (k ls H locs G)
theorem ex_s_i2l (C : ex_Cx xt p R s m args meth c D ad ca n0 nL fr lo A cc ret own) {pc : Nat} {lv : ex_L} {cs : ex_C} {x : Int32} {r : ex_V} (hd : decode cc pc = .ok (.i2l, 1)) (k : ex_T p l e R s m args below meth c D ad ca n0 nL A kc ks Qw (pc + 1) lv (.long x.toInt64 :: r) cs) : ex_T p l e R s m args below meth c D ad ca n0 nL A kc ks Qw pc lv (.int x :: r) cs := by
  obtain ⟨hx, hb, hml, hown, hts, hr, hlk, hD, hK, hX, hZ, hAe, hR1, hR2, hxt, hNw⟩ := C
  intro ls H locs G
  exact lv_i2l (x := x) (rest := r.map (ex_v ad)) hx hb hd rfl (k ls H locs G)
theorem ex_s_l2i (C : ex_Cx xt p R s m args meth c D ad ca n0 nL fr lo A cc ret own) {pc : Nat} {lv : ex_L} {cs : ex_C} {x : Int64} {r : ex_V} (hd : decode cc pc = .ok (.l2i, 1)) (k : ex_T p l e R s m args below meth c D ad ca n0 nL A kc ks Qw (pc + 1) lv (.int x.toInt32 :: r) cs) : ex_T p l e R s m args below meth c D ad ca n0 nL A kc ks Qw pc lv (.long x :: r) cs := by
  obtain ⟨hx, hb, hml, hown, hts, hr, hlk, hD, hK, hX, hZ, hAe, hR1, hR2, hxt, hNw⟩ := C
  intro ls H locs G
  exact lv_l2i (x := x) (rest := r.map (ex_v ad)) hx hb hd rfl (k ls H locs G)
theorem ex_s_ladd (C : ex_Cx xt p R s m args meth c D ad ca n0 nL fr lo A cc ret own) {pc : Nat} {lv : ex_L} {cs : ex_C} {x y : Int64} {r : ex_V} (hd : decode cc pc = .ok (.ladd, 1)) (k : ex_T p l e R s m args below meth c D ad ca n0 nL A kc ks Qw (pc + 1) lv (.long (x + y) :: r) cs) : ex_T p l e R s m args below meth c D ad ca n0 nL A kc ks Qw pc lv (.long y :: .long x :: r) cs := by
  obtain ⟨hx, hb, hml, hown, hts, hr, hlk, hD, hK, hX, hZ, hAe, hR1, hR2, hxt, hNw⟩ := C
  intro ls H locs G
  exact lv_ladd (x := x) (y := y) (rest := r.map (ex_v ad)) hx hb hd (k ls H locs G)
theorem ex_s_lsub (C : ex_Cx xt p R s m args meth c D ad ca n0 nL fr lo A cc ret own) {pc : Nat} {lv : ex_L} {cs : ex_C} {x y : Int64} {r : ex_V} (hd : decode cc pc = .ok (.lsub, 1)) (k : ex_T p l e R s m args below meth c D ad ca n0 nL A kc ks Qw (pc + 1) lv (.long (x - y) :: r) cs) : ex_T p l e R s m args below meth c D ad ca n0 nL A kc ks Qw pc lv (.long y :: .long x :: r) cs := by
  obtain ⟨hx, hb, hml, hown, hts, hr, hlk, hD, hK, hX, hZ, hAe, hR1, hR2, hxt, hNw⟩ := C
  intro ls H locs G
  exact lv_lsub (x := x) (y := y) (rest := r.map (ex_v ad)) hx hb hd (k ls H locs G)
theorem ex_s_lmul (C : ex_Cx xt p R s m args meth c D ad ca n0 nL fr lo A cc ret own) {pc : Nat} {lv : ex_L} {cs : ex_C} {x y : Int64} {r : ex_V} (hd : decode cc pc = .ok (.lmul, 1)) (k : ex_T p l e R s m args below meth c D ad ca n0 nL A kc ks Qw (pc + 1) lv (.long (x * y) :: r) cs) : ex_T p l e R s m args below meth c D ad ca n0 nL A kc ks Qw pc lv (.long y :: .long x :: r) cs := by
  obtain ⟨hx, hb, hml, hown, hts, hr, hlk, hD, hK, hX, hZ, hAe, hR1, hR2, hxt, hNw⟩ := C
  intro ls H locs G
  exact lv_lmul (x := x) (y := y) (rest := r.map (ex_v ad)) hx hb hd (k ls H locs G)
theorem ex_s_ldiv (C : ex_Cx xt p R s m args meth c D ad ca n0 nL fr lo A cc ret own) {pc : Nat} {lv : ex_L} {cs : ex_C} {x y : Int64} {r : ex_V} (hy : ¬ y = 0) (hd : decode cc pc = .ok (.ldiv, 1)) (k : ex_T p l e R s m args below meth c D ad ca n0 nL A kc ks Qw (pc + 1) lv (.long (x / y) :: r) cs) : ex_T p l e R s m args below meth c D ad ca n0 nL A kc ks Qw pc lv (.long y :: .long x :: r) cs := by
  obtain ⟨hx, hb, hml, hown, hts, hr, hlk, hD, hK, hX, hZ, hAe, hR1, hR2, hxt, hNw⟩ := C
  intro ls H locs G
  exact lv_ldiv (x := x) (y := y) (rest := r.map (ex_v ad)) hx hb hd hy (k ls H locs G)
theorem ex_s_dup (C : ex_Cx xt p R s m args meth c D ad ca n0 nL fr lo A cc ret own) {pc : Nat} {lv : ex_L} {cs : ex_C} {v : Value} {r : ex_V} (h1 : v.category = 1) (hd : decode cc pc = .ok (.dup, 1)) (k : ex_T p l e R s m args below meth c D ad ca n0 nL A kc ks Qw (pc + 1) lv (v :: v :: r) cs) : ex_T p l e R s m args below meth c D ad ca n0 nL A kc ks Qw pc lv (v :: r) cs := by
  obtain ⟨hx, hb, hml, hown, hts, hr, hlk, hD, hK, hX, hZ, hAe, hR1, hR2, hxt, hNw⟩ := C
  intro ls H locs G
  exact lv_dup (va := ex_v ad v) (rest := r.map (ex_v ad)) hx hb hd (by rw [ex_v_cat]; exact h1) (k ls H locs G)
theorem ex_s_pop (C : ex_Cx xt p R s m args meth c D ad ca n0 nL fr lo A cc ret own) {pc : Nat} {lv : ex_L} {cs : ex_C} {v : Value} {r : ex_V} (h1 : v.category = 1) (hd : decode cc pc = .ok (.pop, 1)) (k : ex_T p l e R s m args below meth c D ad ca n0 nL A kc ks Qw (pc + 1) lv r cs) : ex_T p l e R s m args below meth c D ad ca n0 nL A kc ks Qw pc lv (v :: r) cs := by
  obtain ⟨hx, hb, hml, hown, hts, hr, hlk, hD, hK, hX, hZ, hAe, hR1, hR2, hxt, hNw⟩ := C
  intro ls H locs G
  exact lv_pop (va := ex_v ad v) (rest := r.map (ex_v ad)) hx hb hd (by rw [ex_v_cat]; exact h1) (k ls H locs G)
theorem ex_s_dup_x1 (C : ex_Cx xt p R s m args meth c D ad ca n0 nL fr lo A cc ret own) {pc : Nat} {lv : ex_L} {cs : ex_C} {v w : Value} {r : ex_V} (h1 : v.category = 1) (h2 : w.category = 1) (hd : decode cc pc = .ok (.dup_x1, 1)) (k : ex_T p l e R s m args below meth c D ad ca n0 nL A kc ks Qw (pc + 1) lv (v :: w :: v :: r) cs) : ex_T p l e R s m args below meth c D ad ca n0 nL A kc ks Qw pc lv (v :: w :: r) cs := by
  obtain ⟨hx, hb, hml, hown, hts, hr, hlk, hD, hK, hX, hZ, hAe, hR1, hR2, hxt, hNw⟩ := C
  intro ls H locs G
  exact lv_dup_x1 (va := ex_v ad v) (vb := ex_v ad w) (rest := r.map (ex_v ad)) hx hb hd (by rw [ex_v_cat]; exact h1) (by rw [ex_v_cat]; exact h2) (k ls H locs G)
theorem ex_s_dup2 (C : ex_Cx xt p R s m args meth c D ad ca n0 nL fr lo A cc ret own) {pc : Nat} {lv : ex_L} {cs : ex_C} {v w : Value} {r : ex_V} (h1 : v.category = 1) (h2 : w.category = 1) (hd : decode cc pc = .ok (.dup2, 1)) (k : ex_T p l e R s m args below meth c D ad ca n0 nL A kc ks Qw (pc + 1) lv (v :: w :: v :: w :: r) cs) : ex_T p l e R s m args below meth c D ad ca n0 nL A kc ks Qw pc lv (v :: w :: r) cs := by
  obtain ⟨hx, hb, hml, hown, hts, hr, hlk, hD, hK, hX, hZ, hAe, hR1, hR2, hxt, hNw⟩ := C
  intro ls H locs G
  exact lv_dup2_11 (va := ex_v ad v) (vb := ex_v ad w) (rest := r.map (ex_v ad)) hx hb hd (by rw [ex_v_cat]; exact h1) (by rw [ex_v_cat]; exact h2) (k ls H locs G)
theorem ex_s_iload_n (C : ex_Cx xt p R s m args meth c D ad ca n0 nL fr lo A cc ret own) {pc : Nat} {lv : ex_L} {cs : ex_C} {k : Fin 4} {x : Int32} {r : ex_V} (hd : decode cc pc = .ok (.iload_n k, 1)) (hv : lv[(k : Nat)]? = some (some (.int x))) (k : ex_T p l e R s m args below meth c D ad ca n0 nL A kc ks Qw (pc + 1) lv (.int x :: r) cs) : ex_T p l e R s m args below meth c D ad ca n0 nL A kc ks Qw pc lv r cs := by
  obtain ⟨hx, hb, hml, hown, hts, hr, hlk, hD, hK, hX, hZ, hAe, hR1, hR2, hxt, hNw⟩ := C
  intro ls H locs G
  exact lv_iload_n (x := x) (rest := r.map (ex_v ad)) hx hb hd rfl (G.2.1.2.2.2 _ _ hv) (k ls H locs G)
theorem ex_s_iload (C : ex_Cx xt p R s m args meth c D ad ca n0 nL fr lo A cc ret own) {pc : Nat} {lv : ex_L} {cs : ex_C} {k : Nat} {x : Int32} {r : ex_V} (hd : decode cc pc = .ok (.iload k, 2)) (hv : lv[k]? = some (some (.int x))) (k : ex_T p l e R s m args below meth c D ad ca n0 nL A kc ks Qw (pc + 2) lv (.int x :: r) cs) : ex_T p l e R s m args below meth c D ad ca n0 nL A kc ks Qw pc lv r cs := by
  obtain ⟨hx, hb, hml, hown, hts, hr, hlk, hD, hK, hX, hZ, hAe, hR1, hR2, hxt, hNw⟩ := C
  intro ls H locs G
  exact lv_iload (x := x) (rest := r.map (ex_v ad)) hx hb hd (G.2.1.2.2.2 _ _ hv) (k ls H locs G)
theorem ex_s_lload_n (C : ex_Cx xt p R s m args meth c D ad ca n0 nL fr lo A cc ret own) {pc : Nat} {lv : ex_L} {cs : ex_C} {k : Fin 4} {x : Int64} {r : ex_V} (hd : decode cc pc = .ok (.lload_n k, 1)) (hv : lv[(k : Nat)]? = some (some (.long x))) (k : ex_T p l e R s m args below meth c D ad ca n0 nL A kc ks Qw (pc + 1) lv (.long x :: r) cs) : ex_T p l e R s m args below meth c D ad ca n0 nL A kc ks Qw pc lv r cs := by
  obtain ⟨hx, hb, hml, hown, hts, hr, hlk, hD, hK, hX, hZ, hAe, hR1, hR2, hxt, hNw⟩ := C
  intro ls H locs G
  exact lv_lload_n (x := x) (rest := r.map (ex_v ad)) hx hb hd rfl (G.2.1.2.2.2 _ _ hv) (k ls H locs G)
theorem ex_s_lload (C : ex_Cx xt p R s m args meth c D ad ca n0 nL fr lo A cc ret own) {pc : Nat} {lv : ex_L} {cs : ex_C} {k : Nat} {x : Int64} {r : ex_V} (hd : decode cc pc = .ok (.lload k, 2)) (hv : lv[k]? = some (some (.long x))) (k : ex_T p l e R s m args below meth c D ad ca n0 nL A kc ks Qw (pc + 2) lv (.long x :: r) cs) : ex_T p l e R s m args below meth c D ad ca n0 nL A kc ks Qw pc lv r cs := by
  obtain ⟨hx, hb, hml, hown, hts, hr, hlk, hD, hK, hX, hZ, hAe, hR1, hR2, hxt, hNw⟩ := C
  intro ls H locs G
  exact lv_lload (x := x) (rest := r.map (ex_v ad)) hx hb hd (G.2.1.2.2.2 _ _ hv) (k ls H locs G)
theorem ex_s_aload_n (C : ex_Cx xt p R s m args meth c D ad ca n0 nL fr lo A cc ret own) {pc : Nat} {lv : ex_L} {cs : ex_C} {k : Fin 4} {x : Nat} {r : ex_V} (hd : decode cc pc = .ok (.aload_n k, 1)) (hv : lv[(k : Nat)]? = some (some (.ref x))) (k : ex_T p l e R s m args below meth c D ad ca n0 nL A kc ks Qw (pc + 1) lv (.ref x :: r) cs) : ex_T p l e R s m args below meth c D ad ca n0 nL A kc ks Qw pc lv r cs := by
  obtain ⟨hx, hb, hml, hown, hts, hr, hlk, hD, hK, hX, hZ, hAe, hR1, hR2, hxt, hNw⟩ := C
  intro ls H locs G
  exact lv_aload_n (x := ad x) (rest := r.map (ex_v ad)) hx hb hd rfl (G.2.1.2.2.2 _ _ hv) (k ls H locs G)
theorem ex_s_aload (C : ex_Cx xt p R s m args meth c D ad ca n0 nL fr lo A cc ret own) {pc : Nat} {lv : ex_L} {cs : ex_C} {k : Nat} {x : Nat} {r : ex_V} (hd : decode cc pc = .ok (.aload k, 2)) (hv : lv[k]? = some (some (.ref x))) (k : ex_T p l e R s m args below meth c D ad ca n0 nL A kc ks Qw (pc + 2) lv (.ref x :: r) cs) : ex_T p l e R s m args below meth c D ad ca n0 nL A kc ks Qw pc lv r cs := by
  obtain ⟨hx, hb, hml, hown, hts, hr, hlk, hD, hK, hX, hZ, hAe, hR1, hR2, hxt, hNw⟩ := C
  intro ls H locs G
  exact lv_aload (x := ad x) (rest := r.map (ex_v ad)) hx hb hd (G.2.1.2.2.2 _ _ hv) (k ls H locs G)
theorem ex_s_istore_n (C : ex_Cx xt p R s m args meth c D ad ca n0 nL fr lo A cc ret own) {pc : Nat} {lv : ex_L} {cs : ex_C} {k : Fin 4} {x : Int32} {r : ex_V} (hd : decode cc pc = .ok (.istore_n k, 1)) (hs : ex_so lv k) (kk : ex_T p l e R s m args below meth c D ad ca n0 nL A kc ks Qw (pc + 1) (lv.set k (some (.int x))) r cs) : ex_T p l e R s m args below meth c D ad ca n0 nL A kc ks Qw pc lv (.int x :: r) cs := by
  obtain ⟨hx, hb, hml, hown, hts, hr, hlk, hD, hK, hX, hZ, hAe, hR1, hR2, hxt, hNw⟩ := C
  intro ls H locs G
  refine lv_istore_n (x := x) (rest := r.map (ex_v ad)) hx hb hd rfl G.2.1.has (Nat.lt_of_lt_of_le hs.1 G.2.1.2.2.1) rfl (fun ls' h' => ?_)
  exact kk ls' H locs ⟨G.1, G.2.1.set1 (v := .int x) hs h', G.2.2⟩
theorem ex_s_istore (C : ex_Cx xt p R s m args meth c D ad ca n0 nL fr lo A cc ret own) {pc : Nat} {lv : ex_L} {cs : ex_C} {k : Nat} {x : Int32} {r : ex_V} (hd : decode cc pc = .ok (.istore k, 2)) (hs : ex_so lv k) (kk : ex_T p l e R s m args below meth c D ad ca n0 nL A kc ks Qw (pc + 2) (lv.set k (some (.int x))) r cs) : ex_T p l e R s m args below meth c D ad ca n0 nL A kc ks Qw pc lv (.int x :: r) cs := by
  obtain ⟨hx, hb, hml, hown, hts, hr, hlk, hD, hK, hX, hZ, hAe, hR1, hR2, hxt, hNw⟩ := C
  intro ls H locs G
  refine lv_istore (x := x) (rest := r.map (ex_v ad)) hx hb hd G.2.1.has (Nat.lt_of_lt_of_le hs.1 G.2.1.2.2.1) rfl (fun ls' h' => ?_)
  exact kk ls' H locs ⟨G.1, G.2.1.set1 (v := .int x) hs h', G.2.2⟩
theorem ex_s_astore_n (C : ex_Cx xt p R s m args meth c D ad ca n0 nL fr lo A cc ret own) {pc : Nat} {lv : ex_L} {cs : ex_C} {k : Fin 4} {x : Nat} {r : ex_V} (hd : decode cc pc = .ok (.astore_n k, 1)) (hs : ex_so lv k) (kk : ex_T p l e R s m args below meth c D ad ca n0 nL A kc ks Qw (pc + 1) (lv.set k (some (.ref x))) r cs) : ex_T p l e R s m args below meth c D ad ca n0 nL A kc ks Qw pc lv (.ref x :: r) cs := by
  obtain ⟨hx, hb, hml, hown, hts, hr, hlk, hD, hK, hX, hZ, hAe, hR1, hR2, hxt, hNw⟩ := C
  intro ls H locs G
  refine lv_astore_n (x := ad x) (rest := r.map (ex_v ad)) hx hb hd rfl G.2.1.has (Nat.lt_of_lt_of_le hs.1 G.2.1.2.2.1) rfl (fun ls' h' => ?_)
  exact kk ls' H locs ⟨G.1, G.2.1.set1 (v := .ref x) hs h', G.2.2⟩
theorem ex_s_astore (C : ex_Cx xt p R s m args meth c D ad ca n0 nL fr lo A cc ret own) {pc : Nat} {lv : ex_L} {cs : ex_C} {k : Nat} {x : Nat} {r : ex_V} (hd : decode cc pc = .ok (.astore k, 2)) (hs : ex_so lv k) (kk : ex_T p l e R s m args below meth c D ad ca n0 nL A kc ks Qw (pc + 2) (lv.set k (some (.ref x))) r cs) : ex_T p l e R s m args below meth c D ad ca n0 nL A kc ks Qw pc lv (.ref x :: r) cs := by
  obtain ⟨hx, hb, hml, hown, hts, hr, hlk, hD, hK, hX, hZ, hAe, hR1, hR2, hxt, hNw⟩ := C
  intro ls H locs G
  refine lv_astore (x := ad x) (rest := r.map (ex_v ad)) hx hb hd G.2.1.has (Nat.lt_of_lt_of_le hs.1 G.2.1.2.2.1) rfl (fun ls' h' => ?_)
  exact kk ls' H locs ⟨G.1, G.2.1.set1 (v := .ref x) hs h', G.2.2⟩
theorem ex_s_lstore_n (C : ex_Cx xt p R s m args meth c D ad ca n0 nL fr lo A cc ret own) {pc : Nat} {lv : ex_L} {cs : ex_C} {k : Fin 4} {x : Int64} {r : ex_V} (hd : decode cc pc = .ok (.lstore_n k, 1)) (hs : ex_so lv k) (hs2 : (k : Nat) + 1 < lv.length) (kk : ex_T p l e R s m args below meth c D ad ca n0 nL A kc ks Qw (pc + 1) ((lv.set k (some (.long x))).set (k + 1) none) r cs) : ex_T p l e R s m args below meth c D ad ca n0 nL A kc ks Qw pc lv (.long x :: r) cs := by
  obtain ⟨hx, hb, hml, hown, hts, hr, hlk, hD, hK, hX, hZ, hAe, hR1, hR2, hxt, hNw⟩ := C
  intro ls H locs G
  refine lv_lstore_n (x := x) (rest := r.map (ex_v ad)) hx hb hd rfl G.2.1.has (Nat.lt_of_lt_of_le hs2 G.2.1.2.2.1) rfl (fun ls' h' => ?_)
  exact kk ls' H locs ⟨G.1, G.2.1.set2 (v := .long x) hs h', G.2.2⟩
theorem ex_s_lstore (C : ex_Cx xt p R s m args meth c D ad ca n0 nL fr lo A cc ret own) {pc : Nat} {lv : ex_L} {cs : ex_C} {k : Nat} {x : Int64} {r : ex_V} (hd : decode cc pc = .ok (.lstore k, 2)) (hs : ex_so lv k) (hs2 : (k : Nat) + 1 < lv.length) (kk : ex_T p l e R s m args below meth c D ad ca n0 nL A kc ks Qw (pc + 2) ((lv.set k (some (.long x))).set (k + 1) none) r cs) : ex_T p l e R s m args below meth c D ad ca n0 nL A kc ks Qw pc lv (.long x :: r) cs := by
  obtain ⟨hx, hb, hml, hown, hts, hr, hlk, hD, hK, hX, hZ, hAe, hR1, hR2, hxt, hNw⟩ := C
  intro ls H locs G
  refine lv_lstore (x := x) (rest := r.map (ex_v ad)) hx hb hd G.2.1.has (Nat.lt_of_lt_of_le hs2 G.2.1.2.2.1) rfl (fun ls' h' => ?_)
  exact kk ls' H locs ⟨G.1, G.2.1.set2 (v := .long x) hs h', G.2.2⟩
theorem ex_s_iinc (C : ex_Cx xt p R s m args meth c D ad ca n0 nL fr lo A cc ret own) {pc : Nat} {lv : ex_L} {cs : ex_C} {k : Nat} {n : Int} {x : Int32} {r : ex_V} (hd : decode cc pc = .ok (.iinc k n, 3)) (hv : lv[k]? = some (some (.int x))) (hs : ex_so lv k) (kk : ex_T p l e R s m args below meth c D ad ca n0 nL A kc ks Qw (pc + 3) (lv.set k (some (.int (x + Int32.ofInt n)))) r cs) : ex_T p l e R s m args below meth c D ad ca n0 nL A kc ks Qw pc lv r cs := by
  obtain ⟨hx, hb, hml, hown, hts, hr, hlk, hD, hK, hX, hZ, hAe, hR1, hR2, hxt, hNw⟩ := C
  intro ls H locs G
  obtain ⟨j, hj⟩ := List.getElem?_of_mem (ex_ll_mem (ad := ad) (lv := lv) (q := (k, .int x)) |>.mpr ⟨.int x, hv, rfl⟩)
  refine lv_iinc (x := x) (v := x + Int32.ofInt n) (k := j) (rest := r.map (ex_v ad)) hx hb hd G.2.1.has hj rfl (Nat.lt_of_lt_of_le hs.1 G.2.1.2.2.1) rfl (fun ls' h' => ?_)
  exact kk ls' H locs ⟨G.1, G.2.1.set1 (v := .int (x + Int32.ofInt n)) hs h', G.2.2⟩
theorem ex_s_if_eq (C : ex_Cx xt p R s m args meth c D ad ca n0 nL fr lo A cc ret own) {pc : Nat} {lv : ex_L} {cs : ex_C} {x : Int32} {r : ex_V} {off : Int} {t : Nat} (hd : decode cc pc = .ok (.ifCond .eq off, 3)) (ht : (pc : Int) + off = (t : Int)) (kt : x = 0 → ex_T p l e R s m args below meth c D ad ca n0 nL A kc ks Qw t lv r cs) (kf : ¬ x = 0 → ex_T p l e R s m args below meth c D ad ca n0 nL A kc ks Qw (pc + 3) lv r cs) : ex_T p l e R s m args below meth c D ad ca n0 nL A kc ks Qw pc lv (.int x :: r) cs := by
  obtain ⟨hx, hb, hml, hown, hts, hr, hlk, hD, hK, hX, hZ, hAe, hR1, hR2, hxt, hNw⟩ := C
  intro ls H locs G
  exact lv_if_eq (x := x) (rest := r.map (ex_v ad)) (tgt := t) hx hb hd ht (fun h => kt h ls H locs G) (fun h => kf h ls H locs G)
theorem ex_s_icmp_eq (C : ex_Cx xt p R s m args meth c D ad ca n0 nL fr lo A cc ret own) {pc : Nat} {lv : ex_L} {cs : ex_C} {x y : Int32} {r : ex_V} {off : Int} {t : Nat} (hd : decode cc pc = .ok (.if_icmp .eq off, 3)) (ht : (pc : Int) + off = (t : Int)) (kt : x = y → ex_T p l e R s m args below meth c D ad ca n0 nL A kc ks Qw t lv r cs) (kf : ¬ x = y → ex_T p l e R s m args below meth c D ad ca n0 nL A kc ks Qw (pc + 3) lv r cs) : ex_T p l e R s m args below meth c D ad ca n0 nL A kc ks Qw pc lv (.int y :: .int x :: r) cs := by
  obtain ⟨hx, hb, hml, hown, hts, hr, hlk, hD, hK, hX, hZ, hAe, hR1, hR2, hxt, hNw⟩ := C
  intro ls H locs G
  exact lv_icmp_eq (x := x) (y := y) (rest := r.map (ex_v ad)) (tgt := t) hx hb hd ht (fun h => kt h ls H locs G) (fun h => kf h ls H locs G)
theorem ex_s_if_ne (C : ex_Cx xt p R s m args meth c D ad ca n0 nL fr lo A cc ret own) {pc : Nat} {lv : ex_L} {cs : ex_C} {x : Int32} {r : ex_V} {off : Int} {t : Nat} (hd : decode cc pc = .ok (.ifCond .ne off, 3)) (ht : (pc : Int) + off = (t : Int)) (kf : x = 0 → ex_T p l e R s m args below meth c D ad ca n0 nL A kc ks Qw (pc + 3) lv r cs) (kt : ¬ x = 0 → ex_T p l e R s m args below meth c D ad ca n0 nL A kc ks Qw t lv r cs) : ex_T p l e R s m args below meth c D ad ca n0 nL A kc ks Qw pc lv (.int x :: r) cs := by
  obtain ⟨hx, hb, hml, hown, hts, hr, hlk, hD, hK, hX, hZ, hAe, hR1, hR2, hxt, hNw⟩ := C
  intro ls H locs G
  exact lv_if_ne (x := x) (rest := r.map (ex_v ad)) (tgt := t) hx hb hd ht (fun h => kt h ls H locs G) (fun h => kf h ls H locs G)
theorem ex_s_icmp_ne (C : ex_Cx xt p R s m args meth c D ad ca n0 nL fr lo A cc ret own) {pc : Nat} {lv : ex_L} {cs : ex_C} {x y : Int32} {r : ex_V} {off : Int} {t : Nat} (hd : decode cc pc = .ok (.if_icmp .ne off, 3)) (ht : (pc : Int) + off = (t : Int)) (kf : x = y → ex_T p l e R s m args below meth c D ad ca n0 nL A kc ks Qw (pc + 3) lv r cs) (kt : ¬ x = y → ex_T p l e R s m args below meth c D ad ca n0 nL A kc ks Qw t lv r cs) : ex_T p l e R s m args below meth c D ad ca n0 nL A kc ks Qw pc lv (.int y :: .int x :: r) cs := by
  obtain ⟨hx, hb, hml, hown, hts, hr, hlk, hD, hK, hX, hZ, hAe, hR1, hR2, hxt, hNw⟩ := C
  intro ls H locs G
  exact lv_icmp_ne (x := x) (y := y) (rest := r.map (ex_v ad)) (tgt := t) hx hb hd ht (fun h => kt h ls H locs G) (fun h => kf h ls H locs G)
theorem ex_s_if_lt (C : ex_Cx xt p R s m args meth c D ad ca n0 nL fr lo A cc ret own) {pc : Nat} {lv : ex_L} {cs : ex_C} {x : Int32} {r : ex_V} {off : Int} {t : Nat} (hd : decode cc pc = .ok (.ifCond .lt off, 3)) (ht : (pc : Int) + off = (t : Int)) (kt : x < 0 → ex_T p l e R s m args below meth c D ad ca n0 nL A kc ks Qw t lv r cs) (kf : ¬ x < 0 → ex_T p l e R s m args below meth c D ad ca n0 nL A kc ks Qw (pc + 3) lv r cs) : ex_T p l e R s m args below meth c D ad ca n0 nL A kc ks Qw pc lv (.int x :: r) cs := by
  obtain ⟨hx, hb, hml, hown, hts, hr, hlk, hD, hK, hX, hZ, hAe, hR1, hR2, hxt, hNw⟩ := C
  intro ls H locs G
  exact lv_if_lt (x := x) (rest := r.map (ex_v ad)) (tgt := t) hx hb hd ht (fun h => kt h ls H locs G) (fun h => kf h ls H locs G)
theorem ex_s_icmp_lt (C : ex_Cx xt p R s m args meth c D ad ca n0 nL fr lo A cc ret own) {pc : Nat} {lv : ex_L} {cs : ex_C} {x y : Int32} {r : ex_V} {off : Int} {t : Nat} (hd : decode cc pc = .ok (.if_icmp .lt off, 3)) (ht : (pc : Int) + off = (t : Int)) (kt : x < y → ex_T p l e R s m args below meth c D ad ca n0 nL A kc ks Qw t lv r cs) (kf : ¬ x < y → ex_T p l e R s m args below meth c D ad ca n0 nL A kc ks Qw (pc + 3) lv r cs) : ex_T p l e R s m args below meth c D ad ca n0 nL A kc ks Qw pc lv (.int y :: .int x :: r) cs := by
  obtain ⟨hx, hb, hml, hown, hts, hr, hlk, hD, hK, hX, hZ, hAe, hR1, hR2, hxt, hNw⟩ := C
  intro ls H locs G
  exact lv_icmp_lt (x := x) (y := y) (rest := r.map (ex_v ad)) (tgt := t) hx hb hd ht (fun h => kt h ls H locs G) (fun h => kf h ls H locs G)
theorem ex_s_if_ge (C : ex_Cx xt p R s m args meth c D ad ca n0 nL fr lo A cc ret own) {pc : Nat} {lv : ex_L} {cs : ex_C} {x : Int32} {r : ex_V} {off : Int} {t : Nat} (hd : decode cc pc = .ok (.ifCond .ge off, 3)) (ht : (pc : Int) + off = (t : Int)) (kt : 0 ≤ x → ex_T p l e R s m args below meth c D ad ca n0 nL A kc ks Qw t lv r cs) (kf : ¬ 0 ≤ x → ex_T p l e R s m args below meth c D ad ca n0 nL A kc ks Qw (pc + 3) lv r cs) : ex_T p l e R s m args below meth c D ad ca n0 nL A kc ks Qw pc lv (.int x :: r) cs := by
  obtain ⟨hx, hb, hml, hown, hts, hr, hlk, hD, hK, hX, hZ, hAe, hR1, hR2, hxt, hNw⟩ := C
  intro ls H locs G
  exact lv_if_ge (x := x) (rest := r.map (ex_v ad)) (tgt := t) hx hb hd ht (fun h => kt h ls H locs G) (fun h => kf h ls H locs G)
theorem ex_s_icmp_ge (C : ex_Cx xt p R s m args meth c D ad ca n0 nL fr lo A cc ret own) {pc : Nat} {lv : ex_L} {cs : ex_C} {x y : Int32} {r : ex_V} {off : Int} {t : Nat} (hd : decode cc pc = .ok (.if_icmp .ge off, 3)) (ht : (pc : Int) + off = (t : Int)) (kt : y ≤ x → ex_T p l e R s m args below meth c D ad ca n0 nL A kc ks Qw t lv r cs) (kf : ¬ y ≤ x → ex_T p l e R s m args below meth c D ad ca n0 nL A kc ks Qw (pc + 3) lv r cs) : ex_T p l e R s m args below meth c D ad ca n0 nL A kc ks Qw pc lv (.int y :: .int x :: r) cs := by
  obtain ⟨hx, hb, hml, hown, hts, hr, hlk, hD, hK, hX, hZ, hAe, hR1, hR2, hxt, hNw⟩ := C
  intro ls H locs G
  exact lv_icmp_ge (x := x) (y := y) (rest := r.map (ex_v ad)) (tgt := t) hx hb hd ht (fun h => kt h ls H locs G) (fun h => kf h ls H locs G)
theorem ex_s_if_gt (C : ex_Cx xt p R s m args meth c D ad ca n0 nL fr lo A cc ret own) {pc : Nat} {lv : ex_L} {cs : ex_C} {x : Int32} {r : ex_V} {off : Int} {t : Nat} (hd : decode cc pc = .ok (.ifCond .gt off, 3)) (ht : (pc : Int) + off = (t : Int)) (kt : 0 < x → ex_T p l e R s m args below meth c D ad ca n0 nL A kc ks Qw t lv r cs) (kf : ¬ 0 < x → ex_T p l e R s m args below meth c D ad ca n0 nL A kc ks Qw (pc + 3) lv r cs) : ex_T p l e R s m args below meth c D ad ca n0 nL A kc ks Qw pc lv (.int x :: r) cs := by
  obtain ⟨hx, hb, hml, hown, hts, hr, hlk, hD, hK, hX, hZ, hAe, hR1, hR2, hxt, hNw⟩ := C
  intro ls H locs G
  exact lv_if_gt (x := x) (rest := r.map (ex_v ad)) (tgt := t) hx hb hd ht (fun h => kt h ls H locs G) (fun h => kf h ls H locs G)
theorem ex_s_icmp_gt (C : ex_Cx xt p R s m args meth c D ad ca n0 nL fr lo A cc ret own) {pc : Nat} {lv : ex_L} {cs : ex_C} {x y : Int32} {r : ex_V} {off : Int} {t : Nat} (hd : decode cc pc = .ok (.if_icmp .gt off, 3)) (ht : (pc : Int) + off = (t : Int)) (kt : y < x → ex_T p l e R s m args below meth c D ad ca n0 nL A kc ks Qw t lv r cs) (kf : ¬ y < x → ex_T p l e R s m args below meth c D ad ca n0 nL A kc ks Qw (pc + 3) lv r cs) : ex_T p l e R s m args below meth c D ad ca n0 nL A kc ks Qw pc lv (.int y :: .int x :: r) cs := by
  obtain ⟨hx, hb, hml, hown, hts, hr, hlk, hD, hK, hX, hZ, hAe, hR1, hR2, hxt, hNw⟩ := C
  intro ls H locs G
  exact lv_icmp_gt (x := x) (y := y) (rest := r.map (ex_v ad)) (tgt := t) hx hb hd ht (fun h => kt h ls H locs G) (fun h => kf h ls H locs G)
theorem ex_s_if_le (C : ex_Cx xt p R s m args meth c D ad ca n0 nL fr lo A cc ret own) {pc : Nat} {lv : ex_L} {cs : ex_C} {x : Int32} {r : ex_V} {off : Int} {t : Nat} (hd : decode cc pc = .ok (.ifCond .le off, 3)) (ht : (pc : Int) + off = (t : Int)) (kt : x ≤ 0 → ex_T p l e R s m args below meth c D ad ca n0 nL A kc ks Qw t lv r cs) (kf : ¬ x ≤ 0 → ex_T p l e R s m args below meth c D ad ca n0 nL A kc ks Qw (pc + 3) lv r cs) : ex_T p l e R s m args below meth c D ad ca n0 nL A kc ks Qw pc lv (.int x :: r) cs := by
  obtain ⟨hx, hb, hml, hown, hts, hr, hlk, hD, hK, hX, hZ, hAe, hR1, hR2, hxt, hNw⟩ := C
  intro ls H locs G
  exact lv_if_le (x := x) (rest := r.map (ex_v ad)) (tgt := t) hx hb hd ht (fun h => kt h ls H locs G) (fun h => kf h ls H locs G)
theorem ex_s_icmp_le (C : ex_Cx xt p R s m args meth c D ad ca n0 nL fr lo A cc ret own) {pc : Nat} {lv : ex_L} {cs : ex_C} {x y : Int32} {r : ex_V} {off : Int} {t : Nat} (hd : decode cc pc = .ok (.if_icmp .le off, 3)) (ht : (pc : Int) + off = (t : Int)) (kt : x ≤ y → ex_T p l e R s m args below meth c D ad ca n0 nL A kc ks Qw t lv r cs) (kf : ¬ x ≤ y → ex_T p l e R s m args below meth c D ad ca n0 nL A kc ks Qw (pc + 3) lv r cs) : ex_T p l e R s m args below meth c D ad ca n0 nL A kc ks Qw pc lv (.int y :: .int x :: r) cs := by
  obtain ⟨hx, hb, hml, hown, hts, hr, hlk, hD, hK, hX, hZ, hAe, hR1, hR2, hxt, hNw⟩ := C
  intro ls H locs G
  exact lv_icmp_le (x := x) (y := y) (rest := r.map (ex_v ad)) (tgt := t) hx hb hd ht (fun h => kt h ls H locs G) (fun h => kf h ls H locs G)
theorem ex_s_goto (C : ex_Cx xt p R s m args meth c D ad ca n0 nL fr lo A cc ret own) {pc : Nat} {lv : ex_L} {cs : ex_C} {r : ex_V} {off : Int} {t : Nat} (hd : decode cc pc = .ok (.goto off, 3)) (ht : (pc : Int) + off = (t : Int)) (k : ex_T p l e R s m args below meth c D ad ca n0 nL A kc ks Qw t lv r cs) : ex_T p l e R s m args below meth c D ad ca n0 nL A kc ks Qw pc lv r cs := by
  obtain ⟨hx, hb, hml, hown, hts, hr, hlk, hD, hK, hX, hZ, hAe, hR1, hR2, hxt, hNw⟩ := C
  intro ls H locs G
  exact lv_goto (tgt := t) hx hb hd ht (k ls H locs G)
theorem ex_s_ldc (C : ex_Cx xt p R s m args meth c D ad ca n0 nL fr lo A cc ret own) {pc : Nat} {lv : ex_L} {cs : ex_C} {ix : Nat} {v : Int32} {r : ex_V} (hd : decode cc pc = .ok (.ldc ix, 2)) (hc : Cond.constant own ix v ∈ ec_tb) (k : ex_T p l e R s m args below meth c D ad ca n0 nL A kc ks Qw (pc + 2) lv (.int v :: r) cs) : ex_T p l e R s m args below meth c D ad ca n0 nL A kc ks Qw pc lv r cs := by
  obtain ⟨hx, hb, hml, hown, hts, hr, hlk, hD, hK, hX, hZ, hAe, hR1, hR2, hxt, hNw⟩ := C
  intro ls H locs G
  exact lv_ldc hx hb hown (hts _ hc) hd (k ls H locs G)
theorem ex_s_ldc_w (C : ex_Cx xt p R s m args meth c D ad ca n0 nL fr lo A cc ret own) {pc : Nat} {lv : ex_L} {cs : ex_C} {ix : Nat} {v : Int32} {r : ex_V} (hd : decode cc pc = .ok (.ldc_w ix, 3)) (hc : Cond.constant own ix v ∈ ec_tb) (k : ex_T p l e R s m args below meth c D ad ca n0 nL A kc ks Qw (pc + 3) lv (.int v :: r) cs) : ex_T p l e R s m args below meth c D ad ca n0 nL A kc ks Qw pc lv r cs := by
  obtain ⟨hx, hb, hml, hown, hts, hr, hlk, hD, hK, hX, hZ, hAe, hR1, hR2, hxt, hNw⟩ := C
  intro ls H locs G
  exact lv_ldcw hx hb hown (hts _ hc) hd (k ls H locs G)
theorem ex_s_ldc2_w (C : ex_Cx xt p R s m args meth c D ad ca n0 nL fr lo A cc ret own) {pc : Nat} {lv : ex_L} {cs : ex_C} {ix : Nat} {v : Int64} {r : ex_V} (hd : decode cc pc = .ok (.ldc2_w ix, 3)) (hc : Cond.constantLong own ix v ∈ ec_tb) (k : ex_T p l e R s m args below meth c D ad ca n0 nL A kc ks Qw (pc + 3) lv (.long v :: r) cs) : ex_T p l e R s m args below meth c D ad ca n0 nL A kc ks Qw pc lv r cs := by
  obtain ⟨hx, hb, hml, hown, hts, hr, hlk, hD, hK, hX, hZ, hAe, hR1, hR2, hxt, hNw⟩ := C
  intro ls H locs G
  exact lv_ldc2 hx hb hown (hts _ hc) hd (k ls H locs G)
theorem ex_s_tableOut (C : ex_Cx xt p R s m args meth c D ad ca n0 nL fr lo A cc ret own) {pc : Nat} {lv : ex_L} {cs : ex_C} {dflt lo hi : Int} {offs : Array Int} {len : Nat} {x : Int32} {t : Nat} {r : ex_V} (hd : decode cc pc = .ok (.tableswitch dflt lo hi offs, len)) (h : x.toInt < lo ∨ hi < x.toInt) (ht : (pc : Int) + dflt = (t : Int)) (k : ex_T p l e R s m args below meth c D ad ca n0 nL A kc ks Qw t lv r cs) : ex_T p l e R s m args below meth c D ad ca n0 nL A kc ks Qw pc lv (.int x :: r) cs := by
  obtain ⟨hx, hb, hml, hown, hts, hr, hlk, hD, hK, hX, hZ, hAe, hR1, hR2, hxt, hNw⟩ := C
  intro ls H locs G
  exact lv_tableOut (x := x) (tgt := t) (rest := r.map (ex_v ad)) hx hb hd h ht (k ls H locs G)
theorem ex_s_tableIn (C : ex_Cx xt p R s m args meth c D ad ca n0 nL fr lo A cc ret own) {pc : Nat} {lv : ex_L} {cs : ex_C} {dflt lo hi : Int} {offs : Array Int} {len : Nat} {x : Int32} {off : Int} {t : Nat} {r : ex_V} (hd : decode cc pc = .ok (.tableswitch dflt lo hi offs, len)) (h1 : ¬ x.toInt < lo) (h2 : ¬ hi < x.toInt) (ho : offs[(x.toInt - lo).toNat]? = some off) (ht : (pc : Int) + off = (t : Int)) (k : ex_T p l e R s m args below meth c D ad ca n0 nL A kc ks Qw t lv r cs) : ex_T p l e R s m args below meth c D ad ca n0 nL A kc ks Qw pc lv (.int x :: r) cs := by
  obtain ⟨hx, hb, hml, hown, hts, hr, hlk, hD, hK, hX, hZ, hAe, hR1, hR2, hxt, hNw⟩ := C
  intro ls H locs G
  exact lv_tableIn (x := x) (tgt := t) (rest := r.map (ex_v ad)) hx hb hd h1 h2 ho ht (k ls H locs G)
theorem ex_s_lookup (C : ex_Cx xt p R s m args meth c D ad ca n0 nL fr lo A cc ret own) {pc : Nat} {lv : ex_L} {cs : ex_C} {dflt : Int} {ps : Array (Int × Int)} {len : Nat} {x : Int32} {off : Int} {t : Nat} {r : ex_V} (hd : decode cc pc = .ok (.lookupswitch dflt ps, len)) (hp : (ps.toList.zip (ps.toList.drop 1)).all (fun (a, next) => a.1 < next.1) = true) (ho : Op.lookupswitch.offset ps.toList dflt x.toInt = off) (ht : (pc : Int) + off = (t : Int)) (k : ex_T p l e R s m args below meth c D ad ca n0 nL A kc ks Qw t lv r cs) : ex_T p l e R s m args below meth c D ad ca n0 nL A kc ks Qw pc lv (.int x :: r) cs := by
  obtain ⟨hx, hb, hml, hown, hts, hr, hlk, hD, hK, hX, hZ, hAe, hR1, hR2, hxt, hNw⟩ := C
  intro ls H locs G
  exact lv_lookup (x := x) (tgt := t) (rest := r.map (ex_v ad)) hx hb hd hp ho ht (k ls H locs G)
theorem ex_tb_at {x : Int32} {k : Int → Prop} : ∀ {offs : List Int} {lo : Int} {j : Nat} {o : Int}, ex_tb x k lo offs → offs[j]? = some o → x = Int32.ofInt (lo + j) → k o
  | [], _, _, _, _, h, _ => by simp at h
  | o1 :: r, lo, 0, o, h, h2, h3 => by
    simp at h2
    subst h2
    exact h.1 (by rw [h3]; simp)
  | o1 :: r, lo, j + 1, o, h, h2, h3 => by
    refine ex_tb_at (j := j) h.2 (by simpa using h2) ?_
    rw [h3]
    congr 1
    omega
theorem ex_lk_at {x : Int32} {k : Int → Prop} {d : Int} : ∀ {ps : List (Int × Int)}, (ex_ln x ps → k d) → ex_lk x k ps → (∀ q ∈ ps, -2147483648 ≤ q.1 ∧ q.1 < 2147483648) → k (Op.lookupswitch.offset ps d x.toInt)
  | [], h, _, _ => by
    have h0 := h trivial
    simpa [Op.lookupswitch.offset] using h0
  | q :: r, h, h2, hq => by
    obtain ⟨a, o⟩ := q
    have ha := hq (a, o) List.mem_cons_self
    rw [Op.lookupswitch.offset_cons]
    by_cases hx : x = Int32.ofInt a
    · have e : x.toInt = a := by rw [hx]; exact Int32.toInt_ofInt_of_le (by simpa using ha.1) (by simpa using ha.2)
      rw [if_pos e.symm]
      exact h2.1 hx
    · rw [if_neg (fun e => hx (by rw [e]; exact (Int32.ofInt_toInt x).symm))]
      exact ex_lk_at (fun hn => h ⟨hx, hn⟩) h2.2 (fun q h' => hq q (List.mem_cons_of_mem _ h'))
end EXS
