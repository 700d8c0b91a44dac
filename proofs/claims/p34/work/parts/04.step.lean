/-- System.arraycopy of ints -/
def ex_cp (cs : ex_C) (st : ex_V) (k : ex_V → ex_C → Prop) : Prop := match st with
  | .int n :: .int dp :: .ref a :: .int sp :: .ref a0 :: r => ex_ar cs a0 0 (fun n0 f => ex_ar cs a 0 (fun n1 g => ¬ sp < 0 ∧ ¬ dp < 0 ∧ ¬ n < 0 ∧ sp.toNatClampNeg + n.toNatClampNeg ≤ n0 ∧ dp.toNatClampNeg + n.toNatClampNeg ≤ n1 ∧ (r.map (fun v => v.category)).sum ≤ 8 ∧ k r (cs.set a (.inl (0, n1, .inl (va_cpy f g sp.toNatClampNeg dp.toNatClampNeg n.toNatClampNeg))))))
  | _ => False
theorem ex_cp.at {cs : ex_C} {st : ex_V} {k : ex_V → ex_C → Prop} (h : ex_cp cs st k) : ∃ n dp a sp a0 r n0 f n1 g, st = .int n :: .int dp :: .ref a :: .int sp :: .ref a0 :: r ∧ cs[a0]? = some (.inl (0, n0, .inl f)) ∧ cs[a]? = some (.inl (0, n1, .inl g)) ∧ ¬ sp < 0 ∧ ¬ dp < 0 ∧ ¬ n < 0 ∧ sp.toNatClampNeg + n.toNatClampNeg ≤ n0 ∧ dp.toNatClampNeg + n.toNatClampNeg ≤ n1 ∧ (r.map (fun v => v.category)).sum ≤ 8 ∧ k r (cs.set a (.inl (0, n1, .inl (va_cpy f g sp.toNatClampNeg dp.toNatClampNeg n.toNatClampNeg)))) := by
  unfold ex_cp at h
  split at h
  · obtain ⟨n0, f, h1, h⟩ := ex_ar.at h
    obtain ⟨n1, g, h2, h⟩ := ex_ar.at h
    exact ⟨_, _, _, _, _, _, n0, f, n1, g, rfl, h1, h2, h⟩
  · exact h.elim
/-- one instruction: what must hold so that the walk goes on (K) or ends (Q) -/
def ex_i (xt : ex_xt) (cx : ex_K) (ret : Option FieldType) (Q : ex_Q) (i : Instr) (len pc : Nat) (lv : ex_L) (st : ex_V) (cs : ex_C) (K : Nat → ex_L → ex_V → ex_C → Prop) : Prop := match i with
  | .iconst n => len = 1 ∧ K (pc + 1) lv (.int (Int32.ofInt n) :: st) cs
  | .bipush n => len = 2 ∧ K (pc + 2) lv (.int (Int8.ofInt n).toInt32 :: st) cs
  | .sipush n => len = 3 ∧ K (pc + 3) lv (.int (Int16.ofInt n).toInt32 :: st) cs
  | .ldc ix => len = 2 ∧ ex_o (cx.2.2.1 ix) (fun v => K (pc + 2) lv (.int v :: st) cs)
  | .ldc_w ix => len = 3 ∧ ex_o (cx.2.2.1 ix) (fun v => K (pc + 3) lv (.int v :: st) cs)
  | .ldc2_w ix => len = 3 ∧ ex_o (cx.2.2.2.2.2.2 ix) (fun v => K (pc + 3) lv (.long v :: st) cs)
  | .lconst n => len = 1 ∧ K (pc + 1) lv (.long (Int64.ofNat n) :: st) cs
  | .iload_n k => len = 1 ∧ ex_gi lv k (fun x => K (pc + 1) lv (.int x :: st) cs)
  | .iload k => len = 2 ∧ ex_gi lv k (fun x => K (pc + 2) lv (.int x :: st) cs)
  | .lload_n k => len = 1 ∧ ex_gl lv k (fun x => K (pc + 1) lv (.long x :: st) cs)
  | .lload k => len = 2 ∧ ex_gl lv k (fun x => K (pc + 2) lv (.long x :: st) cs)
  | .aload_n k => len = 1 ∧ ex_gr lv k (fun x => K (pc + 1) lv (.ref x :: st) cs)
  | .aload k => len = 2 ∧ ex_gr lv k (fun x => K (pc + 2) lv (.ref x :: st) cs)
  | .istore_n k => len = 1 ∧ ex_i1 st (fun x r => ex_so lv k ∧ K (pc + 1) (lv.set k (some (.int x))) r cs)
  | .istore k => len = 2 ∧ ex_i1 st (fun x r => ex_so lv k ∧ K (pc + 2) (lv.set k (some (.int x))) r cs)
  | .astore_n k => len = 1 ∧ ex_r1 st (fun x r => ex_so lv k ∧ K (pc + 1) (lv.set k (some (.ref x))) r cs)
  | .astore k => len = 2 ∧ ex_r1 st (fun x r => ex_so lv k ∧ K (pc + 2) (lv.set k (some (.ref x))) r cs)
  | .lstore_n k => len = 1 ∧ ex_l1 st (fun x r => ex_so lv k ∧ k + 1 < lv.length ∧ K (pc + 1) ((lv.set k (some (.long x))).set (k + 1) none) r cs)
  | .lstore k => len = 2 ∧ ex_l1 st (fun x r => ex_so lv k ∧ k + 1 < lv.length ∧ K (pc + 2) ((lv.set k (some (.long x))).set (k + 1) none) r cs)
  | .iinc k n => len = 3 ∧ ex_gi lv k (fun x => ex_so lv k ∧ K (pc + 3) (lv.set k (some (.int (x + Int32.ofInt n)))) st cs)
  | .iadd => len = 1 ∧ ex_i2 st (fun x y r => K (pc + 1) lv (.int (x + y) :: r) cs)
  | .isub => len = 1 ∧ ex_i2 st (fun x y r => K (pc + 1) lv (.int (x - y) :: r) cs)
  | .imul => len = 1 ∧ ex_i2 st (fun x y r => K (pc + 1) lv (.int (x * y) :: r) cs)
  | .iand => len = 1 ∧ ex_i2 st (fun x y r => K (pc + 1) lv (.int (x &&& y) :: r) cs)
  | .ior => len = 1 ∧ ex_i2 st (fun x y r => K (pc + 1) lv (.int (x ||| y) :: r) cs)
  | .ixor => len = 1 ∧ ex_i2 st (fun x y r => K (pc + 1) lv (.int (x ^^^ y) :: r) cs)
  | .ishl => len = 1 ∧ ex_i2 st (fun x y r => K (pc + 1) lv (.int (x <<< (y &&& 31)) :: r) cs)
  | .ishr => len = 1 ∧ ex_i2 st (fun x y r => K (pc + 1) lv (.int (x >>> (y &&& 31)) :: r) cs)
  | .iushr => len = 1 ∧ ex_i2 st (fun x y r => K (pc + 1) lv (.int (x.toUInt32 >>> (y.toUInt32 &&& Int32.toUInt32 31)).toInt32 :: r) cs)
  | .idiv => len = 1 ∧ ex_i2 st (fun x y r => ¬ y = 0 ∧ K (pc + 1) lv (.int (x / y) :: r) cs)
  | .irem => len = 1 ∧ ex_i2 st (fun x y r => ¬ y = 0 ∧ K (pc + 1) lv (.int (x - x / y * y) :: r) cs)
  | .ineg => len = 1 ∧ ex_i1 st (fun x r => K (pc + 1) lv (.int (-x) :: r) cs)
  | .i2l => len = 1 ∧ ex_i1 st (fun x r => K (pc + 1) lv (.long x.toInt64 :: r) cs)
  | .l2i => len = 1 ∧ ex_l1 st (fun x r => K (pc + 1) lv (.int x.toInt32 :: r) cs)
  | .ladd => len = 1 ∧ ex_l2 st (fun x y r => K (pc + 1) lv (.long (x + y) :: r) cs)
  | .lsub => len = 1 ∧ ex_l2 st (fun x y r => K (pc + 1) lv (.long (x - y) :: r) cs)
  | .lmul => len = 1 ∧ ex_l2 st (fun x y r => K (pc + 1) lv (.long (x * y) :: r) cs)
  | .ldiv => len = 1 ∧ ex_l2 st (fun x y r => ¬ y = 0 ∧ K (pc + 1) lv (.long (x / y) :: r) cs)
  | .dup => len = 1 ∧ ex_v1 st (fun v r => v.category = 1 ∧ K (pc + 1) lv (v :: v :: r) cs)
  | .pop => len = 1 ∧ ex_v1 st (fun v r => v.category = 1 ∧ K (pc + 1) lv r cs)
  | .dup_x1 => len = 1 ∧ ex_v2 st (fun v w r => v.category = 1 ∧ w.category = 1 ∧ K (pc + 1) lv (v :: w :: v :: r) cs)
  | .dup2 => len = 1 ∧ ex_v2 st (fun v w r => v.category = 1 ∧ w.category = 1 ∧ K (pc + 1) lv (v :: w :: v :: w :: r) cs)
  | .ifCond .eq off => len = 3 ∧ ex_i1 st (fun x r => ex_to pc off (fun t => ex_b (x = 0) (K t lv r cs) (K (pc + 3) lv r cs)))
  | .ifCond .ne off => len = 3 ∧ ex_i1 st (fun x r => ex_to pc off (fun t => ex_b (x = 0) (K (pc + 3) lv r cs) (K t lv r cs)))
  | .ifCond .lt off => len = 3 ∧ ex_i1 st (fun x r => ex_to pc off (fun t => ex_b (x < 0) (K t lv r cs) (K (pc + 3) lv r cs)))
  | .ifCond .ge off => len = 3 ∧ ex_i1 st (fun x r => ex_to pc off (fun t => ex_b (0 ≤ x) (K t lv r cs) (K (pc + 3) lv r cs)))
  | .ifCond .gt off => len = 3 ∧ ex_i1 st (fun x r => ex_to pc off (fun t => ex_b (0 < x) (K t lv r cs) (K (pc + 3) lv r cs)))
  | .ifCond .le off => len = 3 ∧ ex_i1 st (fun x r => ex_to pc off (fun t => ex_b (x ≤ 0) (K t lv r cs) (K (pc + 3) lv r cs)))
  | .if_icmp .eq off => len = 3 ∧ ex_i2 st (fun x y r => ex_to pc off (fun t => ex_b (x = y) (K t lv r cs) (K (pc + 3) lv r cs)))
  | .if_icmp .ne off => len = 3 ∧ ex_i2 st (fun x y r => ex_to pc off (fun t => ex_b (x = y) (K (pc + 3) lv r cs) (K t lv r cs)))
  | .if_icmp .lt off => len = 3 ∧ ex_i2 st (fun x y r => ex_to pc off (fun t => ex_b (x < y) (K t lv r cs) (K (pc + 3) lv r cs)))
  | .if_icmp .ge off => len = 3 ∧ ex_i2 st (fun x y r => ex_to pc off (fun t => ex_b (y ≤ x) (K t lv r cs) (K (pc + 3) lv r cs)))
  | .if_icmp .gt off => len = 3 ∧ ex_i2 st (fun x y r => ex_to pc off (fun t => ex_b (y < x) (K t lv r cs) (K (pc + 3) lv r cs)))
  | .if_icmp .le off => len = 3 ∧ ex_i2 st (fun x y r => ex_to pc off (fun t => ex_b (x ≤ y) (K t lv r cs) (K (pc + 3) lv r cs)))
  | .goto off => len = 3 ∧ ex_to pc off (fun t => K t lv st cs)
  | .tableswitch dflt lo hi offs => hi = lo + offs.size - 1 ∧ ex_i1 st (fun x r => (x.toInt < lo ∨ hi < x.toInt → ex_to pc dflt (fun t => K t lv r cs)) ∧ ex_tb x (fun o => ex_to pc o (fun t => K t lv r cs)) lo offs.toList)
  | .lookupswitch dflt ps => (ps.toList.zip (ps.toList.drop 1)).all (fun (a, next) => a.1 < next.1) = true ∧ ps.toList.all (fun q => decide (-2147483648 ≤ q.1 ∧ q.1 < 2147483648)) = true ∧ ex_i1 st (fun x r => (ex_ln x ps.toList → ex_to pc dflt (fun t => K t lv r cs)) ∧ ex_lk x (fun o => ex_to pc o (fun t => K t lv r cs)) ps.toList)
  | .getfield ix => len = 3 ∧ ex_r1 st (fun a r => ex_o (cx.2.1 ix) (fun q => ex_ob cs a q.1 (fun fs => ex_o fs[q.2.1]? (fun v => K (pc + 3) lv (v :: r) cs))))
  | .putfield ix => len = 3 ∧ ex_vr st (fun v a r => ex_o (cx.2.1 ix) (fun q => ex_ob cs a q.1 (fun fs => q.2.1 < fs.length ∧ q.2.2.1 = true ∧ ex_fit q.2.2.2 v ∧ K (pc + 3) lv r (cs.set a (.inr (q.1, fs.set q.2.1 v))))))
  | .getstatic ix => len = 3 ∧ ex_o (cx.2.2.2.1 ix) (fun j => K (pc + 3) lv (.ref (1000 + j) :: st) cs)
  | .iaload => len = 1 ∧ ex_ir st (fun i a r => ex_ax xt cs a (fun n f => vp_in i n ∧ K (pc + 1) lv (.int (f i.toNatClampNeg) :: r) cs))
  | .baload => len = 1 ∧ ex_ir st (fun i a r => ex_ar cs a 1 (fun n f => vp_in i n ∧ K (pc + 1) lv (.int (f i.toNatClampNeg) :: r) cs))
  | .iastore => len = 1 ∧ ex_iir st (fun x i a r => ex_ar cs a 0 (fun n f => vp_in i n ∧ K (pc + 1) lv r (cs.set a (.inl (0, n, .inl (upd f i.toNatClampNeg x))))))
  | .bastore => len = 1 ∧ ex_iir st (fun x i a r => ex_ar cs a 1 (fun n f => vp_in i n ∧ (x = 0 ∨ x = 1) ∧ K (pc + 1) lv r (cs.set a (.inl (1, n, .inl (upd f i.toNatClampNeg x))))))
  | .arraylength => len = 1 ∧ ex_r1 st (fun a r => match cs[a]? with
    | some (.inl (t, n, .inl _)) => (t = 0 ∨ t = 1) ∧ K (pc + 1) lv (.int (Int32.ofNat n) :: r) cs
    | _ => False)
  | .invokevirtual ix => len = 3 ∧ ex_o (cx.2.2.2.2.1 ix) (fun q => q.1 ≤ st.length ∧ ((st.drop q.1).map (fun v => v.category)).sum ≤ 8 ∧ ex_o q.2.1 (fun ci => ex_o (st[q.1 - 1]?) (fun v => match v with
    | .ref a => ex_ob cs a ci (fun _ => q.2.2 (st.take q.1).reverse cs (fun r cs' => K (pc + 3) lv (r.toList ++ st.drop q.1) cs'))
    | _ => False)))
  | .invokestatic ix => len = 3 ∧ (match cx.2.2.2.2.2.1 ix with
    | 1 => ex_cp cs st (fun r cs' => K (pc + 3) lv r cs')
    | 2 => ex_i2 st (fun x y r => (r.map (fun v => v.category)).sum ≤ 8 ∧ K (pc + 3) lv (.int (if y < x then y else x) :: r) cs)
    | 3 => ex_i2 st (fun x y r => (r.map (fun v => v.category)).sum ≤ 8 ∧ K (pc + 3) lv (.int (if x < y then y else x) :: r) cs)
    | _ => ex_o (cx.2.2.2.2.1 ix) (fun q => q.1 ≤ st.length ∧ ((st.drop q.1).map (fun v => v.category)).sum ≤ 8 ∧ q.2.1 = none ∧ q.2.2 (st.take q.1).reverse cs (fun r cs' => K (pc + 3) lv (r.toList ++ st.drop q.1) cs')))
  | .ireturn => len = 1 ∧ match st with
    | [.int v] => ex_ret ret v ∧ Q (some (.int v)) cs
    | _ => False
  | .return_ => len = 1 ∧ ret = none ∧ st = [] ∧ Q none cs
  | _ => False
/-- the walk from a place in the code, up to the cut points of I -/
def ex_wp (xt : ex_xt) (cx : ex_K) (cc : ByteArray) (ret : Option FieldType) (I : Nat → Option (ex_L → ex_V → ex_C → Prop)) (Q : ex_Q) : Nat → Nat → ex_L → ex_V → ex_C → Prop
  | 0, _, _, _, _ => False
  | n + 1, pc, lv, st, cs => match decode cc pc with
    | .ok (i, len) => ex_i xt cx ret Q i len pc lv st cs (fun pc' lv' st' cs' => match I pc' with
      | some J => J lv' st' cs'
      | none => ex_wp xt cx cc ret I Q n pc' lv' st' cs')
    | .error _ => False
/-- a call's callee: what is known of it -/
def ex_cok (l : Launch) (own : String) (fr lo ix n : Nat) (rc : Option Nat) (sp : ex_S) : Prop :=
  ∃ (y : MethodName) (bytes : ByteArray) (maxL : Nat) (ret : Option FieldType) (fr' lo' : Nat), fr' + 1 ≤ fr ∧ 8 + (maxL + 11) + lo' ≤ lo ∧ ex_Met l y bytes maxL ret fr' lo' sp ∧ Cond.code y bytes maxL ret ∈ ec_tb ∧ Cond.initialized y.cls ∈ ec_tb ∧ (y.cls ≠ "java/lang/invoke/MethodHandle" ∧ y.cls ≠ "java/lang/invoke/VarHandle") ∧
    (Cond.methodLink own ix y ∈ ec_tb ∨ ∃ host, (own, ix, y, host) ∈ ec_ns) ∧
    (match rc with
      | none => Cond.static y ∈ ec_tb ∧ (parseMethodDescriptor y.desc).map (fun d => d.parameters.length) = some n
      | some ci => (∃ T N, ec_cl[ci]? = some (y.cls, T, N)) ∧ Cond.instanceMethod y ∈ ec_tb ∧ Cond.selects y.cls y y ∈ ec_tb ∧ 1 ≤ n ∧ (parseMethodDescriptor y.desc).map (fun d => d.parameters.length) = some (n - 1))
/-- all that a method links is in the tables -/
def ex_ok (l : Launch) (fr lo : Nat) (cx : ex_K) : Prop :=
  (∀ (ix ci k : Nat) (b : Bool) (ty : FieldType), cx.2.1 ix = some (ci, k, b, ty) → ∃ C T N, ec_cl[ci]? = some (C, T, N) ∧ k < N ∧ (Cond.fieldLink cx.1 ix (T k).1 (T k).2.1 (T k).2.2.1 ∈ ec_tb) ∧ parseFieldDescriptor (T k).2.2.1 = some ty ∧ (b = true → (T k).2.2.2 = false)) ∧
  (∀ (ix : Nat) (v : Int32), cx.2.2.1 ix = some v → Cond.constant cx.1 ix v ∈ ec_tb) ∧
  (∀ (ix j : Nat), cx.2.2.2.1 ix = some j → ∃ C n dd, (C, n, dd, j) ∈ ec_zs ∧ Cond.fieldLink cx.1 ix C n dd ∈ ec_tb) ∧
  (∀ (ix n : Nat) (rc : Option Nat) (sp : ex_S), cx.2.2.2.2.1 ix = some (n, rc, sp) → ex_cok l cx.1 fr lo ix n rc sp) ∧
  (∀ (ix : Nat), cx.2.2.2.2.2.1 ix = 2 → Cond.methodLink cx.1 ix Lib.Math.min.name ∈ ec_tb ∧ Cond.static Lib.Math.min.name ∈ ec_tb ∧ Cond.initialized "java/lang/Math" ∈ ec_tb ∧ Cond.code Lib.Math.min.name Lib.Math.min.code 2 (some .int) ∈ ec_tb ∧ 1 ≤ fr ∧ 21 ≤ lo) ∧
  (∀ (ix : Nat), cx.2.2.2.2.2.1 ix = 3 → Cond.methodLink cx.1 ix Lib.Math.max.name ∈ ec_tb ∧ Cond.static Lib.Math.max.name ∈ ec_tb ∧ Cond.initialized "java/lang/Math" ∈ ec_tb ∧ Cond.code Lib.Math.max.name Lib.Math.max.code 2 (some .int) ∈ ec_tb ∧ 1 ≤ fr ∧ 21 ≤ lo) ∧
  (∀ (ix : Nat), cx.2.2.2.2.2.1 ix = 1 → Cond.methodLink cx.1 ix arraycopyName ∈ ec_tb ∧ Cond.native arraycopyName ∈ ec_tb ∧ Cond.static arraycopyName ∈ ec_tb ∧ Cond.initialized "java/lang/System" ∈ ec_tb ∧ 1 ≤ fr ∧ 8 + (nativeFrameWords "java/lang/System" "arraycopy" 5 + 11) ≤ lo) ∧
  (∀ (ix : Nat) (v : Int64), cx.2.2.2.2.2.2 ix = some v → Cond.constantLong cx.1 ix v ∈ ec_tb)
