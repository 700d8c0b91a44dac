/-! ROWS FOR WALKS: one an instruction, goal first -/
def ex_go (xt : ex_xt) (cx : ex_K) (cc : ByteArray) (ret : Option FieldType) (I : Nat → Option (ex_L → ex_V → ex_C → Prop)) (Q : ex_Q) (n pc : Nat) (lv : ex_L) (st : ex_V) (cs : ex_C) : Prop := match I pc with
  | some J => J lv st cs
  | none => ex_wp xt cx cc ret I Q n pc lv st cs
section WQ
variable {xt : ex_xt} {cx : ex_K} {cc : ByteArray} {ret : Option FieldType} {I : Nat → Option (ex_L → ex_V → ex_C → Prop)} {Q : ex_Q} {n pc p' : Nat} {lv : ex_L} {st : ex_V} {cs : ex_C}
theorem go_wp (hI : I pc = none) (h : ex_wp xt cx cc ret I Q n pc lv st cs) : ex_go xt cx cc ret I Q n pc lv st cs := by
  unfold ex_go
  rw [hI]
  exact h
theorem go_cut {J : ex_L → ex_V → ex_C → Prop} (hI : I pc = some J) (h : J lv st cs) : ex_go xt cx cc ret I Q n pc lv st cs := by
  unfold ex_go
  rw [hI]
  exact h
theorem wq_of {i : Instr} {len : Nat} (hd : decode cc pc = .ok (i, len)) (h : ex_i xt cx ret Q i len pc lv st cs (fun pc' lv' st' cs' => ex_go xt cx cc ret I Q n pc' lv' st' cs')) : ex_wp xt cx cc ret I Q (n + 1) pc lv st cs := by
  unfold ex_wp
  rw [hd]
  exact h
theorem wq_iconst {k : Int} {v : Int32} (hd : decode cc pc = .ok (.iconst k, 1)) (hv : Int32.ofInt k = v) (hp : pc + 1 = p') (h : ex_go xt cx cc ret I Q n p' lv (.int v :: st) cs) : ex_wp xt cx cc ret I Q (n + 1) pc lv st cs := by
  subst hp
  exact wq_of hd (by subst hv; exact ⟨rfl, h⟩)
theorem wq_bipush {k : Int} {v : Int32} (hd : decode cc pc = .ok (.bipush k, 2)) (hv : (Int8.ofInt k).toInt32 = v) (hp : pc + 2 = p') (h : ex_go xt cx cc ret I Q n p' lv (.int v :: st) cs) : ex_wp xt cx cc ret I Q (n + 1) pc lv st cs := by
  subst hp
  exact wq_of hd (by subst hv; exact ⟨rfl, h⟩)
theorem wq_sipush {k : Int} {v : Int32} (hd : decode cc pc = .ok (.sipush k, 3)) (hv : (Int16.ofInt k).toInt32 = v) (hp : pc + 3 = p') (h : ex_go xt cx cc ret I Q n p' lv (.int v :: st) cs) : ex_wp xt cx cc ret I Q (n + 1) pc lv st cs := by
  subst hp
  exact wq_of hd (by subst hv; exact ⟨rfl, h⟩)
theorem wq_ldc {ix : Nat} {v : Int32} (hd : decode cc pc = .ok (.ldc ix, 2)) (hv : cx.2.2.1 ix = some v) (hp : pc + 2 = p') (h : ex_go xt cx cc ret I Q n p' lv (.int v :: st) cs) : ex_wp xt cx cc ret I Q (n + 1) pc lv st cs := by
  subst hp
  exact wq_of hd ⟨rfl, by rw [hv]; exact h⟩
theorem wq_ldc_w {ix : Nat} {v : Int32} (hd : decode cc pc = .ok (.ldc_w ix, 3)) (hv : cx.2.2.1 ix = some v) (hp : pc + 3 = p') (h : ex_go xt cx cc ret I Q n p' lv (.int v :: st) cs) : ex_wp xt cx cc ret I Q (n + 1) pc lv st cs := by
  subst hp
  exact wq_of hd ⟨rfl, by rw [hv]; exact h⟩
theorem wq_ldc2_w {ix : Nat} {v : Int64} (hd : decode cc pc = .ok (.ldc2_w ix, 3)) (hv : cx.2.2.2.2.2.2 ix = some v) (hp : pc + 3 = p') (h : ex_go xt cx cc ret I Q n p' lv (.long v :: st) cs) : ex_wp xt cx cc ret I Q (n + 1) pc lv st cs := by
  subst hp
  exact wq_of hd ⟨rfl, by rw [hv]; exact h⟩
theorem wq_iload_n {k : Fin 4} {x : Int32} (hd : decode cc pc = .ok (.iload_n k, 1)) (hv : lv[(k : Nat)]? = some (some (.int x))) (hp : pc + 1 = p') (h : ex_go xt cx cc ret I Q n p' lv (.int x :: st) cs) : ex_wp xt cx cc ret I Q (n + 1) pc lv st cs := by
  subst hp
  exact wq_of hd ⟨rfl, by unfold ex_gi; rw [hv]; exact h⟩
theorem wq_iload {k : Nat} {x : Int32} (hd : decode cc pc = .ok (.iload k, 2)) (hv : lv[k]? = some (some (.int x))) (hp : pc + 2 = p') (h : ex_go xt cx cc ret I Q n p' lv (.int x :: st) cs) : ex_wp xt cx cc ret I Q (n + 1) pc lv st cs := by
  subst hp
  exact wq_of hd ⟨rfl, by unfold ex_gi; rw [hv]; exact h⟩
theorem wq_lload_n {k : Fin 4} {x : Int64} (hd : decode cc pc = .ok (.lload_n k, 1)) (hv : lv[(k : Nat)]? = some (some (.long x))) (hp : pc + 1 = p') (h : ex_go xt cx cc ret I Q n p' lv (.long x :: st) cs) : ex_wp xt cx cc ret I Q (n + 1) pc lv st cs := by
  subst hp
  exact wq_of hd ⟨rfl, by unfold ex_gl; rw [hv]; exact h⟩
theorem wq_lload {k : Nat} {x : Int64} (hd : decode cc pc = .ok (.lload k, 2)) (hv : lv[k]? = some (some (.long x))) (hp : pc + 2 = p') (h : ex_go xt cx cc ret I Q n p' lv (.long x :: st) cs) : ex_wp xt cx cc ret I Q (n + 1) pc lv st cs := by
  subst hp
  exact wq_of hd ⟨rfl, by unfold ex_gl; rw [hv]; exact h⟩
theorem wq_aload_n {k : Fin 4} {x : Nat} (hd : decode cc pc = .ok (.aload_n k, 1)) (hv : lv[(k : Nat)]? = some (some (.ref x))) (hp : pc + 1 = p') (h : ex_go xt cx cc ret I Q n p' lv (.ref x :: st) cs) : ex_wp xt cx cc ret I Q (n + 1) pc lv st cs := by
  subst hp
  exact wq_of hd ⟨rfl, by unfold ex_gr; rw [hv]; exact h⟩
theorem wq_aload {k : Nat} {x : Nat} (hd : decode cc pc = .ok (.aload k, 2)) (hv : lv[k]? = some (some (.ref x))) (hp : pc + 2 = p') (h : ex_go xt cx cc ret I Q n p' lv (.ref x :: st) cs) : ex_wp xt cx cc ret I Q (n + 1) pc lv st cs := by
  subst hp
  exact wq_of hd ⟨rfl, by unfold ex_gr; rw [hv]; exact h⟩
theorem wq_istore_n {k : Fin 4} {x : Int32} {lv' : ex_L} (hd : decode cc pc = .ok (.istore_n k, 1)) (hs : ex_so lv k) (hl : lv.set k (some (.int x)) = lv') (hp : pc + 1 = p') (h : ex_go xt cx cc ret I Q n p' lv' st cs) : ex_wp xt cx cc ret I Q (n + 1) pc lv (.int x :: st) cs := by
  subst hp
  exact wq_of hd (by subst hl; exact ⟨rfl, hs, h⟩)
theorem wq_istore {k : Nat} {x : Int32} {lv' : ex_L} (hd : decode cc pc = .ok (.istore k, 2)) (hs : ex_so lv k) (hl : lv.set k (some (.int x)) = lv') (hp : pc + 2 = p') (h : ex_go xt cx cc ret I Q n p' lv' st cs) : ex_wp xt cx cc ret I Q (n + 1) pc lv (.int x :: st) cs := by
  subst hp
  exact wq_of hd (by subst hl; exact ⟨rfl, hs, h⟩)
theorem wq_astore_n {k : Fin 4} {x : Nat} {lv' : ex_L} (hd : decode cc pc = .ok (.astore_n k, 1)) (hs : ex_so lv k) (hl : lv.set k (some (.ref x)) = lv') (hp : pc + 1 = p') (h : ex_go xt cx cc ret I Q n p' lv' st cs) : ex_wp xt cx cc ret I Q (n + 1) pc lv (.ref x :: st) cs := by
  subst hp
  exact wq_of hd (by subst hl; exact ⟨rfl, hs, h⟩)
theorem wq_astore {k : Nat} {x : Nat} {lv' : ex_L} (hd : decode cc pc = .ok (.astore k, 2)) (hs : ex_so lv k) (hl : lv.set k (some (.ref x)) = lv') (hp : pc + 2 = p') (h : ex_go xt cx cc ret I Q n p' lv' st cs) : ex_wp xt cx cc ret I Q (n + 1) pc lv (.ref x :: st) cs := by
  subst hp
  exact wq_of hd (by subst hl; exact ⟨rfl, hs, h⟩)
theorem wq_lstore_n {k : Fin 4} {x : Int64} {lv' : ex_L} (hd : decode cc pc = .ok (.lstore_n k, 1)) (hs : ex_so lv k) (hs2 : (k : Nat) + 1 < lv.length) (hl : (lv.set k (some (.long x))).set (k + 1) none = lv') (hp : pc + 1 = p') (h : ex_go xt cx cc ret I Q n p' lv' st cs) : ex_wp xt cx cc ret I Q (n + 1) pc lv (.long x :: st) cs := by
  subst hp
  exact wq_of hd (by subst hl; exact ⟨rfl, hs, hs2, h⟩)
theorem wq_lstore {k : Nat} {x : Int64} {lv' : ex_L} (hd : decode cc pc = .ok (.lstore k, 2)) (hs : ex_so lv k) (hs2 : (k : Nat) + 1 < lv.length) (hl : (lv.set k (some (.long x))).set (k + 1) none = lv') (hp : pc + 2 = p') (h : ex_go xt cx cc ret I Q n p' lv' st cs) : ex_wp xt cx cc ret I Q (n + 1) pc lv (.long x :: st) cs := by
  subst hp
  exact wq_of hd (by subst hl; exact ⟨rfl, hs, hs2, h⟩)
theorem wq_iinc {k : Nat} {j : Int} {x v : Int32} {lv' : ex_L} (hd : decode cc pc = .ok (.iinc k j, 3)) (hv : lv[k]? = some (some (.int x))) (hs : ex_so lv k) (hx : x + Int32.ofInt j = v) (hl : lv.set k (some (.int v)) = lv') (hp : pc + 3 = p') (h : ex_go xt cx cc ret I Q n p' lv' st cs) : ex_wp xt cx cc ret I Q (n + 1) pc lv st cs := by
  subst hp
  exact wq_of hd (by subst hl; subst hx; refine ⟨rfl, ?_⟩; unfold ex_gi; rw [hv]; exact ⟨hs, h⟩)
theorem wq_iadd {x y v : Int32} (hd : decode cc pc = .ok (.iadd, 1)) (hv : x + y = v) (hp : pc + 1 = p') (h : ex_go xt cx cc ret I Q n p' lv (.int v :: st) cs) : ex_wp xt cx cc ret I Q (n + 1) pc lv (.int y :: .int x :: st) cs := by
  subst hp
  exact wq_of hd (by subst hv; exact ⟨rfl, h⟩)
theorem wq_isub {x y v : Int32} (hd : decode cc pc = .ok (.isub, 1)) (hv : x - y = v) (hp : pc + 1 = p') (h : ex_go xt cx cc ret I Q n p' lv (.int v :: st) cs) : ex_wp xt cx cc ret I Q (n + 1) pc lv (.int y :: .int x :: st) cs := by
  subst hp
  exact wq_of hd (by subst hv; exact ⟨rfl, h⟩)
theorem wq_imul {x y v : Int32} (hd : decode cc pc = .ok (.imul, 1)) (hv : x * y = v) (hp : pc + 1 = p') (h : ex_go xt cx cc ret I Q n p' lv (.int v :: st) cs) : ex_wp xt cx cc ret I Q (n + 1) pc lv (.int y :: .int x :: st) cs := by
  subst hp
  exact wq_of hd (by subst hv; exact ⟨rfl, h⟩)
theorem wq_iand {x y v : Int32} (hd : decode cc pc = .ok (.iand, 1)) (hv : x &&& y = v) (hp : pc + 1 = p') (h : ex_go xt cx cc ret I Q n p' lv (.int v :: st) cs) : ex_wp xt cx cc ret I Q (n + 1) pc lv (.int y :: .int x :: st) cs := by
  subst hp
  exact wq_of hd (by subst hv; exact ⟨rfl, h⟩)
theorem wq_ior {x y v : Int32} (hd : decode cc pc = .ok (.ior, 1)) (hv : x ||| y = v) (hp : pc + 1 = p') (h : ex_go xt cx cc ret I Q n p' lv (.int v :: st) cs) : ex_wp xt cx cc ret I Q (n + 1) pc lv (.int y :: .int x :: st) cs := by
  subst hp
  exact wq_of hd (by subst hv; exact ⟨rfl, h⟩)
theorem wq_ixor {x y v : Int32} (hd : decode cc pc = .ok (.ixor, 1)) (hv : x ^^^ y = v) (hp : pc + 1 = p') (h : ex_go xt cx cc ret I Q n p' lv (.int v :: st) cs) : ex_wp xt cx cc ret I Q (n + 1) pc lv (.int y :: .int x :: st) cs := by
  subst hp
  exact wq_of hd (by subst hv; exact ⟨rfl, h⟩)
theorem wq_ishl {x y v : Int32} (hd : decode cc pc = .ok (.ishl, 1)) (hv : x <<< (y &&& 31) = v) (hp : pc + 1 = p') (h : ex_go xt cx cc ret I Q n p' lv (.int v :: st) cs) : ex_wp xt cx cc ret I Q (n + 1) pc lv (.int y :: .int x :: st) cs := by
  subst hp
  exact wq_of hd (by subst hv; exact ⟨rfl, h⟩)
theorem wq_ishr {x y v : Int32} (hd : decode cc pc = .ok (.ishr, 1)) (hv : x >>> (y &&& 31) = v) (hp : pc + 1 = p') (h : ex_go xt cx cc ret I Q n p' lv (.int v :: st) cs) : ex_wp xt cx cc ret I Q (n + 1) pc lv (.int y :: .int x :: st) cs := by
  subst hp
  exact wq_of hd (by subst hv; exact ⟨rfl, h⟩)
theorem wq_iushr {x y v : Int32} (hd : decode cc pc = .ok (.iushr, 1)) (hv : (x.toUInt32 >>> (y.toUInt32 &&& Int32.toUInt32 31)).toInt32 = v) (hp : pc + 1 = p') (h : ex_go xt cx cc ret I Q n p' lv (.int v :: st) cs) : ex_wp xt cx cc ret I Q (n + 1) pc lv (.int y :: .int x :: st) cs := by
  subst hp
  exact wq_of hd (by subst hv; exact ⟨rfl, h⟩)
theorem wq_idiv {x y v : Int32} (hd : decode cc pc = .ok (.idiv, 1)) (hy : ¬ y = 0) (hv : x / y = v) (hp : pc + 1 = p') (h : ex_go xt cx cc ret I Q n p' lv (.int v :: st) cs) : ex_wp xt cx cc ret I Q (n + 1) pc lv (.int y :: .int x :: st) cs := by
  subst hp
  exact wq_of hd (by subst hv; exact ⟨rfl, hy, h⟩)
theorem wq_irem {x y v : Int32} (hd : decode cc pc = .ok (.irem, 1)) (hy : ¬ y = 0) (hv : x - x / y * y = v) (hp : pc + 1 = p') (h : ex_go xt cx cc ret I Q n p' lv (.int v :: st) cs) : ex_wp xt cx cc ret I Q (n + 1) pc lv (.int y :: .int x :: st) cs := by
  subst hp
  exact wq_of hd (by subst hv; exact ⟨rfl, hy, h⟩)
theorem wq_ineg {x v : Int32} (hd : decode cc pc = .ok (.ineg, 1)) (hv : -x = v) (hp : pc + 1 = p') (h : ex_go xt cx cc ret I Q n p' lv (.int v :: st) cs) : ex_wp xt cx cc ret I Q (n + 1) pc lv (.int x :: st) cs := by
  subst hp
  exact wq_of hd (by subst hv; exact ⟨rfl, h⟩)
theorem wq_i2l {x : Int32} {v : Int64} (hd : decode cc pc = .ok (.i2l, 1)) (hv : x.toInt64 = v) (hp : pc + 1 = p') (h : ex_go xt cx cc ret I Q n p' lv (.long v :: st) cs) : ex_wp xt cx cc ret I Q (n + 1) pc lv (.int x :: st) cs := by
  subst hp
  exact wq_of hd (by subst hv; exact ⟨rfl, h⟩)
theorem wq_l2i {x : Int64} {v : Int32} (hd : decode cc pc = .ok (.l2i, 1)) (hv : x.toInt32 = v) (hp : pc + 1 = p') (h : ex_go xt cx cc ret I Q n p' lv (.int v :: st) cs) : ex_wp xt cx cc ret I Q (n + 1) pc lv (.long x :: st) cs := by
  subst hp
  exact wq_of hd (by subst hv; exact ⟨rfl, h⟩)
theorem wq_ladd {x y v : Int64} (hd : decode cc pc = .ok (.ladd, 1)) (hv : x + y = v) (hp : pc + 1 = p') (h : ex_go xt cx cc ret I Q n p' lv (.long v :: st) cs) : ex_wp xt cx cc ret I Q (n + 1) pc lv (.long y :: .long x :: st) cs := by
  subst hp
  exact wq_of hd (by subst hv; exact ⟨rfl, h⟩)
theorem wq_lsub {x y v : Int64} (hd : decode cc pc = .ok (.lsub, 1)) (hv : x - y = v) (hp : pc + 1 = p') (h : ex_go xt cx cc ret I Q n p' lv (.long v :: st) cs) : ex_wp xt cx cc ret I Q (n + 1) pc lv (.long y :: .long x :: st) cs := by
  subst hp
  exact wq_of hd (by subst hv; exact ⟨rfl, h⟩)
theorem wq_lmul {x y v : Int64} (hd : decode cc pc = .ok (.lmul, 1)) (hv : x * y = v) (hp : pc + 1 = p') (h : ex_go xt cx cc ret I Q n p' lv (.long v :: st) cs) : ex_wp xt cx cc ret I Q (n + 1) pc lv (.long y :: .long x :: st) cs := by
  subst hp
  exact wq_of hd (by subst hv; exact ⟨rfl, h⟩)
theorem wq_ldiv {x y v : Int64} (hd : decode cc pc = .ok (.ldiv, 1)) (hy : ¬ y = 0) (hv : x / y = v) (hp : pc + 1 = p') (h : ex_go xt cx cc ret I Q n p' lv (.long v :: st) cs) : ex_wp xt cx cc ret I Q (n + 1) pc lv (.long y :: .long x :: st) cs := by
  subst hp
  exact wq_of hd (by subst hv; exact ⟨rfl, hy, h⟩)
theorem wq_dup {v : Value} (hd : decode cc pc = .ok (.dup, 1)) (h1 : v.category = 1) (hp : pc + 1 = p') (h : ex_go xt cx cc ret I Q n p' lv (v :: v :: st) cs) : ex_wp xt cx cc ret I Q (n + 1) pc lv (v :: st) cs := by
  subst hp
  exact wq_of hd ⟨rfl, h1, h⟩
theorem wq_pop {v : Value} (hd : decode cc pc = .ok (.pop, 1)) (h1 : v.category = 1) (hp : pc + 1 = p') (h : ex_go xt cx cc ret I Q n p' lv st cs) : ex_wp xt cx cc ret I Q (n + 1) pc lv (v :: st) cs := by
  subst hp
  exact wq_of hd ⟨rfl, h1, h⟩
theorem wq_dup_x1 {v w : Value} (hd : decode cc pc = .ok (.dup_x1, 1)) (h1 : v.category = 1) (h2 : w.category = 1) (hp : pc + 1 = p') (h : ex_go xt cx cc ret I Q n p' lv (v :: w :: v :: st) cs) : ex_wp xt cx cc ret I Q (n + 1) pc lv (v :: w :: st) cs := by
  subst hp
  exact wq_of hd ⟨rfl, h1, h2, h⟩
theorem wq_dup2 {v w : Value} (hd : decode cc pc = .ok (.dup2, 1)) (h1 : v.category = 1) (h2 : w.category = 1) (hp : pc + 1 = p') (h : ex_go xt cx cc ret I Q n p' lv (v :: w :: v :: w :: st) cs) : ex_wp xt cx cc ret I Q (n + 1) pc lv (v :: w :: st) cs := by
  subst hp
  exact wq_of hd ⟨rfl, h1, h2, h⟩
theorem wq_if_eq {x : Int32} {off : Int} {t : Nat} (hd : decode cc pc = .ok (.ifCond .eq off, 3)) (ht : (pc : Int) + off = (t : Int)) (hp : pc + 3 = p') (kt : x = 0 → ex_go xt cx cc ret I Q n t lv st cs) (kf : ¬ x = 0 → ex_go xt cx cc ret I Q n p' lv st cs) : ex_wp xt cx cc ret I Q (n + 1) pc lv (.int x :: st) cs := by
  subst hp
  refine wq_of hd ⟨rfl, ?_, ?_⟩
  · rw [ht]; exact Int.natCast_nonneg t
  · rw [ht, Int.toNat_natCast]
    exact ⟨kt, kf⟩
theorem wq_if_eq_t {x : Int32} {off : Int} {t : Nat} (hd : decode cc pc = .ok (.ifCond .eq off, 3)) (ht : (pc : Int) + off = (t : Int)) (hc : x = 0) (kt : ex_go xt cx cc ret I Q n t lv st cs) : ex_wp xt cx cc ret I Q (n + 1) pc lv (.int x :: st) cs := wq_if_eq hd ht rfl (fun _ => kt) (fun q => absurd hc q)
theorem wq_if_eq_f {x : Int32} {off : Int} {t : Nat} (hd : decode cc pc = .ok (.ifCond .eq off, 3)) (ht : (pc : Int) + off = (t : Int)) (hp : pc + 3 = p') (hc : ¬ x = 0) (kf : ex_go xt cx cc ret I Q n p' lv st cs) : ex_wp xt cx cc ret I Q (n + 1) pc lv (.int x :: st) cs := wq_if_eq hd ht hp (fun q => absurd q hc) (fun _ => kf)
theorem wq_icmp_eq {x y : Int32} {off : Int} {t : Nat} (hd : decode cc pc = .ok (.if_icmp .eq off, 3)) (ht : (pc : Int) + off = (t : Int)) (hp : pc + 3 = p') (kt : x = y → ex_go xt cx cc ret I Q n t lv st cs) (kf : ¬ x = y → ex_go xt cx cc ret I Q n p' lv st cs) : ex_wp xt cx cc ret I Q (n + 1) pc lv (.int y :: .int x :: st) cs := by
  subst hp
  refine wq_of hd ⟨rfl, ?_, ?_⟩
  · rw [ht]; exact Int.natCast_nonneg t
  · rw [ht, Int.toNat_natCast]
    exact ⟨kt, kf⟩
theorem wq_icmp_eq_t {x y : Int32} {off : Int} {t : Nat} (hd : decode cc pc = .ok (.if_icmp .eq off, 3)) (ht : (pc : Int) + off = (t : Int)) (hc : x = y) (kt : ex_go xt cx cc ret I Q n t lv st cs) : ex_wp xt cx cc ret I Q (n + 1) pc lv (.int y :: .int x :: st) cs := wq_icmp_eq hd ht rfl (fun _ => kt) (fun q => absurd hc q)
theorem wq_icmp_eq_f {x y : Int32} {off : Int} {t : Nat} (hd : decode cc pc = .ok (.if_icmp .eq off, 3)) (ht : (pc : Int) + off = (t : Int)) (hp : pc + 3 = p') (hc : ¬ x = y) (kf : ex_go xt cx cc ret I Q n p' lv st cs) : ex_wp xt cx cc ret I Q (n + 1) pc lv (.int y :: .int x :: st) cs := wq_icmp_eq hd ht hp (fun q => absurd q hc) (fun _ => kf)
theorem wq_if_ne {x : Int32} {off : Int} {t : Nat} (hd : decode cc pc = .ok (.ifCond .ne off, 3)) (ht : (pc : Int) + off = (t : Int)) (hp : pc + 3 = p') (kt : ¬ x = 0 → ex_go xt cx cc ret I Q n t lv st cs) (kf : x = 0 → ex_go xt cx cc ret I Q n p' lv st cs) : ex_wp xt cx cc ret I Q (n + 1) pc lv (.int x :: st) cs := by
  subst hp
  refine wq_of hd ⟨rfl, ?_, ?_⟩
  · rw [ht]; exact Int.natCast_nonneg t
  · rw [ht, Int.toNat_natCast]
    exact ⟨kf, kt⟩
theorem wq_if_ne_t {x : Int32} {off : Int} {t : Nat} (hd : decode cc pc = .ok (.ifCond .ne off, 3)) (ht : (pc : Int) + off = (t : Int)) (hc : ¬ x = 0) (kt : ex_go xt cx cc ret I Q n t lv st cs) : ex_wp xt cx cc ret I Q (n + 1) pc lv (.int x :: st) cs := wq_if_ne hd ht rfl (fun _ => kt) (fun q => absurd q hc)
theorem wq_if_ne_f {x : Int32} {off : Int} {t : Nat} (hd : decode cc pc = .ok (.ifCond .ne off, 3)) (ht : (pc : Int) + off = (t : Int)) (hp : pc + 3 = p') (hc : x = 0) (kf : ex_go xt cx cc ret I Q n p' lv st cs) : ex_wp xt cx cc ret I Q (n + 1) pc lv (.int x :: st) cs := wq_if_ne hd ht hp (fun q => absurd hc q) (fun _ => kf)
theorem wq_icmp_ne {x y : Int32} {off : Int} {t : Nat} (hd : decode cc pc = .ok (.if_icmp .ne off, 3)) (ht : (pc : Int) + off = (t : Int)) (hp : pc + 3 = p') (kt : ¬ x = y → ex_go xt cx cc ret I Q n t lv st cs) (kf : x = y → ex_go xt cx cc ret I Q n p' lv st cs) : ex_wp xt cx cc ret I Q (n + 1) pc lv (.int y :: .int x :: st) cs := by
  subst hp
  refine wq_of hd ⟨rfl, ?_, ?_⟩
  · rw [ht]; exact Int.natCast_nonneg t
  · rw [ht, Int.toNat_natCast]
    exact ⟨kf, kt⟩
theorem wq_icmp_ne_t {x y : Int32} {off : Int} {t : Nat} (hd : decode cc pc = .ok (.if_icmp .ne off, 3)) (ht : (pc : Int) + off = (t : Int)) (hc : ¬ x = y) (kt : ex_go xt cx cc ret I Q n t lv st cs) : ex_wp xt cx cc ret I Q (n + 1) pc lv (.int y :: .int x :: st) cs := wq_icmp_ne hd ht rfl (fun _ => kt) (fun q => absurd q hc)
theorem wq_icmp_ne_f {x y : Int32} {off : Int} {t : Nat} (hd : decode cc pc = .ok (.if_icmp .ne off, 3)) (ht : (pc : Int) + off = (t : Int)) (hp : pc + 3 = p') (hc : x = y) (kf : ex_go xt cx cc ret I Q n p' lv st cs) : ex_wp xt cx cc ret I Q (n + 1) pc lv (.int y :: .int x :: st) cs := wq_icmp_ne hd ht hp (fun q => absurd hc q) (fun _ => kf)
theorem wq_if_lt {x : Int32} {off : Int} {t : Nat} (hd : decode cc pc = .ok (.ifCond .lt off, 3)) (ht : (pc : Int) + off = (t : Int)) (hp : pc + 3 = p') (kt : x < 0 → ex_go xt cx cc ret I Q n t lv st cs) (kf : ¬ x < 0 → ex_go xt cx cc ret I Q n p' lv st cs) : ex_wp xt cx cc ret I Q (n + 1) pc lv (.int x :: st) cs := by
  subst hp
  refine wq_of hd ⟨rfl, ?_, ?_⟩
  · rw [ht]; exact Int.natCast_nonneg t
  · rw [ht, Int.toNat_natCast]
    exact ⟨kt, kf⟩
theorem wq_if_lt_t {x : Int32} {off : Int} {t : Nat} (hd : decode cc pc = .ok (.ifCond .lt off, 3)) (ht : (pc : Int) + off = (t : Int)) (hc : x < 0) (kt : ex_go xt cx cc ret I Q n t lv st cs) : ex_wp xt cx cc ret I Q (n + 1) pc lv (.int x :: st) cs := wq_if_lt hd ht rfl (fun _ => kt) (fun q => absurd hc q)
theorem wq_if_lt_f {x : Int32} {off : Int} {t : Nat} (hd : decode cc pc = .ok (.ifCond .lt off, 3)) (ht : (pc : Int) + off = (t : Int)) (hp : pc + 3 = p') (hc : ¬ x < 0) (kf : ex_go xt cx cc ret I Q n p' lv st cs) : ex_wp xt cx cc ret I Q (n + 1) pc lv (.int x :: st) cs := wq_if_lt hd ht hp (fun q => absurd q hc) (fun _ => kf)
theorem wq_icmp_lt {x y : Int32} {off : Int} {t : Nat} (hd : decode cc pc = .ok (.if_icmp .lt off, 3)) (ht : (pc : Int) + off = (t : Int)) (hp : pc + 3 = p') (kt : x < y → ex_go xt cx cc ret I Q n t lv st cs) (kf : ¬ x < y → ex_go xt cx cc ret I Q n p' lv st cs) : ex_wp xt cx cc ret I Q (n + 1) pc lv (.int y :: .int x :: st) cs := by
  subst hp
  refine wq_of hd ⟨rfl, ?_, ?_⟩
  · rw [ht]; exact Int.natCast_nonneg t
  · rw [ht, Int.toNat_natCast]
    exact ⟨kt, kf⟩
theorem wq_icmp_lt_t {x y : Int32} {off : Int} {t : Nat} (hd : decode cc pc = .ok (.if_icmp .lt off, 3)) (ht : (pc : Int) + off = (t : Int)) (hc : x < y) (kt : ex_go xt cx cc ret I Q n t lv st cs) : ex_wp xt cx cc ret I Q (n + 1) pc lv (.int y :: .int x :: st) cs := wq_icmp_lt hd ht rfl (fun _ => kt) (fun q => absurd hc q)
theorem wq_icmp_lt_f {x y : Int32} {off : Int} {t : Nat} (hd : decode cc pc = .ok (.if_icmp .lt off, 3)) (ht : (pc : Int) + off = (t : Int)) (hp : pc + 3 = p') (hc : ¬ x < y) (kf : ex_go xt cx cc ret I Q n p' lv st cs) : ex_wp xt cx cc ret I Q (n + 1) pc lv (.int y :: .int x :: st) cs := wq_icmp_lt hd ht hp (fun q => absurd q hc) (fun _ => kf)
theorem wq_if_ge {x : Int32} {off : Int} {t : Nat} (hd : decode cc pc = .ok (.ifCond .ge off, 3)) (ht : (pc : Int) + off = (t : Int)) (hp : pc + 3 = p') (kt : 0 ≤ x → ex_go xt cx cc ret I Q n t lv st cs) (kf : ¬ 0 ≤ x → ex_go xt cx cc ret I Q n p' lv st cs) : ex_wp xt cx cc ret I Q (n + 1) pc lv (.int x :: st) cs := by
  subst hp
  refine wq_of hd ⟨rfl, ?_, ?_⟩
  · rw [ht]; exact Int.natCast_nonneg t
  · rw [ht, Int.toNat_natCast]
    exact ⟨kt, kf⟩
theorem wq_if_ge_t {x : Int32} {off : Int} {t : Nat} (hd : decode cc pc = .ok (.ifCond .ge off, 3)) (ht : (pc : Int) + off = (t : Int)) (hc : 0 ≤ x) (kt : ex_go xt cx cc ret I Q n t lv st cs) : ex_wp xt cx cc ret I Q (n + 1) pc lv (.int x :: st) cs := wq_if_ge hd ht rfl (fun _ => kt) (fun q => absurd hc q)
theorem wq_if_ge_f {x : Int32} {off : Int} {t : Nat} (hd : decode cc pc = .ok (.ifCond .ge off, 3)) (ht : (pc : Int) + off = (t : Int)) (hp : pc + 3 = p') (hc : ¬ 0 ≤ x) (kf : ex_go xt cx cc ret I Q n p' lv st cs) : ex_wp xt cx cc ret I Q (n + 1) pc lv (.int x :: st) cs := wq_if_ge hd ht hp (fun q => absurd q hc) (fun _ => kf)
theorem wq_icmp_ge {x y : Int32} {off : Int} {t : Nat} (hd : decode cc pc = .ok (.if_icmp .ge off, 3)) (ht : (pc : Int) + off = (t : Int)) (hp : pc + 3 = p') (kt : y ≤ x → ex_go xt cx cc ret I Q n t lv st cs) (kf : ¬ y ≤ x → ex_go xt cx cc ret I Q n p' lv st cs) : ex_wp xt cx cc ret I Q (n + 1) pc lv (.int y :: .int x :: st) cs := by
  subst hp
  refine wq_of hd ⟨rfl, ?_, ?_⟩
  · rw [ht]; exact Int.natCast_nonneg t
  · rw [ht, Int.toNat_natCast]
    exact ⟨kt, kf⟩
theorem wq_icmp_ge_t {x y : Int32} {off : Int} {t : Nat} (hd : decode cc pc = .ok (.if_icmp .ge off, 3)) (ht : (pc : Int) + off = (t : Int)) (hc : y ≤ x) (kt : ex_go xt cx cc ret I Q n t lv st cs) : ex_wp xt cx cc ret I Q (n + 1) pc lv (.int y :: .int x :: st) cs := wq_icmp_ge hd ht rfl (fun _ => kt) (fun q => absurd hc q)
theorem wq_icmp_ge_f {x y : Int32} {off : Int} {t : Nat} (hd : decode cc pc = .ok (.if_icmp .ge off, 3)) (ht : (pc : Int) + off = (t : Int)) (hp : pc + 3 = p') (hc : ¬ y ≤ x) (kf : ex_go xt cx cc ret I Q n p' lv st cs) : ex_wp xt cx cc ret I Q (n + 1) pc lv (.int y :: .int x :: st) cs := wq_icmp_ge hd ht hp (fun q => absurd q hc) (fun _ => kf)
theorem wq_if_gt {x : Int32} {off : Int} {t : Nat} (hd : decode cc pc = .ok (.ifCond .gt off, 3)) (ht : (pc : Int) + off = (t : Int)) (hp : pc + 3 = p') (kt : 0 < x → ex_go xt cx cc ret I Q n t lv st cs) (kf : ¬ 0 < x → ex_go xt cx cc ret I Q n p' lv st cs) : ex_wp xt cx cc ret I Q (n + 1) pc lv (.int x :: st) cs := by
  subst hp
  refine wq_of hd ⟨rfl, ?_, ?_⟩
  · rw [ht]; exact Int.natCast_nonneg t
  · rw [ht, Int.toNat_natCast]
    exact ⟨kt, kf⟩
theorem wq_if_gt_t {x : Int32} {off : Int} {t : Nat} (hd : decode cc pc = .ok (.ifCond .gt off, 3)) (ht : (pc : Int) + off = (t : Int)) (hc : 0 < x) (kt : ex_go xt cx cc ret I Q n t lv st cs) : ex_wp xt cx cc ret I Q (n + 1) pc lv (.int x :: st) cs := wq_if_gt hd ht rfl (fun _ => kt) (fun q => absurd hc q)
theorem wq_if_gt_f {x : Int32} {off : Int} {t : Nat} (hd : decode cc pc = .ok (.ifCond .gt off, 3)) (ht : (pc : Int) + off = (t : Int)) (hp : pc + 3 = p') (hc : ¬ 0 < x) (kf : ex_go xt cx cc ret I Q n p' lv st cs) : ex_wp xt cx cc ret I Q (n + 1) pc lv (.int x :: st) cs := wq_if_gt hd ht hp (fun q => absurd q hc) (fun _ => kf)
theorem wq_icmp_gt {x y : Int32} {off : Int} {t : Nat} (hd : decode cc pc = .ok (.if_icmp .gt off, 3)) (ht : (pc : Int) + off = (t : Int)) (hp : pc + 3 = p') (kt : y < x → ex_go xt cx cc ret I Q n t lv st cs) (kf : ¬ y < x → ex_go xt cx cc ret I Q n p' lv st cs) : ex_wp xt cx cc ret I Q (n + 1) pc lv (.int y :: .int x :: st) cs := by
  subst hp
  refine wq_of hd ⟨rfl, ?_, ?_⟩
  · rw [ht]; exact Int.natCast_nonneg t
  · rw [ht, Int.toNat_natCast]
    exact ⟨kt, kf⟩
theorem wq_icmp_gt_t {x y : Int32} {off : Int} {t : Nat} (hd : decode cc pc = .ok (.if_icmp .gt off, 3)) (ht : (pc : Int) + off = (t : Int)) (hc : y < x) (kt : ex_go xt cx cc ret I Q n t lv st cs) : ex_wp xt cx cc ret I Q (n + 1) pc lv (.int y :: .int x :: st) cs := wq_icmp_gt hd ht rfl (fun _ => kt) (fun q => absurd hc q)
theorem wq_icmp_gt_f {x y : Int32} {off : Int} {t : Nat} (hd : decode cc pc = .ok (.if_icmp .gt off, 3)) (ht : (pc : Int) + off = (t : Int)) (hp : pc + 3 = p') (hc : ¬ y < x) (kf : ex_go xt cx cc ret I Q n p' lv st cs) : ex_wp xt cx cc ret I Q (n + 1) pc lv (.int y :: .int x :: st) cs := wq_icmp_gt hd ht hp (fun q => absurd q hc) (fun _ => kf)
theorem wq_if_le {x : Int32} {off : Int} {t : Nat} (hd : decode cc pc = .ok (.ifCond .le off, 3)) (ht : (pc : Int) + off = (t : Int)) (hp : pc + 3 = p') (kt : x ≤ 0 → ex_go xt cx cc ret I Q n t lv st cs) (kf : ¬ x ≤ 0 → ex_go xt cx cc ret I Q n p' lv st cs) : ex_wp xt cx cc ret I Q (n + 1) pc lv (.int x :: st) cs := by
  subst hp
  refine wq_of hd ⟨rfl, ?_, ?_⟩
  · rw [ht]; exact Int.natCast_nonneg t
  · rw [ht, Int.toNat_natCast]
    exact ⟨kt, kf⟩
theorem wq_if_le_t {x : Int32} {off : Int} {t : Nat} (hd : decode cc pc = .ok (.ifCond .le off, 3)) (ht : (pc : Int) + off = (t : Int)) (hc : x ≤ 0) (kt : ex_go xt cx cc ret I Q n t lv st cs) : ex_wp xt cx cc ret I Q (n + 1) pc lv (.int x :: st) cs := wq_if_le hd ht rfl (fun _ => kt) (fun q => absurd hc q)
theorem wq_if_le_f {x : Int32} {off : Int} {t : Nat} (hd : decode cc pc = .ok (.ifCond .le off, 3)) (ht : (pc : Int) + off = (t : Int)) (hp : pc + 3 = p') (hc : ¬ x ≤ 0) (kf : ex_go xt cx cc ret I Q n p' lv st cs) : ex_wp xt cx cc ret I Q (n + 1) pc lv (.int x :: st) cs := wq_if_le hd ht hp (fun q => absurd q hc) (fun _ => kf)
theorem wq_icmp_le {x y : Int32} {off : Int} {t : Nat} (hd : decode cc pc = .ok (.if_icmp .le off, 3)) (ht : (pc : Int) + off = (t : Int)) (hp : pc + 3 = p') (kt : x ≤ y → ex_go xt cx cc ret I Q n t lv st cs) (kf : ¬ x ≤ y → ex_go xt cx cc ret I Q n p' lv st cs) : ex_wp xt cx cc ret I Q (n + 1) pc lv (.int y :: .int x :: st) cs := by
  subst hp
  refine wq_of hd ⟨rfl, ?_, ?_⟩
  · rw [ht]; exact Int.natCast_nonneg t
  · rw [ht, Int.toNat_natCast]
    exact ⟨kt, kf⟩
theorem wq_icmp_le_t {x y : Int32} {off : Int} {t : Nat} (hd : decode cc pc = .ok (.if_icmp .le off, 3)) (ht : (pc : Int) + off = (t : Int)) (hc : x ≤ y) (kt : ex_go xt cx cc ret I Q n t lv st cs) : ex_wp xt cx cc ret I Q (n + 1) pc lv (.int y :: .int x :: st) cs := wq_icmp_le hd ht rfl (fun _ => kt) (fun q => absurd hc q)
theorem wq_icmp_le_f {x y : Int32} {off : Int} {t : Nat} (hd : decode cc pc = .ok (.if_icmp .le off, 3)) (ht : (pc : Int) + off = (t : Int)) (hp : pc + 3 = p') (hc : ¬ x ≤ y) (kf : ex_go xt cx cc ret I Q n p' lv st cs) : ex_wp xt cx cc ret I Q (n + 1) pc lv (.int y :: .int x :: st) cs := wq_icmp_le hd ht hp (fun q => absurd q hc) (fun _ => kf)
theorem wq_goto {off : Int} {t : Nat} (hd : decode cc pc = .ok (.goto off, 3)) (ht : (pc : Int) + off = (t : Int)) (h : ex_go xt cx cc ret I Q n t lv st cs) : ex_wp xt cx cc ret I Q (n + 1) pc lv st cs := by
  refine wq_of hd ⟨rfl, ?_, ?_⟩
  · rw [ht]; exact Int.natCast_nonneg t
  · rw [ht, Int.toNat_natCast]; exact h
theorem wq_to {off : Int} {t : Nat} {k : Nat → Prop} (ht : (pc : Int) + off = (t : Int)) (h : k t) : ex_to pc off k := by
  refine ⟨?_, ?_⟩
  · rw [ht]; exact Int.natCast_nonneg t
  · rw [ht, Int.toNat_natCast]; exact h
theorem wq_table {dflt lo hi : Int} {offs : Array Int} {len : Nat} {x : Int32} (hd : decode cc pc = .ok (.tableswitch dflt lo hi offs, len)) (hz : hi = lo + offs.size - 1) (k0 : x.toInt < lo ∨ hi < x.toInt → ex_to pc dflt (fun t => ex_go xt cx cc ret I Q n t lv st cs)) (k1 : ex_tb x (fun o => ex_to pc o (fun t => ex_go xt cx cc ret I Q n t lv st cs)) lo offs.toList) : ex_wp xt cx cc ret I Q (n + 1) pc lv (.int x :: st) cs := wq_of hd ⟨hz, k0, k1⟩
theorem wq_lookup {dflt : Int} {ps : Array (Int × Int)} {len : Nat} {x : Int32} (hd : decode cc pc = .ok (.lookupswitch dflt ps, len)) (h1 : (ps.toList.zip (ps.toList.drop 1)).all (fun (a, next) => a.1 < next.1) = true) (h2 : ps.toList.all (fun q => decide (-2147483648 ≤ q.1 ∧ q.1 < 2147483648)) = true) (k0 : ex_ln x ps.toList → ex_to pc dflt (fun t => ex_go xt cx cc ret I Q n t lv st cs)) (k1 : ex_lk x (fun o => ex_to pc o (fun t => ex_go xt cx cc ret I Q n t lv st cs)) ps.toList) : ex_wp xt cx cc ret I Q (n + 1) pc lv (.int x :: st) cs := wq_of hd ⟨h1, h2, k0, k1⟩
theorem wq_getfield {ix ci k a : Nat} {b : Bool} {ty : FieldType} {fs : List Value} {v : Value} (hd : decode cc pc = .ok (.getfield ix, 3)) (hq : cx.2.1 ix = some (ci, k, b, ty)) (ho : cs[a]? = some (.inr (ci, fs))) (hv : fs[k]? = some v) (hp : pc + 3 = p') (h : ex_go xt cx cc ret I Q n p' lv (v :: st) cs) : ex_wp xt cx cc ret I Q (n + 1) pc lv (.ref a :: st) cs := by
  subst hp
  exact wq_of hd ⟨rfl, by show ex_o _ _; rw [hq]; show ex_ob _ _ _ _; unfold ex_ob; rw [ho]; refine ⟨rfl, ?_⟩; show ex_o _ _; rw [hv]; exact h⟩
theorem wq_putfield {ix ci k a : Nat} {ty : FieldType} {fs fs' : List Value} {v : Value} {cs' : ex_C} (hd : decode cc pc = .ok (.putfield ix, 3)) (hq : cx.2.1 ix = some (ci, k, true, ty)) (ho : cs[a]? = some (.inr (ci, fs))) (hk : k < fs.length) (hf : ex_fit ty v) (hfs : fs.set k v = fs') (hc : cs.set a (.inr (ci, fs')) = cs') (hp : pc + 3 = p') (h : ex_go xt cx cc ret I Q n p' lv st cs') : ex_wp xt cx cc ret I Q (n + 1) pc lv (v :: .ref a :: st) cs := by
  subst hp
  exact wq_of hd (by subst hc; subst hfs; refine ⟨rfl, ?_⟩; show ex_o _ _; rw [hq]; show ex_ob _ _ _ _; unfold ex_ob; rw [ho]; exact ⟨rfl, hk, rfl, hf, h⟩)
theorem wq_getstatic {ix j a : Nat} (hd : decode cc pc = .ok (.getstatic ix, 3)) (hq : cx.2.2.2.1 ix = some j) (ha : 1000 + j = a) (hp : pc + 3 = p') (h : ex_go xt cx cc ret I Q n p' lv (.ref a :: st) cs) : ex_wp xt cx cc ret I Q (n + 1) pc lv st cs := by
  subst hp
  exact wq_of hd (by subst ha; refine ⟨rfl, ?_⟩; rw [hq]; exact h)
theorem wq_iaload {a m : Nat} {f : Nat → Int32} {i v : Int32} (hd : decode cc pc = .ok (.iaload, 1)) (ha : ¬ 1000 ≤ a) (ho : cs[a]? = some (.inl (0, m, .inl f))) (hi : vp_in i m) (hv : f i.toNatClampNeg = v) (hp : pc + 1 = p') (h : ex_go xt cx cc ret I Q n p' lv (.int v :: st) cs) : ex_wp xt cx cc ret I Q (n + 1) pc lv (.int i :: .ref a :: st) cs := by
  subst hp
  exact wq_of hd (by subst hv; refine ⟨rfl, ?_⟩; show ex_ax _ _ _ _; unfold ex_ax; rw [if_neg ha]; unfold ex_ar; rw [ho]; exact ⟨rfl, hi, h⟩)
theorem wq_ialoadX {a m j : Nat} {f : Nat → Int32} {i v : Int32} (hd : decode cc pc = .ok (.iaload, 1)) (ha : 1000 + j = a) (ho : xt[j]? = some (m, f)) (hi : vp_in i m) (hv : f i.toNatClampNeg = v) (hp : pc + 1 = p') (h : ex_go xt cx cc ret I Q n p' lv (.int v :: st) cs) : ex_wp xt cx cc ret I Q (n + 1) pc lv (.int i :: .ref a :: st) cs := by
  subst hp
  exact wq_of hd (by subst hv; subst ha; refine ⟨rfl, ?_⟩; show ex_ax _ _ _ _; unfold ex_ax; rw [if_pos (Nat.le_add_right _ _), Nat.add_sub_cancel_left, ho]; exact ⟨hi, h⟩)
theorem wq_baload {a m : Nat} {f : Nat → Int32} {i v : Int32} (hd : decode cc pc = .ok (.baload, 1)) (ho : cs[a]? = some (.inl (1, m, .inl f))) (hi : vp_in i m) (hv : f i.toNatClampNeg = v) (hp : pc + 1 = p') (h : ex_go xt cx cc ret I Q n p' lv (.int v :: st) cs) : ex_wp xt cx cc ret I Q (n + 1) pc lv (.int i :: .ref a :: st) cs := by
  subst hp
  exact wq_of hd (by subst hv; refine ⟨rfl, ?_⟩; show ex_ar _ _ _ _; unfold ex_ar; rw [ho]; exact ⟨rfl, hi, h⟩)
theorem wq_iastore {a m : Nat} {f f' : Nat → Int32} {i x : Int32} {cs' : ex_C} (hd : decode cc pc = .ok (.iastore, 1)) (ho : cs[a]? = some (.inl (0, m, .inl f))) (hi : vp_in i m) (hf : upd f i.toNatClampNeg x = f') (hc : cs.set a (.inl (0, m, .inl f')) = cs') (hp : pc + 1 = p') (h : ex_go xt cx cc ret I Q n p' lv st cs') : ex_wp xt cx cc ret I Q (n + 1) pc lv (.int x :: .int i :: .ref a :: st) cs := by
  subst hp
  exact wq_of hd (by subst hc; subst hf; refine ⟨rfl, ?_⟩; show ex_ar _ _ _ _; unfold ex_ar; rw [ho]; exact ⟨rfl, hi, h⟩)
theorem wq_bastore {a m : Nat} {f f' : Nat → Int32} {i x : Int32} {cs' : ex_C} (hd : decode cc pc = .ok (.bastore, 1)) (ho : cs[a]? = some (.inl (1, m, .inl f))) (hi : vp_in i m) (h01 : x = 0 ∨ x = 1) (hf : upd f i.toNatClampNeg x = f') (hc : cs.set a (.inl (1, m, .inl f')) = cs') (hp : pc + 1 = p') (h : ex_go xt cx cc ret I Q n p' lv st cs') : ex_wp xt cx cc ret I Q (n + 1) pc lv (.int x :: .int i :: .ref a :: st) cs := by
  subst hp
  exact wq_of hd (by subst hc; subst hf; refine ⟨rfl, ?_⟩; show ex_ar _ _ _ _; unfold ex_ar; rw [ho]; exact ⟨rfl, hi, h01, h⟩)
theorem wq_arraylength {a t m : Nat} {f : Nat → Int32} {v : Int32} (hd : decode cc pc = .ok (.arraylength, 1)) (ho : cs[a]? = some (.inl (t, m, .inl f))) (ht : t = 0 ∨ t = 1) (hv : Int32.ofNat m = v) (hp : pc + 1 = p') (h : ex_go xt cx cc ret I Q n p' lv (.int v :: st) cs) : ex_wp xt cx cc ret I Q (n + 1) pc lv (.ref a :: st) cs := by
  subst hp
  exact wq_of hd (by subst hv; refine ⟨rfl, ?_⟩; show ex_r1 _ _; unfold ex_r1; dsimp only; rw [ho]; exact ⟨ht, h⟩)
theorem wq_virtual {ix q ci a : Nat} {sp : ex_S} {fs : List Value} {av r : ex_V} (hd : decode cc pc = .ok (.invokevirtual ix, 3)) (hq : cx.2.2.2.2.1 ix = some (q, some ci, sp)) (hn : q ≤ st.length) (hg : st[q - 1]? = some (.ref a)) (hav : (st.take q).reverse = av) (hr : st.drop q = r) (hs : (r.map (fun v => v.category)).sum ≤ 8) (ho : cs[a]? = some (.inr (ci, fs))) (hp : pc + 3 = p') (h : sp av cs (fun rv cs' => ex_go xt cx cc ret I Q n p' lv (rv.toList ++ r) cs')) : ex_wp xt cx cc ret I Q (n + 1) pc lv st cs := by
  subst hp
  exact wq_of hd (by subst hav; subst hr; refine ⟨rfl, ?_⟩; rw [hq]; refine ⟨hn, hs, ?_⟩; show ex_o _ _; rw [hg]; show ex_ob _ _ _ _; unfold ex_ob; rw [ho]; exact ⟨rfl, h⟩)
theorem wq_static {ix q : Nat} {sp : ex_S} {av r : ex_V} (hd : decode cc pc = .ok (.invokestatic ix, 3)) (hk : cx.2.2.2.2.2.1 ix = 0) (hq : cx.2.2.2.2.1 ix = some (q, none, sp)) (hn : q ≤ st.length) (hav : (st.take q).reverse = av) (hr : st.drop q = r) (hs : (r.map (fun v => v.category)).sum ≤ 8) (hp : pc + 3 = p') (h : sp av cs (fun rv cs' => ex_go xt cx cc ret I Q n p' lv (rv.toList ++ r) cs')) : ex_wp xt cx cc ret I Q (n + 1) pc lv st cs := by
  subst hp
  exact wq_of hd (by subst hav; subst hr; refine ⟨rfl, ?_⟩; rw [hk]; show ex_o _ _; rw [hq]; exact ⟨hn, hs, rfl, h⟩)
theorem wq_min {ix : Nat} {x y v : Int32} (hd : decode cc pc = .ok (.invokestatic ix, 3)) (hk : cx.2.2.2.2.2.1 ix = 2) (hs : (st.map (fun v => v.category)).sum ≤ 8) (hv : (if y < x then y else x) = v) (hp : pc + 3 = p') (h : ex_go xt cx cc ret I Q n p' lv (.int v :: st) cs) : ex_wp xt cx cc ret I Q (n + 1) pc lv (.int y :: .int x :: st) cs := by
  subst hp
  exact wq_of hd (by subst hv; refine ⟨rfl, ?_⟩; rw [hk]; exact ⟨hs, h⟩)
theorem wq_max {ix : Nat} {x y v : Int32} (hd : decode cc pc = .ok (.invokestatic ix, 3)) (hk : cx.2.2.2.2.2.1 ix = 3) (hs : (st.map (fun v => v.category)).sum ≤ 8) (hv : (if x < y then y else x) = v) (hp : pc + 3 = p') (h : ex_go xt cx cc ret I Q n p' lv (.int v :: st) cs) : ex_wp xt cx cc ret I Q (n + 1) pc lv (.int y :: .int x :: st) cs := by
  subst hp
  exact wq_of hd (by subst hv; refine ⟨rfl, ?_⟩; rw [hk]; exact ⟨hs, h⟩)
theorem wq_copy {ix a a0 m0 m1 : Nat} {f g g' : Nat → Int32} {sp dp z : Int32} {cs' : ex_C} (hd : decode cc pc = .ok (.invokestatic ix, 3)) (hk : cx.2.2.2.2.2.1 ix = 1) (ho0 : cs[a0]? = some (.inl (0, m0, .inl f))) (ho : cs[a]? = some (.inl (0, m1, .inl g))) (h1 : ¬ sp < 0 ∧ ¬ dp < 0 ∧ ¬ z < 0 ∧ sp.toNatClampNeg + z.toNatClampNeg ≤ m0 ∧ dp.toNatClampNeg + z.toNatClampNeg ≤ m1) (hs : (st.map (fun v => v.category)).sum ≤ 8) (hg : va_cpy f g sp.toNatClampNeg dp.toNatClampNeg z.toNatClampNeg = g') (hc : cs.set a (.inl (0, m1, .inl g')) = cs') (hp : pc + 3 = p') (h : ex_go xt cx cc ret I Q n p' lv st cs') : ex_wp xt cx cc ret I Q (n + 1) pc lv (.int z :: .int dp :: .ref a :: .int sp :: .ref a0 :: st) cs := by
  subst hp
  exact wq_of hd (by subst hc; subst hg; refine ⟨rfl, ?_⟩; rw [hk]; show ex_ar _ _ _ _; unfold ex_ar; rw [ho0]; refine ⟨rfl, ?_⟩; show ex_ar _ _ _ _; unfold ex_ar; rw [ho]; exact ⟨rfl, h1.1, h1.2.1, h1.2.2.1, h1.2.2.2.1, h1.2.2.2.2, hs, h⟩)
theorem wq_ireturn {v : Int32} (hd : decode cc pc = .ok (.ireturn, 1)) (hr : ex_ret ret v) (h : Q (some (.int v)) cs) : ex_wp xt cx cc ret I Q (n + 1) pc lv [.int v] cs := wq_of hd ⟨rfl, hr, h⟩
theorem wq_return (hd : decode cc pc = .ok (.return_, 1)) (hr : ret = none) (h : Q none cs) : ex_wp xt cx cc ret I Q (n + 1) pc lv [] cs := wq_of hd ⟨rfl, hr, rfl, h⟩
theorem ret_int {v : Value} {r : ex_V} (h : ex_go xt cx cc ret I Q n pc lv (v :: r) cs) : ex_go xt cx cc ret I Q n pc lv ((some v).toList ++ r) cs := h
theorem ret_void {r : ex_V} (h : ex_go xt cx cc ret I Q n pc lv r cs) : ex_go xt cx cc ret I Q n pc lv ((none : Option Value).toList ++ r) cs := h
theorem sp_in {maxL fuel : Nat} {av : ex_V} (h1 : av.all (fun w => w.category == 1) = true) (h2 : av.length ≤ maxL) (hl : ex_l0 av maxL = lv) (h : ex_wp ec_xt cx cc ret (fun _ => none) Q fuel 0 lv [] cs) : ex_sp cx cc maxL ret fuel av cs Q := by
  subst hl
  exact ⟨h1, h2, h⟩
end WQ
