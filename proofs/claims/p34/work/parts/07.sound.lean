section EXM
variable {p : Program} {l : Launch} {e : Env} {R : Room} {s : State} {m : MethodId} {args : Array Value} {below : List Frame} {meth : Method} {c : Code}
variable {D : va_G} {ad ca : Nat → Nat} {n0 nL fr lo : Nat} {A : Nat → Prop} {cc : ByteArray} {ret : Option FieldType} {Q : ex_Q} {Qw : State → Prop} {kc ks : Nat} {xt : ex_xt}
theorem ex_split {st : ex_V} {n : Nat} {v : Value} (h1 : n ≤ st.length) (hn : 1 ≤ n) (h2 : st[n - 1]? = some v) : st = (st.take (n - 1)).reverse.reverse ++ v :: st.drop n ∧ (st.take n).reverse = v :: (st.take (n - 1)).reverse := by
  obtain ⟨k, rfl⟩ : ∃ k, n = k + 1 := ⟨n - 1, by omega⟩
  rw [Nat.add_sub_cancel] at h2 ⊢
  have hk : k < st.length := by omega
  have hv : st[k] = v := by
    rw [List.getElem?_eq_getElem hk] at h2
    exact Option.some.inj h2
  refine ⟨?_, ?_⟩
  · rw [List.reverse_reverse]
    conv => lhs; rw [← List.take_append_drop k st]
    rw [List.drop_eq_getElem_cons hk, hv]
  · rw [← List.take_append_getElem hk, List.reverse_append, hv]
    rfl
set_option maxHeartbeats 4000000 in
theorem ex_i_sound {cx : ex_K} (C : ex_Cx xt p R s m args meth c D ad ca n0 nL fr lo A cc ret cx.1) (hok : ex_ok l fr lo cx) (hrc : kc ≤ R.cells ∧ ks ≤ R.slots) (hI : ∀ pc lv cs v, decode cc pc = .ok (.ireturn, 1) → ex_ret ret v → Q (some (.int v)) cs → ex_T p l e R s m args below meth c D ad ca n0 nL A kc ks Qw pc lv [.int v] cs) (hV : ∀ pc lv cs, decode cc pc = .ok (.return_, 1) → ret = none → Q none cs → ex_T p l e R s m args below meth c D ad ca n0 nL A kc ks Qw pc lv [] cs) {i : Instr} {len pc : Nat} {lv : ex_L} {st : ex_V} {cs : ex_C} {K : Nat → ex_L → ex_V → ex_C → Prop} (hd : decode cc pc = .ok (i, len)) (h : ex_i xt cx ret Q i len pc lv st cs K)
    (kk : ∀ pc' lv' st' cs', K pc' lv' st' cs' → ex_T p l e R s m args below meth c D ad ca n0 nL A kc ks Qw pc' lv' st' cs') : ex_T p l e R s m args below meth c D ad ca n0 nL A kc ks Qw pc lv st cs := by
  cases i with
  | iconst n => obtain ⟨rfl, h⟩ := h; exact ex_s_iconst C hd (kk _ _ _ _ h)
  | bipush n => obtain ⟨rfl, h⟩ := h; exact ex_s_bipush C hd (kk _ _ _ _ h)
  | sipush n => obtain ⟨rfl, h⟩ := h; exact ex_s_sipush C hd (kk _ _ _ _ h)
  | ldc_w ix => obtain ⟨rfl, h⟩ := h; obtain ⟨v, hv, h⟩ := ex_o.at h; exact ex_s_ldc_w C hd (hok.2.1 _ _ hv) (kk _ _ _ _ h)
  | ldc2_w ix => obtain ⟨rfl, h⟩ := h; obtain ⟨v, hv, h⟩ := ex_o.at h; exact ex_s_ldc2_w C hd (hok.2.2.2.2.2.2.2 _ _ hv) (kk _ _ _ _ h)
  | lconst n => obtain ⟨rfl, h⟩ := h; exact ex_s_lconst C hd (kk _ _ _ _ h)
  | ldc ix => obtain ⟨rfl, h⟩ := h; obtain ⟨v, hv, h⟩ := ex_o.at h; exact ex_s_ldc C hd (hok.2.1 _ _ hv) (kk _ _ _ _ h)
  | iload_n k => obtain ⟨rfl, h⟩ := h; obtain ⟨x, hv, h⟩ := ex_gi.at h; exact ex_s_iload_n C hd hv (kk _ _ _ _ h)
  | iload k => obtain ⟨rfl, h⟩ := h; obtain ⟨x, hv, h⟩ := ex_gi.at h; exact ex_s_iload C hd hv (kk _ _ _ _ h)
  | lload_n k => obtain ⟨rfl, h⟩ := h; obtain ⟨x, hv, h⟩ := ex_gl.at h; exact ex_s_lload_n C hd hv (kk _ _ _ _ h)
  | lload k => obtain ⟨rfl, h⟩ := h; obtain ⟨x, hv, h⟩ := ex_gl.at h; exact ex_s_lload C hd hv (kk _ _ _ _ h)
  | aload_n k => obtain ⟨rfl, h⟩ := h; obtain ⟨x, hv, h⟩ := ex_gr.at h; exact ex_s_aload_n C hd hv (kk _ _ _ _ h)
  | aload k => obtain ⟨rfl, h⟩ := h; obtain ⟨x, hv, h⟩ := ex_gr.at h; exact ex_s_aload C hd hv (kk _ _ _ _ h)
  | istore_n k => obtain ⟨rfl, h⟩ := h; obtain ⟨x, r, rfl, hs, h⟩ := ex_i1.at h; exact ex_s_istore_n C hd hs (kk _ _ _ _ h)
  | istore k => obtain ⟨rfl, h⟩ := h; obtain ⟨x, r, rfl, hs, h⟩ := ex_i1.at h; exact ex_s_istore C hd hs (kk _ _ _ _ h)
  | astore_n k => obtain ⟨rfl, h⟩ := h; obtain ⟨x, r, rfl, hs, h⟩ := ex_r1.at h; exact ex_s_astore_n C hd hs (kk _ _ _ _ h)
  | astore k => obtain ⟨rfl, h⟩ := h; obtain ⟨x, r, rfl, hs, h⟩ := ex_r1.at h; exact ex_s_astore C hd hs (kk _ _ _ _ h)
  | lstore_n k => obtain ⟨rfl, h⟩ := h; obtain ⟨x, r, rfl, hs, hs2, h⟩ := ex_l1.at h; exact ex_s_lstore_n C hd hs hs2 (kk _ _ _ _ h)
  | lstore k => obtain ⟨rfl, h⟩ := h; obtain ⟨x, r, rfl, hs, hs2, h⟩ := ex_l1.at h; exact ex_s_lstore C hd hs hs2 (kk _ _ _ _ h)
  | iinc k n => obtain ⟨rfl, h⟩ := h; obtain ⟨x, hv, hs, h⟩ := ex_gi.at h; exact ex_s_iinc C hd hv hs (kk _ _ _ _ h)
  | iadd => obtain ⟨rfl, h⟩ := h; obtain ⟨x, y, r, rfl, h⟩ := ex_i2.at h; exact ex_s_iadd C hd (kk _ _ _ _ h)
  | isub => obtain ⟨rfl, h⟩ := h; obtain ⟨x, y, r, rfl, h⟩ := ex_i2.at h; exact ex_s_isub C hd (kk _ _ _ _ h)
  | imul => obtain ⟨rfl, h⟩ := h; obtain ⟨x, y, r, rfl, h⟩ := ex_i2.at h; exact ex_s_imul C hd (kk _ _ _ _ h)
  | iand => obtain ⟨rfl, h⟩ := h; obtain ⟨x, y, r, rfl, h⟩ := ex_i2.at h; exact ex_s_iand C hd (kk _ _ _ _ h)
  | ior => obtain ⟨rfl, h⟩ := h; obtain ⟨x, y, r, rfl, h⟩ := ex_i2.at h; exact ex_s_ior C hd (kk _ _ _ _ h)
  | ixor => obtain ⟨rfl, h⟩ := h; obtain ⟨x, y, r, rfl, h⟩ := ex_i2.at h; exact ex_s_ixor C hd (kk _ _ _ _ h)
  | ishl => obtain ⟨rfl, h⟩ := h; obtain ⟨x, y, r, rfl, h⟩ := ex_i2.at h; exact ex_s_ishl C hd (kk _ _ _ _ h)
  | ishr => obtain ⟨rfl, h⟩ := h; obtain ⟨x, y, r, rfl, h⟩ := ex_i2.at h; exact ex_s_ishr C hd (kk _ _ _ _ h)
  | iushr => obtain ⟨rfl, h⟩ := h; obtain ⟨x, y, r, rfl, h⟩ := ex_i2.at h; exact ex_s_iushr C hd (kk _ _ _ _ h)
  | idiv => obtain ⟨rfl, h⟩ := h; obtain ⟨x, y, r, rfl, hy, h⟩ := ex_i2.at h; exact ex_s_idiv C hy hd (kk _ _ _ _ h)
  | irem => obtain ⟨rfl, h⟩ := h; obtain ⟨x, y, r, rfl, hy, h⟩ := ex_i2.at h; exact ex_s_irem C hy hd (kk _ _ _ _ h)
  | ineg => obtain ⟨rfl, h⟩ := h; obtain ⟨x, r, rfl, h⟩ := ex_i1.at h; exact ex_s_ineg C hd (kk _ _ _ _ h)
  | i2l => obtain ⟨rfl, h⟩ := h; obtain ⟨x, r, rfl, h⟩ := ex_i1.at h; exact ex_s_i2l C hd (kk _ _ _ _ h)
  | l2i => obtain ⟨rfl, h⟩ := h; obtain ⟨x, r, rfl, h⟩ := ex_l1.at h; exact ex_s_l2i C hd (kk _ _ _ _ h)
  | ladd => obtain ⟨rfl, h⟩ := h; obtain ⟨x, y, r, rfl, h⟩ := ex_l2.at h; exact ex_s_ladd C hd (kk _ _ _ _ h)
  | lsub => obtain ⟨rfl, h⟩ := h; obtain ⟨x, y, r, rfl, h⟩ := ex_l2.at h; exact ex_s_lsub C hd (kk _ _ _ _ h)
  | lmul => obtain ⟨rfl, h⟩ := h; obtain ⟨x, y, r, rfl, h⟩ := ex_l2.at h; exact ex_s_lmul C hd (kk _ _ _ _ h)
  | ldiv => obtain ⟨rfl, h⟩ := h; obtain ⟨x, y, r, rfl, hy, h⟩ := ex_l2.at h; exact ex_s_ldiv C hy hd (kk _ _ _ _ h)
  | dup => obtain ⟨rfl, h⟩ := h; obtain ⟨v, r, rfl, h1, h⟩ := ex_v1.at h; exact ex_s_dup C h1 hd (kk _ _ _ _ h)
  | pop => obtain ⟨rfl, h⟩ := h; obtain ⟨v, r, rfl, h1, h⟩ := ex_v1.at h; exact ex_s_pop C h1 hd (kk _ _ _ _ h)
  | dup_x1 => obtain ⟨rfl, h⟩ := h; obtain ⟨v, w, r, rfl, h1, h2, h⟩ := ex_v2.at h; exact ex_s_dup_x1 C h1 h2 hd (kk _ _ _ _ h)
  | dup2 => obtain ⟨rfl, h⟩ := h; obtain ⟨v, w, r, rfl, h1, h2, h⟩ := ex_v2.at h; exact ex_s_dup2 C h1 h2 hd (kk _ _ _ _ h)
  | ifCond cnd off =>
    cases cnd with
    | eq => obtain ⟨rfl, h⟩ := h; obtain ⟨x, r, rfl, h3⟩ := ex_i1.at h; obtain ⟨t, ht, h1, h2⟩ := ex_to.at h3; exact ex_s_if_eq C hd ht (fun q => kk _ _ _ _ (h1 q)) (fun q => kk _ _ _ _ (h2 q))
    | ne => obtain ⟨rfl, h⟩ := h; obtain ⟨x, r, rfl, h3⟩ := ex_i1.at h; obtain ⟨t, ht, h1, h2⟩ := ex_to.at h3; exact ex_s_if_ne C hd ht (fun q => kk _ _ _ _ (h1 q)) (fun q => kk _ _ _ _ (h2 q))
    | lt => obtain ⟨rfl, h⟩ := h; obtain ⟨x, r, rfl, h3⟩ := ex_i1.at h; obtain ⟨t, ht, h1, h2⟩ := ex_to.at h3; exact ex_s_if_lt C hd ht (fun q => kk _ _ _ _ (h1 q)) (fun q => kk _ _ _ _ (h2 q))
    | ge => obtain ⟨rfl, h⟩ := h; obtain ⟨x, r, rfl, h3⟩ := ex_i1.at h; obtain ⟨t, ht, h1, h2⟩ := ex_to.at h3; exact ex_s_if_ge C hd ht (fun q => kk _ _ _ _ (h1 q)) (fun q => kk _ _ _ _ (h2 q))
    | gt => obtain ⟨rfl, h⟩ := h; obtain ⟨x, r, rfl, h3⟩ := ex_i1.at h; obtain ⟨t, ht, h1, h2⟩ := ex_to.at h3; exact ex_s_if_gt C hd ht (fun q => kk _ _ _ _ (h1 q)) (fun q => kk _ _ _ _ (h2 q))
    | le => obtain ⟨rfl, h⟩ := h; obtain ⟨x, r, rfl, h3⟩ := ex_i1.at h; obtain ⟨t, ht, h1, h2⟩ := ex_to.at h3; exact ex_s_if_le C hd ht (fun q => kk _ _ _ _ (h1 q)) (fun q => kk _ _ _ _ (h2 q))
  | if_icmp cnd off =>
    cases cnd with
    | eq => obtain ⟨rfl, h⟩ := h; obtain ⟨x, y, r, rfl, h3⟩ := ex_i2.at h; obtain ⟨t, ht, h1, h2⟩ := ex_to.at h3; exact ex_s_icmp_eq C hd ht (fun q => kk _ _ _ _ (h1 q)) (fun q => kk _ _ _ _ (h2 q))
    | ne => obtain ⟨rfl, h⟩ := h; obtain ⟨x, y, r, rfl, h3⟩ := ex_i2.at h; obtain ⟨t, ht, h1, h2⟩ := ex_to.at h3; exact ex_s_icmp_ne C hd ht (fun q => kk _ _ _ _ (h1 q)) (fun q => kk _ _ _ _ (h2 q))
    | lt => obtain ⟨rfl, h⟩ := h; obtain ⟨x, y, r, rfl, h3⟩ := ex_i2.at h; obtain ⟨t, ht, h1, h2⟩ := ex_to.at h3; exact ex_s_icmp_lt C hd ht (fun q => kk _ _ _ _ (h1 q)) (fun q => kk _ _ _ _ (h2 q))
    | ge => obtain ⟨rfl, h⟩ := h; obtain ⟨x, y, r, rfl, h3⟩ := ex_i2.at h; obtain ⟨t, ht, h1, h2⟩ := ex_to.at h3; exact ex_s_icmp_ge C hd ht (fun q => kk _ _ _ _ (h1 q)) (fun q => kk _ _ _ _ (h2 q))
    | gt => obtain ⟨rfl, h⟩ := h; obtain ⟨x, y, r, rfl, h3⟩ := ex_i2.at h; obtain ⟨t, ht, h1, h2⟩ := ex_to.at h3; exact ex_s_icmp_gt C hd ht (fun q => kk _ _ _ _ (h1 q)) (fun q => kk _ _ _ _ (h2 q))
    | le => obtain ⟨rfl, h⟩ := h; obtain ⟨x, y, r, rfl, h3⟩ := ex_i2.at h; obtain ⟨t, ht, h1, h2⟩ := ex_to.at h3; exact ex_s_icmp_le C hd ht (fun q => kk _ _ _ _ (h1 q)) (fun q => kk _ _ _ _ (h2 q))
  | goto off => obtain ⟨rfl, h⟩ := h; obtain ⟨t, ht, h⟩ := ex_to.at h; exact ex_s_goto C hd ht (kk _ _ _ _ h)
  | tableswitch dflt lo hi offs =>
    obtain ⟨hsz, h⟩ := h
    obtain ⟨x, r, rfl, h1, h2⟩ := ex_i1.at h
    by_cases hout : x.toInt < lo ∨ hi < x.toInt
    · obtain ⟨t, ht, h⟩ := ex_to.at (h1 hout)
      exact ex_s_tableOut C hd hout ht (kk _ _ _ _ h)
    · have ha : ¬ x.toInt < lo := fun q => hout (Or.inl q)
      have hb' : ¬ hi < x.toInt := fun q => hout (Or.inr q)
      have hlt : (x.toInt - lo).toNat < offs.size := by omega
      have ho : offs[(x.toInt - lo).toNat]? = some offs[(x.toInt - lo).toNat] := Array.getElem?_eq_getElem hlt
      have hx : x = Int32.ofInt (lo + ((x.toInt - lo).toNat : Int)) := by
        rw [show lo + ((x.toInt - lo).toNat : Int) = x.toInt by omega]
        exact (Int32.ofInt_toInt x).symm
      obtain ⟨t, ht, h⟩ := ex_to.at (ex_tb_at (j := (x.toInt - lo).toNat) h2 (by rw [Array.getElem?_toList]; exact ho) hx)
      exact ex_s_tableIn C hd ha hb' ho ht (kk _ _ _ _ h)
  | lookupswitch dflt ps =>
    obtain ⟨hp, hq, h⟩ := h
    obtain ⟨x, r, rfl, h1, h2⟩ := ex_i1.at h
    have hq' : ∀ q ∈ ps.toList, -2147483648 ≤ q.1 ∧ q.1 < 2147483648 := fun q hm => by
      have := List.all_eq_true.mp hq q hm
      simpa using this
    obtain ⟨t, ht, h⟩ := ex_to.at (ex_lk_at h1 h2 hq')
    exact ex_s_lookup C hd hp rfl ht (kk _ _ _ _ h)
  | getfield ix =>
    obtain ⟨rfl, h⟩ := h
    obtain ⟨a, r, rfl, h⟩ := ex_r1.at h
    obtain ⟨⟨ci, k, b, ty⟩, hq, h⟩ := ex_o.at h
    obtain ⟨fs, ho, h⟩ := ex_ob.at h
    obtain ⟨v, hv, h⟩ := ex_o.at h
    obtain ⟨Cn, T, N, g1, g2, g3, -, -⟩ := hok.1 _ _ _ _ _ hq
    exact ex_s_getfield C hd ho hv ⟨Cn, T, N, g1, g2, g3⟩ (kk _ _ _ _ h)
  | putfield ix =>
    obtain ⟨rfl, h⟩ := h
    obtain ⟨v, a, r, rfl, h⟩ := ex_vr.at h
    obtain ⟨⟨ci, k, b, ty⟩, hq, h⟩ := ex_o.at h
    obtain ⟨fs, ho, hl, hb2, hf, h⟩ := ex_ob.at h
    obtain ⟨Cn, T, N, g1, g2, g3, g4, g5⟩ := hok.1 _ _ _ _ _ hq
    exact ex_s_putfield C hd ho hl hf ⟨Cn, T, N, g1, g2, g3, g4, g5 hb2⟩ (kk _ _ _ _ h)
  | getstatic ix =>
    obtain ⟨rfl, h⟩ := h
    obtain ⟨j, hj, h⟩ := ex_o.at h
    exact ex_s_getstatic C hd (hok.2.2.1 _ _ hj) (kk _ _ _ _ h)
  | iaload =>
    obtain ⟨rfl, h⟩ := h
    obtain ⟨i, a, r, rfl, h3⟩ := ex_ir.at h
    unfold ex_ax at h3
    split at h3
    · rename_i ha
      generalize hq : xt[a - 1000]? = oq at h3
      cases oq with
      | none => exact False.elim h3
      | some q => exact ex_s_ialoadX C hd ha hq h3.1 (kk _ _ _ _ h3.2)
    · obtain ⟨n, f, ho, hi, h4⟩ := ex_ar.at h3
      exact ex_s_iaload C hd ho hi (kk _ _ _ _ h4)
  | baload => obtain ⟨rfl, h⟩ := h; obtain ⟨i, a, r, rfl, h⟩ := ex_ir.at h; obtain ⟨n, f, ho, hi, h⟩ := ex_ar.at h; exact ex_s_baload C hd ho hi (kk _ _ _ _ h)
  | iastore => obtain ⟨rfl, h⟩ := h; obtain ⟨x, i, a, r, rfl, h⟩ := ex_iir.at h; obtain ⟨n, f, ho, hi, h⟩ := ex_ar.at h; exact ex_s_iastore C hd ho hi (kk _ _ _ _ h)
  | bastore => obtain ⟨rfl, h⟩ := h; obtain ⟨x, i, a, r, rfl, h⟩ := ex_iir.at h; obtain ⟨n, f, ho, hi, h01, h⟩ := ex_ar.at h; exact ex_s_bastore C hd ho hi h01 (kk _ _ _ _ h)
  | arraylength =>
    obtain ⟨rfl, h⟩ := h
    obtain ⟨a, r, rfl, h3⟩ := ex_r1.at h
    split at h3
    · rename_i t n f ho
      exact ex_s_arraylength C hd ho h3.1 (kk _ _ _ _ h3.2)
    · exact h3.elim
  | invokevirtual ix =>
    obtain ⟨rfl, h⟩ := h
    obtain ⟨⟨n, rc, sp⟩, hq, hn, hsum, h⟩ := ex_o.at h
    obtain ⟨ci, rfl, h⟩ := ex_o.at h
    obtain ⟨v, hv, h⟩ := ex_o.at h
    split at h
    · rename_i a
      obtain ⟨fs, ho, h⟩ := ex_ob.at h
      have hcok := hok.2.2.2.1 _ _ _ _ hq
      have hn1 : 1 ≤ n := by
        obtain ⟨y, bytes, maxL, ret', fr', lo', -, -, -, -, -, -, -, -, -, -, h1, -⟩ := hcok
        exact h1
      obtain ⟨e1, e2⟩ := ex_split hn hn1 hv
      have h' : sp (.ref a :: (st.take (n - 1)).reverse) cs (fun r cs' => K (pc + 3) lv (r.toList ++ st.drop n) cs') := by
        rw [← e2]; exact h
      have goal := ex_s_virtual (e := e) (below := below) (Qw := Qw) (lv := lv) C hd hrc hcok ho (by rw [List.length_reverse, List.length_take]; omega) hsum h' (fun rv cs' q => kk _ _ _ _ q)
      rw [← e1] at goal
      exact goal
    · exact h.elim
  | invokestatic ix =>
    obtain ⟨rfl, h⟩ := h
    split at h
    · rename_i hcp
      obtain ⟨n, dp, a, sp, a0, r, m0, f, m1, g, rfl, g1, g2, g3, g4, g5, g6, g7, g8, h9⟩ := ex_cp.at h
      exact ex_s_copy C hd (hok.2.2.2.2.2.2.1 ix hcp) g1 g2 g3 g4 g5 g6 g7 g8 (kk _ _ _ _ h9)
    · rename_i hcp
      obtain ⟨x, y, r, rfl, g1, h9⟩ := ex_i2.at h
      exact ex_s_min C hd hrc (hok.2.2.2.2.1 ix hcp) g1 (kk _ _ _ _ h9)
    · rename_i hcp
      obtain ⟨x, y, r, rfl, g1, h9⟩ := ex_i2.at h
      exact ex_s_max C hd hrc (hok.2.2.2.2.2.1 ix hcp) g1 (kk _ _ _ _ h9)
    obtain ⟨⟨n, rc, sp⟩, hq, hn, hsum, hrc', h⟩ := ex_o.at h
    dsimp only at hrc' hn hsum h
    subst hrc'
    have hcok := hok.2.2.2.1 _ _ _ _ hq
    have goal := ex_s_static (e := e) (below := below) (Qw := Qw) (lv := lv) C hd hrc hcok (by rw [List.length_reverse, List.length_take]; omega) hsum h (fun rv cs' q => kk _ _ _ _ q)
    rw [List.reverse_reverse, List.take_append_drop] at goal
    exact goal
  | ireturn =>
    obtain ⟨rfl, h⟩ := h
    split at h
    · exact hI _ _ _ _ hd h.1 h.2
    · exact h.elim
  | return_ =>
    obtain ⟨rfl, h1, rfl, h⟩ := h
    exact hV _ _ _ hd h1 h
  | _ => exact False.elim h
theorem ex_wp_sound {cx : ex_K} {I : Nat → Option (ex_L → ex_V → ex_C → Prop)} (C : ex_Cx xt p R s m args meth c D ad ca n0 nL fr lo A cc ret cx.1) (hok : ex_ok l fr lo cx) (hrc : kc ≤ R.cells ∧ ks ≤ R.slots) (hI : ∀ pc lv cs v, decode cc pc = .ok (.ireturn, 1) → ex_ret ret v → Q (some (.int v)) cs → ex_T p l e R s m args below meth c D ad ca n0 nL A kc ks Qw pc lv [.int v] cs) (hV : ∀ pc lv cs, decode cc pc = .ok (.return_, 1) → ret = none → Q none cs → ex_T p l e R s m args below meth c D ad ca n0 nL A kc ks Qw pc lv [] cs)
    (hJ : ∀ pc J lv st cs, I pc = some J → J lv st cs → ex_T p l e R s m args below meth c D ad ca n0 nL A kc ks Qw pc lv st cs) : ∀ n pc lv st cs, ex_wp xt cx cc ret I Q n pc lv st cs → ex_T p l e R s m args below meth c D ad ca n0 nL A kc ks Qw pc lv st cs := by
  intro n
  induction n with
  | zero => intro pc lv st cs h; exact False.elim h
  | succ n ih =>
    intro pc lv st cs h
    unfold ex_wp at h
    split at h
    · rename_i i len hd
      refine ex_i_sound C hok hrc hI hV hd h (fun pc' lv' st' cs' hk => ?_)
      split at hk
      · rename_i J hJ'
        exact hJ _ _ _ _ _ hJ' hk
      · exact ih _ _ _ _ hk
    · exact False.elim h
/-- loops: a measure falls from cut to cut -/
theorem ex_loop {cx : ex_K} {I : Nat → Option (Nat → ex_L → ex_V → ex_C → Prop)} {fuel : Nat} (C : ex_Cx xt p R s m args meth c D ad ca n0 nL fr lo A cc ret cx.1) (hok : ex_ok l fr lo cx) (hrc : kc ≤ R.cells ∧ ks ≤ R.slots) (hI : ∀ pc lv cs v, decode cc pc = .ok (.ireturn, 1) → ex_ret ret v → Q (some (.int v)) cs → ex_T p l e R s m args below meth c D ad ca n0 nL A kc ks Qw pc lv [.int v] cs) (hV : ∀ pc lv cs, decode cc pc = .ok (.return_, 1) → ret = none → Q none cs → ex_T p l e R s m args below meth c D ad ca n0 nL A kc ks Qw pc lv [] cs)
    (hcut : ∀ pc J n lv st cs, I pc = some J → J n lv st cs → ex_wp xt cx cc ret (fun pc' => (I pc').map (fun J' lv st cs => ∃ n', n' < n ∧ J' n' lv st cs)) Q fuel pc lv st cs) :
    ∀ n pc J lv st cs, I pc = some J → J n lv st cs → ex_T p l e R s m args below meth c D ad ca n0 nL A kc ks Qw pc lv st cs := by
  intro n
  induction n using Nat.strongRecOn with
  | ind n ih =>
    intro pc J lv st cs hJ h
    refine ex_wp_sound C hok hrc hI hV (fun pc' J' lv' st' cs' hJ' h' => ?_) _ _ _ _ _ (hcut pc J n lv st cs hJ h)
    cases hIp : I pc' with
    | none => rw [hIp] at hJ'; cases hJ'
    | some J0 =>
      rw [hIp] at hJ'
      cases hJ'
      obtain ⟨n', hlt, h2⟩ := h'
      exact ih n' hlt pc' J0 lv' st' cs' hIp h2
end EXM
/-- the locals at the entry -/
def ex_l0 (av : ex_V) (maxL : Nat) : ex_L := av.map some ++ List.replicate (maxL - av.length) none
theorem ex_args_mem : ∀ (av : List Value) (k i : Nat) (v : Value), (∀ w ∈ av, w.category = 1) → av[i]? = some v → (k + i, v) ∈ lv_args k av
  | [], _, _, _, _, h => by simp at h
  | w :: r, k, 0, v, _, h => by
    simp at h
    subst h
    exact List.mem_cons_self
  | w :: r, k, i + 1, v, hc, h => by
    unfold lv_args
    rw [if_neg (by rw [hc w List.mem_cons_self]; decide)]
    refine List.mem_cons_of_mem _ ?_
    have := ex_args_mem r (k + 1) i v (fun q hq => hc q (List.mem_cons_of_mem _ hq)) (by simpa using h)
    rw [show k + (i + 1) = k + 1 + i by omega]
    exact this
theorem ex_sl_len : ∀ (av : List Value), (∀ w ∈ av, w.category = 1) → (lg_sl av).length = av.length
  | [], _ => rfl
  | w :: r, hc => by
    have h1 := hc w List.mem_cons_self
    have ih := ex_sl_len r (fun q hq => hc q (List.mem_cons_of_mem _ hq))
    show ((if w.category = 2 then [Slot.val w, Slot.second] else [Slot.val w]) ++ lg_sl r).length = r.length + 1
    rw [if_neg (by rw [h1]; decide), List.length_append, ih]
    show 1 + r.length = r.length + 1
    omega
/-- a method's contract out of its walk -/
theorem ex_met {l : Launch} {y : MethodName} {cc : ByteArray} {maxL : Nat} {ret : Option FieldType} {fr lo : Nat} {sp : ex_S} (hy : plainName y.cls = true)
    (h : ∀ av cs Q, sp av cs Q → (∀ w ∈ av, w.category = 1) ∧ av.length ≤ maxL ∧ ∀ (p : Program) (e : Env) (R : Room) (s : State) (m : MethodId) (args : Array Value) (below : List Frame) (meth : Method) (c : Code) (D : va_G) (ad ca : Nat → Nat) (n0 : Nat) (A : Nat → Prop),
      ex_Cx ec_xt p R s m args meth c D ad ca n0 maxL fr lo A cc ret y.cls → ex_T p l e R s m args below meth c D ad ca n0 maxL A 0 0 (MQ below (ex_Qc D ad ca Q n0 A) args s 0 0 A) 0 (ex_l0 av maxL) [] cs) : ex_Met l y cc maxL ret fr lo sp := by
  intro D ad ca n sz av cs Q hsp
  obtain ⟨hcat, hlen, hT⟩ := h av cs Q hsp
  refine Met.ofW (cc := cc) (maxL := maxL) (ret := ret) hy rfl ?_
  intro p e s m args below meth c s₁ B hml hv
  obtain ⟨rfl, hsz, hn, hP, hD, hK, hX, hZ, hNw0⟩ := hv
  subst hsz
  have hts0 := atoms_spec (ws := .code y cc maxL ret :: ec_tb) B.pre
  have hcx : ex_Cx ec_xt p (headSpec (.code y cc maxL ret :: ec_tb) (ex_rm fr lo)).room s m ((av.map (ex_v ad)).toArray) meth c D ad ca n maxL fr lo (ex_A ad n s.heap.size) cc ret y.cls :=
    ⟨B.exec, B.bytes, hml, findClass_of_methodNamed B.named, fun w hw => hts0 w (List.mem_cons_of_mem _ hw), B.returns, B.notSynchronized, hD, hK, hX, hZ, fun _ h => h, Nat.le_refl _, Nat.le_refl _, fun _ _ h => h, hNw0⟩
  have hcat' : ∀ w ∈ av.map (ex_v ad), w.category = 1 := by
    intro w hw
    obtain ⟨v, hv, rfl⟩ := List.mem_map.mp hw
    rw [ex_v_cat]
    exact hcat v hv
  have hsl := ex_sl_len _ hcat'
  rw [List.length_map] at hsl
  have hl := lv_entry (av.map (ex_v ad)) (n := maxL) (by rw [hsl]; exact hlen)
  rw [lg_entry_eq]
  refine hT p e _ s m _ below meth c D ad ca n _ hcx _ s.heap [] ⟨hn, ⟨hl.1, hl.2.1, ?_, ?_⟩, hP, va_S.rf⟩
  · unfold ex_l0
    rw [List.length_append, List.length_map, List.length_replicate]
    omega
  · intro i v hi
    unfold ex_l0 at hi
    by_cases hia : i < av.length
    · rw [List.getElem?_append_left (by rw [List.length_map]; exact hia), List.getElem?_map] at hi
      cases hav : av[i]? with
      | none => rw [hav] at hi; cases hi
      | some w =>
        rw [hav] at hi
        have hw : w = v := Option.some.inj (Option.some.inj hi)
        subst hw
        have := ex_args_mem (av.map (ex_v ad)) 0 i (ex_v ad w) hcat' (by rw [List.getElem?_map, hav]; rfl)
        rw [Nat.zero_add] at this
        exact hl.2.2 (i, ex_v ad w) this
    · rw [List.getElem?_append_right (by rw [List.length_map]; omega), List.getElem?_replicate] at hi
      split at hi <;> cases hi
