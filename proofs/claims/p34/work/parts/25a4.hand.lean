theorem vp_mk {i : Int32} {n : Nat} (h1 : 0 ≤ i.toInt) (h2 : i.toInt < (n : Int)) : vp_in i n := by
  intro h
  rcases h with h | h
  · rw [Int32.lt_iff_toInt_lt] at h
    have h0 : (0 : Int32).toInt = 0 := by decide
    omega
  · have e : i.toNatClampNeg = i.toInt.toNat := rfl
    omega
theorem ab_inc {x : Int32} (h1 : -1000 ≤ x.toInt) (h2 : x.toInt ≤ 1000) : (x + Int32.ofInt 1).toInt = x.toInt + 1 := by
  rw [Int32.toInt_add]
  have : (Int32.ofInt 1).toInt = 1 := by decide
  rw [this, ab_bm (by omega) (by omega)]
theorem ab_z0 : (0 : Int32).toInt = 0 := by decide
theorem ab_z1 : (1 : Int32).toInt = 1 := by decide
theorem ab_zm : (-1 : Int32).toInt = -1 := by decide
theorem ab_sub0 {x y : Int32} (h : ¬ x.toInt = y.toInt) : ¬ x - y = 0 := by
  intro e
  apply h
  have h2 := congrArg Int32.toInt e
  rw [Int32.toInt_sub, ab_z0, Int.bmod_def] at h2
  have := ab_ge x
  have := ab_lt' x
  have := ab_ge y
  have := ab_lt' y
  have e32 : ((2 ^ 32 : Nat) : Int) = 4294967296 := by decide
  rw [e32] at h2
  omega
theorem hx_tb (x : Int32) : -2147483648 ≤ x.toInt ∧ x.toInt ≤ 2147483647 := ⟨ab_ge x, ab_lt' x⟩
theorem hx_oi (x : Int32) : Int32.ofInt x.toInt = x := Int32.ofInt_toInt x
theorem hx_oo {lv : ex_L} {cs : ex_C} {n : Nat} (h : n < 100000000) : ab_oo lv cs (900000000 + n) = ab_gh n (fun k => (ab_li lv k).getD 0) cs := by
  rw [ab_oob' (by omega)]
  unfold ab_ob
  rw [if_neg (by omega), if_neg (by omega), Nat.add_sub_cancel_left]
theorem hx_gg {lv : ex_L} {cs : ex_C} {n : Nat} (h : n < 100000000) : ab_oo lv cs (900000000 + n) = hG n ((ab_li lv 1).getD 0) ((ab_li lv 2).getD 0) ((ab_li lv 3).getD 0) (gi cs 7) (gi cs 10) (gi cs 11) (gi cs 64) (gi cs 65) (gi cs 76) (gi cs 80) (gi cs 81) := by
  rw [hx_oo h]
  rfl
theorem hx_op {lv : ex_L} {cs : ex_C} {i : Nat} {x : Int32} (hi : i < 1000) (h : lv[i]? = some (some (.int x))) : ab_oo lv cs i = x.toInt := by
  rw [ab_oob' (by omega)]
  unfold ab_ob ab_li
  rw [if_pos hi, h]
  rfl
theorem hx_call {hd : List ab_H} {l : List ab_C} {c : ab_C} {av : ex_V} {cs : ex_C} {Q : ex_Q} (i : Nat) (hl : l[i]? = some c) (hp : ab_pre c av cs) (hk : ab_hk hd cs) (h : ∀ r cs', ab_post hd c av cs r cs' → Q r cs') : ab_sp hd l av cs Q := ⟨c, List.mem_of_getElem? hl, hp, hk, h⟩
theorem hx_ci {x : Int32} {lo hi : Int} (h : lo ≤ x.toInt ∧ x.toInt ≤ hi) : ab_ct (.inr (lo, hi)) (.int x) := ⟨x, rfl, h⟩
theorem hx_cr {k : Nat} : ab_ct (.inl k) (.ref k) := rfl
theorem hx_pr1 {t0 : ab_T} {v0 : Value} {W : ab_W} {k : List ab_Cs} {cs : ex_C} (h0 : ab_ct t0 v0) : ab_pre ([t0], [], W, k) [v0] cs := by
  refine ⟨rfl, fun i t h => ?_, fun q hq => (by cases hq)⟩
  match i, h with
  | 0, h => cases h; exact ⟨_, rfl, h0⟩
  | i + 1, h => simp at h
theorem hx_av1 {av : ex_V} {a : Value} (hl : av.length = 1) (e0 : av[0]? = some a) : av = [a] := by
  match av, hl, e0 with
  | [_], _, e0 =>
    simp at e0
    subst e0
    rfl
theorem hx_pr2 {t0 t1 : ab_T} {v0 v1 : Value} {W : ab_W} {k : List ab_Cs} {cs : ex_C} (h0 : ab_ct t0 v0) (h1 : ab_ct t1 v1) : ab_pre ([t0, t1], [], W, k) [v0, v1] cs := by
  refine ⟨rfl, fun i t h => ?_, fun q hq => (by cases hq)⟩
  match i, h with
  | 0, h => cases h; exact ⟨_, rfl, h0⟩
  | 1, h => cases h; exact ⟨_, rfl, h1⟩
  | i + 2, h => simp at h
theorem hx_av2 {av : ex_V} {a b : Value} (hl : av.length = 2) (e0 : av[0]? = some a) (e1 : av[1]? = some b) : av = [a, b] := by
  match av, hl, e0, e1 with
  | [_, _], _, e0, e1 =>
    simp at e0 e1
    subst e0 e1
    rfl
theorem hx_pr3 {t0 t1 t2 : ab_T} {v0 v1 v2 : Value} {W : ab_W} {k : List ab_Cs} {cs : ex_C} (h0 : ab_ct t0 v0) (h1 : ab_ct t1 v1) (h2 : ab_ct t2 v2) : ab_pre ([t0, t1, t2], [], W, k) [v0, v1, v2] cs := by
  refine ⟨rfl, fun i t h => ?_, fun q hq => (by cases hq)⟩
  match i, h with
  | 0, h => cases h; exact ⟨_, rfl, h0⟩
  | 1, h => cases h; exact ⟨_, rfl, h1⟩
  | 2, h => cases h; exact ⟨_, rfl, h2⟩
  | i + 3, h => simp at h
theorem hx_av3 {av : ex_V} {a b c : Value} (hl : av.length = 3) (e0 : av[0]? = some a) (e1 : av[1]? = some b) (e2 : av[2]? = some c) : av = [a, b, c] := by
  match av, hl, e0, e1, e2 with
  | [_, _, _], _, e0, e1, e2 =>
    simp at e0 e1 e2
    subst e0 e1 e2
    rfl
theorem hx_pr4 {t0 t1 t2 t3 : ab_T} {v0 v1 v2 v3 : Value} {W : ab_W} {k : List ab_Cs} {cs : ex_C} (h0 : ab_ct t0 v0) (h1 : ab_ct t1 v1) (h2 : ab_ct t2 v2) (h3 : ab_ct t3 v3) : ab_pre ([t0, t1, t2, t3], [], W, k) [v0, v1, v2, v3] cs := by
  refine ⟨rfl, fun i t h => ?_, fun q hq => (by cases hq)⟩
  match i, h with
  | 0, h => cases h; exact ⟨_, rfl, h0⟩
  | 1, h => cases h; exact ⟨_, rfl, h1⟩
  | 2, h => cases h; exact ⟨_, rfl, h2⟩
  | 3, h => cases h; exact ⟨_, rfl, h3⟩
  | i + 4, h => simp at h
theorem hx_av4 {av : ex_V} {a b c d : Value} (hl : av.length = 4) (e0 : av[0]? = some a) (e1 : av[1]? = some b) (e2 : av[2]? = some c) (e3 : av[3]? = some d) : av = [a, b, c, d] := by
  match av, hl, e0, e1, e2, e3 with
  | [_, _, _, _], _, e0, e1, e2, e3 =>
    simp at e0 e1 e2 e3
    subst e0 e1 e2 e3
    rfl
theorem hx_pr5 {t0 t1 t2 t3 t4 : ab_T} {v0 v1 v2 v3 v4 : Value} {W : ab_W} {k : List ab_Cs} {cs : ex_C} (h0 : ab_ct t0 v0) (h1 : ab_ct t1 v1) (h2 : ab_ct t2 v2) (h3 : ab_ct t3 v3) (h4 : ab_ct t4 v4) : ab_pre ([t0, t1, t2, t3, t4], [], W, k) [v0, v1, v2, v3, v4] cs := by
  refine ⟨rfl, fun i t h => ?_, fun q hq => (by cases hq)⟩
  match i, h with
  | 0, h => cases h; exact ⟨_, rfl, h0⟩
  | 1, h => cases h; exact ⟨_, rfl, h1⟩
  | 2, h => cases h; exact ⟨_, rfl, h2⟩
  | 3, h => cases h; exact ⟨_, rfl, h3⟩
  | 4, h => cases h; exact ⟨_, rfl, h4⟩
  | i + 5, h => simp at h
theorem hx_av5 {av : ex_V} {a b c d e : Value} (hl : av.length = 5) (e0 : av[0]? = some a) (e1 : av[1]? = some b) (e2 : av[2]? = some c) (e3 : av[3]? = some d) (e4 : av[4]? = some e) : av = [a, b, c, d, e] := by
  match av, hl, e0, e1, e2, e3, e4 with
  | [_, _, _, _, _], _, e0, e1, e2, e3, e4 =>
    simp at e0 e1 e2 e3 e4
    subst e0 e1 e2 e3 e4
    rfl
theorem hx_pin {hd : List ab_H} {c : ab_C} {z : Int} {av : ex_V} {cs cs' : ex_C} {r : Option Value} (hc : c.2.2.2.all (fun k => match k.1 with | some q => decide (q.1 = z ∧ q.2.1 = z) | none => false) = true) (h : ab_post hd c av cs r cs') : ab_hk hd cs' ∧ ab_fr c.2.2.1 cs cs' ∧ ∃ x : Int32, r = some (.int x) ∧ x.toInt = z := by
  obtain ⟨h1, h2, k, hk, hr, -, -⟩ := h
  refine ⟨h1, h2, ?_⟩
  have h3 := List.all_eq_true.mp hc k hk
  unfold ab_rt at hr
  split at hr
  · rename_i e
    rw [e] at h3
    cases h3
  · rename_i q e
    rw [e] at h3
    have h4 := of_decide_eq_true h3
    obtain ⟨x, hx, hb, -⟩ := hr
    exact ⟨x, hx, by omega⟩
theorem hx_fr {W : ab_W} {cs cs' : ex_C} (h : ab_fr [] cs cs') : ab_fr W cs cs' := fun k j _ => h k j rfl
theorem gi_fr {W : ab_W} {cs cs' : ex_C} {k : Nat} (h : ab_fr W cs cs') (hW : ∀ j, ab_cov W k j = false) : gi cs' k = gi cs k := gi_c (fun j => h k j (hW j))
theorem gi_f1 {W : ab_W} {cs cs' : ex_C} {k j : Nat} (h : ab_fr W cs cs') (hW : ab_cov W k j = false) : gi cs' k j = gi cs k j := by
  unfold gi
  rw [h k j hW]
theorem hu_void {hd : List ab_H} {ts : List ab_T} {pf : ab_F} {W : ab_W} {fs : ab_F} {av : ex_V} {cs cs' : ex_C} {r : Option Value} (h : ab_post hd (ts, pf, W, [(none, [], fs)]) av cs r cs') : ab_hk hd cs' ∧ ab_fr W cs cs' ∧ r = none ∧ ab_cf (ab_oo (av.map some) cs) [] cs' fs := by
  obtain ⟨h1, h2, k, hk, hr, -, hn⟩ := h
  rcases List.mem_singleton.mp hk with rfl
  exact ⟨h1, h2, hr, hn⟩
theorem hu_int {hd : List ab_H} {ts : List ab_T} {pf : ab_F} {W : ab_W} {lo hi : Int} {i : Nat} {fs : ab_F} {av : ex_V} {cs cs' : ex_C} {r : Option Value} (h : ab_post hd (ts, pf, W, [(some (lo, hi, some (i, 0)), [], fs)]) av cs r cs') : ab_hk hd cs' ∧ ab_fr W cs cs' ∧ ∃ x : Int32, r = some (.int x) ∧ x.toInt = ab_oo (av.map some) cs i ∧ ab_cf (ab_oo (av.map some) cs) [] cs' fs := by
  obtain ⟨h1, h2, k, hk, hr, -, hn⟩ := h
  rcases List.mem_singleton.mp hk with rfl
  obtain ⟨x, e, -, hd⟩ := hr
  have := hd _ rfl
  exact ⟨h1, h2, x, e, by dsimp only at this; omega, hn⟩
theorem hu_q {o : Nat → Int} {cs' : ex_C} {fs : ab_F} {k j n : Nat} {lo hi : Int} (h : ab_cf o [] cs' fs) (i : Nat) (hm : fs[i]? = some ((1, k, j), lo, hi, some (n, 0))) : (gi cs' k j).toInt = o n := by
  obtain ⟨x, hx, -, -, hd⟩ := h _ (List.mem_of_getElem? hm)
  have h1 : (gi cs' k j).toInt = x := gi_t hx
  have h2 : x = o n + (0 : Int) := hd _ rfl
  omega
theorem hu_ff {o : Nat → Int} {cs' : ex_C} {k j n : Nat} {x : Int32} (h : ab_ri cs' k j = some x.toInt) (e : x.toInt = o n) : ab_q1 o [] cs' ((1, k, j), -2147483648, 2147483647, some (n, 0)) := ⟨x.toInt, h, (hx_tb x).1, (hx_tb x).2, fun d hd => (by
  cases hd
  show _ = o n + (0 : Int)
  omega)⟩
theorem gi_ri {cs : ex_C} {k j : Nat} {x : Int32} (h : ab_rd cs k j = some (.int x)) : gi cs k j = x ∧ ab_ri cs k j = some x.toInt := by
  unfold gi ab_ri
  rw [h]
  exact ⟨rfl, rfl⟩
theorem hu_air {cs cs1 : ex_C} (hk : ab_hk ab_hd cs1) (e7 : gi cs1 7 = gi cs 7) (e10 : gi cs1 10 = gi cs 10) (e11 : gi cs1 11 = gi cs 11) : ∃ fs : List Value, cs1[7]? = some (.inr (0, fs)) ∧ fs[6]? = some (.int (gi cs 7 6)) ∧ fs[7]? = some (.int (gi cs 7 7)) ∧ fs[2]? = some (.ref 10) ∧ fs[3]? = some (.ref 11) ∧ cs1[10]? = some (.inl (0, 8, .inl (gi cs 10))) ∧ cs1[11]? = some (.inl (0, 8, .inl (gi cs 11))) ∧ (0 ≤ (gi cs 7 6).toInt ∧ (gi cs 7 6).toInt ≤ 6) ∧ (0 ≤ (gi cs 7 7).toInt ∧ (gi cs 7 7).toInt ≤ 8) ∧ (∀ j, j < 8 → 0 ≤ (gi cs 10 j).toInt ∧ (gi cs 10 j).toInt ≤ 5) ∧ (∀ j, j < 8 → 0 ≤ (gi cs 11 j).toInt ∧ (gi cs 11 j).toInt ≤ 5) := by
  obtain ⟨fs, h7, -, hj⟩ := hk.obj (a := 7) (ci := 0) rfl
  obtain ⟨v6, s6, m, rfl, m1, m2⟩ := hj 6 (.inr (0, 6)) rfl
  obtain ⟨v7, s7, h, rfl, h1, h2⟩ := hj 7 (.inr (0, 8)) rfl
  have s2 : fs[2]? = some (.ref 10) := by
    obtain ⟨v, hv, hc⟩ := hj 2 (.inl 10) rfl
    cases hc
    exact hv
  have s3 : fs[3]? = some (.ref 11) := by
    obtain ⟨v, hv, hc⟩ := hj 3 (.inl 11) rfl
    cases hc
    exact hv
  obtain ⟨a, ha, ba⟩ := hk.arr (a := 10) (t := 0) (n := 8) (m := 8) (lo := 0) (hi := 5) rfl (by decide)
  obtain ⟨b, hb, bb⟩ := hk.arr (a := 11) (t := 0) (n := 8) (m := 8) (lo := 0) (hi := 5) rfl (by decide)
  have em : gi cs 7 6 = m := by
    rw [← e7]
    exact gi_o h7 s6
  have eh : gi cs 7 7 = h := by
    rw [← e7]
    exact gi_o h7 s7
  have ea : gi cs 10 = a := by
    rw [← e10]
    exact gi_a ha
  have eb : gi cs 11 = b := by
    rw [← e11]
    exact gi_a hb
  rw [em, eh, ea, eb]
  exact ⟨fs, h7, s6, s7, s2, s3, ha, hb, ⟨m1, m2⟩, ⟨h1, h2⟩, ba, bb⟩
theorem hu_hun {cs1 : ex_C} (hk : ab_hk ab_hd cs1) : ∃ fs : List Value, cs1[64]? = some (.inr (4, fs)) ∧ fs.length = 2 ∧ fs[0]? = some (.ref 65) ∧ fs[1]? = some (.int (gi cs1 64 1)) ∧ cs1[65]? = some (.inl (0, 6, .inl (gi cs1 65))) := by
  obtain ⟨fs, h64, hl, hj⟩ := hk.obj (a := 64) (ci := 4) rfl
  obtain ⟨v1, s1, m, rfl, m1, m2⟩ := hj 1 (.inr (-2147483648, 2147483647)) rfl
  have s0 : fs[0]? = some (.ref 65) := by
    obtain ⟨v, hv, hc⟩ := hj 0 (.inl 65) rfl
    cases hc
    exact hv
  obtain ⟨a, ha, -⟩ := hk.arr (a := 65) (t := 0) (n := 6) (m := 6) (lo := -2147483648) (hi := 2147483647) rfl (by decide)
  rw [gi_o h64 s1, gi_a ha]
  exact ⟨fs, h64, hl, s0, s1, ha⟩
theorem hu_mod {cs1 : ex_C} (hk : ab_hk ab_hd cs1) : ∃ fs : List Value, cs1[76]? = some (.inr (10, fs)) ∧ fs.length = 57 ∧ fs[0]? = some (.int (gi cs1 76 0)) ∧ fs[4]? = some (.int (gi cs1 76 4)) ∧ fs[39]? = some (.int (gi cs1 76 39)) ∧ fs[5]? = some (.ref 80) ∧ fs[6]? = some (.ref 81) ∧ cs1[80]? = some (.inl (0, 8, .inl (gi cs1 80))) ∧ cs1[81]? = some (.inl (0, 8, .inl (gi cs1 81))) ∧ (0 ≤ (gi cs1 76 0).toInt ∧ (gi cs1 76 0).toInt ≤ 6) ∧ (0 ≤ (gi cs1 76 4).toInt ∧ (gi cs1 76 4).toInt ≤ 8) ∧ (∀ j, j < 8 → 0 ≤ (gi cs1 80 j).toInt ∧ (gi cs1 80 j).toInt ≤ 5) ∧ (∀ j, j < 8 → 0 ≤ (gi cs1 81 j).toInt ∧ (gi cs1 81 j).toInt ≤ 5) := by
  obtain ⟨fs, h76, hl, hj⟩ := hk.obj (a := 76) (ci := 10) rfl
  obtain ⟨v0, s0, m, rfl, m1, m2⟩ := hj 0 (.inr (0, 6)) rfl
  obtain ⟨v4, s4, h, rfl, h1, h2⟩ := hj 4 (.inr (0, 8)) rfl
  obtain ⟨v39, s39, u, rfl, u1, u2⟩ := hj 39 (.inr (-2147483648, 2147483647)) rfl
  have s5 : fs[5]? = some (.ref 80) := by
    obtain ⟨v, hv, hc⟩ := hj 5 (.inl 80) rfl
    cases hc
    exact hv
  have s6 : fs[6]? = some (.ref 81) := by
    obtain ⟨v, hv, hc⟩ := hj 6 (.inl 81) rfl
    cases hc
    exact hv
  obtain ⟨a, ha, ba⟩ := hk.arr (a := 80) (t := 0) (n := 8) (m := 8) (lo := 0) (hi := 5) rfl (by decide)
  obtain ⟨b, hb, bb⟩ := hk.arr (a := 81) (t := 0) (n := 8) (m := 8) (lo := 0) (hi := 5) rfl (by decide)
  rw [gi_o h76 s0, gi_o h76 s4, gi_o h76 s39, gi_a ha, gi_a hb]
  exact ⟨fs, h76, hl, s0, s4, s39, s5, s6, ha, hb, ⟨m1, m2⟩, ⟨h1, h2⟩, ba, bb⟩
theorem hu_set {cs cs1 : ex_C} {f g : Nat → Int32} (hk : ab_hk ab_hd cs1) (hf : ab_fr [(65, none)] cs cs1) (h65 : cs1[65]? = some (.inl (0, 6, .inl f))) : ab_hk ab_hd (cs1.set 65 (.inl (0, 6, .inl g))) ∧ ab_fr [(65, none)] cs (cs1.set 65 (.inl (0, 6, .inl g))) ∧ gi (cs1.set 65 (.inl (0, 6, .inl g))) 65 = g := by
  refine ⟨hk.set (hh := .inr (0, 6, [(6, -2147483648, 2147483647)])) rfl ⟨g, rfl, fun j hj => ?_⟩, hf.tr (ab_fra h65 (fun j h => absurd rfl h)), gi_a (t := 0) (n := 6) (List.getElem?_set_self (List.getElem?_eq_some_iff.mp h65).1)⟩
  have es : ab_sg [(6, -2147483648, 2147483647)] j = (-2147483648, 2147483647) := by
    show (if j < 6 then ((-2147483648 : Int), (2147483647 : Int)) else _) = _
    rw [if_pos hj]
  show (ab_sg [(6, -2147483648, 2147483647)] j).1 ≤ _ ∧ _
  rw [es]
  exact hx_tb _
theorem hu_put {cs : ex_C} {a ci j : Nat} {ts : List ab_T} {fs : List Value} {v : Int32} (hk : ab_hk ab_hd cs) (e : ab_hd[a]? = some (.inl (ci, ts))) (h : cs[a]? = some (.inr (ci, fs))) (ht : ts[j]? = some (.inr (-2147483648, 2147483647))) : ab_hk ab_hd (cs.set a (.inr (ci, fs.set j (.int v)))) ∧ ab_fr [(a, some j)] cs (cs.set a (.inr (ci, fs.set j (.int v)))) ∧ ab_rd (cs.set a (.inr (ci, fs.set j (.int v)))) a j = some (.int v) := by
  obtain ⟨fs0, h0, hl, hj⟩ := hk.obj e
  rw [h] at h0
  cases h0
  have jl := (List.getElem?_eq_some_iff.mp ht).1
  refine ⟨hk.set e ⟨fs.set j (.int v), rfl, by rw [List.length_set]; exact hl, fun i t hi => ?_⟩, ab_fro h, ?_⟩
  · by_cases q : j = i
    · subst q
      rw [ht] at hi
      cases hi
      exact ⟨.int v, List.getElem?_set_self (by omega), v, rfl, hx_tb v⟩
    · rw [List.getElem?_set_ne q]
      exact hj i t hi
  · unfold ab_rd
    rw [List.getElem?_set_self (List.getElem?_eq_some_iff.mp h).1]
    show (fs.set j (.int v))[j]? = _
    exact List.getElem?_set_self (by omega)
theorem hu_n1 {i : Int32} (h : 0 ≤ i.toInt) (h2 : i.toInt ≤ 900) : (i + Int32.ofInt 1).toNatClampNeg = i.toNatClampNeg + 1 := by
  have e := ab_inc (x := i) (by omega) (by omega)
  show (i + Int32.ofInt 1).toInt.toNat = i.toInt.toNat + 1
  rw [e]
  omega
theorem hu_bit {x y z : Int32} : ((x >>> (y &&& 31)) &&& 1).toInt = z.toInt ↔ pb x y = z := ⟨fun h => Int32.toInt_inj.mp h, fun h => congrArg Int32.toInt h⟩
theorem jn_1 {t i : Int32} {P : Nat → Int32} (h1 : 0 ≤ i.toInt) (h2 : i.toInt ≤ 63) (h : ((t >>> (i &&& 31)) &&& 1).toInt = (1 : Int32).toInt) : upd (pt_j t P i.toNatClampNeg) i.toNatClampNeg t = pt_j t P (i + Int32.ofInt 1).toNatClampNeg := by
  rw [hu_n1 h1 (by omega)]
  refine pj_1 ?_
  rw [← pn_nat h1 h2]
  exact hu_bit.1 h
theorem jn_0 {t i : Int32} {P : Nat → Int32} (h1 : 0 ≤ i.toInt) (h2 : i.toInt ≤ 63) (h : ¬ ((t >>> (i &&& 31)) &&& 1).toInt = (1 : Int32).toInt) : pt_j t P i.toNatClampNeg = pt_j t P (i + Int32.ofInt 1).toNatClampNeg := by
  rw [hu_n1 h1 (by omega)]
  refine pj_0 ?_
  rw [← pn_nat h1 h2]
  exact fun q => h (hu_bit.2 q)
theorem fp_s {i : Int32} {P : Nat → Int32} (h1 : 0 ≤ i.toInt) (h2 : i.toInt ≤ 63) : upd (pt_0 P i.toNatClampNeg) i.toNatClampNeg ((1 : Int32) <<< (i &&& 31)) = pt_0 P (i + Int32.ofInt 1).toNatClampNeg := by
  rw [hu_n1 h1 (by omega)]
  have e := p0_1 (P := P) (n := i.toNatClampNeg)
  rw [← pn_nat h1 h2] at e
  exact e
theorem fp_1 {M : Nat} {c h : Int32} {a b P f g : Nat → Int32} (h1 : 0 ≤ h.toInt) (h2 : h.toInt ≤ 63) (hf : ∀ j, j < 6 → f j = pt_h M c a b P h.toNatClampNeg j) (hc : ((c >>> (h &&& 31)) &&& 1).toInt = (0 : Int32).toInt) (ha : 0 ≤ (a h.toNatClampNeg).toInt ∧ (a h.toNatClampNeg).toInt ≤ 5) (hb : 0 ≤ (b h.toNatClampNeg).toInt ∧ (b h.toNatClampNeg).toInt ≤ 5) (hg : ∀ j, j < 6 → g j = pt_j (f (a h.toNatClampNeg).toNatClampNeg ||| f (b h.toNatClampNeg).toNatClampNeg) f M j) : ∀ j, j < 6 → g j = pt_h M c a b P (h + Int32.ofInt 1).toNatClampNeg j := by
  intro j hj
  rw [hu_n1 h1 (by omega)]
  have e1 : (a h.toNatClampNeg).toNatClampNeg = (a h.toNatClampNeg).toInt.toNat := rfl
  have e2 : (b h.toNatClampNeg).toNatClampNeg = (b h.toNatClampNeg).toInt.toNat := rfl
  rw [hg j hj, hf (a h.toNatClampNeg).toNatClampNeg (by omega), hf (b h.toNatClampNeg).toNatClampNeg (by omega)]
  have hc' : pb c (Int32.ofNat h.toNatClampNeg) = 0 := by
    rw [← pn_nat h1 h2]
    exact hu_bit.1 hc
  show _ = (if pb c (Int32.ofNat h.toNatClampNeg) = 0 then pt_j (pt_h M c a b P h.toNatClampNeg (a h.toNatClampNeg).toNatClampNeg ||| pt_h M c a b P h.toNatClampNeg (b h.toNatClampNeg).toNatClampNeg) (pt_h M c a b P h.toNatClampNeg) M else pt_h M c a b P h.toNatClampNeg) j
  rw [if_pos hc']
  unfold pt_j
  rw [hf j hj]
theorem fp_0 {M : Nat} {c h : Int32} {a b P f : Nat → Int32} (h1 : 0 ≤ h.toInt) (h2 : h.toInt ≤ 63) (hf : ∀ j, j < 6 → f j = pt_h M c a b P h.toNatClampNeg j) (hc : ¬ ((c >>> (h &&& 31)) &&& 1).toInt = (0 : Int32).toInt) : ∀ j, j < 6 → f j = pt_h M c a b P (h + Int32.ofInt 1).toNatClampNeg j := by
  intro j hj
  rw [hu_n1 h1 (by omega), hf j hj]
  have hc' : ¬ pb c (Int32.ofNat h.toNatClampNeg) = 0 := by
    rw [← pn_nat h1 h2]
    exact fun q => hc (hu_bit.2 q)
  show _ = (if pb c (Int32.ofNat h.toNatClampNeg) = 0 then pt_j (pt_h M c a b P h.toNatClampNeg (a h.toNatClampNeg).toNatClampNeg ||| pt_h M c a b P h.toNatClampNeg (b h.toNatClampNeg).toNatClampNeg) (pt_h M c a b P h.toNatClampNeg) M else pt_h M c a b P h.toNatClampNeg) j
  rw [if_neg hc']
theorem hg_j0 {cs : ex_C} {t : Int32} : ab_oo (([.ref 64, .ref 7, .int t] : List Value).map some) cs 900000010 = hu_j (gi cs 7) (gi cs 65) t 0 := by
  have h := hx_gg (lv := (([.ref 64, .ref 7, .int t] : List Value).map some)) (cs := cs) (n := 10) (by omega)
  have h' : ab_oo (([.ref 64, .ref 7, .int t] : List Value).map some) cs 900000010 = hu_j (gi cs 7) (gi cs 65) (Int32.ofInt t.toInt) 0 := h
  rw [hx_oi] at h'
  exact h'
theorem hg_j1 {cs : ex_C} {t : Int32} : ab_oo (([.ref 64, .ref 7, .int t] : List Value).map some) cs 900000011 = hu_j (gi cs 7) (gi cs 65) t 1 := by
  have h := hx_gg (lv := (([.ref 64, .ref 7, .int t] : List Value).map some)) (cs := cs) (n := 11) (by omega)
  have h' : ab_oo (([.ref 64, .ref 7, .int t] : List Value).map some) cs 900000011 = hu_j (gi cs 7) (gi cs 65) (Int32.ofInt t.toInt) 1 := h
  rw [hx_oi] at h'
  exact h'
theorem hg_j2 {cs : ex_C} {t : Int32} : ab_oo (([.ref 64, .ref 7, .int t] : List Value).map some) cs 900000012 = hu_j (gi cs 7) (gi cs 65) t 2 := by
  have h := hx_gg (lv := (([.ref 64, .ref 7, .int t] : List Value).map some)) (cs := cs) (n := 12) (by omega)
  have h' : ab_oo (([.ref 64, .ref 7, .int t] : List Value).map some) cs 900000012 = hu_j (gi cs 7) (gi cs 65) (Int32.ofInt t.toInt) 2 := h
  rw [hx_oi] at h'
  exact h'
theorem hg_j3 {cs : ex_C} {t : Int32} : ab_oo (([.ref 64, .ref 7, .int t] : List Value).map some) cs 900000013 = hu_j (gi cs 7) (gi cs 65) t 3 := by
  have h := hx_gg (lv := (([.ref 64, .ref 7, .int t] : List Value).map some)) (cs := cs) (n := 13) (by omega)
  have h' : ab_oo (([.ref 64, .ref 7, .int t] : List Value).map some) cs 900000013 = hu_j (gi cs 7) (gi cs 65) (Int32.ofInt t.toInt) 3 := h
  rw [hx_oi] at h'
  exact h'
theorem hg_j4 {cs : ex_C} {t : Int32} : ab_oo (([.ref 64, .ref 7, .int t] : List Value).map some) cs 900000014 = hu_j (gi cs 7) (gi cs 65) t 4 := by
  have h := hx_gg (lv := (([.ref 64, .ref 7, .int t] : List Value).map some)) (cs := cs) (n := 14) (by omega)
  have h' : ab_oo (([.ref 64, .ref 7, .int t] : List Value).map some) cs 900000014 = hu_j (gi cs 7) (gi cs 65) (Int32.ofInt t.toInt) 4 := h
  rw [hx_oi] at h'
  exact h'
theorem hg_j5 {cs : ex_C} {t : Int32} : ab_oo (([.ref 64, .ref 7, .int t] : List Value).map some) cs 900000015 = hu_j (gi cs 7) (gi cs 65) t 5 := by
  have h := hx_gg (lv := (([.ref 64, .ref 7, .int t] : List Value).map some)) (cs := cs) (n := 15) (by omega)
  have h' : ab_oo (([.ref 64, .ref 7, .int t] : List Value).map some) cs 900000015 = hu_j (gi cs 7) (gi cs 65) (Int32.ofInt t.toInt) 5 := h
  rw [hx_oi] at h'
  exact h'
theorem hg_f0 {cs : ex_C} {c : Int32} : ab_oo (([.ref 64, .ref 7, .int c] : List Value).map some) cs 900000020 = hu_f (gi cs 7) (gi cs 10) (gi cs 11) (gi cs 65) c 0 := by
  have h := hx_gg (lv := (([.ref 64, .ref 7, .int c] : List Value).map some)) (cs := cs) (n := 20) (by omega)
  have h' : ab_oo (([.ref 64, .ref 7, .int c] : List Value).map some) cs 900000020 = hu_f (gi cs 7) (gi cs 10) (gi cs 11) (gi cs 65) (Int32.ofInt c.toInt) 0 := h
  rw [hx_oi] at h'
  exact h'
theorem hg_f1 {cs : ex_C} {c : Int32} : ab_oo (([.ref 64, .ref 7, .int c] : List Value).map some) cs 900000021 = hu_f (gi cs 7) (gi cs 10) (gi cs 11) (gi cs 65) c 1 := by
  have h := hx_gg (lv := (([.ref 64, .ref 7, .int c] : List Value).map some)) (cs := cs) (n := 21) (by omega)
  have h' : ab_oo (([.ref 64, .ref 7, .int c] : List Value).map some) cs 900000021 = hu_f (gi cs 7) (gi cs 10) (gi cs 11) (gi cs 65) (Int32.ofInt c.toInt) 1 := h
  rw [hx_oi] at h'
  exact h'
theorem hg_f2 {cs : ex_C} {c : Int32} : ab_oo (([.ref 64, .ref 7, .int c] : List Value).map some) cs 900000022 = hu_f (gi cs 7) (gi cs 10) (gi cs 11) (gi cs 65) c 2 := by
  have h := hx_gg (lv := (([.ref 64, .ref 7, .int c] : List Value).map some)) (cs := cs) (n := 22) (by omega)
  have h' : ab_oo (([.ref 64, .ref 7, .int c] : List Value).map some) cs 900000022 = hu_f (gi cs 7) (gi cs 10) (gi cs 11) (gi cs 65) (Int32.ofInt c.toInt) 2 := h
  rw [hx_oi] at h'
  exact h'
theorem hg_f3 {cs : ex_C} {c : Int32} : ab_oo (([.ref 64, .ref 7, .int c] : List Value).map some) cs 900000023 = hu_f (gi cs 7) (gi cs 10) (gi cs 11) (gi cs 65) c 3 := by
  have h := hx_gg (lv := (([.ref 64, .ref 7, .int c] : List Value).map some)) (cs := cs) (n := 23) (by omega)
  have h' : ab_oo (([.ref 64, .ref 7, .int c] : List Value).map some) cs 900000023 = hu_f (gi cs 7) (gi cs 10) (gi cs 11) (gi cs 65) (Int32.ofInt c.toInt) 3 := h
  rw [hx_oi] at h'
  exact h'
theorem hg_f4 {cs : ex_C} {c : Int32} : ab_oo (([.ref 64, .ref 7, .int c] : List Value).map some) cs 900000024 = hu_f (gi cs 7) (gi cs 10) (gi cs 11) (gi cs 65) c 4 := by
  have h := hx_gg (lv := (([.ref 64, .ref 7, .int c] : List Value).map some)) (cs := cs) (n := 24) (by omega)
  have h' : ab_oo (([.ref 64, .ref 7, .int c] : List Value).map some) cs 900000024 = hu_f (gi cs 7) (gi cs 10) (gi cs 11) (gi cs 65) (Int32.ofInt c.toInt) 4 := h
  rw [hx_oi] at h'
  exact h'
theorem hg_f5 {cs : ex_C} {c : Int32} : ab_oo (([.ref 64, .ref 7, .int c] : List Value).map some) cs 900000025 = hu_f (gi cs 7) (gi cs 10) (gi cs 11) (gi cs 65) c 5 := by
  have h := hx_gg (lv := (([.ref 64, .ref 7, .int c] : List Value).map some)) (cs := cs) (n := 25) (by omega)
  have h' : ab_oo (([.ref 64, .ref 7, .int c] : List Value).map some) cs 900000025 = hu_f (gi cs 7) (gi cs 10) (gi cs 11) (gi cs 65) (Int32.ofInt c.toInt) 5 := h
  rw [hx_oi] at h'
  exact h'
theorem hg_4 {cs : ex_C} {c m : Int32} : ab_oo (([.ref 64, .ref 7, .int c, .int m] : List Value).map some) cs 900000004 = hu_t (gi cs 7 6) (gi cs 7 7) (gi cs 64 1) c m (hu_P (gi cs 7) (gi cs 10) (gi cs 11) (gi cs 65) c m) := by
  have h := hx_gg (lv := (([.ref 64, .ref 7, .int c, .int m] : List Value).map some)) (cs := cs) (n := 4) (by omega)
  have h' : ab_oo (([.ref 64, .ref 7, .int c, .int m] : List Value).map some) cs 900000004 = hu_t (gi cs 7 6) (gi cs 7 7) (gi cs 64 1) (Int32.ofInt c.toInt) (Int32.ofInt m.toInt) (hu_P (gi cs 7) (gi cs 10) (gi cs 11) (gi cs 65) (Int32.ofInt c.toInt) (Int32.ofInt m.toInt)) := h
  rw [hx_oi, hx_oi] at h'
  exact h'
theorem hg_5 {cs : ex_C} {c m : Int32} : ab_oo (([.ref 64, .ref 7, .int c, .int m] : List Value).map some) cs 900000005 = hu_s (gi cs 7 6) (gi cs 7 7) (gi cs 64 1) c m (hu_P (gi cs 7) (gi cs 10) (gi cs 11) (gi cs 65) c m) := by
  have h := hx_gg (lv := (([.ref 64, .ref 7, .int c, .int m] : List Value).map some)) (cs := cs) (n := 5) (by omega)
  have h' : ab_oo (([.ref 64, .ref 7, .int c, .int m] : List Value).map some) cs 900000005 = hu_s (gi cs 7 6) (gi cs 7 7) (gi cs 64 1) (Int32.ofInt c.toInt) (Int32.ofInt m.toInt) (hu_P (gi cs 7) (gi cs 10) (gi cs 11) (gi cs 65) (Int32.ofInt c.toInt) (Int32.ofInt m.toInt)) := h
  rw [hx_oi, hx_oi] at h'
  exact h'
theorem hg_0 {cs : ex_C} {c m : Int32} : ab_oo (([.ref 0, .int c, .int m] : List Value).map some) cs 900000000 = hu_t (gi cs 7 6) (gi cs 7 7) (gi cs 64 1) c m (hu_P (gi cs 7) (gi cs 10) (gi cs 11) (gi cs 65) c m) := by
  have h := hx_gg (lv := (([.ref 0, .int c, .int m] : List Value).map some)) (cs := cs) (n := 0) (by omega)
  have h' : ab_oo (([.ref 0, .int c, .int m] : List Value).map some) cs 900000000 = hu_t (gi cs 7 6) (gi cs 7 7) (gi cs 64 1) (Int32.ofInt c.toInt) (Int32.ofInt m.toInt) (hu_P (gi cs 7) (gi cs 10) (gi cs 11) (gi cs 65) (Int32.ofInt c.toInt) (Int32.ofInt m.toInt)) := h
  rw [hx_oi, hx_oi] at h'
  exact h'
theorem hg_1 {cs : ex_C} {c m : Int32} : ab_oo (([.ref 0, .int c, .int m] : List Value).map some) cs 900000001 = hu_s (gi cs 7 6) (gi cs 7 7) (gi cs 64 1) c m (hu_P (gi cs 7) (gi cs 10) (gi cs 11) (gi cs 65) c m) := by
  have h := hx_gg (lv := (([.ref 0, .int c, .int m] : List Value).map some)) (cs := cs) (n := 1) (by omega)
  have h' : ab_oo (([.ref 0, .int c, .int m] : List Value).map some) cs 900000001 = hu_s (gi cs 7 6) (gi cs 7 7) (gi cs 64 1) (Int32.ofInt c.toInt) (Int32.ofInt m.toInt) (hu_P (gi cs 7) (gi cs 10) (gi cs 11) (gi cs 65) (Int32.ofInt c.toInt) (Int32.ofInt m.toInt)) := h
  rw [hx_oi, hx_oi] at h'
  exact h'
theorem hg_2 {cs : ex_C} {c m : Int32} : ab_oo (([.ref 76, .int c, .int m] : List Value).map some) cs 900000002 = hu_t (gi cs 76 0) (gi cs 76 4) (gi cs 76 39) c m (hu_Q (gi cs 76) (gi cs 80) (gi cs 81) c m) := by
  have h := hx_gg (lv := (([.ref 76, .int c, .int m] : List Value).map some)) (cs := cs) (n := 2) (by omega)
  have h' : ab_oo (([.ref 76, .int c, .int m] : List Value).map some) cs 900000002 = hu_t (gi cs 76 0) (gi cs 76 4) (gi cs 76 39) (Int32.ofInt c.toInt) (Int32.ofInt m.toInt) (hu_Q (gi cs 76) (gi cs 80) (gi cs 81) (Int32.ofInt c.toInt) (Int32.ofInt m.toInt)) := h
  rw [hx_oi, hx_oi] at h'
  exact h'
theorem hg_3 {cs : ex_C} {c m : Int32} : ab_oo (([.ref 76, .int c, .int m] : List Value).map some) cs 900000003 = hu_s (gi cs 76 0) (gi cs 76 4) (gi cs 76 39) c m (hu_Q (gi cs 76) (gi cs 80) (gi cs 81) c m) := by
  have h := hx_gg (lv := (([.ref 76, .int c, .int m] : List Value).map some)) (cs := cs) (n := 3) (by omega)
  have h' : ab_oo (([.ref 76, .int c, .int m] : List Value).map some) cs 900000003 = hu_s (gi cs 76 0) (gi cs 76 4) (gi cs 76 39) (Int32.ofInt c.toInt) (Int32.ofInt m.toInt) (hu_Q (gi cs 76) (gi cs 80) (gi cs 81) (Int32.ofInt c.toInt) (Int32.ofInt m.toInt)) := h
  rw [hx_oi, hx_oi] at h'
  exact h'
theorem hg_6 {cs : ex_C} {m c : Int32} : ab_oo (([.ref 76, .int m, .int c] : List Value).map some) cs 900000006 = (hu_Q (gi cs 76) (gi cs 80) (gi cs 81) c m).toInt := by
  have h := hx_gg (lv := (([.ref 76, .int m, .int c] : List Value).map some)) (cs := cs) (n := 6) (by omega)
  have h' : ab_oo (([.ref 76, .int m, .int c] : List Value).map some) cs 900000006 = (hu_Q (gi cs 76) (gi cs 80) (gi cs 81) (Int32.ofInt c.toInt) (Int32.ofInt m.toInt)).toInt := h
  rw [hx_oi, hx_oi] at h'
  exact h'
theorem hg_7 {cs : ex_C} : ab_oo (([.ref 64, .ref 7] : List Value).map some) cs 900000007 = hu_u (gi cs 7 6) := by
  have h := hx_gg (lv := (([.ref 64, .ref 7] : List Value).map some)) (cs := cs) (n := 7) (by omega)
  have h' : ab_oo (([.ref 64, .ref 7] : List Value).map some) cs 900000007 = hu_u (gi cs 7 6) := h
  exact h'
theorem hg_8 {cs : ex_C} : ab_oo (([.ref 76] : List Value).map some) cs 900000008 = hu_u (gi cs 76 0) := by
  have h := hx_gg (lv := (([.ref 76] : List Value).map some)) (cs := cs) (n := 8) (by omega)
  have h' : ab_oo (([.ref 76] : List Value).map some) cs 900000008 = hu_u (gi cs 76 0) := h
  exact h'
theorem hu_r7 {cs : ex_C} (hk : ab_hk ab_hd cs) : ∃ z, ab_ri cs 7 6 = some z := by
  obtain ⟨fs, h7, -, hj⟩ := hk.obj (a := 7) (ci := 0) rfl
  obtain ⟨v6, s6, m, rfl, m1, m2⟩ := hj 6 (.inr (0, 6)) rfl
  refine ⟨m.toInt, ?_⟩
  unfold ab_ri ab_rd
  rw [h7]
  dsimp only
  rw [s6]
theorem hu_r76 {cs : ex_C} (hk : ab_hk ab_hd cs) : ∃ z, ab_ri cs 76 0 = some z := by
  obtain ⟨fs, h7, -, hj⟩ := hk.obj (a := 76) (ci := 10) rfl
  obtain ⟨v6, s6, m, rfl, m1, m2⟩ := hj 0 (.inr (0, 6)) rfl
  refine ⟨m.toInt, ?_⟩
  unfold ab_ri ab_rd
  rw [h7]
  dsimp only
  rw [s6]
theorem hu_r64 {cs : ex_C} (hk : ab_hk ab_hd cs) : ab_ri cs 64 1 = some (gi cs 64 1).toInt := by
  obtain ⟨fs, h, -, -, h1, -⟩ := hu_hun hk
  unfold ab_ri ab_rd
  rw [h]
  dsimp only
  rw [h1]
theorem hu_r39 {cs : ex_C} (hk : ab_hk ab_hd cs) : ab_ri cs 76 39 = some (gi cs 76 39).toInt := by
  obtain ⟨fs, h, -, -, -, h1, -⟩ := hu_mod hk
  unfold ab_ri ab_rd
  rw [h]
  dsimp only
  rw [h1]
theorem hu_hm {cs cs' : ex_C} {m : Int32} {r : Option Value} {W : ab_W} (hk0 : ab_hk ab_hd cs) (h : ab_post ab_hd ([.inl 7, .inr (-2147483648, 2147483647)], [], W, [(some (1, 1, none), [((0, 1, 0), 0, 5, none), ((9, 1, 8006), -4294967296, -1, none), ((8, 8006, 0), 1, 6, none)], []), (some (0, 0, none), [((0, 1, 0), 0, 2147483647, none), ((9, 1, 8006), 0, 4294967296, none), ((8, 8006, 0), 0, 6, none)], []), (some (0, 0, none), [((0, 1, 0), -2147483648, -1, none)], [])]) [.ref 7, .int m] cs r cs') : ab_hk ab_hd cs' ∧ ab_fr W cs cs' ∧ ∃ x : Int32, r = some (.int x) ∧ ((x.toInt = 1 ∧ 0 ≤ m.toInt ∧ m.toInt < (gi cs 7 6).toInt) ∨ (x.toInt = 0 ∧ (m.toInt < 0 ∨ (gi cs 7 6).toInt ≤ m.toInt))) := by
  obtain ⟨h1, h2, k, hk, hr, hc, -⟩ := h
  refine ⟨h1, h2, ?_⟩
  have hg : ∀ z, ab_ri cs 7 6 = some z → ab_oo (([.ref 7, .int m] : List Value).map some) cs 8006 = z ∧ (gi cs 7 6).toInt = z := fun z hz => ⟨am_onc (k := 7) (j := 6) (by decide) (by decide) hz, gi_t hz⟩
  have ho : ab_oo (([.ref 7, .int m] : List Value).map some) cs 1 = m.toInt := hx_op (by decide) rfl
  have hs : ∃ z, ab_ri cs 7 6 = some z := hu_r7 hk0
  obtain ⟨z, hz⟩ := hs
  obtain ⟨g1, g2⟩ := hg z hz
  have kv : ∀ lo hi, ab_q1 (ab_oo (([.ref 7, .int m] : List Value).map some) cs) (([.ref 7, .int m] : List Value).map some) [] ((0, 1, 0), lo, hi, none) → lo ≤ m.toInt ∧ m.toInt ≤ hi := by
    rintro lo hi ⟨y, hy, y1, y2, -⟩
    have e : some m.toInt = some y := hy
    cases e
    exact ⟨y1, y2⟩
  have kd : ∀ lo hi, ab_q1 (ab_oo (([.ref 7, .int m] : List Value).map some) cs) (([.ref 7, .int m] : List Value).map some) [] ((9, 1, 8006), lo, hi, none) → lo ≤ m.toInt - z ∧ m.toInt - z ≤ hi := by
    rintro lo hi ⟨y, hy, y1, y2, -⟩
    have e : some (ab_oo (([.ref 7, .int m] : List Value).map some) cs 1 - ab_oo (([.ref 7, .int m] : List Value).map some) cs 8006) = some y := hy
    rw [ho, g1] at e
    cases e
    exact ⟨y1, y2⟩
  have k3 : k = (some (1, 1, none), [((0, 1, 0), 0, 5, none), ((9, 1, 8006), -4294967296, -1, none), ((8, 8006, 0), 1, 6, none)], []) ∨ k = (some (0, 0, none), [((0, 1, 0), 0, 2147483647, none), ((9, 1, 8006), 0, 4294967296, none), ((8, 8006, 0), 0, 6, none)], []) ∨ k = (some (0, 0, none), [((0, 1, 0), -2147483648, -1, none)], []) := by
    simpa using hk
  rcases k3 with rfl | rfl | rfl
  · obtain ⟨x, e, ⟨x1, x2⟩, -⟩ := hr
    have c1 := kv _ _ (hc _ List.mem_cons_self)
    have c2 := kd _ _ (hc _ (List.mem_of_getElem? (i := 1) rfl))
    dsimp only at x1 x2
    exact ⟨x, e, Or.inl ⟨by omega, by omega, by omega⟩⟩
  · obtain ⟨x, e, ⟨x1, x2⟩, -⟩ := hr
    have c2 := kd _ _ (hc _ (List.mem_of_getElem? (i := 1) rfl))
    dsimp only at x1 x2
    exact ⟨x, e, Or.inr ⟨by omega, Or.inr (by omega)⟩⟩
  · obtain ⟨x, e, ⟨x1, x2⟩, -⟩ := hr
    have c1 := kv _ _ (hc _ List.mem_cons_self)
    dsimp only at x1 x2
    exact ⟨x, e, Or.inr ⟨by omega, Or.inl (by omega)⟩⟩
theorem hu_im {cs cs' : ex_C} {m : Int32} {r : Option Value} {W : ab_W} (hk0 : ab_hk ab_hd cs) (h : ab_post ab_hd ([.inl 76, .inr (-2147483648, 2147483647)], [], W, [(some (1, 1, none), [((0, 1, 0), 0, 5, none), ((9, 1, 77000), -4294967296, -1, none), ((8, 77000, 0), 1, 6, none)], []), (some (0, 0, none), [((0, 1, 0), 0, 2147483647, none), ((9, 1, 77000), 0, 4294967296, none), ((8, 77000, 0), 0, 6, none)], []), (some (0, 0, none), [((0, 1, 0), -2147483648, -1, none)], [])]) [.ref 76, .int m] cs r cs') : ab_hk ab_hd cs' ∧ ab_fr W cs cs' ∧ ∃ x : Int32, r = some (.int x) ∧ ((x.toInt = 1 ∧ 0 ≤ m.toInt ∧ m.toInt < (gi cs 76 0).toInt) ∨ (x.toInt = 0 ∧ (m.toInt < 0 ∨ (gi cs 76 0).toInt ≤ m.toInt))) := by
  obtain ⟨h1, h2, k, hk, hr, hc, -⟩ := h
  refine ⟨h1, h2, ?_⟩
  have hg : ∀ z, ab_ri cs 76 0 = some z → ab_oo (([.ref 76, .int m] : List Value).map some) cs 77000 = z ∧ (gi cs 76 0).toInt = z := fun z hz => ⟨am_onc (k := 76) (j := 0) (by decide) (by decide) hz, gi_t hz⟩
  have ho : ab_oo (([.ref 76, .int m] : List Value).map some) cs 1 = m.toInt := hx_op (by decide) rfl
  have hs : ∃ z, ab_ri cs 76 0 = some z := hu_r76 hk0
  obtain ⟨z, hz⟩ := hs
  obtain ⟨g1, g2⟩ := hg z hz
  have kv : ∀ lo hi, ab_q1 (ab_oo (([.ref 76, .int m] : List Value).map some) cs) (([.ref 76, .int m] : List Value).map some) [] ((0, 1, 0), lo, hi, none) → lo ≤ m.toInt ∧ m.toInt ≤ hi := by
    rintro lo hi ⟨y, hy, y1, y2, -⟩
    have e : some m.toInt = some y := hy
    cases e
    exact ⟨y1, y2⟩
  have kd : ∀ lo hi, ab_q1 (ab_oo (([.ref 76, .int m] : List Value).map some) cs) (([.ref 76, .int m] : List Value).map some) [] ((9, 1, 77000), lo, hi, none) → lo ≤ m.toInt - z ∧ m.toInt - z ≤ hi := by
    rintro lo hi ⟨y, hy, y1, y2, -⟩
    have e : some (ab_oo (([.ref 76, .int m] : List Value).map some) cs 1 - ab_oo (([.ref 76, .int m] : List Value).map some) cs 77000) = some y := hy
    rw [ho, g1] at e
    cases e
    exact ⟨y1, y2⟩
  have k3 : k = (some (1, 1, none), [((0, 1, 0), 0, 5, none), ((9, 1, 77000), -4294967296, -1, none), ((8, 77000, 0), 1, 6, none)], []) ∨ k = (some (0, 0, none), [((0, 1, 0), 0, 2147483647, none), ((9, 1, 77000), 0, 4294967296, none), ((8, 77000, 0), 0, 6, none)], []) ∨ k = (some (0, 0, none), [((0, 1, 0), -2147483648, -1, none)], []) := by
    simpa using hk
  rcases k3 with rfl | rfl | rfl
  · obtain ⟨x, e, ⟨x1, x2⟩, -⟩ := hr
    have c1 := kv _ _ (hc _ List.mem_cons_self)
    have c2 := kd _ _ (hc _ (List.mem_of_getElem? (i := 1) rfl))
    dsimp only at x1 x2
    exact ⟨x, e, Or.inl ⟨by omega, by omega, by omega⟩⟩
  · obtain ⟨x, e, ⟨x1, x2⟩, -⟩ := hr
    have c2 := kd _ _ (hc _ (List.mem_of_getElem? (i := 1) rfl))
    dsimp only at x1 x2
    exact ⟨x, e, Or.inr ⟨by omega, Or.inr (by omega)⟩⟩
  · obtain ⟨x, e, ⟨x1, x2⟩, -⟩ := hr
    have c1 := kv _ _ (hc _ List.mem_cons_self)
    dsimp only at x1 x2
    exact ⟨x, e, Or.inr ⟨by omega, Or.inl (by omega)⟩⟩
theorem hu_in {cs cs' : ex_C} {x lo hi : Int32} {l1 l2 : Int} {r : Option Value} (h : ab_post ab_hd ([.inr (-2147483648, 2147483647), .inr (l1, l2), .inr (-2147483648, 2147483647)], [], [], [(some (1, 1, none), [((0, 0, 0), -1, 2147483647, none), ((0, 2, 0), -1, 2147483647, none), ((9, 0, 2), -4294967296, 0, none), ((9, 0, 1), 0, 4294967296, none)], []), (some (0, 0, none), [((0, 0, 0), -1, 2147483647, none), ((0, 2, 0), -2147483648, 2147483646, none), ((9, 0, 2), 1, 4294967296, none), ((9, 0, 1), 0, 4294967296, none)], []), (some (0, 0, none), [((0, 0, 0), -2147483648, -1, none), ((9, 0, 1), -4294967296, -1, none)], [])]) [.int x, .int lo, .int hi] cs r cs') : ab_hk ab_hd cs' ∧ ab_fr [] cs cs' ∧ ∃ y : Int32, r = some (.int y) ∧ ((y.toInt = 1 ∧ lo.toInt ≤ x.toInt ∧ x.toInt ≤ hi.toInt) ∨ (y.toInt = 0 ∧ (x.toInt < lo.toInt ∨ hi.toInt < x.toInt))) := by
  obtain ⟨h1, h2, k, hk, hr, hc, -⟩ := h
  refine ⟨h1, h2, ?_⟩
  have o0 : ab_oo (([.int x, .int lo, .int hi] : List Value).map some) cs 0 = x.toInt := hx_op (by decide) rfl
  have o1 : ab_oo (([.int x, .int lo, .int hi] : List Value).map some) cs 1 = lo.toInt := hx_op (by decide) rfl
  have o2 : ab_oo (([.int x, .int lo, .int hi] : List Value).map some) cs 2 = hi.toInt := hx_op (by decide) rfl
  have kd : ∀ i j l h, ab_q1 (ab_oo (([.int x, .int lo, .int hi] : List Value).map some) cs) (([.int x, .int lo, .int hi] : List Value).map some) [] ((9, i, j), l, h, none) → l ≤ ab_oo (([.int x, .int lo, .int hi] : List Value).map some) cs i - ab_oo (([.int x, .int lo, .int hi] : List Value).map some) cs j ∧ ab_oo (([.int x, .int lo, .int hi] : List Value).map some) cs i - ab_oo (([.int x, .int lo, .int hi] : List Value).map some) cs j ≤ h := by
    rintro i j l h ⟨y, hy, y1, y2, -⟩
    have e : some (ab_oo (([.int x, .int lo, .int hi] : List Value).map some) cs i - ab_oo (([.int x, .int lo, .int hi] : List Value).map some) cs j) = some y := hy
    cases e
    exact ⟨y1, y2⟩
  have k3 : k = (some (1, 1, none), [((0, 0, 0), -1, 2147483647, none), ((0, 2, 0), -1, 2147483647, none), ((9, 0, 2), -4294967296, 0, none), ((9, 0, 1), 0, 4294967296, none)], []) ∨ k = (some (0, 0, none), [((0, 0, 0), -1, 2147483647, none), ((0, 2, 0), -2147483648, 2147483646, none), ((9, 0, 2), 1, 4294967296, none), ((9, 0, 1), 0, 4294967296, none)], []) ∨ k = (some (0, 0, none), [((0, 0, 0), -2147483648, -1, none), ((9, 0, 1), -4294967296, -1, none)], []) := by
    simpa using hk
  rcases k3 with rfl | rfl | rfl
  · obtain ⟨y, e, ⟨x1, x2⟩, -⟩ := hr
    have c1 := kd _ _ _ _ (hc _ (List.mem_of_getElem? (i := 2) rfl))
    have c2 := kd _ _ _ _ (hc _ (List.mem_of_getElem? (i := 3) rfl))
    rw [o0, o2] at c1
    rw [o0, o1] at c2
    dsimp only at x1 x2
    exact ⟨y, e, Or.inl ⟨by omega, by omega, by omega⟩⟩
  · obtain ⟨y, e, ⟨x1, x2⟩, -⟩ := hr
    have c1 := kd _ _ _ _ (hc _ (List.mem_of_getElem? (i := 2) rfl))
    rw [o0, o2] at c1
    dsimp only at x1 x2
    exact ⟨y, e, Or.inr ⟨by omega, Or.inr (by omega)⟩⟩
  · obtain ⟨y, e, ⟨x1, x2⟩, -⟩ := hr
    have c1 := kd _ _ _ _ (hc _ (List.mem_of_getElem? (i := 1) rfl))
    rw [o0, o1] at c1
    dsimp only at x1 x2
    exact ⟨y, e, Or.inr ⟨by omega, Or.inl (by omega)⟩⟩
theorem hu_sh0 : ∀ i : Fin 9, (((1 : Int32) <<< (Int32.ofNat i.val &&& 31)) - 1).toInt = ((1 : Int32) <<< (Int32.ofNat i.val &&& 31)).toInt - 1 ∧ 1 ≤ ((1 : Int32) <<< (Int32.ofNat i.val &&& 31)).toInt ∧ ((1 : Int32) <<< (Int32.ofNat i.val &&& 31)).toInt ≤ 256 := by decide +kernel
theorem hu_sh {h : Int32} (h1 : 0 ≤ h.toInt) (h2 : h.toInt ≤ 8) : (((1 : Int32) <<< (h &&& 31)) - 1).toInt = ((1 : Int32) <<< (h &&& 31)).toInt - 1 ∧ 1 ≤ ((1 : Int32) <<< (h &&& 31)).toInt ∧ ((1 : Int32) <<< (h &&& 31)).toInt ≤ 256 := by
  have e : h.toNatClampNeg = h.toInt.toNat := rfl
  have := hu_sh0 ⟨h.toNatClampNeg, by omega⟩
  dsimp only at this
  rw [← pn_nat h1 (by omega)] at this
  exact this
theorem hu_tb {M H s c m q : Int32} (h : hu_b M H c m) : (-1000000001 : Int) = hu_t M H s c m q ∧ s.toInt = hu_s M H s c m q := by
  unfold hu_t hu_s
  rw [if_pos h, if_pos h]
  exact ⟨rfl, rfl⟩
theorem hu_tn {M H s c m q : Int32} (h : ¬ hu_b M H c m) (h2 : (s &&& q).toInt = (0 : Int32).toInt) : (-1000000002 : Int) = hu_t M H s c m q ∧ s.toInt = hu_s M H s c m q := by
  unfold hu_t hu_s
  have h3 : s &&& q = 0 := Int32.toInt_inj.mp h2
  rw [if_neg h, if_neg h, if_pos h3, if_pos h3]
  exact ⟨rfl, rfl⟩
theorem hu_tl {M H s c m q : Int32} (h : ¬ hu_b M H c m) (h2 : ¬ (s &&& q).toInt = (0 : Int32).toInt) : (s &&& q).toInt = hu_t M H s c m q ∧ (s &&& q).toInt = hu_s M H s c m q := by
  unfold hu_t hu_s
  have h3 : ¬ s &&& q = 0 := fun e => h2 (congrArg Int32.toInt e)
  rw [if_neg h, if_neg h, if_neg h3, if_neg h3]
  exact ⟨rfl, rfl⟩
theorem hg_30 {cs : ex_C} {c : Int32} : ab_oo (([.ref 64, .ref 7, .int c] : List Value).map some) cs 900000030 = (lw (gi cs 7) (gi cs 10) (gi cs 11) (gi cs 65) (gi cs 64 1) c).toInt := by
  have h := hx_gg (lv := (([.ref 64, .ref 7, .int c] : List Value).map some)) (cs := cs) (n := 30) (by omega)
  have h' : ab_oo (([.ref 64, .ref 7, .int c] : List Value).map some) cs 900000030 = (lw (gi cs 7) (gi cs 10) (gi cs 11) (gi cs 65) (gi cs 64 1) (Int32.ofInt c.toInt)).toInt := h
  rw [hx_oi] at h'
  exact h'
theorem hg_31 {cs : ex_C} {w : Int32} : ab_oo (([.ref 64, .ref 7, .int w] : List Value).map some) cs 900000031 = bt (gi cs 7) (gi cs 10) (gi cs 11) (gi cs 64) (gi cs 65) w := by
  have h := hx_gg (lv := (([.ref 64, .ref 7, .int w] : List Value).map some)) (cs := cs) (n := 31) (by omega)
  have h' : ab_oo (([.ref 64, .ref 7, .int w] : List Value).map some) cs 900000031 = bt (gi cs 7) (gi cs 10) (gi cs 11) (gi cs 64) (gi cs 65) (Int32.ofInt w.toInt) := h
  rw [hx_oi] at h'
  exact h'
theorem hg_32 {cs : ex_C} {w : Int32} : ab_oo (([.ref 0, .int w] : List Value).map some) cs 900000032 = bt (gi cs 7) (gi cs 10) (gi cs 11) (gi cs 64) (gi cs 65) w := by
  have h := hx_gg (lv := (([.ref 0, .int w] : List Value).map some)) (cs := cs) (n := 32) (by omega)
  have h' : ab_oo (([.ref 0, .int w] : List Value).map some) cs 900000032 = bt (gi cs 7) (gi cs 10) (gi cs 11) (gi cs 64) (gi cs 65) (Int32.ofInt w.toInt) := h
  rw [hx_oi] at h'
  exact h'
theorem hg_33 {cs : ex_C} {c : Int32} : ab_oo (([.ref 76, .int c] : List Value).map some) cs 900000033 = (wr (gi cs 76) (gi cs 80) (gi cs 81) c).toInt := by
  have h := hx_gg (lv := (([.ref 76, .int c] : List Value).map some)) (cs := cs) (n := 33) (by omega)
  have h' : ab_oo (([.ref 76, .int c] : List Value).map some) cs 900000033 = (wr (gi cs 76) (gi cs 80) (gi cs 81) (Int32.ofInt c.toInt)).toInt := h
  rw [hx_oi] at h'
  exact h'
theorem hg_34 {cs : ex_C} {w : Int32} : ab_oo (([.ref 76, .int w] : List Value).map some) cs 900000034 = br (gi cs 76) (gi cs 80) (gi cs 81) w := by
  have h := hx_gg (lv := (([.ref 76, .int w] : List Value).map some)) (cs := cs) (n := 34) (by omega)
  have h' : ab_oo (([.ref 76, .int w] : List Value).map some) cs 900000034 = br (gi cs 76) (gi cs 80) (gi cs 81) (Int32.ofInt w.toInt) := h
  rw [hx_oi] at h'
  exact h'
theorem hd_g11 {x y : Int} {c : Nat} : ab_dg 11 x y c = (on_l (Int32.ofInt x) 8).toInt := by
  unfold ab_dg
  rfl
theorem hd_g12 {x y : Int} {c : Nat} : ab_dg 12 x y c = (bc_J (Int32.ofInt x)).toInt := by
  unfold ab_dg
  rfl
theorem hd_11 {cs : ex_C} {x : Int32} : ab_oo (([.int x] : List Value).map some) cs 1000000000 = (on_l x 8).toInt := by
  have h := ab_oon (lv := ([.int x] : List Value).map some) (cs := cs) (n := 0) (t := 11) (a := 0) (b := 0) rfl (by decide) (Or.inr (Or.inr (by decide)))
  rw [hd_g11, hx_op (i := 0) (x := x) (by decide) rfl, hx_oi] at h
  exact h
theorem hd_12 {cs : ex_C} {x : Int32} : ab_oo (([.int x] : List Value).map some) cs 1000000001 = (bc_J x).toInt := by
  have h := ab_oon (lv := ([.int x] : List Value).map some) (cs := cs) (n := 1) (t := 12) (a := 0) (b := 0) rfl (by decide) (Or.inr (Or.inr (by decide)))
  rw [hd_g12, hx_op (i := 0) (x := x) (by decide) rfl, hx_oi] at h
  exact h
theorem on_s {x i : Int32} (h1 : 0 ≤ i.toInt) (h2 : i.toInt ≤ 63) : on_l x i.toNatClampNeg + ((x >>> (i &&& 31)) &&& 1) = on_l x (i + Int32.ofInt 1).toNatClampNeg := by
  rw [hu_n1 h1 (by omega)]
  show _ = on_l x i.toNatClampNeg + ((x >>> (Int32.ofNat i.toNatClampNeg &&& 31)) &&& 1)
  rw [← pn_nat h1 h2]
theorem lw_s {P : Nat → Int32} {s i y v : Int32} (h1 : 0 ≤ i.toInt) (h2 : i.toInt ≤ 63) (hv : v = P i.toNatClampNeg &&& s) (hy : y.toInt = (bc_J v).toInt) : mx (lw_f P s i.toNatClampNeg) y = lw_f P s (i + Int32.ofInt 1).toNatClampNeg := by
  rw [hu_n1 h1 (by omega), Int32.toInt_inj.mp hy, hv]
  rfl
theorem lw_p {x7 x10 x11 P P' : Nat → Int32} {s c : Int32} (hM : (x7 6).toInt ≤ 6) (hH : (x7 7).toInt ≤ 8) (h : ∀ j, j < 6 → P j = P' j) (h10 : ∀ j, j < 8 → 0 ≤ (x10 j).toInt ∧ (x10 j).toInt ≤ 5) (h11 : ∀ j, j < 8 → 0 ≤ (x11 j).toInt ∧ (x11 j).toInt ≤ 5) : lw x7 x10 x11 P s c = lw x7 x10 x11 P' s c ∧ ∀ j, j < 6 → pt_n x7 x10 x11 P c j = pt_n x7 x10 x11 P' c j := by
  have n1 : (x7 6).toNatClampNeg = (x7 6).toInt.toNat := rfl
  have n2 : (x7 7).toNatClampNeg = (x7 7).toInt.toNat := rfl
  have hk : ∀ k, k < (x7 7).toNatClampNeg → (x10 k).toNatClampNeg < 6 ∧ (x11 k).toNatClampNeg < 6 := fun k hk => by
    have e1 : (x10 k).toNatClampNeg = (x10 k).toInt.toNat := rfl
    have e2 : (x11 k).toNatClampNeg = (x11 k).toInt.toNat := rfl
    have a1 := h10 k (by omega)
    have a2 := h11 k (by omega)
    omega
  have key := pt_hc (M := (x7 6).toNatClampNeg) (c := c) (a := x10) (b := x11) h (x7 7).toNatClampNeg hk
  refine ⟨?_, key⟩
  unfold lw
  exact lw_fc _ (fun j hj => key j (by omega))
theorem bt_1 {x7 x10 x11 : Nat → Int32} {s c l y z : Int32} {q : Int32 × Int32 × (Nat → Int32)} (hl : l.toInt = (lw x7 x10 x11 q.2.2 s c).toInt) (hy : y.toInt = (bc_J c).toInt) (hz : z.toInt = (bc_J q.1).toInt) (h : l.toInt < q.2.1.toInt ∨ (l.toInt = q.2.1.toInt ∧ y.toInt < z.toInt)) : bt_n x7 x10 x11 s c q = (c, l, pt_n x7 x10 x11 q.2.2 c) := by
  unfold bt_n
  rw [hl, hy, hz] at h
  rw [if_pos h, Int32.toInt_inj.mp hl]
theorem bt_0 {x7 x10 x11 : Nat → Int32} {s c l y z : Int32} {q : Int32 × Int32 × (Nat → Int32)} (hl : l.toInt = (lw x7 x10 x11 q.2.2 s c).toInt) (hy : y.toInt = (bc_J c).toInt) (hz : z.toInt = (bc_J q.1).toInt) (h : ¬ (l.toInt < q.2.1.toInt ∨ (l.toInt = q.2.1.toInt ∧ y.toInt < z.toInt))) : bt_n x7 x10 x11 s c q = (q.1, q.2.1, pt_n x7 x10 x11 q.2.2 c) := by
  unfold bt_n
  rw [hl, hy, hz] at h
  rw [if_neg h]
theorem nx_n {k : Nat} {set : Int32} (h : set.toInt = (k : Int) + 1) : set = Int32.ofNat (k + 1) := by
  have e : set.toNatClampNeg = set.toInt.toNat := rfl
  have h2 := pn_nat2 (x := set) (by omega)
  rw [h2, show set.toNatClampNeg = k + 1 by omega]
theorem bt_b {x7 x10 x11 x64 x65 : Nat → Int32} {w : Int32} (h : ¬ (w.toInt = 0 ∨ w.toInt = 1)) : (-1000000001 : Int) = bt x7 x10 x11 x64 x65 w := by
  unfold bt
  rw [if_pos h]
theorem bt_no {x7 x10 x11 x64 x65 : Nat → Int32} {w : Int32} (h : w.toInt = 0 ∨ w.toInt = 1) (h2 : (x64 1).toInt = 0) : (-1000000002 : Int) = bt x7 x10 x11 x64 x65 w := by
  unfold bt
  rw [if_neg (fun q => q h), if_pos h2]
theorem bt_ye {x7 x10 x11 x64 x65 : Nat → Int32} {w : Int32} {k : Nat} (h : w.toInt = 0 ∨ w.toInt = 1) (h2 : ¬ (x64 1).toInt = 0) (hk : k = bs_n (x7 7)) : (w.toInt = 0 → (bt_f x7 x10 x11 x65 (x64 1) k).1.toInt = bt x7 x10 x11 x64 x65 w) ∧ (¬ w.toInt = 0 → (bt_f x7 x10 x11 x65 (x64 1) k).2.1.toInt = bt x7 x10 x11 x64 x65 w) := by
  unfold bt
  rw [if_neg (fun q => q h), if_neg h2, hk]
  exact ⟨fun e => by rw [if_pos e], fun e => by rw [if_neg e]⟩
theorem wr_s {Q : Nat → Int32} {s i u y : Int32} (h1 : 0 ≤ i.toInt) (h2 : i.toInt ≤ 63) (hu : u = Q i.toNatClampNeg) (hy : y.toInt = (on_l (s &&& u) 8).toInt) : ((wr_f Q s i.toNatClampNeg).toInt < y.toInt → y = wr_f Q s (i + Int32.ofInt 1).toNatClampNeg) ∧ (¬ (wr_f Q s i.toNatClampNeg).toInt < y.toInt → wr_f Q s i.toNatClampNeg = wr_f Q s (i + Int32.ofInt 1).toNatClampNeg) := by
  have e : wr_f Q s (i + Int32.ofInt 1).toNatClampNeg = if (wr_f Q s i.toNatClampNeg).toInt < (on_l (s &&& Q i.toNatClampNeg) 8).toInt then on_l (s &&& Q i.toNatClampNeg) 8 else wr_f Q s i.toNatClampNeg := by
    rw [hu_n1 h1 (by omega)]
    rfl
  rw [hu] at hy
  have hy' := Int32.toInt_inj.mp hy
  rw [e, ← hy']
  exact ⟨fun q => by rw [if_pos q], fun q => by rw [if_neg q]⟩
theorem br_1 {x76 x80 x81 : Nat → Int32} {c b l y z : Int32} (hl : l = wr x76 x80 x81 c - wr x76 x80 x81 b) (hy : y.toInt = (on_l c 8).toInt) (hz : z.toInt = (on_l b 8).toInt) (h : l.toInt < 0 ∨ (l.toInt = 0 ∧ y.toInt < z.toInt)) : br_n x76 x80 x81 c b = c := by
  unfold br_n
  rw [hl, hy, hz] at h
  rw [if_pos h]
theorem br_0 {x76 x80 x81 : Nat → Int32} {c b l y z : Int32} (hl : l = wr x76 x80 x81 c - wr x76 x80 x81 b) (hy : y.toInt = (on_l c 8).toInt) (hz : z.toInt = (on_l b 8).toInt) (h : ¬ (l.toInt < 0 ∨ (l.toInt = 0 ∧ y.toInt < z.toInt))) : br_n x76 x80 x81 c b = b := by
  unfold br_n
  rw [hl, hy, hz] at h
  rw [if_neg h]
theorem br_b {x76 x80 x81 : Nat → Int32} {w : Int32} (h : ¬ (w.toInt = 0 ∨ w.toInt = 1)) : (-1000000001 : Int) = br x76 x80 x81 w := by
  unfold br
  rw [if_pos h]
theorem br_no {x76 x80 x81 : Nat → Int32} {w : Int32} (h : w.toInt = 0 ∨ w.toInt = 1) (h2 : (x76 39).toInt = 0) : (-1000000002 : Int) = br x76 x80 x81 w := by
  unfold br
  rw [if_neg (fun q => q h), if_pos h2]
theorem br_ye {x76 x80 x81 : Nat → Int32} {w : Int32} {k : Nat} (h : w.toInt = 0 ∨ w.toInt = 1) (h2 : ¬ (x76 39).toInt = 0) (hk : k = bs_n (x76 4)) : (w.toInt = 0 → (b2_f x76 x80 x81 k).toInt = br x76 x80 x81 w) ∧ (¬ w.toInt = 0 → (wr x76 x80 x81 (b2_f x76 x80 x81 k)).toInt = br x76 x80 x81 w) := by
  unfold br
  rw [if_neg (fun q => q h), if_neg h2, hk]
  exact ⟨fun e => by rw [if_pos e], fun e => by rw [if_neg e]⟩
theorem hu_i01 {cs cs' : ex_C} {x : Int32} {r : Option Value} (h : ab_post ab_hd ([.inr (-2147483648, 2147483647), .inr (0, 0), .inr (1, 1)], [], [], [(some (1, 1, none), [((0, 0, 0), 0, 1, none), ((9, 0, 2), -4294967296, 0, none), ((9, 0, 1), 0, 4294967296, none)], []), (some (0, 0, none), [((0, 0, 0), 2, 2147483647, none), ((9, 0, 2), 1, 4294967296, none), ((9, 0, 1), 0, 4294967296, none)], []), (some (0, 0, none), [((0, 0, 0), -2147483648, -1, none), ((9, 0, 1), -4294967296, -1, none)], [])]) [.int x, .int 0, .int 1] cs r cs') : ab_hk ab_hd cs' ∧ ab_fr [] cs cs' ∧ ∃ y : Int32, r = some (.int y) ∧ ((y.toInt = 1 ∧ (x.toInt = 0 ∨ x.toInt = 1)) ∨ (y.toInt = 0 ∧ ¬ (x.toInt = 0 ∨ x.toInt = 1))) := by
  obtain ⟨h1, h2, k, hk, hr, hc, -⟩ := h
  refine ⟨h1, h2, ?_⟩
  have kv : ∀ lo hi, ab_q1 (ab_oo (([.int x, .int 0, .int 1] : List Value).map some) cs) (([.int x, .int 0, .int 1] : List Value).map some) [] ((0, 0, 0), lo, hi, none) → lo ≤ x.toInt ∧ x.toInt ≤ hi := by
    rintro lo hi ⟨y, hy, y1, y2, -⟩
    have e : some x.toInt = some y := hy
    cases e
    exact ⟨y1, y2⟩
  have k3 : k = (some (1, 1, none), [((0, 0, 0), 0, 1, none), ((9, 0, 2), -4294967296, 0, none), ((9, 0, 1), 0, 4294967296, none)], []) ∨ k = (some (0, 0, none), [((0, 0, 0), 2, 2147483647, none), ((9, 0, 2), 1, 4294967296, none), ((9, 0, 1), 0, 4294967296, none)], []) ∨ k = (some (0, 0, none), [((0, 0, 0), -2147483648, -1, none), ((9, 0, 1), -4294967296, -1, none)], []) := by
    simpa using hk
  rcases k3 with rfl | rfl | rfl
  · obtain ⟨y, e, ⟨x1, x2⟩, -⟩ := hr
    have c1 := kv _ _ (hc _ List.mem_cons_self)
    dsimp only at x1 x2
    exact ⟨y, e, Or.inl ⟨by omega, by omega⟩⟩
  · obtain ⟨y, e, ⟨x1, x2⟩, -⟩ := hr
    have c1 := kv _ _ (hc _ List.mem_cons_self)
    dsimp only at x1 x2
    exact ⟨y, e, Or.inr ⟨by omega, by omega⟩⟩
  · obtain ⟨y, e, ⟨x1, x2⟩, -⟩ := hr
    have c1 := kv _ _ (hc _ List.mem_cons_self)
    dsimp only at x1 x2
    exact ⟨y, e, Or.inr ⟨by omega, by omega⟩⟩
