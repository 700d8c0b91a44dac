/-- what of the two states is the same -/
def rel_p : am_P := [((6, 6), (101, 0)), ((66, 7), (76, 40)), ((66, 9), (76, 49)), ((67, 0), (106, 0)), ((67, 1), (106, 1)), ((67, 2), (106, 2)), ((67, 3), (106, 3)), ((67, 4), (106, 4)), ((67, 5), (106, 5)), ((67, 6), (106, 6)), ((67, 7), (106, 7)), ((67, 8), (106, 8)), ((67, 9), (106, 9)), ((67, 10), (106, 10)), ((67, 11), (106, 11)), ((67, 12), (106, 12)), ((67, 13), (106, 13)), ((67, 14), (106, 14)), ((67, 15), (106, 15)), ((67, 16), (106, 16)), ((67, 17), (106, 17)), ((67, 18), (106, 18)), ((67, 19), (106, 19)), ((67, 20), (106, 20)), ((67, 21), (106, 21)), ((67, 22), (106, 22)), ((67, 23), (106, 23)), ((67, 24), (106, 24)), ((67, 25), (106, 25)), ((67, 26), (106, 26)), ((67, 27), (106, 27)), ((67, 28), (106, 28)), ((67, 29), (106, 29)), ((67, 30), (106, 30)), ((67, 31), (106, 31)), ((67, 32), (106, 32)), ((67, 33), (106, 33)), ((67, 34), (106, 34)), ((67, 35), (106, 35)), ((67, 36), (106, 36)), ((67, 37), (106, 37)), ((67, 38), (106, 38)), ((67, 39), (106, 39)), ((70, 0), (109, 0)), ((70, 1), (109, 1)), ((70, 2), (109, 2)), ((70, 3), (109, 3)), ((70, 4), (109, 4)), ((70, 5), (109, 5)), ((70, 6), (109, 6)), ((70, 7), (109, 7)), ((70, 8), (109, 8)), ((70, 9), (109, 9)), ((70, 10), (109, 10)), ((70, 11), (109, 11)), ((70, 12), (109, 12)), ((70, 13), (109, 13)), ((70, 14), (109, 14)), ((70, 15), (109, 15)), ((70, 16), (109, 16)), ((70, 17), (109, 17)), ((70, 18), (109, 18)), ((70, 19), (109, 19)), ((70, 20), (109, 20)), ((70, 21), (109, 21)), ((70, 22), (109, 22)), ((70, 23), (109, 23)), ((70, 24), (109, 24)), ((70, 25), (109, 25)), ((70, 26), (109, 26)), ((70, 27), (109, 27)), ((70, 28), (109, 28)), ((70, 29), (109, 29)), ((70, 30), (109, 30)), ((70, 31), (109, 31)), ((70, 32), (109, 32)), ((70, 33), (109, 33)), ((70, 34), (109, 34)), ((70, 35), (109, 35)), ((70, 36), (109, 36)), ((70, 37), (109, 37)), ((70, 38), (109, 38)), ((70, 39), (109, 39))]
def rel_g : List (Nat × Nat) := [(0, 1)]
def rel_R (cs : ex_C) : Prop := am_R rel_p cs
theorem rel_m67 : ∀ j : Fin 40, ((67, j.val), (106, j.val)) ∈ rel_p := by decide +kernel
theorem rel_m70 : ∀ j : Fin 40, ((70, j.val), (109, j.val)) ∈ rel_p := by decide +kernel
theorem rel_m66 : ((66, 7), (76, 40)) ∈ rel_p := by decide +kernel
theorem rel_gh {v0 v1 : Value} {ps : ex_V} {cs cs1 : ex_C} (h : ∀ p ∈ rel_p, ab_ri cs p.1.1 p.1.2 = ab_ri cs1 p.2.1 p.2.2) : ∀ p ∈ rel_g, ab_oo ((v0 :: ps).map some) cs (900000000 + p.1) = ab_oo ((v1 :: ps).map some) cs1 (900000000 + p.2) := by
  intro p hp
  have e : p = (0, 1) := by
    unfold rel_g at hp
    simpa using hp
  rw [e]
  dsimp only
  have e1 : ab_oo ((v0 :: ps).map some) cs (900000000 + 0) = kn_g cs 66 7 67 70 (fun k => (ab_li ((v0 :: ps).map some) k).getD 0) := by
    rw [ab_oob' (by omega)]
    unfold ab_ob
    rw [if_neg (by omega), if_neg (by omega)]
    rfl
  have e2 : ab_oo ((v1 :: ps).map some) cs1 (900000000 + 1) = kn_g cs1 76 40 106 109 (fun k => (ab_li ((v1 :: ps).map some) k).getD 0) := by
    rw [ab_oob' (by omega)]
    unfold ab_ob
    rw [if_neg (by omega), if_neg (by omega)]
    rfl
  rw [e1, e2]
  unfold kn_g
  have h0 : gh_a cs 66 7 = gh_a cs1 76 40 := by
    unfold gh_a
    rw [h _ rel_m66]
  rw [h0]
  show kn_l _ _ ((ab_li ((v0 :: ps).map some) 1).getD 0) ((ab_li ((v0 :: ps).map some) 2).getD 0) _ = kn_l _ _ ((ab_li ((v1 :: ps).map some) 1).getD 0) ((ab_li ((v1 :: ps).map some) 2).getD 0) _
  have l1 : ab_li ((v0 :: ps).map some) 1 = ab_li ((v1 :: ps).map some) 1 := rfl
  have l2 : ab_li ((v0 :: ps).map some) 2 = ab_li ((v1 :: ps).map some) 2 := rfl
  rw [l1, l2]
  refine kn_c _ (fun j hj => ?_)
  have hj40 : j < 40 := by omega
  refine ⟨?_, ?_⟩
  · unfold gh_a
    rw [h _ (rel_m67 ⟨j, hj40⟩)]
  · unfold gh_a
    rw [h _ (rel_m70 ⟨j, hj40⟩)]
theorem rel_keep {W1 W2 : ab_W} {cs cs1 cs2 : ex_C} (h1 : ab_fr W1 cs cs1) (h2 : ab_fr W2 cs1 cs2) (hW1 : rel_p.all (fun p => !ab_cov W1 p.1.1 p.1.2 && !ab_cov W1 p.2.1 p.2.2) = true) (hW2 : rel_p.all (fun p => !ab_cov W2 p.1.1 p.1.2 && !ab_cov W2 p.2.1 p.2.2) = true) (h : rel_R cs) : rel_R cs2 := am_keep h1 h2 hW1 hW2 h
def sc_X9_ahead : List ((Nat × Nat) × Bool) := [((6, 6), false), ((66, 7), false), ((66, 9), false), ((67, 0), false), ((67, 1), false), ((67, 2), false), ((67, 3), false), ((67, 4), false), ((67, 5), false), ((67, 6), false), ((67, 7), false), ((67, 8), false), ((67, 9), false), ((67, 10), false), ((67, 11), false), ((67, 12), false), ((67, 13), false), ((67, 14), false), ((67, 15), false), ((67, 16), false), ((67, 17), false), ((67, 18), false), ((67, 19), false), ((67, 20), false), ((67, 21), false), ((67, 22), false), ((67, 23), false), ((67, 24), false), ((67, 25), false), ((67, 26), false), ((67, 27), false), ((67, 28), false), ((67, 29), false), ((67, 30), false), ((67, 31), false), ((67, 32), false), ((67, 33), false), ((67, 34), false), ((67, 35), false), ((67, 36), false), ((67, 37), false), ((67, 38), false), ((67, 39), false), ((70, 0), false), ((70, 1), false), ((70, 2), false), ((70, 3), false), ((70, 4), false), ((70, 5), false), ((70, 6), false), ((70, 7), false), ((70, 8), false), ((70, 9), false), ((70, 10), false), ((70, 11), false), ((70, 12), false), ((70, 13), false), ((70, 14), false), ((70, 15), false), ((70, 16), false), ((70, 17), false), ((70, 18), false), ((70, 19), false), ((70, 20), false), ((70, 21), false), ((70, 22), false), ((70, 23), false), ((70, 24), false), ((70, 25), false), ((70, 26), false), ((70, 27), false), ((70, 28), false), ((70, 29), false), ((70, 30), false), ((70, 31), false), ((70, 32), false), ((70, 33), false), ((70, 34), false), ((70, 35), false), ((70, 36), false), ((70, 37), false), ((70, 38), false), ((70, 39), false)]
def sc_X10_ahead : List ((Nat × Nat) × Bool) := [((101, 0), true), ((76, 40), false), ((76, 49), false), ((106, 0), false), ((106, 1), false), ((106, 2), false), ((106, 3), false), ((106, 4), false), ((106, 5), false), ((106, 6), false), ((106, 7), false), ((106, 8), false), ((106, 9), false), ((106, 10), false), ((106, 11), false), ((106, 12), false), ((106, 13), false), ((106, 14), false), ((106, 15), false), ((106, 16), false), ((106, 17), false), ((106, 18), false), ((106, 19), false), ((106, 20), false), ((106, 21), false), ((106, 22), false), ((106, 23), false), ((106, 24), false), ((106, 25), false), ((106, 26), false), ((106, 27), false), ((106, 28), false), ((106, 29), false), ((106, 30), false), ((106, 31), false), ((106, 32), false), ((106, 33), false), ((106, 34), false), ((106, 35), false), ((106, 36), false), ((106, 37), false), ((106, 38), false), ((106, 39), false), ((109, 0), false), ((109, 1), false), ((109, 2), false), ((109, 3), false), ((109, 4), false), ((109, 5), false), ((109, 6), false), ((109, 7), false), ((109, 8), false), ((109, 9), false), ((109, 10), false), ((109, 11), false), ((109, 12), false), ((109, 13), false), ((109, 14), false), ((109, 15), false), ((109, 16), false), ((109, 17), false), ((109, 18), false), ((109, 19), false), ((109, 20), false), ((109, 21), false), ((109, 22), false), ((109, 23), false), ((109, 24), false), ((109, 25), false), ((109, 26), false), ((109, 27), false), ((109, 28), false), ((109, 29), false), ((109, 30), false), ((109, 31), false), ((109, 32), false), ((109, 33), false), ((109, 34), false), ((109, 35), false), ((109, 36), false), ((109, 37), false), ((109, 38), false), ((109, 39), false)]
def sn_X9_ahead : List am_N := [([], [], ([[(some 7006, 0)], [(some 67007, 0)], [(some 67009, 0)]] ++ am_un 68000 40 ++ am_un 71000 40))]
def sn_X10_ahead : List am_N := [([], [], ([[(some 7006, 0)], [(some 67007, 0)], [(some 67009, 0)]] ++ am_un 68000 40 ++ am_un 71000 40))]
theorem sq_ahead : am_chk rel_p rel_g bc_X9_ahead bc_X10_ahead sc_X9_ahead sc_X10_ahead sn_X9_ahead sn_X10_ahead = true := by decide +kernel
theorem sa_ahead : sn_X9_ahead.all (fun n => sn_X10_ahead.all (am_ok false n)) = true := by decide +kernel
theorem step_ahead {c0 c1 : ab_C} {a x y : Int32} {cs cs1 cs2 : ex_C} (hc : bc_X9_ahead = [c0]) (hc' : bc_X10_ahead = [c1]) (h : ab_post ab_hd c0 [.ref 0, .int a] cs (some (.int x)) cs1) (h' : ab_post ab_hd c1 [.ref 76, .int a] cs1 (some (.int y)) cs2) (hR : rel_R cs) : rel_R cs2 := by
  have q := sq_ahead
  rw [hc, hc'] at q
  obtain ⟨q1, f9, f10, q2, q3⟩ := am_chkk q
  have r := am_main q1 f9 f10 q2 q3 sa_ahead h h' hR rel_gh
  exact r.2
def sc_X9_check : List ((Nat × Nat) × Bool) := [((6, 6), false), ((66, 7), false), ((66, 9), false), ((67, 0), false), ((67, 1), false), ((67, 2), false), ((67, 3), false), ((67, 4), false), ((67, 5), false), ((67, 6), false), ((67, 7), false), ((67, 8), false), ((67, 9), false), ((67, 10), false), ((67, 11), false), ((67, 12), false), ((67, 13), false), ((67, 14), false), ((67, 15), false), ((67, 16), false), ((67, 17), false), ((67, 18), false), ((67, 19), false), ((67, 20), false), ((67, 21), false), ((67, 22), false), ((67, 23), false), ((67, 24), false), ((67, 25), false), ((67, 26), false), ((67, 27), false), ((67, 28), false), ((67, 29), false), ((67, 30), false), ((67, 31), false), ((67, 32), false), ((67, 33), false), ((67, 34), false), ((67, 35), false), ((67, 36), false), ((67, 37), false), ((67, 38), false), ((67, 39), false), ((70, 0), false), ((70, 1), false), ((70, 2), false), ((70, 3), false), ((70, 4), false), ((70, 5), false), ((70, 6), false), ((70, 7), false), ((70, 8), false), ((70, 9), false), ((70, 10), false), ((70, 11), false), ((70, 12), false), ((70, 13), false), ((70, 14), false), ((70, 15), false), ((70, 16), false), ((70, 17), false), ((70, 18), false), ((70, 19), false), ((70, 20), false), ((70, 21), false), ((70, 22), false), ((70, 23), false), ((70, 24), false), ((70, 25), false), ((70, 26), false), ((70, 27), false), ((70, 28), false), ((70, 29), false), ((70, 30), false), ((70, 31), false), ((70, 32), false), ((70, 33), false), ((70, 34), false), ((70, 35), false), ((70, 36), false), ((70, 37), false), ((70, 38), false), ((70, 39), false)]
def sc_X10_check : List ((Nat × Nat) × Bool) := [((101, 0), true), ((76, 40), false), ((76, 49), false), ((106, 0), false), ((106, 1), false), ((106, 2), false), ((106, 3), false), ((106, 4), false), ((106, 5), false), ((106, 6), false), ((106, 7), false), ((106, 8), false), ((106, 9), false), ((106, 10), false), ((106, 11), false), ((106, 12), false), ((106, 13), false), ((106, 14), false), ((106, 15), false), ((106, 16), false), ((106, 17), false), ((106, 18), false), ((106, 19), false), ((106, 20), false), ((106, 21), false), ((106, 22), false), ((106, 23), false), ((106, 24), false), ((106, 25), false), ((106, 26), false), ((106, 27), false), ((106, 28), false), ((106, 29), false), ((106, 30), false), ((106, 31), false), ((106, 32), false), ((106, 33), false), ((106, 34), false), ((106, 35), false), ((106, 36), false), ((106, 37), false), ((106, 38), false), ((106, 39), false), ((109, 0), false), ((109, 1), false), ((109, 2), false), ((109, 3), false), ((109, 4), false), ((109, 5), false), ((109, 6), false), ((109, 7), false), ((109, 8), false), ((109, 9), false), ((109, 10), false), ((109, 11), false), ((109, 12), false), ((109, 13), false), ((109, 14), false), ((109, 15), false), ((109, 16), false), ((109, 17), false), ((109, 18), false), ((109, 19), false), ((109, 20), false), ((109, 21), false), ((109, 22), false), ((109, 23), false), ((109, 24), false), ((109, 25), false), ((109, 26), false), ((109, 27), false), ((109, 28), false), ((109, 29), false), ((109, 30), false), ((109, 31), false), ((109, 32), false), ((109, 33), false), ((109, 34), false), ((109, 35), false), ((109, 36), false), ((109, 37), false), ((109, 38), false), ((109, 39), false)]
def sn_X9_check : List am_N := [([], [], ([[(some 7006, 0)], [(some 67007, 0)], [(some 67009, 0)]] ++ am_un 68000 40 ++ am_un 71000 40))]
def sn_X10_check : List am_N := [([], [], ([[(some 7006, 0)], [(some 67007, 0)], [(some 67009, 0)]] ++ am_un 68000 40 ++ am_un 71000 40))]
theorem sq_check : am_chk rel_p rel_g bc_X9_check bc_X10_check sc_X9_check sc_X10_check sn_X9_check sn_X10_check = true := by decide +kernel
theorem sa_check : sn_X9_check.all (fun n => sn_X10_check.all (am_ok false n)) = true := by decide +kernel
theorem step_check {c0 c1 : ab_C} {a b x y : Int32} {cs cs1 cs2 : ex_C} (hc : bc_X9_check = [c0]) (hc' : bc_X10_check = [c1]) (h : ab_post ab_hd c0 [.ref 0, .int a, .int b] cs (some (.int x)) cs1) (h' : ab_post ab_hd c1 [.ref 76, .int a, .int b] cs1 (some (.int y)) cs2) (hR : rel_R cs) : rel_R cs2 := by
  have q := sq_check
  rw [hc, hc'] at q
  obtain ⟨q1, f9, f10, q2, q3⟩ := am_chkk q
  have r := am_main q1 f9 f10 q2 q3 sa_check h h' hR rel_gh
  exact r.2
def sc_X9_delay : List ((Nat × Nat) × Bool) := [((6, 6), false), ((66, 7), false), ((66, 9), true), ((67, 0), false), ((67, 1), false), ((67, 2), false), ((67, 3), false), ((67, 4), false), ((67, 5), false), ((67, 6), false), ((67, 7), false), ((67, 8), false), ((67, 9), false), ((67, 10), false), ((67, 11), false), ((67, 12), false), ((67, 13), false), ((67, 14), false), ((67, 15), false), ((67, 16), false), ((67, 17), false), ((67, 18), false), ((67, 19), false), ((67, 20), false), ((67, 21), false), ((67, 22), false), ((67, 23), false), ((67, 24), false), ((67, 25), false), ((67, 26), false), ((67, 27), false), ((67, 28), false), ((67, 29), false), ((67, 30), false), ((67, 31), false), ((67, 32), false), ((67, 33), false), ((67, 34), false), ((67, 35), false), ((67, 36), false), ((67, 37), false), ((67, 38), false), ((67, 39), false), ((70, 0), false), ((70, 1), false), ((70, 2), false), ((70, 3), false), ((70, 4), false), ((70, 5), false), ((70, 6), false), ((70, 7), false), ((70, 8), false), ((70, 9), false), ((70, 10), false), ((70, 11), false), ((70, 12), false), ((70, 13), false), ((70, 14), false), ((70, 15), false), ((70, 16), false), ((70, 17), false), ((70, 18), false), ((70, 19), false), ((70, 20), false), ((70, 21), false), ((70, 22), false), ((70, 23), false), ((70, 24), false), ((70, 25), false), ((70, 26), false), ((70, 27), false), ((70, 28), false), ((70, 29), false), ((70, 30), false), ((70, 31), false), ((70, 32), false), ((70, 33), false), ((70, 34), false), ((70, 35), false), ((70, 36), false), ((70, 37), false), ((70, 38), false), ((70, 39), false)]
def sc_X10_delay : List ((Nat × Nat) × Bool) := [((101, 0), false), ((76, 40), false), ((76, 49), true), ((106, 0), false), ((106, 1), false), ((106, 2), false), ((106, 3), false), ((106, 4), false), ((106, 5), false), ((106, 6), false), ((106, 7), false), ((106, 8), false), ((106, 9), false), ((106, 10), false), ((106, 11), false), ((106, 12), false), ((106, 13), false), ((106, 14), false), ((106, 15), false), ((106, 16), false), ((106, 17), false), ((106, 18), false), ((106, 19), false), ((106, 20), false), ((106, 21), false), ((106, 22), false), ((106, 23), false), ((106, 24), false), ((106, 25), false), ((106, 26), false), ((106, 27), false), ((106, 28), false), ((106, 29), false), ((106, 30), false), ((106, 31), false), ((106, 32), false), ((106, 33), false), ((106, 34), false), ((106, 35), false), ((106, 36), false), ((106, 37), false), ((106, 38), false), ((106, 39), false), ((109, 0), false), ((109, 1), false), ((109, 2), false), ((109, 3), false), ((109, 4), false), ((109, 5), false), ((109, 6), false), ((109, 7), false), ((109, 8), false), ((109, 9), false), ((109, 10), false), ((109, 11), false), ((109, 12), false), ((109, 13), false), ((109, 14), false), ((109, 15), false), ((109, 16), false), ((109, 17), false), ((109, 18), false), ((109, 19), false), ((109, 20), false), ((109, 21), false), ((109, 22), false), ((109, 23), false), ((109, 24), false), ((109, 25), false), ((109, 26), false), ((109, 27), false), ((109, 28), false), ((109, 29), false), ((109, 30), false), ((109, 31), false), ((109, 32), false), ((109, 33), false), ((109, 34), false), ((109, 35), false), ((109, 36), false), ((109, 37), false), ((109, 38), false), ((109, 39), false)]
def se_X9_delay_0 : List (List am_V) := ([[(some 7006, 0)], [(some 67007, 0)], [(some 67009, 0)]] ++ am_un 68000 40 ++ am_un 71000 40)
def se_X9_delay_1 : List (List am_V) := ([[(some 7006, 0)], [(some 67007, 0)], [(some 1, 0)]] ++ am_un 68000 40 ++ am_un 71000 40)
def sn_X9_delay : List am_N := [([((8, 1, 0), (-2147483648), (-1))], [(none, (-1000000001))], se_X9_delay_0),
  ([((8, 1, 0), 0, 100)], [(some 67009, 0)], se_X9_delay_1),
  ([((8, 1, 0), 101, 2147483647)], [(none, (-1000000001))], se_X9_delay_0)]
def se_X10_delay_0 : List (List am_V) := ([[(some 7006, 0)], [(some 67007, 0)], [(some 67009, 0)]] ++ am_un 68000 40 ++ am_un 71000 40)
def se_X10_delay_1 : List (List am_V) := ([[(some 7006, 0)], [(some 67007, 0)], [(some 1, 0)]] ++ am_un 68000 40 ++ am_un 71000 40)
def sn_X10_delay : List am_N := [([((8, 1, 0), (-2147483648), (-1))], [(none, (-1000000001))], se_X10_delay_0),
  ([((8, 1, 0), 101, 2147483647)], [(none, (-1000000001))], se_X10_delay_0),
  ([((8, 1, 0), 0, 100)], [(some 67009, 0)], se_X10_delay_1)]
theorem sq_delay : am_chk rel_p rel_g bc_X9_delay bc_X10_delay sc_X9_delay sc_X10_delay sn_X9_delay sn_X10_delay = true := by decide +kernel
theorem sa_delay : sn_X9_delay.all (fun n => sn_X10_delay.all (am_ok false n)) = true := by decide +kernel
theorem step_delay {c0 c1 : ab_C} {a x y : Int32} {cs cs1 cs2 : ex_C} (hc : bc_X9_delay = [c0]) (hc' : bc_X10_delay = [c1]) (h : ab_post ab_hd c0 [.ref 0, .int a] cs (some (.int x)) cs1) (h' : ab_post ab_hd c1 [.ref 76, .int a] cs1 (some (.int y)) cs2) (hR : rel_R cs) : rel_R cs2 := by
  have q := sq_delay
  rw [hc, hc'] at q
  obtain ⟨q1, f9, f10, q2, q3⟩ := am_chkk q
  have r := am_main q1 f9 f10 q2 q3 sa_delay h h' hR rel_gh
  exact r.2
def sc_X9_known : List ((Nat × Nat) × Bool) := [((6, 6), false), ((66, 7), false), ((66, 9), false), ((67, 0), false), ((67, 1), false), ((67, 2), false), ((67, 3), false), ((67, 4), false), ((67, 5), false), ((67, 6), false), ((67, 7), false), ((67, 8), false), ((67, 9), false), ((67, 10), false), ((67, 11), false), ((67, 12), false), ((67, 13), false), ((67, 14), false), ((67, 15), false), ((67, 16), false), ((67, 17), false), ((67, 18), false), ((67, 19), false), ((67, 20), false), ((67, 21), false), ((67, 22), false), ((67, 23), false), ((67, 24), false), ((67, 25), false), ((67, 26), false), ((67, 27), false), ((67, 28), false), ((67, 29), false), ((67, 30), false), ((67, 31), false), ((67, 32), false), ((67, 33), false), ((67, 34), false), ((67, 35), false), ((67, 36), false), ((67, 37), false), ((67, 38), false), ((67, 39), false), ((70, 0), false), ((70, 1), false), ((70, 2), false), ((70, 3), false), ((70, 4), false), ((70, 5), false), ((70, 6), false), ((70, 7), false), ((70, 8), false), ((70, 9), false), ((70, 10), false), ((70, 11), false), ((70, 12), false), ((70, 13), false), ((70, 14), false), ((70, 15), false), ((70, 16), false), ((70, 17), false), ((70, 18), false), ((70, 19), false), ((70, 20), false), ((70, 21), false), ((70, 22), false), ((70, 23), false), ((70, 24), false), ((70, 25), false), ((70, 26), false), ((70, 27), false), ((70, 28), false), ((70, 29), false), ((70, 30), false), ((70, 31), false), ((70, 32), false), ((70, 33), false), ((70, 34), false), ((70, 35), false), ((70, 36), false), ((70, 37), false), ((70, 38), false), ((70, 39), false)]
def sc_X10_known : List ((Nat × Nat) × Bool) := [((101, 0), false), ((76, 40), false), ((76, 49), false), ((106, 0), false), ((106, 1), false), ((106, 2), false), ((106, 3), false), ((106, 4), false), ((106, 5), false), ((106, 6), false), ((106, 7), false), ((106, 8), false), ((106, 9), false), ((106, 10), false), ((106, 11), false), ((106, 12), false), ((106, 13), false), ((106, 14), false), ((106, 15), false), ((106, 16), false), ((106, 17), false), ((106, 18), false), ((106, 19), false), ((106, 20), false), ((106, 21), false), ((106, 22), false), ((106, 23), false), ((106, 24), false), ((106, 25), false), ((106, 26), false), ((106, 27), false), ((106, 28), false), ((106, 29), false), ((106, 30), false), ((106, 31), false), ((106, 32), false), ((106, 33), false), ((106, 34), false), ((106, 35), false), ((106, 36), false), ((106, 37), false), ((106, 38), false), ((106, 39), false), ((109, 0), false), ((109, 1), false), ((109, 2), false), ((109, 3), false), ((109, 4), false), ((109, 5), false), ((109, 6), false), ((109, 7), false), ((109, 8), false), ((109, 9), false), ((109, 10), false), ((109, 11), false), ((109, 12), false), ((109, 13), false), ((109, 14), false), ((109, 15), false), ((109, 16), false), ((109, 17), false), ((109, 18), false), ((109, 19), false), ((109, 20), false), ((109, 21), false), ((109, 22), false), ((109, 23), false), ((109, 24), false), ((109, 25), false), ((109, 26), false), ((109, 27), false), ((109, 28), false), ((109, 29), false), ((109, 30), false), ((109, 31), false), ((109, 32), false), ((109, 33), false), ((109, 34), false), ((109, 35), false), ((109, 36), false), ((109, 37), false), ((109, 38), false), ((109, 39), false)]
def se_X9_known_0 : List (List am_V) := ([[(some 7006, 0)], [(some 67007, 0)], [(some 67009, 0)]] ++ am_un 68000 40 ++ am_un 71000 40)
def sn_X9_known : List am_N := [([((8, 1, 0), 0, 3), ((8, 2, 0), 0, 4000), ((8, 900000000, 0), (-1), (-1))], [(none, (-1000000002))], se_X9_known_0),
  ([((8, 1, 0), 0, 3), ((8, 2, 0), 0, 4000), ((8, 900000000, 0), 0, 39)], [(some 900000000, 0)], se_X9_known_0),
  ([((8, 1, 0), 0, 3), ((8, 2, 0), (-2147483648), (-1))], [(none, (-1000000001))], se_X9_known_0),
  ([((8, 1, 0), 0, 3), ((8, 2, 0), 4001, 2147483647)], [(none, (-1000000001))], se_X9_known_0),
  ([((8, 1, 0), 4, 2147483647)], [(none, (-1000000001))], se_X9_known_0),
  ([((8, 1, 0), (-2147483648), (-1))], [(none, (-1000000001))], se_X9_known_0)]
def se_X10_known_0 : List (List am_V) := ([[(some 7006, 0)], [(some 67007, 0)], [(some 67009, 0)]] ++ am_un 68000 40 ++ am_un 71000 40)
def sn_X10_known : List am_N := [([((8, 1, 0), (-2147483648), (-1))], [(none, (-1000000001))], se_X10_known_0),
  ([((8, 1, 0), 4, 2147483647)], [(none, (-1000000001))], se_X10_known_0),
  ([((8, 1, 0), 0, 3), ((8, 2, 0), (-2147483648), (-1))], [(none, (-1000000001))], se_X10_known_0),
  ([((8, 1, 0), 0, 3), ((8, 2, 0), 4001, 2147483647)], [(none, (-1000000001))], se_X10_known_0),
  ([((8, 1, 0), 0, 3), ((8, 2, 0), 0, 4000), ((8, 900000000, 0), (-1), (-1))], [(none, (-1000000002))], se_X10_known_0),
  ([((8, 1, 0), 0, 3), ((8, 2, 0), 0, 4000), ((8, 900000000, 0), 0, 39)], [(some 900000000, 0)], se_X10_known_0)]
theorem sq_known : am_chk rel_p rel_g bc_X9_known bc_X10_known sc_X9_known sc_X10_known sn_X9_known sn_X10_known = true := by decide +kernel
theorem sa_known : sn_X9_known.all (fun n => sn_X10_known.all (am_ok true n)) = true := by decide +kernel
theorem step_known {c0 c1 : ab_C} {a b x y : Int32} {cs cs1 cs2 : ex_C} (hc : bc_X9_known = [c0]) (hc' : bc_X10_known = [c1]) (h : ab_post ab_hd c0 [.ref 0, .int a, .int b] cs (some (.int x)) cs1) (h' : ab_post ab_hd c1 [.ref 76, .int a, .int b] cs1 (some (.int y)) cs2) (hR : rel_R cs) : x = y ∧ rel_R cs2 := by
  have q := sq_known
  rw [hc, hc'] at q
  obtain ⟨q1, f9, f10, q2, q3⟩ := am_chkk q
  have r := am_main q1 f9 f10 q2 q3 sa_known h h' hR rel_gh
  exact ⟨r.1 rfl, r.2⟩
def sc_X9_read : List ((Nat × Nat) × Bool) := [((6, 6), false), ((66, 7), true), ((66, 9), false), ((67, 0), true), ((67, 1), true), ((67, 2), true), ((67, 3), true), ((67, 4), true), ((67, 5), true), ((67, 6), true), ((67, 7), true), ((67, 8), true), ((67, 9), true), ((67, 10), true), ((67, 11), true), ((67, 12), true), ((67, 13), true), ((67, 14), true), ((67, 15), true), ((67, 16), true), ((67, 17), true), ((67, 18), true), ((67, 19), true), ((67, 20), true), ((67, 21), true), ((67, 22), true), ((67, 23), true), ((67, 24), true), ((67, 25), true), ((67, 26), true), ((67, 27), true), ((67, 28), true), ((67, 29), true), ((67, 30), true), ((67, 31), true), ((67, 32), true), ((67, 33), true), ((67, 34), true), ((67, 35), true), ((67, 36), true), ((67, 37), true), ((67, 38), true), ((67, 39), true), ((70, 0), true), ((70, 1), true), ((70, 2), true), ((70, 3), true), ((70, 4), true), ((70, 5), true), ((70, 6), true), ((70, 7), true), ((70, 8), true), ((70, 9), true), ((70, 10), true), ((70, 11), true), ((70, 12), true), ((70, 13), true), ((70, 14), true), ((70, 15), true), ((70, 16), true), ((70, 17), true), ((70, 18), true), ((70, 19), true), ((70, 20), true), ((70, 21), true), ((70, 22), true), ((70, 23), true), ((70, 24), true), ((70, 25), true), ((70, 26), true), ((70, 27), true), ((70, 28), true), ((70, 29), true), ((70, 30), true), ((70, 31), true), ((70, 32), true), ((70, 33), true), ((70, 34), true), ((70, 35), true), ((70, 36), true), ((70, 37), true), ((70, 38), true), ((70, 39), true)]
def sc_X10_read : List ((Nat × Nat) × Bool) := [((101, 0), false), ((76, 40), true), ((76, 49), false), ((106, 0), true), ((106, 1), true), ((106, 2), true), ((106, 3), true), ((106, 4), true), ((106, 5), true), ((106, 6), true), ((106, 7), true), ((106, 8), true), ((106, 9), true), ((106, 10), true), ((106, 11), true), ((106, 12), true), ((106, 13), true), ((106, 14), true), ((106, 15), true), ((106, 16), true), ((106, 17), true), ((106, 18), true), ((106, 19), true), ((106, 20), true), ((106, 21), true), ((106, 22), true), ((106, 23), true), ((106, 24), true), ((106, 25), true), ((106, 26), true), ((106, 27), true), ((106, 28), true), ((106, 29), true), ((106, 30), true), ((106, 31), true), ((106, 32), true), ((106, 33), true), ((106, 34), true), ((106, 35), true), ((106, 36), true), ((106, 37), true), ((106, 38), true), ((106, 39), true), ((109, 0), true), ((109, 1), true), ((109, 2), true), ((109, 3), true), ((109, 4), true), ((109, 5), true), ((109, 6), true), ((109, 7), true), ((109, 8), true), ((109, 9), true), ((109, 10), true), ((109, 11), true), ((109, 12), true), ((109, 13), true), ((109, 14), true), ((109, 15), true), ((109, 16), true), ((109, 17), true), ((109, 18), true), ((109, 19), true), ((109, 20), true), ((109, 21), true), ((109, 22), true), ((109, 23), true), ((109, 24), true), ((109, 25), true), ((109, 26), true), ((109, 27), true), ((109, 28), true), ((109, 29), true), ((109, 30), true), ((109, 31), true), ((109, 32), true), ((109, 33), true), ((109, 34), true), ((109, 35), true), ((109, 36), true), ((109, 37), true), ((109, 38), true), ((109, 39), true)]
def se_X9_read_0 : List (List am_V) := ([[(some 7006, 0)], [(some 67007, 0)], [(some 67009, 0)]] ++ am_un 68000 40 ++ am_un 71000 40)
def se_X9_read_1 : List (List am_V) := ([[(some 7006, 0)], [(none, 1), (some 67007, 1)], [(some 67009, 0)], [(some 1, 0)]] ++ am_un 68001 39 ++ [[(some 1000000102, 0)]] ++ am_un 71001 39)
def se_X9_read_2 : List (List am_V) := ([[(some 7006, 0)], [(none, 2), (some 67007, 1)], [(some 67009, 0)], [(some 68000, 0)], [(some 1, 0)]] ++ am_un 68002 38 ++ [[(some 71000, 0)], [(some 1000000102, 0)]] ++ am_un 71002 38)
def se_X9_read_3 : List (List am_V) := ([[(some 7006, 0)], [(none, 3), (some 67007, 1)], [(some 67009, 0)], [(some 68000, 0)], [(some 68001, 0)], [(some 1, 0)]] ++ am_un 68003 37 ++ [[(some 71000, 0)], [(some 71001, 0)], [(some 1000000102, 0)]] ++ am_un 71003 37)
def se_X9_read_4 : List (List am_V) := ([[(some 7006, 0)], [(none, 4), (some 67007, 1)], [(some 67009, 0)], [(some 68000, 0)], [(some 68001, 0)], [(some 68002, 0)], [(some 1, 0)]] ++ am_un 68004 36 ++ [[(some 71000, 0)], [(some 71001, 0)], [(some 71002, 0)], [(some 1000000102, 0)]] ++ am_un 71004 36)
def se_X9_read_5 : List (List am_V) := ([[(some 7006, 0)], [(none, 5), (some 67007, 1)], [(some 67009, 0)]] ++ am_un 68000 4 ++ [[(some 1, 0)]] ++ am_un 68005 35 ++ am_un 71000 4 ++ [[(some 1000000102, 0)]] ++ am_un 71005 35)
def se_X9_read_6 : List (List am_V) := ([[(some 7006, 0)], [(none, 6), (some 67007, 1)], [(some 67009, 0)]] ++ am_un 68000 5 ++ [[(some 1, 0)]] ++ am_un 68006 34 ++ am_un 71000 5 ++ [[(some 1000000102, 0)]] ++ am_un 71006 34)
def se_X9_read_7 : List (List am_V) := ([[(some 7006, 0)], [(none, 7), (some 67007, 1)], [(some 67009, 0)]] ++ am_un 68000 6 ++ [[(some 1, 0)]] ++ am_un 68007 33 ++ am_un 71000 6 ++ [[(some 1000000102, 0)]] ++ am_un 71007 33)
def se_X9_read_8 : List (List am_V) := ([[(some 7006, 0)], [(none, 8), (some 67007, 1)], [(some 67009, 0)]] ++ am_un 68000 7 ++ [[(some 1, 0)]] ++ am_un 68008 32 ++ am_un 71000 7 ++ [[(some 1000000102, 0)]] ++ am_un 71008 32)
def se_X9_read_9 : List (List am_V) := ([[(some 7006, 0)], [(none, 9), (some 67007, 1)], [(some 67009, 0)]] ++ am_un 68000 8 ++ [[(some 1, 0)]] ++ am_un 68009 31 ++ am_un 71000 8 ++ [[(some 1000000102, 0)]] ++ am_un 71009 31)
def se_X9_read_10 : List (List am_V) := ([[(some 7006, 0)], [(none, 10), (some 67007, 1)], [(some 67009, 0)]] ++ am_un 68000 9 ++ [[(some 1, 0)]] ++ am_un 68010 30 ++ am_un 71000 9 ++ [[(some 1000000102, 0)]] ++ am_un 71010 30)
def se_X9_read_11 : List (List am_V) := ([[(some 7006, 0)], [(none, 11), (some 67007, 1)], [(some 67009, 0)]] ++ am_un 68000 10 ++ [[(some 1, 0)]] ++ am_un 68011 29 ++ am_un 71000 10 ++ [[(some 1000000102, 0)]] ++ am_un 71011 29)
def se_X9_read_12 : List (List am_V) := ([[(some 7006, 0)], [(none, 12), (some 67007, 1)], [(some 67009, 0)]] ++ am_un 68000 11 ++ [[(some 1, 0)]] ++ am_un 68012 28 ++ am_un 71000 11 ++ [[(some 1000000102, 0)]] ++ am_un 71012 28)
def se_X9_read_13 : List (List am_V) := ([[(some 7006, 0)], [(none, 13), (some 67007, 1)], [(some 67009, 0)]] ++ am_un 68000 12 ++ [[(some 1, 0)]] ++ am_un 68013 27 ++ am_un 71000 12 ++ [[(some 1000000102, 0)]] ++ am_un 71013 27)
def se_X9_read_14 : List (List am_V) := ([[(some 7006, 0)], [(none, 14), (some 67007, 1)], [(some 67009, 0)]] ++ am_un 68000 13 ++ [[(some 1, 0)]] ++ am_un 68014 26 ++ am_un 71000 13 ++ [[(some 1000000102, 0)]] ++ am_un 71014 26)
def se_X9_read_15 : List (List am_V) := ([[(some 7006, 0)], [(none, 15), (some 67007, 1)], [(some 67009, 0)]] ++ am_un 68000 14 ++ [[(some 1, 0)]] ++ am_un 68015 25 ++ am_un 71000 14 ++ [[(some 1000000102, 0)]] ++ am_un 71015 25)
def se_X9_read_16 : List (List am_V) := ([[(some 7006, 0)], [(none, 16), (some 67007, 1)], [(some 67009, 0)]] ++ am_un 68000 15 ++ [[(some 1, 0)]] ++ am_un 68016 24 ++ am_un 71000 15 ++ [[(some 1000000102, 0)]] ++ am_un 71016 24)
def se_X9_read_17 : List (List am_V) := ([[(some 7006, 0)], [(none, 17), (some 67007, 1)], [(some 67009, 0)]] ++ am_un 68000 16 ++ [[(some 1, 0)]] ++ am_un 68017 23 ++ am_un 71000 16 ++ [[(some 1000000102, 0)]] ++ am_un 71017 23)
def se_X9_read_18 : List (List am_V) := ([[(some 7006, 0)], [(none, 18), (some 67007, 1)], [(some 67009, 0)]] ++ am_un 68000 17 ++ [[(some 1, 0)]] ++ am_un 68018 22 ++ am_un 71000 17 ++ [[(some 1000000102, 0)]] ++ am_un 71018 22)
def se_X9_read_19 : List (List am_V) := ([[(some 7006, 0)], [(none, 19), (some 67007, 1)], [(some 67009, 0)]] ++ am_un 68000 18 ++ [[(some 1, 0)]] ++ am_un 68019 21 ++ am_un 71000 18 ++ [[(some 1000000102, 0)]] ++ am_un 71019 21)
def se_X9_read_20 : List (List am_V) := ([[(some 7006, 0)], [(none, 20), (some 67007, 1)], [(some 67009, 0)]] ++ am_un 68000 19 ++ [[(some 1, 0)]] ++ am_un 68020 20 ++ am_un 71000 19 ++ [[(some 1000000102, 0)]] ++ am_un 71020 20)
def se_X9_read_21 : List (List am_V) := ([[(some 7006, 0)], [(none, 21), (some 67007, 1)], [(some 67009, 0)]] ++ am_un 68000 20 ++ [[(some 1, 0)]] ++ am_un 68021 19 ++ am_un 71000 20 ++ [[(some 1000000102, 0)]] ++ am_un 71021 19)
def se_X9_read_22 : List (List am_V) := ([[(some 7006, 0)], [(none, 22), (some 67007, 1)], [(some 67009, 0)]] ++ am_un 68000 21 ++ [[(some 1, 0)]] ++ am_un 68022 18 ++ am_un 71000 21 ++ [[(some 1000000102, 0)]] ++ am_un 71022 18)
def se_X9_read_23 : List (List am_V) := ([[(some 7006, 0)], [(none, 23), (some 67007, 1)], [(some 67009, 0)]] ++ am_un 68000 22 ++ [[(some 1, 0)]] ++ am_un 68023 17 ++ am_un 71000 22 ++ [[(some 1000000102, 0)]] ++ am_un 71023 17)
def se_X9_read_24 : List (List am_V) := ([[(some 7006, 0)], [(none, 24), (some 67007, 1)], [(some 67009, 0)]] ++ am_un 68000 23 ++ [[(some 1, 0)]] ++ am_un 68024 16 ++ am_un 71000 23 ++ [[(some 1000000102, 0)]] ++ am_un 71024 16)
def se_X9_read_25 : List (List am_V) := ([[(some 7006, 0)], [(none, 25), (some 67007, 1)], [(some 67009, 0)]] ++ am_un 68000 24 ++ [[(some 1, 0)]] ++ am_un 68025 15 ++ am_un 71000 24 ++ [[(some 1000000102, 0)]] ++ am_un 71025 15)
def se_X9_read_26 : List (List am_V) := ([[(some 7006, 0)], [(none, 26), (some 67007, 1)], [(some 67009, 0)]] ++ am_un 68000 25 ++ [[(some 1, 0)]] ++ am_un 68026 14 ++ am_un 71000 25 ++ [[(some 1000000102, 0)]] ++ am_un 71026 14)
def se_X9_read_27 : List (List am_V) := ([[(some 7006, 0)], [(none, 27), (some 67007, 1)], [(some 67009, 0)]] ++ am_un 68000 26 ++ [[(some 1, 0)]] ++ am_un 68027 13 ++ am_un 71000 26 ++ [[(some 1000000102, 0)]] ++ am_un 71027 13)
def se_X9_read_28 : List (List am_V) := ([[(some 7006, 0)], [(none, 28), (some 67007, 1)], [(some 67009, 0)]] ++ am_un 68000 27 ++ [[(some 1, 0)]] ++ am_un 68028 12 ++ am_un 71000 27 ++ [[(some 1000000102, 0)]] ++ am_un 71028 12)
def se_X9_read_29 : List (List am_V) := ([[(some 7006, 0)], [(none, 29), (some 67007, 1)], [(some 67009, 0)]] ++ am_un 68000 28 ++ [[(some 1, 0)]] ++ am_un 68029 11 ++ am_un 71000 28 ++ [[(some 1000000102, 0)]] ++ am_un 71029 11)
def se_X9_read_30 : List (List am_V) := ([[(some 7006, 0)], [(none, 30), (some 67007, 1)], [(some 67009, 0)]] ++ am_un 68000 29 ++ [[(some 1, 0)]] ++ am_un 68030 10 ++ am_un 71000 29 ++ [[(some 1000000102, 0)]] ++ am_un 71030 10)
def se_X9_read_31 : List (List am_V) := ([[(some 7006, 0)], [(none, 31), (some 67007, 1)], [(some 67009, 0)]] ++ am_un 68000 30 ++ [[(some 1, 0)]] ++ am_un 68031 9 ++ am_un 71000 30 ++ [[(some 1000000102, 0)]] ++ am_un 71031 9)
def se_X9_read_32 : List (List am_V) := ([[(some 7006, 0)], [(none, 32), (some 67007, 1)], [(some 67009, 0)]] ++ am_un 68000 31 ++ [[(some 1, 0)]] ++ am_un 68032 8 ++ am_un 71000 31 ++ [[(some 1000000102, 0)]] ++ am_un 71032 8)
def se_X9_read_33 : List (List am_V) := ([[(some 7006, 0)], [(none, 33), (some 67007, 1)], [(some 67009, 0)]] ++ am_un 68000 32 ++ [[(some 1, 0)]] ++ am_un 68033 7 ++ am_un 71000 32 ++ [[(some 1000000102, 0)]] ++ am_un 71033 7)
def se_X9_read_34 : List (List am_V) := ([[(some 7006, 0)], [(none, 34), (some 67007, 1)], [(some 67009, 0)]] ++ am_un 68000 33 ++ [[(some 1, 0)]] ++ am_un 68034 6 ++ am_un 71000 33 ++ [[(some 1000000102, 0)]] ++ am_un 71034 6)
def se_X9_read_35 : List (List am_V) := ([[(some 7006, 0)], [(none, 35), (some 67007, 1)], [(some 67009, 0)]] ++ am_un 68000 34 ++ [[(some 1, 0)]] ++ am_un 68035 5 ++ am_un 71000 34 ++ [[(some 1000000102, 0)]] ++ am_un 71035 5)
def se_X9_read_36 : List (List am_V) := ([[(some 7006, 0)], [(none, 36), (some 67007, 1)], [(some 67009, 0)]] ++ am_un 68000 35 ++ [[(some 1, 0)]] ++ am_un 68036 4 ++ am_un 71000 35 ++ [[(some 1000000102, 0)]] ++ am_un 71036 4)
def se_X9_read_37 : List (List am_V) := ([[(some 7006, 0)], [(none, 37), (some 67007, 1)], [(some 67009, 0)]] ++ am_un 68000 36 ++ [[(some 1, 0)], [(some 68037, 0)], [(some 68038, 0)], [(some 68039, 0)]] ++ am_un 71000 36 ++ [[(some 1000000102, 0)], [(some 71037, 0)], [(some 71038, 0)], [(some 71039, 0)]])
def se_X9_read_38 : List (List am_V) := ([[(some 7006, 0)], [(none, 38), (some 67007, 1)], [(some 67009, 0)]] ++ am_un 68000 37 ++ [[(some 1, 0)], [(some 68038, 0)], [(some 68039, 0)]] ++ am_un 71000 37 ++ [[(some 1000000102, 0)], [(some 71038, 0)], [(some 71039, 0)]])
def se_X9_read_39 : List (List am_V) := ([[(some 7006, 0)], [(none, 39), (some 67007, 1)], [(some 67009, 0)]] ++ am_un 68000 38 ++ [[(some 1, 0)], [(some 68039, 0)]] ++ am_un 71000 38 ++ [[(some 1000000102, 0)], [(some 71039, 0)]])
def se_X9_read_40 : List (List am_V) := ([[(some 7006, 0)], [(none, 40), (some 67007, 1)], [(some 67009, 0)]] ++ am_un 68000 39 ++ [[(some 1, 0)]] ++ am_un 71000 39 ++ [[(some 1000000102, 0)]])
def se_X9_read_41 : List (List am_V) := ([[(some 7006, 0)], [(none, 40), (some 67007, 0)], [(some 67009, 0)]] ++ am_un 68000 40 ++ am_un 71000 40)
def sn_X9_read_0 : List am_N := [([((8, 1, 0), 0, 3), ((8, 2, 0), (-2147483648), (-10001))], [(none, (-1000000001))], se_X9_read_0),
  ([((8, 1, 0), 0, 3), ((8, 2, 0), (-10000), 10000), ((8, 67007, 0), 0, 39), ((8, 67007, 0), 0, 0)], [(none, 0), (some 67007, 0)], se_X9_read_1),
  ([((8, 1, 0), 0, 3), ((8, 2, 0), (-10000), 10000), ((8, 67007, 0), 0, 39), ((8, 67007, 0), 1, 1)], [(none, 1), (some 67007, 0)], se_X9_read_2),
  ([((8, 1, 0), 0, 3), ((8, 2, 0), (-10000), 10000), ((8, 67007, 0), 0, 39), ((8, 67007, 0), 2, 2)], [(none, 2), (some 67007, 0)], se_X9_read_3),
  ([((8, 1, 0), 0, 3), ((8, 2, 0), (-10000), 10000), ((8, 67007, 0), 0, 39), ((8, 67007, 0), 3, 3)], [(none, 3), (some 67007, 0)], se_X9_read_4),
  ([((8, 1, 0), 0, 3), ((8, 2, 0), (-10000), 10000), ((8, 67007, 0), 0, 39), ((8, 67007, 0), 4, 4)], [(none, 4), (some 67007, 0)], se_X9_read_5),
  ([((8, 1, 0), 0, 3), ((8, 2, 0), (-10000), 10000), ((8, 67007, 0), 0, 39), ((8, 67007, 0), 5, 5)], [(none, 5), (some 67007, 0)], se_X9_read_6),
  ([((8, 1, 0), 0, 3), ((8, 2, 0), (-10000), 10000), ((8, 67007, 0), 0, 39), ((8, 67007, 0), 6, 6)], [(none, 6), (some 67007, 0)], se_X9_read_7),
  ([((8, 1, 0), 0, 3), ((8, 2, 0), (-10000), 10000), ((8, 67007, 0), 0, 39), ((8, 67007, 0), 7, 7)], [(none, 7), (some 67007, 0)], se_X9_read_8),
  ([((8, 1, 0), 0, 3), ((8, 2, 0), (-10000), 10000), ((8, 67007, 0), 0, 39), ((8, 67007, 0), 8, 8)], [(none, 8), (some 67007, 0)], se_X9_read_9),
  ([((8, 1, 0), 0, 3), ((8, 2, 0), (-10000), 10000), ((8, 67007, 0), 0, 39), ((8, 67007, 0), 9, 9)], [(none, 9), (some 67007, 0)], se_X9_read_10),
  ([((8, 1, 0), 0, 3), ((8, 2, 0), (-10000), 10000), ((8, 67007, 0), 0, 39), ((8, 67007, 0), 10, 10)], [(none, 10), (some 67007, 0)], se_X9_read_11),
  ([((8, 1, 0), 0, 3), ((8, 2, 0), (-10000), 10000), ((8, 67007, 0), 0, 39), ((8, 67007, 0), 11, 11)], [(none, 11), (some 67007, 0)], se_X9_read_12),
  ([((8, 1, 0), 0, 3), ((8, 2, 0), (-10000), 10000), ((8, 67007, 0), 0, 39), ((8, 67007, 0), 12, 12)], [(none, 12), (some 67007, 0)], se_X9_read_13),
  ([((8, 1, 0), 0, 3), ((8, 2, 0), (-10000), 10000), ((8, 67007, 0), 0, 39), ((8, 67007, 0), 13, 13)], [(none, 13), (some 67007, 0)], se_X9_read_14),
  ([((8, 1, 0), 0, 3), ((8, 2, 0), (-10000), 10000), ((8, 67007, 0), 0, 39), ((8, 67007, 0), 14, 14)], [(none, 14), (some 67007, 0)], se_X9_read_15),
  ([((8, 1, 0), 0, 3), ((8, 2, 0), (-10000), 10000), ((8, 67007, 0), 0, 39), ((8, 67007, 0), 15, 15)], [(none, 15), (some 67007, 0)], se_X9_read_16),
  ([((8, 1, 0), 0, 3), ((8, 2, 0), (-10000), 10000), ((8, 67007, 0), 0, 39), ((8, 67007, 0), 16, 16)], [(none, 16), (some 67007, 0)], se_X9_read_17),
  ([((8, 1, 0), 0, 3), ((8, 2, 0), (-10000), 10000), ((8, 67007, 0), 0, 39), ((8, 67007, 0), 17, 17)], [(none, 17), (some 67007, 0)], se_X9_read_18),
  ([((8, 1, 0), 0, 3), ((8, 2, 0), (-10000), 10000), ((8, 67007, 0), 0, 39), ((8, 67007, 0), 18, 18)], [(none, 18), (some 67007, 0)], se_X9_read_19),
  ([((8, 1, 0), 0, 3), ((8, 2, 0), (-10000), 10000), ((8, 67007, 0), 0, 39), ((8, 67007, 0), 19, 19)], [(none, 19), (some 67007, 0)], se_X9_read_20),
  ([((8, 1, 0), 0, 3), ((8, 2, 0), (-10000), 10000), ((8, 67007, 0), 0, 39), ((8, 67007, 0), 20, 20)], [(none, 20), (some 67007, 0)], se_X9_read_21),
  ([((8, 1, 0), 0, 3), ((8, 2, 0), (-10000), 10000), ((8, 67007, 0), 0, 39), ((8, 67007, 0), 21, 21)], [(none, 21), (some 67007, 0)], se_X9_read_22),
  ([((8, 1, 0), 0, 3), ((8, 2, 0), (-10000), 10000), ((8, 67007, 0), 0, 39), ((8, 67007, 0), 22, 22)], [(none, 22), (some 67007, 0)], se_X9_read_23),
  ([((8, 1, 0), 0, 3), ((8, 2, 0), (-10000), 10000), ((8, 67007, 0), 0, 39), ((8, 67007, 0), 23, 23)], [(none, 23), (some 67007, 0)], se_X9_read_24),
  ([((8, 1, 0), 0, 3), ((8, 2, 0), (-10000), 10000), ((8, 67007, 0), 0, 39), ((8, 67007, 0), 24, 24)], [(none, 24), (some 67007, 0)], se_X9_read_25),
  ([((8, 1, 0), 0, 3), ((8, 2, 0), (-10000), 10000), ((8, 67007, 0), 0, 39), ((8, 67007, 0), 25, 25)], [(none, 25), (some 67007, 0)], se_X9_read_26),
  ([((8, 1, 0), 0, 3), ((8, 2, 0), (-10000), 10000), ((8, 67007, 0), 0, 39), ((8, 67007, 0), 26, 26)], [(none, 26), (some 67007, 0)], se_X9_read_27),
  ([((8, 1, 0), 0, 3), ((8, 2, 0), (-10000), 10000), ((8, 67007, 0), 0, 39), ((8, 67007, 0), 27, 27)], [(none, 27), (some 67007, 0)], se_X9_read_28),
  ([((8, 1, 0), 0, 3), ((8, 2, 0), (-10000), 10000), ((8, 67007, 0), 0, 39), ((8, 67007, 0), 28, 28)], [(none, 28), (some 67007, 0)], se_X9_read_29),
  ([((8, 1, 0), 0, 3), ((8, 2, 0), (-10000), 10000), ((8, 67007, 0), 0, 39), ((8, 67007, 0), 29, 29)], [(none, 29), (some 67007, 0)], se_X9_read_30),
  ([((8, 1, 0), 0, 3), ((8, 2, 0), (-10000), 10000), ((8, 67007, 0), 0, 39), ((8, 67007, 0), 30, 30)], [(none, 30), (some 67007, 0)], se_X9_read_31),
  ([((8, 1, 0), 0, 3), ((8, 2, 0), (-10000), 10000), ((8, 67007, 0), 0, 39), ((8, 67007, 0), 31, 31)], [(none, 31), (some 67007, 0)], se_X9_read_32),
  ([((8, 1, 0), 0, 3), ((8, 2, 0), (-10000), 10000), ((8, 67007, 0), 0, 39), ((8, 67007, 0), 32, 32)], [(none, 32), (some 67007, 0)], se_X9_read_33)]
def sn_X9_read_1 : List am_N := [([((8, 1, 0), 0, 3), ((8, 2, 0), (-10000), 10000), ((8, 67007, 0), 0, 39), ((8, 67007, 0), 33, 33)], [(none, 33), (some 67007, 0)], se_X9_read_34),
  ([((8, 1, 0), 0, 3), ((8, 2, 0), (-10000), 10000), ((8, 67007, 0), 0, 39), ((8, 67007, 0), 34, 34)], [(none, 34), (some 67007, 0)], se_X9_read_35),
  ([((8, 1, 0), 0, 3), ((8, 2, 0), (-10000), 10000), ((8, 67007, 0), 0, 39), ((8, 67007, 0), 35, 35)], [(none, 35), (some 67007, 0)], se_X9_read_36),
  ([((8, 1, 0), 0, 3), ((8, 2, 0), (-10000), 10000), ((8, 67007, 0), 0, 39), ((8, 67007, 0), 36, 36)], [(none, 36), (some 67007, 0)], se_X9_read_37),
  ([((8, 1, 0), 0, 3), ((8, 2, 0), (-10000), 10000), ((8, 67007, 0), 0, 39), ((8, 67007, 0), 37, 37)], [(none, 37), (some 67007, 0)], se_X9_read_38),
  ([((8, 1, 0), 0, 3), ((8, 2, 0), (-10000), 10000), ((8, 67007, 0), 0, 39), ((8, 67007, 0), 38, 38)], [(none, 38), (some 67007, 0)], se_X9_read_39),
  ([((8, 1, 0), 0, 3), ((8, 2, 0), (-10000), 10000), ((8, 67007, 0), 0, 39), ((8, 67007, 0), 39, 39)], [(none, 39), (some 67007, 0)], se_X9_read_40),
  ([((8, 1, 0), 0, 3), ((8, 2, 0), (-10000), 10000), ((8, 67007, 0), 40, 40)], [(none, (-1000000004))], se_X9_read_41),
  ([((8, 1, 0), 0, 3), ((8, 2, 0), 10001, 2147483647)], [(none, (-1000000001))], se_X9_read_0),
  ([((8, 1, 0), 4, 2147483647)], [(none, (-1000000001))], se_X9_read_0),
  ([((8, 1, 0), (-2147483648), (-1))], [(none, (-1000000001))], se_X9_read_0)]
def sn_X9_read : List am_N := sn_X9_read_0 ++ sn_X9_read_1
def se_X10_read_0 : List (List am_V) := ([[(some 7006, 0)], [(some 67007, 0)], [(some 67009, 0)]] ++ am_un 68000 40 ++ am_un 71000 40)
def se_X10_read_1 : List (List am_V) := ([[(some 7006, 0)], [(none, 40), (some 67007, 0)], [(some 67009, 0)]] ++ am_un 68000 40 ++ am_un 71000 40)
def se_X10_read_2 : List (List am_V) := ([[(some 7006, 0)], [(none, 40), (some 67007, 1)], [(some 67009, 0)]] ++ am_un 68000 39 ++ [[(some 1, 0)]] ++ am_un 71000 39 ++ [[(some 1000000102, 0)]])
def se_X10_read_3 : List (List am_V) := ([[(some 7006, 0)], [(none, 39), (some 67007, 1)], [(some 67009, 0)]] ++ am_un 68000 38 ++ [[(some 1, 0)], [(some 68039, 0)]] ++ am_un 71000 38 ++ [[(some 1000000102, 0)], [(some 71039, 0)]])
def se_X10_read_4 : List (List am_V) := ([[(some 7006, 0)], [(none, 38), (some 67007, 1)], [(some 67009, 0)]] ++ am_un 68000 37 ++ [[(some 1, 0)], [(some 68038, 0)], [(some 68039, 0)]] ++ am_un 71000 37 ++ [[(some 1000000102, 0)], [(some 71038, 0)], [(some 71039, 0)]])
def se_X10_read_5 : List (List am_V) := ([[(some 7006, 0)], [(none, 37), (some 67007, 1)], [(some 67009, 0)]] ++ am_un 68000 36 ++ [[(some 1, 0)], [(some 68037, 0)], [(some 68038, 0)], [(some 68039, 0)]] ++ am_un 71000 36 ++ [[(some 1000000102, 0)], [(some 71037, 0)], [(some 71038, 0)], [(some 71039, 0)]])
def se_X10_read_6 : List (List am_V) := ([[(some 7006, 0)], [(none, 36), (some 67007, 1)], [(some 67009, 0)]] ++ am_un 68000 35 ++ [[(some 1, 0)]] ++ am_un 68036 4 ++ am_un 71000 35 ++ [[(some 1000000102, 0)]] ++ am_un 71036 4)
def se_X10_read_7 : List (List am_V) := ([[(some 7006, 0)], [(none, 35), (some 67007, 1)], [(some 67009, 0)]] ++ am_un 68000 34 ++ [[(some 1, 0)]] ++ am_un 68035 5 ++ am_un 71000 34 ++ [[(some 1000000102, 0)]] ++ am_un 71035 5)
def se_X10_read_8 : List (List am_V) := ([[(some 7006, 0)], [(none, 34), (some 67007, 1)], [(some 67009, 0)]] ++ am_un 68000 33 ++ [[(some 1, 0)]] ++ am_un 68034 6 ++ am_un 71000 33 ++ [[(some 1000000102, 0)]] ++ am_un 71034 6)
def se_X10_read_9 : List (List am_V) := ([[(some 7006, 0)], [(none, 33), (some 67007, 1)], [(some 67009, 0)]] ++ am_un 68000 32 ++ [[(some 1, 0)]] ++ am_un 68033 7 ++ am_un 71000 32 ++ [[(some 1000000102, 0)]] ++ am_un 71033 7)
def se_X10_read_10 : List (List am_V) := ([[(some 7006, 0)], [(none, 32), (some 67007, 1)], [(some 67009, 0)]] ++ am_un 68000 31 ++ [[(some 1, 0)]] ++ am_un 68032 8 ++ am_un 71000 31 ++ [[(some 1000000102, 0)]] ++ am_un 71032 8)
def se_X10_read_11 : List (List am_V) := ([[(some 7006, 0)], [(none, 31), (some 67007, 1)], [(some 67009, 0)]] ++ am_un 68000 30 ++ [[(some 1, 0)]] ++ am_un 68031 9 ++ am_un 71000 30 ++ [[(some 1000000102, 0)]] ++ am_un 71031 9)
def se_X10_read_12 : List (List am_V) := ([[(some 7006, 0)], [(none, 30), (some 67007, 1)], [(some 67009, 0)]] ++ am_un 68000 29 ++ [[(some 1, 0)]] ++ am_un 68030 10 ++ am_un 71000 29 ++ [[(some 1000000102, 0)]] ++ am_un 71030 10)
def se_X10_read_13 : List (List am_V) := ([[(some 7006, 0)], [(none, 29), (some 67007, 1)], [(some 67009, 0)]] ++ am_un 68000 28 ++ [[(some 1, 0)]] ++ am_un 68029 11 ++ am_un 71000 28 ++ [[(some 1000000102, 0)]] ++ am_un 71029 11)
def se_X10_read_14 : List (List am_V) := ([[(some 7006, 0)], [(none, 28), (some 67007, 1)], [(some 67009, 0)]] ++ am_un 68000 27 ++ [[(some 1, 0)]] ++ am_un 68028 12 ++ am_un 71000 27 ++ [[(some 1000000102, 0)]] ++ am_un 71028 12)
def se_X10_read_15 : List (List am_V) := ([[(some 7006, 0)], [(none, 27), (some 67007, 1)], [(some 67009, 0)]] ++ am_un 68000 26 ++ [[(some 1, 0)]] ++ am_un 68027 13 ++ am_un 71000 26 ++ [[(some 1000000102, 0)]] ++ am_un 71027 13)
def se_X10_read_16 : List (List am_V) := ([[(some 7006, 0)], [(none, 26), (some 67007, 1)], [(some 67009, 0)]] ++ am_un 68000 25 ++ [[(some 1, 0)]] ++ am_un 68026 14 ++ am_un 71000 25 ++ [[(some 1000000102, 0)]] ++ am_un 71026 14)
def se_X10_read_17 : List (List am_V) := ([[(some 7006, 0)], [(none, 25), (some 67007, 1)], [(some 67009, 0)]] ++ am_un 68000 24 ++ [[(some 1, 0)]] ++ am_un 68025 15 ++ am_un 71000 24 ++ [[(some 1000000102, 0)]] ++ am_un 71025 15)
def se_X10_read_18 : List (List am_V) := ([[(some 7006, 0)], [(none, 24), (some 67007, 1)], [(some 67009, 0)]] ++ am_un 68000 23 ++ [[(some 1, 0)]] ++ am_un 68024 16 ++ am_un 71000 23 ++ [[(some 1000000102, 0)]] ++ am_un 71024 16)
def se_X10_read_19 : List (List am_V) := ([[(some 7006, 0)], [(none, 23), (some 67007, 1)], [(some 67009, 0)]] ++ am_un 68000 22 ++ [[(some 1, 0)]] ++ am_un 68023 17 ++ am_un 71000 22 ++ [[(some 1000000102, 0)]] ++ am_un 71023 17)
def se_X10_read_20 : List (List am_V) := ([[(some 7006, 0)], [(none, 22), (some 67007, 1)], [(some 67009, 0)]] ++ am_un 68000 21 ++ [[(some 1, 0)]] ++ am_un 68022 18 ++ am_un 71000 21 ++ [[(some 1000000102, 0)]] ++ am_un 71022 18)
def se_X10_read_21 : List (List am_V) := ([[(some 7006, 0)], [(none, 21), (some 67007, 1)], [(some 67009, 0)]] ++ am_un 68000 20 ++ [[(some 1, 0)]] ++ am_un 68021 19 ++ am_un 71000 20 ++ [[(some 1000000102, 0)]] ++ am_un 71021 19)
def se_X10_read_22 : List (List am_V) := ([[(some 7006, 0)], [(none, 20), (some 67007, 1)], [(some 67009, 0)]] ++ am_un 68000 19 ++ [[(some 1, 0)]] ++ am_un 68020 20 ++ am_un 71000 19 ++ [[(some 1000000102, 0)]] ++ am_un 71020 20)
def se_X10_read_23 : List (List am_V) := ([[(some 7006, 0)], [(none, 19), (some 67007, 1)], [(some 67009, 0)]] ++ am_un 68000 18 ++ [[(some 1, 0)]] ++ am_un 68019 21 ++ am_un 71000 18 ++ [[(some 1000000102, 0)]] ++ am_un 71019 21)
def se_X10_read_24 : List (List am_V) := ([[(some 7006, 0)], [(none, 18), (some 67007, 1)], [(some 67009, 0)]] ++ am_un 68000 17 ++ [[(some 1, 0)]] ++ am_un 68018 22 ++ am_un 71000 17 ++ [[(some 1000000102, 0)]] ++ am_un 71018 22)
def se_X10_read_25 : List (List am_V) := ([[(some 7006, 0)], [(none, 17), (some 67007, 1)], [(some 67009, 0)]] ++ am_un 68000 16 ++ [[(some 1, 0)]] ++ am_un 68017 23 ++ am_un 71000 16 ++ [[(some 1000000102, 0)]] ++ am_un 71017 23)
def se_X10_read_26 : List (List am_V) := ([[(some 7006, 0)], [(none, 16), (some 67007, 1)], [(some 67009, 0)]] ++ am_un 68000 15 ++ [[(some 1, 0)]] ++ am_un 68016 24 ++ am_un 71000 15 ++ [[(some 1000000102, 0)]] ++ am_un 71016 24)
def se_X10_read_27 : List (List am_V) := ([[(some 7006, 0)], [(none, 15), (some 67007, 1)], [(some 67009, 0)]] ++ am_un 68000 14 ++ [[(some 1, 0)]] ++ am_un 68015 25 ++ am_un 71000 14 ++ [[(some 1000000102, 0)]] ++ am_un 71015 25)
def se_X10_read_28 : List (List am_V) := ([[(some 7006, 0)], [(none, 14), (some 67007, 1)], [(some 67009, 0)]] ++ am_un 68000 13 ++ [[(some 1, 0)]] ++ am_un 68014 26 ++ am_un 71000 13 ++ [[(some 1000000102, 0)]] ++ am_un 71014 26)
def se_X10_read_29 : List (List am_V) := ([[(some 7006, 0)], [(none, 13), (some 67007, 1)], [(some 67009, 0)]] ++ am_un 68000 12 ++ [[(some 1, 0)]] ++ am_un 68013 27 ++ am_un 71000 12 ++ [[(some 1000000102, 0)]] ++ am_un 71013 27)
def se_X10_read_30 : List (List am_V) := ([[(some 7006, 0)], [(none, 12), (some 67007, 1)], [(some 67009, 0)]] ++ am_un 68000 11 ++ [[(some 1, 0)]] ++ am_un 68012 28 ++ am_un 71000 11 ++ [[(some 1000000102, 0)]] ++ am_un 71012 28)
def se_X10_read_31 : List (List am_V) := ([[(some 7006, 0)], [(none, 11), (some 67007, 1)], [(some 67009, 0)]] ++ am_un 68000 10 ++ [[(some 1, 0)]] ++ am_un 68011 29 ++ am_un 71000 10 ++ [[(some 1000000102, 0)]] ++ am_un 71011 29)
def se_X10_read_32 : List (List am_V) := ([[(some 7006, 0)], [(none, 10), (some 67007, 1)], [(some 67009, 0)]] ++ am_un 68000 9 ++ [[(some 1, 0)]] ++ am_un 68010 30 ++ am_un 71000 9 ++ [[(some 1000000102, 0)]] ++ am_un 71010 30)
def se_X10_read_33 : List (List am_V) := ([[(some 7006, 0)], [(none, 9), (some 67007, 1)], [(some 67009, 0)]] ++ am_un 68000 8 ++ [[(some 1, 0)]] ++ am_un 68009 31 ++ am_un 71000 8 ++ [[(some 1000000102, 0)]] ++ am_un 71009 31)
def se_X10_read_34 : List (List am_V) := ([[(some 7006, 0)], [(none, 8), (some 67007, 1)], [(some 67009, 0)]] ++ am_un 68000 7 ++ [[(some 1, 0)]] ++ am_un 68008 32 ++ am_un 71000 7 ++ [[(some 1000000102, 0)]] ++ am_un 71008 32)
def se_X10_read_35 : List (List am_V) := ([[(some 7006, 0)], [(none, 7), (some 67007, 1)], [(some 67009, 0)]] ++ am_un 68000 6 ++ [[(some 1, 0)]] ++ am_un 68007 33 ++ am_un 71000 6 ++ [[(some 1000000102, 0)]] ++ am_un 71007 33)
def se_X10_read_36 : List (List am_V) := ([[(some 7006, 0)], [(none, 6), (some 67007, 1)], [(some 67009, 0)]] ++ am_un 68000 5 ++ [[(some 1, 0)]] ++ am_un 68006 34 ++ am_un 71000 5 ++ [[(some 1000000102, 0)]] ++ am_un 71006 34)
def se_X10_read_37 : List (List am_V) := ([[(some 7006, 0)], [(none, 5), (some 67007, 1)], [(some 67009, 0)]] ++ am_un 68000 4 ++ [[(some 1, 0)]] ++ am_un 68005 35 ++ am_un 71000 4 ++ [[(some 1000000102, 0)]] ++ am_un 71005 35)
def se_X10_read_38 : List (List am_V) := ([[(some 7006, 0)], [(none, 4), (some 67007, 1)], [(some 67009, 0)], [(some 68000, 0)], [(some 68001, 0)], [(some 68002, 0)], [(some 1, 0)]] ++ am_un 68004 36 ++ [[(some 71000, 0)], [(some 71001, 0)], [(some 71002, 0)], [(some 1000000102, 0)]] ++ am_un 71004 36)
def se_X10_read_39 : List (List am_V) := ([[(some 7006, 0)], [(none, 3), (some 67007, 1)], [(some 67009, 0)], [(some 68000, 0)], [(some 68001, 0)], [(some 1, 0)]] ++ am_un 68003 37 ++ [[(some 71000, 0)], [(some 71001, 0)], [(some 1000000102, 0)]] ++ am_un 71003 37)
def se_X10_read_40 : List (List am_V) := ([[(some 7006, 0)], [(none, 2), (some 67007, 1)], [(some 67009, 0)], [(some 68000, 0)], [(some 1, 0)]] ++ am_un 68002 38 ++ [[(some 71000, 0)], [(some 1000000102, 0)]] ++ am_un 71002 38)
def se_X10_read_41 : List (List am_V) := ([[(some 7006, 0)], [(none, 1), (some 67007, 1)], [(some 67009, 0)], [(some 1, 0)]] ++ am_un 68001 39 ++ [[(some 1000000102, 0)]] ++ am_un 71001 39)
def sn_X10_read_0 : List am_N := [([((8, 1, 0), (-2147483648), (-1))], [(none, (-1000000001))], se_X10_read_0),
  ([((8, 1, 0), 4, 2147483647)], [(none, (-1000000001))], se_X10_read_0),
  ([((8, 1, 0), 0, 3), ((8, 2, 0), (-2147483648), (-10001))], [(none, (-1000000001))], se_X10_read_0),
  ([((8, 1, 0), 0, 3), ((8, 2, 0), 10001, 2147483647)], [(none, (-1000000001))], se_X10_read_0),
  ([((8, 1, 0), 0, 3), ((8, 2, 0), (-10000), 10000), ((8, 67007, 0), 40, 40)], [(none, (-1000000004))], se_X10_read_1),
  ([((8, 1, 0), 0, 3), ((8, 2, 0), (-10000), 10000), ((8, 67007, 0), 39, 39), ((8, 67007, 0), 0, 39)], [(none, 39), (some 67007, 0)], se_X10_read_2),
  ([((8, 1, 0), 0, 3), ((8, 2, 0), (-10000), 10000), ((8, 67007, 0), 38, 38), ((8, 67007, 0), 0, 39)], [(none, 38), (some 67007, 0)], se_X10_read_3),
  ([((8, 1, 0), 0, 3), ((8, 2, 0), (-10000), 10000), ((8, 67007, 0), 37, 37), ((8, 67007, 0), 0, 39)], [(none, 37), (some 67007, 0)], se_X10_read_4),
  ([((8, 1, 0), 0, 3), ((8, 2, 0), (-10000), 10000), ((8, 67007, 0), 36, 36), ((8, 67007, 0), 0, 39)], [(none, 36), (some 67007, 0)], se_X10_read_5),
  ([((8, 1, 0), 0, 3), ((8, 2, 0), (-10000), 10000), ((8, 67007, 0), 35, 35), ((8, 67007, 0), 0, 39)], [(none, 35), (some 67007, 0)], se_X10_read_6),
  ([((8, 1, 0), 0, 3), ((8, 2, 0), (-10000), 10000), ((8, 67007, 0), 34, 34), ((8, 67007, 0), 0, 39)], [(none, 34), (some 67007, 0)], se_X10_read_7),
  ([((8, 1, 0), 0, 3), ((8, 2, 0), (-10000), 10000), ((8, 67007, 0), 33, 33), ((8, 67007, 0), 0, 39)], [(none, 33), (some 67007, 0)], se_X10_read_8),
  ([((8, 1, 0), 0, 3), ((8, 2, 0), (-10000), 10000), ((8, 67007, 0), 32, 32), ((8, 67007, 0), 0, 39)], [(none, 32), (some 67007, 0)], se_X10_read_9),
  ([((8, 1, 0), 0, 3), ((8, 2, 0), (-10000), 10000), ((8, 67007, 0), 31, 31), ((8, 67007, 0), 0, 39)], [(none, 31), (some 67007, 0)], se_X10_read_10),
  ([((8, 1, 0), 0, 3), ((8, 2, 0), (-10000), 10000), ((8, 67007, 0), 30, 30), ((8, 67007, 0), 0, 39)], [(none, 30), (some 67007, 0)], se_X10_read_11),
  ([((8, 1, 0), 0, 3), ((8, 2, 0), (-10000), 10000), ((8, 67007, 0), 29, 29), ((8, 67007, 0), 0, 39)], [(none, 29), (some 67007, 0)], se_X10_read_12),
  ([((8, 1, 0), 0, 3), ((8, 2, 0), (-10000), 10000), ((8, 67007, 0), 28, 28), ((8, 67007, 0), 0, 39)], [(none, 28), (some 67007, 0)], se_X10_read_13),
  ([((8, 1, 0), 0, 3), ((8, 2, 0), (-10000), 10000), ((8, 67007, 0), 27, 27), ((8, 67007, 0), 0, 39)], [(none, 27), (some 67007, 0)], se_X10_read_14),
  ([((8, 1, 0), 0, 3), ((8, 2, 0), (-10000), 10000), ((8, 67007, 0), 26, 26), ((8, 67007, 0), 0, 39)], [(none, 26), (some 67007, 0)], se_X10_read_15),
  ([((8, 1, 0), 0, 3), ((8, 2, 0), (-10000), 10000), ((8, 67007, 0), 25, 25), ((8, 67007, 0), 0, 39)], [(none, 25), (some 67007, 0)], se_X10_read_16),
  ([((8, 1, 0), 0, 3), ((8, 2, 0), (-10000), 10000), ((8, 67007, 0), 24, 24), ((8, 67007, 0), 0, 39)], [(none, 24), (some 67007, 0)], se_X10_read_17),
  ([((8, 1, 0), 0, 3), ((8, 2, 0), (-10000), 10000), ((8, 67007, 0), 23, 23), ((8, 67007, 0), 0, 39)], [(none, 23), (some 67007, 0)], se_X10_read_18),
  ([((8, 1, 0), 0, 3), ((8, 2, 0), (-10000), 10000), ((8, 67007, 0), 22, 22), ((8, 67007, 0), 0, 39)], [(none, 22), (some 67007, 0)], se_X10_read_19),
  ([((8, 1, 0), 0, 3), ((8, 2, 0), (-10000), 10000), ((8, 67007, 0), 21, 21), ((8, 67007, 0), 0, 39)], [(none, 21), (some 67007, 0)], se_X10_read_20),
  ([((8, 1, 0), 0, 3), ((8, 2, 0), (-10000), 10000), ((8, 67007, 0), 20, 20), ((8, 67007, 0), 0, 39)], [(none, 20), (some 67007, 0)], se_X10_read_21),
  ([((8, 1, 0), 0, 3), ((8, 2, 0), (-10000), 10000), ((8, 67007, 0), 19, 19), ((8, 67007, 0), 0, 39)], [(none, 19), (some 67007, 0)], se_X10_read_22),
  ([((8, 1, 0), 0, 3), ((8, 2, 0), (-10000), 10000), ((8, 67007, 0), 18, 18), ((8, 67007, 0), 0, 39)], [(none, 18), (some 67007, 0)], se_X10_read_23),
  ([((8, 1, 0), 0, 3), ((8, 2, 0), (-10000), 10000), ((8, 67007, 0), 17, 17), ((8, 67007, 0), 0, 39)], [(none, 17), (some 67007, 0)], se_X10_read_24),
  ([((8, 1, 0), 0, 3), ((8, 2, 0), (-10000), 10000), ((8, 67007, 0), 16, 16), ((8, 67007, 0), 0, 39)], [(none, 16), (some 67007, 0)], se_X10_read_25),
  ([((8, 1, 0), 0, 3), ((8, 2, 0), (-10000), 10000), ((8, 67007, 0), 15, 15), ((8, 67007, 0), 0, 39)], [(none, 15), (some 67007, 0)], se_X10_read_26),
  ([((8, 1, 0), 0, 3), ((8, 2, 0), (-10000), 10000), ((8, 67007, 0), 14, 14), ((8, 67007, 0), 0, 39)], [(none, 14), (some 67007, 0)], se_X10_read_27),
  ([((8, 1, 0), 0, 3), ((8, 2, 0), (-10000), 10000), ((8, 67007, 0), 13, 13), ((8, 67007, 0), 0, 39)], [(none, 13), (some 67007, 0)], se_X10_read_28),
  ([((8, 1, 0), 0, 3), ((8, 2, 0), (-10000), 10000), ((8, 67007, 0), 12, 12), ((8, 67007, 0), 0, 39)], [(none, 12), (some 67007, 0)], se_X10_read_29),
  ([((8, 1, 0), 0, 3), ((8, 2, 0), (-10000), 10000), ((8, 67007, 0), 11, 11), ((8, 67007, 0), 0, 39)], [(none, 11), (some 67007, 0)], se_X10_read_30),
  ([((8, 1, 0), 0, 3), ((8, 2, 0), (-10000), 10000), ((8, 67007, 0), 10, 10), ((8, 67007, 0), 0, 39)], [(none, 10), (some 67007, 0)], se_X10_read_31),
  ([((8, 1, 0), 0, 3), ((8, 2, 0), (-10000), 10000), ((8, 67007, 0), 9, 9), ((8, 67007, 0), 0, 39)], [(none, 9), (some 67007, 0)], se_X10_read_32)]
def sn_X10_read_1 : List am_N := [([((8, 1, 0), 0, 3), ((8, 2, 0), (-10000), 10000), ((8, 67007, 0), 8, 8), ((8, 67007, 0), 0, 39)], [(none, 8), (some 67007, 0)], se_X10_read_33),
  ([((8, 1, 0), 0, 3), ((8, 2, 0), (-10000), 10000), ((8, 67007, 0), 7, 7), ((8, 67007, 0), 0, 39)], [(none, 7), (some 67007, 0)], se_X10_read_34),
  ([((8, 1, 0), 0, 3), ((8, 2, 0), (-10000), 10000), ((8, 67007, 0), 6, 6), ((8, 67007, 0), 0, 39)], [(none, 6), (some 67007, 0)], se_X10_read_35),
  ([((8, 1, 0), 0, 3), ((8, 2, 0), (-10000), 10000), ((8, 67007, 0), 5, 5), ((8, 67007, 0), 0, 39)], [(none, 5), (some 67007, 0)], se_X10_read_36),
  ([((8, 1, 0), 0, 3), ((8, 2, 0), (-10000), 10000), ((8, 67007, 0), 4, 4), ((8, 67007, 0), 0, 39)], [(none, 4), (some 67007, 0)], se_X10_read_37),
  ([((8, 1, 0), 0, 3), ((8, 2, 0), (-10000), 10000), ((8, 67007, 0), 3, 3), ((8, 67007, 0), 0, 39)], [(none, 3), (some 67007, 0)], se_X10_read_38),
  ([((8, 1, 0), 0, 3), ((8, 2, 0), (-10000), 10000), ((8, 67007, 0), 2, 2), ((8, 67007, 0), 0, 39)], [(none, 2), (some 67007, 0)], se_X10_read_39),
  ([((8, 1, 0), 0, 3), ((8, 2, 0), (-10000), 10000), ((8, 67007, 0), 1, 1), ((8, 67007, 0), 0, 39)], [(none, 1), (some 67007, 0)], se_X10_read_40),
  ([((8, 1, 0), 0, 3), ((8, 2, 0), (-10000), 10000), ((8, 67007, 0), 0, 0), ((8, 67007, 0), 0, 39)], [(none, 0), (some 67007, 0)], se_X10_read_41)]
def sn_X10_read : List am_N := sn_X10_read_0 ++ sn_X10_read_1
theorem sq_read : am_chk rel_p rel_g bc_X9_read bc_X10_read sc_X9_read sc_X10_read sn_X9_read sn_X10_read = true := by decide +kernel
theorem sa_read : sn_X9_read.all (fun n => sn_X10_read.all (am_ok false n)) = true := by decide +kernel
theorem step_read {c0 c1 : ab_C} {a b x y : Int32} {cs cs1 cs2 : ex_C} (hc : bc_X9_read = [c0]) (hc' : bc_X10_read = [c1]) (h : ab_post ab_hd c0 [.ref 0, .int a, .int b] cs (some (.int x)) cs1) (h' : ab_post ab_hd c1 [.ref 76, .int a, .int b] cs1 (some (.int y)) cs2) (hR : rel_R cs) : rel_R cs2 := by
  have q := sq_read
  rw [hc, hc'] at q
  obtain ⟨q1, f9, f10, q2, q3⟩ := am_chkk q
  have r := am_main q1 f9 f10 q2 q3 sa_read h h' hR rel_gh
  exact r.2
def sc_X9_ticks : List ((Nat × Nat) × Bool) := [((6, 6), true), ((66, 7), false), ((66, 9), false), ((67, 0), false), ((67, 1), false), ((67, 2), false), ((67, 3), false), ((67, 4), false), ((67, 5), false), ((67, 6), false), ((67, 7), false), ((67, 8), false), ((67, 9), false), ((67, 10), false), ((67, 11), false), ((67, 12), false), ((67, 13), false), ((67, 14), false), ((67, 15), false), ((67, 16), false), ((67, 17), false), ((67, 18), false), ((67, 19), false), ((67, 20), false), ((67, 21), false), ((67, 22), false), ((67, 23), false), ((67, 24), false), ((67, 25), false), ((67, 26), false), ((67, 27), false), ((67, 28), false), ((67, 29), false), ((67, 30), false), ((67, 31), false), ((67, 32), false), ((67, 33), false), ((67, 34), false), ((67, 35), false), ((67, 36), false), ((67, 37), false), ((67, 38), false), ((67, 39), false), ((70, 0), false), ((70, 1), false), ((70, 2), false), ((70, 3), false), ((70, 4), false), ((70, 5), false), ((70, 6), false), ((70, 7), false), ((70, 8), false), ((70, 9), false), ((70, 10), false), ((70, 11), false), ((70, 12), false), ((70, 13), false), ((70, 14), false), ((70, 15), false), ((70, 16), false), ((70, 17), false), ((70, 18), false), ((70, 19), false), ((70, 20), false), ((70, 21), false), ((70, 22), false), ((70, 23), false), ((70, 24), false), ((70, 25), false), ((70, 26), false), ((70, 27), false), ((70, 28), false), ((70, 29), false), ((70, 30), false), ((70, 31), false), ((70, 32), false), ((70, 33), false), ((70, 34), false), ((70, 35), false), ((70, 36), false), ((70, 37), false), ((70, 38), false), ((70, 39), false)]
def sc_X10_ticks : List ((Nat × Nat) × Bool) := [((101, 0), true), ((76, 40), false), ((76, 49), false), ((106, 0), false), ((106, 1), false), ((106, 2), false), ((106, 3), false), ((106, 4), false), ((106, 5), false), ((106, 6), false), ((106, 7), false), ((106, 8), false), ((106, 9), false), ((106, 10), false), ((106, 11), false), ((106, 12), false), ((106, 13), false), ((106, 14), false), ((106, 15), false), ((106, 16), false), ((106, 17), false), ((106, 18), false), ((106, 19), false), ((106, 20), false), ((106, 21), false), ((106, 22), false), ((106, 23), false), ((106, 24), false), ((106, 25), false), ((106, 26), false), ((106, 27), false), ((106, 28), false), ((106, 29), false), ((106, 30), false), ((106, 31), false), ((106, 32), false), ((106, 33), false), ((106, 34), false), ((106, 35), false), ((106, 36), false), ((106, 37), false), ((106, 38), false), ((106, 39), false), ((109, 0), false), ((109, 1), false), ((109, 2), false), ((109, 3), false), ((109, 4), false), ((109, 5), false), ((109, 6), false), ((109, 7), false), ((109, 8), false), ((109, 9), false), ((109, 10), false), ((109, 11), false), ((109, 12), false), ((109, 13), false), ((109, 14), false), ((109, 15), false), ((109, 16), false), ((109, 17), false), ((109, 18), false), ((109, 19), false), ((109, 20), false), ((109, 21), false), ((109, 22), false), ((109, 23), false), ((109, 24), false), ((109, 25), false), ((109, 26), false), ((109, 27), false), ((109, 28), false), ((109, 29), false), ((109, 30), false), ((109, 31), false), ((109, 32), false), ((109, 33), false), ((109, 34), false), ((109, 35), false), ((109, 36), false), ((109, 37), false), ((109, 38), false), ((109, 39), false)]
def se_X9_ticks_0 : List (List am_V) := ([[(some 7006, 0)], [(some 67007, 0)], [(some 67009, 0)]] ++ am_un 68000 40 ++ am_un 71000 40)
def se_X9_ticks_1 : List (List am_V) := ([[(some 1000000100, 0)], [(some 67007, 0)], [(some 67009, 0)]] ++ am_un 68000 40 ++ am_un 71000 40)
def se_X9_ticks_2 : List (List am_V) := ([[(some 1000000099, 0)], [(some 67007, 0)], [(some 67009, 0)]] ++ am_un 68000 40 ++ am_un 71000 40)
def se_X9_ticks_3 : List (List am_V) := ([[(some 1000000098, 0)], [(some 67007, 0)], [(some 67009, 0)]] ++ am_un 68000 40 ++ am_un 71000 40)
def se_X9_ticks_4 : List (List am_V) := ([[(some 1000000097, 0)], [(some 67007, 0)], [(some 67009, 0)]] ++ am_un 68000 40 ++ am_un 71000 40)
def se_X9_ticks_5 : List (List am_V) := ([[(some 1000000096, 0)], [(some 67007, 0)], [(some 67009, 0)]] ++ am_un 68000 40 ++ am_un 71000 40)
def se_X9_ticks_6 : List (List am_V) := ([[(some 1000000095, 0)], [(some 67007, 0)], [(some 67009, 0)]] ++ am_un 68000 40 ++ am_un 71000 40)
def se_X9_ticks_7 : List (List am_V) := ([[(some 1000000094, 0)], [(some 67007, 0)], [(some 67009, 0)]] ++ am_un 68000 40 ++ am_un 71000 40)
def se_X9_ticks_8 : List (List am_V) := ([[(some 1000000093, 0)], [(some 67007, 0)], [(some 67009, 0)]] ++ am_un 68000 40 ++ am_un 71000 40)
def se_X9_ticks_9 : List (List am_V) := ([[(some 1000000092, 0)], [(some 67007, 0)], [(some 67009, 0)]] ++ am_un 68000 40 ++ am_un 71000 40)
def se_X9_ticks_10 : List (List am_V) := ([[(some 1000000091, 0)], [(some 67007, 0)], [(some 67009, 0)]] ++ am_un 68000 40 ++ am_un 71000 40)
def se_X9_ticks_11 : List (List am_V) := ([[(some 1000000090, 0)], [(some 67007, 0)], [(some 67009, 0)]] ++ am_un 68000 40 ++ am_un 71000 40)
def se_X9_ticks_12 : List (List am_V) := ([[(some 1000000089, 0)], [(some 67007, 0)], [(some 67009, 0)]] ++ am_un 68000 40 ++ am_un 71000 40)
def se_X9_ticks_13 : List (List am_V) := ([[(some 1000000088, 0)], [(some 67007, 0)], [(some 67009, 0)]] ++ am_un 68000 40 ++ am_un 71000 40)
def se_X9_ticks_14 : List (List am_V) := ([[(some 1000000087, 0)], [(some 67007, 0)], [(some 67009, 0)]] ++ am_un 68000 40 ++ am_un 71000 40)
def se_X9_ticks_15 : List (List am_V) := ([[(some 1000000086, 0)], [(some 67007, 0)], [(some 67009, 0)]] ++ am_un 68000 40 ++ am_un 71000 40)
def se_X9_ticks_16 : List (List am_V) := ([[(some 1000000085, 0)], [(some 67007, 0)], [(some 67009, 0)]] ++ am_un 68000 40 ++ am_un 71000 40)
def se_X9_ticks_17 : List (List am_V) := ([[(some 1000000084, 0)], [(some 67007, 0)], [(some 67009, 0)]] ++ am_un 68000 40 ++ am_un 71000 40)
def se_X9_ticks_18 : List (List am_V) := ([[(some 1000000083, 0)], [(some 67007, 0)], [(some 67009, 0)]] ++ am_un 68000 40 ++ am_un 71000 40)
def se_X9_ticks_19 : List (List am_V) := ([[(some 1000000082, 0)], [(some 67007, 0)], [(some 67009, 0)]] ++ am_un 68000 40 ++ am_un 71000 40)
def se_X9_ticks_20 : List (List am_V) := ([[(some 1000000081, 0)], [(some 67007, 0)], [(some 67009, 0)]] ++ am_un 68000 40 ++ am_un 71000 40)
def se_X9_ticks_21 : List (List am_V) := ([[(some 1000000080, 0)], [(some 67007, 0)], [(some 67009, 0)]] ++ am_un 68000 40 ++ am_un 71000 40)
def se_X9_ticks_22 : List (List am_V) := ([[(some 1000000079, 0)], [(some 67007, 0)], [(some 67009, 0)]] ++ am_un 68000 40 ++ am_un 71000 40)
def se_X9_ticks_23 : List (List am_V) := ([[(some 1000000078, 0)], [(some 67007, 0)], [(some 67009, 0)]] ++ am_un 68000 40 ++ am_un 71000 40)
def se_X9_ticks_24 : List (List am_V) := ([[(some 1000000077, 0)], [(some 67007, 0)], [(some 67009, 0)]] ++ am_un 68000 40 ++ am_un 71000 40)
def se_X9_ticks_25 : List (List am_V) := ([[(some 1000000076, 0)], [(some 67007, 0)], [(some 67009, 0)]] ++ am_un 68000 40 ++ am_un 71000 40)
def se_X9_ticks_26 : List (List am_V) := ([[(some 1000000075, 0)], [(some 67007, 0)], [(some 67009, 0)]] ++ am_un 68000 40 ++ am_un 71000 40)
def se_X9_ticks_27 : List (List am_V) := ([[(some 1000000074, 0)], [(some 67007, 0)], [(some 67009, 0)]] ++ am_un 68000 40 ++ am_un 71000 40)
def se_X9_ticks_28 : List (List am_V) := ([[(some 1000000073, 0)], [(some 67007, 0)], [(some 67009, 0)]] ++ am_un 68000 40 ++ am_un 71000 40)
def se_X9_ticks_29 : List (List am_V) := ([[(some 1000000072, 0)], [(some 67007, 0)], [(some 67009, 0)]] ++ am_un 68000 40 ++ am_un 71000 40)
def se_X9_ticks_30 : List (List am_V) := ([[(some 1000000071, 0)], [(some 67007, 0)], [(some 67009, 0)]] ++ am_un 68000 40 ++ am_un 71000 40)
def se_X9_ticks_31 : List (List am_V) := ([[(some 1000000070, 0)], [(some 67007, 0)], [(some 67009, 0)]] ++ am_un 68000 40 ++ am_un 71000 40)
def se_X9_ticks_32 : List (List am_V) := ([[(some 1000000069, 0)], [(some 67007, 0)], [(some 67009, 0)]] ++ am_un 68000 40 ++ am_un 71000 40)
def se_X9_ticks_33 : List (List am_V) := ([[(some 1000000068, 0)], [(some 67007, 0)], [(some 67009, 0)]] ++ am_un 68000 40 ++ am_un 71000 40)
def se_X9_ticks_34 : List (List am_V) := ([[(some 1000000067, 0)], [(some 67007, 0)], [(some 67009, 0)]] ++ am_un 68000 40 ++ am_un 71000 40)
def se_X9_ticks_35 : List (List am_V) := ([[(some 1000000066, 0)], [(some 67007, 0)], [(some 67009, 0)]] ++ am_un 68000 40 ++ am_un 71000 40)
def se_X9_ticks_36 : List (List am_V) := ([[(some 1000000065, 0)], [(some 67007, 0)], [(some 67009, 0)]] ++ am_un 68000 40 ++ am_un 71000 40)
def se_X9_ticks_37 : List (List am_V) := ([[(some 1000000064, 0)], [(some 67007, 0)], [(some 67009, 0)]] ++ am_un 68000 40 ++ am_un 71000 40)
def se_X9_ticks_38 : List (List am_V) := ([[(some 1000000063, 0)], [(some 67007, 0)], [(some 67009, 0)]] ++ am_un 68000 40 ++ am_un 71000 40)
def se_X9_ticks_39 : List (List am_V) := ([[(some 1000000062, 0)], [(some 67007, 0)], [(some 67009, 0)]] ++ am_un 68000 40 ++ am_un 71000 40)
def se_X9_ticks_40 : List (List am_V) := ([[(some 1000000061, 0)], [(some 67007, 0)], [(some 67009, 0)]] ++ am_un 68000 40 ++ am_un 71000 40)
def se_X9_ticks_41 : List (List am_V) := ([[(some 1000000060, 0)], [(some 67007, 0)], [(some 67009, 0)]] ++ am_un 68000 40 ++ am_un 71000 40)
def se_X9_ticks_42 : List (List am_V) := ([[(some 1000000059, 0)], [(some 67007, 0)], [(some 67009, 0)]] ++ am_un 68000 40 ++ am_un 71000 40)
def se_X9_ticks_43 : List (List am_V) := ([[(some 1000000058, 0)], [(some 67007, 0)], [(some 67009, 0)]] ++ am_un 68000 40 ++ am_un 71000 40)
def se_X9_ticks_44 : List (List am_V) := ([[(some 1000000057, 0)], [(some 67007, 0)], [(some 67009, 0)]] ++ am_un 68000 40 ++ am_un 71000 40)
def se_X9_ticks_45 : List (List am_V) := ([[(some 1000000056, 0)], [(some 67007, 0)], [(some 67009, 0)]] ++ am_un 68000 40 ++ am_un 71000 40)
def se_X9_ticks_46 : List (List am_V) := ([[(some 1000000055, 0)], [(some 67007, 0)], [(some 67009, 0)]] ++ am_un 68000 40 ++ am_un 71000 40)
def se_X9_ticks_47 : List (List am_V) := ([[(some 1000000054, 0)], [(some 67007, 0)], [(some 67009, 0)]] ++ am_un 68000 40 ++ am_un 71000 40)
def se_X9_ticks_48 : List (List am_V) := ([[(some 1000000053, 0)], [(some 67007, 0)], [(some 67009, 0)]] ++ am_un 68000 40 ++ am_un 71000 40)
def se_X9_ticks_49 : List (List am_V) := ([[(some 1000000052, 0)], [(some 67007, 0)], [(some 67009, 0)]] ++ am_un 68000 40 ++ am_un 71000 40)
def se_X9_ticks_50 : List (List am_V) := ([[(some 1000000051, 0)], [(some 67007, 0)], [(some 67009, 0)]] ++ am_un 68000 40 ++ am_un 71000 40)
def se_X9_ticks_51 : List (List am_V) := ([[(some 1000000050, 0)], [(some 67007, 0)], [(some 67009, 0)]] ++ am_un 68000 40 ++ am_un 71000 40)
def se_X9_ticks_52 : List (List am_V) := ([[(some 1000000049, 0)], [(some 67007, 0)], [(some 67009, 0)]] ++ am_un 68000 40 ++ am_un 71000 40)
def se_X9_ticks_53 : List (List am_V) := ([[(some 1000000048, 0)], [(some 67007, 0)], [(some 67009, 0)]] ++ am_un 68000 40 ++ am_un 71000 40)
def se_X9_ticks_54 : List (List am_V) := ([[(some 1000000047, 0)], [(some 67007, 0)], [(some 67009, 0)]] ++ am_un 68000 40 ++ am_un 71000 40)
def se_X9_ticks_55 : List (List am_V) := ([[(some 1000000046, 0)], [(some 67007, 0)], [(some 67009, 0)]] ++ am_un 68000 40 ++ am_un 71000 40)
def se_X9_ticks_56 : List (List am_V) := ([[(some 1000000045, 0)], [(some 67007, 0)], [(some 67009, 0)]] ++ am_un 68000 40 ++ am_un 71000 40)
def se_X9_ticks_57 : List (List am_V) := ([[(some 1000000044, 0)], [(some 67007, 0)], [(some 67009, 0)]] ++ am_un 68000 40 ++ am_un 71000 40)
def se_X9_ticks_58 : List (List am_V) := ([[(some 1000000043, 0)], [(some 67007, 0)], [(some 67009, 0)]] ++ am_un 68000 40 ++ am_un 71000 40)
def se_X9_ticks_59 : List (List am_V) := ([[(some 1000000042, 0)], [(some 67007, 0)], [(some 67009, 0)]] ++ am_un 68000 40 ++ am_un 71000 40)
def se_X9_ticks_60 : List (List am_V) := ([[(some 1000000041, 0)], [(some 67007, 0)], [(some 67009, 0)]] ++ am_un 68000 40 ++ am_un 71000 40)
def se_X9_ticks_61 : List (List am_V) := ([[(some 1000000040, 0)], [(some 67007, 0)], [(some 67009, 0)]] ++ am_un 68000 40 ++ am_un 71000 40)
def se_X9_ticks_62 : List (List am_V) := ([[(some 1000000039, 0)], [(some 67007, 0)], [(some 67009, 0)]] ++ am_un 68000 40 ++ am_un 71000 40)
def se_X9_ticks_63 : List (List am_V) := ([[(some 1000000038, 0)], [(some 67007, 0)], [(some 67009, 0)]] ++ am_un 68000 40 ++ am_un 71000 40)
def se_X9_ticks_64 : List (List am_V) := ([[(some 1000000037, 0)], [(some 67007, 0)], [(some 67009, 0)]] ++ am_un 68000 40 ++ am_un 71000 40)
def se_X9_ticks_65 : List (List am_V) := ([[(some 1000000036, 0)], [(some 67007, 0)], [(some 67009, 0)]] ++ am_un 68000 40 ++ am_un 71000 40)
def se_X9_ticks_66 : List (List am_V) := ([[(some 1000000035, 0)], [(some 67007, 0)], [(some 67009, 0)]] ++ am_un 68000 40 ++ am_un 71000 40)
def se_X9_ticks_67 : List (List am_V) := ([[(some 1000000034, 0)], [(some 67007, 0)], [(some 67009, 0)]] ++ am_un 68000 40 ++ am_un 71000 40)
def se_X9_ticks_68 : List (List am_V) := ([[(some 1000000033, 0)], [(some 67007, 0)], [(some 67009, 0)]] ++ am_un 68000 40 ++ am_un 71000 40)
def se_X9_ticks_69 : List (List am_V) := ([[(some 1000000032, 0)], [(some 67007, 0)], [(some 67009, 0)]] ++ am_un 68000 40 ++ am_un 71000 40)
def se_X9_ticks_70 : List (List am_V) := ([[(some 1000000031, 0)], [(some 67007, 0)], [(some 67009, 0)]] ++ am_un 68000 40 ++ am_un 71000 40)
def se_X9_ticks_71 : List (List am_V) := ([[(some 1000000030, 0)], [(some 67007, 0)], [(some 67009, 0)]] ++ am_un 68000 40 ++ am_un 71000 40)
def se_X9_ticks_72 : List (List am_V) := ([[(some 1000000029, 0)], [(some 67007, 0)], [(some 67009, 0)]] ++ am_un 68000 40 ++ am_un 71000 40)
def se_X9_ticks_73 : List (List am_V) := ([[(some 1000000028, 0)], [(some 67007, 0)], [(some 67009, 0)]] ++ am_un 68000 40 ++ am_un 71000 40)
def se_X9_ticks_74 : List (List am_V) := ([[(some 1000000027, 0)], [(some 67007, 0)], [(some 67009, 0)]] ++ am_un 68000 40 ++ am_un 71000 40)
def se_X9_ticks_75 : List (List am_V) := ([[(some 1000000026, 0)], [(some 67007, 0)], [(some 67009, 0)]] ++ am_un 68000 40 ++ am_un 71000 40)
def se_X9_ticks_76 : List (List am_V) := ([[(some 1000000025, 0)], [(some 67007, 0)], [(some 67009, 0)]] ++ am_un 68000 40 ++ am_un 71000 40)
def se_X9_ticks_77 : List (List am_V) := ([[(some 1000000024, 0)], [(some 67007, 0)], [(some 67009, 0)]] ++ am_un 68000 40 ++ am_un 71000 40)
def se_X9_ticks_78 : List (List am_V) := ([[(some 1000000023, 0)], [(some 67007, 0)], [(some 67009, 0)]] ++ am_un 68000 40 ++ am_un 71000 40)
def se_X9_ticks_79 : List (List am_V) := ([[(some 1000000022, 0)], [(some 67007, 0)], [(some 67009, 0)]] ++ am_un 68000 40 ++ am_un 71000 40)
def se_X9_ticks_80 : List (List am_V) := ([[(some 1000000021, 0)], [(some 67007, 0)], [(some 67009, 0)]] ++ am_un 68000 40 ++ am_un 71000 40)
def se_X9_ticks_81 : List (List am_V) := ([[(some 1000000020, 0)], [(some 67007, 0)], [(some 67009, 0)]] ++ am_un 68000 40 ++ am_un 71000 40)
def se_X9_ticks_82 : List (List am_V) := ([[(some 1000000019, 0)], [(some 67007, 0)], [(some 67009, 0)]] ++ am_un 68000 40 ++ am_un 71000 40)
def se_X9_ticks_83 : List (List am_V) := ([[(some 1000000018, 0)], [(some 67007, 0)], [(some 67009, 0)]] ++ am_un 68000 40 ++ am_un 71000 40)
def se_X9_ticks_84 : List (List am_V) := ([[(some 1000000017, 0)], [(some 67007, 0)], [(some 67009, 0)]] ++ am_un 68000 40 ++ am_un 71000 40)
def se_X9_ticks_85 : List (List am_V) := ([[(some 1000000016, 0)], [(some 67007, 0)], [(some 67009, 0)]] ++ am_un 68000 40 ++ am_un 71000 40)
def se_X9_ticks_86 : List (List am_V) := ([[(some 1000000015, 0)], [(some 67007, 0)], [(some 67009, 0)]] ++ am_un 68000 40 ++ am_un 71000 40)
def se_X9_ticks_87 : List (List am_V) := ([[(some 1000000014, 0)], [(some 67007, 0)], [(some 67009, 0)]] ++ am_un 68000 40 ++ am_un 71000 40)
def se_X9_ticks_88 : List (List am_V) := ([[(some 1000000013, 0)], [(some 67007, 0)], [(some 67009, 0)]] ++ am_un 68000 40 ++ am_un 71000 40)
def se_X9_ticks_89 : List (List am_V) := ([[(some 1000000012, 0)], [(some 67007, 0)], [(some 67009, 0)]] ++ am_un 68000 40 ++ am_un 71000 40)
def se_X9_ticks_90 : List (List am_V) := ([[(some 1000000011, 0)], [(some 67007, 0)], [(some 67009, 0)]] ++ am_un 68000 40 ++ am_un 71000 40)
def se_X9_ticks_91 : List (List am_V) := ([[(some 1000000010, 0)], [(some 67007, 0)], [(some 67009, 0)]] ++ am_un 68000 40 ++ am_un 71000 40)
def se_X9_ticks_92 : List (List am_V) := ([[(some 1000000009, 0)], [(some 67007, 0)], [(some 67009, 0)]] ++ am_un 68000 40 ++ am_un 71000 40)
def se_X9_ticks_93 : List (List am_V) := ([[(some 1000000008, 0)], [(some 67007, 0)], [(some 67009, 0)]] ++ am_un 68000 40 ++ am_un 71000 40)
def se_X9_ticks_94 : List (List am_V) := ([[(some 1000000007, 0)], [(some 67007, 0)], [(some 67009, 0)]] ++ am_un 68000 40 ++ am_un 71000 40)
def se_X9_ticks_95 : List (List am_V) := ([[(some 1000000006, 0)], [(some 67007, 0)], [(some 67009, 0)]] ++ am_un 68000 40 ++ am_un 71000 40)
def se_X9_ticks_96 : List (List am_V) := ([[(some 1000000005, 0)], [(some 67007, 0)], [(some 67009, 0)]] ++ am_un 68000 40 ++ am_un 71000 40)
def se_X9_ticks_97 : List (List am_V) := ([[(some 1000000004, 0)], [(some 67007, 0)], [(some 67009, 0)]] ++ am_un 68000 40 ++ am_un 71000 40)
def se_X9_ticks_98 : List (List am_V) := ([[(some 1000000003, 0)], [(some 67007, 0)], [(some 67009, 0)]] ++ am_un 68000 40 ++ am_un 71000 40)
def se_X9_ticks_99 : List (List am_V) := ([[(some 1000000002, 0)], [(some 67007, 0)], [(some 67009, 0)]] ++ am_un 68000 40 ++ am_un 71000 40)
def se_X9_ticks_100 : List (List am_V) := ([[(some 1000000001, 0)], [(some 67007, 0)], [(some 67009, 0)]] ++ am_un 68000 40 ++ am_un 71000 40)
def sn_X9_ticks_0 : List am_N := [([((8, 1, 0), 101, 2147483647)], [(none, (-1000000001))], se_X9_ticks_0),
  ([((8, 1, 0), 1, 100), ((8, 1000000000, 0), 3001, 2147483647)], [(none, (-1000000004))], se_X9_ticks_0),
  ([((8, 1, 0), 100, 100), ((8, 1000000000, 0), (-2147483648), 3000)], [(some 1000000100, 0)], se_X9_ticks_1),
  ([((8, 1, 0), 99, 99), ((8, 1000000000, 0), (-2147483648), 3000)], [(some 1000000099, 0)], se_X9_ticks_2),
  ([((8, 1, 0), 98, 98), ((8, 1000000000, 0), (-2147483648), 3000)], [(some 1000000098, 0)], se_X9_ticks_3),
  ([((8, 1, 0), 97, 97), ((8, 1000000000, 0), (-2147483648), 3000)], [(some 1000000097, 0)], se_X9_ticks_4),
  ([((8, 1, 0), 96, 96), ((8, 1000000000, 0), (-2147483648), 3000)], [(some 1000000096, 0)], se_X9_ticks_5),
  ([((8, 1, 0), 95, 95), ((8, 1000000000, 0), (-2147483648), 3000)], [(some 1000000095, 0)], se_X9_ticks_6),
  ([((8, 1, 0), 94, 94), ((8, 1000000000, 0), (-2147483648), 3000)], [(some 1000000094, 0)], se_X9_ticks_7),
  ([((8, 1, 0), 93, 93), ((8, 1000000000, 0), (-2147483648), 3000)], [(some 1000000093, 0)], se_X9_ticks_8),
  ([((8, 1, 0), 92, 92), ((8, 1000000000, 0), (-2147483648), 3000)], [(some 1000000092, 0)], se_X9_ticks_9),
  ([((8, 1, 0), 91, 91), ((8, 1000000000, 0), (-2147483648), 3000)], [(some 1000000091, 0)], se_X9_ticks_10),
  ([((8, 1, 0), 90, 90), ((8, 1000000000, 0), (-2147483648), 3000)], [(some 1000000090, 0)], se_X9_ticks_11),
  ([((8, 1, 0), 89, 89), ((8, 1000000000, 0), (-2147483648), 3000)], [(some 1000000089, 0)], se_X9_ticks_12),
  ([((8, 1, 0), 88, 88), ((8, 1000000000, 0), (-2147483648), 3000)], [(some 1000000088, 0)], se_X9_ticks_13),
  ([((8, 1, 0), 87, 87), ((8, 1000000000, 0), (-2147483648), 3000)], [(some 1000000087, 0)], se_X9_ticks_14),
  ([((8, 1, 0), 86, 86), ((8, 1000000000, 0), (-2147483648), 3000)], [(some 1000000086, 0)], se_X9_ticks_15),
  ([((8, 1, 0), 85, 85), ((8, 1000000000, 0), (-2147483648), 3000)], [(some 1000000085, 0)], se_X9_ticks_16),
  ([((8, 1, 0), 84, 84), ((8, 1000000000, 0), (-2147483648), 3000)], [(some 1000000084, 0)], se_X9_ticks_17),
  ([((8, 1, 0), 83, 83), ((8, 1000000000, 0), (-2147483648), 3000)], [(some 1000000083, 0)], se_X9_ticks_18),
  ([((8, 1, 0), 82, 82), ((8, 1000000000, 0), (-2147483648), 3000)], [(some 1000000082, 0)], se_X9_ticks_19),
  ([((8, 1, 0), 81, 81), ((8, 1000000000, 0), (-2147483648), 3000)], [(some 1000000081, 0)], se_X9_ticks_20),
  ([((8, 1, 0), 80, 80), ((8, 1000000000, 0), (-2147483648), 3000)], [(some 1000000080, 0)], se_X9_ticks_21),
  ([((8, 1, 0), 79, 79), ((8, 1000000000, 0), (-2147483648), 3000)], [(some 1000000079, 0)], se_X9_ticks_22),
  ([((8, 1, 0), 78, 78), ((8, 1000000000, 0), (-2147483648), 3000)], [(some 1000000078, 0)], se_X9_ticks_23),
  ([((8, 1, 0), 77, 77), ((8, 1000000000, 0), (-2147483648), 3000)], [(some 1000000077, 0)], se_X9_ticks_24),
  ([((8, 1, 0), 76, 76), ((8, 1000000000, 0), (-2147483648), 3000)], [(some 1000000076, 0)], se_X9_ticks_25),
  ([((8, 1, 0), 75, 75), ((8, 1000000000, 0), (-2147483648), 3000)], [(some 1000000075, 0)], se_X9_ticks_26),
  ([((8, 1, 0), 74, 74), ((8, 1000000000, 0), (-2147483648), 3000)], [(some 1000000074, 0)], se_X9_ticks_27),
  ([((8, 1, 0), 73, 73), ((8, 1000000000, 0), (-2147483648), 3000)], [(some 1000000073, 0)], se_X9_ticks_28),
  ([((8, 1, 0), 72, 72), ((8, 1000000000, 0), (-2147483648), 3000)], [(some 1000000072, 0)], se_X9_ticks_29),
  ([((8, 1, 0), 71, 71), ((8, 1000000000, 0), (-2147483648), 3000)], [(some 1000000071, 0)], se_X9_ticks_30),
  ([((8, 1, 0), 70, 70), ((8, 1000000000, 0), (-2147483648), 3000)], [(some 1000000070, 0)], se_X9_ticks_31),
  ([((8, 1, 0), 69, 69), ((8, 1000000000, 0), (-2147483648), 3000)], [(some 1000000069, 0)], se_X9_ticks_32),
  ([((8, 1, 0), 68, 68), ((8, 1000000000, 0), (-2147483648), 3000)], [(some 1000000068, 0)], se_X9_ticks_33),
  ([((8, 1, 0), 67, 67), ((8, 1000000000, 0), (-2147483648), 3000)], [(some 1000000067, 0)], se_X9_ticks_34),
  ([((8, 1, 0), 66, 66), ((8, 1000000000, 0), (-2147483648), 3000)], [(some 1000000066, 0)], se_X9_ticks_35),
  ([((8, 1, 0), 65, 65), ((8, 1000000000, 0), (-2147483648), 3000)], [(some 1000000065, 0)], se_X9_ticks_36),
  ([((8, 1, 0), 64, 64), ((8, 1000000000, 0), (-2147483648), 3000)], [(some 1000000064, 0)], se_X9_ticks_37),
  ([((8, 1, 0), 63, 63), ((8, 1000000000, 0), (-2147483648), 3000)], [(some 1000000063, 0)], se_X9_ticks_38),
  ([((8, 1, 0), 62, 62), ((8, 1000000000, 0), (-2147483648), 3000)], [(some 1000000062, 0)], se_X9_ticks_39),
  ([((8, 1, 0), 61, 61), ((8, 1000000000, 0), (-2147483648), 3000)], [(some 1000000061, 0)], se_X9_ticks_40),
  ([((8, 1, 0), 60, 60), ((8, 1000000000, 0), (-2147483648), 3000)], [(some 1000000060, 0)], se_X9_ticks_41),
  ([((8, 1, 0), 59, 59), ((8, 1000000000, 0), (-2147483648), 3000)], [(some 1000000059, 0)], se_X9_ticks_42),
  ([((8, 1, 0), 58, 58), ((8, 1000000000, 0), (-2147483648), 3000)], [(some 1000000058, 0)], se_X9_ticks_43),
  ([((8, 1, 0), 57, 57), ((8, 1000000000, 0), (-2147483648), 3000)], [(some 1000000057, 0)], se_X9_ticks_44),
  ([((8, 1, 0), 56, 56), ((8, 1000000000, 0), (-2147483648), 3000)], [(some 1000000056, 0)], se_X9_ticks_45)]
def sn_X9_ticks_1 : List am_N := [([((8, 1, 0), 55, 55), ((8, 1000000000, 0), (-2147483648), 3000)], [(some 1000000055, 0)], se_X9_ticks_46),
  ([((8, 1, 0), 54, 54), ((8, 1000000000, 0), (-2147483648), 3000)], [(some 1000000054, 0)], se_X9_ticks_47),
  ([((8, 1, 0), 53, 53), ((8, 1000000000, 0), (-2147483648), 3000)], [(some 1000000053, 0)], se_X9_ticks_48),
  ([((8, 1, 0), 52, 52), ((8, 1000000000, 0), (-2147483648), 3000)], [(some 1000000052, 0)], se_X9_ticks_49),
  ([((8, 1, 0), 51, 51), ((8, 1000000000, 0), (-2147483648), 3000)], [(some 1000000051, 0)], se_X9_ticks_50),
  ([((8, 1, 0), 50, 50), ((8, 1000000000, 0), (-2147483648), 3000)], [(some 1000000050, 0)], se_X9_ticks_51),
  ([((8, 1, 0), 49, 49), ((8, 1000000000, 0), (-2147483648), 3000)], [(some 1000000049, 0)], se_X9_ticks_52),
  ([((8, 1, 0), 48, 48), ((8, 1000000000, 0), (-2147483648), 3000)], [(some 1000000048, 0)], se_X9_ticks_53),
  ([((8, 1, 0), 47, 47), ((8, 1000000000, 0), (-2147483648), 3000)], [(some 1000000047, 0)], se_X9_ticks_54),
  ([((8, 1, 0), 46, 46), ((8, 1000000000, 0), (-2147483648), 3000)], [(some 1000000046, 0)], se_X9_ticks_55),
  ([((8, 1, 0), 45, 45), ((8, 1000000000, 0), (-2147483648), 3000)], [(some 1000000045, 0)], se_X9_ticks_56),
  ([((8, 1, 0), 44, 44), ((8, 1000000000, 0), (-2147483648), 3000)], [(some 1000000044, 0)], se_X9_ticks_57),
  ([((8, 1, 0), 43, 43), ((8, 1000000000, 0), (-2147483648), 3000)], [(some 1000000043, 0)], se_X9_ticks_58),
  ([((8, 1, 0), 42, 42), ((8, 1000000000, 0), (-2147483648), 3000)], [(some 1000000042, 0)], se_X9_ticks_59),
  ([((8, 1, 0), 41, 41), ((8, 1000000000, 0), (-2147483648), 3000)], [(some 1000000041, 0)], se_X9_ticks_60),
  ([((8, 1, 0), 40, 40), ((8, 1000000000, 0), (-2147483648), 3000)], [(some 1000000040, 0)], se_X9_ticks_61),
  ([((8, 1, 0), 39, 39), ((8, 1000000000, 0), (-2147483648), 3000)], [(some 1000000039, 0)], se_X9_ticks_62),
  ([((8, 1, 0), 38, 38), ((8, 1000000000, 0), (-2147483648), 3000)], [(some 1000000038, 0)], se_X9_ticks_63),
  ([((8, 1, 0), 37, 37), ((8, 1000000000, 0), (-2147483648), 3000)], [(some 1000000037, 0)], se_X9_ticks_64),
  ([((8, 1, 0), 36, 36), ((8, 1000000000, 0), (-2147483648), 3000)], [(some 1000000036, 0)], se_X9_ticks_65),
  ([((8, 1, 0), 35, 35), ((8, 1000000000, 0), (-2147483648), 3000)], [(some 1000000035, 0)], se_X9_ticks_66),
  ([((8, 1, 0), 34, 34), ((8, 1000000000, 0), (-2147483648), 3000)], [(some 1000000034, 0)], se_X9_ticks_67),
  ([((8, 1, 0), 33, 33), ((8, 1000000000, 0), (-2147483648), 3000)], [(some 1000000033, 0)], se_X9_ticks_68),
  ([((8, 1, 0), 32, 32), ((8, 1000000000, 0), (-2147483648), 3000)], [(some 1000000032, 0)], se_X9_ticks_69),
  ([((8, 1, 0), 31, 31), ((8, 1000000000, 0), (-2147483648), 3000)], [(some 1000000031, 0)], se_X9_ticks_70),
  ([((8, 1, 0), 30, 30), ((8, 1000000000, 0), (-2147483648), 3000)], [(some 1000000030, 0)], se_X9_ticks_71),
  ([((8, 1, 0), 29, 29), ((8, 1000000000, 0), (-2147483648), 3000)], [(some 1000000029, 0)], se_X9_ticks_72),
  ([((8, 1, 0), 28, 28), ((8, 1000000000, 0), (-2147483648), 3000)], [(some 1000000028, 0)], se_X9_ticks_73),
  ([((8, 1, 0), 27, 27), ((8, 1000000000, 0), (-2147483648), 3000)], [(some 1000000027, 0)], se_X9_ticks_74),
  ([((8, 1, 0), 26, 26), ((8, 1000000000, 0), (-2147483648), 3000)], [(some 1000000026, 0)], se_X9_ticks_75),
  ([((8, 1, 0), 25, 25), ((8, 1000000000, 0), (-2147483648), 3000)], [(some 1000000025, 0)], se_X9_ticks_76),
  ([((8, 1, 0), 24, 24), ((8, 1000000000, 0), (-2147483648), 3000)], [(some 1000000024, 0)], se_X9_ticks_77),
  ([((8, 1, 0), 23, 23), ((8, 1000000000, 0), (-2147483648), 3000)], [(some 1000000023, 0)], se_X9_ticks_78),
  ([((8, 1, 0), 22, 22), ((8, 1000000000, 0), (-2147483648), 3000)], [(some 1000000022, 0)], se_X9_ticks_79),
  ([((8, 1, 0), 21, 21), ((8, 1000000000, 0), (-2147483648), 3000)], [(some 1000000021, 0)], se_X9_ticks_80),
  ([((8, 1, 0), 20, 20), ((8, 1000000000, 0), (-2147483648), 3000)], [(some 1000000020, 0)], se_X9_ticks_81),
  ([((8, 1, 0), 19, 19), ((8, 1000000000, 0), (-2147483648), 3000)], [(some 1000000019, 0)], se_X9_ticks_82),
  ([((8, 1, 0), 18, 18), ((8, 1000000000, 0), (-2147483648), 3000)], [(some 1000000018, 0)], se_X9_ticks_83),
  ([((8, 1, 0), 17, 17), ((8, 1000000000, 0), (-2147483648), 3000)], [(some 1000000017, 0)], se_X9_ticks_84),
  ([((8, 1, 0), 16, 16), ((8, 1000000000, 0), (-2147483648), 3000)], [(some 1000000016, 0)], se_X9_ticks_85),
  ([((8, 1, 0), 15, 15), ((8, 1000000000, 0), (-2147483648), 3000)], [(some 1000000015, 0)], se_X9_ticks_86),
  ([((8, 1, 0), 14, 14), ((8, 1000000000, 0), (-2147483648), 3000)], [(some 1000000014, 0)], se_X9_ticks_87),
  ([((8, 1, 0), 13, 13), ((8, 1000000000, 0), (-2147483648), 3000)], [(some 1000000013, 0)], se_X9_ticks_88),
  ([((8, 1, 0), 12, 12), ((8, 1000000000, 0), (-2147483648), 3000)], [(some 1000000012, 0)], se_X9_ticks_89),
  ([((8, 1, 0), 11, 11), ((8, 1000000000, 0), (-2147483648), 3000)], [(some 1000000011, 0)], se_X9_ticks_90),
  ([((8, 1, 0), 10, 10), ((8, 1000000000, 0), (-2147483648), 3000)], [(some 1000000010, 0)], se_X9_ticks_91),
  ([((8, 1, 0), 9, 9), ((8, 1000000000, 0), (-2147483648), 3000)], [(some 1000000009, 0)], se_X9_ticks_92)]
def sn_X9_ticks_2 : List am_N := [([((8, 1, 0), 8, 8), ((8, 1000000000, 0), (-2147483648), 3000)], [(some 1000000008, 0)], se_X9_ticks_93),
  ([((8, 1, 0), 7, 7), ((8, 1000000000, 0), (-2147483648), 3000)], [(some 1000000007, 0)], se_X9_ticks_94),
  ([((8, 1, 0), 6, 6), ((8, 1000000000, 0), (-2147483648), 3000)], [(some 1000000006, 0)], se_X9_ticks_95),
  ([((8, 1, 0), 5, 5), ((8, 1000000000, 0), (-2147483648), 3000)], [(some 1000000005, 0)], se_X9_ticks_96),
  ([((8, 1, 0), 4, 4), ((8, 1000000000, 0), (-2147483648), 3000)], [(some 1000000004, 0)], se_X9_ticks_97),
  ([((8, 1, 0), 3, 3), ((8, 1000000000, 0), (-2147483648), 3000)], [(some 1000000003, 0)], se_X9_ticks_98),
  ([((8, 1, 0), 2, 2), ((8, 1000000000, 0), (-2147483648), 3000)], [(some 1000000002, 0)], se_X9_ticks_99),
  ([((8, 1, 0), 1, 1), ((8, 1000000000, 0), (-2147483648), 3000)], [(some 1000000001, 0)], se_X9_ticks_100),
  ([((8, 1, 0), (-2147483648), 0)], [(none, (-1000000001))], se_X9_ticks_0)]
def sn_X9_ticks : List am_N := sn_X9_ticks_0 ++ sn_X9_ticks_1 ++ sn_X9_ticks_2
def se_X10_ticks_0 : List (List am_V) := ([[(some 7006, 0)], [(some 67007, 0)], [(some 67009, 0)]] ++ am_un 68000 40 ++ am_un 71000 40)
def se_X10_ticks_1 : List (List am_V) := ([[(some 1000000100, 0)], [(some 67007, 0)], [(some 67009, 0)]] ++ am_un 68000 40 ++ am_un 71000 40)
def se_X10_ticks_2 : List (List am_V) := ([[(some 1000000099, 0)], [(some 67007, 0)], [(some 67009, 0)]] ++ am_un 68000 40 ++ am_un 71000 40)
def se_X10_ticks_3 : List (List am_V) := ([[(some 1000000098, 0)], [(some 67007, 0)], [(some 67009, 0)]] ++ am_un 68000 40 ++ am_un 71000 40)
def se_X10_ticks_4 : List (List am_V) := ([[(some 1000000097, 0)], [(some 67007, 0)], [(some 67009, 0)]] ++ am_un 68000 40 ++ am_un 71000 40)
def se_X10_ticks_5 : List (List am_V) := ([[(some 1000000096, 0)], [(some 67007, 0)], [(some 67009, 0)]] ++ am_un 68000 40 ++ am_un 71000 40)
def se_X10_ticks_6 : List (List am_V) := ([[(some 1000000095, 0)], [(some 67007, 0)], [(some 67009, 0)]] ++ am_un 68000 40 ++ am_un 71000 40)
def se_X10_ticks_7 : List (List am_V) := ([[(some 1000000094, 0)], [(some 67007, 0)], [(some 67009, 0)]] ++ am_un 68000 40 ++ am_un 71000 40)
def se_X10_ticks_8 : List (List am_V) := ([[(some 1000000093, 0)], [(some 67007, 0)], [(some 67009, 0)]] ++ am_un 68000 40 ++ am_un 71000 40)
def se_X10_ticks_9 : List (List am_V) := ([[(some 1000000092, 0)], [(some 67007, 0)], [(some 67009, 0)]] ++ am_un 68000 40 ++ am_un 71000 40)
def se_X10_ticks_10 : List (List am_V) := ([[(some 1000000091, 0)], [(some 67007, 0)], [(some 67009, 0)]] ++ am_un 68000 40 ++ am_un 71000 40)
def se_X10_ticks_11 : List (List am_V) := ([[(some 1000000090, 0)], [(some 67007, 0)], [(some 67009, 0)]] ++ am_un 68000 40 ++ am_un 71000 40)
def se_X10_ticks_12 : List (List am_V) := ([[(some 1000000089, 0)], [(some 67007, 0)], [(some 67009, 0)]] ++ am_un 68000 40 ++ am_un 71000 40)
def se_X10_ticks_13 : List (List am_V) := ([[(some 1000000088, 0)], [(some 67007, 0)], [(some 67009, 0)]] ++ am_un 68000 40 ++ am_un 71000 40)
def se_X10_ticks_14 : List (List am_V) := ([[(some 1000000087, 0)], [(some 67007, 0)], [(some 67009, 0)]] ++ am_un 68000 40 ++ am_un 71000 40)
def se_X10_ticks_15 : List (List am_V) := ([[(some 1000000086, 0)], [(some 67007, 0)], [(some 67009, 0)]] ++ am_un 68000 40 ++ am_un 71000 40)
def se_X10_ticks_16 : List (List am_V) := ([[(some 1000000085, 0)], [(some 67007, 0)], [(some 67009, 0)]] ++ am_un 68000 40 ++ am_un 71000 40)
def se_X10_ticks_17 : List (List am_V) := ([[(some 1000000084, 0)], [(some 67007, 0)], [(some 67009, 0)]] ++ am_un 68000 40 ++ am_un 71000 40)
def se_X10_ticks_18 : List (List am_V) := ([[(some 1000000083, 0)], [(some 67007, 0)], [(some 67009, 0)]] ++ am_un 68000 40 ++ am_un 71000 40)
def se_X10_ticks_19 : List (List am_V) := ([[(some 1000000082, 0)], [(some 67007, 0)], [(some 67009, 0)]] ++ am_un 68000 40 ++ am_un 71000 40)
def se_X10_ticks_20 : List (List am_V) := ([[(some 1000000081, 0)], [(some 67007, 0)], [(some 67009, 0)]] ++ am_un 68000 40 ++ am_un 71000 40)
def se_X10_ticks_21 : List (List am_V) := ([[(some 1000000080, 0)], [(some 67007, 0)], [(some 67009, 0)]] ++ am_un 68000 40 ++ am_un 71000 40)
def se_X10_ticks_22 : List (List am_V) := ([[(some 1000000079, 0)], [(some 67007, 0)], [(some 67009, 0)]] ++ am_un 68000 40 ++ am_un 71000 40)
def se_X10_ticks_23 : List (List am_V) := ([[(some 1000000078, 0)], [(some 67007, 0)], [(some 67009, 0)]] ++ am_un 68000 40 ++ am_un 71000 40)
def se_X10_ticks_24 : List (List am_V) := ([[(some 1000000077, 0)], [(some 67007, 0)], [(some 67009, 0)]] ++ am_un 68000 40 ++ am_un 71000 40)
def se_X10_ticks_25 : List (List am_V) := ([[(some 1000000076, 0)], [(some 67007, 0)], [(some 67009, 0)]] ++ am_un 68000 40 ++ am_un 71000 40)
def se_X10_ticks_26 : List (List am_V) := ([[(some 1000000075, 0)], [(some 67007, 0)], [(some 67009, 0)]] ++ am_un 68000 40 ++ am_un 71000 40)
def se_X10_ticks_27 : List (List am_V) := ([[(some 1000000074, 0)], [(some 67007, 0)], [(some 67009, 0)]] ++ am_un 68000 40 ++ am_un 71000 40)
def se_X10_ticks_28 : List (List am_V) := ([[(some 1000000073, 0)], [(some 67007, 0)], [(some 67009, 0)]] ++ am_un 68000 40 ++ am_un 71000 40)
def se_X10_ticks_29 : List (List am_V) := ([[(some 1000000072, 0)], [(some 67007, 0)], [(some 67009, 0)]] ++ am_un 68000 40 ++ am_un 71000 40)
def se_X10_ticks_30 : List (List am_V) := ([[(some 1000000071, 0)], [(some 67007, 0)], [(some 67009, 0)]] ++ am_un 68000 40 ++ am_un 71000 40)
def se_X10_ticks_31 : List (List am_V) := ([[(some 1000000070, 0)], [(some 67007, 0)], [(some 67009, 0)]] ++ am_un 68000 40 ++ am_un 71000 40)
def se_X10_ticks_32 : List (List am_V) := ([[(some 1000000069, 0)], [(some 67007, 0)], [(some 67009, 0)]] ++ am_un 68000 40 ++ am_un 71000 40)
def se_X10_ticks_33 : List (List am_V) := ([[(some 1000000068, 0)], [(some 67007, 0)], [(some 67009, 0)]] ++ am_un 68000 40 ++ am_un 71000 40)
def se_X10_ticks_34 : List (List am_V) := ([[(some 1000000067, 0)], [(some 67007, 0)], [(some 67009, 0)]] ++ am_un 68000 40 ++ am_un 71000 40)
def se_X10_ticks_35 : List (List am_V) := ([[(some 1000000066, 0)], [(some 67007, 0)], [(some 67009, 0)]] ++ am_un 68000 40 ++ am_un 71000 40)
def se_X10_ticks_36 : List (List am_V) := ([[(some 1000000065, 0)], [(some 67007, 0)], [(some 67009, 0)]] ++ am_un 68000 40 ++ am_un 71000 40)
def se_X10_ticks_37 : List (List am_V) := ([[(some 1000000064, 0)], [(some 67007, 0)], [(some 67009, 0)]] ++ am_un 68000 40 ++ am_un 71000 40)
def se_X10_ticks_38 : List (List am_V) := ([[(some 1000000063, 0)], [(some 67007, 0)], [(some 67009, 0)]] ++ am_un 68000 40 ++ am_un 71000 40)
def se_X10_ticks_39 : List (List am_V) := ([[(some 1000000062, 0)], [(some 67007, 0)], [(some 67009, 0)]] ++ am_un 68000 40 ++ am_un 71000 40)
def se_X10_ticks_40 : List (List am_V) := ([[(some 1000000061, 0)], [(some 67007, 0)], [(some 67009, 0)]] ++ am_un 68000 40 ++ am_un 71000 40)
def se_X10_ticks_41 : List (List am_V) := ([[(some 1000000060, 0)], [(some 67007, 0)], [(some 67009, 0)]] ++ am_un 68000 40 ++ am_un 71000 40)
def se_X10_ticks_42 : List (List am_V) := ([[(some 1000000059, 0)], [(some 67007, 0)], [(some 67009, 0)]] ++ am_un 68000 40 ++ am_un 71000 40)
def se_X10_ticks_43 : List (List am_V) := ([[(some 1000000058, 0)], [(some 67007, 0)], [(some 67009, 0)]] ++ am_un 68000 40 ++ am_un 71000 40)
def se_X10_ticks_44 : List (List am_V) := ([[(some 1000000057, 0)], [(some 67007, 0)], [(some 67009, 0)]] ++ am_un 68000 40 ++ am_un 71000 40)
def se_X10_ticks_45 : List (List am_V) := ([[(some 1000000056, 0)], [(some 67007, 0)], [(some 67009, 0)]] ++ am_un 68000 40 ++ am_un 71000 40)
def se_X10_ticks_46 : List (List am_V) := ([[(some 1000000055, 0)], [(some 67007, 0)], [(some 67009, 0)]] ++ am_un 68000 40 ++ am_un 71000 40)
def se_X10_ticks_47 : List (List am_V) := ([[(some 1000000054, 0)], [(some 67007, 0)], [(some 67009, 0)]] ++ am_un 68000 40 ++ am_un 71000 40)
def se_X10_ticks_48 : List (List am_V) := ([[(some 1000000053, 0)], [(some 67007, 0)], [(some 67009, 0)]] ++ am_un 68000 40 ++ am_un 71000 40)
def se_X10_ticks_49 : List (List am_V) := ([[(some 1000000052, 0)], [(some 67007, 0)], [(some 67009, 0)]] ++ am_un 68000 40 ++ am_un 71000 40)
def se_X10_ticks_50 : List (List am_V) := ([[(some 1000000051, 0)], [(some 67007, 0)], [(some 67009, 0)]] ++ am_un 68000 40 ++ am_un 71000 40)
def se_X10_ticks_51 : List (List am_V) := ([[(some 1000000050, 0)], [(some 67007, 0)], [(some 67009, 0)]] ++ am_un 68000 40 ++ am_un 71000 40)
def se_X10_ticks_52 : List (List am_V) := ([[(some 1000000049, 0)], [(some 67007, 0)], [(some 67009, 0)]] ++ am_un 68000 40 ++ am_un 71000 40)
def se_X10_ticks_53 : List (List am_V) := ([[(some 1000000048, 0)], [(some 67007, 0)], [(some 67009, 0)]] ++ am_un 68000 40 ++ am_un 71000 40)
def se_X10_ticks_54 : List (List am_V) := ([[(some 1000000047, 0)], [(some 67007, 0)], [(some 67009, 0)]] ++ am_un 68000 40 ++ am_un 71000 40)
def se_X10_ticks_55 : List (List am_V) := ([[(some 1000000046, 0)], [(some 67007, 0)], [(some 67009, 0)]] ++ am_un 68000 40 ++ am_un 71000 40)
def se_X10_ticks_56 : List (List am_V) := ([[(some 1000000045, 0)], [(some 67007, 0)], [(some 67009, 0)]] ++ am_un 68000 40 ++ am_un 71000 40)
def se_X10_ticks_57 : List (List am_V) := ([[(some 1000000044, 0)], [(some 67007, 0)], [(some 67009, 0)]] ++ am_un 68000 40 ++ am_un 71000 40)
def se_X10_ticks_58 : List (List am_V) := ([[(some 1000000043, 0)], [(some 67007, 0)], [(some 67009, 0)]] ++ am_un 68000 40 ++ am_un 71000 40)
def se_X10_ticks_59 : List (List am_V) := ([[(some 1000000042, 0)], [(some 67007, 0)], [(some 67009, 0)]] ++ am_un 68000 40 ++ am_un 71000 40)
def se_X10_ticks_60 : List (List am_V) := ([[(some 1000000041, 0)], [(some 67007, 0)], [(some 67009, 0)]] ++ am_un 68000 40 ++ am_un 71000 40)
def se_X10_ticks_61 : List (List am_V) := ([[(some 1000000040, 0)], [(some 67007, 0)], [(some 67009, 0)]] ++ am_un 68000 40 ++ am_un 71000 40)
def se_X10_ticks_62 : List (List am_V) := ([[(some 1000000039, 0)], [(some 67007, 0)], [(some 67009, 0)]] ++ am_un 68000 40 ++ am_un 71000 40)
def se_X10_ticks_63 : List (List am_V) := ([[(some 1000000038, 0)], [(some 67007, 0)], [(some 67009, 0)]] ++ am_un 68000 40 ++ am_un 71000 40)
def se_X10_ticks_64 : List (List am_V) := ([[(some 1000000037, 0)], [(some 67007, 0)], [(some 67009, 0)]] ++ am_un 68000 40 ++ am_un 71000 40)
def se_X10_ticks_65 : List (List am_V) := ([[(some 1000000036, 0)], [(some 67007, 0)], [(some 67009, 0)]] ++ am_un 68000 40 ++ am_un 71000 40)
def se_X10_ticks_66 : List (List am_V) := ([[(some 1000000035, 0)], [(some 67007, 0)], [(some 67009, 0)]] ++ am_un 68000 40 ++ am_un 71000 40)
def se_X10_ticks_67 : List (List am_V) := ([[(some 1000000034, 0)], [(some 67007, 0)], [(some 67009, 0)]] ++ am_un 68000 40 ++ am_un 71000 40)
def se_X10_ticks_68 : List (List am_V) := ([[(some 1000000033, 0)], [(some 67007, 0)], [(some 67009, 0)]] ++ am_un 68000 40 ++ am_un 71000 40)
def se_X10_ticks_69 : List (List am_V) := ([[(some 1000000032, 0)], [(some 67007, 0)], [(some 67009, 0)]] ++ am_un 68000 40 ++ am_un 71000 40)
def se_X10_ticks_70 : List (List am_V) := ([[(some 1000000031, 0)], [(some 67007, 0)], [(some 67009, 0)]] ++ am_un 68000 40 ++ am_un 71000 40)
def se_X10_ticks_71 : List (List am_V) := ([[(some 1000000030, 0)], [(some 67007, 0)], [(some 67009, 0)]] ++ am_un 68000 40 ++ am_un 71000 40)
def se_X10_ticks_72 : List (List am_V) := ([[(some 1000000029, 0)], [(some 67007, 0)], [(some 67009, 0)]] ++ am_un 68000 40 ++ am_un 71000 40)
def se_X10_ticks_73 : List (List am_V) := ([[(some 1000000028, 0)], [(some 67007, 0)], [(some 67009, 0)]] ++ am_un 68000 40 ++ am_un 71000 40)
def se_X10_ticks_74 : List (List am_V) := ([[(some 1000000027, 0)], [(some 67007, 0)], [(some 67009, 0)]] ++ am_un 68000 40 ++ am_un 71000 40)
def se_X10_ticks_75 : List (List am_V) := ([[(some 1000000026, 0)], [(some 67007, 0)], [(some 67009, 0)]] ++ am_un 68000 40 ++ am_un 71000 40)
def se_X10_ticks_76 : List (List am_V) := ([[(some 1000000025, 0)], [(some 67007, 0)], [(some 67009, 0)]] ++ am_un 68000 40 ++ am_un 71000 40)
def se_X10_ticks_77 : List (List am_V) := ([[(some 1000000024, 0)], [(some 67007, 0)], [(some 67009, 0)]] ++ am_un 68000 40 ++ am_un 71000 40)
def se_X10_ticks_78 : List (List am_V) := ([[(some 1000000023, 0)], [(some 67007, 0)], [(some 67009, 0)]] ++ am_un 68000 40 ++ am_un 71000 40)
def se_X10_ticks_79 : List (List am_V) := ([[(some 1000000022, 0)], [(some 67007, 0)], [(some 67009, 0)]] ++ am_un 68000 40 ++ am_un 71000 40)
def se_X10_ticks_80 : List (List am_V) := ([[(some 1000000021, 0)], [(some 67007, 0)], [(some 67009, 0)]] ++ am_un 68000 40 ++ am_un 71000 40)
def se_X10_ticks_81 : List (List am_V) := ([[(some 1000000020, 0)], [(some 67007, 0)], [(some 67009, 0)]] ++ am_un 68000 40 ++ am_un 71000 40)
def se_X10_ticks_82 : List (List am_V) := ([[(some 1000000019, 0)], [(some 67007, 0)], [(some 67009, 0)]] ++ am_un 68000 40 ++ am_un 71000 40)
def se_X10_ticks_83 : List (List am_V) := ([[(some 1000000018, 0)], [(some 67007, 0)], [(some 67009, 0)]] ++ am_un 68000 40 ++ am_un 71000 40)
def se_X10_ticks_84 : List (List am_V) := ([[(some 1000000017, 0)], [(some 67007, 0)], [(some 67009, 0)]] ++ am_un 68000 40 ++ am_un 71000 40)
def se_X10_ticks_85 : List (List am_V) := ([[(some 1000000016, 0)], [(some 67007, 0)], [(some 67009, 0)]] ++ am_un 68000 40 ++ am_un 71000 40)
def se_X10_ticks_86 : List (List am_V) := ([[(some 1000000015, 0)], [(some 67007, 0)], [(some 67009, 0)]] ++ am_un 68000 40 ++ am_un 71000 40)
def se_X10_ticks_87 : List (List am_V) := ([[(some 1000000014, 0)], [(some 67007, 0)], [(some 67009, 0)]] ++ am_un 68000 40 ++ am_un 71000 40)
def se_X10_ticks_88 : List (List am_V) := ([[(some 1000000013, 0)], [(some 67007, 0)], [(some 67009, 0)]] ++ am_un 68000 40 ++ am_un 71000 40)
def se_X10_ticks_89 : List (List am_V) := ([[(some 1000000012, 0)], [(some 67007, 0)], [(some 67009, 0)]] ++ am_un 68000 40 ++ am_un 71000 40)
def se_X10_ticks_90 : List (List am_V) := ([[(some 1000000011, 0)], [(some 67007, 0)], [(some 67009, 0)]] ++ am_un 68000 40 ++ am_un 71000 40)
def se_X10_ticks_91 : List (List am_V) := ([[(some 1000000010, 0)], [(some 67007, 0)], [(some 67009, 0)]] ++ am_un 68000 40 ++ am_un 71000 40)
def se_X10_ticks_92 : List (List am_V) := ([[(some 1000000009, 0)], [(some 67007, 0)], [(some 67009, 0)]] ++ am_un 68000 40 ++ am_un 71000 40)
def se_X10_ticks_93 : List (List am_V) := ([[(some 1000000008, 0)], [(some 67007, 0)], [(some 67009, 0)]] ++ am_un 68000 40 ++ am_un 71000 40)
def se_X10_ticks_94 : List (List am_V) := ([[(some 1000000007, 0)], [(some 67007, 0)], [(some 67009, 0)]] ++ am_un 68000 40 ++ am_un 71000 40)
def se_X10_ticks_95 : List (List am_V) := ([[(some 1000000006, 0)], [(some 67007, 0)], [(some 67009, 0)]] ++ am_un 68000 40 ++ am_un 71000 40)
def se_X10_ticks_96 : List (List am_V) := ([[(some 1000000005, 0)], [(some 67007, 0)], [(some 67009, 0)]] ++ am_un 68000 40 ++ am_un 71000 40)
def se_X10_ticks_97 : List (List am_V) := ([[(some 1000000004, 0)], [(some 67007, 0)], [(some 67009, 0)]] ++ am_un 68000 40 ++ am_un 71000 40)
def se_X10_ticks_98 : List (List am_V) := ([[(some 1000000003, 0)], [(some 67007, 0)], [(some 67009, 0)]] ++ am_un 68000 40 ++ am_un 71000 40)
def se_X10_ticks_99 : List (List am_V) := ([[(some 1000000002, 0)], [(some 67007, 0)], [(some 67009, 0)]] ++ am_un 68000 40 ++ am_un 71000 40)
def se_X10_ticks_100 : List (List am_V) := ([[(some 1000000001, 0)], [(some 67007, 0)], [(some 67009, 0)]] ++ am_un 68000 40 ++ am_un 71000 40)
def sn_X10_ticks_0 : List am_N := [([((8, 1, 0), (-2147483648), 0)], [(none, (-1000000001))], se_X10_ticks_0),
  ([((8, 1, 0), 101, 2147483647)], [(none, (-1000000001))], se_X10_ticks_0),
  ([((8, 1, 0), 1, 100), ((8, 1000000000, 0), 3001, 2147483647)], [(none, (-1000000004))], se_X10_ticks_0),
  ([((8, 1, 0), 100, 100), ((8, 1000000000, 0), (-2147483648), 3000)], [(some 1000000100, 0)], se_X10_ticks_1),
  ([((8, 1, 0), 99, 99), ((8, 1000000000, 0), (-2147483648), 3000)], [(some 1000000099, 0)], se_X10_ticks_2),
  ([((8, 1, 0), 98, 98), ((8, 1000000000, 0), (-2147483648), 3000)], [(some 1000000098, 0)], se_X10_ticks_3),
  ([((8, 1, 0), 97, 97), ((8, 1000000000, 0), (-2147483648), 3000)], [(some 1000000097, 0)], se_X10_ticks_4),
  ([((8, 1, 0), 96, 96), ((8, 1000000000, 0), (-2147483648), 3000)], [(some 1000000096, 0)], se_X10_ticks_5),
  ([((8, 1, 0), 95, 95), ((8, 1000000000, 0), (-2147483648), 3000)], [(some 1000000095, 0)], se_X10_ticks_6),
  ([((8, 1, 0), 94, 94), ((8, 1000000000, 0), (-2147483648), 3000)], [(some 1000000094, 0)], se_X10_ticks_7),
  ([((8, 1, 0), 93, 93), ((8, 1000000000, 0), (-2147483648), 3000)], [(some 1000000093, 0)], se_X10_ticks_8),
  ([((8, 1, 0), 92, 92), ((8, 1000000000, 0), (-2147483648), 3000)], [(some 1000000092, 0)], se_X10_ticks_9),
  ([((8, 1, 0), 91, 91), ((8, 1000000000, 0), (-2147483648), 3000)], [(some 1000000091, 0)], se_X10_ticks_10),
  ([((8, 1, 0), 90, 90), ((8, 1000000000, 0), (-2147483648), 3000)], [(some 1000000090, 0)], se_X10_ticks_11),
  ([((8, 1, 0), 89, 89), ((8, 1000000000, 0), (-2147483648), 3000)], [(some 1000000089, 0)], se_X10_ticks_12),
  ([((8, 1, 0), 88, 88), ((8, 1000000000, 0), (-2147483648), 3000)], [(some 1000000088, 0)], se_X10_ticks_13),
  ([((8, 1, 0), 87, 87), ((8, 1000000000, 0), (-2147483648), 3000)], [(some 1000000087, 0)], se_X10_ticks_14),
  ([((8, 1, 0), 86, 86), ((8, 1000000000, 0), (-2147483648), 3000)], [(some 1000000086, 0)], se_X10_ticks_15),
  ([((8, 1, 0), 85, 85), ((8, 1000000000, 0), (-2147483648), 3000)], [(some 1000000085, 0)], se_X10_ticks_16),
  ([((8, 1, 0), 84, 84), ((8, 1000000000, 0), (-2147483648), 3000)], [(some 1000000084, 0)], se_X10_ticks_17),
  ([((8, 1, 0), 83, 83), ((8, 1000000000, 0), (-2147483648), 3000)], [(some 1000000083, 0)], se_X10_ticks_18),
  ([((8, 1, 0), 82, 82), ((8, 1000000000, 0), (-2147483648), 3000)], [(some 1000000082, 0)], se_X10_ticks_19),
  ([((8, 1, 0), 81, 81), ((8, 1000000000, 0), (-2147483648), 3000)], [(some 1000000081, 0)], se_X10_ticks_20),
  ([((8, 1, 0), 80, 80), ((8, 1000000000, 0), (-2147483648), 3000)], [(some 1000000080, 0)], se_X10_ticks_21),
  ([((8, 1, 0), 79, 79), ((8, 1000000000, 0), (-2147483648), 3000)], [(some 1000000079, 0)], se_X10_ticks_22),
  ([((8, 1, 0), 78, 78), ((8, 1000000000, 0), (-2147483648), 3000)], [(some 1000000078, 0)], se_X10_ticks_23),
  ([((8, 1, 0), 77, 77), ((8, 1000000000, 0), (-2147483648), 3000)], [(some 1000000077, 0)], se_X10_ticks_24),
  ([((8, 1, 0), 76, 76), ((8, 1000000000, 0), (-2147483648), 3000)], [(some 1000000076, 0)], se_X10_ticks_25),
  ([((8, 1, 0), 75, 75), ((8, 1000000000, 0), (-2147483648), 3000)], [(some 1000000075, 0)], se_X10_ticks_26),
  ([((8, 1, 0), 74, 74), ((8, 1000000000, 0), (-2147483648), 3000)], [(some 1000000074, 0)], se_X10_ticks_27),
  ([((8, 1, 0), 73, 73), ((8, 1000000000, 0), (-2147483648), 3000)], [(some 1000000073, 0)], se_X10_ticks_28),
  ([((8, 1, 0), 72, 72), ((8, 1000000000, 0), (-2147483648), 3000)], [(some 1000000072, 0)], se_X10_ticks_29),
  ([((8, 1, 0), 71, 71), ((8, 1000000000, 0), (-2147483648), 3000)], [(some 1000000071, 0)], se_X10_ticks_30),
  ([((8, 1, 0), 70, 70), ((8, 1000000000, 0), (-2147483648), 3000)], [(some 1000000070, 0)], se_X10_ticks_31),
  ([((8, 1, 0), 69, 69), ((8, 1000000000, 0), (-2147483648), 3000)], [(some 1000000069, 0)], se_X10_ticks_32),
  ([((8, 1, 0), 68, 68), ((8, 1000000000, 0), (-2147483648), 3000)], [(some 1000000068, 0)], se_X10_ticks_33),
  ([((8, 1, 0), 67, 67), ((8, 1000000000, 0), (-2147483648), 3000)], [(some 1000000067, 0)], se_X10_ticks_34),
  ([((8, 1, 0), 66, 66), ((8, 1000000000, 0), (-2147483648), 3000)], [(some 1000000066, 0)], se_X10_ticks_35),
  ([((8, 1, 0), 65, 65), ((8, 1000000000, 0), (-2147483648), 3000)], [(some 1000000065, 0)], se_X10_ticks_36),
  ([((8, 1, 0), 64, 64), ((8, 1000000000, 0), (-2147483648), 3000)], [(some 1000000064, 0)], se_X10_ticks_37),
  ([((8, 1, 0), 63, 63), ((8, 1000000000, 0), (-2147483648), 3000)], [(some 1000000063, 0)], se_X10_ticks_38),
  ([((8, 1, 0), 62, 62), ((8, 1000000000, 0), (-2147483648), 3000)], [(some 1000000062, 0)], se_X10_ticks_39),
  ([((8, 1, 0), 61, 61), ((8, 1000000000, 0), (-2147483648), 3000)], [(some 1000000061, 0)], se_X10_ticks_40),
  ([((8, 1, 0), 60, 60), ((8, 1000000000, 0), (-2147483648), 3000)], [(some 1000000060, 0)], se_X10_ticks_41),
  ([((8, 1, 0), 59, 59), ((8, 1000000000, 0), (-2147483648), 3000)], [(some 1000000059, 0)], se_X10_ticks_42),
  ([((8, 1, 0), 58, 58), ((8, 1000000000, 0), (-2147483648), 3000)], [(some 1000000058, 0)], se_X10_ticks_43),
  ([((8, 1, 0), 57, 57), ((8, 1000000000, 0), (-2147483648), 3000)], [(some 1000000057, 0)], se_X10_ticks_44)]
def sn_X10_ticks_1 : List am_N := [([((8, 1, 0), 56, 56), ((8, 1000000000, 0), (-2147483648), 3000)], [(some 1000000056, 0)], se_X10_ticks_45),
  ([((8, 1, 0), 55, 55), ((8, 1000000000, 0), (-2147483648), 3000)], [(some 1000000055, 0)], se_X10_ticks_46),
  ([((8, 1, 0), 54, 54), ((8, 1000000000, 0), (-2147483648), 3000)], [(some 1000000054, 0)], se_X10_ticks_47),
  ([((8, 1, 0), 53, 53), ((8, 1000000000, 0), (-2147483648), 3000)], [(some 1000000053, 0)], se_X10_ticks_48),
  ([((8, 1, 0), 52, 52), ((8, 1000000000, 0), (-2147483648), 3000)], [(some 1000000052, 0)], se_X10_ticks_49),
  ([((8, 1, 0), 51, 51), ((8, 1000000000, 0), (-2147483648), 3000)], [(some 1000000051, 0)], se_X10_ticks_50),
  ([((8, 1, 0), 50, 50), ((8, 1000000000, 0), (-2147483648), 3000)], [(some 1000000050, 0)], se_X10_ticks_51),
  ([((8, 1, 0), 49, 49), ((8, 1000000000, 0), (-2147483648), 3000)], [(some 1000000049, 0)], se_X10_ticks_52),
  ([((8, 1, 0), 48, 48), ((8, 1000000000, 0), (-2147483648), 3000)], [(some 1000000048, 0)], se_X10_ticks_53),
  ([((8, 1, 0), 47, 47), ((8, 1000000000, 0), (-2147483648), 3000)], [(some 1000000047, 0)], se_X10_ticks_54),
  ([((8, 1, 0), 46, 46), ((8, 1000000000, 0), (-2147483648), 3000)], [(some 1000000046, 0)], se_X10_ticks_55),
  ([((8, 1, 0), 45, 45), ((8, 1000000000, 0), (-2147483648), 3000)], [(some 1000000045, 0)], se_X10_ticks_56),
  ([((8, 1, 0), 44, 44), ((8, 1000000000, 0), (-2147483648), 3000)], [(some 1000000044, 0)], se_X10_ticks_57),
  ([((8, 1, 0), 43, 43), ((8, 1000000000, 0), (-2147483648), 3000)], [(some 1000000043, 0)], se_X10_ticks_58),
  ([((8, 1, 0), 42, 42), ((8, 1000000000, 0), (-2147483648), 3000)], [(some 1000000042, 0)], se_X10_ticks_59),
  ([((8, 1, 0), 41, 41), ((8, 1000000000, 0), (-2147483648), 3000)], [(some 1000000041, 0)], se_X10_ticks_60),
  ([((8, 1, 0), 40, 40), ((8, 1000000000, 0), (-2147483648), 3000)], [(some 1000000040, 0)], se_X10_ticks_61),
  ([((8, 1, 0), 39, 39), ((8, 1000000000, 0), (-2147483648), 3000)], [(some 1000000039, 0)], se_X10_ticks_62),
  ([((8, 1, 0), 38, 38), ((8, 1000000000, 0), (-2147483648), 3000)], [(some 1000000038, 0)], se_X10_ticks_63),
  ([((8, 1, 0), 37, 37), ((8, 1000000000, 0), (-2147483648), 3000)], [(some 1000000037, 0)], se_X10_ticks_64),
  ([((8, 1, 0), 36, 36), ((8, 1000000000, 0), (-2147483648), 3000)], [(some 1000000036, 0)], se_X10_ticks_65),
  ([((8, 1, 0), 35, 35), ((8, 1000000000, 0), (-2147483648), 3000)], [(some 1000000035, 0)], se_X10_ticks_66),
  ([((8, 1, 0), 34, 34), ((8, 1000000000, 0), (-2147483648), 3000)], [(some 1000000034, 0)], se_X10_ticks_67),
  ([((8, 1, 0), 33, 33), ((8, 1000000000, 0), (-2147483648), 3000)], [(some 1000000033, 0)], se_X10_ticks_68),
  ([((8, 1, 0), 32, 32), ((8, 1000000000, 0), (-2147483648), 3000)], [(some 1000000032, 0)], se_X10_ticks_69),
  ([((8, 1, 0), 31, 31), ((8, 1000000000, 0), (-2147483648), 3000)], [(some 1000000031, 0)], se_X10_ticks_70),
  ([((8, 1, 0), 30, 30), ((8, 1000000000, 0), (-2147483648), 3000)], [(some 1000000030, 0)], se_X10_ticks_71),
  ([((8, 1, 0), 29, 29), ((8, 1000000000, 0), (-2147483648), 3000)], [(some 1000000029, 0)], se_X10_ticks_72),
  ([((8, 1, 0), 28, 28), ((8, 1000000000, 0), (-2147483648), 3000)], [(some 1000000028, 0)], se_X10_ticks_73),
  ([((8, 1, 0), 27, 27), ((8, 1000000000, 0), (-2147483648), 3000)], [(some 1000000027, 0)], se_X10_ticks_74),
  ([((8, 1, 0), 26, 26), ((8, 1000000000, 0), (-2147483648), 3000)], [(some 1000000026, 0)], se_X10_ticks_75),
  ([((8, 1, 0), 25, 25), ((8, 1000000000, 0), (-2147483648), 3000)], [(some 1000000025, 0)], se_X10_ticks_76),
  ([((8, 1, 0), 24, 24), ((8, 1000000000, 0), (-2147483648), 3000)], [(some 1000000024, 0)], se_X10_ticks_77),
  ([((8, 1, 0), 23, 23), ((8, 1000000000, 0), (-2147483648), 3000)], [(some 1000000023, 0)], se_X10_ticks_78),
  ([((8, 1, 0), 22, 22), ((8, 1000000000, 0), (-2147483648), 3000)], [(some 1000000022, 0)], se_X10_ticks_79),
  ([((8, 1, 0), 21, 21), ((8, 1000000000, 0), (-2147483648), 3000)], [(some 1000000021, 0)], se_X10_ticks_80),
  ([((8, 1, 0), 20, 20), ((8, 1000000000, 0), (-2147483648), 3000)], [(some 1000000020, 0)], se_X10_ticks_81),
  ([((8, 1, 0), 19, 19), ((8, 1000000000, 0), (-2147483648), 3000)], [(some 1000000019, 0)], se_X10_ticks_82),
  ([((8, 1, 0), 18, 18), ((8, 1000000000, 0), (-2147483648), 3000)], [(some 1000000018, 0)], se_X10_ticks_83),
  ([((8, 1, 0), 17, 17), ((8, 1000000000, 0), (-2147483648), 3000)], [(some 1000000017, 0)], se_X10_ticks_84),
  ([((8, 1, 0), 16, 16), ((8, 1000000000, 0), (-2147483648), 3000)], [(some 1000000016, 0)], se_X10_ticks_85),
  ([((8, 1, 0), 15, 15), ((8, 1000000000, 0), (-2147483648), 3000)], [(some 1000000015, 0)], se_X10_ticks_86),
  ([((8, 1, 0), 14, 14), ((8, 1000000000, 0), (-2147483648), 3000)], [(some 1000000014, 0)], se_X10_ticks_87),
  ([((8, 1, 0), 13, 13), ((8, 1000000000, 0), (-2147483648), 3000)], [(some 1000000013, 0)], se_X10_ticks_88),
  ([((8, 1, 0), 12, 12), ((8, 1000000000, 0), (-2147483648), 3000)], [(some 1000000012, 0)], se_X10_ticks_89),
  ([((8, 1, 0), 11, 11), ((8, 1000000000, 0), (-2147483648), 3000)], [(some 1000000011, 0)], se_X10_ticks_90)]
def sn_X10_ticks_2 : List am_N := [([((8, 1, 0), 10, 10), ((8, 1000000000, 0), (-2147483648), 3000)], [(some 1000000010, 0)], se_X10_ticks_91),
  ([((8, 1, 0), 9, 9), ((8, 1000000000, 0), (-2147483648), 3000)], [(some 1000000009, 0)], se_X10_ticks_92),
  ([((8, 1, 0), 8, 8), ((8, 1000000000, 0), (-2147483648), 3000)], [(some 1000000008, 0)], se_X10_ticks_93),
  ([((8, 1, 0), 7, 7), ((8, 1000000000, 0), (-2147483648), 3000)], [(some 1000000007, 0)], se_X10_ticks_94),
  ([((8, 1, 0), 6, 6), ((8, 1000000000, 0), (-2147483648), 3000)], [(some 1000000006, 0)], se_X10_ticks_95),
  ([((8, 1, 0), 5, 5), ((8, 1000000000, 0), (-2147483648), 3000)], [(some 1000000005, 0)], se_X10_ticks_96),
  ([((8, 1, 0), 4, 4), ((8, 1000000000, 0), (-2147483648), 3000)], [(some 1000000004, 0)], se_X10_ticks_97),
  ([((8, 1, 0), 3, 3), ((8, 1000000000, 0), (-2147483648), 3000)], [(some 1000000003, 0)], se_X10_ticks_98),
  ([((8, 1, 0), 2, 2), ((8, 1000000000, 0), (-2147483648), 3000)], [(some 1000000002, 0)], se_X10_ticks_99),
  ([((8, 1, 0), 1, 1), ((8, 1000000000, 0), (-2147483648), 3000)], [(some 1000000001, 0)], se_X10_ticks_100)]
def sn_X10_ticks : List am_N := sn_X10_ticks_0 ++ sn_X10_ticks_1 ++ sn_X10_ticks_2
theorem sq_ticks : am_chk rel_p rel_g bc_X9_ticks bc_X10_ticks sc_X9_ticks sc_X10_ticks sn_X9_ticks sn_X10_ticks = true := by decide +kernel
theorem sa_ticks : sn_X9_ticks.all (fun n => sn_X10_ticks.all (am_ok false n)) = true := by decide +kernel
theorem step_ticks {c0 c1 : ab_C} {a x y : Int32} {cs cs1 cs2 : ex_C} (hc : bc_X9_ticks = [c0]) (hc' : bc_X10_ticks = [c1]) (h : ab_post ab_hd c0 [.ref 0, .int a] cs (some (.int x)) cs1) (h' : ab_post ab_hd c1 [.ref 76, .int a] cs1 (some (.int y)) cs2) (hR : rel_R cs) : rel_R cs2 := by
  have q := sq_ticks
  rw [hc, hc'] at q
  obtain ⟨q1, f9, f10, q2, q3⟩ := am_chkk q
  have r := am_main q1 f9 f10 q2 q3 sa_ticks h h' hR rel_gh
  exact r.2
theorem ini_R : rel_R ini_cs := am_ink (by first | decide +kernel | decide | rfl)
