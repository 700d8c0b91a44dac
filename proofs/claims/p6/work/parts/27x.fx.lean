/-- what of the two states is the same -/
def rel_p : am_P := [((7, 6), (76, 0)), ((9, 0), (79, 0)), ((9, 1), (79, 1)), ((9, 2), (79, 2)), ((9, 3), (79, 3)), ((9, 4), (79, 4)), ((9, 5), (79, 5))]
def rel_R (cs : ex_C) : Prop := am_R rel_p cs
theorem rel_keep {W1 W2 : ab_W} {cs cs1 cs2 : ex_C} (h1 : ab_fr W1 cs cs1) (h2 : ab_fr W2 cs1 cs2) (hW1 : rel_p.all (fun p => !ab_cov W1 p.1.1 p.1.2 && !ab_cov W1 p.2.1 p.2.2) = true) (hW2 : rel_p.all (fun p => !ab_cov W2 p.1.1 p.1.2 && !ab_cov W2 p.2.1 p.2.2) = true) (h : rel_R cs) : rel_R cs2 := am_keep h1 h2 hW1 hW2 h
def se_X9_leak_0 : List (List am_V) := [[(some 8006, 0)], [(some 10000, 0)], [(some 10001, 0)], [(some 10002, 0)], [(some 10003, 0)], [(some 10004, 0)], [(some 10005, 0)]]
def se_X9_leak_1 : List (List am_V) := [[(some 8006, 0)], [(some 2, 0)], [(some 10001, 0)], [(some 10002, 0)], [(some 10003, 0)], [(some 10004, 0)], [(some 10005, 0)]]
def se_X9_leak_2 : List (List am_V) := [[(some 8006, 0)], [(some 10000, 0)], [(some 2, 0)], [(some 10002, 0)], [(some 10003, 0)], [(some 10004, 0)], [(some 10005, 0)]]
def se_X9_leak_3 : List (List am_V) := [[(some 8006, 0)], [(some 10000, 0)], [(some 10001, 0)], [(some 2, 0)], [(some 10003, 0)], [(some 10004, 0)], [(some 10005, 0)]]
def se_X9_leak_4 : List (List am_V) := [[(some 8006, 0)], [(some 10000, 0)], [(some 10001, 0)], [(some 10002, 0)], [(some 2, 0)], [(some 10004, 0)], [(some 10005, 0)]]
def se_X9_leak_5 : List (List am_V) := [[(some 8006, 0)], [(some 10000, 0)], [(some 10001, 0)], [(some 10002, 0)], [(some 10003, 0)], [(some 2, 0)], [(some 10005, 0)]]
def se_X9_leak_6 : List (List am_V) := [[(some 8006, 0)], [(some 10000, 0)], [(some 10001, 0)], [(some 10002, 0)], [(some 10003, 0)], [(some 10004, 0)], [(some 2, 0)]]
def sn_X9_leak : List am_N := [([((8, 1, 0), 0, 5), ((8, 2, 0), (-2147483648), (-1)), ((9, 1, 8006), (-4294967296), (-1)), ((8, 8006, 0), 1, 6)], [(none, (-1000000001))], se_X9_leak_0),
  ([((8, 1, 0), 0, 0), ((8, 2, 0), 0, 50), ((9, 1, 8006), (-4294967296), (-1)), ((8, 8006, 0), 1, 6)], [(some 10000, 0)], se_X9_leak_1),
  ([((8, 1, 0), 1, 1), ((8, 2, 0), 0, 50), ((9, 1, 8006), (-4294967296), (-1)), ((8, 8006, 0), 1, 6)], [(some 10001, 0)], se_X9_leak_2),
  ([((8, 1, 0), 2, 2), ((8, 2, 0), 0, 50), ((9, 1, 8006), (-4294967296), (-1)), ((8, 8006, 0), 1, 6)], [(some 10002, 0)], se_X9_leak_3),
  ([((8, 1, 0), 3, 3), ((8, 2, 0), 0, 50), ((9, 1, 8006), (-4294967296), (-1)), ((8, 8006, 0), 1, 6)], [(some 10003, 0)], se_X9_leak_4),
  ([((8, 1, 0), 4, 4), ((8, 2, 0), 0, 50), ((9, 1, 8006), (-4294967296), (-1)), ((8, 8006, 0), 1, 6)], [(some 10004, 0)], se_X9_leak_5),
  ([((8, 1, 0), 5, 5), ((8, 2, 0), 0, 50), ((9, 1, 8006), (-4294967296), (-1)), ((8, 8006, 0), 1, 6)], [(some 10005, 0)], se_X9_leak_6),
  ([((8, 1, 0), 0, 5), ((8, 2, 0), 51, 2147483647), ((9, 1, 8006), (-4294967296), (-1)), ((8, 8006, 0), 1, 6)], [(none, (-1000000001))], se_X9_leak_0),
  ([((8, 1, 0), 0, 2147483647), ((9, 1, 8006), 0, 4294967296), ((8, 8006, 0), 0, 6)], [(none, (-1000000001))], se_X9_leak_0),
  ([((8, 1, 0), (-2147483648), (-1))], [(none, (-1000000001))], se_X9_leak_0)]
def se_X10_leak_0 : List (List am_V) := [[(some 8006, 0)], [(some 10000, 0)], [(some 10001, 0)], [(some 10002, 0)], [(some 10003, 0)], [(some 10004, 0)], [(some 10005, 0)]]
def se_X10_leak_1 : List (List am_V) := [[(some 8006, 0)], [(some 10000, 0)], [(some 10001, 0)], [(some 10002, 0)], [(some 10003, 0)], [(some 10004, 0)], [(some 2, 0)]]
def se_X10_leak_2 : List (List am_V) := [[(some 8006, 0)], [(some 10000, 0)], [(some 10001, 0)], [(some 10002, 0)], [(some 10003, 0)], [(some 2, 0)], [(some 10005, 0)]]
def se_X10_leak_3 : List (List am_V) := [[(some 8006, 0)], [(some 10000, 0)], [(some 10001, 0)], [(some 10002, 0)], [(some 2, 0)], [(some 10004, 0)], [(some 10005, 0)]]
def se_X10_leak_4 : List (List am_V) := [[(some 8006, 0)], [(some 10000, 0)], [(some 10001, 0)], [(some 2, 0)], [(some 10003, 0)], [(some 10004, 0)], [(some 10005, 0)]]
def se_X10_leak_5 : List (List am_V) := [[(some 8006, 0)], [(some 10000, 0)], [(some 2, 0)], [(some 10002, 0)], [(some 10003, 0)], [(some 10004, 0)], [(some 10005, 0)]]
def se_X10_leak_6 : List (List am_V) := [[(some 8006, 0)], [(some 2, 0)], [(some 10001, 0)], [(some 10002, 0)], [(some 10003, 0)], [(some 10004, 0)], [(some 10005, 0)]]
def sn_X10_leak : List am_N := [([((8, 1, 0), (-2147483648), (-1))], [(none, (-1000000001))], se_X10_leak_0),
  ([((8, 1, 0), 0, 2147483647), ((8, 8006, 0), 0, 6), ((9, 1, 8006), 0, 4294967296)], [(none, (-1000000001))], se_X10_leak_0),
  ([((8, 1, 0), 0, 5), ((8, 2, 0), (-2147483648), (-1)), ((8, 8006, 0), 1, 6), ((9, 1, 8006), (-4294967296), (-1))], [(none, (-1000000001))], se_X10_leak_0),
  ([((8, 1, 0), 0, 5), ((8, 2, 0), 51, 2147483647), ((8, 8006, 0), 1, 6), ((9, 1, 8006), (-4294967296), (-1))], [(none, (-1000000001))], se_X10_leak_0),
  ([((8, 1, 0), 5, 5), ((8, 2, 0), 0, 50), ((8, 8006, 0), 1, 6), ((9, 1, 8006), (-4294967296), (-1))], [(some 10005, 0)], se_X10_leak_1),
  ([((8, 1, 0), 4, 4), ((8, 2, 0), 0, 50), ((8, 8006, 0), 1, 6), ((9, 1, 8006), (-4294967296), (-1))], [(some 10004, 0)], se_X10_leak_2),
  ([((8, 1, 0), 3, 3), ((8, 2, 0), 0, 50), ((8, 8006, 0), 1, 6), ((9, 1, 8006), (-4294967296), (-1))], [(some 10003, 0)], se_X10_leak_3),
  ([((8, 1, 0), 2, 2), ((8, 2, 0), 0, 50), ((8, 8006, 0), 1, 6), ((9, 1, 8006), (-4294967296), (-1))], [(some 10002, 0)], se_X10_leak_4),
  ([((8, 1, 0), 1, 1), ((8, 2, 0), 0, 50), ((8, 8006, 0), 1, 6), ((9, 1, 8006), (-4294967296), (-1))], [(some 10001, 0)], se_X10_leak_5),
  ([((8, 1, 0), 0, 0), ((8, 2, 0), 0, 50), ((8, 8006, 0), 1, 6), ((9, 1, 8006), (-4294967296), (-1))], [(some 10000, 0)], se_X10_leak_6)]
theorem sq_leak : am_chk rel_p bc_X9_leak bc_X10_leak sn_X9_leak sn_X10_leak = true := by decide +kernel
theorem sa_leak : sn_X9_leak.all (fun n => sn_X10_leak.all (am_ok true n)) = true := by decide +kernel
theorem step_leak {c0 c1 : ab_C} {a b x y : Int32} {cs cs1 cs2 : ex_C} (hc : bc_X9_leak = [c0]) (hc' : bc_X10_leak = [c1]) (h : ab_post ab_hd c0 [.ref 0, .int a, .int b] cs (some (.int x)) cs1) (h' : ab_post ab_hd c1 [.ref 76, .int a, .int b] cs1 (some (.int y)) cs2) (hR : rel_R cs) : x = y ∧ rel_R cs2 := by
  have q := sq_leak
  rw [hc, hc'] at q
  obtain ⟨q1, q2, q3⟩ := am_chkk q
  have r := am_main q1 q2 q3 sa_leak h h' hR
  exact ⟨r.1 rfl, r.2⟩
def sn_X9_module : List am_N := [([((8, 8006, 0), 0, 5)], [(some 8006, 0)], [[(some 8006, 1)], [(some 10000, 0)], [(some 10001, 0)], [(some 10002, 0)], [(some 10003, 0)], [(some 10004, 0)], [(some 10005, 0)]]),
  ([((8, 8006, 0), 6, 6)], [(none, (-1000000004))], [[(none, 6), (some 8006, 0)], [(some 10000, 0)], [(some 10001, 0)], [(some 10002, 0)], [(some 10003, 0)], [(some 10004, 0)], [(some 10005, 0)]])]
def sn_X10_module : List am_N := [([((8, 8006, 0), 6, 6)], [(none, (-1000000004))], [[(none, 6), (some 8006, 0)], [(some 10000, 0)], [(some 10001, 0)], [(some 10002, 0)], [(some 10003, 0)], [(some 10004, 0)], [(some 10005, 0)]]),
  ([((8, 8006, 0), 0, 5)], [(some 8006, 0)], [[(some 8006, 1)], [(some 10000, 0)], [(some 10001, 0)], [(some 10002, 0)], [(some 10003, 0)], [(some 10004, 0)], [(some 10005, 0)]])]
theorem sq_module : am_chk rel_p bc_X9_module bc_X10_module sn_X9_module sn_X10_module = true := by decide +kernel
theorem sa_module : sn_X9_module.all (fun n => sn_X10_module.all (am_ok false n)) = true := by decide +kernel
theorem step_module {c0 c1 : ab_C} { x y : Int32} {cs cs1 cs2 : ex_C} (hc : bc_X9_module = [c0]) (hc' : bc_X10_module = [c1]) (h : ab_post ab_hd c0 [.ref 0] cs (some (.int x)) cs1) (h' : ab_post ab_hd c1 [.ref 76] cs1 (some (.int y)) cs2) (hR : rel_R cs) : rel_R cs2 := by
  have q := sq_module
  rw [hc, hc'] at q
  obtain ⟨q1, q2, q3⟩ := am_chkk q
  have r := am_main q1 q2 q3 sa_module h h' hR
  exact r.2
theorem ini_R : rel_R ini_cs := am_ink (by first | decide +kernel | decide | rfl)
