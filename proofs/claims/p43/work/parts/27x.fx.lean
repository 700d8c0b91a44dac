/-- what of the two states is the same -/
def rel_p : am_P := [((0, 8), (76, 50)), ((0, 9), (76, 51))]
def rel_R (cs : ex_C) : Prop := am_R rel_p cs
theorem rel_keep {W1 W2 : ab_W} {cs cs1 cs2 : ex_C} (h1 : ab_fr W1 cs cs1) (h2 : ab_fr W2 cs1 cs2) (hW1 : rel_p.all (fun p => !ab_cov W1 p.1.1 p.1.2 && !ab_cov W1 p.2.1 p.2.2) = true) (hW2 : rel_p.all (fun p => !ab_cov W2 p.1.1 p.1.2 && !ab_cov W2 p.2.1 p.2.2) = true) (h : rel_R cs) : rel_R cs2 := am_keep h1 h2 hW1 hW2 h
def se_X9_dock_0 : List (List am_V) := [[(some 1008, 0)], [(some 1009, 0)]]
def se_X9_dock_1 : List (List am_V) := [[(some 1000000000, 0)], [(some 1000000005, 0)]]
def sn_X9_dock : List am_N := [([((8, 1, 0), (-2147483648), 0)], [(none, (-1000000001))], se_X9_dock_0),
  ([((8, 1, 0), 10000001, 2147483647)], [(none, (-1000000001))], se_X9_dock_0),
  ([((8, 1, 0), 1, 10000000), ((8, 2, 0), (-2147483648), (-1001))], [(none, (-1000000001))], se_X9_dock_0),
  ([((8, 1, 0), 1, 10000000), ((8, 2, 0), 1001, 2147483647)], [(none, (-1000000001))], se_X9_dock_0),
  ([((8, 1, 0), 1, 10000000), ((8, 2, 0), (-1000), 1000), ((8, 1000000000, 0), 10000001, 20000000)], [(none, (-1000000003))], se_X9_dock_0),
  ([((8, 1, 0), 1, 10000000), ((8, 2, 0), (-1000), 1000), ((8, 1000000000, 0), 2, 10000000)], [(some 1000000005, 0)], se_X9_dock_1)]
def se_X10_dock_0 : List (List am_V) := [[(some 1008, 0)], [(some 1009, 0)]]
def se_X10_dock_1 : List (List am_V) := [[(some 1000000000, 0)], [(some 1000000005, 0)]]
def sn_X10_dock : List am_N := [([((8, 1, 0), (-2147483648), 0)], [(none, (-1000000001))], se_X10_dock_0),
  ([((8, 1, 0), 10000001, 2147483647)], [(none, (-1000000001))], se_X10_dock_0),
  ([((8, 1, 0), 1, 10000000), ((8, 2, 0), (-2147483648), (-1001))], [(none, (-1000000001))], se_X10_dock_0),
  ([((8, 1, 0), 1, 10000000), ((8, 2, 0), 1001, 2147483647)], [(none, (-1000000001))], se_X10_dock_0),
  ([((8, 1, 0), 1, 10000000), ((8, 2, 0), (-1000), 1000), ((8, 1000000000, 0), 10000001, 20000000)], [(none, (-1000000003))], se_X10_dock_0),
  ([((8, 1, 0), 1, 10000000), ((8, 2, 0), (-1000), 1000), ((8, 1000000000, 0), 2, 10000000)], [(some 1000000005, 0)], se_X10_dock_1)]
theorem sq_dock : am_chk rel_p bc_X9_dock bc_X10_dock sn_X9_dock sn_X10_dock = true := by decide +kernel
theorem sa_dock : sn_X9_dock.all (fun n => sn_X10_dock.all (am_ok false n)) = true := by decide +kernel
theorem step_dock {c0 c1 : ab_C} {a b x y : Int32} {cs cs1 cs2 : ex_C} (hc : bc_X9_dock = [c0]) (hc' : bc_X10_dock = [c1]) (h : ab_post ab_hd c0 [.ref 0, .int a, .int b] cs (some (.int x)) cs1) (h' : ab_post ab_hd c1 [.ref 76, .int a, .int b] cs1 (some (.int y)) cs2) (hR : rel_R cs) : rel_R cs2 := by
  have q := sq_dock
  rw [hc, hc'] at q
  obtain ⟨q1, q2, q3⟩ := am_chkk q
  have r := am_main q1 q2 q3 sa_dock h h' hR
  exact r.2
def se_X9_mass_0 : List (List am_V) := [[(some 1008, 0)], [(some 1009, 0)]]
def se_X9_mass_1 : List (List am_V) := [[(some 1008, 0)], [(some 2, 0)]]
def se_X9_mass_2 : List (List am_V) := [[(some 2, 0)], [(some 1009, 0)]]
def sn_X9_mass : List am_N := [([((8, 1, 0), 2, 2147483647)], [(none, (-1000000001))], se_X9_mass_0),
  ([((8, 1, 0), 1, 1), ((8, 2, 0), (-2147483648), (-1000000001))], [(none, (-1000000001))], se_X9_mass_0),
  ([((8, 1, 0), 1, 1), ((8, 2, 0), (-1000000000), (-1000000000))], [(some 1009, 0)], se_X9_mass_0),
  ([((8, 1, 0), 1, 1), ((8, 2, 0), (-1000), 1000)], [(some 1009, 0)], se_X9_mass_1),
  ([((8, 1, 0), 1, 1), ((8, 2, 0), 1001, 2147483647)], [(none, (-1000000001))], se_X9_mass_0),
  ([((8, 1, 0), 1, 1), ((8, 2, 0), (-999999999), (-1001))], [(none, (-1000000001))], se_X9_mass_0),
  ([((8, 1, 0), 0, 0), ((8, 2, 0), (-2147483648), (-1000000001))], [(none, (-1000000001))], se_X9_mass_0),
  ([((8, 1, 0), 0, 0), ((8, 2, 0), (-1000000000), (-1000000000))], [(some 1008, 0)], se_X9_mass_0),
  ([((8, 1, 0), 0, 0), ((8, 2, 0), 1, 10000000)], [(some 1008, 0)], se_X9_mass_2),
  ([((8, 1, 0), 0, 0), ((8, 2, 0), 10000001, 2147483647)], [(none, (-1000000001))], se_X9_mass_0),
  ([((8, 1, 0), 0, 0), ((8, 2, 0), (-999999999), 0)], [(none, (-1000000001))], se_X9_mass_0),
  ([((8, 1, 0), (-2147483648), (-1))], [(none, (-1000000001))], se_X9_mass_0)]
def se_X10_mass_0 : List (List am_V) := [[(some 1008, 0)], [(some 1009, 0)]]
def se_X10_mass_1 : List (List am_V) := [[(some 2, 0)], [(some 1009, 0)]]
def se_X10_mass_2 : List (List am_V) := [[(some 1008, 0)], [(some 2, 0)]]
def sn_X10_mass : List am_N := [([((8, 1, 0), (-2147483648), (-1))], [(none, (-1000000001))], se_X10_mass_0),
  ([((8, 1, 0), 2, 2147483647)], [(none, (-1000000001))], se_X10_mass_0),
  ([((8, 1, 0), 0, 0), ((8, 2, 0), (-999999999), 0)], [(none, (-1000000001))], se_X10_mass_0),
  ([((8, 1, 0), 0, 0), ((8, 2, 0), 10000001, 2147483647)], [(none, (-1000000001))], se_X10_mass_0),
  ([((8, 1, 0), 0, 0), ((8, 2, 0), 1, 10000000)], [(some 1008, 0)], se_X10_mass_1),
  ([((8, 1, 0), 1, 1), ((8, 2, 0), (-999999999), (-1001))], [(none, (-1000000001))], se_X10_mass_0),
  ([((8, 1, 0), 1, 1), ((8, 2, 0), 1001, 2147483647)], [(none, (-1000000001))], se_X10_mass_0),
  ([((8, 1, 0), 1, 1), ((8, 2, 0), (-1000), 1000)], [(some 1009, 0)], se_X10_mass_2),
  ([((8, 1, 0), 0, 0), ((8, 2, 0), (-1000000000), (-1000000000))], [(some 1008, 0)], se_X10_mass_0),
  ([((8, 1, 0), 1, 1), ((8, 2, 0), (-1000000000), (-1000000000))], [(some 1009, 0)], se_X10_mass_0),
  ([((8, 1, 0), 0, 0), ((8, 2, 0), (-2147483648), (-1000000001))], [(none, (-1000000001))], se_X10_mass_0),
  ([((8, 1, 0), 1, 1), ((8, 2, 0), (-2147483648), (-1000000001))], [(none, (-1000000001))], se_X10_mass_0)]
theorem sq_mass : am_chk rel_p bc_X9_mass bc_X10_mass sn_X9_mass sn_X10_mass = true := by decide +kernel
theorem sa_mass : sn_X9_mass.all (fun n => sn_X10_mass.all (am_ok false n)) = true := by decide +kernel
theorem step_mass {c0 c1 : ab_C} {a b x y : Int32} {cs cs1 cs2 : ex_C} (hc : bc_X9_mass = [c0]) (hc' : bc_X10_mass = [c1]) (h : ab_post ab_hd c0 [.ref 0, .int a, .int b] cs (some (.int x)) cs1) (h' : ab_post ab_hd c1 [.ref 76, .int a, .int b] cs1 (some (.int y)) cs2) (hR : rel_R cs) : rel_R cs2 := by
  have q := sq_mass
  rw [hc, hc'] at q
  obtain ⟨q1, q2, q3⟩ := am_chkk q
  have r := am_main q1 q2 q3 sa_mass h h' hR
  exact r.2
def se_X9_undock_0 : List (List am_V) := [[(some 1008, 0)], [(some 1009, 0)]]
def se_X9_undock_1 : List (List am_V) := [[(some 1000000006, 0)], [(some 1009, 0)]]
def sn_X9_undock : List am_N := [([((8, 1, 0), (-2147483648), 0)], [(none, (-1000000001))], se_X9_undock_0),
  ([((8, 1, 0), 10000001, 2147483647)], [(none, (-1000000001))], se_X9_undock_0),
  ([((8, 1, 0), 1, 10000000), ((8, 1000000006, 0), (-9999999), 0)], [(none, (-1000000003))], se_X9_undock_0),
  ([((8, 1, 0), 1, 10000000), ((8, 1000000006, 0), 1, 9999999)], [(some 1000000006, 0)], se_X9_undock_1)]
def se_X10_undock_0 : List (List am_V) := [[(some 1008, 0)], [(some 1009, 0)]]
def se_X10_undock_1 : List (List am_V) := [[(some 1000000006, 0)], [(some 1009, 0)]]
def sn_X10_undock : List am_N := [([((8, 1, 0), (-2147483648), 0)], [(none, (-1000000001))], se_X10_undock_0),
  ([((8, 1, 0), 10000001, 2147483647)], [(none, (-1000000001))], se_X10_undock_0),
  ([((8, 1, 0), 1, 10000000), ((8, 1000000006, 0), (-9999999), 0)], [(none, (-1000000003))], se_X10_undock_0),
  ([((8, 1, 0), 1, 10000000), ((8, 1000000006, 0), 1, 9999999)], [(some 1000000006, 0)], se_X10_undock_1)]
theorem sq_undock : am_chk rel_p bc_X9_undock bc_X10_undock sn_X9_undock sn_X10_undock = true := by decide +kernel
theorem sa_undock : sn_X9_undock.all (fun n => sn_X10_undock.all (am_ok true n)) = true := by decide +kernel
theorem step_undock {c0 c1 : ab_C} {a x y : Int32} {cs cs1 cs2 : ex_C} (hc : bc_X9_undock = [c0]) (hc' : bc_X10_undock = [c1]) (h : ab_post ab_hd c0 [.ref 0, .int a] cs (some (.int x)) cs1) (h' : ab_post ab_hd c1 [.ref 76, .int a] cs1 (some (.int y)) cs2) (hR : rel_R cs) : x = y ∧ rel_R cs2 := by
  have q := sq_undock
  rw [hc, hc'] at q
  obtain ⟨q1, q2, q3⟩ := am_chkk q
  have r := am_main q1 q2 q3 sa_undock h h' hR
  exact ⟨r.1 rfl, r.2⟩
theorem ini_R : rel_R ini_cs := am_ink (by first | decide +kernel | decide | rfl)
