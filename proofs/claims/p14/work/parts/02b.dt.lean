/-- derived numbers -/
def ab_dt : List (Nat × Nat × Nat) := [(4, 3, 1000000), (4, 3, 1000)]
