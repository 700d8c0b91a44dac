/-- derived numbers -/
def ab_dt : List (Nat × Nat × Nat) := [(11, 0, 0), (12, 0, 0)]
