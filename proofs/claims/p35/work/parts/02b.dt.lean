/-- derived numbers -/
def ab_dt : List (Nat × Nat × Nat) := []
