def law_J : ex_L → ex_V → ex_C → Prop := fun lv st _ => lv = [some (.ref 1003), some (.ref 0), some (.ref 76), some (.int 5)] ∧ st = []
def law_I : Nat → Option (ex_L → ex_V → ex_C → Prop) := fun pc => if pc = 18 then some law_J else none
def law_Q : ex_Q := fun rv _ => rv = some (.int 1)
theorem ldiv_ne (m : Int32) (h : 1 ≤ m.toInt ∧ m.toInt ≤ 10000000) : ¬ ((400000 + m : Int32)).toInt64 = 0 := by
  intro q
  have q2 := congrArg Int64.toInt q
  rw [Int32.toInt_toInt64, Int32.toInt_add] at q2
  have e0 : (400000 : Int32).toInt = 400000 := by decide
  rw [e0, Int.bmod_def] at q2
  simp at q2
  omega
