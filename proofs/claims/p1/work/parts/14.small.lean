theorem tst1 (a : Int32) (h1 : ¬ a < 1) (h2 : a ≤ 100) : ¬ a = 0 := by
  simp only [Int32.lt_iff_toInt_lt, Int32.le_iff_toInt_le, ← Int32.toInt_inj, Int32.reduceToInt] at h1 h2 ⊢
  omega
theorem tst2 (a : Int32) (h1 : ¬ a < -1) (h2 : ¬ 100 < a) (h3 : ¬ a = -1) : 0 ≤ a := by
  simp only [Int32.lt_iff_toInt_lt, Int32.le_iff_toInt_le, ← Int32.toInt_inj, Int32.reduceToInt] at h1 h2 h3 ⊢
  omega
theorem cpy0 (a b c : Nat) : va_cpy (fun _ => (0 : Int32)) (fun _ => 0) a b c = fun _ => 0 := by
  funext k
  unfold va_cpy
  split <;> rfl
theorem upd0 (k : Nat) : upd (fun _ => (0 : Int32)) k 0 = fun _ => 0 := by
  funext j
  unfold upd
  split <;> rfl
