/-! reading the heap -/
def ab_li (lv : ex_L) (i : Nat) : Option Int := match lv[i]? with
  | some (some (.int x)) => some x.toInt
  | _ => none
def ab_rd (cs : ex_C) (k j : Nat) : Option Value := match cs[k]? with
  | some (.inr (_, fs)) => fs[j]?
  | some (.inl (_, _, .inl f)) => some (.int (f j))
  | _ => none
def ab_ri (cs : ex_C) (k j : Nat) : Option Int := match ab_rd cs k j with
  | some (.int x) => some x.toInt
  | _ => none
