theorem kb_rfc (o : Option Nat) : (va_rf o).category = 1 := by
  cases o <;> rfl
theorem kb_nz {v : Int32} (h : 0 ≤ v.toInt ∧ v.toInt ≤ 1) : narrow .boolean (.int v) = .int v := by
  rcases (show v.toInt = 0 ∨ v.toInt = 1 by omega) with e | e
  · obtain rfl : v = 0 := (ka_eq' _ _).mpr (e.trans (by decide))
    rfl
  · obtain rfl : v = 1 := (ka_eq' _ _).mpr (e.trans (by decide))
    rfl
