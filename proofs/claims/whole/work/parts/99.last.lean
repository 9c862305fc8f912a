/-! the last part: kept small -/
theorem zz_last : (1 : Nat) = 1 := rfl
