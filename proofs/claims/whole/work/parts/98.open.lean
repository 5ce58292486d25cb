/-- OPEN: the law's function answers 1 on every script -/
theorem law_true (L : Nat) (hL : L ≤ 3072) (xs : Nat → Int32) : ∃ h', f_L_law L xs aH0 = some (1, h') ∧ h'.1 = aNN := by sorry
