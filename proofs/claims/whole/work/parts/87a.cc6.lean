/-! Trees: six things: the reached sets are closed. Own text. -/
theorem cc_6 : chC 6 15 0 0 0 = true := by decide +kernel
