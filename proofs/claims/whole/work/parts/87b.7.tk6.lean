/-! Trees: six things: all masks whose first five bits are one of four. Laid by a program. -/
theorem tk6_28 : chT (bar 6) 10 5 28 (SS 5 28 (fun p => Qc 6 10 5 p (popc 15 p))) = true := by decide +kernel
theorem tk6_29 : chT (bar 6) 10 5 29 (SS 5 29 (fun p => Qc 6 10 5 p (popc 15 p))) = true := by decide +kernel
theorem tk6_30 : chT (bar 6) 10 5 30 (SS 5 30 (fun p => Qc 6 10 5 p (popc 15 p))) = true := by decide +kernel
theorem tk6_31 : chT (bar 6) 10 5 31 (SS 5 31 (fun p => Qc 6 10 5 p (popc 15 p))) = true := by decide +kernel
