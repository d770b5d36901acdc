/-! Trees: six things: all masks whose first five bits are one of four. Laid by a program. -/
theorem tk6_12 : chT (bar 6) 10 5 12 (SS 5 12 (fun p => Qc 6 10 5 p (popc 15 p))) = true := by decide +kernel
theorem tk6_13 : chT (bar 6) 10 5 13 (SS 5 13 (fun p => Qc 6 10 5 p (popc 15 p))) = true := by decide +kernel
theorem tk6_14 : chT (bar 6) 10 5 14 (SS 5 14 (fun p => Qc 6 10 5 p (popc 15 p))) = true := by decide +kernel
theorem tk6_15 : chT (bar 6) 10 5 15 (SS 5 15 (fun p => Qc 6 10 5 p (popc 15 p))) = true := by decide +kernel
