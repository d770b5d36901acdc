/-! Trees: six things: all masks whose first five bits are one of four. Laid by a program. -/
theorem tk6_20 : chT (bar 6) 10 5 20 (SS 5 20 (fun p => Qc 6 10 5 p (popc 15 p))) = true := by decide +kernel
theorem tk6_21 : chT (bar 6) 10 5 21 (SS 5 21 (fun p => Qc 6 10 5 p (popc 15 p))) = true := by decide +kernel
theorem tk6_22 : chT (bar 6) 10 5 22 (SS 5 22 (fun p => Qc 6 10 5 p (popc 15 p))) = true := by decide +kernel
theorem tk6_23 : chT (bar 6) 10 5 23 (SS 5 23 (fun p => Qc 6 10 5 p (popc 15 p))) = true := by decide +kernel
