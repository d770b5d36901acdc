/-! Trees: six things: all masks whose first five bits are one of four. Laid by a program. -/
theorem tk6_0 : chT (bar 6) 10 5 0 (SS 5 0 (fun p => Qc 6 10 5 p (popc 15 p))) = true := by decide +kernel
theorem tk6_1 : chT (bar 6) 10 5 1 (SS 5 1 (fun p => Qc 6 10 5 p (popc 15 p))) = true := by decide +kernel
theorem tk6_2 : chT (bar 6) 10 5 2 (SS 5 2 (fun p => Qc 6 10 5 p (popc 15 p))) = true := by decide +kernel
theorem tk6_3 : chT (bar 6) 10 5 3 (SS 5 3 (fun p => Qc 6 10 5 p (popc 15 p))) = true := by decide +kernel
