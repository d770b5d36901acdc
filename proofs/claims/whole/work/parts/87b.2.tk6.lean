/-! Trees: six things: all masks whose first five bits are one of four. Laid by a program. -/
theorem tk6_8 : chT (bar 6) 10 5 8 (SS 5 8 (fun p => Qc 6 10 5 p (popc 15 p))) = true := by decide +kernel
theorem tk6_9 : chT (bar 6) 10 5 9 (SS 5 9 (fun p => Qc 6 10 5 p (popc 15 p))) = true := by decide +kernel
theorem tk6_10 : chT (bar 6) 10 5 10 (SS 5 10 (fun p => Qc 6 10 5 p (popc 15 p))) = true := by decide +kernel
theorem tk6_11 : chT (bar 6) 10 5 11 (SS 5 11 (fun p => Qc 6 10 5 p (popc 15 p))) = true := by decide +kernel
