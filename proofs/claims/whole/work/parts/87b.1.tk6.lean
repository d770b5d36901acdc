/-! Trees: six things: all masks whose first five bits are one of four. Laid by a program. -/
theorem tk6_4 : chT (bar 6) 10 5 4 (SS 5 4 (fun p => Qc 6 10 5 p (popc 15 p))) = true := by decide +kernel
theorem tk6_5 : chT (bar 6) 10 5 5 (SS 5 5 (fun p => Qc 6 10 5 p (popc 15 p))) = true := by decide +kernel
theorem tk6_6 : chT (bar 6) 10 5 6 (SS 5 6 (fun p => Qc 6 10 5 p (popc 15 p))) = true := by decide +kernel
theorem tk6_7 : chT (bar 6) 10 5 7 (SS 5 7 (fun p => Qc 6 10 5 p (popc 15 p))) = true := by decide +kernel
