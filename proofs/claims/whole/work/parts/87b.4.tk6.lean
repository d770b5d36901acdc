/-! Trees: six things: all masks whose first five bits are one of four. Laid by a program. -/
theorem tk6_16 : chT (bar 6) 10 5 16 (SS 5 16 (fun p => Qc 6 10 5 p (popc 15 p))) = true := by decide +kernel
theorem tk6_17 : chT (bar 6) 10 5 17 (SS 5 17 (fun p => Qc 6 10 5 p (popc 15 p))) = true := by decide +kernel
theorem tk6_18 : chT (bar 6) 10 5 18 (SS 5 18 (fun p => Qc 6 10 5 p (popc 15 p))) = true := by decide +kernel
theorem tk6_19 : chT (bar 6) 10 5 19 (SS 5 19 (fun p => Qc 6 10 5 p (popc 15 p))) = true := by decide +kernel
