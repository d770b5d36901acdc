/-! Trees: six things: all masks whose first five bits are one of four. Laid by a program. -/
theorem tk6_24 : chT (bar 6) 10 5 24 (SS 5 24 (fun p => Qc 6 10 5 p (popc 15 p))) = true := by decide +kernel
theorem tk6_25 : chT (bar 6) 10 5 25 (SS 5 25 (fun p => Qc 6 10 5 p (popc 15 p))) = true := by decide +kernel
theorem tk6_26 : chT (bar 6) 10 5 26 (SS 5 26 (fun p => Qc 6 10 5 p (popc 15 p))) = true := by decide +kernel
theorem tk6_27 : chT (bar 6) 10 5 27 (SS 5 27 (fun p => Qc 6 10 5 p (popc 15 p))) = true := by decide +kernel
