/-! Trees: what is computed. Own text. -/
/-- one round over the pairs: a thing that hangs with a reached one is reached -/
def clS (n h : Nat) : Nat → Nat → Nat
  | 0, r => r
  | k + 1, r => clS n h k (cond (Nat.beq (h / 2 ^ k % 2) 0) r (cond (Nat.beq (r / 2 ^ pu n k % 2) (r / 2 ^ pl n k % 2)) r (r ||| (2 ^ pu n k ||| 2 ^ pl n k))))
def clI (n h : Nat) : Nat → Nat → Nat
  | 0, r => r
  | t + 1, r => cond (Nat.beq (clS n h (n * (n - 1) / 2) r) r) r (clI n h t (clS n h (n * (n - 1) / 2) r))
def rc (n h : Nat) : Nat := clI n h (n - 1) 1
/-- is the set closed? -/
def cloB (n h r : Nat) : Nat → Bool
  | 0 => true
  | k + 1 => and (cond (Nat.beq (h / 2 ^ k % 2) 0) true (Nat.beq (r / 2 ^ pu n k % 2) (r / 2 ^ pl n k % 2))) (cloB n h r k)
def fT (n m c : Nat) : Nat := cond (Nat.beq c (n - 1)) (cond (Nat.beq (rc n m) (2 ^ n - 1)) 1 0) 0
def Qc (n : Nat) : Nat → Nat → Nat → Nat → Nat
  | 0, _, m, c => fT n m c
  | r + 1, k, m, c => cond (Nat.ble n c) 0 (Qc n r (k + 1) m c + BB ^ 2 ^ r * Qc n r (k + 1) (m + 2 ^ k) (c + 1))
def chC (n : Nat) : Nat → Nat → Nat → Nat → Bool
  | 0, _, m, c => cond (Nat.beq c (n - 1)) (cond (Nat.beq (rc n m) (2 ^ n - 1)) true (cloB n m (rc n m) (n * (n - 1) / 2))) true
  | r + 1, k, m, c => cond (Nat.ble n c) true (and (chC n r (k + 1) m c) (chC n r (k + 1) (m + 2 ^ k) (c + 1)))
theorem cc_2 : chC 2 1 0 0 0 = true := by decide +kernel
theorem cc_3 : chC 3 3 0 0 0 = true := by decide +kernel
theorem cc_4 : chC 4 6 0 0 0 = true := by decide +kernel
theorem cc_5 : chC 5 10 0 0 0 = true := by decide +kernel
theorem tc_2 : chT (bar 2) 1 0 0 (Qc 2 1 0 0 0) = true := by decide +kernel
theorem tc_3 : chT (bar 3) 3 0 0 (Qc 3 3 0 0 0) = true := by decide +kernel
theorem tc_4 : chT (bar 4) 6 0 0 (Qc 4 6 0 0 0) = true := by decide +kernel
theorem tc_5 : chT (bar 5) 10 0 0 (Qc 5 10 0 0 0) = true := by decide +kernel
