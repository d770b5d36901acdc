/-! Big: numbers in limbs of 30 bits. Own text. -/
def limb (N : Nat) : Nat → Nat := fun j => N / 2 ^ (30 * j) % 1073741824
def bw (N : Nat) : xk_C := .inl (1, 8, .inr (.inl (fun j => lN (limb N j))))
theorem limb_lt (N j : Nat) : limb N j < 1073741824 := Nat.mod_lt _ (by decide)
theorem limb_hi {N j : Nat} (hN : N < 2 ^ 240) (hj : 8 ≤ j) : limb N j = 0 := by
  unfold limb
  have h1 : 2 ^ 240 ≤ 2 ^ (30 * j) := Nat.pow_le_pow_right (by decide) (by omega)
  rw [Nat.div_eq_of_lt (by omega), Nat.zero_mod]
/-- the carry behind k limbs of N * f -/
def carr (N f k : Nat) : Nat := (N % 2 ^ (30 * k)) * f / 2 ^ (30 * k)
theorem carr_0 (N f : Nat) : carr N f 0 = 0 := by simp [carr, Nat.mod_one]
theorem pow30 (k : Nat) : 2 ^ (30 * (k + 1)) = 2 ^ (30 * k) * 1073741824 := by rw [show 30 * (k + 1) = 30 * k + 30 by omega, Nat.pow_add]
theorem carr_sum (N f k : Nat) : limb N k * f + carr N f k = (N % 2 ^ (30 * (k + 1))) * f / 2 ^ (30 * k) := by
  have hB : 0 < 2 ^ (30 * k) := Nat.pow_pos (by decide)
  rw [pow30, Nat.mod_mul]
  unfold limb carr
  rw [Nat.add_mul, Nat.mul_assoc, Nat.add_mul_div_left _ _ hB, Nat.add_comm]
theorem carr_s (N f k : Nat) : (limb N k * f + carr N f k) / 1073741824 = carr N f (k + 1) := by
  rw [carr_sum, Nat.div_div_eq_div_mul, ← pow30]
  rfl
theorem limb_s (N f k : Nat) : (limb N k * f + carr N f k) % 1073741824 = limb (N * f) k := by
  have hB : 0 < 2 ^ (30 * k) := Nat.pow_pos (by decide)
  rw [carr_sum]
  unfold limb
  have h1 := Nat.div_add_mod N (2 ^ (30 * (k + 1)))
  generalize N % 2 ^ (30 * (k + 1)) = r at h1 ⊢
  generalize N / 2 ^ (30 * (k + 1)) = q at h1
  rw [← h1, pow30, Nat.add_mul, show 2 ^ (30 * k) * 1073741824 * q * f = 2 ^ (30 * k) * (1073741824 * (q * f)) by simp only [Nat.mul_assoc], Nat.mul_add_div hB, Nat.mul_add_mod]
theorem carr_lt (N f k : Nat) : carr N f k ≤ f := by
  have hB : 0 < 2 ^ (30 * k) := Nat.pow_pos (by decide)
  unfold carr
  have h1 : N % 2 ^ (30 * k) < 2 ^ (30 * k) := Nat.mod_lt _ hB
  apply Nat.div_le_of_le_mul
  exact Nat.mul_le_mul_right f (Nat.le_of_lt h1)
/-- k limbs of N * f, then those of N -/
def mixL (N f k : Nat) : Nat → Nat := fun j => if j < k then limb (N * f) j else limb N j
def bwM (N f k : Nat) : xk_C := .inl (1, 8, .inr (.inl (fun j => lN (mixL N f k j))))
theorem bwM_0 (N f : Nat) : bwM N f 0 = bw N := by
  unfold bwM bw
  refine congrArg (fun x => (Sum.inl (1, 8, Sum.inr (Sum.inl x)) : xk_C)) (funext fun j => ?_)
  simp [mixL]
theorem bwM_8 {N f : Nat} (h1 : N < 2 ^ 240) (h2 : N * f < 2 ^ 240) : bwM N f 8 = bw (N * f) := by
  unfold bwM bw
  refine congrArg (fun x => (Sum.inl (1, 8, Sum.inr (Sum.inl x)) : xk_C)) (funext fun j => ?_)
  unfold mixL
  by_cases h : j < 8
  · rw [if_pos h]
  · rw [if_neg h, limb_hi h1 (by omega), limb_hi h2 (by omega)]
theorem bwM_s (N f k : Nat) : (.inl (1, 8, .inr (.inl (vp_updL (fun j => lN (mixL N f k j)) k (lN (limb (N * f) k))))) : xk_C) = bwM N f (k + 1) := by
  unfold bwM
  refine congrArg (fun x => (Sum.inl (1, 8, Sum.inr (Sum.inl x)) : xk_C)) (funext fun j => ?_)
  simp only [vp_updL, mixL]
  by_cases h : j = k
  · subst h; simp
  · by_cases h2 : j < k
    · simp [h, h2, Nat.lt_succ_of_lt h2]
    · simp [h, h2, show ¬ j < k + 1 by omega]
theorem bw_reset (N : Nat) (hN : N < 2 ^ 240) : (.inl (1, 8, .inr (.inl (vp_updL (fillF (fun j => lN (limb N j)) 8 0) 0 1))) : xk_C) = bw 1 := by
  unfold bw
  refine congrArg (fun x => (Sum.inl (1, 8, Sum.inr (Sum.inl x)) : xk_C)) (funext fun j => ?_)
  simp only [vp_updL, fillF]
  have e1 : limb 1 j = if j = 0 then 1 else 0 := by
    unfold limb
    by_cases h : j = 0
    · subst h; decide
    · rw [if_neg h]
      have h1 : 2 ^ 1 ≤ 2 ^ (30 * j) := Nat.pow_le_pow_right (by decide) (by omega)
      rw [Nat.div_eq_of_lt (by omega), Nat.zero_mod]
  rw [e1]
  by_cases h : j = 0
  · subst h; rfl
  · rw [if_neg h, if_neg h]
    by_cases h2 : j < 8
    · rw [if_pos h2]; rfl
    · rw [if_neg h2, limb_hi hN (by omega)]
theorem limb_cmp {N N' k : Nat} (h : N / 2 ^ (30 * (k + 1)) = N' / 2 ^ (30 * (k + 1))) : (limb N' k < limb N k → N' < N) ∧ (limb N k = limb N' k → N / 2 ^ (30 * k) = N' / 2 ^ (30 * k)) := by
  rw [pow30, ← Nat.div_div_eq_div_mul, ← Nat.div_div_eq_div_mul] at h
  unfold limb
  generalize ha : N / 2 ^ (30 * k) = a at h ⊢
  generalize hb : N' / 2 ^ (30 * k) = b at h ⊢
  refine ⟨fun h2 => ?_, fun h2 => by omega⟩
  have h3 : b < a := by omega
  rcases Nat.lt_or_ge N' N with q | q
  · exact q
  · have := Nat.div_le_div_right (c := 2 ^ (30 * k)) q
    omega
