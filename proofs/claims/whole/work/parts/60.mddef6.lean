/-! The reference: trees, few, left: what they compute. Own text. -/
def andn (a b : Nat) : Nat := a &&& (b ^^^ 32767)
theorem andn_bit {a b k : Nat} (ha : a < 32768) : (andn a b).testBit k = (a.testBit k && !b.testBit k) := by
  unfold andn
  rw [Nat.testBit_and, Nat.testBit_xor, show (32767 : Nat) = 2 ^ 15 - 1 from rfl, Nat.testBit_two_pow_sub_one]
  by_cases h : k < 15
  · simp [h]
  · have : a.testBit k = false := Nat.testBit_lt_two_pow (Nat.lt_of_lt_of_le ha (Nat.pow_le_pow_right (n := 2) (i := 15) (by decide) (by omega)))
    simp [this]
theorem andn_lt {a b : Nat} (ha : a < 32768) : andn a b < 32768 := Nat.lt_of_le_of_lt Nat.and_le_left ha
theorem nI_andn {a b : Nat} (ha : a < 32768) (hb : b < 32768) : nI a &&& (nI b ^^^ -1) = nI (andn a b) := Int32.toBitVec_inj.mp (by
  rw [Int32.toBitVec_and, Int32.toBitVec_xor]
  show BitVec.ofNat 32 a &&& (BitVec.ofNat 32 b ^^^ BitVec.allOnes 32) = BitVec.ofNat 32 (andn a b)
  apply BitVec.eq_of_getLsbD_eq
  intro i hi
  rw [BitVec.getLsbD_and, BitVec.getLsbD_xor, BitVec.getLsbD_ofNat, BitVec.getLsbD_ofNat, BitVec.getLsbD_ofNat, andn_bit ha, BitVec.getLsbD_allOnes]
  simp [hi])
theorem andn_0 {a b : Nat} (ha : a < 32768) : andn a b = 0 ↔ ∀ k, a.testBit k = true → b.testBit k = true := by
  constructor
  · intro h k hk
    have := andn_bit (b := b) (k := k) ha
    rw [h, Nat.zero_testBit, hk] at this
    cases e : b.testBit k
    · rw [e] at this; exact absurd this (by decide)
    · rfl
  · intro h
    apply Nat.eq_of_testBit_eq
    intro k
    rw [andn_bit ha, Nat.zero_testBit]
    cases e : a.testBit k
    · rfl
    · rw [h k e]; rfl
theorem popc_le : ∀ (K m : Nat), popc K m ≤ K
  | 0, _ => Nat.le_refl _
  | K + 1, m => by
    have := popc_le K (m / 2)
    rw [popc]
    omega
theorem allB_bit (f : Nat → Nat) (j : Nat) : ∀ k, (allB f k).testBit j = (decide (j < k) && decide (0 < f j))
  | 0 => by rw [allB, Nat.zero_testBit]; simp
  | k + 1 => by
    rw [allB, Nat.testBit_or, allB_bit f j k]
    by_cases h : 0 < f k
    · rw [if_pos h, Nat.testBit_two_pow]
      by_cases e : k = j
      · subst e; simp [h]
      · rw [decide_eq_false e, Bool.or_false]
        congr 1
        exact decide_eq_decide.mpr (by omega)
    · rw [if_neg h, Nat.zero_testBit, Bool.or_false]
      by_cases e : k = j
      · subst e; simp [h]
      · congr 1
        exact decide_eq_decide.mpr (by omega)
/-- all sayings -/
def mAll (n : Nat) (T : mdT) : Nat := allB T.1 (n * (n - 1) / 2)
theorem mAll_lt {n : Nat} (hn : n ≤ 6) (T : mdT) : mAll n T < 32768 := Nat.lt_of_lt_of_le (allB_lt T.1 _) (Nat.pow_le_pow_right (n := 2) (j := 15) (by decide) (np_ok n (by omega)))
theorem mAll_sub {n k : Nat} {T : mdT} (h : (mAll n T).testBit k = true) : 0 < T.1 k := by
  unfold mAll at h
  rw [allB_bit] at h
  simp only [Bool.and_eq_true, decide_eq_true_eq] at h
  exact h.2
noncomputable def fcn (n h : Nat) : Bool := @decide (hConn n h) (Classical.propDecidable _)
theorem fcn_i {n h : Nat} : fcn n h = true ↔ hConn n h := by
  unfold fcn
  exact @decide_eq_true_iff _ (Classical.propDecidable _)
noncomputable def trS (n al h c : Nat) : Nat := if (decide (andn h al = 0) && (decide (popc 15 h = n - 1) && fcn n h)) = true then c + 1 else c
noncomputable def trF (n : Nat) (T : mdT) : Nat := itr (fun h c => trS n (mAll n T) h c) (2 ^ (n * (n - 1) / 2)) 0 0
theorem trS_n {n al h c : Nat} (q : ¬ (andn h al = 0 ∧ popc 15 h = n - 1 ∧ hConn n h)) : trS n al h c = c := by
  unfold trS
  rw [if_neg]
  intro z
  simp only [Bool.and_eq_true, decide_eq_true_eq, fcn_i] at z
  exact q z
theorem trS_y {n al h c : Nat} (q : andn h al = 0 ∧ popc 15 h = n - 1 ∧ hConn n h) : trS n al h c = c + 1 := by
  unfold trS
  rw [if_pos]
  simp only [Bool.and_eq_true, decide_eq_true_eq, fcn_i]
  exact q
/-- leastHeap's step -/
noncomputable def lhS (n : Nat) (T : mdT) (h b : Nat) : Nat := if andn h (mAll n T) = 0 ∧ ¬ popc 15 b < popc 15 h ∧ ¬ (popc 15 h = popc 15 b ∧ b ≤ h) ∧ fitB n T (andn (mAll n T) h) = true then h else b
noncomputable def lhF (n : Nat) (T : mdT) : Nat := itr (fun h b => lhS n T h b) (2 ^ (n * (n - 1) / 2)) 0 (mAll n T)
theorem lhS_n {n h b : Nat} {T : mdT} (q : ¬ (andn h (mAll n T) = 0 ∧ ¬ popc 15 b < popc 15 h ∧ ¬ (popc 15 h = popc 15 b ∧ b ≤ h) ∧ fitB n T (andn (mAll n T) h) = true)) : lhS n T h b = b := if_neg q
theorem lhS_y {n h b : Nat} {T : mdT} (q : andn h (mAll n T) = 0 ∧ ¬ popc 15 b < popc 15 h ∧ ¬ (popc 15 h = popc 15 b ∧ b ≤ h) ∧ fitB n T (andn (mAll n T) h) = true) : lhS n T h b = h := if_pos q
theorem lhS_lt {n h b : Nat} {T : mdT} (hh : h < 32768) (hb : b < 32768) : lhS n T h b < 32768 := by
  unfold lhS
  split
  · exact hh
  · exact hb
theorem lhF_lt {n : Nat} {T : mdT} (hn : n ≤ 6) : lhF n T < 32768 := by
  have h15 : 2 ^ (n * (n - 1) / 2) ≤ 32768 := Nat.pow_le_pow_right (n := 2) (j := 15) (by decide) (np_ok n (by omega))
  exact itr_inv (fun b => b < 32768) _ _ _ (fun k s _ h2 h3 => lhS_lt (by omega) h3) (mAll_lt hn T)
