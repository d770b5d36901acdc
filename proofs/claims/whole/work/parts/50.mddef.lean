/-! The reference, PairScalesModel: its cells. Own text. -/
def iarr (k : Nat) (f : Nat → Nat) : xk_C := .inl (0, k, .inl (fun j => nI (f j)))
/-- parts, leastTop, leastBottom, leastMany, bestTop, bestBottom, isSome, canBe -/
abbrev mdX : Type := Int32 × Int64 × Int64 × Int32 × Int64 × Int64 × Int32 × Int32
def mdO (n m : Nat) (s : mdX) : xk_C := .inr (8, [.int (nI n), .int (nI (n * (n - 1) / 2)), .ref (m + 1), .ref (m + 2), .ref (m + 3), .ref (m + 4), .ref (m + 5), .ref (m + 6), .ref (m + 7), .ref (m + 8), .ref (m + 9), .ref (m + 10), .ref (m + 11), .int s.1, .ref (m + 12), .ref (m + 13), .ref (m + 14), .long s.2.1, .long s.2.2.1, .int s.2.2.2.1, .ref (m + 15), .long s.2.2.2.2.1, .long s.2.2.2.2.2.1, .int s.2.2.2.2.2.2.1, .int s.2.2.2.2.2.2.2])
/-- top, bottom, lowTop, lowBottom, highTop, highBottom -/
abbrev mdT : Type := (Nat → Nat) × (Nat → Nat) × (Nat → Nat) × (Nat → Nat) × (Nat → Nat) × (Nat → Nat)
def mdC (hs : xk_H) (m n : Nat) (T : mdT) : Prop :=
  hs[m + 1]? = some (iarr 15 T.1) ∧ hs[m + 2]? = some (iarr 15 T.2.1) ∧ hs[m + 3]? = some (iarr 15 T.2.2.1) ∧ hs[m + 4]? = some (iarr 15 T.2.2.2.1) ∧ hs[m + 5]? = some (iarr 15 T.2.2.2.2.1) ∧ hs[m + 6]? = some (iarr 15 T.2.2.2.2.2) ∧ hs[m + 7]? = some (iarr 15 (pu n)) ∧ hs[m + 8]? = some (iarr 15 (pl n))
theorem mdC.kept {hs h : xk_H} {m n : Nat} {T : mdT} {S : Nat → Prop} (H : mdC hs m n T) (hf : xfr S hs h) (hS : ∀ k, m + 1 ≤ k → k < m + 9 → ¬ S k) : mdC h m n T := by
  obtain ⟨h1, h2, h3, h4, h5, h6, h7, h8⟩ := H
  exact ⟨(hf.2 _ (hS _ (by omega) (by omega))).trans h1, (hf.2 _ (hS _ (by omega) (by omega))).trans h2, (hf.2 _ (hS _ (by omega) (by omega))).trans h3, (hf.2 _ (hS _ (by omega) (by omega))).trans h4, (hf.2 _ (hS _ (by omega) (by omega))).trans h5, (hf.2 _ (hS _ (by omega) (by omega))).trans h6, (hf.2 _ (hS _ (by omega) (by omega))).trans h7, (hf.2 _ (hS _ (by omega) (by omega))).trans h8⟩
/-- the number of a pair -/
def pidx (n i j : Nat) : Nat := (prs n).findIdx (fun q => q == (min i j, max i j))
def pidxT (n i j : Nat) : Bool := decide (pidx n i j < n * (n - 1) / 2) && decide (pu n (pidx n i j) = min i j) && decide (pl n (pidx n i j) = max i j) && decide (pidx n i j = pidx n j i) && (List.range (pidx n i j)).all (fun k => !(decide (pu n k = min i j) && decide (pl n k = max i j)))
theorem pidx_t : ∀ n, n < 7 → ∀ i, i < n → ∀ j, j < n → i ≠ j → pidxT n i j = true := by decide +kernel
theorem pidx_ok (n : Nat) (hn : n < 7) (_ : 2 ≤ n) (i : Nat) (hi : i < n) (j : Nat) (hj : j < n) (hij : i ≠ j) : pidx n i j < n * (n - 1) / 2 ∧ pu n (pidx n i j) = min i j ∧ pl n (pidx n i j) = max i j ∧ pidx n i j = pidx n j i ∧ ∀ k, k < pidx n i j → ¬ (pu n k = min i j ∧ pl n k = max i j) := by
  have h := pidx_t n hn i hi j hj hij
  simp only [pidxT, Bool.and_eq_true, decide_eq_true_eq, List.all_eq_true, List.mem_range] at h
  obtain ⟨⟨⟨⟨h1, h2⟩, h3⟩, h4⟩, h5⟩ := h
  refine ⟨h1, h2, h3, h4, fun k hk q => ?_⟩
  have := h5 k hk
  rw [decide_eq_true q.1, decide_eq_true q.2] at this
  exact absurd this (by decide)
theorem pu_lt : ∀ n, n < 7 → ∀ k, k < 15 → pu n k < 6 ∧ pl n k < 6 := by decide +kernel
def inB (v lo hi : Int32) : Bool := decide (lo ≤ v) && decide (v ≤ hi)
theorem inB_tIn {n : Nat} {x : Int32} (h1 : 1 ≤ n) (hn : n ≤ 6) : inB x 0 (nI n - 1) = tIn n x := by
  unfold inB tIn
  congr 1
  rw [show (1 : Int32) = nI 1 from rfl, pk_sub h1]
  apply decide_eq_decide.mpr
  rw [Int32.le_iff_toInt_le, Int32.lt_iff_toInt_lt, nI_toInt (by omega), nI_toInt (by omega)]
  omega
theorem inB_dig (x : Int32) : inB x 1 9 = dig x := rfl
theorem inB_01 (q : Int32) : inB q 0 1 = isPt q := by
  unfold inB isPt
  by_cases h0 : q = 0
  · subst h0; decide
  · by_cases h1 : q = 1
    · subst h1; decide
    · simp only [h0, h1, decide_false, Bool.or_false]
      have e0 : ¬ q.toInt = 0 := fun z => h0 (Int32.toInt_inj.mp (z.trans (by decide)))
      have e1 : ¬ q.toInt = 1 := fun z => h1 (Int32.toInt_inj.mp (z.trans (by decide)))
      rw [Bool.and_eq_false_iff]
      by_cases hq : (0 : Int32) ≤ q
      · right
        rw [decide_eq_false_iff_not, Int32.le_iff_toInt_le]
        rw [Int32.le_iff_toInt_le] at hq
        have a0 : (0 : Int32).toInt = 0 := by decide
        have a1 : (1 : Int32).toInt = 1 := by decide
        omega
      · left
        exact decide_eq_false hq
/-- what the reference holds of i over j: top and bottom -/
def mdS (n : Nat) (a b : Nat → Nat) (i j : Nat) : Nat × Nat := if i < j then (a (pidx n i j), b (pidx n i j)) else (b (pidx n i j), a (pidx n i j))
/-- of spans: the lower end of i over j -/
def mdL (n : Nat) (T : mdT) (i j : Nat) : Nat × Nat := if i < j then (T.2.2.1 (pidx n i j), T.2.2.2.1 (pidx n i j)) else (T.2.2.2.2.2 (pidx n i j), T.2.2.2.2.1 (pidx n i j))
