/-! What ties the class's state to the reference's. Own text. -/
/-- digits -/
def dg (p : Nat × Nat) : Prop := (1 ≤ p.1 ∧ p.1 ≤ 9) ∧ 1 ≤ p.2 ∧ p.2 ≤ 9
def saR (n : Nat) (w : tbW) (T : mdT) : Prop := ∀ i j, i < n → j < n → i ≠ j →
  (w i j = (0, 1) ∧ T.1 (pidx n i j) = 0) ∨ (0 < T.1 (pidx n i j) ∧ dg (w i j) ∧ w j i = ((w i j).2, (w i j).1) ∧ mdS n T.1 T.2.1 i j = (lowT (w i j).1 (w i j).2, lowB (w i j).1 (w i j).2))
def spR (n : Nat) (v : tbW) (T : mdT) : Prop := ∀ i j, i < n → j < n → i ≠ j →
  (v i j = (0, 1) ∧ T.2.2.1 (pidx n i j) = 0) ∨ (0 < T.2.2.1 (pidx n i j) ∧ dg (v i j) ∧ v i j = mdL n T i j ∧ (v i j).1 * (v j i).1 ≤ (v i j).2 * (v j i).2)
def rel (n : Nat) (w : tbW) (fl : Nat) (v : tbW) (fv : Nat) (T : mdT) : Prop :=
  saR n w T ∧ spR n v T ∧ (∀ i, i < n → w i i = (0, 1) ∧ v i i = (0, 1)) ∧ fl = cntP T.1 (n * (n - 1) / 2) ∧ fv = cntP T.2.2.1 (n * (n - 1) / 2) ∧ mdOK T
