/-! The reference: spans and rows: what they compute. Own text. -/
theorem dig_nI {k : Nat} (hk : k < 2147483648) : dig (nI k) = decide (1 ≤ k ∧ k ≤ 9) := by
  unfold dig
  rw [show (1 : Int32) = nI 1 from rfl, show (9 : Int32) = nI 9 from rfl]
  by_cases h1 : 1 ≤ k
  · by_cases h2 : k ≤ 9
    · rw [decide_eq_true ((nI_leI (by decide) hk).mpr h1), decide_eq_true ((nI_leI hk (by decide)).mpr h2), decide_eq_true ⟨h1, h2⟩]; rfl
    · rw [decide_eq_false (fun z => h2 ((nI_leI hk (by decide)).mp z)), Bool.and_false, decide_eq_false (fun z => h2 z.2)]
  · rw [decide_eq_false (fun z => h1 ((nI_leI (by decide) hk).mp z)), Bool.false_and, decide_eq_false (fun z => h1 z.1)]
theorem dig_neg {e : Int32} (h : e < 0) : dig (e / 1000) = false := by
  unfold dig
  rw [Bool.and_eq_false_iff]
  left
  rw [decide_eq_false_iff_not, Int32.le_iff_toInt_le]
  rw [Int32.lt_iff_toInt_lt] at h
  have e0 : (0 : Int32).toInt = 0 := by decide
  have e1 : (1 : Int32).toInt = 1 := by decide
  have e2 : (1000 : Int32).toInt = 1000 := by decide
  have e3 : (e / 1000).toInt = e.toInt.tdiv 1000 := by
    rw [Int32.toInt_div_of_ne_right e (1000 : Int32) (by decide), e2]
  rw [e3, e1]
  have h4 : e.toInt.tdiv 1000 ≤ 0 := by
    have h5 : (-e.toInt).tdiv 1000 = -(e.toInt.tdiv 1000) := Int.neg_tdiv _ _
    have h6 : 0 ≤ (-e.toInt).tdiv 1000 := Int.tdiv_nonneg (by omega) (by decide)
    omega
  omega
theorem sp_k {E : Nat} (hE : E < 2147483648) : nI E / 1000 = nI (E / 1000) ∧ nI E / 100 = nI (E / 100) ∧ nI E / 10 = nI (E / 10) ∧ nI (E / 100) - nI (E / 100) / 10 * 10 = nI (E / 100 % 10) ∧ nI (E / 10) - nI (E / 10) / 10 * 10 = nI (E / 10 % 10) ∧ nI E - nI E / 10 * 10 = nI (E % 10) :=
  ⟨pk_div (d := 1000) hE (by decide) (by decide), pk_div (d := 100) hE (by decide) (by decide), pk_div (d := 10) hE (by decide) (by decide), pk_rem (d := 10) (by omega) (by decide) (by decide), pk_rem (d := 10) (by omega) (by decide) (by decide), pk_rem (d := 10) hE (by decide) (by decide)⟩
theorem sp_v {E : Nat} (hE : E < 2147483648) : spA (nI E) = E / 1000 ∧ spB (nI E) = E / 100 % 10 ∧ spP (nI E) = E / 10 % 10 ∧ spQ (nI E) = E % 10 := by
  obtain ⟨k1, k2, k3, k4, k5, k6⟩ := sp_k hE
  refine ⟨?_, ?_, ?_, ?_⟩
  · unfold spA; rw [k1, nI_clamp (by omega)]
  · unfold spB; rw [k2, k4, nI_clamp (by omega)]
  · unfold spP; rw [k3, k5, nI_clamp (by omega)]
  · unfold spQ; rw [k6, nI_clamp (by omega)]
theorem spOk_nat {n E : Nat} {i j : Int32} (hE : E < 2147483648) : spOk n i j (nI E) = (tPair n i j && decide ((1 ≤ E / 1000 ∧ E / 1000 ≤ 9) ∧ 1 ≤ E / 100 % 10 ∧ 1 ≤ E / 10 % 10 ∧ 1 ≤ E % 10 ∧ ¬ E / 10 % 10 * (E / 100 % 10) < E / 1000 * (E % 10))) := by
  obtain ⟨k1, k2, k3, k4, k5, k6⟩ := sp_k hE
  obtain ⟨v1, v2, v3, v4⟩ := sp_v hE
  unfold spOk spC
  rw [v1, v2, v3, v4, k1, k6, k2, k3, k4, k5, dig_nI (by omega), dig_nI (by omega), dig_nI (by omega), dig_nI (by omega), Bool.and_assoc]
  congr 1
  have a1 : (1 ≤ E / 100 % 10 ∧ E / 100 % 10 ≤ 9) ↔ 1 ≤ E / 100 % 10 := by omega
  have a2 : (1 ≤ E / 10 % 10 ∧ E / 10 % 10 ≤ 9) ↔ 1 ≤ E / 10 % 10 := by omega
  have a3 : (1 ≤ E % 10 ∧ E % 10 ≤ 9) ↔ 1 ≤ E % 10 := by omega
  simp only [a1, a2, a3]
  rw [← Bool.decide_and, ← Bool.decide_and, ← Bool.decide_and, ← Bool.decide_and]
  apply decide_eq_decide.mpr
  constructor
  · rintro ⟨⟨h1, h2, h3, h4⟩, h5⟩; exact ⟨h1, h2, h3, h4, h5⟩
  · rintro ⟨h1, h2, h3, h4, h5⟩; exact ⟨⟨h1, h2, h3, h4⟩, h5⟩
def mSpan (n : Nat) (T : mdT) (a b p q r s : Nat) : mdT := (T.1, T.2.1, updN T.2.2.1 (pidx n a b) (if a < b then p else s), updN T.2.2.2.1 (pidx n a b) (if a < b then q else r), updN T.2.2.2.2.1 (pidx n a b) (if a < b then r else q), updN T.2.2.2.2.2 (pidx n a b) (if a < b then s else p))
def mSpanT (n : Nat) (T : mdT) (i j e : Int32) : mdT := if spOk n i j e = true then mSpan n T i.toNatClampNeg j.toNatClampNeg (spA e) (spB e) (spP e) (spQ e) else T
/-- the reference's row: products over the others -/
def rowM (n : Nat) (T : mdT) (i : Nat) : Nat × Nat := itr (fun j p => if j = i then p else mul2 p (mdS n T.1 T.2.1 i j)) n 0 (1, 1)
def rowMB (j : Nat) (p : Nat × Nat) : Prop := (1 ≤ p.1 ∧ p.1 ≤ 9 ^ j) ∧ 1 ≤ p.2 ∧ p.2 ≤ 9 ^ j
/-- all said, in digits -/
def mdF (n : Nat) (T : mdT) : Prop := ∀ k, k < n * (n - 1) / 2 → 1 ≤ T.1 k ∧ 1 ≤ T.2.1 k
theorem mdS_b {n i j : Nat} {T : mdT} (hn : n ≤ 6) (h2 : 2 ≤ n) (hK : mdOK T) (hF : mdF n T) (hi : i < n) (hj : j < n) (hij : i ≠ j) : (1 ≤ (mdS n T.1 T.2.1 i j).1 ∧ (mdS n T.1 T.2.1 i j).1 ≤ 9) ∧ 1 ≤ (mdS n T.1 T.2.1 i j).2 ∧ (mdS n T.1 T.2.1 i j).2 ≤ 9 := by
  have hp := pidx_ok n (by omega) h2 i hi j hj hij
  have h1 := hF _ hp.1
  have h3 := hK (pidx n i j)
  unfold mdS
  split
  · exact ⟨⟨h1.1, h3.2.1⟩, h1.2, h3.2.2.1⟩
  · exact ⟨⟨h1.2, h3.2.2.1⟩, h1.1, h3.2.1⟩
theorem rowMB_s {n i j : Nat} {T : mdT} {p : Nat × Nat} (hn : n ≤ 6) (h2 : 2 ≤ n) (hK : mdOK T) (hF : mdF n T) (hi : i < n) (hj : j < n) (h : rowMB j p) : rowMB (j + 1) (if j = i then p else mul2 p (mdS n T.1 T.2.1 i j)) := by
  have e : 9 ^ (j + 1) = 9 ^ j * 9 := Nat.pow_succ 9 j
  obtain ⟨⟨a1, a2⟩, a3, a4⟩ := h
  split
  · exact ⟨⟨a1, by rw [e]; omega⟩, a3, by rw [e]; omega⟩
  · next c =>
    have h1 := mdS_b hn h2 hK hF hi hj (fun q => c q.symm)
    exact ⟨⟨Nat.mul_pos a1 h1.1.1, by rw [e]; exact Nat.mul_le_mul a2 h1.1.2⟩, Nat.mul_pos a3 h1.2.1, by rw [e]; exact Nat.mul_le_mul a4 h1.2.2⟩
theorem rowM_b {n i : Nat} {T : mdT} (hn : n ≤ 6) (h2 : 2 ≤ n) (hK : mdOK T) (hF : mdF n T) (hi : i < n) : rowMB n (rowM n T i) := by
  have key : ∀ (m j : Nat) (p : Nat × Nat), j + m = n → rowMB j p → rowMB n (itr (fun j p => if j = i then p else mul2 p (mdS n T.1 T.2.1 i j)) m j p) := by
    intro m
    induction m with
    | zero =>
      intro j p h1 h3
      obtain rfl : j = n := by omega
      exact h3
    | succ m ih =>
      intro j p h1 h3
      exact ih (j + 1) _ (by omega) (rowMB_s hn h2 hK hF hi (by omega) h3)
  exact key n 0 (1, 1) (by omega) ⟨⟨by decide, by decide⟩, by decide, by decide⟩
theorem mdF_of {n : Nat} {T : mdT} (hK : mdOK T) (h : cntP T.1 (n * (n - 1) / 2) = n * (n - 1) / 2) : mdF n T := fun k hk => by
  have h1 := cntP_full T.1 _ h k hk
  rcases (hK k).1 with h2 | h2
  · omega
  · exact h2
def mRow (n : Nat) (T : mdT) (i q : Int32) : Int32 :=
  if (tIn n i && decide (cntP T.1 (n * (n - 1) / 2) = n * (n - 1) / 2) && isPt q) = true then nI (if q = 0 then lowT (rowM n T i.toNatClampNeg).1 (rowM n T i.toNatClampNeg).2 else lowB (rowM n T i.toNatClampNeg).1 (rowM n T i.toNatClampNeg).2) else -1
theorem mRow_n {n : Nat} {T : mdT} {i q : Int32} (h : (tIn n i && decide (cntP T.1 (n * (n - 1) / 2) = n * (n - 1) / 2) && isPt q) = false) : mRow n T i q = -1 := by
  unfold mRow
  rw [if_neg (by rw [h]; decide)]
def mOrd (n : Nat) (T : mdT) (i j : Int32) : Int32 :=
  if (tIn n i && tIn n j && decide (cntP T.1 (n * (n - 1) / 2) = n * (n - 1) / 2)) = true then
    (let a := rowM n T i.toNatClampNeg
     let b := rowM n T j.toNatClampNeg
     if lowT b.1 b.2 * lowB a.1 a.2 < lowT a.1 a.2 * lowB b.1 b.2 then 1 else if lowT a.1 a.2 * lowB b.1 b.2 < lowT b.1 b.2 * lowB a.1 a.2 then 2 else 0)
  else -1
theorem mOrd_n {n : Nat} {T : mdT} {i j : Int32} (h : (tIn n i && tIn n j && decide (cntP T.1 (n * (n - 1) / 2) = n * (n - 1) / 2)) = false) : mOrd n T i j = -1 := by
  unfold mOrd
  rw [if_neg (by rw [h]; decide)]
