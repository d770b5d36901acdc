/-! The reference: the worst three. Own text. -/
theorem mdS_said {n i j : Nat} {T : mdT} (hK : mdOK T) (h : 0 < T.1 (pidx n i j)) : (1 ≤ (mdS n T.1 T.2.1 i j).1 ∧ (mdS n T.1 T.2.1 i j).1 ≤ 9) ∧ 1 ≤ (mdS n T.1 T.2.1 i j).2 ∧ (mdS n T.1 T.2.1 i j).2 ≤ 9 := by
  have h3 := hK (pidx n i j)
  rcases h3.1 with h4 | h4
  · omega
  · unfold mdS
    split
    · exact ⟨⟨h4.1, h3.2.1⟩, h4.2, h3.2.2.1⟩
    · exact ⟨⟨h4.2, h3.2.2.1⟩, h4.1, h3.2.1⟩
/-- some, i, j, k, top, bottom -/
abbrev mwS : Type := Bool × Nat × Nat × Nat × Nat × Nat
def mwT (n : Nat) (T : mdT) (i j k : Nat) : Nat × Nat := mul2 (mul2 (mdS n T.1 T.2.1 i j) (mdS n T.1 T.2.1 j k)) (mdS n T.1 T.2.1 k i)
def mwX (n : Nat) (T : mdT) (i j k : Nat) : Nat := max (mwT n T i j k).1 (mwT n T i j k).2 / Nat.gcd (mwT n T i j k).1 (mwT n T i j k).2
def mwY (n : Nat) (T : mdT) (i j k : Nat) : Nat := min (mwT n T i j k).1 (mwT n T i j k).2 / Nat.gcd (mwT n T i j k).1 (mwT n T i j k).2
def mwH (n : Nat) (T : mdT) (i j k : Nat) : Prop := 0 < T.1 (pidx n i j) ∧ 0 < T.1 (pidx n j k) ∧ 0 < T.1 (pidx n i k)
def mwC (n : Nat) (T : mdT) (i j k : Nat) (s : mwS) : mwS :=
  if decide (0 < T.1 (pidx n i j)) && decide (0 < T.1 (pidx n j k)) && decide (0 < T.1 (pidx n i k)) then
    (if s.1 = true ∧ mwX n T i j k * s.2.2.2.2.2 ≤ s.2.2.2.2.1 * mwY n T i j k then s else (true, i, j, k, mwX n T i j k, mwY n T i j k))
  else s
def mwF (n : Nat) (T : mdT) : mwS := itr (fun i s => itr (fun j s => itr (fun k s => mwC n T i j k s) (n - (j + 1)) (j + 1) s) (n - (i + 1)) (i + 1) s) n 0 (false, 0, 0, 0, 0, 0)
def mwB (s : mwS) : Prop := s.2.2.2.2.1 ≤ 729 ∧ s.2.2.2.2.2 ≤ 729
theorem mwT_b {n i j k : Nat} {T : mdT} (hn : n ≤ 6) (h2 : 2 ≤ n) (hK : mdOK T) (hi : i < n) (hk : k < n) (hik : i ≠ k) (h : mwH n T i j k) : (1 ≤ (mwT n T i j k).1 ∧ (mwT n T i j k).1 ≤ 729) ∧ 1 ≤ (mwT n T i j k).2 ∧ (mwT n T i j k).2 ≤ 729 := by
  have hp := pidx_ok n (by omega) h2 i hi k hk hik
  have a := mdS_said hK h.1
  have b := mdS_said hK h.2.1
  have c := mdS_said (i := k) (j := i) hK (by rw [← hp.2.2.2.1]; exact h.2.2)
  unfold mwT mul2
  refine ⟨⟨Nat.mul_pos (Nat.mul_pos a.1.1 b.1.1) c.1.1, ?_⟩, Nat.mul_pos (Nat.mul_pos a.2.1 b.2.1) c.2.1, ?_⟩
  · exact mul_le9 (x := 81) (y := 9) (mul_le9 (x := 9) (y := 9) a.1.2 b.1.2) c.1.2
  · exact mul_le9 (x := 81) (y := 9) (mul_le9 (x := 9) (y := 9) a.2.2 b.2.2) c.2.2
theorem mwC_b {n i j k : Nat} {T : mdT} {s : mwS} (hn : n ≤ 6) (h2 : 2 ≤ n) (hK : mdOK T) (hi : i < n) (hk : k < n) (hik : i ≠ k) (h : mwB s) : mwB (mwC n T i j k s) := by
  unfold mwC
  split
  · next c =>
    simp only [Bool.and_eq_true, decide_eq_true_eq] at c
    have b := mwT_b hn h2 hK hi hk hik ⟨c.1.1, c.1.2, c.2⟩
    split
    · exact h
    · exact ⟨Nat.le_trans (Nat.div_le_self _ _) (Nat.max_le.mpr ⟨b.1.2, b.2.2⟩), Nat.le_trans (Nat.div_le_self _ _) (Nat.le_trans (Nat.min_le_left _ _) b.1.2)⟩
  · exact h
/-- worstOf: five places -/
def w5 (F : Nat → Int32) (i j k x y : Nat) : Nat → Int32 := fun q => if q = 4 then nI y else if q = 3 then nI x else if q = 2 then nI k else if q = 1 then nI j else if q = 0 then nI i else F q
def wFn (F : Nat → Int32) (s : mwS) : Nat → Int32 := match s.1 with
  | true => w5 F s.2.1 s.2.2.1 s.2.2.2.1 s.2.2.2.2.1 s.2.2.2.2.2
  | false => F
def wR (F : Nat → Int32) (s : mwS) : xk_C := .inl (0, 5, .inl (wFn F s))
theorem w5_at (F : Nat → Int32) (i j k x y : Nat) : w5 F i j k x y 0 = nI i ∧ w5 F i j k x y 1 = nI j ∧ w5 F i j k x y 2 = nI k ∧ w5 F i j k x y 3 = nI x ∧ w5 F i j k x y 4 = nI y := ⟨rfl, rfl, rfl, rfl, rfl⟩
theorem wR_set (F : Nat → Int32) (s : mwS) (i j k x y : Nat) : (.inl (0, 5, .inl (upd (upd (upd (upd (upd (wFn F s) 0 (nI i)) 1 (nI j)) 2 (nI k)) 3 (nI x)) 4 (nI y))) : xk_C) = wR F (true, i, j, k, x, y) := by
  unfold wR
  refine congrArg (fun z => (Sum.inl (0, 5, Sum.inl z) : xk_C)) (funext fun q => ?_)
  obtain ⟨b, s⟩ := s
  cases b
  · simp only [upd, wFn, w5]
  · simp only [upd, wFn, w5]
    by_cases q4 : q = 4
    · simp [q4]
    · by_cases q3 : q = 3
      · simp [q3]
      · by_cases q2 : q = 2
        · simp [q2]
        · by_cases q1 : q = 1
          · simp [q1]
          · by_cases q0 : q = 0
            · simp [q0]
            · simp [q0, q1, q2, q3, q4]
