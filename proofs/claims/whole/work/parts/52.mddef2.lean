/-! The reference: say, span, counts, rows: what they compute. Own text. -/
def updN (f : Nat → Nat) (k x : Nat) : Nat → Nat := fun j => if j = k then x else f j
theorem iarr_upd (K : Nat) (f : Nat → Nat) (k x : Nat) : (.inl (0, K, .inl (upd (fun j => nI (f j)) k (nI x))) : xk_C) = iarr K (updN f k x) := by
  unfold iarr
  refine congrArg (fun y => (Sum.inl (0, K, Sum.inl y) : xk_C)) (funext fun j => ?_)
  simp only [upd, updN]
  split <;> rfl
def mdR (m : Nat) : Nat → Prop := fun k => m ≤ k ∧ k < m + 16
/-- the rows that calls use again -/
def mdW (hs : xk_H) (m : Nat) : Prop :=
  (∃ f : Nat → Int64, hs[m + 9]? = some (.inl (1, 6, .inr (.inl f)))) ∧ (∃ f : Nat → Int64, hs[m + 10]? = some (.inl (1, 6, .inr (.inl f)))) ∧ (∃ f : Nat → Bool, hs[m + 11]? = some (.inl (2, 6, .inl (fun j => xk_b (f j))))) ∧ (∃ f : Nat → Int32, hs[m + 12]? = some (.inl (0, 5, .inl f))) ∧ (∃ f : Nat → Int64, hs[m + 13]? = some (.inl (1, 12, .inr (.inl f)))) ∧ (∃ f : Nat → Int64, hs[m + 14]? = some (.inl (1, 12, .inr (.inl f)))) ∧ ∃ f : Nat → Int32, hs[m + 15]? = some (.inl (0, 6, .inl f))
theorem mdW.kept {hs h : xk_H} {m : Nat} {S : Nat → Prop} (H : mdW hs m) (hf : xfr S hs h) (hS : ∀ k, m + 9 ≤ k → k < m + 16 → ¬ S k) : mdW h m := by
  obtain ⟨⟨f1, h1⟩, ⟨f2, h2⟩, ⟨f3, h3⟩, ⟨f4, h4⟩, ⟨f5, h5⟩, ⟨f6, h6⟩, f7, h7⟩ := H
  exact ⟨⟨f1, (hf.2 _ (hS _ (by omega) (by omega))).trans h1⟩, ⟨f2, (hf.2 _ (hS _ (by omega) (by omega))).trans h2⟩, ⟨f3, (hf.2 _ (hS _ (by omega) (by omega))).trans h3⟩, ⟨f4, (hf.2 _ (hS _ (by omega) (by omega))).trans h4⟩, ⟨f5, (hf.2 _ (hS _ (by omega) (by omega))).trans h5⟩, ⟨f6, (hf.2 _ (hS _ (by omega) (by omega))).trans h6⟩, f7, (hf.2 _ (hS _ (by omega) (by omega))).trans h7⟩
def mdA (hs : xk_H) (m n : Nat) (T : mdT) : Prop := (∃ s : mdX, hs[m]? = some (mdO n m s)) ∧ mdC hs m n T ∧ mdW hs m
/-- digits, or nothing said -/
def mdOK (T : mdT) : Prop := ∀ k, (T.1 k = 0 ∨ (1 ≤ T.1 k ∧ 1 ≤ T.2.1 k)) ∧ T.1 k ≤ 9 ∧ T.2.1 k ≤ 9 ∧ (T.2.2.1 k = 0 ∨ (1 ≤ T.2.2.1 k ∧ 1 ≤ T.2.2.2.1 k ∧ 1 ≤ T.2.2.2.2.1 k ∧ 1 ≤ T.2.2.2.2.2 k)) ∧ T.2.2.1 k ≤ 9 ∧ T.2.2.2.1 k ≤ 9 ∧ T.2.2.2.2.1 k ≤ 9 ∧ T.2.2.2.2.2 k ≤ 9
def mSay (n : Nat) (T : mdT) (i j p q : Nat) : mdT := (updN T.1 (pidx n i j) ((if i < j then p else q) / Nat.gcd p q), updN T.2.1 (pidx n i j) ((if i < j then q else p) / Nat.gcd p q), T.2.2)
def mSayT (n : Nat) (T : mdT) (i j p q : Int32) : mdT := if sayC n i j p q = true then mSay n T i.toNatClampNeg j.toNatClampNeg p.toNatClampNeg q.toNatClampNeg else T
theorem mdC.say {hs : xk_H} {m n a b k : Nat} {T : mdT} (H : mdC hs m n T) : mdC ((hs.set (m + 1) (iarr 15 (updN T.1 k a))).set (m + 2) (iarr 15 (updN T.2.1 k b))) m n (updN T.1 k a, updN T.2.1 k b, T.2.2) := by
  obtain ⟨h1, h2, h3, h4, h5, h6, h7, h8⟩ := H
  exact ⟨(xs_ne (by omega)).trans (xs_at h1), xs_at ((xs_ne (by omega)).trans h2), (xs_ne (by omega)).trans ((xs_ne (by omega)).trans h3), (xs_ne (by omega)).trans ((xs_ne (by omega)).trans h4), (xs_ne (by omega)).trans ((xs_ne (by omega)).trans h5), (xs_ne (by omega)).trans ((xs_ne (by omega)).trans h6), (xs_ne (by omega)).trans ((xs_ne (by omega)).trans h7), (xs_ne (by omega)).trans ((xs_ne (by omega)).trans h8)⟩
theorem mdC.top {hs : xk_H} {m n : Nat} {T : mdT} {f : Nat → Nat} (H : mdC hs m n T) : mdC (hs.set (m + 1) (iarr 15 f)) m n (f, T.2) := by
  obtain ⟨h1, h2, h3, h4, h5, h6, h7, h8⟩ := H
  exact ⟨xs_at h1, (xs_ne (by omega)).trans h2, (xs_ne (by omega)).trans h3, (xs_ne (by omega)).trans h4, (xs_ne (by omega)).trans h5, (xs_ne (by omega)).trans h6, (xs_ne (by omega)).trans h7, (xs_ne (by omega)).trans h8⟩
theorem mdC.low {hs : xk_H} {m n : Nat} {T : mdT} {f : Nat → Nat} (H : mdC hs m n T) : mdC (hs.set (m + 3) (iarr 15 f)) m n (T.1, T.2.1, f, T.2.2.2) := by
  obtain ⟨h1, h2, h3, h4, h5, h6, h7, h8⟩ := H
  exact ⟨(xs_ne (by omega)).trans h1, (xs_ne (by omega)).trans h2, xs_at h3, (xs_ne (by omega)).trans h4, (xs_ne (by omega)).trans h5, (xs_ne (by omega)).trans h6, (xs_ne (by omega)).trans h7, (xs_ne (by omega)).trans h8⟩
theorem mdC.spn {hs : xk_H} {m n : Nat} {T : mdT} {f1 f2 f3 f4 : Nat → Nat} (H : mdC hs m n T) : mdC ((((hs.set (m + 3) (iarr 15 f1)).set (m + 4) (iarr 15 f2)).set (m + 5) (iarr 15 f3)).set (m + 6) (iarr 15 f4)) m n (T.1, T.2.1, f1, f2, f3, f4) := by
  obtain ⟨h1, h2, h3, h4, h5, h6, h7, h8⟩ := H
  exact ⟨(xs_ne (by omega)).trans ((xs_ne (by omega)).trans ((xs_ne (by omega)).trans ((xs_ne (by omega)).trans h1))), (xs_ne (by omega)).trans ((xs_ne (by omega)).trans ((xs_ne (by omega)).trans ((xs_ne (by omega)).trans h2))), (xs_ne (by omega)).trans ((xs_ne (by omega)).trans ((xs_ne (by omega)).trans (xs_at h3))), (xs_ne (by omega)).trans ((xs_ne (by omega)).trans (xs_at ((xs_ne (by omega)).trans h4))), (xs_ne (by omega)).trans (xs_at ((xs_ne (by omega)).trans ((xs_ne (by omega)).trans h5))), xs_at ((xs_ne (by omega)).trans ((xs_ne (by omega)).trans ((xs_ne (by omega)).trans h6))), (xs_ne (by omega)).trans ((xs_ne (by omega)).trans ((xs_ne (by omega)).trans ((xs_ne (by omega)).trans h7))), (xs_ne (by omega)).trans ((xs_ne (by omega)).trans ((xs_ne (by omega)).trans ((xs_ne (by omega)).trans h8)))⟩
/-- how many of the first k are there -/
def cntP (f : Nat → Nat) : Nat → Nat
  | 0 => 0
  | k + 1 => cntP f k + (if 0 < f k then 1 else 0)
def allB (f : Nat → Nat) : Nat → Nat
  | 0 => 0
  | k + 1 => allB f k ||| (if 0 < f k then 2 ^ k else 0)
theorem allB_lt (f : Nat → Nat) : ∀ k, allB f k < 2 ^ k
  | 0 => Nat.le_of_ble_eq_true rfl
  | k + 1 => by
    have h1 := allB_lt f k
    rw [allB]
    apply Nat.or_lt_two_pow
    · exact Nat.lt_trans h1 (Nat.pow_lt_pow_right (by decide) (by omega))
    · split
      · exact Nat.pow_lt_pow_right (by decide) (by omega)
      · exact Nat.pow_pos (by decide)
theorem popc_0 : ∀ K, popc K 0 = 0
  | 0 => rfl
  | K + 1 => by rw [popc, Nat.zero_div, popc_0 K]
theorem popc_add : ∀ (k K m : Nat), m < 2 ^ k → k < K → popc K (m + 2 ^ k) = popc K m + 1
  | k, 0, m, _, h => by omega
  | 0, K + 1, m, hm, _ => by
    have : m = 0 := by omega
    subst this
    have e : (0 + 2 ^ 0) / 2 = 0 := by decide
    rw [popc, popc, e, popc_0]
  | k + 1, K + 1, m, hm, h => by
    have e : 2 ^ (k + 1) = 2 * 2 ^ k := by rw [Nat.pow_succ]; omega
    have h1 : (m + 2 ^ (k + 1)) % 2 = m % 2 := by omega
    have h2 : (m + 2 ^ (k + 1)) / 2 = m / 2 + 2 ^ k := by omega
    rw [popc, popc, h1, h2, popc_add k K (m / 2) (by omega) (by omega)]
    omega
theorem or_add {m k : Nat} (h : m < 2 ^ k) : m ||| 2 ^ k = m + 2 ^ k := by
  have := Nat.two_pow_add_eq_or_of_lt h 1
  rw [Nat.mul_one] at this
  rw [Nat.or_comm, ← this, Nat.add_comm]
theorem popc_all (f : Nat → Nat) : ∀ k, k ≤ 15 → popc 15 (allB f k) = cntP f k
  | 0, _ => popc_0 15
  | k + 1, h => by
    have ih := popc_all f k (by omega)
    rw [allB, cntP, ← ih]
    split
    · rw [or_add (allB_lt f k), popc_add k 15 _ (allB_lt f k) (by omega)]
    · rw [Nat.or_zero, Nat.add_zero]
theorem cntP_le (f : Nat → Nat) : ∀ k, cntP f k ≤ k
  | 0 => Nat.le_refl _
  | k + 1 => by
    have := cntP_le f k
    rw [cntP]
    split <;> omega
theorem cntP_full (f : Nat → Nat) : ∀ k, cntP f k = k → ∀ j, j < k → 0 < f j
  | 0, _, j, hj => by omega
  | k + 1, h, j, hj => by
    have h1 := cntP_le f k
    rw [cntP] at h
    by_cases c : 0 < f k
    · rw [if_pos c] at h
      rcases Nat.lt_or_ge j k with q | q
      · exact cntP_full f k (by omega) j q
      · rw [show j = k by omega]; exact c
    · rw [if_neg c] at h
      omega
def mSaid (n : Nat) (T : mdT) (i j q : Int32) : Int32 :=
  if (tPair n i j && decide (0 < T.1 (pidx n i.toNatClampNeg j.toNatClampNeg))) = true then (if q = 0 then nI (mdS n T.1 T.2.1 i.toNatClampNeg j.toNatClampNeg).1 else if q = 1 then nI (mdS n T.1 T.2.1 i.toNatClampNeg j.toNatClampNeg).2 else -1) else -1
theorem mSaid_n {n : Nat} {T : mdT} {i j q : Int32} (h : tPair n i j = false) : mSaid n T i j q = -1 := by
  unfold mSaid
  rw [if_neg (by simp [h])]
theorem mSaid_0 {n a b : Nat} {T : mdT} {q : Int32} (hn : n ≤ 6) (ha : a < n) (hb : b < n) (hab : a ≠ b) (h : ¬ 0 < T.1 (pidx n a b)) : mSaid n T (nI a) (nI b) q = -1 := by
  unfold mSaid
  rw [nI_clamp (by omega), nI_clamp (by omega), if_neg (by simp [h])]
theorem mSaid_y {n a b : Nat} {T : mdT} {q : Int32} (hn : n ≤ 6) (ha : a < n) (hb : b < n) (hab : a ≠ b) (h : 0 < T.1 (pidx n a b)) : mSaid n T (nI a) (nI b) q = (if q = 0 then nI (mdS n T.1 T.2.1 a b).1 else if q = 1 then nI (mdS n T.1 T.2.1 a b).2 else -1) := by
  unfold mSaid
  rw [nI_clamp (by omega), nI_clamp (by omega), if_pos (by rw [tPair_t hn ha hb hab, decide_eq_true h]; rfl)]
def mCnt (n : Nat) (T : mdT) (q : Int32) : Int32 := if q = 0 then nI n else if q = 1 then nI (cntP T.1 (n * (n - 1) / 2)) else if q = 2 then nI (cntP T.2.2.1 (n * (n - 1) / 2)) else -1
