/-! Constructors: Leaving's and the reference's, on their way. Own text. -/
def zr0 (n : Nat) : xk_C := .inl (0, n, .inl (fun _ => 0))
def lvI (hs h : xk_H) (v n i pr : Nat) : Prop :=
  h.length = v + 5 + n + n ∧ h[v]? = some (.inr (1, [.int (nI n), .int (nI (n * (n - 1) / 2)), .ref (v + 1), .ref (v + 2), .ref (v + 3), .ref (v + 4 + n), .int 0, .int 0])) ∧
  (∃ f : Nat → Int32, h[v + 1]? = some (.inl (0, n * (n - 1) / 2, .inl f)) ∧ ∀ k, k < pr → f k = nI (pu n k)) ∧
  (∃ f : Nat → Int32, h[v + 2]? = some (.inl (0, n * (n - 1) / 2, .inl f)) ∧ ∀ k, k < pr → f k = nI (pl n k)) ∧
  h[v + 3]? = some (.inl (3, n, .inr (.inr (.inr (.inr (fun i => if i < n then some (v + 4 + i) else none)))))) ∧
  h[v + 4 + n]? = some (.inl (3, n, .inr (.inr (.inr (.inr (fun i => if i < n then some (v + 5 + n + i) else none)))))) ∧
  (∃ f : Nat → Int32, h[v + 4 + 0]? = some (.inl (0, n, .inl f)) ∧ ∀ j, j < i → f j = nI j) ∧
  (∀ k, 1 ≤ k → k < n → h[v + 4 + k]? = some (zr0 n)) ∧ (∀ k, k < n → h[v + 5 + n + k]? = some (zr0 n)) ∧ ∀ k, k < v → h[k]? = hs[k]?
theorem lvI.r0 {hs h : xk_H} {v n i pr : Nat} {f : Nat → Int32} (H : lvI hs h v n i pr) (h2 : 2 ≤ n) (hf : h[v + 4 + 0]? = some (.inl (0, n, .inl f))) : lvI hs (h.set (v + 4 + 0) (.inl (0, n, .inl (upd f i (nI i))))) v n (i + 1) pr := by
  obtain ⟨h1, h2', ⟨f1, h3, h3b⟩, ⟨f2, h4, h4b⟩, h5, h6, ⟨f3, h7, h7b⟩, h8, h9, h10⟩ := H
  have e := arr_inj (hf.symm.trans h7)
  subst e
  refine ⟨by rw [List.length_set]; exact h1, (xs_ne (by omega)).trans h2', ⟨f1, (xs_ne (by omega)).trans h3, h3b⟩, ⟨f2, (xs_ne (by omega)).trans h4, h4b⟩, (xs_ne (by omega)).trans h5, (xs_ne (by omega)).trans h6, ⟨_, xs_at hf, fun j hj => ?_⟩, fun k k1 k2 => (xs_ne (by omega)).trans (h8 k k1 k2), fun k k1 => (xs_ne (by omega)).trans (h9 k k1), fun k k1 => (xs_ne (by omega)).trans (h10 k k1)⟩
  by_cases c : j = i
  · simp [upd, c]
  · simp only [upd, c, if_false]
    exact h7b j (by omega)
theorem lvI.pr {hs h : xk_H} {v n i pr a b : Nat} {f g : Nat → Int32} (H : lvI hs h v n i pr) (hf : h[v + 1]? = some (.inl (0, n * (n - 1) / 2, .inl f))) (hg : h[v + 2]? = some (.inl (0, n * (n - 1) / 2, .inl g))) (ha : pu n pr = a) (hb : pl n pr = b) : lvI hs ((h.set (v + 1) (.inl (0, n * (n - 1) / 2, .inl (upd f pr (nI a))))).set (v + 2) (.inl (0, n * (n - 1) / 2, .inl (upd g pr (nI b))))) v n i (pr + 1) := by
  subst ha
  subst hb
  obtain ⟨h1, h2', ⟨f1, h3, h3b⟩, ⟨f2, h4, h4b⟩, h5, h6, ⟨f3, h7, h7b⟩, h8, h9, h10⟩ := H
  have e := arr_inj (hf.symm.trans h3)
  subst e
  have e2 := arr_inj (hg.symm.trans h4)
  subst e2
  have nn : ∀ {k : Nat} {e1 e2 : xk_C}, k ≠ v + 1 → k ≠ v + 2 → ((h.set (v + 1) e1).set (v + 2) e2)[k]? = h[k]? := fun k1 k2 => (xs_ne (Ne.symm k2)).trans (xs_ne (Ne.symm k1))
  refine ⟨by rw [List.length_set, List.length_set]; exact h1, (nn (by omega) (by omega)).trans h2', ⟨_, (xs_ne (by omega)).trans (xs_at hf), fun k hk => ?_⟩, ⟨_, xs_at ((xs_ne (by omega)).trans hg), fun k hk => ?_⟩, (nn (by omega) (by omega)).trans h5, (nn (by omega) (by omega)).trans h6, ⟨f3, (nn (by omega) (by omega)).trans h7, h7b⟩, fun k k1 k2 => (nn (by omega) (by omega)).trans (h8 k k1 k2), fun k k1 => (nn (by omega) (by omega)).trans (h9 k k1), fun k k1 => (nn (by omega) (by omega)).trans (h10 k k1)⟩
  · by_cases c : k = pr
    · simp [upd, c]
    · simp only [upd, c, if_false]
      exact h3b k (by omega)
  · by_cases c : k = pr
    · simp [upd, c]
    · simp only [upd, c, if_false]
      exact h4b k (by omega)
def lvG (n : Nat) : Nat → Nat → Nat := fun a b => if a = 0 ∧ b < n then b else 0
theorem lvI.fin {hs h : xk_H} {v n : Nat} (H : lvI hs h v n n (n * (n - 1) / 2)) : lvA h v n (lvG n) (fun _ _ => 0) 0 0 := by
  obtain ⟨h1, h2', h3, h4, h5, h6, ⟨f3, h7, h7b⟩, h8, h9, h10⟩ := H
  refine ⟨h2', h3, h4, h5, h6, fun i hi => ?_, fun i hi => ⟨_, h9 i hi, fun _ _ => rfl⟩⟩
  by_cases c : i = 0
  · subst c
    exact ⟨f3, h7, fun j hj => by rw [h7b j hj]; unfold lvG; rw [if_pos ⟨rfl, hj⟩]⟩
  · exact ⟨_, h8 i (by omega) hi, fun j hj => by unfold lvG; rw [if_neg (fun q => c q.1)]; rfl⟩
theorem lvG_lt {n : Nat} (hn : n ≤ 6) (a b : Nat) : lvG n a b < 6 := by
  unfold lvG
  split
  · omega
  · omega
/-- the reference's first state -/
def T0 : mdT := (fun _ => 0, fun _ => 0, fun _ => 0, fun _ => 0, fun _ => 0, fun _ => 0)
theorem T0_ok : mdOK T0 := fun k => ⟨Or.inl rfl, Nat.zero_le _, Nat.zero_le _, Or.inl rfl, Nat.zero_le _, Nat.zero_le _, Nat.zero_le _, Nat.zero_le _⟩
/-- the reference's object on its way: n, pairs, and so many rows -/
def mdO' (n p m : Nat) : xk_C := .inr (8, [.int (nI n), .int (nI p), .ref (m + 1), .ref (m + 2), .ref (m + 3), .ref (m + 4), .ref (m + 5), .ref (m + 6), .ref (m + 7), .ref (m + 8), .ref (m + 9), .ref (m + 10), .ref (m + 11), .int 0, .ref (m + 12), .ref (m + 13), .ref (m + 14), .long 0, .long 0, .int 0, .ref (m + 15), .long 0, .long 0, .int 0, .int 0])
def mdI (hs h : xk_H) (m n k : Nat) : Prop :=
  h.length = m + 16 ∧ h[m]? = some (mdO' n 0 m) ∧ h[m + 1]? = some (iarr 15 (fun _ => 0)) ∧ h[m + 2]? = some (iarr 15 (fun _ => 0)) ∧ h[m + 3]? = some (iarr 15 (fun _ => 0)) ∧ h[m + 4]? = some (iarr 15 (fun _ => 0)) ∧ h[m + 5]? = some (iarr 15 (fun _ => 0)) ∧ h[m + 6]? = some (iarr 15 (fun _ => 0)) ∧ h[m + 7]? = some (iarr 15 (firstN (pu n) k)) ∧ h[m + 8]? = some (iarr 15 (firstN (pl n) k)) ∧
  h[m + 9]? = some (.inl (1, 6, .inr (.inl (fun _ => 0)))) ∧ h[m + 10]? = some (.inl (1, 6, .inr (.inl (fun _ => 0)))) ∧ h[m + 11]? = some (.inl (2, 6, .inl (fun _ => 0))) ∧ h[m + 12]? = some (.inl (0, 5, .inl (fun _ => 0))) ∧ h[m + 13]? = some (.inl (1, 12, .inr (.inl (fun _ => 0)))) ∧ h[m + 14]? = some (.inl (1, 12, .inr (.inl (fun _ => 0)))) ∧ h[m + 15]? = some (.inl (0, 6, .inl (fun _ => 0))) ∧ ∀ j, j < m → h[j]? = hs[j]?
theorem mdI.pr {hs h : xk_H} {m n k a b : Nat} (H : mdI hs h m n k) (ha : pu n k = a) (hb : pl n k = b) : mdI hs ((h.set (m + 7) (iarr 15 (updN (firstN (pu n) k) k a))).set (m + 8) (iarr 15 (updN (firstN (pl n) k) k b))) m n (k + 1) := by
  subst ha
  subst hb
  rw [firstN_s, firstN_s]
  obtain ⟨g0, g1, a1, a2, a3, a4, a5, a6, a7, a8, a9, a10, a11, a12, a13, a14, a15, g2⟩ := H
  have nn : ∀ {j : Nat} {e1 e2 : xk_C}, j ≠ m + 7 → j ≠ m + 8 → ((h.set (m + 7) e1).set (m + 8) e2)[j]? = h[j]? := fun k1 k2 => (xs_ne (Ne.symm k2)).trans (xs_ne (Ne.symm k1))
  exact ⟨by rw [List.length_set, List.length_set]; exact g0, (nn (by omega) (by omega)).trans g1, (nn (by omega) (by omega)).trans a1, (nn (by omega) (by omega)).trans a2, (nn (by omega) (by omega)).trans a3, (nn (by omega) (by omega)).trans a4, (nn (by omega) (by omega)).trans a5, (nn (by omega) (by omega)).trans a6, (xs_ne (by omega)).trans (xs_at a7), xs_at ((xs_ne (by omega)).trans a8), (nn (by omega) (by omega)).trans a9, (nn (by omega) (by omega)).trans a10, (nn (by omega) (by omega)).trans a11, (nn (by omega) (by omega)).trans a12, (nn (by omega) (by omega)).trans a13, (nn (by omega) (by omega)).trans a14, (nn (by omega) (by omega)).trans a15, fun j hj => (nn (by omega) (by omega)).trans (g2 j hj)⟩
theorem mdI.fin {hs h : xk_H} {m n : Nat} (hn : n ≤ 6) (H : mdI hs h m n (n * (n - 1) / 2)) : mdA (h.set m (mdO' n (n * (n - 1) / 2) m)) m n T0 ∧ (h.set m (mdO' n (n * (n - 1) / 2) m)).length = m + 16 ∧ ∀ j, j < m → (h.set m (mdO' n (n * (n - 1) / 2) m))[j]? = hs[j]? := by
  obtain ⟨g0, g1, a1, a2, a3, a4, a5, a6, a7, a8, a9, a10, a11, a12, a13, a14, a15, g2⟩ := H
  rw [firstN_all (fun j hj => (pu_hi n (by omega) j hj).1)] at a7
  rw [firstN_all (fun j hj => (pu_hi n (by omega) j hj).2)] at a8
  have nn : ∀ {j : Nat} {e : xk_C}, j ≠ m → (h.set m e)[j]? = h[j]? := fun k1 => xs_ne (Ne.symm k1)
  exact ⟨⟨⟨(0, 0, 0, 0, 0, 0, 0, 0), xs_at g1⟩, ⟨(nn (by omega)).trans a1, (nn (by omega)).trans a2, (nn (by omega)).trans a3, (nn (by omega)).trans a4, (nn (by omega)).trans a5, (nn (by omega)).trans a6, (nn (by omega)).trans a7, (nn (by omega)).trans a8⟩, ⟨_, (nn (by omega)).trans a9⟩, ⟨_, (nn (by omega)).trans a10⟩, ⟨fun _ => false, (nn (by omega)).trans a11⟩, ⟨_, (nn (by omega)).trans a12⟩, ⟨_, (nn (by omega)).trans a13⟩, ⟨_, (nn (by omega)).trans a14⟩, _, (nn (by omega)).trans a15⟩, by rw [List.length_set]; exact g0, fun j hj => (nn (by omega)).trans (g2 j hj)⟩
/-- the reference's rows, new -/
def cL : List xk_C := [.inl (0, 15, .inl (fun _ => 0)), .inl (0, 15, .inl (fun _ => 0)), .inl (0, 15, .inl (fun _ => 0)), .inl (0, 15, .inl (fun _ => 0)), .inl (0, 15, .inl (fun _ => 0)), .inl (0, 15, .inl (fun _ => 0)), .inl (0, 15, .inl (fun _ => 0)), .inl (0, 15, .inl (fun _ => 0)), .inl (1, 6, .inr (.inl (fun _ => 0))), .inl (1, 6, .inr (.inl (fun _ => 0))), .inl (2, 6, .inl (fun _ => 0)), .inl (0, 5, .inl (fun _ => 0)), .inl (1, 12, .inr (.inl (fun _ => 0))), .inl (1, 12, .inr (.inl (fun _ => 0))), .inl (0, 6, .inl (fun _ => 0))]
def mdJ (hs w : xk_H) (m i : Nat) : Prop := w.length = m + 1 + i ∧ (∀ j, j < i → w[m + 1 + j]? = cL[j]?) ∧ ∀ j, j < m → w[j]? = hs[j]?
theorem mdJ.step {hs w : xk_H} {m i : Nat} {c o : xk_C} (H : mdJ hs w m i) (hc : cL[i]? = some c) : mdJ hs ((w ++ [c]).set m o) m (i + 1) := by
  obtain ⟨h1, h2, h3⟩ := H
  refine ⟨by rw [List.length_set, List.length_append, List.length_singleton]; omega, fun j hj => ?_, fun j hj => (xs_ne (by omega)).trans ((xa_old (by omega)).trans (h3 j hj))⟩
  by_cases e : j = i
  · subst e
    rw [hc]
    exact (xs_ne (by omega)).trans (xa_at (by omega))
  · exact (xs_ne (by omega)).trans ((xa_old (by omega)).trans (h2 j (by omega)))
theorem mdJ.fin {hs w : xk_H} {m n : Nat} {o : xk_C} (H : mdJ hs w m 15) (ho : w[m]? = some o) : mdI hs (w.set m (mdO' n 0 m)) m n 0 := by
  obtain ⟨h1, h2, h3⟩ := H
  have nn : ∀ {j k : Nat} {e c : xk_C}, k = m + 1 + j → j < 15 → cL[j]? = some c → (w.set m e)[k]? = some c := fun k0 k1 k2 => by
    subst k0
    exact (xs_ne (by omega)).trans ((h2 _ k1).trans k2)
  refine ⟨by rw [List.length_set]; omega, xs_at ho, nn (j := 0) (by omega) (by decide) rfl, nn (j := 1) (by omega) (by decide) rfl, nn (j := 2) (by omega) (by decide) rfl, nn (j := 3) (by omega) (by decide) rfl, nn (j := 4) (by omega) (by decide) rfl, nn (j := 5) (by omega) (by decide) rfl, ?_, ?_, nn (j := 8) (by omega) (by decide) rfl, nn (j := 9) (by omega) (by decide) rfl, nn (j := 10) (by omega) (by decide) rfl, nn (j := 11) (by omega) (by decide) rfl, nn (j := 12) (by omega) (by decide) rfl, nn (j := 13) (by omega) (by decide) rfl, nn (j := 14) (by omega) (by decide) rfl, fun j hj => (xs_ne (by omega)).trans (h3 j hj)⟩
  · rw [firstN_0]; exact nn (j := 6) (by omega) (by decide) rfl
  · rw [firstN_0]; exact nn (j := 7) (by omega) (by decide) rfl
