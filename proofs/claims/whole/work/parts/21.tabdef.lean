/-! Tables: what their cells hold. Own text. -/
/-- heaps of one length that agree but at the places of S -/
def xfr (S : Nat → Prop) (hs h : xk_H) : Prop := h.length = hs.length ∧ ∀ k, ¬ S k → h[k]? = hs[k]?
theorem xfr.rf {S : Nat → Prop} {hs : xk_H} : xfr S hs hs := ⟨rfl, fun _ _ => rfl⟩
theorem xfr.set {S : Nat → Prop} {hs h : xk_H} {a : Nat} {e : xk_C} (H : xfr S hs h) (ha : S a) : xfr S hs (h.set a e) := ⟨by rw [List.length_set]; exact H.1, fun k hk => (xs_ne (show a ≠ k from fun q => hk (by rw [← q]; exact ha))).trans (H.2 k hk)⟩
theorem xfr.tr {S : Nat → Prop} {a b c : xk_H} (H : xfr S a b) (H2 : xfr S b c) : xfr S a c := ⟨H2.1.trans H.1, fun k hk => (H2.2 k hk).trans (H.2 k hk)⟩
theorem xfr.mono {S S' : Nat → Prop} {a b : xk_H} (H : xfr S a b) (h : ∀ k, S k → S' k) : xfr S' a b := ⟨H.1, fun k hk => H.2 k (fun z => hk (h k z))⟩
/-- the world of a table: what is said of i over j, (0, 1) for nothing -/
abbrev tbW : Type := Nat → Nat → Nat × Nat
def tbRow (w : tbW) (i : Nat) : Nat → Int64 := fun j => fr (w i j).1 (w i j).2
def tbA (hs : xk_H) (t n : Nat) (w : tbW) (fl : Nat) : Prop :=
  hs[t]? = some (.inr (4, [.int (nI n), .ref (t + 1), .int (nI fl)])) ∧ hs[t + 1]? = some (.inl (4, n, .inr (.inr (.inr (.inr (fun i => if i < n then some (t + 2 + i) else none)))))) ∧ ∀ i, i < n → hs[t + 2 + i]? = some (.inl (1, n, .inr (.inl (tbRow w i))))
/-- nothing, or digits -/
def tbOK (n : Nat) (w : tbW) : Prop := ∀ i j, i < n → j < n → w i j = (0, 1) ∨ (1 ≤ (w i j).1 ∧ (w i j).1 ≤ 9 ∧ 1 ≤ (w i j).2 ∧ (w i j).2 ≤ 9)
def tIn (n : Nat) (x : Int32) : Bool := decide (0 ≤ x) && decide (x < nI n)
def tPair (n : Nat) (x y : Int32) : Bool := tIn n x && tIn n y && decide (x ≠ y)
def tHas (n : Nat) (w : tbW) (x y : Int32) : Bool := tPair n x y && decide (w x.toNatClampNeg y.toNatClampNeg ≠ (0, 1))
def tLow (n : Nat) (w : tbW) (x y : Int32) : Nat × Nat := if tPair n x y = true then w x.toNatClampNeg y.toNatClampNeg else (0, 1)
theorem tIn_nI {n i : Nat} (hn : n ≤ 6) (hi : i < 2147483648) : tIn n (nI i) = decide (i < n) := by
  unfold tIn
  rw [decide_eq_true (nI_pos' hi), Bool.true_and]
  exact decide_eq_decide.mpr (nI_ltI hi (by omega))
theorem tIn_of {n : Nat} {x : Int32} (hn : n ≤ 6) (h : tIn n x = true) : ∃ i, i < n ∧ x = nI i := by
  unfold tIn at h
  simp only [Bool.and_eq_true, decide_eq_true_eq] at h
  rcases pk_ix x (n := n) (by omega) with h1 | h1 | ⟨j, h1, h2⟩
  · exact absurd h.1 (by rw [Int32.not_le]; exact h1)
  · exact absurd h.2 (by rw [Int32.not_lt]; exact h1)
  · exact ⟨j, h1, h2⟩
theorem tPair_nI {n i j : Nat} (hn : n ≤ 6) (hi : i < 2147483648) (hj : j < 2147483648) : tPair n (nI i) (nI j) = (decide (i < n) && decide (j < n) && decide (i ≠ j)) := by
  unfold tPair
  rw [tIn_nI hn hi, tIn_nI hn hj]
  congr 1
  exact decide_eq_decide.mpr (not_congr (nI_eq hi hj))
theorem tPair_t {n i j : Nat} (hn : n ≤ 6) (hi : i < n) (hj : j < n) (hij : i ≠ j) : tPair n (nI i) (nI j) = true := by
  rw [tPair_nI hn (by omega) (by omega)]
  simp [hi, hj, hij]
theorem tPair_of {n : Nat} {x y : Int32} (hn : n ≤ 6) (h : tPair n x y = true) : ∃ i j, i < n ∧ j < n ∧ i ≠ j ∧ x = nI i ∧ y = nI j := by
  unfold tPair at h
  simp only [Bool.and_eq_true, decide_eq_true_eq] at h
  obtain ⟨i, h1, rfl⟩ := tIn_of hn h.1.1
  obtain ⟨j, h2, rfl⟩ := tIn_of hn h.1.2
  exact ⟨i, j, h1, h2, fun q => h.2 (by rw [q]), rfl, rfl⟩
theorem tHas_nI {n i j : Nat} {w : tbW} (hn : n ≤ 6) (hi : i < 2147483648) (hj : j < 2147483648) : tHas n w (nI i) (nI j) = (decide (i < n) && decide (j < n) && decide (i ≠ j) && decide (w i j ≠ (0, 1))) := by
  unfold tHas
  rw [tPair_nI hn hi hj, nI_clamp hi, nI_clamp hj]
theorem tHas_of {n : Nat} {w : tbW} {x y : Int32} (hn : n ≤ 6) (h : tHas n w x y = true) : ∃ i j, i < n ∧ j < n ∧ i ≠ j ∧ x = nI i ∧ y = nI j ∧ w i j ≠ (0, 1) := by
  unfold tHas at h
  simp only [Bool.and_eq_true, decide_eq_true_eq] at h
  obtain ⟨i, j, h1, h2, h3, rfl, rfl⟩ := tPair_of hn h.1
  refine ⟨i, j, h1, h2, h3, rfl, rfl, ?_⟩
  have := h.2
  rwa [nI_clamp (by omega), nI_clamp (by omega)] at this
theorem tLow_nI {n i j : Nat} {w : tbW} (hn : n ≤ 6) (hi : i < n) (hj : j < n) (hij : i ≠ j) : tLow n w (nI i) (nI j) = w i j := by
  unfold tLow
  rw [if_pos (tPair_t hn hi hj hij), nI_clamp (by omega), nI_clamp (by omega)]
theorem fr_nothing {n i j : Nat} {w : tbW} (ho : tbOK n w) (hi : i < n) (hj : j < n) : fr (w i j).1 (w i j).2 = 1 ↔ w i j = (0, 1) := by
  have h1 : (1 : Int64) = fr 0 1 := rfl
  rw [h1]
  rcases ho i j hi hj with h | ⟨a1, a2, a3, a4⟩
  · rw [h]; simp
  · rw [fr_inj (by omega) (by omega) (by omega) (by omega)]
    constructor
    · intro q; exact absurd q.1 (by omega)
    · intro q; rw [q]; simp
theorem tbOK.lt {n i j : Nat} {w : tbW} (ho : tbOK n w) (hi : i < n) (hj : j < n) : (w i j).1 ≤ 9 ∧ (w i j).2 ≤ 9 ∧ 1 ≤ (w i j).2 := by
  rcases ho i j hi hj with h | ⟨a1, a2, a3, a4⟩
  · rw [h]; decide
  · exact ⟨a2, a4, a3⟩
/-- i over j becomes a, j over i becomes b -/
def tbSet (w : tbW) (i j : Nat) (a b : Nat × Nat) : tbW := fun x y => if x = i ∧ y = j then a else if x = j ∧ y = i then b else w x y
theorem tbRow_upd (w : tbW) (i j : Nat) (a : Nat × Nat) : vp_updL (tbRow w i) j (fr a.1 a.2) = tbRow (fun x y => if x = i ∧ y = j then a else w x y) i := funext fun k => by
  simp only [vp_updL, tbRow]
  by_cases h : k = j
  · simp [h]
  · simp [h]
theorem tbRow_ne (w : tbW) (i j x : Nat) (a : Nat × Nat) (h : x ≠ i) : tbRow (fun x y => if x = i ∧ y = j then a else w x y) x = tbRow w x := funext fun k => by
  simp [tbRow, h]
theorem tbSet_eq (w : tbW) (i j : Nat) (a b : Nat × Nat) (hij : i ≠ j) : (fun x y => if x = j ∧ y = i then b else (fun x y => if x = i ∧ y = j then a else w x y) x y) = tbSet w i j a b := funext fun x => funext fun y => by
  simp only [tbSet]
  by_cases h1 : x = i ∧ y = j
  · obtain ⟨rfl, rfl⟩ := h1
    simp [hij]
  · simp [h1]
/-- a table behind the stores of put and drop -/
theorem tbA.put {hs : xk_H} {t n fl fl' i j : Nat} {w : tbW} {a b : Nat × Nat} (h : tbA hs t n w fl) (hi : i < n) (hj : j < n) (hij : i ≠ j) :
    tbA (((hs.set t (.inr (4, [.int (nI n), .ref (t + 1), .int (nI fl')]))).set (t + 2 + i) (.inl (1, n, .inr (.inl (vp_updL (tbRow w i) j (fr a.1 a.2)))))).set (t + 2 + j) (.inl (1, n, .inr (.inl (vp_updL (tbRow w j) i (fr b.1 b.2)))))) t n (tbSet w i j a b) fl' := by
  refine ⟨?_, ?_, fun k hk => ?_⟩
  · rw [xs_ne (by omega), xs_ne (by omega)]; exact xs_at h.1
  · rw [xs_ne (by omega), xs_ne (by omega), xs_ne (by omega)]; exact h.2.1
  · rw [← tbSet_eq w i j a b hij]
    by_cases h1 : k = j
    · subst h1
      have e0 : ((hs.set t (.inr (4, [.int (nI n), .ref (t + 1), .int (nI fl')]))).set (t + 2 + i) (.inl (1, n, .inr (.inl (vp_updL (tbRow w i) k (fr a.1 a.2))))))[t + 2 + k]? = some (.inl (1, n, .inr (.inl (tbRow w k)))) := by
        rw [xs_ne (by omega), xs_ne (by omega)]; exact h.2.2 k hk
      rw [xs_at e0, ← tbRow_upd, tbRow_ne w i k k a (Ne.symm hij)]
    · rw [xs_ne (by omega)]
      by_cases h2 : k = i
      · subst h2
        have e0 : (hs.set t (.inr (4, [.int (nI n), .ref (t + 1), .int (nI fl')])))[t + 2 + k]? = some (.inl (1, n, .inr (.inl (tbRow w k)))) := by
          rw [xs_ne (by omega)]; exact h.2.2 k hk
        rw [xs_at e0, tbRow_upd, tbRow_ne _ j k k b hij]
      · rw [xs_ne (by omega), xs_ne (by omega), h.2.2 k hk, tbRow_ne _ j i k b h1, tbRow_ne _ i j k a h2]
/-- the places of a table -/
def tbS (t n : Nat) : Nat → Prop := fun k => t ≤ k ∧ k < t + 2 + n
theorem tbA.kept {hs h : xk_H} {t n fl : Nat} {w : tbW} {S : Nat → Prop} (H : tbA hs t n w fl) (hf : xfr S hs h) (hS : ∀ k, tbS t n k → ¬ S k) : tbA h t n w fl := by
  refine ⟨?_, ?_, fun i hi => ?_⟩
  · rw [hf.2 _ (hS _ ⟨by omega, by omega⟩)]; exact H.1
  · by_cases h0 : n = 0
    · subst h0
      rw [hf.2 _ (hS _ ⟨by omega, by omega⟩)]; exact H.2.1
    · rw [hf.2 _ (hS _ ⟨by omega, by omega⟩)]; exact H.2.1
  · rw [hf.2 _ (hS _ ⟨by omega, by omega⟩)]; exact H.2.2 i hi
