/-! The reference: rings and ways: bounds. Own text. -/
theorem nod_last {b : Nat} {q : List Nat} (h : (b :: q).Nodup) (hq : 1 ≤ q.length) : b ≠ lastN (b :: q) := by
  cases q with
  | nil => simp at hq
  | cons c l =>
    intro e
    have h1 : lastN (b :: c :: l) ∈ c :: l := lastN_mem c l
    rw [← e] at h1
    exact (List.nodup_cons.mp h).1 h1
theorem rgC_b {n b : Nat} {q : List Nat} {T : mdT} {p : Nat × Nat} {s : lS} (hn : n ≤ 6) (hK : mdOK T) (hz : q.length + 1 ≤ 6) (hp : pB (q.length + 1) p) (h : lB s) : lB (rgC n T b q p s) := by
  unfold rgC
  split
  · next c =>
    have h1 := mdS_said hK c.2
    have h2 := pB_mul hp h1.1.2 h1.2.2
    have h3 := p9 hz
    exact rgS_b (Nat.le_trans h2.1 h3) (Nat.le_trans h2.2 h3) hz h
  · exact h
theorem rgF_b {n : Nat} {T : mdT} (hn : n ≤ 6) (hK : mdOK T) : ∀ (f b : Nat) (q : List Nat) (p : Nat × Nat) (s : lS), q.length + 1 + f ≤ 6 → pB (q.length + 1) p → lB s → lB (rgF n T f b q p s)
  | 0, b, q, p, s, hz, hp, h => rgC_b hn hK (by omega) hp h
  | f + 1, b, q, p, s, hz, hp, h => by
    rw [rgF]
    refine itr_inv lB _ _ _ (fun k s h1 h2 h3 => ?_) (rgC_b hn hK (by omega) hp h)
    split
    · next c =>
      have h4 := mdS_said hK c.2
      exact rgF_b hn hK f k (b :: q) _ s (by rw [List.length_cons]; omega) (by rw [List.length_cons]; exact pB_s hp h4.1.2 h4.2.2) h3
    · exact h3
theorem mdL_b {n i j : Nat} {T : mdT} (hK : mdOK T) (h : 0 < T.2.2.1 (pidx n i j)) : (1 ≤ (mdL n T i j).1 ∧ (mdL n T i j).1 ≤ 9) ∧ 1 ≤ (mdL n T i j).2 ∧ (mdL n T i j).2 ≤ 9 := by
  have h3 := hK (pidx n i j)
  obtain ⟨-, -, -, h4, h5, h6, h7, h8⟩ := h3
  rcases h4 with h4 | h4
  · omega
  · unfold mdL
    split
    · exact ⟨⟨h4.1, h5⟩, h4.2.1, h6⟩
    · exact ⟨⟨h4.2.2.2, h8⟩, h4.2.2.1, h7⟩
def wB (s : wS) : Prop := s.2.1 ≤ 531441 ∧ s.2.2.1 ≤ 531441
theorem wyB_b {p : Nat × Nat} {s : wS} (h1 : p.1 ≤ 531441) (h2 : p.2 ≤ 531441) (h : wB s) : wB (wyB p s) := by
  unfold wyB
  split
  · exact h
  · exact ⟨Nat.le_trans (Nat.div_le_self _ _) h1, Nat.le_trans (Nat.div_le_self _ _) h2⟩
theorem wyC_b {n b : Nat} {T : mdT} {q : List Nat} {p : Nat × Nat} {s : wS} (h : wB s) : wB (wyC n T b q p s) := by
  unfold wyC
  split
  · exact h
  · exact h
theorem wyF_b {n : Nat} {T : mdT} {to : Int32} (hn : n ≤ 6) (hK : mdOK T) : ∀ (f b : Nat) (q : List Nat) (p : Nat × Nat) (s : wS), q.length + 1 + f ≤ 6 → pB (q.length + 1) p → wB s → wB (wyF n T to f b q p s)
  | 0, b, q, p, s, hz, hp, h => by
    rw [wyF]
    have h6 := pB_6 (by omega) hp
    split
    · exact wyB_b h6.1 h6.2 h
    · exact wyC_b h
  | f + 1, b, q, p, s, hz, hp, h => by
    rw [wyF]
    have h6 := pB_6 (by omega) hp
    split
    · exact wyB_b h6.1 h6.2 h
    · refine itr_inv wB _ _ _ (fun k s h1 h2 h3 => ?_) (wyC_b h)
      split
      · next c =>
        have h4 := mdL_b hK c.2
        exact wyF_b hn hK f k (b :: q) _ s (by rw [List.length_cons]; omega) (by rw [List.length_cons]; exact pB_s hp h4.1.2 h4.2.2) h3
      · exact h3
