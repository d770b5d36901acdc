/-! WorstThree: what it computes. Own text. -/
/-- m rounds of a loop whose counter begins at i -/
def itr {σ : Type} (f : Nat → σ → σ) : Nat → Nat → σ → σ
  | 0, _, s => s
  | m + 1, i, s => itr f m (i + 1) (f i s)
theorem itr_inv {σ : Type} {f : Nat → σ → σ} (I : σ → Prop) : ∀ (m i : Nat) (s : σ), (∀ k s, i ≤ k → k < i + m → I s → I (f k s)) → I s → I (itr f m i s)
  | 0, _, _, _, h => h
  | m + 1, i, s, hf, h => itr_inv I m (i + 1) (f i s) (fun k s h1 h2 => hf k s (by omega) (by omega)) (hf i s (Nat.le_refl _) (by omega) h)
theorem tbA.set1 {hs : xk_H} {t n fl a : Nat} {w : tbW} {e : xk_C} (H : tbA hs t n w fl) (ha : ¬ tbS t n a) : tbA (hs.set a e) t n w fl := H.kept (S := fun k => k = a) (xfr.rf.set rfl) (fun k hk q => ha (q ▸ hk))
def hasN (w : tbW) (i j : Nat) : Bool := decide (w i j ≠ (0, 1))
theorem tHas_N {n i j : Nat} {w : tbW} (hn : n ≤ 6) (hi : i < n) (hj : j < n) (hij : i ≠ j) : tHas n w (nI i) (nI j) = hasN w i j := by
  rw [tHas_nI hn (by omega) (by omega)]
  simp [hasN, hi, hj, hij]
def mul2 (a b : Nat × Nat) : Nat × Nat := (a.1 * b.1, a.2 * b.2)
/-- what three things are off; (0, 1) if they aren't all said -/
def offW (w : tbW) (a b c : Nat) : Nat × Nat :=
  if (hasN w a b && hasN w b c && hasN w c a) = true then
    (let p := mul2 (mul2 (w a b) (w b c)) (w c a); if p.1 < p.2 then (p.2, p.1) else p)
  else (0, 1)
abbrev woS : Type := Int32 × Int32 × Int32 × Nat × Nat
def woO (n : Nat) (s : woS) : xk_C := .inr (6, [.int (nI n), .int s.1, .int s.2.1, .int s.2.2.1, .long (fr s.2.2.2.1 s.2.2.2.2)])
def woB (s : woS) : Prop := s.2.2.2.1 ≤ 729 ∧ s.2.2.2.2 ≤ 729
def woC (w : tbW) (a b c : Nat) (s : woS) : woS := if s.2.2.2.1 * (offW w a b c).2 < (offW w a b c).1 * s.2.2.2.2 then (nI a, nI b, nI c, (offW w a b c).1, (offW w a b c).2) else s
def woF (w : tbW) (n : Nat) (s : woS) : woS :=
  itr (fun a s => itr (fun b s => itr (fun c s => woC w a b c s) (n - (b + 1)) (b + 1) s) (n - (a + 1)) (a + 1) s) n 0 (s.1, s.2.1, s.2.2.1, 0, 1)
theorem mul_le9 {a b x y : Nat} (h1 : a ≤ x) (h2 : b ≤ y) : a * b ≤ x * y := Nat.mul_le_mul h1 h2
theorem offW_b {n a b c : Nat} {w : tbW} (ho : tbOK n w) (ha : a < n) (hb : b < n) (hc : c < n) : (offW w a b c).1 ≤ 729 ∧ (offW w a b c).2 ≤ 729 := by
  unfold offW
  split
  · have h1 := ho.lt ha hb
    have h2 := ho.lt hb hc
    have h3 := ho.lt hc ha
    have e1 : (mul2 (mul2 (w a b) (w b c)) (w c a)).1 ≤ 9 * 9 * 9 := mul_le9 (mul_le9 h1.1 h2.1) h3.1
    have e2 : (mul2 (mul2 (w a b) (w b c)) (w c a)).2 ≤ 9 * 9 * 9 := mul_le9 (mul_le9 h1.2.1 h2.2.1) h3.2.1
    dsimp only
    split
    · exact ⟨e2, e1⟩
    · exact ⟨e1, e2⟩
  · decide
theorem woC_b {n a b c : Nat} {w : tbW} {s : woS} (ho : tbOK n w) (ha : a < n) (hb : b < n) (hc : c < n) (h : woB s) : woB (woC w a b c s) := by
  unfold woC
  split
  · exact offW_b ho ha hb hc
  · exact h
