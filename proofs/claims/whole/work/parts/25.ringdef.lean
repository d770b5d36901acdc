/-! Rings: what it computes. Own text. -/
theorem mk_all : ∀ m, m < 64 → ∀ k, k < 6 → ((((nI m >>> (nI k &&& 31)) &&& 1) = 0 ↔ m.testBit k = false) ∧ nI m ||| ((1 : Int32) <<< (nI k &&& 31)) = nI (m ||| 2 ^ k) ∧ m ||| 2 ^ k < 64 ∧ ((1 : Int32) <<< (nI k &&& 31)) = nI (2 ^ k)) := by decide +kernel
abbrev gS : Type := Nat → Nat × Nat
def gw (n : Nat) (g : gS) : xk_C := .inl (1, n + 1, .inr (.inl (fun j => fr (g j).1 (g j).2)))
def gB (g : gS) : Prop := ∀ j, (g j).1 ≤ 531441 ∧ (g j).2 ≤ 531441
def gUp (g : gS) (z : Nat) (p : Nat × Nat) : gS := fun j => if j = z then p else g j
def closeG (g : gS) (z : Nat) (p : Nat × Nat) : gS := if (g z).1 * p.2 < p.1 * (g z).2 then gUp g z p else g
def tH (w : tbW) (i j : Nat) : Bool := decide (i ≠ j) && hasN w i j
theorem tHas_H {n i j : Nat} {w : tbW} (hn : n ≤ 6) (hi : i < n) (hj : j < n) : tHas n w (nI i) (nI j) = tH w i j := by
  rw [tHas_nI hn (by omega) (by omega)]
  simp [tH, hasN, hi, hj]
theorem tH_ne {i j : Nat} {w : tbW} (h : tH w i j = true) : i ≠ j := by
  simp only [tH, Bool.and_eq_true, decide_eq_true_eq] at h
  exact h.1
def clG (w : tbW) (a b z : Nat) (p : Nat × Nat) (g : gS) : gS := if 3 ≤ z ∧ tH w b a = true then closeG g z (mul2 p (w b a)) else g
/-- all rings that go on from b, with so many things still free; a is the least -/
def extG (w : tbW) (n a : Nat) : Nat → Nat → Nat → Nat → Nat × Nat → gS → gS
  | 0, b, _, z, p, g => clG w a b z p g
  | f + 1, b, m, z, p, g => itr (fun k g => if m.testBit k = false ∧ tH w b k = true then extG w n a f k (m ||| 2 ^ k) (z + 1) (mul2 p (w b k)) g else g) (n - (a + 1)) (a + 1) (clG w a b z p g)
def measG (w : tbW) (n : Nat) (g : gS) : gS := itr (fun a g => extG w n a (n - 1) a (2 ^ a) 1 (1, 1) g) n 0 (fun j => if j < n + 1 then (0, 1) else g j)
theorem gUp_w (n : Nat) (g : gS) (z : Nat) (p : Nat × Nat) : (.inl (1, n + 1, .inr (.inl (vp_updL (fun j => fr (g j).1 (g j).2) z (fr p.1 p.2)))) : xk_C) = gw n (gUp g z p) := by
  unfold gw
  refine congrArg (fun x => (Sum.inl (1, n + 1, Sum.inr (Sum.inl x)) : xk_C)) (funext fun j => ?_)
  simp only [vp_updL, gUp]
  split <;> rfl
theorem gB_up {g : gS} {z : Nat} {p : Nat × Nat} (h : gB g) (h1 : p.1 ≤ 531441) (h2 : p.2 ≤ 531441) : gB (gUp g z p) := fun j => by
  unfold gUp
  split
  · exact ⟨h1, h2⟩
  · exact h j
theorem gB_close {g : gS} {z : Nat} {p : Nat × Nat} (h : gB g) (h1 : p.1 ≤ 531441) (h2 : p.2 ≤ 531441) : gB (closeG g z p) := by
  unfold closeG
  split
  · exact gB_up h h1 h2
  · exact h
/-- a product of z - 1 digits -/
def pB (z : Nat) (p : Nat × Nat) : Prop := p.1 * 9 ≤ 9 ^ z ∧ p.2 * 9 ≤ 9 ^ z
theorem pB_mul {z : Nat} {p x : Nat × Nat} (h : pB z p) (h1 : x.1 ≤ 9) (h2 : x.2 ≤ 9) : (mul2 p x).1 ≤ 9 ^ z ∧ (mul2 p x).2 ≤ 9 ^ z := ⟨Nat.le_trans (Nat.mul_le_mul_left _ h1) h.1, Nat.le_trans (Nat.mul_le_mul_left _ h2) h.2⟩
theorem pB_s {z : Nat} {p x : Nat × Nat} (h : pB z p) (h1 : x.1 ≤ 9) (h2 : x.2 ≤ 9) : pB (z + 1) (mul2 p x) := by
  have h3 := pB_mul h h1 h2
  exact ⟨by rw [Nat.pow_succ]; exact Nat.mul_le_mul_right 9 h3.1, by rw [Nat.pow_succ]; exact Nat.mul_le_mul_right 9 h3.2⟩
theorem p9 {z : Nat} (h : z ≤ 6) : 9 ^ z ≤ 531441 := Nat.le_trans (Nat.pow_le_pow_right (by decide) h) (by decide)
theorem pB_6 {z : Nat} {p : Nat × Nat} (hz : z ≤ 6) (h : pB z p) : p.1 ≤ 531441 ∧ p.2 ≤ 531441 := by
  have := p9 hz
  have h1 := h.1
  have h2 := h.2
  omega
theorem gB_cl {n a b z : Nat} {w : tbW} {p : Nat × Nat} {g : gS} (ho : tbOK n w) (ha : a < n) (hb : b < n) (hz : z ≤ 6) (hp : pB z p) (h : gB g) : gB (clG w a b z p g) := by
  unfold clG
  split
  · have h1 := ho.lt hb ha
    have h2 := pB_mul hp h1.1 h1.2.1
    have h3 := p9 hz
    exact gB_close h (by omega) (by omega)
  · exact h
theorem gB_ext {n a : Nat} {w : tbW} (ho : tbOK n w) (hn : n ≤ 6) (ha : a < n) : ∀ (f b m z : Nat) (p : Nat × Nat) (g : gS), b < n → z + f = n → pB z p → gB g → gB (extG w n a f b m z p g)
  | 0, b, m, z, p, g, hb, hz, hp, h => gB_cl ho ha hb (by omega) hp h
  | f + 1, b, m, z, p, g, hb, hz, hp, h => by
    refine itr_inv gB _ _ _ (fun k s h1 h2 h3 => ?_) (gB_cl ho ha hb (by omega) hp h)
    have h4 := ho.lt hb (show k < n by omega)
    split
    · exact gB_ext ho hn ha f k _ (z + 1) _ s (by omega) (by omega) (pB_s hp h4.1 h4.2.1) h3
    · exact h3
theorem fill_gw (n : Nat) (g : gS) : (.inl (1, n + 1, .inr (.inl (fillF (fun j => fr (g j).1 (g j).2) (n + 1) (fr 0 1)))) : xk_C) = gw n (fun j => if j < n + 1 then (0, 1) else g j) := by
  unfold gw
  refine congrArg (fun x => (Sum.inl (1, n + 1, Sum.inr (Sum.inl x)) : xk_C)) (funext fun j => ?_)
  simp only [fillF]
  split <;> rfl
theorem gB_fill {n : Nat} {g : gS} (h : gB g) : gB (fun j => if j < n + 1 then (0, 1) else g j) := fun j => by
  dsimp only
  split
  · decide
  · exact h j
theorem gB_meas {n : Nat} {w : tbW} {g : gS} (ho : tbOK n w) (hn : n ≤ 6) (h : gB g) : gB (measG w n g) := by
  refine itr_inv gB _ _ _ (fun k s h1 h2 h3 => ?_) (gB_fill h)
  exact gB_ext ho hn (by omega) (n - 1) k _ 1 (1, 1) s (by omega) (by omega) ⟨by decide, by decide⟩ h3
/-- no ring of z things or more (r sizes) is above 1 -/
def noneG (g : gS) : Nat → Nat → Bool
  | 0, _ => true
  | r + 1, z => if (g z).2 < (g z).1 then false else noneG g r (z + 1)
