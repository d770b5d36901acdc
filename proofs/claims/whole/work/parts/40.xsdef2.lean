/-! PairScales: rows, ways, roots: what they compute. Own text. -/
def worstV (s : woS) (q : Int32) : Int32 :=
  if (0 ≤ q ∧ q ≤ 4) ∧ ¬ (s.2.2.2.1 = 0 ∧ s.2.2.2.2 = 1) then (if q = 0 then s.1 else if q = 1 then s.2.1 else if q = 2 then s.2.2.1 else nI (if q - 3 = 0 then lowT s.2.2.2.1 s.2.2.2.2 else lowB s.2.2.2.1 s.2.2.2.2)) else -1
theorem woF_b {n : Nat} {w : tbW} {s : woS} (ho : tbOK n w) : woB (woF w n s) := by
  refine itr_inv woB _ _ _ (fun a s h1 h2 h3 => itr_inv woB _ _ _ (fun b s h4 h5 h6 => itr_inv woB _ _ _ (fun c s h7 h8 h9 => woC_b ho (by omega) (by omega) (by omega) h9) h6) h3) ⟨Nat.le_of_ble_eq_true rfl, Nat.le_of_ble_eq_true rfl⟩
/-- the product of a row -/
def rowP (w : tbW) (n i : Nat) : Nat × Nat := itr (fun j p => if tH w i j = true then mul2 p (w i j) else p) n 0 (1, 1)
def rowB (j : Nat) (p : Nat × Nat) : Prop := p.1 ≤ 9 ^ j ∧ p.2 ≤ 9 ^ j
theorem rowB_s {n i j : Nat} {w : tbW} {p : Nat × Nat} (ho : tbOK n w) (hi : i < n) (hj : j < n) (h : rowB j p) : rowB (j + 1) (if tH w i j = true then mul2 p (w i j) else p) := by
  have h1 := ho.lt hi hj
  have e : 9 ^ (j + 1) = 9 ^ j * 9 := Nat.pow_succ 9 j
  split
  · exact ⟨by rw [e]; exact Nat.mul_le_mul h.1 h1.1, by rw [e]; exact Nat.mul_le_mul h.2 h1.2.1⟩
  · exact ⟨by rw [e]; have := h.1; omega, by rw [e]; have := h.2; omega⟩
theorem rowB_6 {j : Nat} {p : Nat × Nat} (hj : j ≤ 6) (h : rowB j p) : p.1 ≤ 531441 ∧ p.2 ≤ 531441 := ⟨Nat.le_trans h.1 (p9 hj), Nat.le_trans h.2 (p9 hj)⟩
theorem rowP_b {n i : Nat} {w : tbW} (ho : tbOK n w) (hn : n ≤ 6) (hi : i < n) : (rowP w n i).1 ≤ 531441 ∧ (rowP w n i).2 ≤ 531441 := by
  have key : ∀ (m j : Nat) (p : Nat × Nat), j + m = n → rowB j p → rowB n (itr (fun j p => if tH w i j = true then mul2 p (w i j) else p) m j p) := by
    intro m
    induction m with
    | zero =>
      intro j p h1 h2
      obtain rfl : j = n := by omega
      exact h2
    | succ m ih =>
      intro j p h1 h2
      exact ih (j + 1) _ (by omega) (rowB_s ho hi (by omega) h2)
  exact rowB_6 hn (key n 0 (1, 1) (by omega) ⟨by decide, by decide⟩)
def rowV (n : Nat) (w : tbW) (fl : Nat) (i q : Int32) : Int32 :=
  if (isPt q && tIn n i && decide (fl = n * (n - 1) / 2)) = true then nI (if q = 0 then lowT (rowP w n i.toNatClampNeg).1 (rowP w n i.toNatClampNeg).2 else lowB (rowP w n i.toNatClampNeg).1 (rowP w n i.toNatClampNeg).2) else -1
theorem rowV_n {n fl : Nat} {w : tbW} {i q : Int32} (h : (isPt q && tIn n i && decide (fl = n * (n - 1) / 2)) = false) : rowV n w fl i q = -1 := by
  unfold rowV
  rw [if_neg (by rw [h]; decide)]
def ordV (n : Nat) (w : tbW) (fl : Nat) (i j : Int32) : Int32 :=
  if (tIn n i && tIn n j && decide (fl = n * (n - 1) / 2)) = true then
    (if (rowP w n j.toNatClampNeg).1 * (rowP w n i.toNatClampNeg).2 < (rowP w n i.toNatClampNeg).1 * (rowP w n j.toNatClampNeg).2 then 1
     else if (rowP w n i.toNatClampNeg).1 * (rowP w n j.toNatClampNeg).2 < (rowP w n j.toNatClampNeg).1 * (rowP w n i.toNatClampNeg).2 then 2 else 0)
  else -1
theorem ordV_n {n fl : Nat} {w : tbW} {i j : Int32} (h : (tIn n i && tIn n j && decide (fl = n * (n - 1) / 2)) = false) : ordV n w fl i j = -1 := by
  unfold ordV
  rw [if_neg (by rw [h]; decide)]
def maxP (b y : Nat × Nat) : Nat × Nat := if b.1 * y.2 < y.1 * b.2 then y else b
/-- the greatest way from a thing on, with so many things still free; (0, 1) if there is none -/
def wayF (v : tbW) (n goal : Nat) : Nat → Nat → Nat → Nat × Nat → Nat × Nat
  | 0, a, _, p => if a = goal then p else (0, 1)
  | f + 1, a, m, p => if a = goal then p else itr (fun k b => if m.testBit k = false ∧ tH v a k = true then maxP b (wayF v n goal f k (m ||| 2 ^ k) (mul2 p (v a k))) else b) n 0 (0, 1)
def b6 (p : Nat × Nat) : Prop := p.1 ≤ 531441 ∧ p.2 ≤ 531441
theorem maxP_b {b y : Nat × Nat} (h1 : b6 b) (h2 : b6 y) : b6 (maxP b y) := by
  unfold maxP
  split
  · exact h2
  · exact h1
theorem wayF_b {n goal : Nat} {v : tbW} (ho : tbOK n v) (hn : n ≤ 6) : ∀ (f a m z : Nat) (p : Nat × Nat), a < n → z + f = n → pB z p → b6 (wayF v n goal f a m p)
  | 0, a, m, z, p, ha, hz, hp => by
    rw [wayF]
    split
    · exact pB_6 (by omega) hp
    · exact ⟨by decide, by decide⟩
  | f + 1, a, m, z, p, ha, hz, hp => by
    rw [wayF]
    split
    · exact pB_6 (by omega) hp
    · refine itr_inv b6 _ _ _ (fun k s h1 h2 h3 => ?_) ⟨by decide, by decide⟩
      have h4 := ho.lt ha (show k < n by omega)
      split
      · exact maxP_b h3 (wayF_b ho hn f k _ (z + 1) _ (by omega) (by omega) (pB_s hp h4.1 h4.2.1))
      · exact h3
def bndV (n : Nat) (v : tbW) (ok : Bool) (i j q : Int32) : Int32 :=
  if (isPt q && tPair n i j && ok) = true then
    (let y := wayF v n j.toNatClampNeg (n - 1) i.toNatClampNeg (2 ^ i.toNatClampNeg) (1, 1)
     if y = (0, 1) then -1 else nI (if q = 0 then lowT y.1 y.2 else lowB y.1 y.2))
  else -1
theorem bndV_n {n : Nat} {v : tbW} {ok : Bool} {i j q : Int32} (h : (isPt q && tPair n i j && ok) = false) : bndV n v ok i j q = -1 := by
  unfold bndV
  rw [if_neg (by rw [h]; decide)]
/-- rings' products by their sizes -/
def gZ (n : Nat) (g : gS) : Prop := ∀ j, j ≤ n → (g j).1 ≤ 9 ^ j ∧ 1 ≤ (g j).2 ∧ (g j).2 ≤ 9 ^ j
theorem gZ_up {n z : Nat} {g : gS} {p : Nat × Nat} (h : gZ n g) (h1 : p.1 ≤ 9 ^ z) (h2 : 1 ≤ p.2) (h3 : p.2 ≤ 9 ^ z) : gZ n (closeG g z p) := by
  unfold closeG
  split
  · intro j hj
    unfold gUp
    split
    · next e => rw [e]; exact ⟨h1, h2, h3⟩
    · exact h j hj
  · exact h
theorem gZ_cl {n a b z : Nat} {w : tbW} {p : Nat × Nat} {g : gS} (ho : tbOK n w) (ha : a < n) (hb : b < n) (hp : pB z p) (hp1 : 1 ≤ p.2) (h : gZ n g) : gZ n (clG w a b z p g) := by
  unfold clG
  split
  · have h1 := ho.lt hb ha
    have h2 := pB_mul hp h1.1 h1.2.1
    exact gZ_up h h2.1 (Nat.mul_pos hp1 h1.2.2) h2.2
  · exact h
theorem gZ_ext {n a : Nat} {w : tbW} (ho : tbOK n w) (ha : a < n) : ∀ (f b m z : Nat) (p : Nat × Nat) (g : gS), b < n → z + f = n → pB z p → 1 ≤ p.2 → gZ n g → gZ n (extG w n a f b m z p g)
  | 0, b, m, z, p, g, hb, hz, hp, hp1, h => gZ_cl ho ha hb hp hp1 h
  | f + 1, b, m, z, p, g, hb, hz, hp, hp1, h => by
    refine itr_inv (gZ n) _ _ _ (fun k s h1 h2 h3 => ?_) (gZ_cl ho ha hb hp hp1 h)
    have h4 := ho.lt hb (show k < n by omega)
    split
    · exact gZ_ext ho ha f k _ (z + 1) _ s (by omega) (by omega) (pB_s hp h4.1 h4.2.1) (Nat.mul_pos hp1 h4.2.2) h3
    · exact h3
theorem gZ_meas {n : Nat} {w : tbW} {g : gS} (ho : tbOK n w) : gZ n (measG w n g) := by
  refine itr_inv (gZ n) _ _ _ (fun k s h1 h2 h3 => ?_) ?_
  · exact gZ_ext ho (by omega) (n - 1) k _ 1 (1, 1) s (by omega) (by omega) ⟨by decide, by decide⟩ (by decide) h3
  · intro j hj
    dsimp only
    rw [if_pos (by omega)]
    exact ⟨Nat.zero_le _, Nat.le_refl _, Nat.pow_pos (by decide)⟩
/-- the root of a is above that of b -/
def rtAb (a : Nat × Nat) (ra : Nat) (b : Nat × Nat) (rb : Nat) : Bool := decide (b.1 ^ ra * a.2 ^ rb < a.1 ^ rb * b.2 ^ ra)
def rootF (g : gS) : Nat → Nat → Nat → Nat
  | 0, _, b => b
  | r + 1, z, b => rootF g r (z + 1) (if (g z).2 < (g z).1 ∧ (b = 0 ∨ rtAb (g z) z (g b) b = true) then z else b)
theorem pow_bd {a b x y z : Nat} (ha : a ≤ 9 ^ x) (hb : b ≤ 9 ^ y) (hz : x * y ≤ z) : a ^ y * b ^ x ≤ 9 ^ (z + z) := by
  have h1 : a ^ y ≤ 9 ^ z := Nat.le_trans (Nat.pow_le_pow_left ha y) (by rw [← Nat.pow_mul]; exact Nat.pow_le_pow_right (by decide) hz)
  have h2 : b ^ x ≤ 9 ^ z := Nat.le_trans (Nat.pow_le_pow_left hb x) (by rw [← Nat.pow_mul, Nat.mul_comm]; exact Nat.pow_le_pow_right (by decide) hz)
  rw [Nat.pow_add]
  exact Nat.mul_le_mul h1 h2
def leaV (g : gS) (n : Nat) (q : Int32) : Int32 :=
  if 0 ≤ q ∧ q ≤ 2 then
    (if q = 2 then nI (rootF g (n - 2) 3 0)
     else if rootF g (n - 2) 3 0 = 0 then 1
     else nI (if q = 0 then lowT (g (rootF g (n - 2) 3 0)).1 (g (rootF g (n - 2) 3 0)).2 else lowB (g (rootF g (n - 2) 3 0)).1 (g (rootF g (n - 2) 3 0)).2))
  else -1
theorem rootF_le {g : gS} {n : Nat} : ∀ (r z b : Nat), z + r = n + 1 → b ≤ n → rootF g r z b ≤ n
  | 0, _, _, _, h => h
  | r + 1, z, b, hz, h => by
    rw [rootF]
    refine rootF_le r (z + 1) _ (by omega) ?_
    split
    · omega
    · exact h
/-- what span does -/
def spC (n : Nat) (i j e : Int32) : Bool := tPair n i j && (dig (e / 1000) && (dig (e / 100 - e / 100 / 10 * 10) && (dig (e / 10 - e / 10 / 10 * 10) && dig (e - e / 10 * 10))))
def spA (e : Int32) : Nat := (e / 1000).toNatClampNeg
def spB (e : Int32) : Nat := (e / 100 - e / 100 / 10 * 10).toNatClampNeg
def spP (e : Int32) : Nat := (e / 10 - e / 10 / 10 * 10).toNatClampNeg
def spQ (e : Int32) : Nat := (e - e / 10 * 10).toNatClampNeg
def spOk (n : Nat) (i j e : Int32) : Bool := spC n i j e && decide (¬ spP e * spB e < spA e * spQ e)
def spW (n : Nat) (v : tbW) (i j e : Int32) : tbW := if spOk n i j e = true then tbSet v i.toNatClampNeg j.toNatClampNeg (spA e, spB e) (spQ e, spP e) else v
def spN (n : Nat) (v : tbW) (fv : Nat) (i j e : Int32) : Nat := if spOk n i j e = true ∧ v i.toNatClampNeg j.toNatClampNeg = (0, 1) then fv + 1 else fv
theorem worstV_3 {s : woS} {q : Int32} (h : (0 ≤ q ∧ q ≤ 4) ∧ ¬ (s.2.2.2.1 = 0 ∧ s.2.2.2.2 = 1)) (q0 : ¬ q = 0) (q1 : ¬ q = 1) (q2 : ¬ q = 2) : worstV s q = nI (if q - 3 = 0 then lowT s.2.2.2.1 s.2.2.2.2 else lowB s.2.2.2.1 s.2.2.2.2) := by
  unfold worstV
  rw [if_pos h, if_neg q0, if_neg q1, if_neg q2]
theorem rowV_y {n fl a : Nat} {w : tbW} {q : Int32} (ha : a < 6) (h : (isPt q && tIn n (nI a) && decide (fl = n * (n - 1) / 2)) = true) : rowV n w fl (nI a) q = nI (if q = 0 then lowT (rowP w n a).1 (rowP w n a).2 else lowB (rowP w n a).1 (rowP w n a).2) := by
  unfold rowV
  rw [if_pos h, nI_clamp (by omega)]
theorem leaV_2 {g : gS} {n : Nat} {q : Int32} (h : 0 ≤ q ∧ q ≤ 2) (h2 : q = 2) : leaV g n q = nI (rootF g (n - 2) 3 0) := by
  unfold leaV
  rw [if_pos h, if_pos h2]
theorem leaV_1 {g : gS} {n : Nat} {q : Int32} (h : 0 ≤ q ∧ q ≤ 2) (h2 : ¬ q = 2) (h3 : rootF g (n - 2) 3 0 = 0) : leaV g n q = 1 := by
  unfold leaV
  rw [if_pos h, if_neg h2, if_pos h3]
theorem leaV_0 {g : gS} {n : Nat} {q : Int32} (h : 0 ≤ q ∧ q ≤ 2) (h2 : ¬ q = 2) (h3 : ¬ rootF g (n - 2) 3 0 = 0) : leaV g n q = nI (if q = 0 then lowT (g (rootF g (n - 2) 3 0)).1 (g (rootF g (n - 2) 3 0)).2 else lowB (g (rootF g (n - 2) 3 0)).1 (g (rootF g (n - 2) 3 0)).2) := by
  unfold leaV
  rw [if_pos h, if_neg h2, if_neg h3]
