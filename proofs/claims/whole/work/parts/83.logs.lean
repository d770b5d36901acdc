/-! Digits by their primes; logarithms as packed exponents. Own text. -/
def q2 (d : Nat) : Nat := ([0, 0, 1, 0, 2, 0, 1, 0, 3, 0] : List Nat).getD d 0
def q3 (d : Nat) : Nat := ([0, 0, 0, 1, 0, 0, 1, 0, 0, 2] : List Nat).getD d 0
def q5 (d : Nat) : Nat := ([0, 0, 0, 0, 0, 1, 0, 0, 0, 0] : List Nat).getD d 0
def q7 (d : Nat) : Nat := ([0, 0, 0, 0, 0, 0, 0, 1, 0, 0] : List Nat).getD d 0
def vp4 (a b c d : Nat) : Nat := 2 ^ a * (3 ^ b * (5 ^ c * 7 ^ d))
def pk4 (a b c d : Nat) : Nat := a + 64 * b + 4096 * c + 262144 * d
theorem dig_all : ∀ d, d < 10 → 1 ≤ d → d = vp4 (q2 d) (q3 d) (q5 d) (q7 d) ∧ logD d = nI (pk4 (q2 d) (q3 d) (q5 d) (q7 d)) ∧ q2 d ≤ 3 ∧ q3 d ≤ 3 ∧ q5 d ≤ 3 ∧ q7 d ≤ 3 := by decide +kernel
theorem vp4_mul (a b c d a' b' c' d' : Nat) : vp4 a b c d * vp4 a' b' c' d' = vp4 (a + a') (b + b') (c + c') (d + d') := by
  unfold vp4
  rw [Nat.pow_add, Nat.pow_add, Nat.pow_add, Nat.pow_add]
  ac_rfl
theorem one_p {p m m' : Nat} (hp : 0 < p) (h : ¬ p ∣ m) (h' : ¬ p ∣ m') : ∀ a a', p ^ a * m = p ^ a' * m' → a = a' ∧ m = m'
  | 0, 0, e => ⟨rfl, by simpa using e⟩
  | 0, a' + 1, e => absurd (by rw [Nat.pow_zero, Nat.one_mul] at e; rw [e, Nat.pow_succ, Nat.mul_comm (p ^ a'), Nat.mul_assoc]; exact Nat.dvd_mul_right _ _) h
  | a + 1, 0, e => absurd (by rw [Nat.pow_zero, Nat.one_mul] at e; rw [← e, Nat.pow_succ, Nat.mul_comm (p ^ a), Nat.mul_assoc]; exact Nat.dvd_mul_right _ _) h'
  | a + 1, a' + 1, e => by
    have e2 : p ^ a * m = p ^ a' * m' := by
      apply Nat.eq_of_mul_eq_mul_left hp
      rw [← Nat.mul_assoc, ← Nat.mul_assoc, Nat.mul_comm p, Nat.mul_comm p, ← Nat.pow_succ, ← Nat.pow_succ]
      exact e
    have := one_p hp h h' a a' e2
    exact ⟨by omega, this.2⟩
theorem nd5 : ∀ d, ¬ 5 ∣ 7 ^ d
  | 0 => by decide
  | d + 1 => fun h => nd5 d (by rw [Nat.pow_succ] at h; omega)
theorem nd3 (d : Nat) : ∀ c, ¬ 3 ∣ 5 ^ c * 7 ^ d
  | 0 => by
    rw [Nat.pow_zero, Nat.one_mul]
    induction d with
    | zero => decide
    | succ d ih => exact fun h => ih (by rw [Nat.pow_succ] at h; omega)
  | c + 1 => fun h => nd3 d c (by
    rw [Nat.pow_succ, Nat.mul_comm (5 ^ c), Nat.mul_assoc] at h
    omega)
theorem nd2 (c d : Nat) : ∀ b, ¬ 2 ∣ 3 ^ b * (5 ^ c * 7 ^ d)
  | 0 => by
    rw [Nat.pow_zero, Nat.one_mul]
    induction c with
    | zero =>
      rw [Nat.pow_zero, Nat.one_mul]
      induction d with
      | zero => decide
      | succ d ih => exact fun h => ih (by rw [Nat.pow_succ] at h; omega)
    | succ c ih => exact fun h => ih (by
        rw [Nat.pow_succ, Nat.mul_comm (5 ^ c), Nat.mul_assoc] at h
        omega)
  | b + 1 => fun h => nd2 c d b (by
    rw [Nat.pow_succ, Nat.mul_comm (3 ^ b), Nat.mul_assoc] at h
    omega)
theorem vp4_inj {a b c d a' b' c' d' : Nat} (h : vp4 a b c d = vp4 a' b' c' d') : a = a' ∧ b = b' ∧ c = c' ∧ d = d' := by
  unfold vp4 at h
  obtain ⟨e1, h1⟩ := one_p (by decide) (nd2 c d b) (nd2 c' d' b') a a' h
  obtain ⟨e2, h2⟩ := one_p (by decide) (nd3 d c) (nd3 d' c') b b' h1
  obtain ⟨e3, h3⟩ := one_p (by decide) (nd5 d) (nd5 d') c c' h2
  have h4 : d = d' := by
    rcases Nat.lt_trichotomy d d' with q | q | q
    · have := Nat.pow_lt_pow_right (a := 7) (by decide) q; omega
    · exact q
    · have := Nat.pow_lt_pow_right (a := 7) (by decide) q; omega
  exact ⟨e1, e2, e3, h4⟩
/-- the sum of something over a path's steps -/
def esum (g : Nat → Nat → Nat) : List Nat → Nat
  | [] => 0
  | [_] => 0
  | b :: c :: q => esum g (c :: q) + g c b
theorem esum_le {g : Nat → Nat → Nat} {m : Nat} {P : Nat → Prop} (hg : ∀ c b, P c → P b → g c b ≤ m) : ∀ l : List Nat, (∀ x, x ∈ l → P x) → l ≠ [] → esum g l + m ≤ m * l.length
  | [], _, h => absurd rfl h
  | [_], _, _ => by simp [esum]
  | b :: c :: q, hx, _ => by
    have ih := esum_le hg (c :: q) (fun x h1 => hx x (List.mem_cons_of_mem _ h1)) (by simp)
    have h1 := hg c b (hx c (by simp)) (hx b (by simp))
    rw [esum]
    rw [List.length_cons, Nat.mul_succ]
    omega
section LOGS
variable {n : Nat} {w : tbW}
theorem pd_vp (ho : tbOK n w) : ∀ l : List Nat, (∀ x, x ∈ l → x < n) → chn (tH w) l → (pd w l).1 = vp4 (esum (fun c b => q2 (w c b).1) l) (esum (fun c b => q3 (w c b).1) l) (esum (fun c b => q5 (w c b).1) l) (esum (fun c b => q7 (w c b).1) l) ∧ (pd w l).2 = vp4 (esum (fun c b => q2 (w c b).2) l) (esum (fun c b => q3 (w c b).2) l) (esum (fun c b => q5 (w c b).2) l) (esum (fun c b => q7 (w c b).2) l)
  | [], _, _ => ⟨rfl, rfl⟩
  | [_], _, _ => ⟨rfl, rfl⟩
  | b :: c :: q, hx, h => by
    have ih := pd_vp ho (c :: q) (fun x h1 => hx x (List.mem_cons_of_mem _ h1)) h.2
    have d := tH_dg ho (hx c (by simp)) (hx b (by simp)) h.1
    have e1 := (dig_all (w c b).1 (by have := d.1.2; omega) d.1.1).1
    have e2 := (dig_all (w c b).2 (by have := d.2.2; omega) d.2.1).1
    constructor
    · show (pd w (c :: q)).1 * (w c b).1 = _
      rw [ih.1]
      conv => lhs; rhs; rw [e1]
      rw [vp4_mul]
      rfl
    · show (pd w (c :: q)).2 * (w c b).2 = _
      rw [ih.2]
      conv => lhs; rhs; rw [e2]
      rw [vp4_mul]
      rfl
theorem i32 (x y u v : Int32) : x - y = u - v ↔ x + v = u + y := by
  rw [← Int32.toBitVec_inj, ← Int32.toBitVec_inj, Int32.toBitVec_sub, Int32.toBitVec_sub, Int32.toBitVec_add, Int32.toBitVec_add]
  generalize x.toBitVec = a
  generalize y.toBitVec = b
  generalize u.toBitVec = c
  generalize v.toBitVec = d
  constructor
  · intro h; bv_omega
  · intro h; bv_omega
/-- weights that go by the sayings of steps go by that of the path -/
theorem wt_path (ho : tbOK n w) {wt : Nat → Int32} {E : Nat → Nat → Bool} (hE : ∀ x y, x < n → y < n → E x y = true → tH w x y = true ∧ wt x - wt y = logW w x y) : ∀ l : List Nat, l ≠ [] → (∀ x, x ∈ l → x < n) → chn E l →
    wt (lastN l) + nI (pk4 (esum (fun c b => q2 (w c b).2) l) (esum (fun c b => q3 (w c b).2) l) (esum (fun c b => q5 (w c b).2) l) (esum (fun c b => q7 (w c b).2) l)) = wt (hd l) + nI (pk4 (esum (fun c b => q2 (w c b).1) l) (esum (fun c b => q3 (w c b).1) l) (esum (fun c b => q5 (w c b).1) l) (esum (fun c b => q7 (w c b).1) l))
  | [], h0, _, _ => absurd rfl h0
  | [_], _, _, _ => rfl
  | b :: c :: q, _, hx, h => by
    have ih := wt_path ho hE (c :: q) (by simp) (fun x h1 => hx x (List.mem_cons_of_mem _ h1)) h.2
    obtain ⟨g1, g2⟩ := hE c b (hx c (by simp)) (hx b (by simp)) h.1
    have d := tH_dg ho (hx c (by simp)) (hx b (by simp)) g1
    have e1 := (dig_all (w c b).1 (by have := d.1.2; omega) d.1.1).2.1
    have e2 := (dig_all (w c b).2 (by have := d.2.2; omega) d.2.1).2.1
    unfold logW at g2
    rw [i32, e1, e2] at g2
    have s1 : ∀ f : Nat → Nat → Nat, esum f (b :: c :: q) = esum f (c :: q) + f c b := fun _ => rfl
    have p1 : ∀ a1 b1 c1 d1 a2 b2 c2 d2, pk4 (a1 + a2) (b1 + b2) (c1 + c2) (d1 + d2) = pk4 a1 b1 c1 d1 + pk4 a2 b2 c2 d2 := fun _ _ _ _ _ _ _ _ => by unfold pk4; omega
    simp only [s1]
    rw [p1, p1, ← nI_add, ← nI_add]
    show wt (lastN (c :: q)) + (_ + _) = wt b + (_ + _)
    rw [← Int32.add_assoc, ih]
    show wt c + _ + _ = _
    rw [Int32.add_assoc, Int32.add_comm (nI _) (nI _), ← Int32.add_assoc, g2, Int32.add_comm (nI _) (wt b), Int32.add_assoc, Int32.add_comm (nI _) (nI _)]
/-- two things that hang together: their weights differ by the saying's logarithm just if the path's product is the saying -/
theorem log_iff (ho : tbOK n w) (hn : n ≤ 6) {wt : Nat → Int32} {E : Nat → Nat → Bool} (hE : ∀ x y, x < n → y < n → E x y = true → tH w x y = true ∧ wt x - wt y = logW w x y) {l : List Nat} (hl : pth E n l) {i j : Nat} (hi : lastN l = i) (hj : hd l = j) (hd : dg (w i j)) : wt i - wt j = logW w i j ↔ fq (pd w l) (w i j) := by
  have hE2 : ∀ x y, x < n → y < n → E x y = true → tH w x y = true := fun x y hx hy h => (hE x y hx hy h).1
  have hc : chn (tH w) l := by
    have key : ∀ l : List Nat, (∀ x, x ∈ l → x < n) → chn E l → chn (tH w) l := by
      intro l
      induction l with
      | nil => exact fun _ _ => trivial
      | cons b l ih =>
        intro hx h
        cases l with
        | nil => exact trivial
        | cons c q => exact ⟨hE2 c b (hx c (by simp)) (hx b (by simp)) h.1, ih (fun x h1 => hx x (List.mem_cons_of_mem _ h1)) h.2⟩
    exact key l hl.2.1 hl.2.2.2
  have hw := wt_path ho hE l hl.1 hl.2.1 hl.2.2.2
  rw [hi, hj] at hw
  obtain ⟨v1, v2⟩ := pd_vp ho l hl.2.1 hc
  obtain ⟨e1, e2, e3⟩ := dig_all (w i j).1 (by have := hd.1.2; omega) hd.1.1
  obtain ⟨f1, f2, f3⟩ := dig_all (w i j).2 (by have := hd.2.2; omega) hd.2.1
  have hlen := pth_len hl
  have lt9 : ∀ c b, c < n → b < n → (w c b).1 ≤ 9 ∧ (w c b).2 ≤ 9 := fun c b hc hb => ⟨(ho.lt hc hb).1, (ho.lt hc hb).2.1⟩
  have qb : ∀ d, d ≤ 9 → q2 d ≤ 3 ∧ q3 d ≤ 3 ∧ q5 d ≤ 3 ∧ q7 d ≤ 3 := by decide
  have bd : ∀ f : Nat → Nat → Nat, (∀ c b, c < n → b < n → f c b ≤ 3) → esum f l ≤ 15 := fun f hf => by
    have := esum_le (P := fun x => x < n) hf l hl.2.1 hl.1
    omega
  have t2 := bd (fun c b => q2 (w c b).1) (fun c b hc hb => (qb _ (lt9 c b hc hb).1).1)
  have t3 := bd (fun c b => q3 (w c b).1) (fun c b hc hb => (qb _ (lt9 c b hc hb).1).2.1)
  have t5 := bd (fun c b => q5 (w c b).1) (fun c b hc hb => (qb _ (lt9 c b hc hb).1).2.2.1)
  have t7 := bd (fun c b => q7 (w c b).1) (fun c b hc hb => (qb _ (lt9 c b hc hb).1).2.2.2)
  have u2 := bd (fun c b => q2 (w c b).2) (fun c b hc hb => (qb _ (lt9 c b hc hb).2).1)
  have u3 := bd (fun c b => q3 (w c b).2) (fun c b hc hb => (qb _ (lt9 c b hc hb).2).2.1)
  have u5 := bd (fun c b => q5 (w c b).2) (fun c b hc hb => (qb _ (lt9 c b hc hb).2).2.2.1)
  have u7 := bd (fun c b => q7 (w c b).2) (fun c b hc hb => (qb _ (lt9 c b hc hb).2).2.2.2)
  generalize esum (fun c b => q2 (w c b).1) l = A2 at *
  generalize esum (fun c b => q3 (w c b).1) l = A3 at *
  generalize esum (fun c b => q5 (w c b).1) l = A5 at *
  generalize esum (fun c b => q7 (w c b).1) l = A7 at *
  generalize esum (fun c b => q2 (w c b).2) l = B2 at *
  generalize esum (fun c b => q3 (w c b).2) l = B3 at *
  generalize esum (fun c b => q5 (w c b).2) l = B5 at *
  generalize esum (fun c b => q7 (w c b).2) l = B7 at *
  have k1 : wt i - wt j = nI (pk4 A2 A3 A5 A7) - nI (pk4 B2 B3 B5 B7) := (i32 _ _ _ _).mpr (by rw [hw, Int32.add_comm])
  have k2 : (wt i - wt j = logW w i j) ↔ vp4 (A2 + q2 (w i j).2) (A3 + q3 (w i j).2) (A5 + q5 (w i j).2) (A7 + q7 (w i j).2) = vp4 (q2 (w i j).1 + B2) (q3 (w i j).1 + B3) (q5 (w i j).1 + B5) (q7 (w i j).1 + B7) := by
    unfold logW
    rw [k1, e2, f2, i32, nI_add, nI_add]
    have g := qb (w i j).1 hd.1.2
    have g' := qb (w i j).2 hd.2.2
    rw [nI_eq (by unfold pk4; omega) (by unfold pk4; omega)]
    constructor
    · intro h
      unfold pk4 at h
      have a1 : A2 + q2 (w i j).2 = q2 (w i j).1 + B2 := by omega
      have a2 : A3 + q3 (w i j).2 = q3 (w i j).1 + B3 := by omega
      have a3 : A5 + q5 (w i j).2 = q5 (w i j).1 + B5 := by omega
      have a4 : A7 + q7 (w i j).2 = q7 (w i j).1 + B7 := by omega
      rw [a1, a2, a3, a4]
    · intro h
      obtain ⟨a1, a2, a3, a4⟩ := vp4_inj h
      unfold pk4
      omega
  rw [k2, ← vp4_mul, ← vp4_mul, ← v1, ← v2, ← e1, ← f1]
  have p1 := pd_1 ho l hl.2.1 hc
  have p2 := pd_2 ho l hl.2.1
  exact ⟨fun h => ⟨⟨⟨p1, p2⟩, hd.1.1, hd.2.1⟩, h⟩, fun h => h.2⟩
end LOGS
