/-! The reference: worst, and fits: what they compute. Own text. -/
def mWor (n : Nat) (T : mdT) (q : Int32) : Int32 := if (inB q 0 4 && (mwF n T).1) = true then wFn (fun _ => 0) (mwF n T) q.toNatClampNeg else -1
theorem wFn_eq {F F' : Nat → Int32} {s : mwS} (h : s.1 = true) {q : Nat} (hq : q < 5) : wFn F s q = wFn F' s q := by
  obtain ⟨b, i, j, k, x, y⟩ := s
  obtain rfl : b = true := h
  rcases q with _ | _ | _ | _ | _ | q
  · rfl
  · rfl
  · rfl
  · rfl
  · rfl
  · omega
theorem inB_04 {q : Int32} (h : inB q 0 4 = true) : vp_in q 5 ∧ q.toNatClampNeg < 5 := by
  unfold inB at h
  simp only [Bool.and_eq_true, decide_eq_true_eq] at h
  have h0 : ¬ q < 0 := by
    intro z
    have h1 := Int32.le_iff_toInt_le.mp h.1
    have h2 := Int32.lt_iff_toInt_lt.mp z
    omega
  obtain ⟨j, h1, rfl⟩ := nI_of h0
  have h4 := (nI_leI (a := j) (b := 4) h1 (by decide)).mp h.2
  exact ⟨vp_in_nI (by omega) (by omega), by rw [nI_clamp h1]; omega⟩
theorem shr_bit {m k : Nat} (hm : m < 32768) (hk : k < 15) : ((nI m >>> (nI k &&& 31)) &&& 1) = 0 ↔ m.testBit k = false := by
  have e : ∀ k, k < 15 → ((nI k &&& 31).toBitVec.smod 32).toNat = k := by decide +kernel
  rw [pk_shrN (by omega) _ k (e k hk), show (1 : Int32) = nI 1 from rfl, nx_and, show (0 : Int32) = nI 0 from rfl, Nat.and_one_is_mod, nI_eq (by omega) (by decide), Nat.testBit_eq_decide_div_mod_eq, decide_eq_false_iff_not]
  omega
def zrow (f : Nat → Bool) : xk_C := .inl (2, 6, .inl (fun j => xk_b (f j)))
def lrow (F : Nat → Int64) : xk_C := .inl (1, 6, .inr (.inl F))
def setB (f : Nat → Bool) (k : Nat) (b : Bool) : Nat → Bool := fun j => if j = k then b else f j
theorem zrow_set (f : Nat → Bool) (k : Nat) (b : Bool) {x : Int32} (hx : x = xk_b b) : (.inl (2, 6, .inl (upd (fun j => xk_b (f j)) k (vp_nar .boolean x))) : xk_C) = zrow (setB f k b) := by
  subst hx
  unfold zrow
  refine congrArg (fun y => (Sum.inl (2, 6, Sum.inl y) : xk_C)) (funext fun j => ?_)
  have e : vp_nar .boolean (xk_b b) = xk_b b := by cases b <;> decide
  simp only [upd, setB, e]
  split <;> rfl
/-- the cells that fits works on -/
def ftA (hs h : xk_H) (m n : Nat) (c : Int32) (f : Nat → Bool) (A B : Nat → Int64) : Prop :=
  (∃ s : mdX, h[m]? = some (mdO n m (c, s.2))) ∧ h[m + 9]? = some (lrow A) ∧ h[m + 10]? = some (lrow B) ∧ h[m + 11]? = some (zrow f) ∧ xfr (fun k => k = m ∨ k = m + 9 ∨ k = m + 10 ∨ k = m + 11) hs h
section FTA
variable {hs h : xk_H} {m n : Nat} {T : mdT} {c : Int32} {f : Nat → Bool} {A B : Nat → Int64}
theorem ftA.C (H : ftA hs h m n c f A B) (hA : mdA hs m n T) : mdC h m n T := hA.2.1.kept H.2.2.2.2 (by omega)
theorem ftA.toA (H : ftA hs h m n c f A B) (hA : mdA hs m n T) : mdA h m n T := by
  obtain ⟨⟨s, h1⟩, h2, h3, h4, h5⟩ := id H
  obtain ⟨-, -, -, -, -, g4, g5, g6, g7⟩ := id hA
  obtain ⟨f4, g4⟩ := g4
  obtain ⟨f5, g5⟩ := g5
  obtain ⟨f6, g6⟩ := g6
  obtain ⟨f7, g7⟩ := g7
  exact ⟨⟨_, h1⟩, H.C hA, ⟨_, h2⟩, ⟨_, h3⟩, ⟨_, h4⟩, ⟨f4, (h5.2 _ (by omega)).trans g4⟩, ⟨f5, (h5.2 _ (by omega)).trans g5⟩, ⟨f6, (h5.2 _ (by omega)).trans g6⟩, f7, (h5.2 _ (by omega)).trans g7⟩
theorem ftA.fr (H : ftA hs h m n c f A B) : xfr (mdR m) hs h := H.2.2.2.2.mono (by unfold mdR; omega)
theorem ftA.z (H : ftA hs h m n c f A B) (f' : Nat → Bool) : ftA hs (h.set (m + 11) (zrow f')) m n c f' A B := by
  obtain ⟨⟨s, h1⟩, h2, h3, h4, h5⟩ := H
  exact ⟨⟨s, (xs_ne (by omega)).trans h1⟩, (xs_ne (by omega)).trans h2, (xs_ne (by omega)).trans h3, xs_at h4, h5.set (by omega)⟩
theorem ftA.a (H : ftA hs h m n c f A B) (A' : Nat → Int64) : ftA hs (h.set (m + 9) (lrow A')) m n c f A' B := by
  obtain ⟨⟨s, h1⟩, h2, h3, h4, h5⟩ := H
  exact ⟨⟨s, (xs_ne (by omega)).trans h1⟩, xs_at h2, (xs_ne (by omega)).trans h3, (xs_ne (by omega)).trans h4, h5.set (by omega)⟩
theorem ftA.b (H : ftA hs h m n c f A B) (B' : Nat → Int64) : ftA hs (h.set (m + 10) (lrow B')) m n c f A B' := by
  obtain ⟨⟨s, h1⟩, h2, h3, h4, h5⟩ := H
  exact ⟨⟨s, (xs_ne (by omega)).trans h1⟩, (xs_ne (by omega)).trans h2, xs_at h3, (xs_ne (by omega)).trans h4, h5.set (by omega)⟩
theorem ftA.o (H : ftA hs h m n c f A B) (c' : Int32) (s : mdX) : ftA hs (h.set m (mdO n m (c', s.2))) m n c' f A B := by
  obtain ⟨⟨s0, h1⟩, h2, h3, h4, h5⟩ := H
  exact ⟨⟨s, xs_at h1⟩, (xs_ne (by omega)).trans h2, (xs_ne (by omega)).trans h3, (xs_ne (by omega)).trans h4, h5.set (by omega)⟩
theorem ftA.ini (hA : mdA hs m n T) : ∃ (c : Int32) (f : Nat → Bool) (A B : Nat → Int64), ftA hs hs m n c f A B := by
  obtain ⟨⟨s, h1⟩, -, ⟨A, h2⟩, ⟨B, h3⟩, ⟨f, h4⟩, -⟩ := hA
  exact ⟨s.1, f, A, B, ⟨s, h1⟩, h2, h3, h4, xfr.rf⟩
end FTA
/-- pair k is in the heap -/
def hIn (n h k : Nat) : Prop := k < n * (n - 1) / 2 ∧ h.testBit k = true
/-- weights of the things by which all sayings of the heap hold -/
def hPot (n : Nat) (T : mdT) (h : Nat) (φ : Nat → Nat × Nat) : Prop := (∀ v, v < n → 0 < (φ v).1 ∧ 0 < (φ v).2) ∧ ∀ k, hIn n h k → (φ (pu n k)).1 * (φ (pl n k)).2 * T.2.1 k = (φ (pu n k)).2 * (φ (pl n k)).1 * T.1 k
def hCons (n : Nat) (T : mdT) (h : Nat) : Prop := ∃ φ, hPot n T h φ
def hClo (n h : Nat) (S : Nat → Prop) : Prop := ∀ k, hIn n h k → (S (pu n k) ↔ S (pl n k))
def hConn (n h : Nat) : Prop := ∀ S : Nat → Prop, S 0 → hClo n h S → ∀ v, v < n → S v
noncomputable def fitB (n : Nat) (T : mdT) (h : Nat) : Bool := @decide (hCons n T h) (Classical.propDecidable _)
theorem fitB_t {n h : Nat} {T : mdT} (q : hCons n T h) : fitB n T h = true := by
  unfold fitB
  exact @decide_eq_true _ (Classical.propDecidable _) q
theorem fitB_f {n h : Nat} {T : mdT} (q : ¬ hCons n T h) : fitB n T h = false := by
  unfold fitB
  exact @decide_eq_false _ (Classical.propDecidable _) q
theorem fitB_i {n h : Nat} {T : mdT} : fitB n T h = true ↔ hCons n T h := by
  by_cases q : hCons n T h
  · exact ⟨fun _ => q, fun _ => fitB_t q⟩
  · rw [fitB_f q]
    exact ⟨fun z => absurd z (by decide), fun z => absurd z q⟩
/-- how many of the first k things aren't reached -/
def unr (f : Nat → Bool) : Nat → Nat
  | 0 => 0
  | k + 1 => unr f k + (if f k = true then 0 else 1)
theorem unr_le (f : Nat → Bool) : ∀ k, unr f k ≤ k
  | 0 => Nat.le_refl _
  | k + 1 => by
    have := unr_le f k
    rw [unr]
    split <;> omega
theorem unr_same {f : Nat → Bool} {q : Nat} : ∀ k, k ≤ q → unr (setB f q true) k = unr f k
  | 0, _ => rfl
  | k + 1, h => by
    rw [unr, unr, unr_same k (by omega)]
    simp [setB, show ¬ k = q by omega]
theorem unr_set {f : Nat → Bool} {q : Nat} (hq : f q = false) : ∀ k, q < k → unr (setB f q true) k + 1 = unr f k
  | 0, h => by omega
  | k + 1, h => by
    rw [unr, unr]
    by_cases e : k = q
    · subst e
      rw [unr_same k (Nat.le_refl _), hq]
      simp [setB]
    · have ih := unr_set hq k (by omega)
      simp only [setB, e, if_false]
      omega
/-- what is known of the weights of the things that are reached -/
def ftW (n : Nat) (T : mdT) (h : Nat) (f : Nat → Bool) (a b ρ : Nat → Nat) : Prop :=
  (∀ v, v < n → f v = true → (1 ≤ a v ∧ a v * 9 * 9 ^ unr f n ≤ 9 ^ n) ∧ (1 ≤ b v ∧ b v * 9 * 9 ^ unr f n ≤ 9 ^ n) ∧ ρ v < n) ∧
  ∀ φ, hPot n T h φ → ∀ v, v < n → f v = true → a v * (φ v).2 * (φ (ρ v)).1 = b v * (φ v).1 * (φ (ρ v)).2
theorem ft_eq {a b x y g p1 p2 q1 q2 r1 r2 : Nat} (hg : 0 < g) (ga : g ∣ a * x) (gb : g ∣ b * y) (hp1 : 0 < p1) (hp2 : 0 < p2) (e1 : a * p2 * r1 = b * p1 * r2) (e2 : p1 * q2 * x = p2 * q1 * y) : (a * x / g) * q2 * r1 = (b * y / g) * q1 * r2 := by
  obtain ⟨u, hu⟩ := ga
  obtain ⟨w, hw⟩ := gb
  rw [hu, hw, Nat.mul_div_cancel_left _ hg, Nat.mul_div_cancel_left _ hg]
  apply Nat.eq_of_mul_eq_mul_left hg
  apply Nat.eq_of_mul_eq_mul_left (Nat.mul_pos hp1 hp2)
  have l1 : p1 * p2 * (g * (u * q2 * r1)) = (g * u) * (p1 * p2 * q2 * r1) := by ac_rfl
  have l2 : p1 * p2 * (g * (w * q1 * r2)) = (g * w) * (p1 * p2 * q1 * r2) := by ac_rfl
  rw [l1, l2, ← hu, ← hw]
  have l3 : a * x * (p1 * p2 * q2 * r1) = (a * p2 * r1) * (p1 * q2 * x) := by ac_rfl
  have l4 : b * y * (p1 * p2 * q1 * r2) = (b * p1 * r2) * (p2 * q1 * y) := by ac_rfl
  rw [l3, l4, e1, e2]
theorem ftW_s {n h p q x y : Nat} {T : mdT} {f : Nat → Bool} {a b ρ : Nat → Nat} (H : ftW n T h f a b ρ) (hp : p < n) (hq : q < n) (fp : f p = true) (fq : f q = false) (x1 : 1 ≤ x) (x9 : x ≤ 9) (y1 : 1 ≤ y) (y9 : y ≤ 9) (E : ∀ φ, hPot n T h φ → (φ p).1 * (φ q).2 * x = (φ p).2 * (φ q).1 * y) : ftW n T h (setB f q true) (updN a q (a p * x / Nat.gcd (a p * x) (b p * y))) (updN b q (b p * y / Nat.gcd (a p * x) (b p * y))) (updN ρ q (ρ p)) := by
  have hu := unr_set fq n hq
  obtain ⟨⟨a1, a2⟩, ⟨b1, b2⟩, r1⟩ := H.1 p hp fp
  have hpos : 0 < a p * x := Nat.mul_pos a1 x1
  have hpos2 : 0 < b p * y := Nat.mul_pos b1 y1
  have hg : 0 < Nat.gcd (a p * x) (b p * y) := Nat.gcd_pos_of_pos_left _ hpos
  have e9 : 9 ^ unr f n = 9 ^ unr (setB f q true) n * 9 := by rw [← hu, Nat.pow_succ]
  have key : ∀ c, c * 9 * 9 ^ unr f n ≤ 9 ^ n → c * 9 * 9 ^ unr (setB f q true) n ≤ 9 ^ n := by
    intro c hc
    rw [e9] at hc
    refine Nat.le_trans (Nat.mul_le_mul_left _ ?_) hc
    omega
  have key2 : ∀ c z g, z ≤ 9 → c * 9 * 9 ^ unr f n ≤ 9 ^ n → (c * z / g) * 9 * 9 ^ unr (setB f q true) n ≤ 9 ^ n := by
    intro c z g hz hc
    rw [e9] at hc
    refine Nat.le_trans ?_ hc
    have h1 : c * z / g ≤ c * 9 := Nat.le_trans (Nat.div_le_self _ _) (Nat.mul_le_mul_left _ hz)
    rw [show c * 9 * (9 ^ unr (setB f q true) n * 9) = (c * 9) * 9 * 9 ^ unr (setB f q true) n by ac_rfl]
    exact Nat.mul_le_mul_right _ (Nat.mul_le_mul_right _ h1)
  refine ⟨fun v hv hf => ?_, fun φ hφ v hv hf => ?_⟩
  · by_cases e : v = q
    · subst e
      simp only [updN, if_pos]
      exact ⟨⟨Nat.div_pos (Nat.le_of_dvd hpos (Nat.gcd_dvd_left _ _)) hg, key2 _ _ _ x9 a2⟩, ⟨Nat.div_pos (Nat.le_of_dvd hpos2 (Nat.gcd_dvd_right _ _)) hg, key2 _ _ _ y9 b2⟩, r1⟩
    · simp only [setB, e, if_false] at hf
      obtain ⟨⟨c1, c2⟩, ⟨d1, d2⟩, r2⟩ := H.1 v hv hf
      simp only [updN, e, if_false]
      exact ⟨⟨c1, key _ c2⟩, ⟨d1, key _ d2⟩, r2⟩
  · by_cases e : v = q
    · subst e
      simp only [updN, if_pos]
      have hpv := hφ.1 p hp
      exact ft_eq hg (Nat.gcd_dvd_left _ _) (Nat.gcd_dvd_right _ _) hpv.1 hpv.2 (H.2 φ hφ p hp fp) (E φ hφ)
    · simp only [setB, e, if_false] at hf
      simp only [updN, e, if_false]
      exact H.2 φ hφ v hv hf
/-- a part begins at s -/
theorem ftW_n {n h s : Nat} {T : mdT} {f : Nat → Bool} {a b ρ : Nat → Nat} (H : ftW n T h f a b ρ) (hs : s < n) (fs : f s = false) : ftW n T h (setB f s true) (updN a s 1) (updN b s 1) (updN ρ s s) := by
  have hu := unr_set fs n hs
  have hle := unr_le f n
  have e9 : 9 ^ unr f n = 9 ^ unr (setB f s true) n * 9 := by rw [← hu, Nat.pow_succ]
  have key : ∀ c, c * 9 * 9 ^ unr f n ≤ 9 ^ n → c * 9 * 9 ^ unr (setB f s true) n ≤ 9 ^ n := by
    intro c hc
    rw [e9] at hc
    refine Nat.le_trans (Nat.mul_le_mul_left _ ?_) hc
    omega
  have one : 1 * 9 * 9 ^ unr (setB f s true) n ≤ 9 ^ n := by
    rw [Nat.one_mul, Nat.mul_comm, ← Nat.pow_succ]
    exact Nat.pow_le_pow_right (by decide) (by omega)
  refine ⟨fun v hv hf => ?_, fun φ hφ v hv hf => ?_⟩
  · by_cases e : v = s
    · subst e
      simp only [updN, if_pos]
      exact ⟨⟨Nat.le_refl _, one⟩, ⟨Nat.le_refl _, one⟩, hv⟩
    · simp only [setB, e, if_false] at hf
      obtain ⟨⟨c1, c2⟩, ⟨d1, d2⟩, r2⟩ := H.1 v hv hf
      simp only [updN, e, if_false]
      exact ⟨⟨c1, key _ c2⟩, ⟨d1, key _ d2⟩, r2⟩
  · by_cases e : v = s
    · subst e
      simp only [updN, if_pos]
      rw [Nat.one_mul, Nat.one_mul, Nat.mul_comm]
    · simp only [setB, e, if_false] at hf
      simp only [updN, e, if_false]
      exact H.2 φ hφ v hv hf
/-- between two parts -/
def ftO (n h s c : Nat) (f : Nat → Bool) (ρ : Nat → Nat) : Prop :=
  (∀ v, v < s → f v = true) ∧ hClo n h (fun v => f v = true) ∧ (∀ k, hIn n h k → f (pu n k) = true → ρ (pu n k) = ρ (pl n k)) ∧ c ≤ s ∧
  ((s = 0 ∧ c = 0 ∧ ∀ v, v < n → f v = false) ∨ (1 ≤ s ∧ c = 1 ∧ ∀ S : Nat → Prop, S 0 → hClo n h S → ∀ v, v < n → f v = true → S v) ∨ (1 ≤ s ∧ 2 ≤ c ∧ ¬ hConn n h))
/-- within the part that began at s; f0 was reached before -/
def ftS (n h s : Nat) (f0 f : Nat → Bool) (ρ : Nat → Nat) : Prop :=
  (∀ v, f0 v = true → f v = true) ∧ (∀ v, v < n → f v = true → f0 v = false → ρ v = s) ∧ (∀ k, hIn n h k → f0 (pu n k) = true → ρ (pu n k) = ρ (pl n k)) ∧ f s = true ∧
  ∀ S : Nat → Prop, S s → hClo n h S → ∀ v, v < n → f v = true → f0 v = false → S v
theorem ftS_n {n h s c : Nat} {f : Nat → Bool} {ρ : Nat → Nat} (H : ftO n h s c f ρ) (hn : n < 7) (h2 : 2 ≤ n) (fs : f s = false) : ftS n h s f (setB f s true) (updN ρ s s) := by
  refine ⟨fun v hv => ?_, fun v hv h1 h3 => ?_, fun k hk h1 => ?_, by simp [setB], fun S hS _ v hv h1 h3 => ?_⟩
  · simp only [setB]
    split
    · rfl
    · exact hv
  · by_cases e : v = s
    · simp [updN, e]
    · simp only [setB, e, if_false] at h1
      rw [h1] at h3
      exact absurd h3 (by decide)
  · have h3 := (H.2.1 k hk).mp h1
    have e1 : ¬ pu n k = s := fun z => by rw [z, fs] at h1; exact absurd h1 (by decide)
    have e2 : ¬ pl n k = s := fun z => by dsimp only at h3; rw [z, fs] at h3; exact absurd h3 (by decide)
    simp only [updN, e1, e2, if_false]
    exact H.2.2.1 k hk h1
  · by_cases e : v = s
    · rw [e]; exact hS
    · simp only [setB, e, if_false] at h1
      rw [h1] at h3
      exact absurd h3 (by decide)
theorem ftS_s {n h s p q k : Nat} {f0 f : Nat → Bool} {ρ : Nat → Nat} (H : ftS n h s f0 f ρ) (hC : hClo n h (fun v => f0 v = true)) (hk : hIn n h k) (hpq : (pu n k = p ∧ pl n k = q) ∨ (pu n k = q ∧ pl n k = p)) (hp : p < n) (fp : f p = true) (fq : f q = false) : ftS n h s f0 (setB f q true) (updN ρ q (ρ p)) := by
  have q0 : f0 q = false := by
    cases e : f0 q
    · rfl
    · rw [H.1 q e] at fq; exact absurd fq (by decide)
  have hc := hC k hk
  dsimp only at hc
  have p0 : f0 p = false := by
    cases e : f0 p
    · rfl
    · rcases hpq with ⟨z1, z2⟩ | ⟨z1, z2⟩
      · rw [z1, z2, q0, e] at hc; exact absurd (hc.mp rfl) (by decide)
      · rw [z1, z2, q0, e] at hc; exact absurd (hc.mpr rfl) (by decide)
  have rp := H.2.1 p hp fp p0
  have hne : ∀ v, f0 v = true → ¬ v = q := fun v hv z => by rw [z, q0] at hv; exact absurd hv (by decide)
  refine ⟨fun v hv => ?_, fun v hv h1 h3 => ?_, fun j hj h1 => ?_, ?_, fun S hS hSc v hv h1 h3 => ?_⟩
  · simp only [setB]
    split
    · rfl
    · exact H.1 v hv
  · by_cases e : v = q
    · simp only [updN, e, if_pos]; exact rp
    · simp only [setB, e, if_false] at h1
      simp only [updN, e, if_false]
      exact H.2.1 v hv h1 h3
  · have h3 := (hC j hj).mp h1
    simp only [updN, hne _ h1, hne _ h3, if_false]
    exact H.2.2.1 j hj h1
  · simp only [setB]
    split
    · rfl
    · exact H.2.2.2.1
  · by_cases e : v = q
    · rw [e]
      have h4 := H.2.2.2.2 S hS hSc p hp fp p0
      have h5 := hSc k hk
      rcases hpq with ⟨z1, z2⟩ | ⟨z1, z2⟩
      · rw [z1, z2] at h5; exact h5.mp h4
      · rw [z1, z2] at h5; exact h5.mpr h4
    · simp only [setB, e, if_false] at h1
      exact H.2.2.2.2 S hS hSc v hv h1 h3
/-- a part is closed: the next one -/
theorem ftO_s {n h s c : Nat} {f0 f : Nat → Bool} {ρ ρ0 : Nat → Nat} (hn : n < 7) (h2 : 2 ≤ n) (O : ftO n h s c f0 ρ0) (fs : f0 s = false) (hs : s < n) (H : ftS n h s f0 f ρ) (hC : hClo n h (fun v => f v = true)) : ftO n h (s + 1) (c + 1) f ρ := by
  refine ⟨fun v hv => ?_, hC, fun k hk h1 => ?_, by have := O.2.2.2.1; omega, ?_⟩
  · by_cases e : v = s
    · rw [e]; exact H.2.2.2.1
    · exact H.1 v (O.1 v (by omega))
  · have hp := prs_ok n hn h2 k hk.1
    cases e : f0 (pu n k)
    · have e2 : f0 (pl n k) = false := by
        cases e3 : f0 (pl n k)
        · rfl
        · have := (O.2.1 k hk).mpr e3
          dsimp only at this
          rw [e] at this
          exact absurd this (by decide)
      rw [H.2.1 _ (by omega) h1 e, H.2.1 _ hp.2 ((hC k hk).mp h1) e2]
    · exact H.2.2.1 k hk e
  · rcases O.2.2.2.2 with ⟨rfl, rfl, h0⟩ | ⟨h3, rfl, h0⟩ | ⟨h3, h4, h0⟩
    · right; left
      exact ⟨by omega, rfl, fun S hS hSc v hv hf => H.2.2.2.2 S hS hSc v hv hf (h0 v hv)⟩
    · right; right
      refine ⟨by omega, by omega, fun z => ?_⟩
      have := z (fun v => f0 v = true) (O.1 0 (by omega)) O.2.1 s hs
      rw [fs] at this
      exact absurd this (by decide)
    · right; right
      exact ⟨by omega, by omega, h0⟩
theorem ftO_k {n h s c : Nat} {f : Nat → Bool} {ρ : Nat → Nat} (O : ftO n h s c f ρ) (h1 : 1 ≤ s) (fs : f s = true) : ftO n h (s + 1) c f ρ := by
  refine ⟨fun v hv => ?_, O.2.1, O.2.2.1, by have := O.2.2.2.1; omega, ?_⟩
  · by_cases e : v = s
    · rw [e]; exact fs
    · exact O.1 v (by omega)
  · rcases O.2.2.2.2 with ⟨h3, -, -⟩ | ⟨h3, h4, h0⟩ | ⟨h3, h4, h0⟩
    · omega
    · exact Or.inr (Or.inl ⟨by omega, h4, h0⟩)
    · exact Or.inr (Or.inr ⟨by omega, h4, h0⟩)
theorem ftO_end {n h c : Nat} {f : Nat → Bool} {ρ : Nat → Nat} (O : ftO n h n c f ρ) (h2 : 2 ≤ n) : c = 1 ↔ hConn n h := by
  rcases O.2.2.2.2 with ⟨h3, -, -⟩ | ⟨h3, h4, h0⟩ | ⟨h3, h4, h0⟩
  · omega
  · exact ⟨fun _ S hS hSc v hv => h0 S hS hSc v hv (O.1 v hv), fun _ => h4⟩
  · exact ⟨fun z => by omega, fun z => absurd z h0⟩
theorem ft_cmp {ai bi aj bj t b p1 p2 q1 q2 r1 r2 : Nat} (hp2 : 0 < p2) (hq1 : 0 < q1) (hr1 : 0 < r1) (hr2 : 0 < r2) (e1 : ai * p2 * r1 = bi * p1 * r2) (e2 : aj * q2 * r1 = bj * q1 * r2) (e3 : p1 * q2 * b = p2 * q1 * t) : ai * bj * b = bi * aj * t := by
  apply Nat.eq_of_mul_eq_mul_left (Nat.mul_pos (Nat.mul_pos hp2 hq1) (Nat.mul_pos hr1 hr2))
  have l1 : p2 * q1 * (r1 * r2) * (ai * bj * b) = (ai * p2 * r1) * (bj * q1 * r2) * b := by ac_rfl
  have l2 : p2 * q1 * (r1 * r2) * (bi * aj * t) = bi * aj * r1 * r2 * (p2 * q1 * t) := by ac_rfl
  rw [l1, l2, e1, ← e2, ← e3]
  ac_rfl
/-- the last check, at a pair of the heap -/
theorem ft_chk {n h c k : Nat} {T : mdT} {f : Nat → Bool} {a b ρ : Nat → Nat} (hn : n < 7) (h2 : 2 ≤ n) (O : ftO n h n c f ρ) (W : ftW n T h f a b ρ) (hk : hIn n h k) (hne : a (pu n k) * b (pl n k) * T.2.1 k ≠ b (pu n k) * a (pl n k) * T.1 k) : ¬ hCons n T h := by
  rintro ⟨φ, hφ⟩
  have hp := prs_ok n hn h2 k hk.1
  have fi := O.1 (pu n k) (by omega)
  have fj := O.1 (pl n k) hp.2
  have er := O.2.2.1 k hk fi
  have e1 := W.2 φ hφ _ (by omega) fi
  have e2 := W.2 φ hφ _ hp.2 fj
  rw [← er] at e2
  have w1 := W.1 _ (show pu n k < n by omega) fi
  have pr := hφ.1 _ w1.2.2
  have pi := hφ.1 _ (show pu n k < n by omega)
  have pj := hφ.1 _ hp.2
  exact hne (ft_cmp pi.2 pj.1 pr.1 pr.2 e1 e2 (hφ.2 k hk))
theorem ft_yes {n h c : Nat} {T : mdT} {f : Nat → Bool} {a b ρ : Nat → Nat} (O : ftO n h n c f ρ) (W : ftW n T h f a b ρ) (hk : ∀ k, hIn n h k → a (pu n k) * b (pl n k) * T.2.1 k = b (pu n k) * a (pl n k) * T.1 k) : hCons n T h :=
  ⟨fun v => (a v, b v), fun v hv => ⟨(W.1 v hv (O.1 v hv)).1.1, (W.1 v hv (O.1 v hv)).2.1.1⟩, hk⟩
theorem ftW_ini {n h : Nat} {T : mdT} {f : Nat → Bool} {a b ρ : Nat → Nat} (hf : ∀ v, v < n → f v = false) : ftW n T h f a b ρ :=
  ⟨fun v hv z => by rw [hf v hv] at z; exact absurd z (by decide), fun _ _ v hv z => by rw [hf v hv] at z; exact absurd z (by decide)⟩
theorem ftO_ini {n h : Nat} {f : Nat → Bool} {ρ : Nat → Nat} (hn : n < 7) (h2 : 2 ≤ n) (hf : ∀ v, v < n → f v = false) : ftO n h 0 0 f ρ := by
  refine ⟨fun v hv => by omega, fun k hk => ?_, fun k hk z => ?_, Nat.le_refl _, Or.inl ⟨rfl, rfl, hf⟩⟩
  · have hp := prs_ok n hn h2 k hk.1
    dsimp only
    rw [hf _ (by omega), hf _ hp.2]
  · have hp := prs_ok n hn h2 k hk.1
    rw [hf _ (by omega)] at z
    exact absurd z (by decide)
/-- the weights as the rows hold them -/
def ftN (n : Nat) (f : Nat → Bool) (A B : Nat → Int64) (a b : Nat → Nat) : Prop := ∀ v, v < n → f v = true → A v = lN (a v) ∧ B v = lN (b v)
theorem ftN_s {n q x y : Nat} {f : Nat → Bool} {A B : Nat → Int64} {a b : Nat → Nat} (H : ftN n f A B a b) : ftN n (setB f q true) (vp_updL A q (lN x)) (vp_updL B q (lN y)) (updN a q x) (updN b q y) := fun v hv hf => by
  by_cases e : v = q
  · simp [vp_updL, updN, e]
  · simp only [setB, e, if_false] at hf
    simp only [vp_updL, updN, e, if_false]
    exact H v hv hf
theorem ftW.le {n h v : Nat} {T : mdT} {f : Nat → Bool} {a b ρ : Nat → Nat} (H : ftW n T h f a b ρ) (hn : n ≤ 6) (hv : v < n) (hf : f v = true) : (1 ≤ a v ∧ a v ≤ 59049) ∧ 1 ≤ b v ∧ b v ≤ 59049 := by
  obtain ⟨⟨a1, a2⟩, ⟨b1, b2⟩, -⟩ := H.1 v hv hf
  have h9 : 9 ^ n ≤ 531441 := p9 hn
  have h1 : 1 ≤ 9 ^ unr f n := Nat.pow_pos (by decide)
  have key : ∀ c, c * 9 * 9 ^ unr f n ≤ 9 ^ n → c ≤ 59049 := by
    intro c hc
    have h3 : c * 9 * 1 ≤ c * 9 * 9 ^ unr f n := Nat.mul_le_mul_left _ h1
    omega
  exact ⟨⟨a1, key _ a2⟩, b1, key _ b2⟩
theorem xb_inj {a b : Bool} (h : xk_b a = xk_b b) : a = b := by
  cases a <;> cases b
  · rfl
  · exact absurd h (by decide)
  · exact absurd h (by decide)
  · rfl
theorem xb_xor {a b : Bool} (h : ¬ xk_b a = xk_b b) : (a = true ∧ b = false) ∨ (a = false ∧ b = true) := by
  cases a <;> cases b
  · exact absurd rfl h
  · exact Or.inr ⟨rfl, rfl⟩
  · exact Or.inl ⟨rfl, rfl⟩
  · exact absurd rfl h
theorem ftO_k2 {n h s c : Nat} {f : Nat → Bool} {ρ : Nat → Nat} (O : ftO n h s c f ρ) (hs : s < n) (fs : f s = true) : ftO n h (s + 1) c f ρ := by
  refine ftO_k O ?_ fs
  rcases O.2.2.2.2 with ⟨h3, -, h4⟩ | ⟨h3, -, -⟩ | ⟨h3, -, -⟩
  · rw [h4 s hs] at fs
    exact absurd fs (by decide)
  · exact h3
  · exact h3
/-- within a pass over the pairs -/
def ftQ (n h u k : Nat) (mo : Bool) (f : Nat → Bool) : Prop := unr f n ≤ u ∧ (mo = true → unr f n < u) ∧ (mo = false → ∀ j, j < k → hIn n h j → f (pu n j) = f (pl n j))
theorem ftQ_0 {n h : Nat} {f : Nat → Bool} : ftQ n h (unr f n) 0 false f := ⟨Nat.le_refl _, fun z => absurd z (by decide), fun _ j hj => by omega⟩
theorem ftQ_k {n h u k : Nat} {mo : Bool} {f : Nat → Bool} (Q : ftQ n h u k mo f) (hk : hIn n h k → f (pu n k) = f (pl n k)) : ftQ n h u (k + 1) mo f := ⟨Q.1, Q.2.1, fun z j hj hi => by
  by_cases e : j = k
  · subst e; exact hk hi
  · exact Q.2.2 z j (by omega) hi⟩
theorem ftQ_s {n h u k q : Nat} {mo : Bool} {f : Nat → Bool} (Q : ftQ n h u k mo f) (hq : q < n) (fq : f q = false) : ftQ n h u (k + 1) true (setB f q true) := by
  have := unr_set fq n hq
  have := Q.1
  exact ⟨by omega, fun _ => by omega, fun z => absurd z (by decide)⟩
theorem ftQ_c {n h u : Nat} {f : Nat → Bool} (Q : ftQ n h u (n * (n - 1) / 2) false f) : hClo n h (fun v => f v = true) := fun k hk => by
  dsimp only
  rw [Q.2.2 rfl k hk.1 hk]
