/-! Agreement: fractions; rows, their order, the worst three. Own text. -/
/-- two fractions above 0 that are like -/
def fq (p q : Nat × Nat) : Prop := ((1 ≤ p.1 ∧ 1 ≤ p.2) ∧ 1 ≤ q.1 ∧ 1 ≤ q.2) ∧ p.1 * q.2 = q.1 * p.2
theorem fq.rf {p : Nat × Nat} (h1 : 1 ≤ p.1) (h2 : 1 ≤ p.2) : fq p p := ⟨⟨⟨h1, h2⟩, h1, h2⟩, rfl⟩
theorem fq.sy {p q : Nat × Nat} (h : fq p q) : fq q p := ⟨⟨h.1.2, h.1.1⟩, h.2.symm⟩
theorem fq.tr {p q r : Nat × Nat} (h : fq p q) (h' : fq q r) : fq p r := by
  refine ⟨⟨h.1.1, h'.1.2⟩, ?_⟩
  have e1 := h.2
  have e2 := h'.2
  apply Nat.eq_of_mul_eq_mul_left (show 0 < q.1 * q.2 from Nat.mul_pos h.1.2.1 h.1.2.2)
  have l1 : q.1 * q.2 * (p.1 * r.2) = (p.1 * q.2) * (q.1 * r.2) := by ac_rfl
  have l2 : q.1 * q.2 * (r.1 * p.2) = (q.1 * p.2) * (r.1 * q.2) := by ac_rfl
  rw [l1, l2, e1, e2]
theorem fq.mul {p q p' q' : Nat × Nat} (h : fq p p') (h' : fq q q') : fq (mul2 p q) (mul2 p' q') := by
  refine ⟨⟨⟨Nat.mul_pos h.1.1.1 h'.1.1.1, Nat.mul_pos h.1.1.2 h'.1.1.2⟩, Nat.mul_pos h.1.2.1 h'.1.2.1, Nat.mul_pos h.1.2.2 h'.1.2.2⟩, ?_⟩
  show p.1 * q.1 * (p'.2 * q'.2) = p'.1 * q'.1 * (p.2 * q.2)
  rw [Nat.mul_mul_mul_comm, h.2, h'.2, Nat.mul_mul_mul_comm]
theorem fq.inv {p q : Nat × Nat} (h : fq p q) : fq (p.2, p.1) (q.2, q.1) := ⟨⟨⟨h.1.1.2, h.1.1.1⟩, h.1.2.2, h.1.2.1⟩, by
  show p.2 * q.1 = q.2 * p.1
  rw [Nat.mul_comm, ← h.2, Nat.mul_comm]⟩
/-- like fractions compare alike -/
theorem fq.lt {p q p' q' : Nat × Nat} (h : fq p p') (h' : fq q q') : p.1 * q.2 < q.1 * p.2 ↔ p'.1 * q'.2 < q'.1 * p'.2 := by
  have hc : 0 < p'.2 * q'.2 := Nat.mul_pos h.1.2.2 h'.1.2.2
  have hc' : 0 < p.2 * q.2 := Nat.mul_pos h.1.1.2 h'.1.1.2
  have e1 : p.1 * q.2 * (p'.2 * q'.2) = p'.1 * q'.2 * (p.2 * q.2) := by
    have l1 : p.1 * q.2 * (p'.2 * q'.2) = (p.1 * p'.2) * (q.2 * q'.2) := by ac_rfl
    have l2 : p'.1 * q'.2 * (p.2 * q.2) = (p'.1 * p.2) * (q.2 * q'.2) := by ac_rfl
    rw [l1, l2, h.2]
  have e2 : q.1 * p.2 * (p'.2 * q'.2) = q'.1 * p'.2 * (p.2 * q.2) := by
    have l1 : q.1 * p.2 * (p'.2 * q'.2) = (q.1 * q'.2) * (p.2 * p'.2) := by ac_rfl
    have l2 : q'.1 * p'.2 * (p.2 * q.2) = (q'.1 * q.2) * (p.2 * p'.2) := by ac_rfl
    rw [l1, l2, h'.2]
  rw [← Nat.mul_lt_mul_right hc, e1, e2, Nat.mul_lt_mul_right hc']
theorem fq.lt1 {p p' : Nat × Nat} (h : fq p p') : p.1 < p.2 ↔ p'.1 < p'.2 := by
  have := h.lt (fq.rf (p := (1, 1)) (by decide) (by decide))
  simpa using this
theorem fq_low {p : Nat × Nat} (h1 : 1 ≤ p.1) (h2 : 1 ≤ p.2) : fq p (lowT p.1 p.2, lowB p.1 p.2) := by
  have g1 : 0 < Nat.gcd p.1 p.2 := Nat.gcd_pos_of_pos_left p.2 h1
  have g2 := Nat.gcd_le_left p.2 h1
  have g3 := Nat.gcd_le_right p.1 h2
  refine ⟨⟨⟨h1, h2⟩, Nat.div_pos g2 g1, Nat.div_pos g3 g1⟩, ?_⟩
  show p.1 * (p.2 / Nat.gcd p.1 p.2) = p.1 / Nat.gcd p.1 p.2 * p.2
  obtain ⟨a, ha⟩ := Nat.gcd_dvd_left p.1 p.2
  obtain ⟨b, hb⟩ := Nat.gcd_dvd_right p.1 p.2
  have e1 : p.1 / Nat.gcd p.1 p.2 = a := by
    conv => lhs; lhs; rw [ha]
    exact Nat.mul_div_cancel_left _ g1
  have e2 : p.2 / Nat.gcd p.1 p.2 = b := by
    conv => lhs; lhs; rw [hb]
    exact Nat.mul_div_cancel_left _ g1
  rw [e1, e2]
  conv => lhs; lhs; rw [ha]
  conv => rhs; rhs; rw [hb]
  ac_rfl
theorem div_like {p q g h : Nat} (hg : 0 < g) (hh : 0 < h) (dg : g ∣ p) (dh : h ∣ q) (e : g * q = h * p) : p / g = q / h := by
  obtain ⟨a, rfl⟩ := dg
  obtain ⟨c, rfl⟩ := dh
  rw [Nat.mul_div_cancel_left _ hg, Nat.mul_div_cancel_left _ hh]
  apply Nat.eq_of_mul_eq_mul_left (Nat.mul_pos hg hh)
  have l1 : g * h * a = h * (g * a) := by ac_rfl
  have l2 : g * h * c = g * (h * c) := by ac_rfl
  rw [l1, l2, e]
/-- in lowest terms there is one only -/
theorem fq.uniq {p q : Nat × Nat} (h : fq p q) : lowT p.1 p.2 = lowT q.1 q.2 ∧ lowB p.1 p.2 = lowB q.1 q.2 := by
  obtain ⟨⟨⟨a1, a2⟩, b1, b2⟩, e⟩ := h
  have g1 : 0 < Nat.gcd p.1 p.2 := Nat.gcd_pos_of_pos_left p.2 a1
  have g2 : 0 < Nat.gcd q.1 q.2 := Nat.gcd_pos_of_pos_left q.2 b1
  have k1 : Nat.gcd p.1 p.2 * q.2 = Nat.gcd q.1 q.2 * p.2 := by
    rw [← Nat.gcd_mul_right, ← Nat.gcd_mul_right, e, Nat.mul_comm p.2 q.2]
  have k2 : Nat.gcd p.1 p.2 * q.1 = Nat.gcd q.1 q.2 * p.1 := by
    rw [← Nat.gcd_mul_right, ← Nat.gcd_mul_right, Nat.mul_comm p.2 q.1, ← e, Nat.mul_comm p.1 q.1, Nat.mul_comm p.1 q.2]
  exact ⟨div_like g1 g2 (Nat.gcd_dvd_left _ _) (Nat.gcd_dvd_left _ _) k2, div_like g1 g2 (Nat.gcd_dvd_right _ _) (Nat.gcd_dvd_right _ _) k1⟩
theorem itr_rel {σ τ : Type} {f : Nat → σ → σ} {g : Nat → τ → τ} (Q : σ → τ → Prop) : ∀ (m i : Nat) (s : σ) (t : τ), (∀ k s t, i ≤ k → k < i + m → Q s t → Q (f k s) (g k t)) → Q s t → Q (itr f m i s) (itr g m i t)
  | 0, _, _, _, _, h => h
  | m + 1, i, s, t, hf, h => itr_rel Q m (i + 1) (f i s) (g i t) (fun k s t h1 h2 => hf k s t (by omega) (by omega)) (hf i s t (Nat.le_refl _) (by omega) h)
section AGB
variable {n fl fv : Nat} {w v : tbW} {T : mdT}
/-- the reference's saying is the class's, in lowest terms -/
theorem saR.fq {i j : Nat} (R : saR n w T) (hi : i < n) (hj : j < n) (hij : i ≠ j) (h : w i j ≠ (0, 1)) : fq (w i j) (mdS n T.1 T.2.1 i j) := by
  rcases R i j hi hj hij with ⟨h1, -⟩ | ⟨-, h2, -, h4⟩
  · exact absurd h1 h
  · rw [h4]
    exact fq_low h2.1.1 h2.2.1
theorem tH_iff {i j : Nat} : tH w i j = true ↔ i ≠ j ∧ w i j ≠ (0, 1) := by
  unfold tH hasN
  simp
theorem row_fq (hn : n ≤ 6) (h2 : 2 ≤ n) (R : rel n w fl v fv T) (hc : cntP T.1 (n * (n - 1) / 2) = n * (n - 1) / 2) {i : Nat} (hi : i < n) : fq (rowP w n i) (rowM n T i) := by
  refine itr_rel fq n 0 (1, 1) (1, 1) (fun j s t h1 h3 h => ?_) (fq.rf (by decide) (by decide))
  by_cases e : j = i
  · subst e
    rw [if_neg (fun z => (tH_iff.mp z).1 rfl), if_pos rfl]
    exact h
  · have hw : w i j ≠ (0, 1) := (R.1.has hi (by omega) (fun z => e z.symm)).mpr (cntP_full T.1 _ hc _ (pidx_ok n (by omega) h2 i hi j (by omega) (fun z => e z.symm)).1)
    rw [if_pos (tH_iff.mpr ⟨fun z => e z.symm, hw⟩), if_neg e]
    exact h.mul (R.1.fq hi (by omega) (fun z => e z.symm) hw)
theorem ag_row (hn : n ≤ 6) (h2 : 2 ≤ n) (R : rel n w fl v fv T) (i q : Int32) : rowV n w fl i q = mRow n T i q := by
  unfold rowV mRow
  have e0 : fl = cntP T.1 (n * (n - 1) / 2) := R.2.2.2.1
  rw [e0]
  cases c1 : tIn n i
  · simp
  · by_cases c2 : cntP T.1 (n * (n - 1) / 2) = n * (n - 1) / 2
    · cases c3 : isPt q
      · simp
      · rw [decide_eq_true c2]
        obtain ⟨a, ha, rfl⟩ := tIn_of hn c1
        rw [if_pos (show (true && true && true) = true from rfl), if_pos (show (true && true && true) = true from rfl), nI_clamp (by omega)]
        have h := (row_fq hn h2 R c2 ha).uniq
        rw [h.1, h.2]
    · rw [decide_eq_false c2]
      simp
theorem ag_order (hn : n ≤ 6) (h2 : 2 ≤ n) (R : rel n w fl v fv T) (i j : Int32) : ordV n w fl i j = mOrd n T i j := by
  unfold ordV mOrd
  have e0 : fl = cntP T.1 (n * (n - 1) / 2) := R.2.2.2.1
  rw [e0]
  cases c1 : tIn n i
  · simp
  · cases c3 : tIn n j
    · simp
    · by_cases c2 : cntP T.1 (n * (n - 1) / 2) = n * (n - 1) / 2
      · rw [decide_eq_true c2]
        obtain ⟨a, ha, rfl⟩ := tIn_of hn c1
        obtain ⟨b, hb, rfl⟩ := tIn_of hn c3
        rw [if_pos (show (true && true && true) = true from rfl), if_pos (show (true && true && true) = true from rfl), nI_clamp (by omega), nI_clamp (by omega)]
        have hA := row_fq hn h2 R c2 ha
        have hB := row_fq hn h2 R c2 hb
        have fA := hA.tr (fq_low hA.1.2.1 hA.1.2.2)
        have fB := hB.tr (fq_low hB.1.2.1 hB.1.2.2)
        have k1 := fB.lt fA
        have k2 := fA.lt fB
        dsimp only at k1 k2 ⊢
        simp only [k1, k2]
      · rw [decide_eq_false c2]
        simp
/-- what ties the two searches for the worst three -/
def woR (s : woS) (t : mwS) : Prop :=
  (t.1 = false ∧ s.2.2.2.1 = 0 ∧ s.2.2.2.2 = 1) ∨ (t.1 = true ∧ (s.1 = nI t.2.1 ∧ s.2.1 = nI t.2.2.1 ∧ s.2.2.1 = nI t.2.2.2.1) ∧ fq (s.2.2.2.1, s.2.2.2.2) (t.2.2.2.2.1, t.2.2.2.2.2) ∧ t.2.2.2.2.1 = lowT s.2.2.2.1 s.2.2.2.2 ∧ t.2.2.2.2.2 = lowB s.2.2.2.1 s.2.2.2.2)
theorem woR_s (hn : n ≤ 6) (h2 : 2 ≤ n) (R : rel n w fl v fv T) {a b c : Nat} (hab : a < b) (hbc : b < c) (hc : c < n) {s : woS} {t : mwS} (h : woR s t) : woR (woC w a b c s) (mwC n T a b c t) := by
  have pca := (pidx_ok n (by omega) h2 a (by omega) c hc (by omega)).2.2.2.1
  have k1 := R.1.has (i := a) (j := b) (by omega) (by omega) (by omega)
  have k2 := R.1.has (i := b) (j := c) (by omega) (by omega) (by omega)
  have k3 := R.1.has (i := c) (j := a) (by omega) (by omega) (by omega)
  rw [← pca] at k3
  by_cases hs : w a b ≠ (0, 1) ∧ w b c ≠ (0, 1) ∧ w c a ≠ (0, 1)
  · obtain ⟨s1, s2, s3⟩ := hs
    have hf := ((R.1.fq (by omega) (by omega) (by omega) s1).mul (R.1.fq (by omega) (by omega) (by omega) s2)).mul (R.1.fq (by omega) (by omega) (by omega) s3)
    have ho : offW w a b c = (if (mul2 (mul2 (w a b) (w b c)) (w c a)).1 < (mul2 (mul2 (w a b) (w b c)) (w c a)).2 then ((mul2 (mul2 (w a b) (w b c)) (w c a)).2, (mul2 (mul2 (w a b) (w b c)) (w c a)).1) else mul2 (mul2 (w a b) (w b c)) (w c a)) := by
      unfold offW hasN
      rw [if_pos (by simp [s1, s2, s3])]
    have hm : mwC n T a b c t = if t.1 = true ∧ mwX n T a b c * t.2.2.2.2.2 ≤ t.2.2.2.2.1 * mwY n T a b c then t else (true, a, b, c, mwX n T a b c, mwY n T a b c) := by
      unfold mwC
      rw [if_pos (by simp [k1.mp s1, k2.mp s2, k3.mp s3])]
    generalize mul2 (mul2 (w a b) (w b c)) (w c a) = p at hf ho
    have hfo : fq (offW w a b c) (max (mwT n T a b c).1 (mwT n T a b c).2, min (mwT n T a b c).1 (mwT n T a b c).2) := by
      have hf' : fq p (mwT n T a b c) := hf
      have hl := hf'.lt1
      rw [ho]
      by_cases cl : p.1 < p.2
      · rw [if_pos cl, Nat.max_eq_right (Nat.le_of_lt (hl.mp cl)), Nat.min_eq_left (Nat.le_of_lt (hl.mp cl))]
        exact hf'.inv
      · have : ¬ (mwT n T a b c).1 < (mwT n T a b c).2 := fun z => cl (hl.mpr z)
        rw [if_neg cl, Nat.max_eq_left (by omega), Nat.min_eq_right (by omega)]
        exact hf'
    have hg : Nat.gcd (max (mwT n T a b c).1 (mwT n T a b c).2) (min (mwT n T a b c).1 (mwT n T a b c).2) = Nat.gcd (mwT n T a b c).1 (mwT n T a b c).2 := by
      by_cases cl : (mwT n T a b c).1 ≤ (mwT n T a b c).2
      · rw [Nat.max_eq_right cl, Nat.min_eq_left cl, Nat.gcd_comm]
      · rw [Nat.max_eq_left (by omega), Nat.min_eq_right (by omega)]
    have hu := hfo.uniq
    have eX : mwX n T a b c = lowT (offW w a b c).1 (offW w a b c).2 := by
      rw [hu.1]
      unfold mwX lowT
      dsimp only
      rw [hg]
    have eY : mwY n T a b c = lowB (offW w a b c).1 (offW w a b c).2 := by
      rw [hu.2]
      unfold mwY lowB
      dsimp only
      rw [hg]
    have hfl : fq (offW w a b c) (mwX n T a b c, mwY n T a b c) := by
      rw [eX, eY]
      exact fq_low hfo.1.1.1 hfo.1.1.2
    have new : woR (nI a, nI b, nI c, (offW w a b c).1, (offW w a b c).2) (true, a, b, c, mwX n T a b c, mwY n T a b c) := Or.inr ⟨rfl, ⟨rfl, rfl, rfl⟩, hfl, eX, eY⟩
    rw [hm]
    unfold woC
    rcases h with ⟨h1, h3, h4⟩ | ⟨h1, h3, h4, h5, h6⟩
    · rw [if_pos (by rw [h3, h4, Nat.zero_mul, Nat.mul_one]; exact hfo.1.1.1), if_neg (fun z => by rw [h1] at z; exact absurd z.1 (by decide))]
      exact new
    · have hlt := h4.lt hfl
      dsimp only at hlt
      by_cases cc : s.2.2.2.1 * (offW w a b c).2 < (offW w a b c).1 * s.2.2.2.2
      · have := hlt.mp cc
        rw [if_pos cc, if_neg (fun z => by have := z.2; omega)]
        exact new
      · have : ¬ t.2.2.2.2.1 * mwY n T a b c < mwX n T a b c * t.2.2.2.2.2 := fun z => cc (hlt.mpr z)
        rw [if_neg cc, if_pos ⟨h1, by omega⟩]
        exact Or.inr ⟨h1, h3, h4, h5, h6⟩
  · have ho : offW w a b c = (0, 1) := by
      unfold offW hasN
      rw [if_neg (by simp only [Bool.and_eq_true, decide_eq_true_eq]; exact fun z => hs ⟨z.1.1, z.1.2, z.2⟩)]
    have hm : mwC n T a b c t = t := by
      unfold mwC
      rw [if_neg (by simp only [Bool.and_eq_true, decide_eq_true_eq]; exact fun z => hs ⟨k1.mpr z.1.1, k2.mpr z.1.2, k3.mpr z.2⟩)]
    rw [hm]
    unfold woC
    rw [ho, if_neg (by dsimp only; omega)]
    exact h
theorem ag_worst (hn : n ≤ 6) (h2 : 2 ≤ n) (R : rel n w fl v fv T) (s : woS) (q : Int32) : worstV (woF w n s) q = mWor n T q := by
  have h : woR (woF w n s) (mwF n T) := by
    refine itr_rel woR n 0 _ _ (fun a s t h1 h3 h => ?_) (Or.inl ⟨rfl, rfl, rfl⟩)
    refine itr_rel woR _ _ _ _ (fun b s t h4 h5 h => ?_) h
    refine itr_rel woR _ _ _ _ (fun c s t h6 h7 h => ?_) h
    exact woR_s hn h2 R (by omega) (by omega) (by omega) h
  generalize woF w n s = o at h
  unfold mWor worstV
  generalize mwF n T = t at h
  obtain ⟨t0, ti, tj, tk, tx, ty⟩ := t
  rcases h with ⟨h1, h3, h4⟩ | ⟨h1, ⟨h3, h4, h5⟩, h6, h7, h8⟩
  · dsimp only at h1
    rw [if_neg (fun z => z.2 ⟨h3, h4⟩), h1, Bool.and_false, if_neg (by decide)]
  · dsimp only at h1 h3 h4 h5 h6 h7 h8 ⊢
    rw [h1, Bool.and_true]
    have hne : ¬ (o.2.2.2.1 = 0 ∧ o.2.2.2.2 = 1) := fun z => by
      have := h6.1.1.1
      dsimp only at this
      omega
    unfold inB
    by_cases c : (0 : Int32) ≤ q ∧ q ≤ 4
    · rw [if_pos ⟨c, hne⟩, if_pos (show (decide (0 ≤ q) && decide (q ≤ 4)) = true by rw [decide_eq_true c.1, decide_eq_true c.2]; rfl)]
      have hq0 : ¬ q < 0 := by rw [Int32.not_lt]; exact c.1
      obtain ⟨k, hk, rfl⟩ := nI_of hq0
      have hk4 := (nI_leI (a := k) (b := 4) hk (by decide)).mp c.2
      rw [nI_clamp (by omega), h3, h4, h5, ← h7, ← h8]
      rcases (show k = 0 ∨ k = 1 ∨ k = 2 ∨ k = 3 ∨ k = 4 by omega) with rfl | rfl | rfl | rfl | rfl
      · rw [if_pos (by decide)]; rfl
      · rw [if_neg (by decide), if_pos (by decide)]; rfl
      · rw [if_neg (by decide), if_neg (by decide), if_pos (by decide)]; rfl
      · rw [if_neg (by decide), if_neg (by decide), if_neg (by decide), if_pos (by decide)]; rfl
      · rw [if_neg (by decide), if_neg (by decide), if_neg (by decide), if_neg (by decide)]; rfl
    · rw [if_neg (fun z => c z.1), if_neg]
      simp only [Bool.and_eq_true, decide_eq_true_eq]
      exact c
end AGB
