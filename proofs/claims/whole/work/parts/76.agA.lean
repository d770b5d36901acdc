/-! Agreement: sayings, spans, counts. Own text. -/
theorem pidx_inj {n i j k l : Nat} (hn : n ≤ 6) (h2 : 2 ≤ n) (hi : i < n) (hj : j < n) (hij : i ≠ j) (hk : k < n) (hl : l < n) (hkl : k ≠ l) (h : pidx n i j = pidx n k l) : (i = k ∧ j = l) ∨ (i = l ∧ j = k) := by
  have h1 := pidx_ok n (by omega) h2 i hi j hj hij
  have h3 := pidx_ok n (by omega) h2 k hk l hl hkl
  rw [h] at h1
  have e1 : min i j = min k l := h1.2.1.symm.trans h3.2.1
  have e2 : max i j = max k l := h1.2.2.1.symm.trans h3.2.2.1
  omega
theorem updN_at (f : Nat → Nat) (k x : Nat) : updN f k x k = x := if_pos rfl
theorem updN_ne {f : Nat → Nat} {k x j : Nat} (h : j ≠ k) : updN f k x j = f j := if_neg h
theorem cntP_congr {f g : Nat → Nat} : ∀ m, (∀ j, j < m → (0 < f j ↔ 0 < g j)) → cntP f m = cntP g m
  | 0, _ => rfl
  | m + 1, h => by
    rw [cntP, cntP, cntP_congr m (fun j hj => h j (by omega))]
    by_cases c : 0 < f m
    · rw [if_pos c, if_pos ((h m (by omega)).mp c)]
    · rw [if_neg c, if_neg (fun z => c ((h m (by omega)).mpr z))]
theorem cntP_upd {f : Nat → Nat} {k x : Nat} : ∀ m, k < m → cntP (updN f k x) m + (if 0 < f k then 1 else 0) = cntP f m + (if 0 < x then 1 else 0)
  | 0, h => by omega
  | m + 1, h => by
    rw [cntP, cntP]
    by_cases c : k = m
    · subst c
      rw [updN_at, cntP_congr (f := updN f k x) (g := f) k (fun j hj => by rw [updN_ne (by omega)])]
      omega
    · rw [updN_ne (fun z => c z.symm)]
      have := cntP_upd (f := f) (k := k) (x := x) m (by omega)
      omega
theorem cntP_pos {f : Nat → Nat} {k m : Nat} (hk : k < m) (h : 0 < f k) : 1 ≤ cntP f m := by
  have h1 := cntP_upd (f := f) (k := k) (x := 0) m hk
  rw [if_pos h, if_neg (by omega)] at h1
  omega
section AGA
variable {n fl fv : Nat} {w v : tbW} {T : mdT}
theorem saR.has {i j : Nat} (R : saR n w T) (hi : i < n) (hj : j < n) (hij : i ≠ j) : w i j ≠ (0, 1) ↔ 0 < T.1 (pidx n i j) := by
  rcases R i j hi hj hij with ⟨h1, h2⟩ | ⟨h1, h2, -⟩
  · rw [h1, h2]; simp
  · constructor
    · exact fun _ => h1
    · intro _ q
      have := h2.1.1
      rw [q] at this
      exact absurd this (by decide)
theorem spR.has {i j : Nat} (R : spR n v T) (hi : i < n) (hj : j < n) (hij : i ≠ j) : v i j ≠ (0, 1) ↔ 0 < T.2.2.1 (pidx n i j) := by
  rcases R i j hi hj hij with ⟨h1, h2⟩ | ⟨h1, h2, -⟩
  · rw [h1, h2]; simp
  · constructor
    · exact fun _ => h1
    · intro _ q
      have := h2.1.1
      rw [q] at this
      exact absurd this (by decide)
theorem ag_ok (hn : n ≤ 6) (h2 : 2 ≤ n) (R : rel n w fl v fv T) : tbOK n w ∧ tbOK n v ∧ mdOK T ∧ fl < 100 ∧ (∀ i j, tHas n w i j = true → 1 ≤ fl) ∧ ∀ i j, tHas n v i j = true → 1 ≤ fv := by
  obtain ⟨r1, r2, r3, r4, r5, r6⟩ := R
  have hnp := np_ok n (by omega)
  refine ⟨fun i j hi hj => ?_, fun i j hi hj => ?_, r6, ?_, fun i j h => ?_, fun i j h => ?_⟩
  · by_cases e : i = j
    · subst e; exact Or.inl (r3 i hi).1
    · rcases r1 i j hi hj e with ⟨h1, -⟩ | ⟨-, h1, -⟩
      · exact Or.inl h1
      · exact Or.inr ⟨h1.1.1, h1.1.2, h1.2.1, h1.2.2⟩
  · by_cases e : i = j
    · subst e; exact Or.inl (r3 i hi).2
    · rcases r2 i j hi hj e with ⟨h1, -⟩ | ⟨-, h1, -⟩
      · exact Or.inl h1
      · exact Or.inr ⟨h1.1.1, h1.1.2, h1.2.1, h1.2.2⟩
  · have := cntP_le T.1 (n * (n - 1) / 2)
    omega
  · obtain ⟨a, b, ha, hb, hab, rfl, rfl, hw⟩ := tHas_of hn h
    rw [r4]
    exact cntP_pos (pidx_ok n (by omega) h2 a ha b hb hab).1 ((r1.has ha hb hab).mp hw)
  · obtain ⟨a, b, ha, hb, hab, rfl, rfl, hw⟩ := tHas_of hn h
    rw [r5]
    exact cntP_pos (pidx_ok n (by omega) h2 a ha b hb hab).1 ((r2.has ha hb hab).mp hw)
theorem cntP_0 : ∀ m, cntP (fun _ => 0) m = 0
  | 0 => rfl
  | m + 1 => by rw [cntP, cntP_0 m]; rfl
theorem ag_init (hn : n ≤ 6) (h2 : 2 ≤ n) : rel n (w0 n) 0 (w0 n) 0 T0 :=
  ⟨fun i j _ hj _ => Or.inl ⟨if_pos hj, rfl⟩, fun i j _ hj _ => Or.inl ⟨if_pos hj, rfl⟩, fun i hi => ⟨if_pos hi, if_pos hi⟩, (cntP_0 _).symm, (cntP_0 _).symm, T0_ok⟩
theorem ag_has (hn : n ≤ 6) (h2 : 2 ≤ n) (R : rel n w fl v fv T) (i j : Int32) : tHas n w i j = (tPair n i j && decide (0 < T.1 (pidx n i.toNatClampNeg j.toNatClampNeg))) := by
  unfold tHas
  cases c : tPair n i j
  · rfl
  · obtain ⟨a, b, ha, hb, hab, rfl, rfl⟩ := tPair_of hn c
    rw [nI_clamp (by omega), nI_clamp (by omega)]
    congr 1
    exact decide_eq_decide.mpr (R.1.has ha hb hab)
theorem ag_hasv (hn : n ≤ 6) (h2 : 2 ≤ n) (R : rel n w fl v fv T) (i j : Int32) : tHas n v i j = (tPair n i j && decide (0 < T.2.2.1 (pidx n i.toNatClampNeg j.toNatClampNeg))) := by
  unfold tHas
  cases c : tPair n i j
  · rfl
  · obtain ⟨a, b, ha, hb, hab, rfl, rfl⟩ := tPair_of hn c
    rw [nI_clamp (by omega), nI_clamp (by omega)]
    congr 1
    exact decide_eq_decide.mpr (R.2.1.has ha hb hab)
theorem tbSet_1 {i j : Nat} {a b : Nat × Nat} : tbSet w i j a b i j = a := if_pos ⟨rfl, rfl⟩
theorem tbSet_2 {i j : Nat} {a b : Nat × Nat} (h : i ≠ j) : tbSet w i j a b j i = b := by
  unfold tbSet
  rw [if_neg (fun q => h q.2), if_pos ⟨rfl, rfl⟩]
theorem tbSet_n {i j x y : Nat} {a b : Nat × Nat} (h1 : ¬ (x = i ∧ y = j)) (h2 : ¬ (x = j ∧ y = i)) : tbSet w i j a b x y = w x y := by
  unfold tbSet
  rw [if_neg h1, if_neg h2]
/-- a saying is put in or dropped: what it comes to at other pairs -/
theorem saR_set {a b : Nat} {p q : Nat × Nat} {f g : Nat → Nat} {T' : mdT} (hn : n ≤ 6) (h2 : 2 ≤ n) (R : saR n w T) (ha : a < n) (hb : b < n) (hab : a ≠ b) (e1 : ∀ k, k ≠ pidx n a b → T'.1 k = T.1 k) (e2 : ∀ k, k ≠ pidx n a b → T'.2.1 k = T.2.1 k)
    (h : (p = (0, 1) ∧ q = (0, 1) ∧ T'.1 (pidx n a b) = 0) ∨ (0 < T'.1 (pidx n a b) ∧ dg p ∧ q = (p.2, p.1) ∧ mdS n T'.1 T'.2.1 a b = (lowT p.1 p.2, lowB p.1 p.2))) : saR n (tbSet w a b p q) T' := by
  have hps := (pidx_ok n (by omega) h2 a ha b hb hab).2.2.2.1
  intro i j hi hj hij
  by_cases c1 : i = a ∧ j = b
  · obtain ⟨rfl, rfl⟩ := c1
    rw [tbSet_1, tbSet_2 hij]
    rcases h with ⟨h1, h3, h4⟩ | ⟨h1, h3, h4, h5⟩
    · exact Or.inl ⟨h1, h4⟩
    · exact Or.inr ⟨h1, h3, h4, h5⟩
  · by_cases c2 : i = b ∧ j = a
    · obtain ⟨rfl, rfl⟩ := c2
      rw [tbSet_1, tbSet_2 hab, ← hps]
      rcases h with ⟨h1, h3, h4⟩ | ⟨h1, h3, h4, h5⟩
      · exact Or.inl ⟨h3, h4⟩
      · right
        refine ⟨h1, by rw [h4]; exact ⟨h3.2, h3.1⟩, by rw [h4], ?_⟩
        rw [h4]
        unfold mdS at h5 ⊢
        rw [← hps]
        have e3 : lowT p.2 p.1 = lowB p.1 p.2 := by unfold lowT lowB; rw [Nat.gcd_comm]
        have e4 : lowB p.2 p.1 = lowT p.1 p.2 := by unfold lowT lowB; rw [Nat.gcd_comm]
        by_cases c : j < i
        · rw [if_pos c] at h5
          rw [if_neg (by omega)]
          have a1 := congrArg Prod.fst h5
          have a2 := congrArg Prod.snd h5
          dsimp only at a1 a2 ⊢
          rw [a1, a2, e3, e4]
        · rw [if_neg c] at h5
          rw [if_pos (by omega)]
          have a1 := congrArg Prod.fst h5
          have a2 := congrArg Prod.snd h5
          dsimp only at a1 a2 ⊢
          rw [a1, a2, e3, e4]
    · have hne : pidx n i j ≠ pidx n a b := fun z => (pidx_inj hn h2 hi hj hij ha hb hab z).elim c1 c2
      rw [tbSet_n c1 c2, tbSet_n (fun z => c2 ⟨z.2, z.1⟩) (fun z => c1 ⟨z.2, z.1⟩)]
      have e5 : mdS n T'.1 T'.2.1 i j = mdS n T.1 T.2.1 i j := by unfold mdS; rw [e1 _ hne, e2 _ hne]
      rw [e1 _ hne, e5]
      exact R i j hi hj hij
theorem spR_set {a b : Nat} {p q : Nat × Nat} {T' : mdT} (hn : n ≤ 6) (h2 : 2 ≤ n) (R : spR n v T) (ha : a < n) (hb : b < n) (hab : a ≠ b) (e1 : ∀ k, k ≠ pidx n a b → T'.2.2.1 k = T.2.2.1 k ∧ T'.2.2.2.1 k = T.2.2.2.1 k ∧ T'.2.2.2.2.1 k = T.2.2.2.2.1 k ∧ T'.2.2.2.2.2 k = T.2.2.2.2.2 k)
    (h : (p = (0, 1) ∧ q = (0, 1) ∧ T'.2.2.1 (pidx n a b) = 0) ∨ (0 < T'.2.2.1 (pidx n a b) ∧ dg p ∧ dg q ∧ p = mdL n T' a b ∧ q = mdL n T' b a ∧ p.1 * q.1 ≤ p.2 * q.2)) : spR n (tbSet v a b p q) T' := by
  have hps := (pidx_ok n (by omega) h2 a ha b hb hab).2.2.2.1
  intro i j hi hj hij
  by_cases c1 : i = a ∧ j = b
  · obtain ⟨rfl, rfl⟩ := c1
    rw [tbSet_1, tbSet_2 hij]
    rcases h with ⟨h1, h3, h4⟩ | ⟨h1, h3, h4, h5, h6, h7⟩
    · exact Or.inl ⟨h1, h4⟩
    · exact Or.inr ⟨h1, h3, h5, h7⟩
  · by_cases c2 : i = b ∧ j = a
    · obtain ⟨rfl, rfl⟩ := c2
      rw [tbSet_1, tbSet_2 hab, ← hps]
      rcases h with ⟨h1, h3, h4⟩ | ⟨h1, h3, h4, h5, h6, h7⟩
      · exact Or.inl ⟨h3, h4⟩
      · exact Or.inr ⟨h1, h4, h6, by rw [Nat.mul_comm, Nat.mul_comm q.2]; exact h7⟩
    · have hne : pidx n i j ≠ pidx n a b := fun z => (pidx_inj hn h2 hi hj hij ha hb hab z).elim c1 c2
      rw [tbSet_n c1 c2, tbSet_n (fun z => c2 ⟨z.2, z.1⟩) (fun z => c1 ⟨z.2, z.1⟩)]
      obtain ⟨g1, g2, g3, g4⟩ := e1 _ hne
      have e5 : mdL n T' i j = mdL n T i j := by unfold mdL; rw [g1, g2, g3, g4]
      rw [g1, e5]
      exact R i j hi hj hij
theorem dg_low {p q : Nat} (h : dg (p, q)) : (1 ≤ lowT p q ∧ lowT p q ≤ 9) ∧ 1 ≤ lowB p q ∧ lowB p q ≤ 9 := by
  obtain ⟨⟨h1, h2⟩, h3, h4⟩ := h
  dsimp only at h1 h2 h3 h4
  have g1 : 0 < Nat.gcd p q := Nat.gcd_pos_of_pos_left q h1
  have g2 := Nat.gcd_le_left q h1
  have g3 := Nat.gcd_le_right p h3
  exact ⟨⟨Nat.div_pos g2 g1, Nat.le_trans (Nat.div_le_self _ _) h2⟩, Nat.div_pos g3 g1, Nat.le_trans (Nat.div_le_self _ _) h4⟩
theorem ag_say (hn : n ≤ 6) (h2 : 2 ≤ n) (R : rel n w fl v fv T) (i j p q : Int32) : rel n (sayW n w i j p q) (sayN n w fl i j p q) v fv (mSayT n T i j p q) := by
  unfold sayW sayN mSayT
  cases c : sayC n i j p q
  · rw [if_neg (by decide), if_neg (fun z => absurd z.1 (by decide)), if_neg (by decide)]
    exact R
  · have c0 := c
    unfold sayC at c0
    simp only [Bool.and_eq_true] at c0
    obtain ⟨a, b, ha, hb, hab, rfl, rfl⟩ := tPair_of hn c0.1
    obtain ⟨p0, p1, p9, rfl⟩ := dig_of c0.2.1
    obtain ⟨q0, q1, q9, rfl⟩ := dig_of c0.2.2
    obtain ⟨r1, r2, r3, r4, r5, r6⟩ := R
    have hp := pidx_ok n (by omega) h2 a ha b hb hab
    have hdg : dg (p0, q0) := ⟨⟨p1, p9⟩, q1, q9⟩
    have hlow := dg_low hdg
    rw [if_pos rfl, if_pos rfl, nI_clamp (by omega), nI_clamp (by omega), nI_clamp (by omega), nI_clamp (by omega)]
    have et : ∀ x, (mSay n T a b p0 q0).1 x = updN T.1 (pidx n a b) ((if a < b then p0 else q0) / Nat.gcd p0 q0) x := fun _ => rfl
    have eb : ∀ x, (mSay n T a b p0 q0).2.1 x = updN T.2.1 (pidx n a b) ((if a < b then q0 else p0) / Nat.gcd p0 q0) x := fun _ => rfl
    have v1 : (1 ≤ (if a < b then p0 else q0) / Nat.gcd p0 q0 ∧ (if a < b then p0 else q0) / Nat.gcd p0 q0 ≤ 9) ∧ 1 ≤ (if a < b then q0 else p0) / Nat.gcd p0 q0 ∧ (if a < b then q0 else p0) / Nat.gcd p0 q0 ≤ 9 := by
      by_cases cl : a < b
      · rw [if_pos cl, if_pos cl]; exact hlow
      · rw [if_neg cl, if_neg cl]; exact ⟨hlow.2, hlow.1⟩
    refine ⟨saR_set (f := T.1) (g := T.1) hn h2 r1 ha hb hab (fun k hk => by rw [et, updN_ne hk]) (fun k hk => by rw [eb, updN_ne hk]) (Or.inr ⟨by rw [et, updN_at]; exact v1.1.1, hdg, rfl, ?_⟩), r2, fun x hx => ⟨?_, (r3 x hx).2⟩, ?_, r5, fun k => ?_⟩
    · unfold mdS
      rw [et, eb, updN_at, updN_at]
      by_cases cl : a < b
      · rw [if_pos cl, if_pos cl, if_pos cl]; rfl
      · rw [if_neg cl, if_neg cl, if_neg cl]; rfl
    · rw [tbSet_n (fun z => hab (z.1.symm.trans z.2)) (fun z => hab (z.2.symm.trans z.1))]
      exact (r3 x hx).1
    · have hc := cntP_upd (f := T.1) (k := pidx n a b) (x := (if a < b then p0 else q0) / Nat.gcd p0 q0) (n * (n - 1) / 2) hp.1
      rw [if_pos (show 0 < (if a < b then p0 else q0) / Nat.gcd p0 q0 from v1.1.1)] at hc
      show _ = cntP (updN T.1 (pidx n a b) ((if a < b then p0 else q0) / Nat.gcd p0 q0)) (n * (n - 1) / 2)
      have hh := r1.has ha hb hab
      by_cases cw : w a b = (0, 1)
      · rw [if_pos ⟨rfl, cw⟩]
        rw [if_neg (fun z => (hh.mpr z) cw)] at hc
        omega
      · rw [if_neg (fun z => cw z.2)]
        rw [if_pos (hh.mp cw)] at hc
        omega
    · by_cases ck : k = pidx n a b
      · subst ck
        refine ⟨Or.inr ⟨?_, ?_⟩, ?_, ?_, (r6 _).2.2.2⟩
        · rw [et, updN_at]; exact v1.1.1
        · rw [eb, updN_at]; exact v1.2.1
        · rw [et, updN_at]; exact v1.1.2
        · rw [eb, updN_at]; exact v1.2.2
      · rw [et, eb, updN_ne ck, updN_ne ck]
        exact r6 k
theorem ag_unsay (hn : n ≤ 6) (h2 : 2 ≤ n) (R : rel n w fl v fv T) (i j : Int32) : rel n (dropW n w i j) (dropN n w fl i j) v fv (if (tPair n i j && decide (0 < T.1 (pidx n i.toNatClampNeg j.toNatClampNeg))) = true then (updN T.1 (pidx n i.toNatClampNeg j.toNatClampNeg) 0, T.2) else T) := by
  rw [← ag_has hn h2 R i j]
  unfold dropW dropN
  cases c : tHas n w i j
  · rw [if_neg (by decide), if_neg (by decide), if_neg (by decide)]; exact R
  · rw [if_pos rfl, if_pos rfl, if_pos rfl]
    obtain ⟨a, b, ha, hb, hab, rfl, rfl, hw⟩ := tHas_of hn c
    obtain ⟨r1, r2, r3, r4, r5, r6⟩ := R
    have hp := pidx_ok n (by omega) h2 a ha b hb hab
    rw [nI_clamp (by omega), nI_clamp (by omega)]
    have hh := (r1.has ha hb hab).mp hw
    refine ⟨saR_set (f := T.1) (g := T.1) hn h2 r1 ha hb hab (fun k hk => updN_ne hk) (fun k hk => rfl) (Or.inl ⟨rfl, rfl, updN_at _ _ _⟩), r2, fun x hx => ⟨?_, (r3 x hx).2⟩, ?_, r5, fun k => ?_⟩
    · rw [tbSet_n (fun z => hab (z.1.symm.trans z.2)) (fun z => hab (z.2.symm.trans z.1))]
      exact (r3 x hx).1
    · have hc := cntP_upd (f := T.1) (k := pidx n a b) (x := 0) (n * (n - 1) / 2) hp.1
      rw [if_pos hh, if_neg (by omega)] at hc
      show fl - 1 = cntP (updN T.1 (pidx n a b) 0) (n * (n - 1) / 2)
      omega
    · by_cases ck : k = pidx n a b
      · subst ck
        exact ⟨Or.inl (updN_at _ _ _), by show updN T.1 _ 0 _ ≤ 9; rw [updN_at]; omega, (r6 _).2.2⟩
      · have e : ∀ x, ((updN T.1 (pidx n a b) 0, T.2) : mdT).1 x = updN T.1 (pidx n a b) 0 x := fun _ => rfl
        rw [e, updN_ne ck]
        exact r6 k
theorem ag_span (hn : n ≤ 6) (h2 : 2 ≤ n) (R : rel n w fl v fv T) (i j e : Int32) : rel n w fl (spW n v i j e) (spN n v fv i j e) (mSpanT n T i j e) := by
  unfold spW spN mSpanT
  cases c : spOk n i j e
  · rw [if_neg (by decide), if_neg (fun z => absurd z.1 (by decide)), if_neg (by decide)]
    exact R
  · have c0 := c
    unfold spOk spC at c0
    simp only [Bool.and_eq_true, decide_eq_true_eq] at c0
    obtain ⟨⟨t1, d1, d2, d3, d4⟩, d5⟩ := c0
    obtain ⟨a, b, ha, hb, hab, rfl, rfl⟩ := tPair_of hn t1
    have dd : ∀ x : Int32, dig x = true → 1 ≤ x.toNatClampNeg ∧ x.toNatClampNeg ≤ 9 := by
      intro x hx
      obtain ⟨k, k1, k9, rfl⟩ := dig_of hx
      rw [nI_clamp (by omega)]
      exact ⟨k1, k9⟩
    have vA : 1 ≤ spA e ∧ spA e ≤ 9 := dd _ d1
    have vB : 1 ≤ spB e ∧ spB e ≤ 9 := dd _ d2
    have vP : 1 ≤ spP e ∧ spP e ≤ 9 := dd _ d3
    have vQ : 1 ≤ spQ e ∧ spQ e ≤ 9 := dd _ d4
    obtain ⟨r1, r2, r3, r4, r5, r6⟩ := R
    have hp := pidx_ok n (by omega) h2 a ha b hb hab
    rw [if_pos rfl, if_pos rfl, nI_clamp (by omega), nI_clamp (by omega)]
    have l1 : (mSpan n T a b (spA e) (spB e) (spP e) (spQ e)).2.2.1 (pidx n a b) = (if a < b then spA e else spQ e) := updN_at _ _ _
    have l2 : (mSpan n T a b (spA e) (spB e) (spP e) (spQ e)).2.2.2.1 (pidx n a b) = (if a < b then spB e else spP e) := updN_at _ _ _
    have l3 : (mSpan n T a b (spA e) (spB e) (spP e) (spQ e)).2.2.2.2.1 (pidx n a b) = (if a < b then spP e else spB e) := updN_at _ _ _
    have l4 : (mSpan n T a b (spA e) (spB e) (spP e) (spQ e)).2.2.2.2.2 (pidx n a b) = (if a < b then spQ e else spA e) := updN_at _ _ _
    have v1 : 1 ≤ (if a < b then spA e else spQ e) ∧ (if a < b then spA e else spQ e) ≤ 9 := by split <;> assumption
    have v2 : 1 ≤ (if a < b then spB e else spP e) ∧ (if a < b then spB e else spP e) ≤ 9 := by split <;> assumption
    have v3 : 1 ≤ (if a < b then spP e else spB e) ∧ (if a < b then spP e else spB e) ≤ 9 := by split <;> assumption
    have v4 : 1 ≤ (if a < b then spQ e else spA e) ∧ (if a < b then spQ e else spA e) ≤ 9 := by split <;> assumption
    refine ⟨r1, spR_set hn h2 r2 ha hb hab (fun k hk => ⟨updN_ne hk, updN_ne hk, updN_ne hk, updN_ne hk⟩) (Or.inr ⟨by rw [l1]; exact v1.1, ⟨vA, vB⟩, ⟨vQ, vP⟩, ?_, ?_, ?_⟩), fun x hx => ⟨(r3 x hx).1, ?_⟩, r4, ?_, fun k => ?_⟩
    · unfold mdL
      rw [l1, l2, l3, l4]
      by_cases cl : a < b
      · simp only [if_pos cl]
      · simp only [if_neg cl]
    · unfold mdL
      rw [← hp.2.2.2.1, l1, l2, l3, l4]
      by_cases cl : a < b
      · simp only [if_pos cl]
        rw [if_neg (by omega)]
      · simp only [if_neg cl]
        rw [if_pos (by omega)]
    · show spA e * spQ e ≤ spB e * spP e
      rw [Nat.mul_comm (spB e)]
      omega
    · rw [tbSet_n (fun z => hab (z.1.symm.trans z.2)) (fun z => hab (z.2.symm.trans z.1))]
      exact (r3 x hx).2
    · have hc := cntP_upd (f := T.2.2.1) (k := pidx n a b) (x := if a < b then spA e else spQ e) (n * (n - 1) / 2) hp.1
      rw [if_pos (show 0 < (if a < b then spA e else spQ e) from v1.1)] at hc
      show _ = cntP (updN T.2.2.1 (pidx n a b) (if a < b then spA e else spQ e)) (n * (n - 1) / 2)
      have hh := r2.has ha hb hab
      by_cases cw : v a b = (0, 1)
      · rw [if_pos ⟨rfl, cw⟩]
        rw [if_neg (fun z => (hh.mpr z) cw)] at hc
        omega
      · rw [if_neg (fun z => cw z.2)]
        rw [if_pos (hh.mp cw)] at hc
        omega
    · by_cases ck : k = pidx n a b
      · subst ck
        exact ⟨(r6 _).1, (r6 _).2.1, (r6 _).2.2.1, Or.inr ⟨by rw [l1]; exact v1.1, by rw [l2]; exact v2.1, by rw [l3]; exact v3.1, by rw [l4]; exact v4.1⟩, by rw [l1]; exact v1.2, by rw [l2]; exact v2.2, by rw [l3]; exact v3.2, by rw [l4]; exact v4.2⟩
      · have m1 : (mSpan n T a b (spA e) (spB e) (spP e) (spQ e)).2.2.1 k = T.2.2.1 k := updN_ne ck
        have m2 : (mSpan n T a b (spA e) (spB e) (spP e) (spQ e)).2.2.2.1 k = T.2.2.2.1 k := updN_ne ck
        have m3 : (mSpan n T a b (spA e) (spB e) (spP e) (spQ e)).2.2.2.2.1 k = T.2.2.2.2.1 k := updN_ne ck
        have m4 : (mSpan n T a b (spA e) (spB e) (spP e) (spQ e)).2.2.2.2.2 k = T.2.2.2.2.2 k := updN_ne ck
        rw [m1, m2, m3, m4]
        exact r6 k
theorem ag_unspan (hn : n ≤ 6) (h2 : 2 ≤ n) (R : rel n w fl v fv T) (i j : Int32) : rel n w fl (dropW n v i j) (dropN n v fv i j) (if (tPair n i j && decide (0 < T.2.2.1 (pidx n i.toNatClampNeg j.toNatClampNeg))) = true then (T.1, T.2.1, updN T.2.2.1 (pidx n i.toNatClampNeg j.toNatClampNeg) 0, T.2.2.2) else T) := by
  rw [← ag_hasv hn h2 R i j]
  unfold dropW dropN
  cases c : tHas n v i j
  · rw [if_neg (by decide), if_neg (by decide), if_neg (by decide)]; exact R
  · rw [if_pos rfl, if_pos rfl, if_pos rfl]
    obtain ⟨a, b, ha, hb, hab, rfl, rfl, hw⟩ := tHas_of hn c
    obtain ⟨r1, r2, r3, r4, r5, r6⟩ := R
    have hp := pidx_ok n (by omega) h2 a ha b hb hab
    rw [nI_clamp (by omega), nI_clamp (by omega)]
    have hh := (r2.has ha hb hab).mp hw
    refine ⟨r1, spR_set hn h2 r2 ha hb hab (fun k hk => ⟨updN_ne hk, rfl, rfl, rfl⟩) (Or.inl ⟨rfl, rfl, updN_at _ _ _⟩), fun x hx => ⟨(r3 x hx).1, ?_⟩, r4, ?_, fun k => ?_⟩
    · rw [tbSet_n (fun z => hab (z.1.symm.trans z.2)) (fun z => hab (z.2.symm.trans z.1))]
      exact (r3 x hx).2
    · have hc := cntP_upd (f := T.2.2.1) (k := pidx n a b) (x := 0) (n * (n - 1) / 2) hp.1
      rw [if_pos hh, if_neg (by omega)] at hc
      show fv - 1 = cntP (updN T.2.2.1 (pidx n a b) 0) (n * (n - 1) / 2)
      omega
    · by_cases ck : k = pidx n a b
      · subst ck
        exact ⟨(r6 _).1, (r6 _).2.1, (r6 _).2.2.1, Or.inl (updN_at _ _ _), by show updN T.2.2.1 _ 0 _ ≤ 9; rw [updN_at]; omega, (r6 _).2.2.2.2.2⟩
      · have m1 : ((T.1, T.2.1, updN T.2.2.1 (pidx n a b) 0, T.2.2.2) : mdT).2.2.1 k = T.2.2.1 k := updN_ne ck
        rw [m1]
        exact r6 k
theorem ag_said (hn : n ≤ 6) (h2 : 2 ≤ n) (R : rel n w fl v fv T) (i j q : Int32) : saidV n w i j q = mSaid n T i j q := by
  have e := ag_has hn h2 R i j
  unfold saidV mSaid
  rw [← e]
  cases c : tHas n w i j
  · rw [Bool.and_false, if_neg (by decide), if_neg (by decide)]
  · rw [Bool.and_true, if_pos (show true = true from rfl)]
    obtain ⟨a, b, ha, hb, hab, rfl, rfl, hw⟩ := tHas_of hn c
    rw [nI_clamp (by omega), nI_clamp (by omega)]
    rcases R.1 a b ha hb hab with ⟨h1, -⟩ | ⟨-, -, -, h4⟩
    · exact absurd h1 hw
    · rw [h4]
      unfold isPt
      by_cases q0 : q = 0
      · subst q0
        rw [if_pos (by decide), if_pos rfl, if_pos rfl]
      · by_cases q1 : q = 1
        · subst q1
          rw [if_pos (by decide), if_neg (by decide), if_neg (by decide), if_pos rfl]
        · rw [if_neg (by simp [q0, q1]), if_neg q0, if_neg q1]
theorem ag_count (hn : n ≤ 6) (h2 : 2 ≤ n) (R : rel n w fl v fv T) (q : Int32) : (if q = 0 then nI n else if q = 1 then nI fl else if q = 2 then nI fv else -1) = mCnt n T q := by
  unfold mCnt
  rw [R.2.2.2.1, R.2.2.2.2.1]
end AGA
