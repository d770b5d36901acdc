/-! Trees: Bareiss' steps over numbers without a sign; sums over subsets; joined heaps. Own text. -/
/-- the pivot's row below the diagonal, times a row -/
def elN (pv bf n : Nat) : List Nat → List Nat → List Nat
  | x :: ns, m :: ms => (m * pv + n * x) / bf :: elN pv bf n ns ms
  | _, _ => []
def elR (pv bf : Nat) : List Nat → List (List Nat) → List (List Nat)
  | n :: ns, (d :: ms) :: rows => ((d * pv - n * n) / bf :: elN pv bf n ns ms) :: elR pv bf ns rows
  | _, _ => []
def okN (pv n : Nat) : List Nat → List Nat → Bool
  | x :: ns, m :: ms => and (Nat.ble (m * pv + n * x) 1000000000) (okN pv n ns ms)
  | [], [] => true
  | _, _ => false
def okR (pv : Nat) : List Nat → List (List Nat) → Bool
  | n :: ns, (d :: ms) :: rows => and (Nat.ble (n * n) (d * pv)) (and (Nat.ble (d * pv) 1000000000) (and (okN pv n ns ms) (okR pv ns rows)))
  | [], [] => true
  | _, _ => false
/-- the last pivot is v, and nothing grows too large -/
def bzC : Nat → Nat → List (List Nat) → Nat → Bool
  | 0, _, (d :: _) :: _, v => Nat.beq d v
  | r + 1, bf, (pv :: ns) :: rows, v => cond (Nat.beq pv 0) (Nat.beq v 0) (and (Nat.ble pv 1000000000) (and (okR pv ns rows) (bzC r pv (elR pv bf ns rows) v)))
  | _, _, _, _ => false
theorem nI_neg {A : Nat} (h : A ≤ 1000000000) : (-(nI A)).toInt = -(A : Int) := by
  have h1 := pk_sub_toInt (a := 0) (b := A) (by decide) (by omega)
  have h2 : nI 0 - nI A = -(nI A) := Int32.zero_sub _
  rw [h2] at h1
  rw [h1]
  omega
theorem neg_div {A b : Nat} (hA : A ≤ 1000000000) (hb : 1 ≤ b) (hb2 : b ≤ 1000000000) : (-(nI A)) / nI b = -(nI (A / b)) := by
  have hle : A / b ≤ 1000000000 := Nat.le_trans (Nat.div_le_self _ _) hA
  apply Int32.toInt_inj.mp
  have hne : nI b ≠ -1 := fun z => by
    have h1 : (0 : Int32) ≤ nI b := nI_pos' (by omega)
    rw [z] at h1
    exact absurd h1 (by decide)
  rw [Int32.toInt_div_of_ne_right _ _ hne, nI_neg hA, nI_neg hle, nI_toInt (by omega), Int.neg_tdiv, Int.ofNat_tdiv]
theorem neg_mm (a b : Nat) : (-(nI a)) * (-(nI b)) = nI (a * b) := by
  rw [Int32.neg_mul, Int32.mul_neg, Int32.neg_neg, pk_mul]
theorem el_d {d pv n bf : Nat} (h1 : n * n ≤ d * pv) (h2 : d * pv ≤ 1000000000) (hb : 1 ≤ bf) (hb2 : bf ≤ 1000000000) : (nI d * nI pv - (-(nI n)) * (-(nI n))) / nI bf = nI ((d * pv - n * n) / bf) := by
  rw [neg_mm, pk_mul, pk_sub h1, pk_div (by omega) hb (by omega)]
theorem el_n {m pv n x bf : Nat} (h2 : m * pv + n * x ≤ 1000000000) (hb : 1 ≤ bf) (hb2 : bf ≤ 1000000000) : (-(nI m) * nI pv - (-(nI n)) * (-(nI x))) / nI bf = -(nI ((m * pv + n * x) / bf)) := by
  rw [neg_mm, Int32.neg_mul, pk_mul, ← neg_div h2 hb hb2, ← nI_add]
  congr 1
  rw [← Int32.toBitVec_inj]
  simp only [Int32.toBitVec_sub, Int32.toBitVec_neg, Int32.toBitVec_add]
  generalize (nI (m * pv)).toBitVec = a
  generalize (nI (n * x)).toBitVec = b
  bv_omega
/-- a row beyond the diagonal, from place b on -/
def rowR (M : mtM) (a : Nat) : Nat → List Nat → Prop
  | _, [] => True
  | b, x :: ns => M a b = -(nI x) ∧ M b a = -(nI x) ∧ rowR M a (b + 1) ns
/-- the matrix from place a on is what the rows say -/
def Rp (M : mtM) : Nat → List (List Nat) → Prop
  | _, [] => True
  | a, row :: rows => (∃ d ns, row = d :: ns ∧ M a a = nI d ∧ rowR M a (a + 1) ns ∧ ns.length = rows.length) ∧ Rp M (a + 1) rows
theorem row_el {M : mtM} {st a n pv bf : Nat} (hst : st < a) (ha : M a st = -(nI n)) (ha2 : M st a = -(nI n)) (hb : 1 ≤ bf) (hb2 : bf ≤ 1000000000) : ∀ (ns ms : List Nat) (b : Nat), st < b → rowR M st b ns → rowR M a b ms → okN pv n ns ms = true → rowR (elimM M st (nI pv) (nI bf)) a b (elN pv bf n ns ms) ∧ (elN pv bf n ns ms).length = ms.length
  | [], [], b, _, _, _, _ => ⟨trivial, rfl⟩
  | x :: ns, m :: ms, b, hstb, h1, h2, h3 => by
    unfold okN at h3
    simp only [Bool.and_eq_true] at h3
    have hle := Nat.le_of_ble_eq_true h3.1
    have ih := row_el hst ha ha2 hb hb2 ns ms (b + 1) (by omega) h1.2.2 h2.2.2 h3.2
    refine ⟨⟨?_, ?_, ih.1⟩, by rw [elN, List.length_cons, List.length_cons, ih.2]⟩
    · unfold elimM elV
      rw [if_pos ⟨hst, hstb⟩, h2.1, ha, h1.1]
      exact el_n hle hb hb2
    · unfold elimM elV
      rw [if_pos ⟨hstb, hst⟩, h2.2.1, ha2, h1.2.1]
      have : n * x = x * n := Nat.mul_comm _ _
      rw [this] at hle ⊢
      exact el_n hle hb hb2
  | [], m :: ms, b, _, _, _, h => by simp [okN] at h
  | x :: ns, [], b, _, _, _, h => by simp [okN] at h
theorem Rp_el {M : mtM} {st pv bf : Nat} (hb : 1 ≤ bf) (hb2 : bf ≤ 1000000000) : ∀ (ns : List Nat) (rows : List (List Nat)) (a : Nat), st < a → rowR M st a ns → Rp M a rows → okR pv ns rows = true → Rp (elimM M st (nI pv) (nI bf)) a (elR pv bf ns rows) ∧ (elR pv bf ns rows).length = rows.length
  | [], [], _, _, _, _, _ => ⟨trivial, rfl⟩
  | n :: ns, [] :: rows, a, _, _, h, _ => by
    obtain ⟨d, ms, e, -⟩ := h.1
    cases e
  | n :: ns, (d :: ms) :: rows, a, hst, h1, h2, h3 => by
    unfold okR at h3
    simp only [Bool.and_eq_true] at h3
    have k1 := Nat.le_of_ble_eq_true h3.1
    have k2 := Nat.le_of_ble_eq_true h3.2.1
    obtain ⟨d', ms', e, g1, g2, g3⟩ := h2.1
    cases e
    have ih := Rp_el hb hb2 ns rows (a + 1) (by omega) h1.2.2 h2.2 h3.2.2.2
    have hr := row_el (pv := pv) hst h1.2.1 h1.1 hb hb2 ns ms (a + 1) (by omega) h1.2.2 g2 h3.2.2.1
    refine ⟨⟨⟨_, _, rfl, ?_, hr.1, by rw [hr.2, ih.2, g3]⟩, ih.1⟩, by rw [elR, List.length_cons, List.length_cons, ih.2]⟩
    unfold elimM elV
    rw [if_pos ⟨hst, hst⟩, g1, h1.2.1, h1.1]
    exact el_d k1 k2 hb hb2
  | [], row :: rows, _, _, _, _, h => by
    unfold okR at h
    exact absurd h (by decide)
  | n :: ns, [], _, _, _, _, h => by simp [okR] at h
theorem bz_spec {s v : Nat} : ∀ (r st bf : Nat) (M : mtM) (rows : List (List Nat)), st + r + 1 = s → rows.length = r + 1 → 1 ≤ bf → bf ≤ 1000000000 → Rp M st rows → bzC r bf rows v = true → ofM s r st (nI bf) M = nI v
  | 0, st, bf, M, rows, hs, hl, _, _, h, hc => by
    match rows, hl, h, hc with
    | [] :: _, _, h, _ =>
      obtain ⟨d, ms, e, -⟩ := h.1
      cases e
    | (d :: ms) :: _, _, h, hc =>
      obtain ⟨d', ms', e, g1, -⟩ := h.1
      cases e
      have e2 : d = v := Nat.eq_of_beq_eq_true hc
      rw [ofM, show s - 1 = st by omega, g1, e2]
  | r + 1, st, bf, M, rows, hs, hl, hb, hb2, h, hc => by
    match rows, hl, h, hc with
    | [] :: _, _, h, _ =>
      obtain ⟨d, ms, e, -⟩ := h.1
      cases e
    | (pv :: ns) :: rows, hl, h, hc =>
      obtain ⟨d', ms', e, g1, g2, g3⟩ := h.1
      cases e
      rw [ofM, g1]
      unfold bzC at hc
      cases c : Nat.beq pv 0
      · rw [c] at hc
        simp only [cond, Bool.and_eq_true] at hc
        have k1 := Nat.le_of_ble_eq_true hc.1
        have hne : pv ≠ 0 := fun z => by
          rw [z] at c
          exact absurd c (by decide)
        have hne2 : ¬ nI pv = 0 := fun z => hne ((nI_eq (b := 0) (by omega) (by decide)).mp z)
        rw [if_neg hne2]
        have hR := Rp_el hb hb2 ns rows (st + 1) (by omega) g2 h.2 hc.2.1
        refine bz_spec r (st + 1) pv _ _ (by omega) ?_ (by omega) k1 hR.1 hc.2.2
        rw [hR.2]
        rw [List.length_cons] at hl
        omega
      · rw [c] at hc
        have e1 : pv = 0 := Nat.eq_of_beq_eq_true c
        have e2 : v = 0 := Nat.eq_of_beq_eq_true hc
        rw [e1, if_pos (show nI 0 = 0 from rfl), e2]
        rfl
/-- the bit of pair a, b -/
def ab (n al a b : Nat) : Nat := al / 2 ^ pidx n a b % 2
def dgr (n al a : Nat) : Nat → Nat
  | 0 => 0
  | j + 1 => dgr n al a j + (cond (Nat.beq a j) 0 (ab n al a j))
def mkN (n al a : Nat) : Nat → Nat → List Nat
  | _, 0 => []
  | b, t + 1 => ab n al a b :: mkN n al a (b + 1) t
def mkRows (n al : Nat) : Nat → Nat → List (List Nat)
  | _, 0 => []
  | a, t + 1 => (dgr n al a n :: mkN n al a (a + 1) t) :: mkRows n al (a + 1) t
/-- trees of the mask are v -/
def bar (n al v : Nat) : Bool := bzC (n - 1 - 1) 1 (mkRows n al 0 (n - 1)) v
/-- sums over subsets -/
def SS : Nat → Nat → (Nat → Nat) → Nat
  | 0, _, g => g 0
  | k + 1, m, g => SS k m g + (if m.testBit k = true then SS k m (fun p => g (p + 2 ^ k)) else 0)
def BB : Nat := 65536
/-- f over all numbers that have m as their first k bits, packed into one number -/
def Qp (f : Nat → Nat) : Nat → Nat → Nat → Nat
  | 0, _, m => f m
  | r + 1, k, m => Qp f r (k + 1) m + BB ^ 2 ^ r * Qp f r (k + 1) (m + 2 ^ k)
def chT (t : Nat → Nat → Bool) : Nat → Nat → Nat → Nat → Bool
  | 0, _, m, F => t m F
  | r + 1, k, m, F => and (chT t r (k + 1) m (F % BB ^ 2 ^ r)) (chT t r (k + 1) (m + 2 ^ k) (F % BB ^ 2 ^ r + F / BB ^ 2 ^ r))
theorem SS_lin {c : Nat} : ∀ (k m : Nat) (A B : Nat → Nat), SS k m (fun p => A p + c * B p) = SS k m A + c * SS k m B
  | 0, _, _, _ => rfl
  | k + 1, m, A, B => by
    rw [SS, SS, SS, SS_lin k m A B]
    by_cases h : m.testBit k = true
    · rw [if_pos h, if_pos h, if_pos h, SS_lin k m (fun p => A (p + 2 ^ k)) (fun p => B (p + 2 ^ k)), Nat.mul_add]
      omega
    · rw [if_neg h, if_neg h, if_neg h, Nat.add_zero, Nat.add_zero, Nat.add_zero]
theorem SS_bd {X : Nat} : ∀ (k c m : Nat) (g : Nat → Nat), (∀ p, g p * (2 ^ k * c) < X) → SS k m g * c < X
  | 0, c, m, g, h => by
    have := h 0
    rw [Nat.pow_zero, Nat.one_mul] at this
    exact this
  | k + 1, c, m, g, h => by
    have e : 2 ^ (k + 1) * c = 2 ^ k * (2 * c) := by rw [Nat.pow_succ, Nat.mul_assoc]
    rw [e] at h
    have h1 := SS_bd k (2 * c) m g h
    have h2 := SS_bd k (2 * c) m (fun p => g (p + 2 ^ k)) (fun p => h _)
    rw [SS]
    generalize SS k m g = a at h1 ⊢
    generalize SS k m (fun p => g (p + 2 ^ k)) = b at h2 ⊢
    have e1 : a * (2 * c) = a * c + a * c := by rw [← Nat.mul_assoc, Nat.mul_comm a 2, Nat.mul_assoc]; omega
    have e2 : b * (2 * c) = b * c + b * c := by rw [← Nat.mul_assoc, Nat.mul_comm b 2, Nat.mul_assoc]; omega
    rw [e1] at h1
    rw [e2] at h2
    by_cases hb : m.testBit k = true
    · rw [if_pos hb, Nat.add_mul]
      omega
    · rw [if_neg hb, Nat.add_zero]
      omega
theorem Qp_bd {f : Nat → Nat} {c : Nat} (hf : ∀ m, f m * c < BB) : ∀ (r k m : Nat), Qp f r k m * c < BB ^ 2 ^ r
  | 0, k, m => by
    have := hf m
    rw [Nat.pow_zero, Nat.pow_one]
    exact this
  | r + 1, k, m => by
    have h1 := Qp_bd hf r (k + 1) m
    have h2 := Qp_bd hf r (k + 1) (m + 2 ^ k)
    rw [Qp]
    have e : BB ^ 2 ^ (r + 1) = BB ^ 2 ^ r * BB ^ 2 ^ r := by rw [Nat.pow_succ, Nat.mul_two, Nat.pow_add]
    rw [e]
    generalize BB ^ 2 ^ r = Y at h1 h2 ⊢
    generalize Qp f r (k + 1) m = a at h1 ⊢
    generalize Qp f r (k + 1) (m + 2 ^ k) = b at h2 ⊢
    rw [Nat.add_mul, Nat.mul_assoc]
    generalize b * c = d at h2 ⊢
    have h3 : Y * d + Y ≤ Y * Y := by
      have := Nat.mul_le_mul_left Y (show d + 1 ≤ Y from h2)
      rw [Nat.mul_add, Nat.mul_one] at this
      exact this
    omega
theorem SS_congr : ∀ (k m m' : Nat) (g : Nat → Nat), (∀ j, j < k → m.testBit j = m'.testBit j) → SS k m g = SS k m' g
  | 0, _, _, _, _ => rfl
  | k + 1, m, m', g, h => by
    rw [SS, SS, SS_congr k m m' g (fun j hj => h j (by omega)), SS_congr k m m' (fun p => g (p + 2 ^ k)) (fun j hj => h j (by omega)), h k (by omega)]
theorem add_bit {m k j : Nat} (h : m < 2 ^ k) : (m + 2 ^ k).testBit j = (m.testBit j || decide (k = j)) := by
  rw [← or_add h, or_bit]
/-- what the checks at the leaves come to -/
theorem chT_spec {t : Nat → Nat → Bool} {f : Nat → Nat} (hf : ∀ m, f m ≤ 1) : ∀ (r k m F : Nat), k + r ≤ 15 → m < 2 ^ k → F = SS k m (Qp f r k) → chT t r k m F = true → ∀ M, M < 2 ^ (k + r) → (∀ j, j < k → M.testBit j = m.testBit j) → t M (SS (k + r) M f) = true
  | 0, k, m, F, _, hm, hF, hc, M, hM, hj => by
    have e : M = m := Nat.eq_of_testBit_eq (fun j => by
      rcases Nat.lt_or_ge j k with q | q
      · exact hj j q
      · rw [Nat.testBit_lt_two_pow (Nat.lt_of_lt_of_le hM (Nat.pow_le_pow_right (by decide) q)), Nat.testBit_lt_two_pow (Nat.lt_of_lt_of_le hm (Nat.pow_le_pow_right (by decide) q))])
    subst e
    have e2 : F = SS (k + 0) M f := hF
    rw [← e2]
    exact hc
  | r + 1, k, m, F, hk, hm, hF, hc, M, hM, hj => by
    unfold chT at hc
    simp only [Bool.and_eq_true] at hc
    have hlin : SS k m (Qp f (r + 1) k) = SS k m (Qp f r (k + 1)) + BB ^ 2 ^ r * SS k m (fun p => Qp f r (k + 1) (p + 2 ^ k)) := SS_lin (c := BB ^ 2 ^ r) k m (Qp f r (k + 1)) (fun p => Qp f r (k + 1) (p + 2 ^ k))
    have hbd : SS k m (Qp f r (k + 1)) < BB ^ 2 ^ r := by
      have h15 : 2 ^ k ≤ 2 ^ 15 := Nat.pow_le_pow_right (by decide) (by omega)
      have hB : 2 ^ 15 < BB := by decide
      have hc : ∀ m, f m * (2 ^ k * 1) < BB := fun m => by
        have := Nat.mul_le_mul_right (2 ^ k * 1) (hf m)
        omega
      have := SS_bd k 1 m (Qp f r (k + 1)) (fun p => Qp_bd hc r (k + 1) p)
      rw [Nat.mul_one] at this
      exact this
    have hmod : F % BB ^ 2 ^ r = SS k m (Qp f r (k + 1)) := by
      rw [hF, hlin, Nat.add_mul_mod_self_left, Nat.mod_eq_of_lt hbd]
    have hpos : 0 < BB ^ 2 ^ r := Nat.pow_pos (by decide)
    have hdiv : F / BB ^ 2 ^ r = SS k m (fun p => Qp f r (k + 1) (p + 2 ^ k)) := by
      rw [hF, hlin, Nat.add_mul_div_left _ _ hpos, Nat.div_eq_of_lt hbd, Nat.zero_add]
    have hk0 : m.testBit k = false := Nat.testBit_lt_two_pow hm
    have hpk : 2 ^ (k + 1) = 2 ^ k + 2 ^ k := by rw [Nat.pow_succ]; omega
    rw [show k + (r + 1) = k + 1 + r by omega] at hM ⊢
    cases cb : M.testBit k
    · refine chT_spec hf r (k + 1) m _ (by omega) (by omega) ?_ hc.1 M hM (fun j hj2 => ?_)
      · rw [hmod, SS, if_neg (by rw [hk0]; decide)]
        rfl
      · rcases Nat.lt_or_ge j k with q | q
        · exact hj j q
        · rw [show j = k by omega, cb, hk0]
    · refine chT_spec hf r (k + 1) (m + 2 ^ k) _ (by omega) (by omega) ?_ hc.2 M hM (fun j hj2 => ?_)
      · rw [hmod, hdiv, SS, if_pos (by rw [add_bit hm]; simp)]
        have hsame : ∀ j, j < k → m.testBit j = (m + 2 ^ k).testBit j := fun j hj2 => by
          rw [add_bit hm, decide_eq_false (by omega), Bool.or_false]
        rw [SS_congr k m (m + 2 ^ k) _ hsame, SS_congr k m (m + 2 ^ k) _ hsame]
      · rw [add_bit hm]
        rcases Nat.lt_or_ge j k with q | q
        · rw [hj j q, decide_eq_false (by omega), Bool.or_false]
        · rw [show j = k by omega, cb, hk0]
          simp
