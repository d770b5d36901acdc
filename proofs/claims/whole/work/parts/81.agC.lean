/-! Agreement: can, bound. Own text. -/
theorem nI_ne1 {b : Nat} (h : b < 100) : nI b ≠ -1 := fun z => by
  have h1 : (0 : Int32) ≤ nI b := nI_pos' (by omega)
  rw [z] at h1
  exact absurd h1 (by decide)
section AGC
variable {n fl fv : Nat} {w v : tbW} {T : mdT}
theorem spR.eq {i j : Nat} (R : spR n v T) (hi : i < n) (hj : j < n) (hij : i ≠ j) (h : 0 < T.2.2.1 (pidx n i j)) : v i j = mdL n T i j ∧ dg (v i j) := by
  rcases R i j hi hj hij with ⟨-, g⟩ | ⟨-, g1, g2, -⟩
  · omega
  · exact ⟨g2, g1⟩
theorem spR.edge {i j : Nat} (R : spR n v T) (hi : i < n) (hj : j < n) (hij : i ≠ j) : 0 < T.2.2.1 (pidx n i j) ↔ tH v i j = true := by
  rw [tH_iff, ← R.has hi hj hij]
  exact ⟨fun h => ⟨hij, h⟩, fun h => h.2⟩
def actW (n : Nat) (T : mdT) (v : tbW) : List Nat → wS → wS := fun l s => wyC n T (hd l) l.tail (pd v l) s
theorem wy_dfs (hn : n ≤ 6) (R : spR n v T) : ∀ (f b : Nat) (q : List Nat) (s : wS), (∀ x, x ∈ b :: q → x < n) → wyF n T (-1) f b q (pd v (b :: q)) s = dfs (tH v) n 0 (actW n T v) f (b :: q) s
  | 0, b, q, s, hx => by
    rw [wyF, if_neg (fun z => nI_ne1 (by have := hx b (by simp); omega) z.1)]
    rfl
  | f + 1, b, q, s, hx => by
    have hb := hx b (by simp)
    rw [wyF, if_neg (fun z => nI_ne1 (by omega) z.1), dfs]
    show itr _ n 0 (actW n T v (b :: q) s) = itr _ (n - 0) 0 (actW n T v (b :: q) s)
    rw [Nat.sub_zero]
    refine itr_congr _ _ _ (fun k s h1 h2 => ?_)
    have hk : k < n := by omega
    by_cases c : k ∈ b :: q
    · rw [if_neg (fun z => z.1 c), if_neg (fun z => z.1 c)]
    · have hbk : b ≠ k := fun z => c (by rw [z]; simp)
      have e := R.edge hb hk hbk
      by_cases c2 : 0 < T.2.2.1 (pidx n b k)
      · rw [if_pos ⟨c, c2⟩, if_pos ⟨c, e.mp c2⟩, ← (R.eq hb hk hbk c2).1]
        exact wy_dfs hn R f k (b :: q) s (fun x hx2 => (List.mem_cons.mp hx2).elim (fun z => z ▸ hk) (hx x))
      · rw [if_neg (fun z => c2 z.2), if_neg (fun z => c2 (e.mpr z.2))]
theorem actW_eq (R : spR n v T) {l : List Nat} {s : wS} (h : pth (tH v) n l) : actW n T v l s = @ite _ (rng (tH v) n l ∧ (rp v l).2 < (rp v l).1) (Classical.propDecidable _) (s.1, s.2.1, s.2.2.1, false) s := by
  unfold actW wyC
  have e0 : hd l :: l.tail = l := by
    cases l with
    | nil => exact absurd rfl h.1
    | cons a l => rfl
  have e1 : l.tail.length + 1 = l.length := by
    conv => rhs; rw [← e0]
    rfl
  rw [e0, e1]
  by_cases c : 2 ≤ l.length
  · have hb := h.2.1 _ (hd_in h.1)
    have ha := h.2.1 _ (lastN_in h.1)
    have hne : hd l ≠ lastN l := by
      have := nod_last (b := hd l) (q := l.tail) (by rw [e0]; exact h.2.2.1) (by omega)
      rw [e0] at this
      exact this
    have ed := R.edge hb ha hne
    by_cases c2 : 0 < T.2.2.1 (pidx n (hd l) (lastN l))
    · have hr : rng (tH v) n l := ⟨h, c, ed.mp c2⟩
      have hp : rp v l = ((pd v l).1 * (mdL n T (hd l) (lastN l)).1, (pd v l).2 * (mdL n T (hd l) (lastN l)).2) := by
        unfold rp
        rw [(R.eq hb ha hne c2).1]
        rfl
      rw [hp]
      by_cases c3 : (pd v l).2 * (mdL n T (hd l) (lastN l)).2 < (pd v l).1 * (mdL n T (hd l) (lastN l)).1
      · rw [if_pos ⟨c, c2, c3⟩, if_pos ⟨hr, c3⟩]
      · rw [if_neg (fun z => c3 z.2.2), if_neg (fun z => c3 z.2)]
    · rw [if_neg (fun z => c2 z.2.1), if_neg (fun z => c2 (ed.mpr z.1.2.2))]
  · rw [if_neg (fun z => c z.1), if_neg (fun z => c z.1.2.1)]
theorem pth_1 {E : Nat → Nat → Bool} {a : Nat} (ha : a < n) : pth E n [a] := ⟨by simp, fun x hx => by rw [List.mem_singleton.mp hx]; exact ha, by simp, trivial⟩
theorem pth_st {E : Nat → Nat → Bool} (l : List Nat) (i : Nat) (h : pth E n l) (_ : 0 ≤ i) (h1 : i < n) (h2 : ¬ i ∈ l) (h3 : E (hd l) i = true) : pth E n (i :: l) := pth_cons h h1 h2 h3
theorem can_iff (hn : n ≤ 6) (h2 : 2 ≤ n) (R : spR n v T) : mCan n T = true ↔ ∀ l, rng (tH v) n l → (rp v l).1 ≤ (rp v l).2 := by
  have e : ∀ i, i < n → ∀ c, wyG n T i (-1) c = dfs (tH v) n 0 (actW n T v) (n - 1) [i] (false, 1, 1, c) := fun i hi c => wy_dfs hn R (n - 1) i [] _ (fun x hx => by rw [List.mem_singleton.mp hx]; exact hi)
  constructor
  · intro h l hl
    rcases Nat.lt_or_ge (rp v l).2 (rp v l).1 with c | c
    · exfalso
      have hf : mCan n T = false := by
        obtain ⟨r, hr⟩ := lastN_split l hl.1.1
        have ha := hl.1.2.1 _ (lastN_in hl.1.1)
        refine itr_hit (fun _ => True) (fun c => c = false) n 0 true (lastN l) (Nat.zero_le _) (by omega) (fun _ _ _ _ _ => trivial) (fun i s g1 g2 _ g4 => ?_) (fun s _ => ?_) trivial
        · rw [e i (by omega)]
          refine dfs_inv (I := fun s : wS => s.2.2.2 = false) (pth (tH v) n) pth_st (fun l s hl hs => ?_) (n - 1) [i] _ (pth_1 (by omega)) g4
          rw [actW_eq R hl]
          split
          · rfl
          · exact hs
        · rw [e _ ha]
          refine dfs_hit (I := fun _ => True) (M := fun s : wS => s.2.2.2 = false) (t := l) (pth (tH v) n) pth_st (fun _ _ _ _ => trivial) (fun l s hl _ hs => ?_) (fun s _ => ?_) r.reverse (n - 1) [lastN l] _ ?_ (extP_of (by simp) r (by rw [← hr]; exact hl.1.2.2.1) (by rw [← hr]; exact hl.1.2.2.2) (fun x hx => ⟨Nat.zero_le _, hl.1.2.1 x (by rw [hr]; simp [hx])⟩)) (pth_1 ha) trivial (by rw [List.reverse_reverse]; exact hr)
          · rw [actW_eq R hl]
            split
            · rfl
            · exact hs
          · rw [actW_eq R hl.1, if_pos ⟨hl, c⟩]
          · have := pth_len hl.1
            rw [hr, List.length_append, List.length_singleton] at this
            rw [List.length_reverse]
            omega
      rw [hf] at h
      exact absurd h (by decide)
    · exact c
  · intro h
    refine itr_inv (fun c => c = true) n 0 true (fun i s g1 g2 g3 => ?_) rfl
    rw [e i (by omega)]
    refine dfs_inv (I := fun s : wS => s.2.2.2 = true) (pth (tH v) n) pth_st (fun l s hl hs => ?_) (n - 1) [i] _ (pth_1 (by omega)) g3
    rw [actW_eq R hl, if_neg (fun z => by have := h l z.1; omega)]
    exact hs
theorem ag_can (hn : n ≤ 6) (h2 : 2 ≤ n) (R : rel n w fl v fv T) (g : gS) : noneG (measG v n g) (n - 2) 3 = mCan n T := by
  have ho := (ag_ok hn h2 R).2.1
  rw [Bool.eq_iff_iff, none_iff hn h2 ho, can_iff hn h2 R.2.1]
  constructor
  · intro h l hl
    by_cases c : 3 ≤ l.length
    · exact h l hl c
    · rcases l with _ | ⟨a, _ | ⟨b, _ | ⟨d, l⟩⟩⟩
      · exact absurd rfl hl.1.1
      · have := hl.2.1
        simp at this
      · have ha := hl.1.2.1 a (by simp)
        have hb := hl.1.2.1 b (by simp)
        have hne : b ≠ a := (tH_iff.mp hl.1.2.2.2.1).1
        have e : rp v [a, b] = ((v b a).1 * (v a b).1, (v b a).2 * (v a b).2) := by
          show mul2 (mul2 (1, 1) (v b a)) (v a b) = _
          unfold mul2
          rw [Nat.one_mul, Nat.one_mul]
        rw [e]
        rcases R.2.1 b a hb ha hne with ⟨g1, -⟩ | ⟨-, -, -, g4⟩
        · exact absurd g1 (tH_iff.mp hl.1.2.2.2.1).2
        · exact g4
      · exact absurd (by simp) c
  · intro h l hl _
    exact h l hl
def okF (y : Nat × Nat) : Prop := y = (0, 1) ∨ (1 ≤ y.1 ∧ 1 ≤ y.2)
theorem okF.d {y : Nat × Nat} (h : okF y) : 1 ≤ y.2 := by
  rcases h with rfl | h
  · exact Nat.le_refl _
  · exact h.2
theorem maxP_ok {b y : Nat × Nat} (h1 : okF b) (h2 : okF y) : okF (maxP b y) := by
  unfold maxP
  split
  · exact h2
  · exact h1
theorem maxP_0 (b : Nat × Nat) : maxP b (0, 1) = b := by
  unfold maxP
  rw [if_neg (by dsimp only; omega)]
theorem maxP_0l {y : Nat × Nat} (h : okF y) : maxP (0, 1) y = y := by
  rcases h with rfl | h
  · rfl
  · unfold maxP
    rw [if_pos (by dsimp only; omega)]
theorem maxP_assoc {b c d : Nat × Nat} (hb : okF b) (hc : okF c) (hd : okF d) : maxP (maxP b c) d = maxP b (maxP c d) := by
  by_cases h1 : b.1 * c.2 < c.1 * b.2
  · have e1 : maxP b c = c := if_pos h1
    rw [e1]
    by_cases h3 : c.1 * d.2 < d.1 * c.2
    · have e2 : maxP c d = d := if_pos h3
      have h4 : b.1 * d.2 < d.1 * b.2 := by
        rcases Nat.lt_or_ge (b.1 * d.2) (d.1 * b.2) with q | q
        · exact q
        · have := le_cross (p := d) (q := b) (r := c) hb.d q (Nat.le_of_lt h1)
          omega
      rw [e2]
      exact (if_pos h4).symm
    · have e2 : maxP c d = c := if_neg h3
      rw [e2, e1]
  · have e1 : maxP b c = b := if_neg h1
    rw [e1]
    by_cases h3 : c.1 * d.2 < d.1 * c.2
    · have e2 : maxP c d = d := if_pos h3
      rw [e2]
    · have e2 : maxP c d = c := if_neg h3
      have h4 : ¬ b.1 * d.2 < d.1 * b.2 := by
        have := le_cross (p := d) (q := c) (r := b) hc.d (Nat.le_of_not_lt h3) (Nat.le_of_not_lt h1)
        omega
      rw [e2, e1]
      exact if_neg h4
theorem itr_max {c : Nat → Prop} [DecidablePred c] {y : Nat → Nat × Nat} : ∀ (m i : Nat) (b : Nat × Nat), (∀ k, i ≤ k → k < i + m → c k → okF (y k)) → okF b → itr (fun k b => if c k then maxP b (y k) else b) m i b = maxP b (itr (fun k b => if c k then maxP b (y k) else b) m i (0, 1)) ∧ okF (itr (fun k b => if c k then maxP b (y k) else b) m i b)
  | 0, i, b, _, hb => ⟨(maxP_0 b).symm, hb⟩
  | m + 1, i, b, hy, hb => by
    have hy2 : ∀ k, i + 1 ≤ k → k < i + 1 + m → c k → okF (y k) := fun k h1 h2 => hy k (by omega) (by omega)
    rw [itr, itr]
    by_cases ci : c i
    · rw [if_pos ci, if_pos ci]
      have oy := hy i (Nat.le_refl _) (by omega) ci
      rw [maxP_0l oy]
      have i1 := itr_max m (i + 1) (maxP b (y i)) hy2 (maxP_ok hb oy)
      have i2 := itr_max m (i + 1) (y i) hy2 oy
      have i3 := itr_max (c := c) (y := y) m (i + 1) (0, 1) hy2 (Or.inl rfl)
      refine ⟨?_, i1.2⟩
      rw [i1.1, i2.1, maxP_assoc hb oy i3.2]
    · rw [if_neg ci, if_neg ci]
      exact itr_max m (i + 1) b hy2 hb
def wyQ (s : wS) (b : Nat × Nat) : Prop := (s.1 = false ∧ b = (0, 1)) ∨ (s.1 = true ∧ fq b (s.2.1, s.2.2.1) ∧ s.2.1 = lowT b.1 b.2 ∧ s.2.2.1 = lowB b.1 b.2)
theorem wyQ_B {p b : Nat × Nat} {s : wS} (hp1 : 1 ≤ p.1) (hp2 : 1 ≤ p.2) (h : wyQ s b) : wyQ (wyB p s) (maxP b p) := by
  have new : ∀ z : Bool, wyQ (true, p.1 / Nat.gcd p.1 p.2, p.2 / Nat.gcd p.1 p.2, z) p := fun z => Or.inr ⟨rfl, fq_low hp1 hp2, rfl, rfl⟩
  unfold wyB
  rcases h with ⟨h1, h2⟩ | ⟨h1, h2, h3, h4⟩
  · rw [if_neg (fun z => by rw [h1] at z; exact absurd z.1 (by decide)), h2, maxP_0l (Or.inr ⟨hp1, hp2⟩)]
    exact new _
  · have hl := h2.lt (fq.rf hp1 hp2)
    dsimp only at hl
    unfold maxP
    by_cases c : b.1 * p.2 < p.1 * b.2
    · have := hl.mp c
      rw [if_pos c, if_neg (fun z => by have := z.2; omega)]
      exact new _
    · have : ¬ s.2.1 * p.2 < p.1 * s.2.2.1 := fun z => c (hl.mpr z)
      rw [if_neg c, if_pos ⟨h1, by omega⟩]
      exact Or.inr ⟨rfl, h2, h3, h4⟩
theorem wyQ_C {b : Nat} {q : List Nat} {p y : Nat × Nat} {s : wS} (h : wyQ s y) : wyQ (wyC n T b q p s) y := by
  unfold wyC
  split
  · exact h
  · exact h
theorem bnd_step (hn : n ≤ 6) (h2 : 2 ≤ n) (ho : tbOK n v) (R : spR n v T) {gl : Nat} (hgl : gl < n) : ∀ (f a : Nat) (q : List Nat) (m : Nat) (s : wS) (b : Nat × Nat), pth (tH v) n (a :: q) → mkL m (a :: q) → (q = [] → a ≠ gl) → wyQ s b → okF b → wyQ (wyF n T (nI gl) f a q (pd v (a :: q)) s) (maxP b (wayF v n gl f a m (pd v (a :: q)))) ∧ okF (wayF v n gl f a m (pd v (a :: q)))
  | 0, a, q, m, s, b, hp, hm, hq, hs, hb => by
    have ha := hp.2.1 a (by simp)
    have p1 := pd_1 ho _ hp.2.1 hp.2.2.2
    have p2 := pd_2 ho _ hp.2.1
    rw [wyF, wayF]
    by_cases c : a = gl
    · subst c
      have : 2 ≤ q.length + 1 := by
        cases q with
        | nil => exact absurd rfl (hq rfl)
        | cons x q => simp
      rw [if_pos ⟨rfl, this⟩, if_pos rfl]
      exact ⟨wyQ_B p1 p2 hs, Or.inr ⟨p1, p2⟩⟩
    · rw [if_neg (fun z => c ((nI_eq (by omega) (by omega)).mp z.1)), if_neg c, maxP_0]
      exact ⟨wyQ_C hs, Or.inl rfl⟩
  | f + 1, a, q, m, s, b, hp, hm, hq, hs, hb => by
    have ha := hp.2.1 a (by simp)
    have p1 := pd_1 ho _ hp.2.1 hp.2.2.2
    have p2 := pd_2 ho _ hp.2.1
    rw [wyF, wayF]
    by_cases c : a = gl
    · subst c
      have : 2 ≤ q.length + 1 := by
        cases q with
        | nil => exact absurd rfl (hq rfl)
        | cons x q => simp
      rw [if_pos ⟨rfl, this⟩, if_pos rfl]
      exact ⟨wyQ_B p1 p2 hs, Or.inr ⟨p1, p2⟩⟩
    · rw [if_neg (fun z => c ((nI_eq (by omega) (by omega)).mp z.1)), if_neg c]
      have ec : ∀ k, k < n → ((m.testBit k = false ∧ tH v a k = true) ↔ (¬ k ∈ a :: q ∧ tH v a k = true)) := fun k hk => by
        rw [← hm k (by omega)]
        simp
      have hmk : ∀ k, k < n → mkL (m ||| 2 ^ k) (k :: a :: q) := fun k hk x hx => by
        rw [Nat.testBit_or, Nat.testBit_two_pow, Bool.or_eq_true, hm x hx, decide_eq_true_eq, List.mem_cons (a := x) (b := k)]
        exact ⟨fun h => h.elim Or.inr (fun h => Or.inl h.symm), fun h => h.elim (fun h => Or.inr h.symm) Or.inl⟩
      have hok : ∀ k, 0 ≤ k → k < 0 + n → (m.testBit k = false ∧ tH v a k = true) → okF (wayF v n gl f k (m ||| 2 ^ k) (mul2 (pd v (a :: q)) (v a k))) := fun k _ hk hc => by
        have hk' : k < n := by omega
        have hc2 := (ec k hk').mp hc
        exact (bnd_step hn h2 ho R hgl f k (a :: q) (m ||| 2 ^ k) (false, 1, 1, true) (0, 1) (pth_cons hp hk' hc2.1 hc2.2) (hmk k hk') (fun z => by simp at z) (Or.inl ⟨rfl, rfl⟩) (Or.inl rfl)).2
      have hmax := itr_max (c := fun k => m.testBit k = false ∧ tH v a k = true) (y := fun k => wayF v n gl f k (m ||| 2 ^ k) (mul2 (pd v (a :: q)) (v a k))) n 0 b hok hb
      have hmax0 := itr_max (c := fun k => m.testBit k = false ∧ tH v a k = true) (y := fun k => wayF v n gl f k (m ||| 2 ^ k) (mul2 (pd v (a :: q)) (v a k))) n 0 (0, 1) hok (Or.inl rfl)
      refine ⟨?_, hmax0.2⟩
      rw [← hmax.1]
      have hrel := itr_rel (f := fun i s => if ¬ i ∈ a :: q ∧ 0 < T.2.2.1 (pidx n a i) then wyF n T (nI gl) f i (a :: q) (mul2 (pd v (a :: q)) (mdL n T a i)) s else s) (g := fun k b => if m.testBit k = false ∧ tH v a k = true then maxP b (wayF v n gl f k (m ||| 2 ^ k) (mul2 (pd v (a :: q)) (v a k))) else b) (fun s b => wyQ s b ∧ okF b) n 0 (wyC n T a q (pd v (a :: q)) s) b (fun k s b _ hk hsb => by
        have hk' : k < n := by omega
        by_cases ck : k ∈ a :: q
        · rw [if_neg (fun z => z.1 ck), if_neg (fun z => ((ec k hk').mp z).1 ck)]
          exact hsb
        · have hak : a ≠ k := fun z => ck (by rw [z]; simp)
          have e := R.edge ha hk' hak
          by_cases c2 : 0 < T.2.2.1 (pidx n a k)
          · have c3 := (ec k hk').mpr ⟨ck, e.mp c2⟩
            rw [if_pos ⟨ck, c2⟩, if_pos c3, ← (R.eq ha hk' hak c2).1]
            have ih := bnd_step hn h2 ho R hgl f k (a :: q) (m ||| 2 ^ k) s b (pth_cons hp hk' ck (e.mp c2)) (hmk k hk') (fun z => by simp at z) hsb.1 hsb.2
            exact ⟨ih.1, maxP_ok hsb.2 ih.2⟩
          · rw [if_neg (fun z => c2 z.2), if_neg (fun z => c2 (e.mpr z.2))]
            exact hsb) ⟨wyQ_C hs, hb⟩
      exact hrel.1
theorem ag_bound (hn : n ≤ 6) (h2 : 2 ≤ n) (R : rel n w fl v fv T) (g : gS) (i j q : Int32) : bndV n v (noneG (measG v n g) (n - 2) 3) i j q = mBnd n T i j q := by
  rw [ag_can hn h2 R g]
  have ho := (ag_ok hn h2 R).2.1
  unfold bndV mBnd
  cases c1 : tPair n i j
  · simp
  · cases c2 : isPt q
    · simp
    · cases c3 : mCan n T
      · simp
      · rw [if_pos (show (true && true && true) = true from rfl), if_pos (show (true && true && true) = true from rfl)]
        obtain ⟨a, b, ha, hb, hab, rfl, rfl⟩ := tPair_of hn c1
        rw [nI_clamp (by omega), nI_clamp (by omega)]
        have h := bnd_step hn h2 ho R.2.1 hb (n - 1) a [] (2 ^ a) (false, 1, 1, true) (0, 1) (pth_1 ha) (fun k hk => by
          rw [Nat.testBit_two_pow, decide_eq_true_eq, List.mem_singleton]
          exact ⟨Eq.symm, Eq.symm⟩) (fun _ => hab) (Or.inl ⟨rfl, rfl⟩) (Or.inl rfl)
        have h1 : wyQ (wyG n T a (nI b) true) (maxP (0, 1) (wayF v n b (n - 1) a (2 ^ a) (1, 1))) := h.1
        have h3 : okF (wayF v n b (n - 1) a (2 ^ a) (1, 1)) := h.2
        rw [maxP_0l h3] at h1
        generalize wayF v n b (n - 1) a (2 ^ a) (1, 1) = y at h1 h3
        generalize wyG n T a (nI b) true = s at h1
        dsimp only
        rcases h1 with ⟨g1, g2⟩ | ⟨g1, g2, g3, g4⟩
        · rw [if_pos g2, if_neg (by rw [g1]; decide)]
        · have hne : y ≠ (0, 1) := fun z => by
            have := g2.1.1.1
            rw [z] at this
            exact absurd this (by decide)
          rw [if_neg hne, if_pos g1, g3, g4]
          by_cases q0 : q = 0
          · rw [if_pos q0, if_pos q0]
          · rw [if_neg q0, if_neg q0]
end AGC
