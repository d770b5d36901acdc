/-! Agreement: least. Own text. -/
theorem powlt {a b n : Nat} (hn : n ≠ 0) : a ^ n < b ^ n ↔ a < b := by
  constructor
  · intro h
    rcases Nat.lt_or_ge a b with q | q
    · exact q
    · have := Nat.pow_le_pow_left q n
      omega
  · intro h
    exact Nat.pow_lt_pow_left h hn
/-- a fraction's root of z, all of them as powers of one root -/
def ky (p : Nat × Nat) (z : Nat) : Nat × Nat := (p.1 ^ (60 / z), p.2 ^ (60 / z))
theorem z60 {z : Nat} (h1 : 3 ≤ z) (h2 : z ≤ 6) : z * (60 / z) = 60 ∧ 60 / z ≠ 0 := by
  rcases (show z = 3 ∨ z = 4 ∨ z = 5 ∨ z = 6 by omega) with rfl | rfl | rfl | rfl <;> decide
theorem ky_pow {x y z u : Nat} (h1 : 3 ≤ z) (h2 : z ≤ 6) (h3 : 3 ≤ u) (h4 : u ≤ 6) : (x ^ z * y ^ u) ^ 60 = (x ^ (60 / u) * y ^ (60 / z)) ^ (z * u) := by
  have e1 := (z60 h1 h2).1
  have e2 := (z60 h3 h4).1
  rw [Nat.mul_pow, Nat.mul_pow, ← Nat.pow_mul, ← Nat.pow_mul, ← Nat.pow_mul, ← Nat.pow_mul]
  have a1 : 60 / u * (z * u) = z * 60 := by
    rw [Nat.mul_comm z u, ← Nat.mul_assoc, Nat.mul_comm (60 / u) u, e2, Nat.mul_comm]
  have a2 : 60 / z * (z * u) = u * 60 := by
    rw [← Nat.mul_assoc, Nat.mul_comm (60 / z) z, e1, Nat.mul_comm]
  rw [a1, a2]
theorem ky_lt {p q : Nat × Nat} {z u : Nat} (h1 : 3 ≤ z) (h2 : z ≤ 6) (h3 : 3 ≤ u) (h4 : u ≤ 6) : q.1 ^ z * p.2 ^ u < p.1 ^ u * q.2 ^ z ↔ (ky q u).1 * (ky p z).2 < (ky p z).1 * (ky q u).2 := by
  have hzu : z * u ≠ 0 := Nat.ne_of_gt (Nat.mul_pos (by omega) (by omega))
  rw [← powlt (n := 60) (by decide), ky_pow h1 h2 h3 h4, Nat.mul_comm (p.1 ^ u), ky_pow h1 h2 h3 h4, powlt hzu]
  show q.1 ^ (60 / u) * p.2 ^ (60 / z) < q.2 ^ (60 / u) * p.1 ^ (60 / z) ↔ q.1 ^ (60 / u) * p.2 ^ (60 / z) < p.1 ^ (60 / z) * q.2 ^ (60 / u)
  rw [Nat.mul_comm (q.2 ^ (60 / u))]
def leX (a b : Nat × Nat) : Prop := a.1 * b.2 ≤ b.1 * a.2
/-- the root of q, of u things, is at least that of p, of z; if they are like it is of no more things -/
def dm (p : Nat × Nat) (z : Nat) (q : Nat × Nat) (u : Nat) : Prop := leX (ky p z) (ky q u) ∧ (leX (ky q u) (ky p z) → u ≤ z)
theorem ky_2 {p : Nat × Nat} {z : Nat} (h : 1 ≤ p.2) : 1 ≤ (ky p z).2 := Nat.pow_pos h
theorem dm.tr {p q r : Nat × Nat} {a b c : Nat} (hp : 1 ≤ p.2) (hq : 1 ≤ q.2) (hr : 1 ≤ r.2) (h1 : dm p a q b) (h2 : dm q b r c) : dm p a r c :=
  ⟨le_cross (ky_2 hq) h1.1 h2.1, fun h => Nat.le_trans (h2.2 (le_cross (ky_2 hp) h h1.1)) (h1.2 (le_cross (ky_2 hr) h2.1 h))⟩
theorem dm_le {p q : Nat × Nat} {z : Nat} (h : leX p q) : dm p z q z := by
  refine ⟨?_, fun _ => Nat.le_refl _⟩
  show p.1 ^ (60 / z) * q.2 ^ (60 / z) ≤ q.1 ^ (60 / z) * p.2 ^ (60 / z)
  rw [← Nat.mul_pow, ← Nat.mul_pow]
  exact Nat.pow_le_pow_left h _
theorem fq.le {p q : Nat × Nat} (h : fq p q) : leX p q := Nat.le_of_eq h.2
theorem rtAb_iff {a b : Nat × Nat} {ra rb : Nat} (h1 : 3 ≤ ra) (h2 : ra ≤ 6) (h3 : 3 ≤ rb) (h4 : rb ≤ 6) : rtAb a ra b rb = true ↔ ¬ leX (ky a ra) (ky b rb) := by
  unfold rtAb leX
  rw [decide_eq_true_eq, ky_lt h1 h2 h3 h4]
  omega
/-- what rootF finds -/
def rootI (g : gS) (z b : Nat) : Prop := (b = 0 ∨ (3 ≤ b ∧ b < z ∧ (g b).2 < (g b).1)) ∧ ∀ k, 3 ≤ k → k < z → (g k).2 < (g k).1 → b ≠ 0 ∧ dm (g k) k (g b) b
theorem root_spec {g : gS} {n : Nat} (hn : n ≤ 6) (hg : ∀ k, k ≤ n → 1 ≤ (g k).2) : ∀ (r z b : Nat), z + r = n + 1 → 3 ≤ z → rootI g z b → rootI g (n + 1) (rootF g r z b)
  | 0, z, b, hz, _, h => by
    obtain rfl : z = n + 1 := by omega
    exact h
  | r + 1, z, b, hz, h3, h => by
    rw [rootF]
    refine root_spec hn hg r (z + 1) _ (by omega) (by omega) ?_
    obtain ⟨h1, h2⟩ := h
    have self : ∀ k, dm (g k) k (g k) k := fun k => dm_le (Nat.le_refl _)
    by_cases c : (g z).2 < (g z).1 ∧ (b = 0 ∨ rtAb (g z) z (g b) b = true)
    · rw [if_pos c]
      refine ⟨Or.inr ⟨h3, by omega, c.1⟩, fun k k3 kz kg => ⟨by omega, ?_⟩⟩
      by_cases e : k = z
      · subst e; exact self k
      · obtain ⟨b0, bd⟩ := h2 k k3 (by omega) kg
        rcases h1 with h1 | h1
        · exact absurd h1 b0
        · rcases c.2 with c2 | c2
          · exact absurd c2 b0
          · have c3 := (rtAb_iff h3 (by omega) h1.1 (by omega)).mp c2
            have d2 : dm (g b) b (g z) z := ⟨by unfold leX at c3 ⊢; omega, fun q => absurd q c3⟩
            exact bd.tr (hg k (by omega)) (hg b (by omega)) (hg z (by omega)) d2
    · rw [if_neg c]
      refine ⟨h1.elim Or.inl (fun q => Or.inr ⟨q.1, by omega, q.2.2⟩), fun k k3 kz kg => ?_⟩
      by_cases e : k = z
      · subst e
        have b0 : b ≠ 0 := fun q => c ⟨kg, Or.inl q⟩
        rcases h1 with h1 | h1
        · exact absurd h1 b0
        · have c3 : leX (ky (g k) k) (ky (g b) b) := by
            rcases Classical.em (leX (ky (g k) k) (ky (g b) b)) with q | q
            · exact q
            · exact absurd ⟨kg, Or.inr ((rtAb_iff k3 (by omega) h1.1 (by omega)).mpr q)⟩ c
          exact ⟨b0, c3, fun _ => by omega⟩
      · exact h2 k k3 (by omega) kg
section AGD
variable {n fl fv : Nat} {w v : tbW} {T : mdT}
theorem inv2_mul (a b : Nat × Nat) : inv2 (mul2 a b) = mul2 (inv2 a) (inv2 b) := rfl
theorem pd_rev (hw : ∀ x y, x < n → y < n → tH w x y = true → w y x = inv2 (w x y)) : ∀ l : List Nat, (∀ x, x ∈ l → x < n) → chn (tH w) l → pd w l.reverse = inv2 (pd w l)
  | [], _, _ => rfl
  | [_], _, _ => rfl
  | b :: c :: q, hx, h => by
    have ih := pd_rev hw (c :: q) (fun x h1 => hx x (List.mem_cons_of_mem _ h1)) h.2
    rw [List.reverse_cons, pd_app _ (by simp), ih, (hd_rev (l := c :: q) (by simp)).2]
    show mul2 (inv2 (pd w (c :: q))) (w b c) = inv2 (mul2 (pd w (c :: q)) (w c b))
    rw [hw c b (hx c (by simp)) (hx b (by simp)) h.1, inv2_mul]
theorem rng_rev (R : saR n w T) {l : List Nat} (h : rng (tH w) n l) : rng (tH w) n l.reverse ∧ rp w l.reverse = inv2 (rp w l) := by
  have hw : ∀ x y, x < n → y < n → tH w x y = true → w y x = inv2 (w x y) := fun x y hx hy he => by
    have a := tH_iff.mp he
    exact (R.dgs hx hy a.1 ((R.has hx hy a.1).mp a.2)).2.1
  obtain ⟨e1, e2⟩ := hd_rev h.1.1
  have hb := h.1.2.1 _ (hd_in h.1.1)
  have ha := h.1.2.1 _ (lastN_in h.1.1)
  have hE : ∀ l : List Nat, (∀ x, x ∈ l → x < n) → chn (tH w) l → chn (tH w) l.reverse := by
    intro l
    induction l with
    | nil => exact fun _ _ => trivial
    | cons b l ih =>
      intro hx hc
      cases l with
      | nil => exact trivial
      | cons c q =>
        rw [List.reverse_cons, chn_app _ (by simp), (hd_rev (l := c :: q) (by simp)).2]
        exact ⟨ih (fun x h1 => hx x (List.mem_cons_of_mem _ h1)) hc.2, tH_sym R (hx c (by simp)) (hx b (by simp)) hc.1⟩
  refine ⟨⟨⟨by simp [h.1.1], fun x hx => h.1.2.1 x (by simpa using hx), (List.reverse_perm l).nodup_iff.mpr h.1.2.2.1, hE l h.1.2.1 h.1.2.2.2⟩, by rw [List.length_reverse]; exact h.2.1, by rw [e1, e2]; exact tH_sym R hb ha h.2.2⟩, ?_⟩
  unfold rp
  rw [pd_rev hw l h.1.2.1 h.1.2.2.2, e1, e2, hw _ _ hb ha h.2.2, inv2_mul]
/-- the reference's products -/
abbrev mW (n : Nat) (T : mdT) : tbW := fun i j => mdS n T.1 T.2.1 i j
theorem pd_fq (R : saR n w T) : ∀ l : List Nat, (∀ x, x ∈ l → x < n) → chn (tH w) l → fq (pd w l) (pd (mW n T) l)
  | [], _, _ => fq.rf (p := (1, 1)) (by decide) (by decide)
  | [_], _, _ => fq.rf (p := (1, 1)) (by decide) (by decide)
  | b :: c :: q, hx, h => (pd_fq R (c :: q) (fun x h1 => hx x (List.mem_cons_of_mem _ h1)) h.2).mul (R.fq (hx c (by simp)) (hx b (by simp)) (tH_iff.mp h.1).1 (tH_iff.mp h.1).2)
theorem rp_fq (R : saR n w T) {l : List Nat} (h : rng (tH w) n l) : fq (rp w l) (rp (mW n T) l) :=
  (pd_fq R l h.1.2.1 h.1.2.2.2).mul (R.fq (h.1.2.1 _ (hd_in h.1.1)) (h.1.2.1 _ (lastN_in h.1.1)) (tH_iff.mp h.2.2).1 (tH_iff.mp h.2.2).2)
theorem rgX_low {p : Nat × Nat} (h : p.2 ≤ p.1) : rgX p = lowT p.1 p.2 ∧ rgY p = lowB p.1 p.2 := by
  unfold rgX rgY lowT lowB
  rw [Nat.max_eq_left h, Nat.min_eq_right h]
  exact ⟨rfl, rfl⟩
theorem rgX_inv (p : Nat × Nat) : rgX (inv2 p) = rgX p ∧ rgY (inv2 p) = rgY p := by
  unfold rgX rgY inv2
  dsimp only
  rw [Nat.max_comm, Nat.min_comm, Nat.gcd_comm]
  exact ⟨rfl, rfl⟩
/-- a ring that is off, gone the way on which it is above 1 -/
theorem rng_off (R : saR n w T) {l : List Nat} (h : rng (tH w) n l) : ((rp w l).1 = (rp w l).2 ∧ rgX (rp (mW n T) l) = rgY (rp (mW n T) l)) ∨ (rgX (rp (mW n T) l) ≠ rgY (rp (mW n T) l) ∧ ∃ l', rng (tH w) n l' ∧ l'.length = l.length ∧ (rp w l').2 < (rp w l').1 ∧ rgX (rp (mW n T) l) = lowT (rp w l').1 (rp w l').2 ∧ rgY (rp (mW n T) l) = lowB (rp w l').1 (rp w l').2) := by
  have key : ∀ l, rng (tH w) n l → (rp w l).2 < (rp w l).1 → rgX (rp (mW n T) l) = lowT (rp w l).1 (rp w l).2 ∧ rgY (rp (mW n T) l) = lowB (rp w l).1 (rp w l).2 := by
    intro l h c
    have f := rp_fq R h
    have c2 : (rp (mW n T) l).2 < (rp (mW n T) l).1 := (f.inv.lt1).mp c
    have e := rgX_low (Nat.le_of_lt c2)
    have u := f.uniq
    rw [e.1, e.2, u.1, u.2]
    exact ⟨rfl, rfl⟩
  have nel : ∀ l, rng (tH w) n l → (rp w l).2 < (rp w l).1 → lowT (rp w l).1 (rp w l).2 ≠ lowB (rp w l).1 (rp w l).2 := by
    intro l h c e
    have f := fq_low (rp_fq R h).1.1.1 (rp_fq R h).1.1.2
    have := (f.inv.lt1).mp c
    dsimp only at this
    omega
  rcases Nat.lt_trichotomy (rp w l).2 (rp w l).1 with c | c | c
  · right
    have k := key l h c
    exact ⟨by rw [k.1, k.2]; exact nel l h c, l, h, rfl, c, k.1, k.2⟩
  · left
    refine ⟨c.symm, ?_⟩
    have f := rp_fq R h
    have c2 : (rp (mW n T) l).1 = (rp (mW n T) l).2 := by
      have := f.2
      rw [c] at this
      exact (Nat.eq_of_mul_eq_mul_left (show 0 < (rp w l).1 from f.1.1.1) (by rw [this, Nat.mul_comm])).symm
    unfold rgX rgY
    rw [c2, Nat.max_self, Nat.min_self]
  · right
    obtain ⟨r1, r2⟩ := rng_rev R h
    have c2 : (rp w l.reverse).2 < (rp w l.reverse).1 := by rw [r2]; exact c
    have k := key l.reverse r1 c2
    have f1 := rp_fq R h
    have f2 := rp_fq R r1
    have e : rgX (rp (mW n T) l) = rgX (rp (mW n T) l.reverse) ∧ rgY (rp (mW n T) l) = rgY (rp (mW n T) l.reverse) := by
      have i := rgX_inv (rp (mW n T) l)
      rw [← i.1, ← i.2]
      have f3 : fq (inv2 (rp (mW n T) l)) (rp (mW n T) l.reverse) := f1.sy.inv.tr (by rw [r2] at f2; exact f2)
      have c3 : (rp (mW n T) l.reverse).2 < (rp (mW n T) l.reverse).1 := (f2.inv.lt1).mp c2
      have c4 : (inv2 (rp (mW n T) l)).2 < (inv2 (rp (mW n T) l)).1 := (f3.inv.lt1).mpr c3
      have u := f3.uniq
      have e1 := rgX_low (Nat.le_of_lt c3)
      have e2 := rgX_low (Nat.le_of_lt c4)
      rw [e1.1, e1.2, e2.1, e2.2, u.1, u.2]
      exact ⟨rfl, rfl⟩
    exact ⟨by rw [e.1, e.2, k.1, k.2]; exact nel _ r1 c2, l.reverse, r1, List.length_reverse, c2, e.1.trans k.1, e.2.trans k.2⟩
noncomputable def actR (n : Nat) (T : mdT) : List Nat → lS → lS := fun l s => rgC n T (hd l) l.tail (pd (mW n T) l) s
theorem saR.edge {i j : Nat} (R : saR n w T) (hi : i < n) (hj : j < n) (hij : i ≠ j) : 0 < T.1 (pidx n i j) ↔ tH w i j = true := by
  rw [tH_iff, ← R.has hi hj hij]
  exact ⟨fun h => ⟨hij, h⟩, fun h => h.2⟩
theorem rg_dfs (hn : n ≤ 6) (R : saR n w T) : ∀ (f b : Nat) (q : List Nat) (s : lS), (∀ x, x ∈ b :: q → x < n) → rgF n T f b q (pd (mW n T) (b :: q)) s = dfs (tH w) n 0 (actR n T) f (b :: q) s
  | 0, b, q, s, hx => rfl
  | f + 1, b, q, s, hx => by
    have hb := hx b (by simp)
    rw [rgF, dfs]
    show itr _ n 0 (actR n T (b :: q) s) = itr _ (n - 0) 0 (actR n T (b :: q) s)
    rw [Nat.sub_zero]
    refine itr_congr _ _ _ (fun k s h1 h2 => ?_)
    have hk : k < n := by omega
    by_cases c : k ∈ b :: q
    · rw [if_neg (fun z => z.1 c), if_neg (fun z => z.1 c)]
    · have hbk : b ≠ k := fun z => c (by rw [z]; simp)
      have e := R.edge hb hk hbk
      by_cases c2 : 0 < T.1 (pidx n b k)
      · rw [if_pos ⟨c, c2⟩, if_pos ⟨c, e.mp c2⟩]
        exact rg_dfs hn R f k (b :: q) s (fun x hx2 => (List.mem_cons.mp hx2).elim (fun z => z ▸ hk) (hx x))
      · rw [if_neg (fun z => c2 z.2), if_neg (fun z => c2 (e.mpr z.2))]
theorem actR_eq (R : saR n w T) {l : List Nat} {s : lS} (h : pth (tH w) n l) : actR n T l s = @ite _ (rng (tH w) n l ∧ 3 ≤ l.length) (Classical.propDecidable _) (rgS (rp (mW n T) l) l.length s) s := by
  unfold actR rgC
  have e0 : hd l :: l.tail = l := by
    cases l with
    | nil => exact absurd rfl h.1
    | cons a l => rfl
  have e1 : l.tail.length + 1 = l.length := by
    conv => rhs; rw [← e0]
    rfl
  rw [e0, e1]
  by_cases c : 3 ≤ l.length
  · have hb := h.2.1 _ (hd_in h.1)
    have ha := h.2.1 _ (lastN_in h.1)
    have hne : hd l ≠ lastN l := by
      have := nod_last (b := hd l) (q := l.tail) (by rw [e0]; exact h.2.2.1) (by omega)
      rw [e0] at this
      exact this
    have ed := R.edge hb ha hne
    by_cases c2 : 0 < T.1 (pidx n (hd l) (lastN l))
    · rw [if_pos ⟨c, c2⟩, if_pos ⟨⟨h, by omega, ed.mp c2⟩, c⟩]
      rfl
    · rw [if_neg (fun z => c2 z.2), if_neg (fun z => c2 (ed.mpr z.1.2.2))]
  · rw [if_neg (fun z => c z.1), if_neg (fun z => c z.2)]
/-- the reference's state: nothing, or what a ring is off -/
def leE (n : Nat) (w : tbW) (T : mdT) (s : lS) : Prop := s = (1, 1, 0) ∨ ∃ l, rng (tH w) n l ∧ 3 ≤ l.length ∧ rgX (rp (mW n T) l) ≠ rgY (rp (mW n T) l) ∧ s = (rgX (rp (mW n T) l), rgY (rp (mW n T) l), l.length)
theorem rg_pos (R : saR n w T) {l : List Nat} (h : rng (tH w) n l) : 1 ≤ rgX (rp (mW n T) l) ∧ 1 ≤ rgY (rp (mW n T) l) := by
  have f := (rp_fq R h).1.2
  have g1 : 0 < Nat.gcd (rp (mW n T) l).1 (rp (mW n T) l).2 := Nat.gcd_pos_of_pos_left _ f.1
  have g2 := Nat.gcd_le_left (rp (mW n T) l).2 f.1
  have g3 := Nat.gcd_le_right (rp (mW n T) l).1 f.2
  exact ⟨Nat.div_pos (Nat.le_trans g2 (Nat.le_max_left _ _)) g1, Nat.div_pos (Nat.le_min.mpr ⟨g2, g3⟩) g1⟩
theorem leE_b (R : saR n w T) {s : lS} (hn : n ≤ 6) (h : leE n w T s) : s = (1, 1, 0) ∨ ((3 ≤ s.2.2 ∧ s.2.2 ≤ 6) ∧ 1 ≤ s.1 ∧ 1 ≤ s.2.1) := by
  rcases h with h | ⟨l, h1, h2, h3, rfl⟩
  · exact Or.inl h
  · have := pth_len h1.1
    exact Or.inr ⟨⟨h2, by show l.length ≤ 6; omega⟩, rg_pos R h1⟩
theorem rgT_iff {x y z : Nat} {s : lS} (hz : 3 ≤ z) (hz6 : z ≤ 6) (hs : 3 ≤ s.2.2) (hs6 : s.2.2 ≤ 6) : rgT x y z s ↔ ¬ dm (x, y) z (s.1, s.2.1) s.2.2 := by
  have k1 := ky_lt (p := (x, y)) (q := (s.1, s.2.1)) hz hz6 hs hs6
  have k2 := ky_lt (p := (s.1, s.2.1)) (q := (x, y)) hs hs6 hz hz6
  dsimp only at k1 k2
  unfold rgT dm leX
  constructor
  · rintro (h | h | ⟨h, h'⟩) ⟨d1, d2⟩
    · omega
    · have := k1.mp h
      omega
    · have : ¬ (ky (x, y) z).1 * (ky (s.1, s.2.1) s.2.2).2 < (ky (s.1, s.2.1) s.2.2).1 * (ky (x, y) z).2 := fun q => by
        have := k2.mpr q
        omega
      have := d2 (by omega)
      omega
  · intro h
    by_cases c1 : s.1 ^ z * y ^ s.2.2 < x ^ s.2.2 * s.2.1 ^ z
    · exact Or.inr (Or.inl c1)
    · by_cases c2 : x ^ s.2.2 * s.2.1 ^ z < s.1 ^ z * y ^ s.2.2
      · exfalso
        apply h
        have := k2.mp c2
        exact ⟨by omega, fun q => by omega⟩
      · right
        right
        refine ⟨by omega, ?_⟩
        rcases Nat.lt_or_ge z s.2.2 with q | q
        · exact q
        · exfalso
          apply h
          have a1 : ¬ (ky (s.1, s.2.1) s.2.2).1 * (ky (x, y) z).2 < (ky (x, y) z).1 * (ky (s.1, s.2.1) s.2.2).2 := fun q => c1 (k1.mpr q)
          exact ⟨by omega, fun _ => q⟩
theorem rgT_dm {x y z : Nat} {s : lS} (hz : 3 ≤ z) (hz6 : z ≤ 6) (hs : 3 ≤ s.2.2) (hs6 : s.2.2 ≤ 6) (h : rgT x y z s) : dm (s.1, s.2.1) s.2.2 (x, y) z := by
  have k1 := ky_lt (p := (x, y)) (q := (s.1, s.2.1)) hz hz6 hs hs6
  have k2 := ky_lt (p := (s.1, s.2.1)) (q := (x, y)) hs hs6 hz hz6
  dsimp only at k1 k2
  unfold rgT at h
  unfold dm leX
  rcases h with h | h | ⟨h, h'⟩
  · omega
  · have := k1.mp h
    exact ⟨by omega, fun q => by omega⟩
  · have a1 : ¬ (ky (x, y) z).1 * (ky (s.1, s.2.1) s.2.2).2 < (ky (s.1, s.2.1) s.2.2).1 * (ky (x, y) z).2 := fun q => by
      have := k2.mpr q
      omega
    exact ⟨by omega, fun _ => Nat.le_of_lt h'⟩
theorem actR_E (hn : n ≤ 6) (R : saR n w T) (l : List Nat) (s : lS) (hl : pth (tH w) n l) (hs : leE n w T s) : leE n w T (actR n T l s) := by
  rw [actR_eq R hl]
  split
  · next c =>
    by_cases c1 : rgX (rp (mW n T) l) = rgY (rp (mW n T) l)
    · rw [rgS_e c1]; exact hs
    · by_cases c2 : rgT (rgX (rp (mW n T) l)) (rgY (rp (mW n T) l)) l.length s
      · rw [rgS_y c1 c2]
        exact Or.inr ⟨l, c.1, c.2, c1, rfl⟩
      · rw [rgS_n c1 c2]; exact hs
  · exact hs
/-- s is at least what l is off -/
def leM (n : Nat) (T : mdT) (t : List Nat) (s : lS) : Prop := s.2.2 ≠ 0 ∧ dm (rgX (rp (mW n T) t), rgY (rp (mW n T) t)) t.length (s.1, s.2.1) s.2.2
theorem actR_M (hn : n ≤ 6) (R : saR n w T) {t : List Nat} (ht : rng (tH w) n t) (l : List Nat) (s : lS) (hl : pth (tH w) n l) (hs : leE n w T s) (hm : leM n T t s) : leM n T t (actR n T l s) := by
  rw [actR_eq R hl]
  split
  · next c =>
    by_cases c1 : rgX (rp (mW n T) l) = rgY (rp (mW n T) l)
    · rw [rgS_e c1]; exact hm
    · by_cases c2 : rgT (rgX (rp (mW n T) l)) (rgY (rp (mW n T) l)) l.length s
      · rw [rgS_y c1 c2]
        have h6 : l.length ≤ 6 := Nat.le_trans (pth_len hl) hn
        rcases leE_b R hn hs with e | ⟨⟨s3, s6⟩, s1, s2⟩
        · exact absurd (by rw [e]) hm.1
        · refine ⟨by show l.length ≠ 0; omega, ?_⟩
          exact hm.2.tr (rg_pos R ht).2 s2 (rg_pos R c.1).2 (rgT_dm c.2 h6 s3 s6 c2)
      · rw [rgS_n c1 c2]; exact hm
  · exact hm
theorem rgL_E (hn : n ≤ 6) (R : saR n w T) : leE n w T (rgL n T) := by
  refine itr_inv (leE n w T) n 0 _ (fun i s g1 g2 g3 => ?_) (Or.inl rfl)
  have e := rg_dfs hn R (n - 1) i [] s (fun x hx => by rw [List.mem_singleton.mp hx]; omega)
  have e' : rgF n T (n - 1) i [] (1, 1) s = dfs (tH w) n 0 (actR n T) (n - 1) [i] s := e
  rw [e']
  exact dfs_inv (pth (tH w) n) pth_st (actR_E hn R) (n - 1) [i] s (pth_1 (by omega)) g3
theorem rgL_U (hn : n ≤ 6) (R : saR n w T) {t : List Nat} (ht : rng (tH w) n t) (h3 : 3 ≤ t.length) (hx : rgX (rp (mW n T) t) ≠ rgY (rp (mW n T) t)) : leM n T t (rgL n T) := by
  have e : ∀ i s, i < n → rgF n T (n - 1) i [] (1, 1) s = dfs (tH w) n 0 (actR n T) (n - 1) [i] s := fun i s hi => rg_dfs hn R (n - 1) i [] s (fun x hx => by rw [List.mem_singleton.mp hx]; exact hi)
  obtain ⟨r, hr⟩ := lastN_split t ht.1.1
  have ha := ht.1.2.1 _ (lastN_in ht.1.1)
  have hlen := pth_len ht.1
  refine itr_hit (leE n w T) (leM n T t) n 0 _ (lastN t) (Nat.zero_le _) (by omega) (fun i s g1 g2 g3 => ?_) (fun i s g1 g2 g3 g4 => ?_) (fun s g3 => ?_) (Or.inl rfl)
  · rw [e i s (by omega)]
    exact dfs_inv (pth (tH w) n) pth_st (actR_E hn R) (n - 1) [i] s (pth_1 (by omega)) g3
  · rw [e i s (by omega)]
    exact (dfs_inv (I := fun s => leE n w T s ∧ leM n T t s) (pth (tH w) n) pth_st (fun l s hl hs => ⟨actR_E hn R l s hl hs.1, actR_M hn R ht l s hl hs.1 hs.2⟩) (n - 1) [i] s (pth_1 (by omega)) ⟨g3, g4⟩).2
  · rw [e _ s ha]
    refine dfs_hit (I := leE n w T) (M := leM n T t) (t := t) (pth (tH w) n) pth_st (actR_E hn R) (actR_M hn R ht) (fun s hs => ?_) r.reverse (n - 1) [lastN t] s ?_ (extP_of (by simp) r (by rw [← hr]; exact ht.1.2.2.1) (by rw [← hr]; exact ht.1.2.2.2) (fun x hx => ⟨Nat.zero_le _, ht.1.2.1 x (by rw [hr]; simp [hx])⟩)) (pth_1 ha) g3 (by rw [List.reverse_reverse]; exact hr)
    · rw [actR_eq R ht.1, if_pos ⟨ht, h3⟩]
      by_cases c2 : rgT (rgX (rp (mW n T) t)) (rgY (rp (mW n T) t)) t.length s
      · rw [rgS_y hx c2]
        exact ⟨by show t.length ≠ 0; omega, dm_le (Nat.le_refl _)⟩
      · rw [rgS_n hx c2]
        rcases leE_b R hn hs with e | ⟨⟨s3, s6⟩, s1, s2⟩
        · exact absurd (Or.inl (by rw [e])) c2
        · refine ⟨by omega, ?_⟩
          rcases Classical.em (dm (rgX (rp (mW n T) t), rgY (rp (mW n T) t)) t.length (s.1, s.2.1) s.2.2) with q | q
          · exact q
          · exact absurd ((rgT_iff h3 (by omega) s3 s6).mpr q) c2
    · rw [hr, List.length_append, List.length_singleton] at hlen
      rw [List.length_reverse]
      omega
theorem least_eq (hn : n ≤ 6) (h2 : 2 ≤ n) (R : rel n w fl v fv T) (g : gS) : (rootF (measG w n g) (n - 2) 3 0 = 0 ∧ rgL n T = (1, 1, 0)) ∨ (rootF (measG w n g) (n - 2) 3 0 ≠ 0 ∧ rgL n T = (lowT (measG w n g (rootF (measG w n g) (n - 2) 3 0)).1 (measG w n g (rootF (measG w n g) (n - 2) 3 0)).2, lowB (measG w n g (rootF (measG w n g) (n - 2) 3 0)).1 (measG w n g (rootF (measG w n g) (n - 2) 3 0)).2, rootF (measG w n g) (n - 2) 3 0)) := by
  have ho := (ag_ok hn h2 R).1
  have hS := R.1
  have hgd : ∀ k, k ≤ n → 1 ≤ (measG w n g k).2 := fun k hk => (gZ_meas ho k hk).2.1
  have hroot := root_spec (g := measG w n g) hn hgd (n - 2) 3 0 (by omega) (Nat.le_refl _) ⟨Or.inl rfl, fun k k3 kz => by omega⟩
  have hU : ∀ l, rng (tH w) n l → 3 ≤ l.length → leX (rp w l) (measG w n g l.length) := fun l h1 h3 => meas_U hn ho g h1 h3
  have hE := meas_E (w := w) hn g
  generalize measG w n g = G at hgd hroot hU hE
  generalize rootF G (n - 2) 3 0 = Z at hroot
  obtain ⟨z1, z2⟩ := hroot
  rcases rgL_E hn hS with e | ⟨l, l1, l2, l3, l4⟩
  · left
    refine ⟨?_, e⟩
    rcases z1 with z1 | ⟨z3, z4, z5⟩
    · exact z1
    · exfalso
      rcases hE Z (by omega) with q | ⟨l, q1, q2, q3, q4⟩
      · rw [q] at z5
        exact absurd z5 (by decide)
      · rw [q4] at z5
        rcases rng_off hS q1 with ⟨o1, -⟩ | ⟨o1, -⟩
        · omega
        · have := (rgL_U hn hS q1 q2 o1).1
          rw [e] at this
          exact this rfl
  · right
    have hlen := pth_len l1.1
    rcases rng_off hS l1 with ⟨-, o2⟩ | ⟨-, l', p1, p2, p3, p4, p5⟩
    · exact absurd o2 l3
    · have fP := fq_low (rp_pos ho p1).1 (rp_pos ho p1).2
      have hP := hU l' p1 (by omega)
      rw [p2] at hP
      have hz : 1 ≤ (G l.length).2 := hgd _ hlen
      have hz1 : (G l.length).2 < (G l.length).1 := by
        rcases Nat.lt_or_ge (G l.length).2 (G l.length).1 with q | q
        · exact q
        · have := le_cross (p := rp w l') (q := G l.length) (r := (1, 1)) hz hP (by rw [Nat.mul_one, Nat.one_mul]; exact q)
          rw [Nat.mul_one, Nat.one_mul] at this
          omega
      obtain ⟨b0, bd⟩ := z2 l.length l2 (by omega) hz1
      rcases z1 with z1 | ⟨z3, z4, z5⟩
      · exact absurd z1 b0
      · refine ⟨b0, ?_⟩
        rcases hE Z (by omega) with q | ⟨m, q1, q2, q3, q4⟩
        · rw [q] at z5
          exact absurd z5 (by decide)
        · have q5 := z5
          rw [q4] at q5
          have hmx : rgX (rp (mW n T) m) ≠ rgY (rp (mW n T) m) := by
            rcases rng_off hS q1 with ⟨o1, -⟩ | ⟨o1, -⟩
            · omega
            · exact o1
          have hM := (rgL_U hn hS q1 q2 hmx).2
          have fm := rp_fq hS q1
          have c2 : (rp (mW n T) m).2 < (rp (mW n T) m).1 := (fm.inv.lt1).mp q5
          have em := rgX_low (Nat.le_of_lt c2)
          have flm := fq_low fm.1.2.1 fm.1.2.2
          have fGm : fq (G Z) (rgX (rp (mW n T) m), rgY (rp (mW n T) m)) := by
            rw [q4, em.1, em.2]
            exact fm.tr flm
          have sx : (rgL n T).1 = lowT (rp w l').1 (rp w l').2 := by rw [l4]; exact p4
          have sy : (rgL n T).2.1 = lowB (rp w l').1 (rp w l').2 := by rw [l4]; exact p5
          have sz : (rgL n T).2.2 = l.length := by rw [l4]
          have fS : fq (rp w l') ((rgL n T).1, (rgL n T).2.1) := by rw [sx, sy]; exact fP
          have d1 : dm ((rgL n T).1, (rgL n T).2.1) l.length (G l.length) l.length := dm_le (le_cross (q := rp w l') fP.1.1.2 fS.sy.le hP)
          have d3 : dm (G Z) Z ((rgL n T).1, (rgL n T).2.1) l.length := by
            have a1 : dm (G Z) Z (rgX (rp (mW n T) m), rgY (rp (mW n T) m)) Z := dm_le fGm.le
            rw [q3, sz] at hM
            exact a1.tr (hgd Z (by omega)) fGm.1.2.2 fS.1.2.2 hM
          have d12 := d1.tr fS.1.2.2 hz (hgd Z (by omega)) bd
          have e1 : Z ≤ l.length := d12.2 d3.1
          have e2 : l.length ≤ Z := d3.2 d12.1
          have eZ : l.length = Z := by omega
          rw [eZ] at d1 d3 sz
          have hk1 := d1.1
          have hk2 := d3.1
          have e60 := (z60 z3 (show Z ≤ 6 by omega)).2
          have hfin : fq (G Z) ((rgL n T).1, (rgL n T).2.1) := by
            refine ⟨⟨⟨by omega, hgd Z (by omega)⟩, fS.1.2⟩, ?_⟩
            have k3 : (G Z).1 ^ (60 / Z) * (rgL n T).2.1 ^ (60 / Z) ≤ (rgL n T).1 ^ (60 / Z) * (G Z).2 ^ (60 / Z) := hk2
            have k4 : (rgL n T).1 ^ (60 / Z) * (G Z).2 ^ (60 / Z) ≤ (G Z).1 ^ (60 / Z) * (rgL n T).2.1 ^ (60 / Z) := hk1
            rw [← Nat.mul_pow, ← Nat.mul_pow] at k3 k4
            have m1 : ¬ (rgL n T).1 * (G Z).2 < (G Z).1 * (rgL n T).2.1 := fun q => by
              have := (powlt e60).mpr q
              omega
            have m2 : ¬ (G Z).1 * (rgL n T).2.1 < (rgL n T).1 * (G Z).2 := fun q => by
              have := (powlt e60).mpr q
              omega
            show (G Z).1 * (rgL n T).2.1 = (rgL n T).1 * (G Z).2
            omega
          have u := (hfin.tr fS.sy).uniq
          rw [u.1, u.2, ← sx, ← sy, ← sz]
theorem ag_least (hn : n ≤ 6) (h2 : 2 ≤ n) (R : rel n w fl v fv T) (g : gS) (q : Int32) : leaV (measG w n g) n q = mLea n T q := by
  unfold leaV mLea inB
  by_cases c : (0 : Int32) ≤ q ∧ q ≤ 2
  · rw [if_pos c, if_pos (show (decide (0 ≤ q) && decide (q ≤ 2)) = true by rw [decide_eq_true c.1, decide_eq_true c.2]; rfl)]
    have hq0 : ¬ q < 0 := by rw [Int32.not_lt]; exact c.1
    obtain ⟨k, hk, rfl⟩ := nI_of hq0
    have hk4 := (nI_leI (a := k) (b := 2) hk (by decide)).mp c.2
    rcases least_eq hn h2 R g with ⟨e1, e2⟩ | ⟨e1, e2⟩
    · rw [e2, e1]
      rcases (show k = 0 ∨ k = 1 ∨ k = 2 by omega) with rfl | rfl | rfl <;> rfl
    · rw [e2]
      generalize rootF (measG w n g) (n - 2) 3 0 = Z at e1
      rcases (show k = 0 ∨ k = 1 ∨ k = 2 by omega) with rfl | rfl | rfl
      · rw [if_neg (by decide), if_neg e1, if_pos (by decide), if_pos (by decide)]
      · rw [if_neg (by decide), if_neg e1, if_neg (by decide), if_neg (by decide), if_pos (by decide)]
      · rw [if_pos (by decide), if_neg (by decide), if_neg (by decide)]
  · rw [if_neg c, if_neg]
    simp only [Bool.and_eq_true, decide_eq_true_eq]
    exact c
end AGD
