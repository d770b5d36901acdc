/-! Paths and rings as lists, the last thing first; searches over all of them. Own text. -/
def hd (l : List Nat) : Nat := l.headD 0
def chn (E : Nat → Nat → Bool) : List Nat → Prop
  | [] => True
  | [_] => True
  | b :: c :: q => E c b = true ∧ chn E (c :: q)
def pd (W : tbW) : List Nat → Nat × Nat
  | [] => (1, 1)
  | [_] => (1, 1)
  | b :: c :: q => mul2 (pd W (c :: q)) (W c b)
def pth (E : Nat → Nat → Bool) (n : Nat) (l : List Nat) : Prop := l ≠ [] ∧ (∀ x, x ∈ l → x < n) ∧ l.Nodup ∧ chn E l
def rng (E : Nat → Nat → Bool) (n : Nat) (l : List Nat) : Prop := pth E n l ∧ 2 ≤ l.length ∧ E (hd l) (lastN l) = true
def rp (W : tbW) (l : List Nat) : Nat × Nat := mul2 (pd W l) (W (hd l) (lastN l))
theorem mul2_comm (a b : Nat × Nat) : mul2 a b = mul2 b a := by unfold mul2; rw [Nat.mul_comm, Nat.mul_comm a.2]
theorem mul2_assoc (a b c : Nat × Nat) : mul2 (mul2 a b) c = mul2 a (mul2 b c) := by unfold mul2; rw [Nat.mul_assoc, Nat.mul_assoc]
theorem mul2_right (a b c : Nat × Nat) : mul2 (mul2 a b) c = mul2 (mul2 a c) b := by rw [mul2_assoc, mul2_comm b, mul2_assoc]
theorem lastN_app (l : List Nat) (x : Nat) : lastN (l ++ [x]) = x := by
  induction l with
  | nil => rfl
  | cons a l ih =>
    cases l with
    | nil => rfl
    | cons b l => exact ih
theorem lastN_split : ∀ l : List Nat, l ≠ [] → ∃ r, l = r ++ [lastN l]
  | [], h => absurd rfl h
  | [a], _ => ⟨[], rfl⟩
  | a :: b :: l, _ => by
    obtain ⟨r, hr⟩ := lastN_split (b :: l) (by simp)
    exact ⟨a :: r, by rw [List.cons_append]; exact congrArg (a :: ·) hr⟩
theorem lastN_in {l : List Nat} (h : l ≠ []) : lastN l ∈ l := by
  cases l with
  | nil => exact absurd rfl h
  | cons a l => exact lastN_mem a l
theorem hd_in {l : List Nat} (h : l ≠ []) : hd l ∈ l := by
  cases l with
  | nil => exact absurd rfl h
  | cons a l => exact List.mem_cons_self
theorem hd_app {l : List Nat} {x : Nat} (h : l ≠ []) : hd (l ++ [x]) = hd l := by
  cases l with
  | nil => exact absurd rfl h
  | cons a l => rfl
theorem chn_app {E : Nat → Nat → Bool} {x : Nat} : ∀ l : List Nat, l ≠ [] → (chn E (l ++ [x]) ↔ chn E l ∧ E x (lastN l) = true)
  | [], h => absurd rfl h
  | [a], _ => ⟨fun h => ⟨trivial, h.1⟩, fun h => ⟨h.2, trivial⟩⟩
  | a :: b :: l, _ => by
    have ih := chn_app (E := E) (x := x) (b :: l) (by simp)
    show (E b a = true ∧ chn E ((b :: l) ++ [x])) ↔ (E b a = true ∧ chn E (b :: l)) ∧ E x (lastN (b :: l)) = true
    rw [ih, and_assoc]
theorem pd_app {W : tbW} {x : Nat} : ∀ l : List Nat, l ≠ [] → pd W (l ++ [x]) = mul2 (pd W l) (W x (lastN l))
  | [], h => absurd rfl h
  | [a], _ => rfl
  | a :: b :: l, _ => by
    have ih := pd_app (W := W) (x := x) (b :: l) (by simp)
    show mul2 (pd W ((b :: l) ++ [x])) (W b a) = mul2 (mul2 (pd W (b :: l)) (W b a)) (W x (lastN (b :: l)))
    rw [ih, mul2_right]
theorem chn_cons {E : Nat → Nat → Bool} {x : Nat} {l : List Nat} (h : l ≠ []) : chn E (x :: l) ↔ E (hd l) x = true ∧ chn E l := by
  cases l with
  | nil => exact absurd rfl h
  | cons a l => exact Iff.rfl
theorem pd_cons {W : tbW} {x : Nat} {l : List Nat} (h : l ≠ []) : pd W (x :: l) = mul2 (pd W l) (W (hd l) x) := by
  cases l with
  | nil => exact absurd rfl h
  | cons a l => rfl
theorem lastN_cons {x : Nat} {l : List Nat} (h : l ≠ []) : lastN (x :: l) = lastN l := by
  cases l with
  | nil => exact absurd rfl h
  | cons a l => rfl
/-- a ring may begin one thing later -/
theorem rng_rot {E : Nat → Nat → Bool} {n x : Nat} {l : List Nat} {W : tbW} (h : rng E n (l ++ [x])) : rng E n (x :: l) ∧ rp W (x :: l) = rp W (l ++ [x]) := by
  obtain ⟨⟨h1, h2, h3, h4⟩, h5, h6⟩ := h
  have hl : l ≠ [] := fun z => by rw [z] at h5; simp at h5
  rw [hd_app hl, lastN_app] at h6
  obtain ⟨h7, h8⟩ := (chn_app l hl).mp h4
  refine ⟨⟨⟨by simp, fun y hy => h2 y ?_, ?_, (chn_cons hl).mpr ⟨h6, h7⟩⟩, ?_, ?_⟩, ?_⟩
  · rcases List.mem_cons.mp hy with rfl | hy
    · simp
    · simp [hy]
  · exact (List.perm_append_singleton x l).nodup_iff.mp h3
  · rw [List.length_append, List.length_singleton] at h5
    rw [List.length_cons]
    omega
  · rw [lastN_cons hl]
    exact h8
  · unfold rp
    rw [pd_cons hl, pd_app l hl, lastN_cons hl, lastN_app, hd_app hl, mul2_right]
    rfl
/-- a ring may begin at each of its things -/
theorem rng_at {E : Nat → Nat → Bool} {n a : Nat} {W : tbW} : ∀ (k : Nat) (u t : List Nat), t.length = k → rng E n (u ++ a :: t) → ∃ r, rng E n (r ++ [a]) ∧ rp W (r ++ [a]) = rp W (u ++ a :: t) ∧ (r ++ [a]).length = (u ++ a :: t).length ∧ ∀ x, x ∈ r ++ [a] ↔ x ∈ u ++ a :: t
  | 0, u, t, hk, h => by
    have : t = [] := List.eq_nil_of_length_eq_zero hk
    subst this
    exact ⟨u, h, rfl, rfl, fun _ => Iff.rfl⟩
  | k + 1, u, t, hk, h => by
    obtain ⟨t0, ht⟩ := lastN_split t (fun z => by rw [z] at hk; simp at hk)
    generalize lastN t = x at ht
    subst ht
    have e : u ++ a :: (t0 ++ [x]) = (u ++ a :: t0) ++ [x] := by simp
    rw [e] at h ⊢
    obtain ⟨h1, h2⟩ := rng_rot (W := W) h
    obtain ⟨r, g1, g2, g3, g4⟩ := rng_at k (x :: u) t0 (by rw [List.length_append, List.length_singleton] at hk; omega) h1
    refine ⟨r, g1, g2.trans h2, g3.trans (by simp; omega), fun y => (g4 y).trans ?_⟩
    simp only [List.cons_append, List.mem_cons, List.mem_append, List.not_mem_nil, or_false]
    constructor
    · rintro (h | h | h | h)
      · exact Or.inr h
      · exact Or.inl (Or.inl h)
      · exact Or.inl (Or.inr (Or.inl h))
      · exact Or.inl (Or.inr (Or.inr h))
    · rintro ((h | h | h) | h)
      · exact Or.inr (Or.inl h)
      · exact Or.inr (Or.inr (Or.inl h))
      · exact Or.inr (Or.inr (Or.inr h))
      · exact Or.inl h
theorem least_in : ∀ l : List Nat, l ≠ [] → ∃ a, a ∈ l ∧ ∀ x, x ∈ l → a ≤ x
  | [], h => absurd rfl h
  | [a], _ => ⟨a, List.mem_cons_self, fun x hx => by rw [List.mem_singleton.mp hx]; exact Nat.le_refl _⟩
  | a :: b :: l, _ => by
    obtain ⟨c, h1, h2⟩ := least_in (b :: l) (by simp)
    by_cases h : a ≤ c
    · exact ⟨a, List.mem_cons_self, fun x hx => by
        rcases List.mem_cons.mp hx with rfl | hx
        · exact Nat.le_refl _
        · exact Nat.le_trans h (h2 x hx)⟩
    · exact ⟨c, List.mem_cons_of_mem _ h1, fun x hx => by
        rcases List.mem_cons.mp hx with rfl | hx
        · omega
        · exact h2 x hx⟩
/-- each ring may begin at its least thing -/
theorem rng_least {E : Nat → Nat → Bool} {n : Nat} {W : tbW} {l : List Nat} (h : rng E n l) : ∃ r a, rng E n (r ++ [a]) ∧ rp W (r ++ [a]) = rp W l ∧ (r ++ [a]).length = l.length ∧ ∀ x, x ∈ r → a < x := by
  obtain ⟨a, h1, h2⟩ := least_in l h.1.1
  obtain ⟨u, t, rfl⟩ := List.append_of_mem h1
  obtain ⟨r, g1, g2, g3, g4⟩ := rng_at (W := W) (a := a) t.length u t rfl h
  refine ⟨r, a, g1, g2, g3, fun x hx => ?_⟩
  have h3 := h2 x ((g4 x).mp (by simp [hx]))
  have h4 : x ≠ a := fun z => by
    subst z
    have := g1.1.2.2.1
    rw [List.nodup_append] at this
    exact this.2.2 x hx x (by simp) rfl
  omega
/-- a search over all paths that go on from one -/
def dfs {σ : Type} (E : Nat → Nat → Bool) (n lo : Nat) (act : List Nat → σ → σ) : Nat → List Nat → σ → σ
  | 0, l, s => act l s
  | f + 1, l, s => itr (fun i s => if ¬ i ∈ l ∧ E (hd l) i = true then dfs E n lo act f (i :: l) s else s) (n - lo) lo (act l s)
theorem itr_congr {σ : Type} {f g : Nat → σ → σ} : ∀ (m i : Nat) (s : σ), (∀ k s, i ≤ k → k < i + m → f k s = g k s) → itr f m i s = itr g m i s
  | 0, _, _, _ => rfl
  | m + 1, i, s, h => by
    rw [itr, itr, h i s (Nat.le_refl _) (by omega)]
    exact itr_congr m (i + 1) _ (fun k s h1 h2 => h k s (by omega) (by omega))
theorem itr_hit {σ : Type} {f : Nat → σ → σ} (I M : σ → Prop) : ∀ (m i : Nat) (s : σ) (k : Nat), i ≤ k → k < i + m → (∀ j s, i ≤ j → j < i + m → I s → I (f j s)) → (∀ j s, i ≤ j → j < i + m → I s → M s → M (f j s)) → (∀ s, I s → M (f k s)) → I s → M (itr f m i s)
  | 0, i, s, k, h1, h2, _, _, _, _ => by omega
  | m + 1, i, s, k, h1, h2, hI, hM, hh, h => by
    rw [itr]
    by_cases e : i = k
    · subst e
      have h3 := hI i s (Nat.le_refl _) (by omega) h
      have := itr_inv (fun s => I s ∧ M s) m (i + 1) (f i s) (fun j s g1 g2 g3 => ⟨hI j s (by omega) (by omega) g3.1, hM j s (by omega) (by omega) g3.1 g3.2⟩) ⟨h3, hh s h⟩
      exact this.2
    · exact itr_hit I M m (i + 1) (f i s) k (by omega) (by omega) (fun j s g1 g2 => hI j s (by omega) (by omega)) (fun j s g1 g2 => hM j s (by omega) (by omega)) hh (hI i s (Nat.le_refl _) (by omega) h)
section DFS
variable {σ : Type} {E : Nat → Nat → Bool} {n lo : Nat} {act : List Nat → σ → σ}
theorem dfs_inv {I : σ → Prop} (P : List Nat → Prop) (hP : ∀ l i, P l → lo ≤ i → i < n → ¬ i ∈ l → E (hd l) i = true → P (i :: l)) (hI : ∀ l s, P l → I s → I (act l s)) : ∀ (f : Nat) (l : List Nat) (s : σ), P l → I s → I (dfs E n lo act f l s)
  | 0, l, s, h1, h2 => hI l s h1 h2
  | f + 1, l, s, h1, h2 => by
    rw [dfs]
    refine itr_inv I _ _ _ (fun k s g1 g2 g3 => ?_) (hI l s h1 h2)
    split
    · next c => exact dfs_inv P hP hI f (k :: l) s (hP l k h1 g1 (by omega) c.1 c.2) g3
    · exact g3
/-- things that may be put on a path one after the other -/
def extP (E : Nat → Nat → Bool) (n lo : Nat) : List Nat → List Nat → Prop
  | [], _ => True
  | i :: r, l => (lo ≤ i ∧ i < n ∧ ¬ i ∈ l ∧ E (hd l) i = true) ∧ extP E n lo r (i :: l)
theorem dfs_hit {I M : σ → Prop} (P : List Nat → Prop) (hP : ∀ l i, P l → lo ≤ i → i < n → ¬ i ∈ l → E (hd l) i = true → P (i :: l)) (hI : ∀ l s, P l → I s → I (act l s)) (hM : ∀ l s, P l → I s → M s → M (act l s)) {t : List Nat} (ht : ∀ s, I s → M (act t s)) : ∀ (r : List Nat) (f : Nat) (l : List Nat) (s : σ), r.length ≤ f → extP E n lo r l → P l → I s → t = r.reverse ++ l → M (dfs E n lo act f l s)
  | [], f, l, s, _, _, h1, h2, e => by
    have e2 : t = l := by simpa using e
    subst e2
    have key : ∀ k l s, P l → I s ∧ M s → I (dfs E n lo act k l s) ∧ M (dfs E n lo act k l s) := fun k => dfs_inv (I := fun s => I s ∧ M s) P hP (fun l s h1 h2 => ⟨hI l s h1 h2.1, hM l s h1 h2.1 h2.2⟩) k
    cases f with
    | zero => exact ht s h2
    | succ f =>
      rw [dfs]
      have := itr_inv (fun s => I s ∧ M s) (n - lo) lo (act t s) (f := fun i s => if ¬ i ∈ t ∧ E (hd t) i = true then dfs E n lo act f (i :: t) s else s) (fun k s g1 g2 g3 => by
        split
        · next c => exact key f (k :: t) s (hP t k h1 g1 (by omega) c.1 c.2) g3
        · exact g3) ⟨hI t s h1 h2, ht s h2⟩
      exact this.2
  | i :: r, 0, l, s, h0, _, _, _, _ => by simp at h0
  | i :: r, f + 1, l, s, h0, hx, h1, h2, e => by
    rw [dfs]
    obtain ⟨⟨x1, x2, x3, x4⟩, x5⟩ := hx
    refine itr_hit I M (n - lo) lo (act l s) i x1 (by omega) (fun j s g1 g2 g3 => ?_) (fun j s g1 g2 g3 g4 => ?_) (fun s g => ?_) (hI l s h1 h2)
    · split
      · next c => exact dfs_inv P hP hI f (j :: l) s (hP l j h1 g1 (by omega) c.1 c.2) g3
      · exact g3
    · split
      · next c => exact (dfs_inv (I := fun s => I s ∧ M s) P hP (fun l s h1 h2 => ⟨hI l s h1 h2.1, hM l s h1 h2.1 h2.2⟩) f (j :: l) s (hP l j h1 g1 (by omega) c.1 c.2) ⟨g3, g4⟩).2
      · exact g4
    · rw [if_pos ⟨x3, x4⟩]
      exact dfs_hit P hP hI hM ht r f (i :: l) s (by simpa using h0) x5 (hP l i h1 x1 x2 x3 x4) g (by rw [e]; simp)
theorem extP_snoc {x : Nat} : ∀ (r l : List Nat), extP E n lo (r ++ [x]) l ↔ extP E n lo r l ∧ lo ≤ x ∧ x < n ∧ ¬ x ∈ r.reverse ++ l ∧ E (hd (r.reverse ++ l)) x = true
  | [], l => by
    show ((lo ≤ x ∧ x < n ∧ ¬ x ∈ l ∧ E (hd l) x = true) ∧ True) ↔ True ∧ _
    simp
  | i :: r, l => by
    have ih := extP_snoc (x := x) r (i :: l)
    show (_ ∧ extP E n lo (r ++ [x]) (i :: l)) ↔ (_ ∧ extP E n lo r (i :: l)) ∧ _
    rw [ih, show (i :: r).reverse ++ l = r.reverse ++ (i :: l) by simp]
    exact ⟨fun h => ⟨⟨h.1, h.2.1⟩, h.2.2⟩, fun h => ⟨h.1.1, h.1.2, h.2⟩⟩
/-- a path is what its things are, put on one after the other -/
theorem extP_of {l : List Nat} (hl : l ≠ []) : ∀ r : List Nat, (r ++ l).Nodup → chn E (r ++ l) → (∀ x, x ∈ r → lo ≤ x ∧ x < n) → extP E n lo r.reverse l
  | [], _, _, _ => trivial
  | x :: r, h1, h2, h3 => by
    have hne : r ++ l ≠ [] := by simp [hl]
    rw [List.cons_append] at h1 h2
    obtain ⟨g1, g2⟩ := (chn_cons hne).mp h2
    obtain ⟨g3, g4⟩ := List.nodup_cons.mp h1
    rw [List.reverse_cons, extP_snoc, List.reverse_reverse]
    exact ⟨extP_of hl r g4 g2 (fun y hy => h3 y (List.mem_cons_of_mem _ hy)), (h3 x List.mem_cons_self).1, (h3 x List.mem_cons_self).2, g3, g1⟩
theorem pth_cons {l : List Nat} {i : Nat} (h : pth E n l) (h1 : i < n) (h2 : ¬ i ∈ l) (h3 : E (hd l) i = true) : pth E n (i :: l) := ⟨by simp, fun x hx => (List.mem_cons.mp hx).elim (fun e => e ▸ h1) (h.2.1 x), List.nodup_cons.mpr ⟨h2, h.2.2.1⟩, (chn_cons h.1).mpr ⟨h3, h.2.2.2⟩⟩
end DFS
