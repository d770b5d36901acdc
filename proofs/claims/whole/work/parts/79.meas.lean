/-! What Rings' measure finds: for each size the greatest product. Own text. -/
theorem le_cross {p q r : Nat × Nat} (hq : 1 ≤ q.2) (h1 : p.1 * q.2 ≤ q.1 * p.2) (h2 : q.1 * r.2 ≤ r.1 * q.2) : p.1 * r.2 ≤ r.1 * p.2 := by
  apply Nat.le_of_mul_le_mul_right (c := q.2) _ hq
  have l1 : p.1 * r.2 * q.2 = (p.1 * q.2) * r.2 := by ac_rfl
  have l2 : (q.1 * p.2) * r.2 = (q.1 * r.2) * p.2 := by ac_rfl
  have l3 : (r.1 * q.2) * p.2 = r.1 * p.2 * q.2 := by ac_rfl
  have a1 : (p.1 * q.2) * r.2 ≤ (q.1 * p.2) * r.2 := Nat.mul_le_mul_right _ h1
  have a2 : (q.1 * r.2) * p.2 ≤ (r.1 * q.2) * p.2 := Nat.mul_le_mul_right _ h2
  rw [l1, ← l3]
  rw [l2] at a1
  exact Nat.le_trans a1 a2
section MEAS
variable {n : Nat} {w : tbW}
theorem pd_2 (ho : tbOK n w) : ∀ l : List Nat, (∀ x, x ∈ l → x < n) → 1 ≤ (pd w l).2
  | [], _ => Nat.le_refl _
  | [_], _ => Nat.le_refl _
  | b :: c :: q, h => Nat.mul_pos (pd_2 ho (c :: q) (fun x hx => h x (List.mem_cons_of_mem _ hx))) (ho.lt (h c (by simp)) (h b (by simp))).2.2
theorem tH_dg {i j : Nat} (ho : tbOK n w) (hi : i < n) (hj : j < n) (h : tH w i j = true) : dg (w i j) := by
  rcases ho i j hi hj with h1 | ⟨h1, h2, h3, h4⟩
  · exact absurd h1 (tH_iff.mp h).2
  · exact ⟨⟨h1, h2⟩, h3, h4⟩
theorem pd_1 (ho : tbOK n w) : ∀ l : List Nat, (∀ x, x ∈ l → x < n) → chn (tH w) l → 1 ≤ (pd w l).1
  | [], _, _ => Nat.le_refl _
  | [_], _, _ => Nat.le_refl _
  | b :: c :: q, h, hc => Nat.mul_pos (pd_1 ho (c :: q) (fun x hx => h x (List.mem_cons_of_mem _ hx)) hc.2) (tH_dg ho (h c (by simp)) (h b (by simp)) hc.1).1.1
theorem rp_pos (ho : tbOK n w) {l : List Nat} (h : rng (tH w) n l) : 1 ≤ (rp w l).1 ∧ 1 ≤ (rp w l).2 := by
  have h1 := tH_dg ho (h.1.2.1 _ (hd_in h.1.1)) (h.1.2.1 _ (lastN_in h.1.1)) h.2.2
  exact ⟨Nat.mul_pos (pd_1 ho l h.1.2.1 h.1.2.2.2) h1.1.1, Nat.mul_pos (pd_2 ho l h.1.2.1) h1.2.1⟩
def actG (w : tbW) (a : Nat) : List Nat → gS → gS := fun l g => clG w a (hd l) l.length (pd w l) g
def mkL (m : Nat) (l : List Nat) : Prop := ∀ k, k < 6 → (m.testBit k = true ↔ k ∈ l)
theorem ext_dfs (hn : n ≤ 6) {a : Nat} : ∀ (f b : Nat) (q : List Nat) (m : Nat) (g : gS), mkL m (b :: q) → extG w n a f b m (q.length + 1) (pd w (b :: q)) g = dfs (tH w) n (a + 1) (actG w a) f (b :: q) g
  | 0, b, q, m, g, _ => rfl
  | f + 1, b, q, m, g, hm => by
    rw [extG, dfs]
    refine itr_congr _ _ _ (fun k s h1 h2 => ?_)
    have hk : k < 6 := by omega
    have e := hm k hk
    have ec : (m.testBit k = false ∧ tH w b k = true) ↔ (¬ k ∈ b :: q ∧ tH w (hd (b :: q)) k = true) := by
      rw [← e]
      show (m.testBit k = false ∧ tH w b k = true) ↔ (¬ m.testBit k = true ∧ tH w b k = true)
      simp
    by_cases c : m.testBit k = false ∧ tH w b k = true
    · rw [if_pos c, if_pos (ec.mp c)]
      refine ext_dfs hn f k (b :: q) (m ||| 2 ^ k) s (fun x hx => ?_)
      rw [Nat.testBit_or, Nat.testBit_two_pow, Bool.or_eq_true, hm x hx, decide_eq_true_eq, List.mem_cons (a := x) (b := k)]
      constructor
      · rintro (h | h)
        · exact Or.inr h
        · exact Or.inl h.symm
      · rintro (h | h)
        · exact Or.inr h.symm
        · exact Or.inl h
    · rw [if_neg c, if_neg (fun z => c (ec.mpr z))]
theorem meas_dfs (hn : n ≤ 6) (g : gS) : measG w n g = itr (fun a g => dfs (tH w) n (a + 1) (actG w a) (n - 1) [a] g) n 0 (fun j => if j < n + 1 then (0, 1) else g j) := by
  unfold measG
  refine itr_congr _ _ _ (fun a s h1 h2 => ?_)
  refine ext_dfs hn (n - 1) a [] (2 ^ a) s (fun k hk => ?_)
  rw [Nat.testBit_two_pow, decide_eq_true_eq, List.mem_singleton]
  exact ⟨Eq.symm, Eq.symm⟩
def pthA (w : tbW) (n a : Nat) (l : List Nat) : Prop := pth (tH w) n l ∧ lastN l = a
theorem pthA_s {a : Nat} (l : List Nat) (i : Nat) (h : pthA w n a l) (_ : a + 1 ≤ i) (h2 : i < n) (h3 : ¬ i ∈ l) (h4 : tH w (hd l) i = true) : pthA w n a (i :: l) := ⟨pth_cons h.1 h2 h3 h4, by rw [lastN_cons h.1.1]; exact h.2⟩
theorem pthA_0 {a : Nat} (ha : a < n) : pthA w n a [a] := ⟨⟨by simp, fun x hx => by rw [List.mem_singleton.mp hx]; exact ha, by simp, trivial⟩, rfl⟩
/-- the act at a path: the ring is closed if it can be -/
theorem actG_eq {a : Nat} {l : List Nat} {g : gS} (h : pthA w n a l) : actG w a l g = if 3 ≤ l.length ∧ tH w (hd l) a = true then closeG g l.length (rp w l) else g := by
  unfold actG clG rp
  rw [h.2]
theorem actG_rng {a : Nat} {l : List Nat} (h : pthA w n a l) (c : 3 ≤ l.length ∧ tH w (hd l) a = true) : rng (tH w) n l := ⟨h.1, by omega, by rw [h.2]; exact c.2⟩
def measI (w : tbW) (n : Nat) (g : gS) : Prop := ∀ z, z ≤ n → g z = (0, 1) ∨ ∃ l, rng (tH w) n l ∧ 3 ≤ l.length ∧ l.length = z ∧ g z = rp w l
theorem meas_E (hn : n ≤ 6) (g : gS) : measI w n (measG w n g) := by
  rw [meas_dfs hn]
  refine itr_inv (measI w n) n 0 _ (fun a s h1 h2 h3 => ?_) (fun z hz => Or.inl (if_pos (by omega)))
  refine dfs_inv (pthA w n a) pthA_s (fun l s hl hs => ?_) (n - 1) [a] s (pthA_0 (by omega)) h3
  rw [actG_eq hl]
  split
  · next c =>
    unfold closeG
    split
    · intro z hz
      by_cases e : z = l.length
      · right
        exact ⟨l, actG_rng hl c, c.1, e.symm, by unfold gUp; rw [if_pos e]⟩
      · have := hs z hz
        unfold gUp
        rw [if_neg e]
        exact this
    · exact hs
  · exact hs
def den1 (n : Nat) (g : gS) : Prop := ∀ z, z ≤ n → 1 ≤ (g z).2
theorem pth_len {E : Nat → Nat → Bool} {l : List Nat} (h : pth E n l) : l.length ≤ n := nod_le n l h.2.2.1 h.2.1
theorem actG_den (ho : tbOK n w) {a : Nat} (l : List Nat) (s : gS) (hl : pthA w n a l) (hs : den1 n s) : den1 n (actG w a l s) := by
  rw [actG_eq hl]
  split
  · next c =>
    unfold closeG
    split
    · intro z hz
      unfold gUp
      split
      · exact (rp_pos ho (actG_rng hl c)).2
      · exact hs z hz
    · exact hs
  · exact hs
theorem meas_U (hn : n ≤ 6) (ho : tbOK n w) (g : gS) {l : List Nat} (hl : rng (tH w) n l) (h3 : 3 ≤ l.length) : (rp w l).1 * (measG w n g l.length).2 ≤ (measG w n g l.length).1 * (rp w l).2 := by
  obtain ⟨r, a, h1, h2, h4, h5⟩ := rng_least (W := w) hl
  rw [← h2, ← h4]
  have h3' : 3 ≤ (r ++ [a]).length := by omega
  rw [meas_dfs hn]
  have ha : a < n := h1.1.2.1 a (by simp)
  have hlen := pth_len h1.1
  have hM : ∀ (b : Nat) (l : List Nat) (s : gS), pthA w n b l → den1 n s → (rp w (r ++ [a])).1 * (s (r ++ [a]).length).2 ≤ (s (r ++ [a]).length).1 * (rp w (r ++ [a])).2 → (rp w (r ++ [a])).1 * (actG w b l s (r ++ [a]).length).2 ≤ (actG w b l s (r ++ [a]).length).1 * (rp w (r ++ [a])).2 := by
    intro b l s hl hd hm
    rw [actG_eq hl]
    split
    · unfold closeG
      split
      · next c2 =>
        unfold gUp
        by_cases e : (r ++ [a]).length = l.length
        · rw [if_pos e]
          rw [← e] at c2
          exact le_cross (hd _ hlen) hm (Nat.le_of_lt c2)
        · rw [if_neg e]
          exact hm
      · exact hm
    · exact hm
  refine itr_hit (den1 n) (fun s => (rp w (r ++ [a])).1 * (s (r ++ [a]).length).2 ≤ (s (r ++ [a]).length).1 * (rp w (r ++ [a])).2) n 0 _ a (Nat.zero_le _) (by omega) (fun b s g1 g2 g3 => ?_) (fun b s g1 g2 g3 g4 => ?_) (fun s g3 => ?_) (fun z hz => by rw [if_pos (by omega)]; exact Nat.le_refl _)
  · exact dfs_inv (pthA w n b) pthA_s (actG_den ho) (n - 1) [b] s (pthA_0 (by omega)) g3
  · exact (dfs_inv (I := fun s => den1 n s ∧ (rp w (r ++ [a])).1 * (s (r ++ [a]).length).2 ≤ (s (r ++ [a]).length).1 * (rp w (r ++ [a])).2) (pthA w n b) pthA_s (fun l s hl hs => ⟨actG_den ho l s hl hs.1, hM b l s hl hs.1 hs.2⟩) (n - 1) [b] s (pthA_0 (by omega)) ⟨g3, g4⟩).2
  · refine dfs_hit (I := den1 n) (M := fun s => (rp w (r ++ [a])).1 * (s (r ++ [a]).length).2 ≤ (s (r ++ [a]).length).1 * (rp w (r ++ [a])).2) (t := r ++ [a]) (pthA w n a) pthA_s (actG_den ho) (hM a) (fun s hs => ?_) r.reverse (n - 1) [a] s (by rw [List.length_reverse]; rw [List.length_append, List.length_singleton] at hlen; omega) (extP_of (by simp) r h1.1.2.2.1 h1.1.2.2.2 (fun x hx => ⟨h5 x hx, h1.1.2.1 x (by simp [hx])⟩)) (pthA_0 ha) g3 (by rw [List.reverse_reverse])
    have hA : pthA w n a (r ++ [a]) := ⟨h1.1, lastN_app r a⟩
    have hc : tH w (hd (r ++ [a])) a = true := by
      have := h1.2.2
      rw [lastN_app] at this
      exact this
    rw [actG_eq hA, if_pos ⟨h3', hc⟩]
    unfold closeG
    split
    · unfold gUp
      rw [if_pos rfl]
      exact Nat.le_refl _
    · next c2 => omega
theorem none_iffk {g : gS} : ∀ (r z : Nat), noneG g r z = true ↔ ∀ k, z ≤ k → k < z + r → (g k).1 ≤ (g k).2
  | 0, z => ⟨fun _ k h1 h2 => by omega, fun _ => rfl⟩
  | r + 1, z => by
    rw [noneG]
    by_cases c : (g z).2 < (g z).1
    · rw [if_pos c]
      exact ⟨fun h => absurd h (by decide), fun h => by have := h z (Nat.le_refl _) (by omega); omega⟩
    · rw [if_neg c, none_iffk r (z + 1)]
      constructor
      · intro h k h1 h2
        by_cases e : k = z
        · subst e; omega
        · exact h k (by omega) (by omega)
      · intro h k h1 h2
        exact h k (by omega) (by omega)
/-- no ring of three things or more is above 1 -/
def allLe (w : tbW) (n : Nat) : Prop := ∀ l, rng (tH w) n l → 3 ≤ l.length → (rp w l).1 ≤ (rp w l).2
theorem none_iff (hn : n ≤ 6) (h2 : 2 ≤ n) (ho : tbOK n w) (g : gS) : noneG (measG w n g) (n - 2) 3 = true ↔ allLe w n := by
  rw [none_iffk]
  constructor
  · intro h l hl h3
    have h4 := pth_len hl.1
    have h5 := meas_U hn ho g hl h3
    have h6 := h l.length h3 (by omega)
    have h7 : 1 ≤ (measG w n g l.length).2 := (gZ_meas ho l.length h4).2.1
    have := le_cross (r := (1, 1)) h7 h5 (by rw [Nat.mul_one, Nat.one_mul]; exact h6)
    rw [Nat.mul_one, Nat.one_mul] at this
    exact this
  · intro h k h1 h3
    rcases meas_E (w := w) hn g k (by omega) with e | ⟨l, e1, e2, e3, e4⟩
    · rw [e]; decide
    · rw [e4]
      exact h l e1 e2
end MEAS
