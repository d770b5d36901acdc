/-! TreeCount: what it computes. Own text. -/
abbrev mtM : Type := Nat → Nat → Int32
def mtA (hs : xk_H) (u s : Nat) (M : mtM) : Prop :=
  hs[u]? = some (.inr (5, [.int (nI s), .ref (u + 1)])) ∧ hs[u + 1]? = some (.inl (3, s, .inr (.inr (.inr (.inr (fun i => if i < s then some (u + 2 + i) else none)))))) ∧ ∀ i, i < s → ∃ f : Nat → Int32, hs[u + 2 + i]? = some (.inl (0, s, .inl f)) ∧ ∀ j, j < s → f j = M i j
def mtS (u s : Nat) : Nat → Prop := fun k => u ≤ k ∧ k < u + 2 + s
theorem mtA.put {hs : xk_H} {u s i j : Nat} {M : mtM} {f : Nat → Int32} {x : Int32} (h : mtA hs u s M) (hi : i < s) (hf : hs[u + 2 + i]? = some (.inl (0, s, .inl f))) : mtA (hs.set (u + 2 + i) (.inl (0, s, .inl (upd f j x)))) u s (fun a b => if a = i ∧ b = j then x else M a b) := by
  refine ⟨(xs_ne (by omega)).trans h.1, (xs_ne (by omega)).trans h.2.1, fun k hk => ?_⟩
  by_cases e : k = i
  · subst e
    refine ⟨_, xs_at hf, fun b hb => ?_⟩
    obtain ⟨f2, h1, h2⟩ := h.2.2 k hk
    rw [hf] at h1
    have e2 : f = f2 := by injection h1 with h1; injection h1 with h1; injection h1 with _ h1; injection h1 with _ h1; injection h1
    subst e2
    by_cases e3 : b = j
    · simp [upd, e3]
    · simp [upd, e3, h2 b hb]
  · obtain ⟨f2, h1, h2⟩ := h.2.2 k hk
    exact ⟨f2, (xs_ne (by omega)).trans h1, fun b hb => by simp [e, h2 b hb]⟩
theorem mtA.to {hs : xk_H} {u s : Nat} {M M' : mtM} (h : mtA hs u s M) (e : ∀ a b, a < s → b < s → M a b = M' a b) : mtA hs u s M' := by
  refine ⟨h.1, h.2.1, fun i hi => ?_⟩
  obtain ⟨f, h1, h2⟩ := h.2.2 i hi
  exact ⟨f, h1, fun j hj => (h2 j hj).trans (e i j hi hj)⟩
theorem mtA.kept {hs h : xk_H} {u s : Nat} {M : mtM} {S : Nat → Prop} (H : mtA hs u s M) (hf : xfr S hs h) (hS : ∀ k, mtS u s k → ¬ S k) : mtA h u s M := by
  refine ⟨?_, ?_, fun i hi => ?_⟩
  · rw [hf.2 _ (hS _ ⟨by omega, by omega⟩)]; exact H.1
  · rw [hf.2 _ (hS _ ⟨by omega, by omega⟩)]; exact H.2.1
  · obtain ⟨f, h1, h2⟩ := H.2.2 i hi
    exact ⟨f, by rw [hf.2 _ (hS _ ⟨by omega, by omega⟩)]; exact h1, h2⟩
/-- how many of the first j things are said with i -/
def cntT (w : tbW) (i : Nat) : Nat → Nat
  | 0 => 0
  | j + 1 => cntT w i j + (if tH w i j = true then 1 else 0)
theorem cntT_le (w : tbW) (i : Nat) : ∀ j, cntT w i j ≤ j
  | 0 => Nat.le_refl _
  | j + 1 => by
    have := cntT_le w i j
    rw [cntT]
    split <;> omega
def offV (w : tbW) (a b : Nat) : Int32 := if tH w a b = true then -1 else 0
/-- the matrix of the things but the last one -/
def lapM (w : tbW) (s : Nat) : mtM := fun a b => if a = b then nI ((if tH w a s = true then 1 else 0) + cntT w a s) else offV w a b
def elV (M : mtM) (st : Nat) (pv bf : Int32) (a b : Nat) : Int32 := (M a b * pv - M a st * M st b) / bf
def elimM (M : mtM) (st : Nat) (pv bf : Int32) : mtM := fun a b => if st < a ∧ st < b then elV M st pv bf a b else M a b
def ofM (s : Nat) : Nat → Nat → Int32 → mtM → Int32
  | 0, _, _, M => M (s - 1) (s - 1)
  | r + 1, st, bf, M => if M st st = 0 then 0 else ofM s r (st + 1) (M st st) (elimM M st (M st st) bf)
