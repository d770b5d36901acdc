/-! Constructors: what they leave. Own text. -/
theorem xk_gen {d mc ms : Nat} {M : xk_M} {fx : Nat → Prop} {out : Option Value → xk_H → Prop} {cs ss pc : Nat} {ls : List (Option Value)} {st : List Value} {hs : xk_H} {P : xk_H → Prop} (h : P hs) (kk : ∀ w, P w → xk_X d mc ms M fx out cs ss pc ls st w) : xk_X d mc ms M fx out cs ss pc ls st hs := kk hs h
/-- cells have come behind those of hs; of these only b has changed -/
def xext (b : Nat) (hs h : xk_H) (len : Nat) : Prop := h.length = hs.length + len ∧ ∀ k, k < hs.length → k ≠ b → h[k]? = hs[k]?
theorem tbA.ext {hs h : xk_H} {t n fl : Nat} {w : tbW} (H : tbA hs t n w fl) (hS : ∀ k, tbS t n k → h[k]? = hs[k]?) : tbA h t n w fl := by
  refine ⟨?_, ?_, fun i hi => ?_⟩
  · rw [hS _ ⟨by omega, by omega⟩]; exact H.1
  · rw [hS _ ⟨by omega, by omega⟩]; exact H.2.1
  · rw [hS _ ⟨by omega, by omega⟩]; exact H.2.2 i hi
theorem mtA.ext {hs h : xk_H} {u s : Nat} {M : mtM} (H : mtA hs u s M) (hS : ∀ k, mtS u s k → h[k]? = hs[k]?) : mtA h u s M := by
  refine ⟨?_, ?_, fun i hi => ?_⟩
  · rw [hS _ ⟨by omega, by omega⟩]; exact H.1
  · rw [hS _ ⟨by omega, by omega⟩]; exact H.2.1
  · obtain ⟨f, h1, h2⟩ := H.2.2 i hi
    exact ⟨f, by rw [hS _ ⟨by omega, by omega⟩]; exact h1, h2⟩
theorem lvA.ext {hs h : xk_H} {v n fw lh : Nat} {G : Nat → Nat → Nat} {Wt : Nat → Nat → Int32} (H : lvA hs v n G Wt fw lh) (hS : ∀ k, lvS v n k → h[k]? = hs[k]?) : lvA h v n G Wt fw lh := by
  obtain ⟨h1, ⟨f1, h2, h3⟩, ⟨f2, h4, h5⟩, h6, h7, h8, h9⟩ := H
  refine ⟨by rw [hS _ ⟨by omega, by omega⟩]; exact h1, ⟨f1, by rw [hS _ ⟨by omega, by omega⟩]; exact h2, h3⟩, ⟨f2, by rw [hS _ ⟨by omega, by omega⟩]; exact h4, h5⟩, by rw [hS _ ⟨by omega, by omega⟩]; exact h6, by rw [hS _ ⟨by omega, by omega⟩]; exact h7, fun k hk => ?_, fun k hk => ?_⟩
  · obtain ⟨g, g1, g2⟩ := h8 k hk
    exact ⟨g, by rw [hS _ ⟨by omega, by omega⟩]; exact g1, g2⟩
  · obtain ⟨g, g1, g2⟩ := h9 k hk
    exact ⟨g, by rw [hS _ ⟨by omega, by omega⟩]; exact g1, g2⟩
theorem rtA.ext {hs h : xk_H} {r : Nat} (H : rtA hs r) (hS : ∀ k, rtS r k → h[k]? = hs[k]?) : rtA h r := by
  obtain ⟨h1, h2, ⟨N, h3, h4⟩, h5, N2, h6, h7⟩ := H
  exact ⟨by rw [hS _ ⟨by omega, by omega⟩]; exact h1, by rw [hS _ ⟨by omega, by omega⟩]; exact h2, ⟨N, h3, by rw [hS _ ⟨by omega, by omega⟩]; exact h4⟩, by rw [hS _ ⟨by omega, by omega⟩]; exact h5, N2, h6, by rw [hS _ ⟨by omega, by omega⟩]; exact h7⟩
theorem bw_0 : (.inl (1, 8, .inr (.inl (fun _ => 0))) : xk_C) = bw 0 := by
  unfold bw
  refine congrArg (fun x => (Sum.inl (1, 8, Sum.inr (Sum.inl x)) : xk_C)) (funext fun j => ?_)
  unfold limb
  rw [Nat.zero_div, Nat.zero_mod]
  rfl
theorem gw_0 (n : Nat) : (.inl (1, n + 1, .inr (.inl (fun _ => 0))) : xk_C) = gw n (fun _ => (0, 0)) := by
  unfold gw
  refine congrArg (fun x => (Sum.inl (1, n + 1, Sum.inr (Sum.inl x)) : xk_C)) (funext fun j => ?_)
  show (0 : Int64) = fr 0 0
  decide
theorem iarr_0 (k : Nat) : (.inl (0, k, .inl (fun _ => 0)) : xk_C) = iarr k (fun _ => 0) := rfl
/-- nothing said -/
def w0 (n : Nat) : tbW := fun _ j => if j < n then (0, 1) else (0, 0)
theorem w0_ok (n : Nat) : tbOK n (w0 n) := fun i j _ hj => Or.inl (if_pos hj)
theorem w0_row (n i : Nat) : fillF (fun _ => 0) n 1 = tbRow (w0 n) i := funext fun j => by
  unfold fillF tbRow w0
  by_cases h : j < n
  · rw [if_pos h, if_pos h]; rfl
  · rw [if_neg h, if_neg h]; rfl
/-- how many things -/
def thE (t : Int32) : Int32 := if (2 : Int32) < (if t < 6 then t else 6) then (if t < 6 then t else 6) else 2
def thN (t : Int32) : Nat := (thE t).toNatClampNeg
theorem thN_ok (t : Int32) : 2 ≤ thN t ∧ thN t ≤ 6 ∧ thE t = nI (thN t) := by
  have key : ∀ k : Nat, 2 ≤ k → k ≤ 6 → thE t = nI k → 2 ≤ thN t ∧ thN t ≤ 6 ∧ thE t = nI (thN t) := by
    intro k h1 h2 h3
    have e : thN t = k := by unfold thN; rw [h3, nI_clamp (by omega)]
    rw [e]
    exact ⟨h1, h2, h3⟩
  unfold thE at key ⊢
  by_cases h : t < 6
  · by_cases h2 : (2 : Int32) < t
    · have h0 : ¬ t < 0 := by
        intro z
        have a1 := Int32.lt_iff_toInt_lt.mp z
        have a2 := Int32.lt_iff_toInt_lt.mp h2
        have e1 : (2 : Int32).toInt = 2 := by decide
        have e2 : (0 : Int32).toInt = 0 := by decide
        omega
      obtain ⟨j, hj, rfl⟩ := nI_of h0
      have b1 := (nI_ltI (a := 2) (b := j) (by decide) hj).mp h2
      have b2 := (nI_ltI (a := j) (b := 6) hj (by decide)).mp h
      exact key j (by omega) (by omega) (by rw [if_pos h, if_pos h2])
    · exact key 2 (by omega) (by omega) (by rw [if_pos h, if_neg h2]; rfl)
  · exact key 6 (by omega) (by omega) (by rw [if_neg h]; decide)
/-- how many pairs begin ahead of i -/
def po (n i : Nat) : Nat := ((prs n).filter (fun q => decide (q.1 < i))).length
def poT (n i j : Nat) : Bool := decide (pu n (po n i + (j - (i + 1))) = i) && decide (pl n (po n i + (j - (i + 1))) = j) && decide (po n i + (j - (i + 1)) < n * (n - 1) / 2)
theorem po_t : ∀ n, n < 7 → ∀ i, i < n → (∀ j, j < n → i < j → poT n i j = true) ∧ po n (i + 1) = po n i + (n - (i + 1)) ∧ po n 0 = 0 ∧ po n n = n * (n - 1) / 2 := by decide +kernel
theorem po_at {n i j : Nat} (hn : n < 7) (hi : i < n) (hj : j < n) (hij : i < j) : pu n (po n i + (j - (i + 1))) = i ∧ pl n (po n i + (j - (i + 1))) = j ∧ po n i + (j - (i + 1)) < n * (n - 1) / 2 := by
  have h := (po_t n hn i hi).1 j hj hij
  simp only [poT, Bool.and_eq_true, decide_eq_true_eq] at h
  exact ⟨h.1.1, h.1.2, h.2⟩
theorem pu_hi : ∀ n, n < 7 → ∀ k, n * (n - 1) / 2 ≤ k → pu n k = 0 ∧ pl n k = 0 := by
  intro n hn k hk
  have hl : ∀ n, n < 7 → (prs n).length = n * (n - 1) / 2 := by decide +kernel
  unfold pu pl
  rw [List.getD_eq_getElem?_getD, List.getElem?_eq_none (by rw [hl n hn]; exact hk)]
  exact ⟨rfl, rfl⟩
/-- the first k of f, then nothing -/
def firstN (f : Nat → Nat) (k : Nat) : Nat → Nat := fun j => if j < k then f j else 0
theorem firstN_s (f : Nat → Nat) (k : Nat) : updN (firstN f k) k (f k) = firstN f (k + 1) := funext fun j => by
  unfold updN firstN
  by_cases h : j = k
  · subst h; simp
  · rw [if_neg h]
    by_cases h2 : j < k
    · rw [if_pos h2, if_pos (by omega)]
    · rw [if_neg h2, if_neg (by omega)]
theorem firstN_0 (f : Nat → Nat) : firstN f 0 = fun _ => 0 := funext fun j => by unfold firstN; rw [if_neg (by omega)]
theorem firstN_all {f : Nat → Nat} {k : Nat} (h : ∀ j, k ≤ j → f j = 0) : firstN f k = f := funext fun j => by
  unfold firstN
  by_cases h2 : j < k
  · rw [if_pos h2]
  · rw [if_neg h2, h j (by omega)]
