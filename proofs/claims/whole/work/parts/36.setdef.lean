/-! Leaving.settle: the steps of what it computes. Own text. -/
theorem nI_or (a b : Nat) : nI a ||| nI b = nI (a ||| b) := Int32.toBitVec_inj.mp (by
  rw [Int32.toBitVec_or]
  show BitVec.ofNat 32 a ||| BitVec.ofNat 32 b = BitVec.ofNat 32 (a ||| b)
  apply BitVec.eq_of_getLsbD_eq
  intro i hi
  simp [Nat.testBit_or])
theorem nI_pow : ∀ k, k < 31 → ((1 : Int32) <<< (nI k &&& 31)) = nI (2 ^ k) := by decide +kernel
theorem or_lt15 {a k : Nat} (ha : a < 32768) (hk : k < 15) : a ||| 2 ^ k < 32768 := by
  have h1 : 2 ^ k < 2 ^ 15 := Nat.pow_lt_pow_right (by decide) hk
  exact Nat.or_lt_two_pow (n := 15) ha h1
theorem setF_done {w : tbW} {n jn hp sz : Nat} {gr : Nat → Nat} {wt : Nat → Int32} {b : Nat × Nat} (h : b.1 ≤ sz) : ∀ k, setF w n k jn gr wt hp sz b = b
  | 0 => by rw [setF, if_pos h]
  | k + 1 => by rw [setF, if_pos h]
theorem setF_fst (w : tbW) (n : Nat) : ∀ (k jn : Nat) (gr : Nat → Nat) (wt : Nat → Int32) (hp sz : Nat) (b : Nat × Nat), (setF w n k jn gr wt hp sz b).1 ≤ b.1
  | 0, jn, gr, wt, hp, sz, b => by
    rw [setF]
    split
    · exact Nat.le_refl _
    · show sz ≤ b.1; omega
  | k + 1, jn, gr, wt, hp, sz, b => by
    rw [setF]
    split
    · exact Nat.le_refl _
    · split
      · exact setF_fst w n k _ _ _ _ _ _
      · split
        · exact Nat.le_trans (setF_fst w n k _ _ _ _ _ _) (setF_fst w n k _ _ _ _ _ _)
        · split
          · exact setF_fst w n k _ _ _ _ _ _
          · exact setF_fst w n k _ _ _ _ _ _
section SETF
variable {w : tbW} {n k jn hp sz : Nat} {gr : Nat → Nat} {wt : Nat → Int32} {b : Nat × Nat}
theorem setF_1 (h : ¬ b.1 ≤ sz) (h1 : tH w (pu n k) (pl n k) = false) : setF w n (k + 1) jn gr wt hp sz b = setF w n k jn gr wt hp sz b := by rw [setF, if_neg h, if_pos h1]
theorem setF_2 (h : ¬ b.1 ≤ sz) (h1 : tH w (pu n k) (pl n k) = true) (h2 : ¬ gr (pu n k) = gr (pl n k)) (h3 : jn + 1 < n) : setF w n (k + 1) jn gr wt hp sz b = setF w n k jn gr wt (hp ||| 2 ^ k) (sz + 1) (setF w n k (jn + 1) (joinG gr (pu n k) (pl n k)) (joinW gr wt (pu n k) (pl n k) (logW w (pu n k) (pl n k))) hp sz b) := by rw [setF, if_neg h, if_neg (by rw [h1]; decide), if_pos ⟨h2, h3⟩]
theorem setF_3 (h : ¬ b.1 ≤ sz) (h1 : tH w (pu n k) (pl n k) = true) (h2 : gr (pu n k) = gr (pl n k)) (h3 : wt (pu n k) - wt (pl n k) = logW w (pu n k) (pl n k)) : setF w n (k + 1) jn gr wt hp sz b = setF w n k jn gr wt hp sz b := by rw [setF, if_neg h, if_neg (by rw [h1]; decide), if_neg (fun q => q.1 h2), if_pos ⟨h2, h3⟩]
theorem setF_4 (h : ¬ b.1 ≤ sz) (h1 : tH w (pu n k) (pl n k) = true) (h2 : ¬ (¬ gr (pu n k) = gr (pl n k) ∧ jn + 1 < n)) (h3 : ¬ (gr (pu n k) = gr (pl n k) ∧ wt (pu n k) - wt (pl n k) = logW w (pu n k) (pl n k))) : setF w n (k + 1) jn gr wt hp sz b = setF w n k jn gr wt (hp ||| 2 ^ k) (sz + 1) b := by rw [setF, if_neg h, if_neg (by rw [h1]; decide), if_neg h2, if_neg h3]
end SETF
/-- what settle leaves -/
def stO (w : tbW) (n v jn : Nat) (G : Nat → Nat → Nat) (Wt : Nat → Nat → Int32) (b : Nat × Nat) (hs : xk_H) (r : Option Value) (h : xk_H) : Prop :=
  r = none ∧ (∃ (G' : Nat → Nat → Nat) (W' : Nat → Nat → Int32), lvA h v n G' W' b.1 b.2 ∧ (∀ x y, G' x y < 6) ∧ (∀ x y, x ≤ jn → y < n → G' x y = G x y ∧ W' x y = Wt x y)) ∧ xfr (lvS v n) hs h
theorem joinG_lt {gr : Nat → Nat} (h : ∀ x, gr x < 6) (i j x : Nat) : joinG gr i j x < 6 := by
  unfold joinG
  split
  · exact h i
  · exact h x
theorem joinA_lt {G : Nat → Nat → Nat} (h : ∀ x y, G x y < 6) (jn i j x y : Nat) : (if x = jn + 1 then joinG (G jn) i j y else G x y) < 6 := by
  split
  · exact joinG_lt (h jn) i j y
  · exact h x y
/-- how many are to be left out, and which -/
def leaveF (w : tbW) (n : Nat) : Nat × Nat := setF w n (n * (n - 1) / 2) 0 id (fun _ => 0) 0 0 (n * (n - 1) / 2 + 1, 0)
