/-! PairScales: all its cells. Own text. -/
def rtA (hs : xk_H) (r : Nat) : Prop :=
  hs[r]? = some (.inr (3, [.ref (r + 1), .ref (r + 3)])) ∧ hs[r + 1]? = some (.inr (0, [.ref (r + 1 + 1)])) ∧ (∃ N, N < 2 ^ 240 ∧ hs[r + 1 + 1]? = some (bw N)) ∧ hs[r + 3]? = some (.inr (0, [.ref (r + 3 + 1)])) ∧ ∃ N, N < 2 ^ 240 ∧ hs[r + 3 + 1]? = some (bw N)
def rtS (r : Nat) : Nat → Prop := fun k => r ≤ k ∧ k < r + 5
theorem rtA.kept {hs h : xk_H} {r : Nat} {S : Nat → Prop} (H : rtA hs r) (hf : xfr S hs h) (hS : ∀ k, rtS r k → ¬ S k) : rtA h r := by
  obtain ⟨h1, h2, ⟨N, h3, h4⟩, h5, N2, h6, h7⟩ := H
  exact ⟨by rw [hf.2 _ (hS _ ⟨by omega, by omega⟩)]; exact h1, by rw [hf.2 _ (hS _ ⟨by omega, by omega⟩)]; exact h2, ⟨N, h3, by rw [hf.2 _ (hS _ ⟨by omega, by omega⟩)]; exact h4⟩, by rw [hf.2 _ (hS _ ⟨by omega, by omega⟩)]; exact h5, N2, h6, by rw [hf.2 _ (hS _ ⟨by omega, by omega⟩)]; exact h7⟩
def xsO (hs : xk_H) (x n : Nat) : Prop := hs[x]? = some (.inr (7, [.int (nI n), .ref (x + 1), .ref (x + n + 3), .ref (x + 2 * n + 5), .ref (x + 2 * n + 6), .ref (x + 2 * n + 8), .ref (x + 3 * n + 9), .ref (x + 5 * n + 14)]))
def xsW (hs : xk_H) (x n : Nat) : Prop := ∃ s : woS, hs[x + 2 * n + 5]? = some (woO n s) ∧ woB s
def xsG (hs : xk_H) (x n : Nat) : Prop := hs[x + 2 * n + 6]? = some (.inr (2, [.int (nI n), .ref (x + 2 * n + 6 + 1)])) ∧ ∃ g, hs[x + 2 * n + 6 + 1]? = some (gw n g) ∧ gB g
def xsL (hs : xk_H) (x n : Nat) : Prop := ∃ (G : Nat → Nat → Nat) (Wt : Nat → Nat → Int32) (fw lh : Nat), lvA hs (x + 3 * n + 9) n G Wt fw lh ∧ (∀ a b, G a b < 6) ∧ ∀ y, y < n → G 0 y = y ∧ Wt 0 y = 0
def xsA (hs : xk_H) (x n : Nat) (w : tbW) (fl : Nat) (v : tbW) (fv : Nat) : Prop :=
  xsO hs x n ∧ tbA hs (x + 1) n w fl ∧ tbA hs (x + n + 3) n v fv ∧ xsW hs x n ∧ xsG hs x n ∧ (∃ M, mtA hs (x + 2 * n + 8) (n - 1) M) ∧ xsL hs x n ∧ rtA hs (x + 5 * n + 14)
def xsS (x n : Nat) : Nat → Prop := fun k => x ≤ k ∧ k < x + 5 * n + 19
theorem xsO.kept {hs h : xk_H} {x n : Nat} {S : Nat → Prop} (H : xsO hs x n) (hf : xfr S hs h) (hS : ¬ S x) : xsO h x n := (hf.2 _ hS).trans H
theorem xsW.kept {hs h : xk_H} {x n : Nat} {S : Nat → Prop} (H : xsW hs x n) (hf : xfr S hs h) (hS : ¬ S (x + 2 * n + 5)) : xsW h x n := by
  obtain ⟨s, h1, h2⟩ := H
  exact ⟨s, (hf.2 _ hS).trans h1, h2⟩
theorem xsG.kept {hs h : xk_H} {x n : Nat} {S : Nat → Prop} (H : xsG hs x n) (hf : xfr S hs h) (hS : ¬ S (x + 2 * n + 6)) (hS2 : ¬ S (x + 2 * n + 6 + 1)) : xsG h x n := by
  obtain ⟨h1, g, h2, h3⟩ := H
  exact ⟨(hf.2 _ hS).trans h1, g, (hf.2 _ hS2).trans h2, h3⟩
theorem xsL.kept {hs h : xk_H} {x n : Nat} {S : Nat → Prop} (H : xsL hs x n) (hf : xfr S hs h) (hS : ∀ k, lvS (x + 3 * n + 9) n k → ¬ S k) : xsL h x n := by
  obtain ⟨G, Wt, fw, lh, h1, h2⟩ := H
  exact ⟨G, Wt, fw, lh, h1.kept hf hS, h2⟩
theorem xsM.kept {hs h : xk_H} {u s : Nat} {S : Nat → Prop} (H : ∃ M, mtA hs u s M) (hf : xfr S hs h) (hS : ∀ k, mtS u s k → ¬ S k) : ∃ M, mtA h u s M := by
  obtain ⟨M, h1⟩ := H
  exact ⟨M, h1.kept hf hS⟩
section XSA
variable {hs h : xk_H} {x n : Nat} {w v w' v' : tbW} {fl fv fl' fv' : Nat}
theorem xsA.say (H : xsA hs x n w fl v fv) (hn : 2 ≤ n) (hf : xfr (tbS (x + 1) n) hs h) (hT : tbA h (x + 1) n w' fl') : xsA h x n w' fl' v fv := by
  obtain ⟨h1, h2, h3, h4, h5, h6, h7, h8⟩ := H
  exact ⟨h1.kept hf (by unfold tbS; omega), hT, h3.kept hf (by unfold tbS; omega), h4.kept hf (by unfold tbS; omega), h5.kept hf (by unfold tbS; omega) (by unfold tbS; omega), xsM.kept h6 hf (by unfold tbS mtS; omega), h7.kept hf (by unfold tbS lvS; omega), h8.kept hf (by unfold tbS rtS; omega)⟩
theorem xsA.spn (H : xsA hs x n w fl v fv) (hn : 2 ≤ n) (hf : xfr (tbS (x + n + 3) n) hs h) (hT : tbA h (x + n + 3) n v' fv') : xsA h x n w fl v' fv' := by
  obtain ⟨h1, h2, h3, h4, h5, h6, h7, h8⟩ := H
  exact ⟨h1.kept hf (by unfold tbS; omega), h2.kept hf (by unfold tbS; omega), hT, h4.kept hf (by unfold tbS; omega), h5.kept hf (by unfold tbS; omega) (by unfold tbS; omega), xsM.kept h6 hf (by unfold tbS mtS; omega), h7.kept hf (by unfold tbS lvS; omega), h8.kept hf (by unfold tbS rtS; omega)⟩
theorem xsA.wst (H : xsA hs x n w fl v fv) (hn : 2 ≤ n) {s : woS} (hB : woB s) : xsA (hs.set (x + 2 * n + 5) (woO n s)) x n w fl v fv := by
  obtain ⟨h1, h2, h3, ⟨s0, h4, h4b⟩, h5, h6, h7, h8⟩ := H
  have hf : xfr (fun k => k = x + 2 * n + 5) hs (hs.set (x + 2 * n + 5) (woO n s)) := xfr.rf.set rfl
  exact ⟨h1.kept hf (by omega), h2.kept hf (by unfold tbS; omega), h3.kept hf (by unfold tbS; omega), ⟨s, xs_at h4, hB⟩, h5.kept hf (by omega) (by omega), xsM.kept h6 hf (by unfold mtS; omega), h7.kept hf (by unfold lvS; omega), h8.kept hf (by unfold rtS; omega)⟩
theorem xsA.rng (H : xsA hs x n w fl v fv) (hn : 2 ≤ n) {g : gS} (hB : gB g) : xsA (hs.set (x + 2 * n + 6 + 1) (gw n g)) x n w fl v fv := by
  obtain ⟨h1, h2, h3, h4, ⟨h5, g0, h5b, h5c⟩, h6, h7, h8⟩ := H
  have hf : xfr (fun k => k = x + 2 * n + 6 + 1) hs (hs.set (x + 2 * n + 6 + 1) (gw n g)) := xfr.rf.set rfl
  exact ⟨h1.kept hf (by omega), h2.kept hf (by unfold tbS; omega), h3.kept hf (by unfold tbS; omega), h4.kept hf (by omega), ⟨(xs_ne (by omega)).trans h5, g, xs_at h5b, hB⟩, xsM.kept h6 hf (by unfold mtS; omega), h7.kept hf (by unfold lvS; omega), h8.kept hf (by unfold rtS; omega)⟩
theorem xsA.tre (H : xsA hs x n w fl v fv) (hn : 2 ≤ n) (hf : xfr (mtS (x + 2 * n + 8) (n - 1)) hs h) (hM : ∃ M, mtA h (x + 2 * n + 8) (n - 1) M) : xsA h x n w fl v fv := by
  obtain ⟨h1, h2, h3, h4, h5, h6, h7, h8⟩ := H
  exact ⟨h1.kept hf (by unfold mtS; omega), h2.kept hf (by unfold mtS tbS; omega), h3.kept hf (by unfold mtS tbS; omega), h4.kept hf (by unfold mtS; omega), h5.kept hf (by unfold mtS; omega) (by unfold mtS; omega), hM, h7.kept hf (by unfold mtS lvS; omega), h8.kept hf (by unfold mtS rtS; omega)⟩
theorem xsA.lev (H : xsA hs x n w fl v fv) (hn : 2 ≤ n) (hf : xfr (lvS (x + 3 * n + 9) n) hs h) (hL : xsL h x n) : xsA h x n w fl v fv := by
  obtain ⟨h1, h2, h3, h4, h5, h6, h7, h8⟩ := H
  exact ⟨h1.kept hf (by unfold lvS; omega), h2.kept hf (by unfold lvS tbS; omega), h3.kept hf (by unfold lvS tbS; omega), h4.kept hf (by unfold lvS; omega), h5.kept hf (by unfold lvS; omega) (by unfold lvS; omega), xsM.kept h6 hf (by unfold lvS mtS; omega), hL, h8.kept hf (by unfold lvS rtS; omega)⟩
theorem xsA.rot (H : xsA hs x n w fl v fv) (hn : 2 ≤ n) {N N2 : Nat} (hN : N < 2 ^ 240) (hN2 : N2 < 2 ^ 240) : xsA ((hs.set (x + 5 * n + 14 + 1 + 1) (bw N)).set (x + 5 * n + 14 + 3 + 1) (bw N2)) x n w fl v fv := by
  obtain ⟨h1, h2, h3, h4, h5, h6, h7, r1, r2, ⟨M1, r3, r4⟩, r5, M2, r6, r7⟩ := H
  have hf : xfr (rtS (x + 5 * n + 14)) hs ((hs.set (x + 5 * n + 14 + 1 + 1) (bw N)).set (x + 5 * n + 14 + 3 + 1) (bw N2)) := (xfr.rf.set ⟨by omega, by omega⟩).set ⟨by omega, by omega⟩
  exact ⟨h1.kept hf (by unfold rtS; omega), h2.kept hf (by unfold rtS tbS; omega), h3.kept hf (by unfold rtS tbS; omega), h4.kept hf (by unfold rtS; omega), h5.kept hf (by unfold rtS; omega) (by unfold rtS; omega), xsM.kept h6 hf (by unfold rtS mtS; omega), h7.kept hf (by unfold rtS lvS; omega), (xs_ne (by omega)).trans ((xs_ne (by omega)).trans r1), (xs_ne (by omega)).trans ((xs_ne (by omega)).trans r2), ⟨N, hN, (xs_ne (by omega)).trans (xs_at r4)⟩, (xs_ne (by omega)).trans ((xs_ne (by omega)).trans r5), N2, hN2, xs_at ((xs_ne (by omega)).trans r7)⟩
end XSA
def dig (x : Int32) : Bool := decide (1 ≤ x) && decide (x ≤ 9)
theorem dig_of {x : Int32} (h : dig x = true) : ∃ a, 1 ≤ a ∧ a ≤ 9 ∧ x = nI a := by
  unfold dig at h
  simp only [Bool.and_eq_true, decide_eq_true_eq] at h
  have h0 : ¬ x < 0 := by
    have h1 := Int32.le_iff_toInt_le.mp h.1
    intro q
    have h2 := Int32.lt_iff_toInt_lt.mp q
    have e1 : (1 : Int32).toInt = 1 := by decide
    have e2 : (0 : Int32).toInt = 0 := by decide
    omega
  obtain ⟨j, h1, rfl⟩ := nI_of h0
  have h3 := (nI_leI (a := 1) (b := j) (by decide) h1).mp h.1
  have h4 := (nI_leI (a := j) (b := 9) h1 (by decide)).mp h.2
  exact ⟨j, h3, h4, rfl⟩
def isPt (x : Int32) : Bool := decide (x = 0) || decide (x = 1)
/-- what say does to the sayings -/
def sayC (n : Nat) (i j p q : Int32) : Bool := tPair n i j && (dig p && dig q)
def sayW (n : Nat) (w : tbW) (i j p q : Int32) : tbW := if sayC n i j p q = true then tbSet w i.toNatClampNeg j.toNatClampNeg (p.toNatClampNeg, q.toNatClampNeg) (q.toNatClampNeg, p.toNatClampNeg) else w
def sayN (n : Nat) (w : tbW) (fl : Nat) (i j p q : Int32) : Nat := if sayC n i j p q = true ∧ w i.toNatClampNeg j.toNatClampNeg = (0, 1) then fl + 1 else fl
/-- what unsay does -/
def dropW (n : Nat) (w : tbW) (i j : Int32) : tbW := if tHas n w i j = true then tbSet w i.toNatClampNeg j.toNatClampNeg (0, 1) (0, 1) else w
def dropN (n : Nat) (w : tbW) (fl : Nat) (i j : Int32) : Nat := if tHas n w i j = true then fl - 1 else fl
/-- what said answers -/
def saidV (n : Nat) (w : tbW) (i j q : Int32) : Int32 :=
  if (isPt q && tHas n w i j) = true then nI (if q = 0 then lowT (w i.toNatClampNeg j.toNatClampNeg).1 (w i.toNatClampNeg j.toNatClampNeg).2 else lowB (w i.toNatClampNeg j.toNatClampNeg).1 (w i.toNatClampNeg j.toNatClampNeg).2) else -1
theorem saidV_n {n : Nat} {w : tbW} {i j q : Int32} (h : (isPt q && tHas n w i j) = false) : saidV n w i j q = -1 := by
  unfold saidV
  rw [if_neg (by rw [h]; decide)]
theorem saidV_y {n a b : Nat} {w : tbW} {q : Int32} (hn : n ≤ 6) (ha : a < n) (hb : b < n) (hab : a ≠ b) (h1 : isPt q = true) (h2 : tHas n w (nI a) (nI b) = true) : saidV n w (nI a) (nI b) q = nI (if q = 0 then lowT (w a b).1 (w a b).2 else lowB (w a b).1 (w a b).2) := by
  unfold saidV
  rw [if_pos (by rw [h1, h2]; rfl), nI_clamp (by omega), nI_clamp (by omega)]
theorem tab3 {q : Int32} (q0 : ¬ q = 0) (q1 : ¬ q = 1) (q2 : ¬ q = 2) : q.toInt < 0 ∨ 2 < q.toInt := by
  have e0 : ¬ q.toInt = 0 := fun z => q0 (Int32.toInt_inj.mp (z.trans (by decide)))
  have e1 : ¬ q.toInt = 1 := fun z => q1 (Int32.toInt_inj.mp (z.trans (by decide)))
  have e2 : ¬ q.toInt = 2 := fun z => q2 (Int32.toInt_inj.mp (z.trans (by decide)))
  omega
