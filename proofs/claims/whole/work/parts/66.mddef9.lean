/-! The reference: ways, goes, can: cells. Own text. -/
def cnA (hs h : xk_H) (m n : Nat) (cb : Bool) : Prop :=
  (∃ (c : Int32) (e1 e2 : Int64) (e3 : Int32) (b1 b2 : Int64) (i1 : Int32), h[m]? = some (mdO n m (c, e1, e2, e3, b1, b2, i1, xk_b cb))) ∧ (∃ W, h[m + 15]? = some (wrow W)) ∧ xfr (fun k => k = m ∨ k = m + 15) hs h
section CNA
variable {hs h h' : xk_H} {m n : Nat} {T : mdT} {cb : Bool} {s : wS} {W : Nat → Int32}
theorem cnA.C (H : cnA hs h m n cb) (hC : mdC hs m n T) : mdC h m n T := hC.kept H.2.2 (by omega)
theorem cnA.toA (H : cnA hs h m n cb) (hA : mdA hs m n T) : mdA h m n T := by
  obtain ⟨⟨c0, e0, e9, e8, e7, e6, e5, h1⟩, ⟨W, h4⟩, h5⟩ := id H
  obtain ⟨-, -, ⟨g1, k1⟩, ⟨g2, k2⟩, ⟨g3, k3⟩, ⟨g4, k4⟩, ⟨g5, k5⟩, ⟨g6, k6⟩, -⟩ := id hA
  exact ⟨⟨_, h1⟩, H.C hA.2.1, ⟨g1, (h5.2 _ (by omega)).trans k1⟩, ⟨g2, (h5.2 _ (by omega)).trans k2⟩, ⟨g3, (h5.2 _ (by omega)).trans k3⟩, ⟨g4, (h5.2 _ (by omega)).trans k4⟩, ⟨g5, (h5.2 _ (by omega)).trans k5⟩, ⟨g6, (h5.2 _ (by omega)).trans k6⟩, _, h4⟩
theorem cnA.fr (H : cnA hs h m n cb) : xfr (mdR m) hs h := H.2.2.mono (by unfold mdR; omega)
theorem wyA.cn (H : wyA hs h m n s W) : cnA hs h m n s.2.2.2 := by
  obtain ⟨⟨c0, e0, e9, e8, h1⟩, h4, h5⟩ := H
  exact ⟨⟨c0, e0, e9, e8, _, _, _, h1⟩, ⟨W, h4⟩, h5⟩
theorem cnA.tr (H : cnA hs h m n cb) (H2 : wyA h h' m n s W) : wyA hs h' m n s W := ⟨H2.1, H2.2.1, H.2.2.tr H2.2.2⟩
end CNA
