/-! Leaving: the static row of logarithms; what its cells hold; what it computes. Own text. -/
def logD (a : Nat) : Int32 := ([0, 0, 1, 64, 2, 4096, 65, 262144, 3, 128] : List Int32).getD a 0
theorem xk_logsLen {d mc ms : Nat} {M : xk_M} {fx : Nat → Prop} {out : Option Value → xk_H → Prop} {cs ss pc : Nat} {ls : List (Option Value)} {st : List Value} {hs : xk_H} {index : Nat} (hd : decode M.2.1 pc = .ok (.getstatic index, 3)) (hd2 : decode M.2.1 (pc + 3) = .ok (.arraylength, 1)) (hw : Cond.fieldLink M.1.cls index "PairScales$Leaving" "LOGS" "[I" ∈ xk_WS) (kk : xk_X d mc ms M fx out cs ss (pc + 4) ls (.int 10 :: st) hs) : xk_X d mc ms M fx out cs ss pc ls st hs := by
  intro G ad0 ad p l e s m args below meth c A H locs la C hf hP hD hS hl O
  obtain ⟨-, -, hZ, hT, -⟩ := C.2.2.2.2.2.2.2.2.2
  refine va_gets C.1 C.2.1 hZ hS C.2.2.2.2.2.1 (C.2.2.2.2.1 _ hw) (fun _ h => h) hd ?_
  refine va_tlen C.1 C.2.1 hT hS (v := 10) rfl hd2 ?_
  exact kk G ad0 ad p l e s m args below meth c A H locs la C hf hP hD hS hl ⟨O.1, xk_cs trivial O.2.1, O.2.2⟩
theorem xk_logsAt {d mc ms : Nat} {M : xk_M} {fx : Nat → Prop} {out : Option Value → xk_H → Prop} {cs ss pc : Nat} {ls : List (Option Value)} {st : List Value} {hs : xk_H} {index a : Nat} {k : Fin 4} (ha : a < 10) (hd : decode M.2.1 pc = .ok (.getstatic index, 3)) (hd2 : decode M.2.1 (pc + 3) = .ok (.lload_n k, 1)) (hd3 : decode M.2.1 (pc + 3 + 1) = .ok (.l2i, 1)) (hd4 : decode M.2.1 (pc + 3 + 1 + 1) = .ok (.iaload, 1)) (hw : Cond.fieldLink M.1.cls index "PairScales$Leaving" "LOGS" "[I" ∈ xk_WS) (hv : ls[(k : Nat)]? = some (some (.long (lN a)))) (kk : xk_X d mc ms M fx out cs ss (pc + 3 + 1 + 1 + 1) ls (.int (logD a) :: st) hs) : xk_X d mc ms M fx out cs ss pc ls st hs := by
  intro G ad0 ad p l e s m args below meth c A H locs la C hf hP hD hS hl O
  obtain ⟨-, -, hZ, hT, -⟩ := C.2.2.2.2.2.2.2.2.2
  refine va_gets C.1 C.2.1 hZ hS C.2.2.2.2.2.1 (C.2.2.2.2.1 _ hw) (fun _ h => h) hd ?_
  refine lv_lload_n C.1 C.2.1 hd2 rfl (xk_l_at hl hv) ?_
  refine lv_l2i C.1 C.2.1 hd3 (lN_i a) ?_
  refine va_ti C.1 C.2.1 hT hS (vp_in_nI ha (by decide)) (v := .int (logD a)) ?_ hd4 ?_
  · rw [nI_clamp (by omega)]; rfl
  exact kk G ad0 ad p l e s m args below meth c A H locs la C hf hP hD hS hl ⟨O.1, xk_cs trivial O.2.1, O.2.2⟩
/-- the pairs, in their order -/
def prs (n : Nat) : List (Nat × Nat) := (List.range n).flatMap fun i => (List.range n).filterMap fun j => if i < j then some (i, j) else none
def pu (n k : Nat) : Nat := ((prs n).getD k (0, 0)).1
def pl (n k : Nat) : Nat := ((prs n).getD k (0, 0)).2
theorem prs_ok : ∀ n, n < 7 → 2 ≤ n → ∀ k, k < n * (n - 1) / 2 → pu n k < pl n k ∧ pl n k < n := by decide +kernel
theorem np_ok : ∀ n, n < 7 → n * (n - 1) / 2 ≤ 15 := by decide
def joinG (gr : Nat → Nat) (i j : Nat) : Nat → Nat := fun x => if gr x = gr j then gr i else gr x
def joinW (gr : Nat → Nat) (wt : Nat → Int32) (i j : Nat) (lg : Int32) : Nat → Int32 := fun x => wt x + (if gr x = gr j then wt i - lg - wt j else 0)
def logW (w : tbW) (i j : Nat) : Int32 := logD (w i j).1 - logD (w i j).2
/-- settle: k pairs are still to be settled -/
def setF (w : tbW) (n : Nat) : Nat → Nat → (Nat → Nat) → (Nat → Int32) → Nat → Nat → Nat × Nat → Nat × Nat
  | 0, _, _, _, hp, sz, b => if b.1 ≤ sz then b else (sz, hp)
  | k + 1, jn, gr, wt, hp, sz, b =>
    if b.1 ≤ sz then b
    else if tH w (pu n k) (pl n k) = false then setF w n k jn gr wt hp sz b
    else if ¬ gr (pu n k) = gr (pl n k) ∧ jn + 1 < n then
      setF w n k jn gr wt (hp ||| 2 ^ k) (sz + 1) (setF w n k (jn + 1) (joinG gr (pu n k) (pl n k)) (joinW gr wt (pu n k) (pl n k) (logW w (pu n k) (pl n k))) hp sz b)
    else if gr (pu n k) = gr (pl n k) ∧ wt (pu n k) - wt (pl n k) = logW w (pu n k) (pl n k) then setF w n k jn gr wt hp sz b
    else setF w n k jn gr wt (hp ||| 2 ^ k) (sz + 1) b
theorem setF_congr (w : tbW) (n : Nat) (hn : n < 7) (h2 : 2 ≤ n) : ∀ (k jn : Nat) (gr gr' : Nat → Nat) (wt wt' : Nat → Int32) (hp sz : Nat) (b : Nat × Nat), k ≤ n * (n - 1) / 2 → (∀ x, x < n → gr x = gr' x) → (∀ x, x < n → wt x = wt' x) → setF w n k jn gr wt hp sz b = setF w n k jn gr' wt' hp sz b
  | 0, jn, gr, gr', wt, wt', hp, sz, b, _, _, _ => rfl
  | k + 1, jn, gr, gr', wt, wt', hp, sz, b, hk, h3, h4 => by
    have hpr := prs_ok n hn h2 k (by omega)
    have e1 := h3 (pu n k) (by omega)
    have e2 := h3 (pl n k) (by omega)
    have e3 := h4 (pu n k) (by omega)
    have e4 := h4 (pl n k) (by omega)
    have i1 := fun hp sz b => setF_congr w n hn h2 k jn gr gr' wt wt' hp sz b (by omega) h3 h4
    have i2 := setF_congr w n hn h2 k (jn + 1) (joinG gr (pu n k) (pl n k)) (joinG gr' (pu n k) (pl n k)) (joinW gr wt (pu n k) (pl n k) (logW w (pu n k) (pl n k))) (joinW gr' wt' (pu n k) (pl n k) (logW w (pu n k) (pl n k))) hp sz b (by omega) (fun x hx => by simp only [joinG, h3 x hx, e1, e2]) (fun x hx => by simp only [joinW, h3 x hx, h4 x hx, e2, e3, e4])
    rw [setF, setF, i2]
    simp only [i1, e1, e2, e3, e4]
/-- the cells of a Leaving at v -/
def lvA (hs : xk_H) (v n : Nat) (G : Nat → Nat → Nat) (Wt : Nat → Nat → Int32) (fw lh : Nat) : Prop :=
  hs[v]? = some (.inr (1, [.int (nI n), .int (nI (n * (n - 1) / 2)), .ref (v + 1), .ref (v + 2), .ref (v + 3), .ref (v + 4 + n), .int (nI fw), .int (nI lh)])) ∧
  (∃ f : Nat → Int32, hs[v + 1]? = some (.inl (0, n * (n - 1) / 2, .inl f)) ∧ ∀ k, k < n * (n - 1) / 2 → f k = nI (pu n k)) ∧
  (∃ f : Nat → Int32, hs[v + 2]? = some (.inl (0, n * (n - 1) / 2, .inl f)) ∧ ∀ k, k < n * (n - 1) / 2 → f k = nI (pl n k)) ∧
  hs[v + 3]? = some (.inl (3, n, .inr (.inr (.inr (.inr (fun i => if i < n then some (v + 4 + i) else none)))))) ∧
  hs[v + 4 + n]? = some (.inl (3, n, .inr (.inr (.inr (.inr (fun i => if i < n then some (v + 5 + n + i) else none)))))) ∧
  (∀ i, i < n → ∃ f : Nat → Int32, hs[v + 4 + i]? = some (.inl (0, n, .inl f)) ∧ ∀ j, j < n → f j = nI (G i j)) ∧
  (∀ i, i < n → ∃ f : Nat → Int32, hs[v + 5 + n + i]? = some (.inl (0, n, .inl f)) ∧ ∀ j, j < n → f j = Wt i j)
def lvS (v n : Nat) : Nat → Prop := fun k => v ≤ k ∧ k < v + 5 + n + n
theorem arr_inj {t n t' n' : Nat} {f f' : Nat → Int32} (h : some (.inl (t, n, .inl f) : xk_C) = some (.inl (t', n', .inl f'))) : f = f' := by
  injection h with h1; injection h1 with h1; injection h1 with _ h1; injection h1 with _ h1; injection h1
theorem lvA.putG {hs : xk_H} {v n fw lh i j : Nat} {G : Nat → Nat → Nat} {Wt : Nat → Nat → Int32} {f : Nat → Int32} {x : Nat} (h : lvA hs v n G Wt fw lh) (hi : i < n) (hf : hs[v + 4 + i]? = some (.inl (0, n, .inl f))) : lvA (hs.set (v + 4 + i) (.inl (0, n, .inl (upd f j (nI x))))) v n (fun a b => if a = i ∧ b = j then x else G a b) Wt fw lh := by
  obtain ⟨h1, ⟨f1, h2, h3⟩, ⟨f2, h4, h5⟩, h6, h7, h8, h9⟩ := h
  refine ⟨(xs_ne (by omega)).trans h1, ⟨f1, (xs_ne (by omega)).trans h2, h3⟩, ⟨f2, (xs_ne (by omega)).trans h4, h5⟩, (xs_ne (by omega)).trans h6, (xs_ne (by omega)).trans h7, fun k hk => ?_, fun k hk => ?_⟩
  · by_cases e : k = i
    · subst e
      obtain ⟨g, g1, g2⟩ := h8 k hk
      have e2 := arr_inj (hf.symm.trans g1)
      subst e2
      refine ⟨_, xs_at hf, fun b hb => ?_⟩
      by_cases e3 : b = j
      · simp [upd, e3]
      · simp [upd, e3, g2 b hb]
    · obtain ⟨g, g1, g2⟩ := h8 k hk
      exact ⟨g, (xs_ne (by omega)).trans g1, fun b hb => by simp [e, g2 b hb]⟩
  · obtain ⟨g, g1, g2⟩ := h9 k hk
    exact ⟨g, (xs_ne (by omega)).trans g1, g2⟩
theorem lvA.putW {hs : xk_H} {v n fw lh i j : Nat} {G : Nat → Nat → Nat} {Wt : Nat → Nat → Int32} {f : Nat → Int32} {x : Int32} (h : lvA hs v n G Wt fw lh) (hi : i < n) (hf : hs[v + 5 + n + i]? = some (.inl (0, n, .inl f))) : lvA (hs.set (v + 5 + n + i) (.inl (0, n, .inl (upd f j x)))) v n G (fun a b => if a = i ∧ b = j then x else Wt a b) fw lh := by
  obtain ⟨h1, ⟨f1, h2, h3⟩, ⟨f2, h4, h5⟩, h6, h7, h8, h9⟩ := h
  refine ⟨(xs_ne (by omega)).trans h1, ⟨f1, (xs_ne (by omega)).trans h2, h3⟩, ⟨f2, (xs_ne (by omega)).trans h4, h5⟩, (xs_ne (by omega)).trans h6, (xs_ne (by omega)).trans h7, fun k hk => ?_, fun k hk => ?_⟩
  · obtain ⟨g, g1, g2⟩ := h8 k hk
    exact ⟨g, (xs_ne (by omega)).trans g1, g2⟩
  · by_cases e : k = i
    · subst e
      obtain ⟨g, g1, g2⟩ := h9 k hk
      have e2 := arr_inj (hf.symm.trans g1)
      subst e2
      refine ⟨_, xs_at hf, fun b hb => ?_⟩
      by_cases e3 : b = j
      · simp [upd, e3]
      · simp [upd, e3, g2 b hb]
    · obtain ⟨g, g1, g2⟩ := h9 k hk
      exact ⟨g, (xs_ne (by omega)).trans g1, fun b hb => by simp [e, g2 b hb]⟩
theorem lvA.obj {hs : xk_H} {v n fw lh fw' lh' : Nat} {G : Nat → Nat → Nat} {Wt : Nat → Nat → Int32} (h : lvA hs v n G Wt fw lh) : lvA (hs.set v (.inr (1, [.int (nI n), .int (nI (n * (n - 1) / 2)), .ref (v + 1), .ref (v + 2), .ref (v + 3), .ref (v + 4 + n), .int (nI fw'), .int (nI lh')]))) v n G Wt fw' lh' := by
  obtain ⟨h1, ⟨f1, h2, h3⟩, ⟨f2, h4, h5⟩, h6, h7, h8, h9⟩ := h
  refine ⟨xs_at h1, ⟨f1, (xs_ne (by omega)).trans h2, h3⟩, ⟨f2, (xs_ne (by omega)).trans h4, h5⟩, (xs_ne (by omega)).trans h6, (xs_ne (by omega)).trans h7, fun k hk => ?_, fun k hk => ?_⟩
  · obtain ⟨g, g1, g2⟩ := h8 k hk
    exact ⟨g, (xs_ne (by omega)).trans g1, g2⟩
  · obtain ⟨g, g1, g2⟩ := h9 k hk
    exact ⟨g, (xs_ne (by omega)).trans g1, g2⟩
theorem lvA.to {hs : xk_H} {v n fw lh : Nat} {G G' : Nat → Nat → Nat} {Wt Wt' : Nat → Nat → Int32} (h : lvA hs v n G Wt fw lh) (e1 : ∀ a b, a < n → b < n → G a b = G' a b) (e2 : ∀ a b, a < n → b < n → Wt a b = Wt' a b) : lvA hs v n G' Wt' fw lh := by
  obtain ⟨h1, h2, h4, h6, h7, h8, h9⟩ := h
  refine ⟨h1, h2, h4, h6, h7, fun k hk => ?_, fun k hk => ?_⟩
  · obtain ⟨g, g1, g2⟩ := h8 k hk
    exact ⟨g, g1, fun j hj => by rw [g2 j hj, e1 k j hk hj]⟩
  · obtain ⟨g, g1, g2⟩ := h9 k hk
    exact ⟨g, g1, fun j hj => by rw [g2 j hj, e2 k j hk hj]⟩
theorem lvA.kept {hs h : xk_H} {v n fw lh : Nat} {G : Nat → Nat → Nat} {Wt : Nat → Nat → Int32} {S : Nat → Prop} (H : lvA hs v n G Wt fw lh) (hf : xfr S hs h) (hS : ∀ k, lvS v n k → ¬ S k) : lvA h v n G Wt fw lh := by
  obtain ⟨h1, ⟨f1, h2, h3⟩, ⟨f2, h4, h5⟩, h6, h7, h8, h9⟩ := H
  refine ⟨by rw [hf.2 _ (hS _ ⟨by omega, by omega⟩)]; exact h1, ⟨f1, by rw [hf.2 _ (hS _ ⟨by omega, by omega⟩)]; exact h2, h3⟩, ⟨f2, by rw [hf.2 _ (hS _ ⟨by omega, by omega⟩)]; exact h4, h5⟩, by rw [hf.2 _ (hS _ ⟨by omega, by omega⟩)]; exact h6, by rw [hf.2 _ (hS _ ⟨by omega, by omega⟩)]; exact h7, fun k hk => ?_, fun k hk => ?_⟩
  · obtain ⟨g, g1, g2⟩ := h8 k hk
    exact ⟨g, by rw [hf.2 _ (hS _ ⟨by omega, by omega⟩)]; exact g1, g2⟩
  · obtain ⟨g, g1, g2⟩ := h9 k hk
    exact ⟨g, by rw [hf.2 _ (hS _ ⟨by omega, by omega⟩)]; exact g1, g2⟩
