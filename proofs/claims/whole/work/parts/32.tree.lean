/-! TreeCount: contracts. Laid by a program of our own. -/
set_option maxHeartbeats 4000000 in
set_option maxRecDepth 100000 in
/-- fill -/
theorem y_X6_fill (d : Nat) {hs : xk_H} {t n fl u s : Nat} {w : tbW} {M : mtM} (hn : n ≤ 6) (hns : n = s + 1) (hT : tbA hs t n w fl) (ho : tbOK n w) (hM : mtA hs u s M) (hd : ∀ k, tbS t n k → ¬ mtS u s k) : xk_Y (d + 3) 0 0 mX6_fill false [.ref u, .ref t] hs (fun r' h => r' = none ∧ mtA h u s (lapM w s) ∧ xfr (mtS u s) hs h) := by
  have hT2 : ∀ h : xk_H, xfr (mtS u s) hs h → tbA h t n w fl := fun h hf => hT.kept hf hd
  have l31 : ∀ (r j i ti : Nat) (M1 : mtM) (h : xk_H) (o : Option Value), j + r = s → i < s → ti = (if tH w i s = true then 1 else 0) + cntT w i j → mtA h u s M1 → xfr (mtS u s) hs h → (∀ b, b < j → M1 i b = offV w i b) → (∀ a b, a < i → b < s → M1 a b = lapM w s a b) →
      (∀ (M2 : mtM) (h2 : xk_H) (o4 o5 : Option Value), mtA h2 u s M2 → xfr (mtS u s) hs h2 → (∀ b, b < s → M2 i b = offV w i b) → (∀ a b, a < i → b < s → M2 a b = lapM w s a b) → xk_X (d + 3) 0 0 mX6_fill (xk_fx false hs) (fun r' h => r' = none ∧ mtA h u s (lapM w s) ∧ xfr (mtS u s) hs h) 0 0 87 [some (.ref u), some (.ref t), some (.int (nI i)), some (.int (nI ((if tH w i s = true then 1 else 0) + cntT w i s))), o4, o5] [] h2) → xk_X (d + 3) 0 0 mX6_fill (xk_fx false hs) (fun r' h => r' = none ∧ mtA h u s (lapM w s) ∧ xfr (mtS u s) hs h) 0 0 31 [some (.ref u), some (.ref t), some (.int (nI i)), some (.int (nI ti)), some (.int (nI j)), o] [] h := by
    intro r
    induction r with
    | zero =>
      intro j i ti M1 h o h1 hi hti hm hf p1 p2 K
      obtain rfl : j = s := by omega
      subst hti
      refine xk_iload dX6_fill_31 rfl ?_
      refine xk_aload_n dX6_fill_33 rfl ?_
      refine xk_get (ci := 5) (r := (RX6, TX6, 2)) 0 dX6_fill_34 rfl inX6 (by decide) wf_X6_7 hm.1 rfl ?_
      refine xk_icmp_ge 87 dX6_fill_37 (by decide) (fun c37 => ?_) (fun c37 => ?_)
      · exact K M1 h _ _ hm hf p1 p2
      · exact absurd (nI_le (Nat.le_refl j) (by omega)) c37
    | succ r ih =>
      intro j i ti M1 h o h1 hi hti hm hf p1 p2 K
      obtain ⟨f, hf1, hf2⟩ := hm.2.2 i hi
      have q1 : vp_in (nI i) s := vp_in_nI hi (by omega)
      have q2 : vp_in (nI j) s := vp_in_nI (by omega) (by omega)
      have q3 : (nI i).toNatClampNeg = i := nI_clamp (by omega)
      have q4 : (nI j).toNatClampNeg = j := nI_clamp (by omega)
      have q5 : (if (nI i).toNatClampNeg < s then some (u + 2 + (nI i).toNatClampNeg) else none) = some (u + 2 + i) := by rw [q3, if_pos hi]
      have eH := tHas_H (w := w) hn (show i < n by omega) (show j < n by omega)
      refine xk_iload dX6_fill_31 rfl ?_
      refine xk_aload_n dX6_fill_33 rfl ?_
      refine xk_get (ci := 5) (r := (RX6, TX6, 2)) 0 dX6_fill_34 rfl inX6 (by decide) wf_X6_7 hm.1 rfl ?_
      refine xk_icmp_ge 87 dX6_fill_37 (by decide) (fun c37 => ?_) (fun c37 => ?_)
      · exact absurd c37 (nI_ge (by omega) (by omega))
      · refine xk_aload_n dX6_fill_40 rfl ?_
        refine xk_iload_n dX6_fill_41 rfl ?_
        refine xk_iload dX6_fill_42 rfl ?_
        refine xk_v2 (M' := mX5_holds) (d' := d + 2) (ci := 4) (r0 := (RX5, TX5, 3)) dX6_fill_44 wm_X6_26 cv_X5_holds wi_X5_holds wl_X5_holds (by omega) (Nat.le_refl _) (Nat.le_refl _) rfl rfl (hT2 _ hf).1 (Nat.le_of_ble_eq_true rfl) (y_X5_holds d hn (hT2 _ hf) ho) rfl ?_
        rw [eH]
        cases hb : tH w i j
        · refine xk_istore dX6_fill_47 (by decide) ?_
          dsimp only [xk_s1, xk_s2, xk_kill]
          refine xk_aload_n dX6_fill_49 rfl ?_
          refine xk_get (ci := 5) (r := (RX6, TX6, 2)) 1 dX6_fill_50 rfl inX6 (by decide) wf_X6_15 hm.1 rfl ?_
          refine xk_iload_n dX6_fill_53 rfl ?_
          refine xk_aaldI dX6_fill_54 hm.2.1 q1 q5 ?_
          refine xk_iload dX6_fill_55 rfl ?_
          refine xk_iload dX6_fill_57 rfl ?_
          refine xk_ifb_eq 66 dX6_fill_59 (by decide) (fun c59 => ?_) (fun c59 => ?_)
          · refine xk_iconst (0) dX6_fill_66 (by decide) ?_
            refine xk_iast dX6_fill_67 hf1 q2 ?_
            rw [q4]
            refine xk_iload_n dX6_fill_68 rfl ?_
            refine xk_iload dX6_fill_69 rfl ?_
            refine xk_ifb_eq 78 dX6_fill_71 (by decide) (fun c71 => ?_) (fun c71 => ?_)
            · refine xk_iconst (0) dX6_fill_78 (by decide) ?_
              refine xk_iadd dX6_fill_79 ?_
              rw [show nI ti + 0 = nI ti from by rw [show (0 : Int32) = nI 0 from rfl, nI_add]; rfl]
              refine xk_istore_n dX6_fill_80 (by decide) ?_
              dsimp only [xk_s1, xk_s2, xk_kill]
              refine xk_iinc (nI (j + 1)) dX6_fill_81 rfl (nI_1 j) (by decide) ?_
              dsimp only [xk_s1, xk_s2, xk_kill]
              refine xk_goto 31 dX6_fill_84 (by decide) ?_
              refine ih (j + 1) i _ _ _ _ (by omega) hi ?_ (hm.put (j := j) (x := 0) hi hf1) (hf.set ⟨by omega, by omega⟩) ?_ ?_ K
              · rw [cntT, hb, hti]; simp
              · intro b hb2
                by_cases e : b = j
                · simp [e, offV, hb]
                · simp [e, p1 b (by omega)]
              · intro a b ha hb2
                have e : a ≠ i := by omega
                simp [e, p2 a b ha hb2]
            · exact absurd c71 (by decide)
          · exact absurd c59 (by decide)
        · refine xk_istore dX6_fill_47 (by decide) ?_
          dsimp only [xk_s1, xk_s2, xk_kill]
          refine xk_aload_n dX6_fill_49 rfl ?_
          refine xk_get (ci := 5) (r := (RX6, TX6, 2)) 1 dX6_fill_50 rfl inX6 (by decide) wf_X6_15 hm.1 rfl ?_
          refine xk_iload_n dX6_fill_53 rfl ?_
          refine xk_aaldI dX6_fill_54 hm.2.1 q1 q5 ?_
          refine xk_iload dX6_fill_55 rfl ?_
          refine xk_iload dX6_fill_57 rfl ?_
          refine xk_ifb_eq 66 dX6_fill_59 (by decide) (fun c59 => ?_) (fun c59 => ?_)
          · exact absurd c59 (by decide)
          · refine xk_iconst (-1) dX6_fill_62 (by decide) ?_
            refine xk_goto 67 dX6_fill_63 (by decide) ?_
            refine xk_iast dX6_fill_67 hf1 q2 ?_
            rw [q4]
            refine xk_iload_n dX6_fill_68 rfl ?_
            refine xk_iload dX6_fill_69 rfl ?_
            refine xk_ifb_eq 78 dX6_fill_71 (by decide) (fun c71 => ?_) (fun c71 => ?_)
            · exact absurd c71 (by decide)
            · refine xk_iconst (1) dX6_fill_74 (by decide) ?_
              refine xk_goto 79 dX6_fill_75 (by decide) ?_
              refine xk_iadd dX6_fill_79 ?_
              rw [nI_1]
              refine xk_istore_n dX6_fill_80 (by decide) ?_
              dsimp only [xk_s1, xk_s2, xk_kill]
              refine xk_iinc (nI (j + 1)) dX6_fill_81 rfl (nI_1 j) (by decide) ?_
              dsimp only [xk_s1, xk_s2, xk_kill]
              refine xk_goto 31 dX6_fill_84 (by decide) ?_
              refine ih (j + 1) i _ _ _ _ (by omega) hi ?_ (hm.put (j := j) (x := (-1)) hi hf1) (hf.set ⟨by omega, by omega⟩) ?_ ?_ K
              · rw [cntT, hb, hti]; simp only [if_true]; omega
              · intro b hb2
                by_cases e : b = j
                · simp [e, offV, hb]
                · simp [e, p1 b (by omega)]
              · intro a b ha hb2
                have e : a ≠ i := by omega
                simp [e, p2 a b ha hb2]
  have l2 : ∀ (r i : Nat) (M1 : mtM) (h : xk_H) (o3 o4 o5 : Option Value), i + r = s → mtA h u s M1 → xfr (mtS u s) hs h → (∀ a b, a < i → b < s → M1 a b = lapM w s a b) → xk_X (d + 3) 0 0 mX6_fill (xk_fx false hs) (fun r' h => r' = none ∧ mtA h u s (lapM w s) ∧ xfr (mtS u s) hs h) 0 0 2 [some (.ref u), some (.ref t), some (.int (nI i)), o3, o4, o5] [] h := by
    intro r
    induction r with
    | zero =>
      intro i M1 h o3 o4 o5 h1 hm hf p2
      obtain rfl : i = s := by omega
      refine xk_iload_n dX6_fill_2 rfl ?_
      refine xk_aload_n dX6_fill_3 rfl ?_
      refine xk_get (ci := 5) (r := (RX6, TX6, 2)) 0 dX6_fill_4 rfl inX6 (by decide) wf_X6_7 hm.1 rfl ?_
      refine xk_icmp_ge 102 dX6_fill_7 (by decide) (fun c7 => ?_) (fun c7 => ?_)
      · exact xk_vret rfl dX6_fill_102 (Nat.le_refl _) (Nat.le_refl _) ⟨rfl, hm.to (fun a b ha hb => p2 a b ha hb), hf⟩
      · exact absurd (nI_le (Nat.le_refl i) (by omega)) c7
    | succ r ih =>
      intro i M1 h o3 o4 o5 h1 hm hf p2
      have eS := tHas_H (w := w) hn (show i < n by omega) (show s < n by omega)
      have q1 : vp_in (nI i) s := vp_in_nI (by omega) (by omega)
      have q3 : (nI i).toNatClampNeg = i := nI_clamp (by omega)
      have q5 : (if (nI i).toNatClampNeg < s then some (u + 2 + (nI i).toNatClampNeg) else none) = some (u + 2 + i) := by rw [q3, if_pos (by omega)]
      have K : ∀ (M2 : mtM) (h2 : xk_H) (o4 o5 : Option Value), mtA h2 u s M2 → xfr (mtS u s) hs h2 → (∀ b, b < s → M2 i b = offV w i b) → (∀ a b, a < i → b < s → M2 a b = lapM w s a b) → xk_X (d + 3) 0 0 mX6_fill (xk_fx false hs) (fun r' h => r' = none ∧ mtA h u s (lapM w s) ∧ xfr (mtS u s) hs h) 0 0 87 [some (.ref u), some (.ref t), some (.int (nI i)), some (.int (nI ((if tH w i s = true then 1 else 0) + cntT w i s))), o4, o5] [] h2 := by
        intro M2 h2 o4 o5 hm2 hf2 p3 p4
        obtain ⟨f, hf1, -⟩ := hm2.2.2 i (by omega)
        refine xk_aload_n dX6_fill_87 rfl ?_
        refine xk_get (ci := 5) (r := (RX6, TX6, 2)) 1 dX6_fill_88 rfl inX6 (by decide) wf_X6_15 hm2.1 rfl ?_
        refine xk_iload_n dX6_fill_91 rfl ?_
        refine xk_aaldI dX6_fill_92 hm2.2.1 q1 q5 ?_
        refine xk_iload_n dX6_fill_93 rfl ?_
        refine xk_iload_n dX6_fill_94 rfl ?_
        refine xk_iast dX6_fill_95 hf1 q1 ?_
        rw [q3]
        refine xk_iinc (nI (i + 1)) dX6_fill_96 rfl (nI_1 i) (by decide) ?_
        dsimp only [xk_s1, xk_s2, xk_kill]
        refine xk_goto 2 dX6_fill_99 (by decide) ?_
        refine ih (i + 1) _ _ _ _ _ (by omega) (hm2.put (j := i) (x := nI ((if tH w i s = true then 1 else 0) + cntT w i s)) (by omega) hf1) (hf2.set ⟨by omega, by omega⟩) ?_
        intro a b ha hb
        by_cases e : a = i
        · subst e
          by_cases e2 : b = a
          · simp [e2, lapM]
          · have e3 : ¬ a = b := fun z => e2 z.symm
            simp [e2, e3, lapM, p3 b hb]
        · simp [e, p4 a b (by omega) hb]
      refine xk_iload_n dX6_fill_2 rfl ?_
      refine xk_aload_n dX6_fill_3 rfl ?_
      refine xk_get (ci := 5) (r := (RX6, TX6, 2)) 0 dX6_fill_4 rfl inX6 (by decide) wf_X6_7 hm.1 rfl ?_
      refine xk_icmp_ge 102 dX6_fill_7 (by decide) (fun c7 => ?_) (fun c7 => ?_)
      · exact absurd c7 (nI_ge (by omega) (by omega))
      · refine xk_aload_n dX6_fill_10 rfl ?_
        refine xk_iload_n dX6_fill_11 rfl ?_
        refine xk_aload_n dX6_fill_12 rfl ?_
        refine xk_get (ci := 5) (r := (RX6, TX6, 2)) 0 dX6_fill_13 rfl inX6 (by decide) wf_X6_7 hm.1 rfl ?_
        refine xk_v2 (M' := mX5_holds) (d' := d + 2) (ci := 4) (r0 := (RX5, TX5, 3)) dX6_fill_16 wm_X6_26 cv_X5_holds wi_X5_holds wl_X5_holds (by omega) (Nat.le_refl _) (Nat.le_refl _) rfl rfl (hT2 _ hf).1 (Nat.le_of_ble_eq_true rfl) (y_X5_holds d hn (hT2 _ hf) ho) rfl ?_
        refine xk_ifb_eq 26 dX6_fill_19 (by decide) (fun c19 => ?_) (fun c19 => ?_)
        · rw [eS] at c19
          refine xk_iconst (0) dX6_fill_26 (by decide) ?_
          refine xk_istore_n dX6_fill_27 (by decide) ?_
          dsimp only [xk_s1, xk_s2, xk_kill]
          refine xk_iconst (0) dX6_fill_28 (by decide) ?_
          refine xk_istore dX6_fill_29 (by decide) ?_
          dsimp only [xk_s1, xk_s2, xk_kill]
          first
          | exact l31 s 0 i 0 M1 h _ (by omega) (by omega) (by simp [cntT, c19]; done) hm hf (fun b hb => absurd hb (by omega)) p2 K
          | exact l31 s 0 i 1 M1 h _ (by omega) (by omega) (by simp [cntT, c19]; done) hm hf (fun b hb => absurd hb (by omega)) p2 K
        · rw [eS] at c19
          refine xk_iconst (1) dX6_fill_22 (by decide) ?_
          refine xk_goto 27 dX6_fill_23 (by decide) ?_
          refine xk_istore_n dX6_fill_27 (by decide) ?_
          dsimp only [xk_s1, xk_s2, xk_kill]
          refine xk_iconst (0) dX6_fill_28 (by decide) ?_
          refine xk_istore dX6_fill_29 (by decide) ?_
          dsimp only [xk_s1, xk_s2, xk_kill]
          first
          | exact l31 s 0 i 0 M1 h _ (by omega) (by omega) (by simp [cntT, c19]; done) hm hf (fun b hb => absurd hb (by omega)) p2 K
          | exact l31 s 0 i 1 M1 h _ (by omega) (by omega) (by simp [cntT, c19]; done) hm hf (fun b hb => absurd hb (by omega)) p2 K
  refine xk_Y.ofX (k := 4) (ls := [some (.ref u), some (.ref t), none, none, none, none]) (by decide) rfl rfl ?_
  refine xk_iconst (0) dX6_fill_0 (by decide) ?_
  refine xk_istore_n dX6_fill_1 (by decide) ?_
  dsimp only [xk_s1, xk_s2, xk_kill]
  exact l2 s 0 M hs _ _ _ (by omega) hM xfr.rf (fun a b ha => absurd ha (by omega))

