/-! Rings: measure, noneAboveOne. Laid by a program of our own. -/
set_option maxHeartbeats 4000000 in
set_option maxRecDepth 100000 in
/-- measure -/
theorem y_X3_measure (d : Nat) {hs : xk_H} {t n fl u : Nat} {w : tbW} {g : gS} (hn : n ≤ 6) (h2 : 2 ≤ n) (hT : tbA hs t n w fl) (ho : tbOK n w) (hu : hs[u]? = some (.inr (2, [.int (nI n), .ref (u + 1)]))) (hg : hs[u + 1]? = some (gw n g)) (hB : gB g) (hut : ¬ tbS t n (u + 1)) : xk_F (d + 9) mX3_measure [.ref u, .ref t] hs none (hs.set (u + 1) (gw n (measG w n g))) := by
  have hT2 : ∀ e : xk_C, tbA (hs.set (u + 1) e) t n w fl := fun e => hT.set1 hut
  have hu2 : ∀ e : xk_C, (hs.set (u + 1) e)[u]? = some (.inr (2, [.int (nI n), .ref (u + 1)])) := fun e => (xs_ne (by omega)).trans hu
  have l10 : ∀ (r a : Nat) (g1 : gS), a + r = n → gB g1 → itr (fun a g => extG w n a (n - 1) a (2 ^ a) 1 (1, 1) g) r a g1 = measG w n g → xk_P (d + 9) mX3_measure [.ref u, .ref t] hs none (hs.set (u + 1) (gw n (measG w n g))) 10 [some (.ref u), some (.ref t), some (.int (nI a))] [] (hs.set (u + 1) (gw n g1)) := by
    intro r
    induction r with
    | zero =>
      intro a g1 h1 h3 h4
      refine xk_iload_n dX3_measure_10 rfl ?_
      refine xk_aload_n dX3_measure_11 rfl ?_
      refine xk_get (ci := 2) (r := (RX3, TX3, 2)) 0 dX3_measure_12 rfl inX3 (by decide) wf_X3_9 (hu2 _) rfl ?_
      refine xk_icmp_ge 38 dX3_measure_15 (by decide) (fun c15 => ?_) (fun c15 => ?_)
      · exact xk_vret rfl dX3_measure_38 (Nat.le_refl _) (Nat.le_refl _) ⟨rfl, by rw [← h4]; rfl⟩
      · exact absurd (nI_le (by omega) (by omega)) c15
    | succ r ih =>
      intro a g1 h1 h3 h4
      have hmk := mk_all 0 (by decide) a (by omega)
      refine xk_iload_n dX3_measure_10 rfl ?_
      refine xk_aload_n dX3_measure_11 rfl ?_
      refine xk_get (ci := 2) (r := (RX3, TX3, 2)) 0 dX3_measure_12 rfl inX3 (by decide) wf_X3_9 (hu2 _) rfl ?_
      refine xk_icmp_ge 38 dX3_measure_15 (by decide) (fun c15 => ?_) (fun c15 => ?_)
      · exact absurd c15 (nI_ge (by omega) (by omega))
      · refine xk_aload_n dX3_measure_18 rfl ?_
        refine xk_aload_n dX3_measure_19 rfl ?_
        refine xk_iload_n dX3_measure_20 rfl ?_
        refine xk_iload_n dX3_measure_21 rfl ?_
        refine xk_iconst (1) dX3_measure_22 (by decide) ?_
        refine xk_iload_n dX3_measure_23 rfl ?_
        refine xk_ishl dX3_measure_24 ?_
        rw [hmk.2.2.2]
        refine xk_iconst (1) dX3_measure_25 (by decide) ?_
        refine xk_ldc2 dX3_measure_26 wk_X3_25 ?_
        rw [show (4294967297 : Int64) = fr 1 1 from rfl]
        refine xk_v6n (M' := mX3_extend)  (ci := 2) (r0 := (RX3, TX3, 2)) dX3_measure_29 wm_X3_37 cv_X3_extend wi_X3_extend wl_X3_extend (by omega) (Nat.le_refl _) (Nat.le_refl _) rfl rfl (hu2 _) (Nat.le_of_ble_eq_true rfl) (y_X3_extend d hn ho (by omega) hut (n - 1) a (2 ^ a) 1 (1, 1) g1 _ (hT2 _) (hu2 _) (xs_at hg) h3 (by omega) (Nat.lt_of_le_of_lt (Nat.pow_le_pow_right (by decide) (show a ≤ 5 by omega)) (by decide)) (by omega) (by omega) ⟨by decide, by decide⟩) (by simp) ?_
        rw [List.set_set]
        refine xk_iinc (nI (a + 1)) dX3_measure_32 rfl (nI_1 a) (by decide) ?_
        dsimp only [xk_s1, xk_s2, xk_kill]
        refine xk_goto 10 dX3_measure_35 (by decide) ?_
        exact ih (a + 1) _ (by omega) (gB_ext ho hn (by omega) (n - 1) a _ 1 (1, 1) g1 (by omega) (by omega) ⟨by decide, by decide⟩ h3) (by rw [← h4, itr])
  refine xk_Y.ofX (k := 1) (ls := [some (.ref u), some (.ref t), none]) (by decide) rfl rfl ?_
  refine xk_aload_n dX3_measure_0 rfl ?_
  refine xk_get (ci := 2) (r := (RX3, TX3, 2)) 1 dX3_measure_1 rfl inX3 (by decide) wf_X3_15 hu rfl ?_
  refine xk_lconst (1) dX3_measure_4 (by decide) ?_
  rw [show (1 : Int64) = fr 0 1 from rfl]
  refine xk_s2nc (M' := mJ7_fill_d0a16)  dX3_measure_5 wm_X3_31 cv_J7_fill_d0a16 wt_J7_fill_d0a16 (by omega) (Nat.le_refl _) (Nat.le_refl _) (Nat.le_of_ble_eq_true rfl) (y_J7_fill d (by omega) hg) (by simp) ?_
  rw [fill_gw]
  refine xk_iconst (0) dX3_measure_8 (by decide) ?_
  refine xk_istore_n dX3_measure_9 (by decide) ?_
  dsimp only [xk_s1, xk_s2, xk_kill]
  exact l10 n 0 _ (by omega) (gB_fill hB) rfl

set_option maxHeartbeats 4000000 in
set_option maxRecDepth 100000 in
/-- noneAboveOne -/
theorem y_X3_noneAboveOne (d : Nat) {hs : xk_H} {t n fl u : Nat} {w : tbW} {g : gS} (hn : n ≤ 6) (h2 : 2 ≤ n) (hT : tbA hs t n w fl) (ho : tbOK n w) (hu : hs[u]? = some (.inr (2, [.int (nI n), .ref (u + 1)]))) (hg : hs[u + 1]? = some (gw n g)) (hB : gB g) (hut : ¬ tbS t n (u + 1)) : xk_F (d + 10) mX3_noneAboveOne [.ref u, .ref t] hs (some (.int (xk_b (noneG (measG w n g) (n - 2) 3)))) (hs.set (u + 1) (gw n (measG w n g))) := by
  have hu2 : ∀ e : xk_C, (hs.set (u + 1) e)[u]? = some (.inr (2, [.int (nI n), .ref (u + 1)])) := fun e => (xs_ne (by omega)).trans hu
  have hB2 := gB_meas ho hn hB (w := w)
  have l7 : ∀ (r z : Nat), z + r = n + 1 → noneG (measG w n g) r z = noneG (measG w n g) (n - 2) 3 → xk_P (d + 10) mX3_noneAboveOne [.ref u, .ref t] hs (some (.int (xk_b (noneG (measG w n g) (n - 2) 3)))) (hs.set (u + 1) (gw n (measG w n g))) 7 [some (.ref u), some (.ref t), some (.int (nI z))] [] (hs.set (u + 1) (gw n (measG w n g))) := by
    intro r
    induction r with
    | zero =>
      intro z h1 h3
      refine xk_iload_n dX3_noneAboveOne_7 rfl ?_
      refine xk_aload_n dX3_noneAboveOne_8 rfl ?_
      refine xk_get (ci := 2) (r := (RX3, TX3, 2)) 0 dX3_noneAboveOne_9 rfl inX3 (by decide) wf_X3_9 (hu2 _) rfl ?_
      refine xk_icmp_gt 38 dX3_noneAboveOne_12 (by decide) (fun c12 => ?_) (fun c12 => ?_)
      · refine xk_iconst (1) dX3_noneAboveOne_38 (by decide) ?_
        exact xk_zret rfl (by rfl) dX3_noneAboveOne_39 (Nat.le_refl _) (Nat.le_refl _) ⟨by rw [← h3]; rfl, rfl⟩
      · exact absurd (nI_lt (by omega) (by omega)) c12
    | succ r ih =>
      intro z h1 h3
      have hBz := hB2 z
      refine xk_iload_n dX3_noneAboveOne_7 rfl ?_
      refine xk_aload_n dX3_noneAboveOne_8 rfl ?_
      refine xk_get (ci := 2) (r := (RX3, TX3, 2)) 0 dX3_noneAboveOne_9 rfl inX3 (by decide) wf_X3_9 (hu2 _) rfl ?_
      refine xk_icmp_gt 38 dX3_noneAboveOne_12 (by decide) (fun c12 => ?_) (fun c12 => ?_)
      · exact absurd c12 (nI_nlt (by omega) (by omega))
      · refine xk_aload_n dX3_noneAboveOne_15 rfl ?_
        refine xk_get (ci := 2) (r := (RX3, TX3, 2)) 1 dX3_noneAboveOne_16 rfl inX3 (by decide) wf_X3_15 (hu2 _) rfl ?_
        refine xk_iload_n dX3_noneAboveOne_19 rfl ?_
        refine xk_lald dX3_noneAboveOne_20 (xs_at hg) (vp_in_nI (by omega) (by omega)) ?_
        rw [nI_clamp (by omega)]
        refine xk_ldc2 dX3_noneAboveOne_21 wk_X3_25 ?_
        rw [show (4294967297 : Int64) = fr 1 1 from rfl]
        refine xk_s2c (M' := mX1_isAbove) (d' := (d + 8) + 1) dX3_noneAboveOne_24 wm_X3_27 cv_X1_isAbove wt_X1_isAbove (by omega) (Nat.le_refl _) (Nat.le_refl _) (Nat.le_of_ble_eq_true rfl) (y_X1_isAbove (d + 8) (by omega) (by omega) (by omega) (by omega)) rfl ?_
        refine xk_ifb_eq 32 dX3_noneAboveOne_27 (by decide) (fun c27 => ?_) (fun c27 => ?_)
        · have c28 : ¬ (measG w n g z).2 < (measG w n g z).1 := by
            have := of_decide_eq_false c27
            omega
          refine xk_iinc (nI (z + 1)) dX3_noneAboveOne_32 rfl (nI_1 z) (by decide) ?_
          dsimp only [xk_s1, xk_s2, xk_kill]
          refine xk_goto 7 dX3_noneAboveOne_35 (by decide) ?_
          exact ih (z + 1) (by omega) (by rw [← h3]; conv => rhs; rw [noneG, if_neg c28])
        · have c28 : (measG w n g z).2 < (measG w n g z).1 := by
            have := of_decide_eq_true c27
            omega
          refine xk_iconst (0) dX3_noneAboveOne_30 (by decide) ?_
          exact xk_zret rfl (by rfl) dX3_noneAboveOne_31 (Nat.le_refl _) (Nat.le_refl _) ⟨by rw [← h3, noneG, if_pos c28]; rfl, rfl⟩
  refine xk_Y.ofX (k := 1) (ls := [some (.ref u), some (.ref t), none]) (by decide) rfl rfl ?_
  refine xk_aload_n dX3_noneAboveOne_0 rfl ?_
  refine xk_aload_n dX3_noneAboveOne_1 rfl ?_
  refine xk_v1n (M' := mX3_measure) (d' := d + 9) (ci := 2) (r0 := (RX3, TX3, 2)) dX3_noneAboveOne_2 wm_X3_19 cv_X3_measure wi_X3_measure wl_X3_measure (by omega) (Nat.le_refl _) (Nat.le_refl _) rfl rfl hu (Nat.le_of_ble_eq_true rfl) (y_X3_measure d hn h2 hT ho hu hg hB hut) (by simp) ?_
  refine xk_iconst (3) dX3_noneAboveOne_5 (by decide) ?_
  refine xk_istore_n dX3_noneAboveOne_6 (by decide) ?_
  dsimp only [xk_s1, xk_s2, xk_kill]
  exact l7 (n - 2) 3 (by omega) rfl

