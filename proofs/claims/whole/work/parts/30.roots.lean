/-! Roots.isAbove. Laid by a program of our own. -/
set_option maxHeartbeats 4000000 in
set_option maxRecDepth 100000 in
theorem y_X4_isAbove (d : Nat) {hs : xk_H} {r N1 N2 ta ba tb bb ra rb : Nat} (hN1 : N1 < 2 ^ 240) (hN2 : N2 < 2 ^ 240) (hr : hs[r]? = some (.inr (3, [.ref (r + 1), .ref (r + 3)]))) (h1 : hs[r + 1]? = some (.inr (0, [.ref (r + 1 + 1)]))) (hl1 : hs[r + 1 + 1]? = some (bw N1)) (h2 : hs[r + 3]? = some (.inr (0, [.ref (r + 3 + 1)]))) (hl2 : hs[r + 3 + 1]? = some (bw N2)) (hta : 1 ≤ ta ∧ ta < 1048576) (hba : 1 ≤ ba ∧ ba < 1048576) (htb : 1 ≤ tb ∧ tb < 1048576) (hbb : 1 ≤ bb ∧ bb < 1048576) (hra : ra < 100) (hrb : rb < 100) (ho1 : ta ^ rb * bb ^ ra < 2 ^ 240) (ho2 : tb ^ ra * ba ^ rb < 2 ^ 240) : xk_F (d + 2) mX4_isAbove [.ref r, .long (fr ta ba), .int (nI ra), .long (fr tb bb), .int (nI rb)] hs (some (.int (xk_b (decide (tb ^ ra * ba ^ rb < ta ^ rb * bb ^ ra))))) ((hs.set (r + 1 + 1) (bw (ta ^ rb * bb ^ ra))).set (r + 3 + 1) (bw (tb ^ ra * ba ^ rb))) := by
  have A1 : ∀ a : xk_C, (hs.set (r + 1 + 1) a)[r]? = some (.inr (3, [.ref (r + 1), .ref (r + 3)])) := fun a => (xs_ne (by omega)).trans hr
  have A2 : ∀ a b : xk_C, ((hs.set (r + 1 + 1) a).set (r + 3 + 1) b)[r]? = some (.inr (3, [.ref (r + 1), .ref (r + 3)])) := fun a b => (xs_ne (by omega)).trans (A1 a)
  have E1 : ∀ a : xk_C, (hs.set (r + 1 + 1) a)[r + 1]? = some (.inr (0, [.ref (r + 1 + 1)])) := fun a => (xs_ne (by omega)).trans h1
  have E2 : ∀ a b : xk_C, ((hs.set (r + 1 + 1) a).set (r + 3 + 1) b)[r + 1]? = some (.inr (0, [.ref (r + 1 + 1)])) := fun a b => (xs_ne (by omega)).trans (E1 a)
  have F1 : ∀ a : xk_C, (hs.set (r + 1 + 1) a)[r + 3]? = some (.inr (0, [.ref (r + 3 + 1)])) := fun a => (xs_ne (by omega)).trans h2
  have F2 : ∀ a b : xk_C, ((hs.set (r + 1 + 1) a).set (r + 3 + 1) b)[r + 3]? = some (.inr (0, [.ref (r + 3 + 1)])) := fun a b => (xs_ne (by omega)).trans (F1 a)
  have L1 : ∀ a : xk_C, (hs.set (r + 1 + 1) a)[r + 1 + 1]? = some a := fun a => xs_at hl1
  have L2 : ∀ a b : xk_C, ((hs.set (r + 1 + 1) a).set (r + 3 + 1) b)[r + 1 + 1]? = some a := fun a b => (xs_ne (by omega)).trans (L1 a)
  have M1 : ∀ a : xk_C, (hs.set (r + 1 + 1) a)[r + 3 + 1]? = some (bw N2) := fun a => (xs_ne (by omega)).trans hl2
  have M2 : ∀ a b : xk_C, ((hs.set (r + 1 + 1) a).set (r + 3 + 1) b)[r + 3 + 1]? = some b := fun a b => xs_at (M1 a)
  have k1 : 1 * ta ^ rb < 2 ^ 240 := by
    rw [Nat.one_mul]
    exact Nat.lt_of_le_of_lt (Nat.le_mul_of_pos_right _ (Nat.pow_pos hbb.1)) ho1
  have k2 : 1 * ta ^ rb * bb ^ ra < 2 ^ 240 := by rw [Nat.one_mul]; exact ho1
  have k3 : 1 * tb ^ ra < 2 ^ 240 := by
    rw [Nat.one_mul]
    exact Nat.lt_of_le_of_lt (Nat.le_mul_of_pos_right _ (Nat.pow_pos hba.1)) ho2
  have k4 : 1 * tb ^ ra * ba ^ rb < 2 ^ 240 := by rw [Nat.one_mul]; exact ho2
  refine xk_Y.ofX (k := 0) (ls := [some (.ref r), some (.long (fr ta ba)), none, some (.int (nI ra)), some (.long (fr tb bb)), none, some (.int (nI rb))]) (by decide) rfl rfl ?_
  refine xk_aload_n dX4_isAbove_0 rfl ?_
  refine xk_get (ci := 3) (r := (RX4, TX4, 2)) 0 dX4_isAbove_1 rfl inX4 (by decide) wf_X4_10 hr rfl ?_
  refine xk_v0n (M' := mX0_reset) (d' := d + 1) (ci := 0) (r0 := (RX0, TX0, 1)) dX4_isAbove_4 wm_X4_19 cv_X0_reset wi_X0_reset wl_X0_reset (by omega) (Nat.le_refl _) (Nat.le_refl _) rfl rfl h1 (Nat.le_of_ble_eq_true rfl) (y_X0_reset d hN1 h1 hl1) (by simp) ?_
  refine xk_aload_n dX4_isAbove_7 rfl ?_
  refine xk_get (ci := 3) (r := (RX4, TX4, 2)) 0 dX4_isAbove_8 rfl inX4 (by decide) wf_X4_10 (A1 _) rfl ?_
  refine xk_lload_n dX4_isAbove_11 rfl ?_
  refine xk_s1c (M' := mX1_top) (d' := (d + 1)) dX4_isAbove_12 wm_X4_22 cv_X1_top wt_X1_top (by omega) (Nat.le_refl _) (Nat.le_refl _) (Nat.le_of_ble_eq_true rfl) (y_X1_top (d + 1) (by omega) (by omega)) rfl ?_
  refine xk_iload dX4_isAbove_15 rfl ?_
  refine xk_v2n (M' := mX0_multiply) (d' := (d + 1)) (ci := 0) (r0 := (RX0, TX0, 1)) dX4_isAbove_17 wm_X4_28 cv_X0_multiply wi_X0_multiply wl_X0_multiply (by omega) (Nat.le_refl _) (Nat.le_refl _) rfl rfl (E1 _) (Nat.le_of_ble_eq_true rfl) (y_X0_multiply (d + 1) hta.2 hrb k1 hta.1 (E1 _) (L1 _)) (by simp) ?_
  rw [List.set_set]
  refine xk_aload_n dX4_isAbove_20 rfl ?_
  refine xk_get (ci := 3) (r := (RX4, TX4, 2)) 0 dX4_isAbove_21 rfl inX4 (by decide) wf_X4_10 (A1 _) rfl ?_
  refine xk_lload dX4_isAbove_24 rfl ?_
  refine xk_s1c (M' := mX1_bottom) (d' := (d + 1)) dX4_isAbove_26 wm_X4_32 cv_X1_bottom wt_X1_bottom (by omega) (Nat.le_refl _) (Nat.le_refl _) (Nat.le_of_ble_eq_true rfl) (y_X1_bottom (d + 1) (by omega) (by omega)) rfl ?_
  refine xk_iload_n dX4_isAbove_29 rfl ?_
  refine xk_v2n (M' := mX0_multiply) (d' := (d + 1)) (ci := 0) (r0 := (RX0, TX0, 1)) dX4_isAbove_30 wm_X4_28 cv_X0_multiply wi_X0_multiply wl_X0_multiply (by omega) (Nat.le_refl _) (Nat.le_refl _) rfl rfl (E1 _) (Nat.le_of_ble_eq_true rfl) (y_X0_multiply (d + 1) hbb.2 hra k2 hbb.1 (E1 _) (L1 _)) (by simp) ?_
  rw [List.set_set, Nat.one_mul]
  refine xk_aload_n dX4_isAbove_33 rfl ?_
  refine xk_get (ci := 3) (r := (RX4, TX4, 2)) 1 dX4_isAbove_34 rfl inX4 (by decide) wf_X4_16 (A1 _) rfl ?_
  refine xk_v0n (M' := mX0_reset) (d' := d + 1) (ci := 0) (r0 := (RX0, TX0, 1)) dX4_isAbove_37 wm_X4_19 cv_X0_reset wi_X0_reset wl_X0_reset (by omega) (Nat.le_refl _) (Nat.le_refl _) rfl rfl (F1 _) (Nat.le_of_ble_eq_true rfl) (y_X0_reset d hN2 (F1 _) (M1 _)) (by simp) ?_
  refine xk_aload_n dX4_isAbove_40 rfl ?_
  refine xk_get (ci := 3) (r := (RX4, TX4, 2)) 1 dX4_isAbove_41 rfl inX4 (by decide) wf_X4_16 (A2 _ _) rfl ?_
  refine xk_lload dX4_isAbove_44 rfl ?_
  refine xk_s1c (M' := mX1_top) (d' := (d + 1)) dX4_isAbove_46 wm_X4_22 cv_X1_top wt_X1_top (by omega) (Nat.le_refl _) (Nat.le_refl _) (Nat.le_of_ble_eq_true rfl) (y_X1_top (d + 1) (by omega) (by omega)) rfl ?_
  refine xk_iload_n dX4_isAbove_49 rfl ?_
  refine xk_v2n (M' := mX0_multiply) (d' := (d + 1)) (ci := 0) (r0 := (RX0, TX0, 1)) dX4_isAbove_50 wm_X4_28 cv_X0_multiply wi_X0_multiply wl_X0_multiply (by omega) (Nat.le_refl _) (Nat.le_refl _) rfl rfl (F2 _ _) (Nat.le_of_ble_eq_true rfl) (y_X0_multiply (d + 1) htb.2 hra k3 htb.1 (F2 _ _) (M2 _ _)) (by simp) ?_
  rw [List.set_set]
  refine xk_aload_n dX4_isAbove_53 rfl ?_
  refine xk_get (ci := 3) (r := (RX4, TX4, 2)) 1 dX4_isAbove_54 rfl inX4 (by decide) wf_X4_16 (A2 _ _) rfl ?_
  refine xk_lload_n dX4_isAbove_57 rfl ?_
  refine xk_s1c (M' := mX1_bottom) (d' := (d + 1)) dX4_isAbove_58 wm_X4_32 cv_X1_bottom wt_X1_bottom (by omega) (Nat.le_refl _) (Nat.le_refl _) (Nat.le_of_ble_eq_true rfl) (y_X1_bottom (d + 1) (by omega) (by omega)) rfl ?_
  refine xk_iload dX4_isAbove_61 rfl ?_
  refine xk_v2n (M' := mX0_multiply) (d' := (d + 1)) (ci := 0) (r0 := (RX0, TX0, 1)) dX4_isAbove_63 wm_X4_28 cv_X0_multiply wi_X0_multiply wl_X0_multiply (by omega) (Nat.le_refl _) (Nat.le_refl _) rfl rfl (F2 _ _) (Nat.le_of_ble_eq_true rfl) (y_X0_multiply (d + 1) hba.2 hrb k4 hba.1 (F2 _ _) (M2 _ _)) (by simp) ?_
  rw [List.set_set, Nat.one_mul]
  refine xk_aload_n dX4_isAbove_66 rfl ?_
  refine xk_get (ci := 3) (r := (RX4, TX4, 2)) 0 dX4_isAbove_67 rfl inX4 (by decide) wf_X4_10 (A2 _ _) rfl ?_
  refine xk_aload_n dX4_isAbove_70 rfl ?_
  refine xk_get (ci := 3) (r := (RX4, TX4, 2)) 1 dX4_isAbove_71 rfl inX4 (by decide) wf_X4_16 (A2 _ _) rfl ?_
  refine xk_v1 (M' := mX0_isAbove) (d' := (d + 1)) (ci := 0) (r0 := (RX0, TX0, 1)) dX4_isAbove_74 wm_X4_35 cv_X0_isAbove wi_X0_isAbove wl_X0_isAbove (by omega) (Nat.le_refl _) (Nat.le_refl _) rfl rfl (E2 _ _) (Nat.le_of_ble_eq_true rfl) (y_X0_isAbove (d + 1) ho1 ho2 (E2 _ _) (L2 _ _) (F2 _ _) (M2 _ _)) rfl ?_
  exact xk_zret rfl (xk_b_nar _) dX4_isAbove_77 (Nat.le_refl _) (Nat.le_refl _) ⟨rfl, rfl⟩

