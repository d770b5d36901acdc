/-! Constructors. Laid by a program of our own. -/
set_option maxHeartbeats 4000000 in
set_option maxRecDepth 100000 in
theorem y_X0_init (d : Nat) {hs : xk_H} {b : Nat} (hb : hs.length = b + 1) (ho : hs[b]? = some (.inr (0, [.null]))) : xk_Y (d + 1) 1 8 mX0_init true [.ref b] hs (fun r' h => r' = none ∧ h[b]? = some (.inr (0, [.ref (b + 1)])) ∧ h[b + 1]? = some (bw 0) ∧ xext b hs h 1) := by
  refine xk_Y.ofX (k := 0) (ls := [some (.ref b)]) (by decide) rfl rfl ?_
  refine xk_aload_n dX0_init_0 rfl ?_
  refine xk_objInit dX0_init_1 wm_X0_3 (by omega) (Nat.le_of_ble_eq_true rfl) ?_
  refine xk_aload_n dX0_init_4 rfl ?_
  refine xk_bipush (8) dX0_init_5 (by decide) ?_
  rw [show (8 : Int32) = nI 8 from rfl]
  refine xk_newJ (B := 8) dX0_init_7 (by omega) (by omega) (by decide +kernel) (by decide +kernel) (fun k hk => by have h9 : k < hs.length := hk rfl; first | omega | (simp only [List.length_append, List.length_set, List.length_cons, List.length_nil, List.length_replicate]; omega)) ?_
  refine xk_putF (ci := 0) (r := (RX0, TX0, 1)) 0 tyX0 dX0_init_9 rfl inX0 tyX0_ok nmX0 (by decide) wf_X0_9 rfl rfl rfl (fun _ => rfl) (fun _ => rfl) ((xa_old (by omega)).trans ho) (Nat.le_of_ble_eq_true rfl) ?_
  dsimp only [List.set]
  exact xk_vret rfl dX0_init_12 (by decide +kernel) (by decide +kernel) ⟨rfl, by rw [hb]; exact xs_at ((xa_old (by omega)).trans ho), by rw [← bw_0]; exact (xs_ne (by omega)).trans (xa_at (by omega)), by simp, fun k h1 h2 => (xs_ne (Ne.symm h2)).trans (xa_old h1)⟩

set_option maxHeartbeats 4000000 in
set_option maxRecDepth 100000 in
theorem y_X7_init (d : Nat) {hs : xk_H} {b n : Nat} (ho : hs[b]? = some (.inr (6, [.int 0, .int 0, .int 0, .int 0, .long 0]))) : xk_Y (d + 1) 0 0 mX7_init true [.ref b, .int (nI n)] hs (fun r' h => r' = none ∧ h[b]? = some (woO n (0, 0, 0, 0, 0)) ∧ xext b hs h 0) := by
  refine xk_Y.ofX (k := 0) (ls := [some (.ref b), some (.int (nI n))]) (by decide) rfl rfl ?_
  refine xk_aload_n dX7_init_0 rfl ?_
  refine xk_objInit dX7_init_1 wm_X7_1 (by omega) (Nat.le_of_ble_eq_true rfl) ?_
  refine xk_aload_n dX7_init_4 rfl ?_
  refine xk_iload_n dX7_init_5 rfl ?_
  refine xk_putF (ci := 6) (r := (RX7, TX7, 5)) 0 tyX7 dX7_init_6 rfl inX7 tyX7_ok nmX7 (by decide) wf_X7_7 rfl rfl rfl (fun _ => rfl) (fun _ => rfl) ho (Nat.le_of_ble_eq_true rfl) ?_
  dsimp only [List.set]
  exact xk_vret rfl dX7_init_9 (by decide +kernel) (by decide +kernel) ⟨rfl, xs_at ho, by simp, fun k h1 h2 => xs_ne (Ne.symm h2)⟩

set_option maxHeartbeats 4000000 in
set_option maxRecDepth 100000 in
theorem y_X3_init (d : Nat) {hs : xk_H} {b n : Nat} (hn : n ≤ 6) (hb : hs.length = b + 1) (ho : hs[b]? = some (.inr (2, [.int 0, .null]))) : xk_Y (d + 1) 1 7 mX3_init true [.ref b, .int (nI n)] hs (fun r' h => r' = none ∧ h[b]? = some (.inr (2, [.int (nI n), .ref (b + 1)])) ∧ h[b + 1]? = some (gw n (fun _ => (0, 0))) ∧ xext b hs h 1) := by
  refine xk_Y.ofX (k := 0) (ls := [some (.ref b), some (.int (nI n))]) (by decide) rfl rfl ?_
  refine xk_aload_n dX3_init_0 rfl ?_
  refine xk_objInit dX3_init_1 wm_X3_3 (by omega) (Nat.le_of_ble_eq_true rfl) ?_
  refine xk_aload_n dX3_init_4 rfl ?_
  refine xk_iload_n dX3_init_5 rfl ?_
  refine xk_putF (ci := 2) (r := (RX3, TX3, 2)) 0 tyX3 dX3_init_6 rfl inX3 tyX3_ok nmX3 (by decide) wf_X3_9 rfl rfl rfl (fun _ => rfl) (fun _ => rfl) ho (Nat.le_of_ble_eq_true rfl) ?_
  dsimp only [List.set]
  refine xk_aload_n dX3_init_9 rfl ?_
  refine xk_iload_n dX3_init_10 rfl ?_
  refine xk_iconst (1) dX3_init_11 (by decide) ?_
  refine xk_iadd dX3_init_12 ?_
  rw [nI_1]
  refine xk_newJ (B := 7) dX3_init_13 (by omega) (by omega) (by decide +kernel) (by decide +kernel) (fun k hk => by have h9 : k < hs.length := hk rfl; first | omega | (simp only [List.length_append, List.length_set, List.length_cons, List.length_nil, List.length_replicate]; omega)) ?_
  refine xk_putF (ci := 2) (r := (RX3, TX3, 2)) 1 tyX3 dX3_init_15 rfl inX3 tyX3_ok nmX3 (by decide) wf_X3_15 rfl rfl rfl (fun _ => rfl) (fun _ => rfl) ((xa_old (by simp; omega)).trans (xs_at ho)) (Nat.le_of_ble_eq_true rfl) ?_
  dsimp only [List.set]
  exact xk_vret rfl dX3_init_18 (by decide +kernel) (by decide +kernel) ⟨rfl, by rw [List.length_set, hb]; exact xs_at ((xa_old (by simp; omega)).trans (xs_at ho)), by rw [← gw_0]; exact (xs_ne (by omega)).trans (xa_at (by simp; omega)), by simp, fun k h1 h2 => (xs_ne (Ne.symm h2)).trans ((xa_old (by simp; omega)).trans (xs_ne (Ne.symm h2)))⟩

set_option maxHeartbeats 4000000 in
set_option maxRecDepth 100000 in
theorem y_X6_init (d : Nat) {hs : xk_H} {b n : Nat} (h2n : 2 ≤ n) (hn : n ≤ 6) (hb : hs.length = b + 1) (ho : hs[b]? = some (.inr (5, [.int 0, .null]))) : xk_Y (d + 1) 7 42 mX6_init true [.ref b, .int (nI n)] hs (fun r' h => r' = none ∧ mtA h b (n - 1) (fun _ _ => 0) ∧ xext b hs h n) := by
  refine xk_Y.ofX (k := 0) (ls := [some (.ref b), some (.int (nI n))]) (by decide) rfl rfl ?_
  refine xk_aload_n dX6_init_0 rfl ?_
  refine xk_objInit dX6_init_1 wm_X6_1 (by omega) (Nat.le_of_ble_eq_true rfl) ?_
  refine xk_aload_n dX6_init_4 rfl ?_
  refine xk_iload_n dX6_init_5 rfl ?_
  refine xk_iconst (1) dX6_init_6 (by decide) ?_
  refine xk_isub dX6_init_7 ?_
  rw [show (1 : Int32) = nI 1 from rfl, pk_sub (by omega)]
  refine xk_putF (ci := 5) (r := (RX6, TX6, 2)) 0 tyX6 dX6_init_8 rfl inX6 tyX6_ok nmX6 (by decide) wf_X6_7 rfl rfl rfl (fun _ => rfl) (fun _ => rfl) ho (Nat.le_of_ble_eq_true rfl) ?_
  dsimp only [List.set]
  refine xk_aload_n dX6_init_11 rfl ?_
  refine xk_iload_n dX6_init_12 rfl ?_
  refine xk_iconst (1) dX6_init_13 (by decide) ?_
  refine xk_isub dX6_init_14 ?_
  rw [show (1 : Int32) = nI 1 from rfl, pk_sub (by omega)]
  refine xk_iload_n dX6_init_15 rfl ?_
  refine xk_iconst (1) dX6_init_16 (by decide) ?_
  refine xk_isub dX6_init_17 ?_
  rw [show (1 : Int32) = nI 1 from rfl, pk_sub (by omega)]
  refine xk_mnaI wq_X6_13 dX6_init_18 (by omega) (by omega) (by decide +kernel) (by decide +kernel) (fun k hk => by have h9 : k < hs.length := hk rfl; first | omega | (simp only [List.length_append, List.length_set, List.length_cons, List.length_nil, List.length_replicate]; omega)) ?_
  refine xk_putF (ci := 5) (r := (RX6, TX6, 2)) 1 tyX6 dX6_init_22 rfl inX6 tyX6_ok nmX6 (by decide) wf_X6_15 rfl rfl rfl (fun _ => rfl) (fun _ => rfl) ((xa_old (by simp; omega)).trans (xs_at ho)) (Nat.le_of_ble_eq_true rfl) ?_
  dsimp only [List.set]
  exact xk_vret rfl dX6_init_25 (by decide +kernel) (by decide +kernel) ⟨rfl, ⟨by rw [List.length_set, hb]; exact xs_at ((xa_old (by simp; omega)).trans (xs_at ho)), by rw [List.length_set, hb]; exact (xs_ne (by omega)).trans (xa_at (by simp; omega)), fun i hi => ⟨fun _ => 0, (xs_ne (by omega)).trans (xa_rep (i := i) (by simp; omega) hi), fun _ _ => rfl⟩⟩, by simp; omega, fun k h1 h2 => (xs_ne (Ne.symm h2)).trans ((xa_old (by simp; omega)).trans (xs_ne (Ne.symm h2)))⟩

set_option maxHeartbeats 4000000 in
set_option maxRecDepth 100000 in
theorem y_X5_init (d : Nat) {hs : xk_H} {b n : Nat} (h2n : 2 ≤ n) (hn : n ≤ 6) (hb : hs.length = b + 1) (ho : hs[b]? = some (.inr (4, [.int 0, .null, .int 0]))) : xk_Y (d + 1) 7 42 mX5_init true [.ref b, .int (nI n)] hs (fun r' h => r' = none ∧ tbA h b n (w0 n) 0 ∧ xext b hs h (n + 1)) := by
  have l21 : ∀ (r i : Nat) (h : xk_H), i + r = n → (h.length = b + 2 + n ∧ h[b]? = some (.inr (4, [.int (nI n), .ref (b + 1), .int 0])) ∧ h[b + 1]? = some (.inl (4, n, .inr (.inr (.inr (.inr (fun i => if i < n then some (b + 2 + i) else none)))))) ∧ (∀ j, j < i → h[b + 2 + j]? = some (.inl (1, n, .inr (.inl (tbRow (w0 n) j))))) ∧ (∀ j, i ≤ j → j < n → h[b + 2 + j]? = some (.inl (1, n, .inr (.inl (fun _ => 0))))) ∧ ∀ k, k < b → h[k]? = hs[k]?) → xk_X (d + 1) 7 42 mX5_init (xk_fx true hs) (fun r' h => r' = none ∧ tbA h b n (w0 n) 0 ∧ xext b hs h (n + 1)) (0 + 7) (0 + 42) 21 [some (.ref b), some (.int (nI n)), some (.int (nI i))] [] h := by
    intro r
    induction r with
    | zero =>
      intro i h h1 hP
      obtain ⟨p1, p2, p3, p4, p5, p6⟩ := hP
      obtain rfl : i = n := by omega
      refine xk_iload_n dX5_init_21 rfl ?_
      refine xk_iload_n dX5_init_22 rfl ?_
      refine xk_icmp_ge 42 dX5_init_23 (by decide) (fun c23 => ?_) (fun c23 => ?_)
      · exact xk_vret rfl dX5_init_42 (by decide +kernel) (by decide +kernel) ⟨rfl, ⟨p2, p3, fun j hj => p4 j hj⟩, by omega, fun k h1 h2 => p6 k (by omega)⟩
      · exact absurd (nI_le (Nat.le_refl _) (by omega)) c23
    | succ r ih =>
      intro i h h1 hP
      obtain ⟨p1, p2, p3, p4, p5, p6⟩ := hP
      have q3 : (nI i).toNatClampNeg = i := nI_clamp (by omega)
      refine xk_iload_n dX5_init_21 rfl ?_
      refine xk_iload_n dX5_init_22 rfl ?_
      refine xk_icmp_ge 42 dX5_init_23 (by decide) (fun c23 => ?_) (fun c23 => ?_)
      · exact absurd c23 (nI_ge (by omega) (by omega))
      · refine xk_aload_n dX5_init_26 rfl ?_
        refine xk_get (ci := 4) (r := (RX5, TX5, 3)) 1 dX5_init_27 rfl inX5 (by decide) wf_X5_15 p2 rfl ?_
        refine xk_iload_n dX5_init_30 rfl ?_
        refine xk_aaldJ dX5_init_31 p3 (vp_in_nI (by omega) (by omega)) (by rw [q3]; exact if_pos (by omega)) ?_
        refine xk_lconst (1) dX5_init_32 (by decide) ?_
        refine xk_s2nc (M' := mJ7_fill_d0a16)  dX5_init_33 wm_X5_20 cv_J7_fill_d0a16 wt_J7_fill_d0a16 (by omega) (by decide +kernel) (by decide +kernel) (Nat.le_of_ble_eq_true rfl) (y_J7_fill d (n := n) (by omega) (p5 i (Nat.le_refl _) (by omega))) (by simp) ?_
        refine xk_iinc (nI (i + 1)) dX5_init_36 rfl (nI_1 i) (by decide) ?_
        dsimp only [xk_s1, xk_s2, xk_kill]
        refine xk_goto 21 dX5_init_39 (by decide) ?_
        rw [w0_row n i]
        refine ih (i + 1) _ (by omega) ⟨by rw [List.length_set]; exact p1, (xs_ne (by omega)).trans p2, (xs_ne (by omega)).trans p3, fun j hj => ?_, fun j hj hjn => (xs_ne (by omega)).trans (p5 j (by omega) hjn), fun k hk => (xs_ne (by omega)).trans (p6 k hk)⟩
        by_cases e : j = i
        · subst e; exact xs_at (p5 j (Nat.le_refl _) (by omega))
        · exact (xs_ne (by omega)).trans (p4 j (by omega))
  refine xk_Y.ofX (k := 1) (ls := [some (.ref b), some (.int (nI n)), none]) (by decide) rfl rfl ?_
  refine xk_aload_n dX5_init_0 rfl ?_
  refine xk_objInit dX5_init_1 wm_X5_1 (by omega) (Nat.le_of_ble_eq_true rfl) ?_
  refine xk_aload_n dX5_init_4 rfl ?_
  refine xk_iload_n dX5_init_5 rfl ?_
  refine xk_putF (ci := 4) (r := (RX5, TX5, 3)) 0 tyX5 dX5_init_6 rfl inX5 tyX5_ok nmX5 (by decide) wf_X5_7 rfl rfl rfl (fun _ => rfl) (fun _ => rfl) ho (Nat.le_of_ble_eq_true rfl) ?_
  dsimp only [List.set]
  refine xk_aload_n dX5_init_9 rfl ?_
  refine xk_iload_n dX5_init_10 rfl ?_
  refine xk_iload_n dX5_init_11 rfl ?_
  refine xk_mnaJ wq_X5_13 dX5_init_12 (by omega) (by omega) (by decide +kernel) (by decide +kernel) (fun k hk => by have h9 : k < hs.length := hk rfl; first | omega | (simp only [List.length_append, List.length_set, List.length_cons, List.length_nil, List.length_replicate]; omega)) ?_
  refine xk_putF (ci := 4) (r := (RX5, TX5, 3)) 1 tyX5 dX5_init_16 rfl inX5 tyX5_ok nmX5 (by decide) wf_X5_15 rfl rfl rfl (fun _ => rfl) (fun _ => rfl) ((xa_old (by simp; omega)).trans (xs_at ho)) (Nat.le_of_ble_eq_true rfl) ?_
  dsimp only [List.set]
  refine xk_iconst (0) dX5_init_19 (by decide) ?_
  refine xk_istore_n dX5_init_20 (by decide) ?_
  dsimp only [xk_s1, xk_s2, xk_kill]
  refine l21 n 0 _ (by omega) ⟨by simp; omega, by rw [List.length_set, hb]; exact xs_at ((xa_old (by simp; omega)).trans (xs_at ho)), by rw [List.length_set, hb]; exact (xs_ne (by omega)).trans (xa_at (by simp; omega)), fun j hj => absurd hj (by omega), fun j _ hj => (xs_ne (by omega)).trans (xa_rep (i := j) (by simp; omega) hj), fun k hk => (xs_ne (by omega)).trans ((xa_old (by simp; omega)).trans (xs_ne (by omega)))⟩

set_option maxHeartbeats 4000000 in
set_option maxRecDepth 100000 in
theorem y_X4_init (d : Nat) {hs : xk_H} {b : Nat} (hb : hs.length = b + 1) (ho : hs[b]? = some (.inr (3, [.null, .null]))) : xk_Y (d + 2) 4 18 mX4_init true [.ref b] hs (fun r' h => r' = none ∧ rtA h b ∧ xext b hs h 4) := by
  refine xk_Y.ofX (k := 0) (ls := [some (.ref b)]) (by decide) rfl rfl ?_
  refine xk_aload_n dX4_init_0 rfl ?_
  refine xk_objInit dX4_init_1 wm_X4_1 (by omega) (Nat.le_of_ble_eq_true rfl) ?_
  refine xk_aload_n dX4_init_4 rfl ?_
  refine xk_new (ci := 0) (r := (RX0, TX0, 1)) (fs := [.null]) tyX0 dX4_init_5 rfl inX0 tyX0_ok wq_X4_7 wz_X0 wn_X0 (fun j hj => by match j, hj with | 0, _ => rfl | n + 1, h => exact absurd (show n + 1 < 1 from h) (by omega)) (fun v hv => by simp only [List.mem_cons, List.not_mem_nil, or_false] at hv; rcases hv with rfl <;> trivial) (by decide +kernel) (by decide +kernel) (fun k hk => by have h9 : k < hs.length := hk rfl; first | omega | (simp only [List.length_append, List.length_set, List.length_cons, List.length_nil, List.length_replicate]; omega)) ?_
  rw [hb]
  refine xk_dup dX4_init_8 rfl ?_
  refine xk_callIN0 (M' := mX0_init) (d' := d + 1) (mc' := 1) (ms' := 8) (host := "PairScales") dX4_init_9 (List.mem_of_getElem? (i := 9) rfl) cv_X0_init wi_X0_init rfl rfl (by omega) (by decide +kernel) (by decide +kernel) (Nat.le_of_ble_eq_true rfl) (fun k hk => by have h9 : k < hs.length := hk rfl; first | omega | (simp only [List.length_append, List.length_set, List.length_cons, List.length_nil, List.length_replicate]; omega)) (y_X0_init d (b := b + 1) (by simp; omega) (xa_at (by omega))) (fun _ _ z => by have := z.2.2.2.1; omega) (fun r9 z9 h9 => ?_)
  obtain ⟨rfl, k1, k2, k3⟩ := h9
  refine xk_putF (ci := 3) (r := (RX4, TX4, 2)) 0 tyX4 dX4_init_12 rfl inX4 tyX4_ok nmX4 (by decide) wf_X4_10 rfl rfl rfl (fun _ => rfl) (fun _ => rfl) ((k3.2 b (by simp; omega) (by omega)).trans ((xa_old (by omega)).trans ho)) (Nat.le_of_ble_eq_true rfl) ?_
  dsimp only [List.set]
  refine xk_gen (P := fun w => w.length = b + 3 ∧ w[b]? = some (.inr (3, [.ref (b + 1), .null])) ∧ w[b + 1]? = some (.inr (0, [.ref (b + 1 + 1)])) ∧ w[b + 1 + 1]? = some (bw 0) ∧ ∀ k, k < b → w[k]? = hs[k]?) ⟨by rw [List.length_set, k3.1]; simp; omega, xs_at ((k3.2 b (by simp; omega) (by omega)).trans ((xa_old (by omega)).trans ho)), (xs_ne (by omega)).trans k1, (xs_ne (by omega)).trans k2, fun k hk => (xs_ne (by omega)).trans ((k3.2 k (by simp; omega) (by omega)).trans (xa_old (by omega)))⟩ (fun w hw => ?_)
  obtain ⟨l1, p1, p2, p3, p4⟩ := hw
  refine xk_aload_n dX4_init_15 rfl ?_
  refine xk_new (ci := 0) (r := (RX0, TX0, 1)) (fs := [.null]) tyX0 dX4_init_16 rfl inX0 tyX0_ok wq_X4_7 wz_X0 wn_X0 (fun j hj => by match j, hj with | 0, _ => rfl | n + 1, h => exact absurd (show n + 1 < 1 from h) (by omega)) (fun v hv => by simp only [List.mem_cons, List.not_mem_nil, or_false] at hv; rcases hv with rfl <;> trivial) (by decide +kernel) (by decide +kernel) (fun k hk => by have h9 : k < hs.length := hk rfl; first | omega | (simp only [List.length_append, List.length_set, List.length_cons, List.length_nil, List.length_replicate]; omega)) ?_
  rw [l1]
  refine xk_dup dX4_init_19 rfl ?_
  refine xk_callIN0 (M' := mX0_init) (d' := d + 1) (mc' := 1) (ms' := 8) (host := "PairScales") dX4_init_20 (List.mem_of_getElem? (i := 9) rfl) cv_X0_init wi_X0_init rfl rfl (by omega) (by decide +kernel) (by decide +kernel) (Nat.le_of_ble_eq_true rfl) (fun k hk => by have h9 : k < hs.length := hk rfl; first | omega | (simp only [List.length_append, List.length_set, List.length_cons, List.length_nil, List.length_replicate]; omega)) (y_X0_init d (b := b + 3) (by simp; omega) (xa_at (by omega))) (fun _ _ z => by have := z.2.2.2.1; omega) (fun r20 z20 h20 => ?_)
  obtain ⟨rfl, g1, g2, g3⟩ := h20
  refine xk_putF (ci := 3) (r := (RX4, TX4, 2)) 1 tyX4 dX4_init_23 rfl inX4 tyX4_ok nmX4 (by decide) wf_X4_16 rfl rfl rfl (fun _ => rfl) (fun _ => rfl) ((g3.2 b (by simp; omega) (by omega)).trans ((xa_old (by omega)).trans p1)) (Nat.le_of_ble_eq_true rfl) ?_
  dsimp only [List.set]
  exact xk_vret rfl dX4_init_26 (by decide +kernel) (by decide +kernel) ⟨rfl, ⟨xs_at ((g3.2 b (by simp; omega) (by omega)).trans ((xa_old (by omega)).trans p1)), (xs_ne (by omega)).trans ((g3.2 (b + 1) (by simp; omega) (by omega)).trans ((xa_old (by omega)).trans p2)), ⟨0, by decide, (xs_ne (by omega)).trans ((g3.2 (b + 1 + 1) (by simp; omega) (by omega)).trans ((xa_old (by omega)).trans p3))⟩, (xs_ne (by omega)).trans g1, 0, by decide, (xs_ne (by omega)).trans g2⟩, by rw [List.length_set, g3.1]; simp; omega, fun k h1 h2 => (xs_ne (by omega)).trans ((g3.2 k (by simp; omega) (by omega)).trans ((xa_old (by omega)).trans (p4 k (by omega))))⟩

