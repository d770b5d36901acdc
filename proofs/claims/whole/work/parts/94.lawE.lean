/-! The law: from its entry. Own text, laid by a program. -/
set_option maxHeartbeats 4000000 in
set_option maxRecDepth 100000 in
/-- the law's entry over the abstract heap -/
theorem law_entry {b L : Nat} {xs : Nat → Int32} (hL : L ≤ 2561) : xe_X b L xs 0 0 0 [none, none, none] [] [] := by
  obtain ⟨h2, hn, hth⟩ := thN_ok (cell0 L xs)
  unfold thE at hth
  generalize thN (cell0 L xs) = n at h2 hn hth
  refine xe_new (ci := 7) (r := (RX8, TX8, 8)) (fs := [.int 0, .null, .null, .null, .null, .null, .null, .null]) tyX8 dL_law_0 rfl inX8 tyX8_ok wq_L_7 wz_X8 wn_X8 (fun j hj => by match j, hj with | 0, _ => rfl | 1, _ => rfl | 2, _ => rfl | 3, _ => rfl | 4, _ => rfl | 5, _ => rfl | 6, _ => rfl | 7, _ => rfl | n + 8, h => exact absurd (show n + 8 < 8 from h) (by omega)) (fun v hv => by simp only [List.mem_cons, List.not_mem_nil, or_false] at hv; rcases hv with rfl | rfl | rfl | rfl | rfl | rfl | rfl | rfl <;> trivial) (by decide +kernel) (by decide +kernel) ?_
  refine xe_dup dL_law_3 ?_
  refine xe_cell hL dL_law_4 dL_law_5 dL_law_6 (by decide +kernel) (by decide +kernel) (Nat.le_of_ble_eq_true rfl) ?_
  refine xe_callI (M' := mX8_init) (mc' := 49) (ms' := 290) dL_law_9 wm_L_15 cv_X8_init wi_X8_init rfl rfl ?_ (by decide +kernel) (by decide +kernel) (Nat.le_of_ble_eq_true rfl) (y_X8_init 0 (x := 0) hth h2 hn rfl rfl) (fun _ _ z => by have := z.2.2.1; omega) (fun r z h => ?_)
  · omega
  obtain ⟨rfl, hX, hl1, hold⟩ := h
  refine xe_a1 dL_law_12 ?_
  have hzl : z.length = 5 * n + 19 := by rw [hl1]; simp; omega
  refine xe_new (ci := 8) (r := (RX9, TX9, 25)) (fs := [.int 0, .int 0, .null, .null, .null, .null, .null, .null, .null, .null, .null, .null, .null, .int 0, .null, .null, .null, .long 0, .long 0, .int 0, .null, .long 0, .long 0, .int 0, .int 0]) tyX9 dL_law_13 rfl inX9 tyX9_ok wq_L_18 wz_X9 wn_X9 (fun j hj => by match j, hj with | 0, _ => rfl | 1, _ => rfl | 2, _ => rfl | 3, _ => rfl | 4, _ => rfl | 5, _ => rfl | 6, _ => rfl | 7, _ => rfl | 8, _ => rfl | 9, _ => rfl | 10, _ => rfl | 11, _ => rfl | 12, _ => rfl | 13, _ => rfl | 14, _ => rfl | 15, _ => rfl | 16, _ => rfl | 17, _ => rfl | 18, _ => rfl | 19, _ => rfl | 20, _ => rfl | 21, _ => rfl | 22, _ => rfl | 23, _ => rfl | 24, _ => rfl | n + 25, h => exact absurd (show n + 25 < 25 from h) (by omega)) (fun v hv => by simp only [List.mem_cons, List.not_mem_nil, or_false] at hv; rcases hv with rfl | rfl | rfl | rfl | rfl | rfl | rfl | rfl | rfl | rfl | rfl | rfl | rfl | rfl | rfl | rfl | rfl | rfl | rfl | rfl | rfl | rfl | rfl | rfl | rfl <;> trivial) (by decide +kernel) (by decide +kernel) ?_
  rw [hzl]
  refine xe_dup dL_law_16 ?_
  refine xe_cell hL dL_law_17 dL_law_18 dL_law_19 (by decide +kernel) (by decide +kernel) (Nat.le_of_ble_eq_true rfl) ?_
  refine xe_callI (M' := mX9_init) (mc' := 15) (ms' := 173) dL_law_22 wm_L_20 cv_X9_init wi_X9_init rfl rfl ?_ (by decide +kernel) (by decide +kernel) (Nat.le_of_ble_eq_true rfl) (y_X9_init 0 (m := 5 * n + 19) hth h2 hn (by simp; omega) (xa_at hzl.symm)) (fun _ _ z => by have := z.2.2.1; omega) (fun r z2 h => ?_)
  · omega
  obtain ⟨rfl, hA, hl2, hold2⟩ := h
  refine xe_a2 dL_law_25 ?_
  have hX2 := hX.ext (h := z2) h2 (fun k hk => by
    have a1 := hk.2
    rw [hold2 k (by simp; omega) (by omega)]
    exact xa_old (by omega))
  exact xe_loop (law_loop hL hn h2 (by decide +kernel) (by decide +kernel) (show 0 + 5 * n + 19 ≤ 5 * n + 19 by omega) 512 1 z2 (w0 n) 0 (w0 n) 0 T0 (by omega) (by omega) (ag_init hn h2) hX2 hA)
/-- from the entry, for every script of at most 2561 ints, the law comes to its end with true -/
theorem whole_start {p : Program} {e : Env} {s : State} {m : MethodId} {below : List Frame} {meth : Method} {c : Code} (l : Launch) {b L : Nat} {xs : Nat → Int32} (hL : L ≤ 2561) (C0 : lw_At p s m meth c b L xs) : W p l e room_1 s m #[Value.ref b] below meth c s.heap [] 0 0 (lw_Z below #[Value.ref b] s) (entryFrame m ([Value.ref b] : List Value).toArray 4) := by
  obtain ⟨G, hK⟩ := lw_known C0
  have hl := lv_entry ([.ref b]) (n := 4) (Nat.le_of_ble_eq_true rfl)
  rw [lg_entry_eq]
  generalize (lg_sl ([.ref b]) ++ List.replicate (4 - (lg_sl ([.ref b])).length) Slot.unset).toArray = ls at hl ⊢
  have hl : lv_has ls 4 [(0, .ref b)] := hl
  exact law_entry hL G (fun _ => 0) p l e s m below meth c s.heap [] ls C0 hK (fun k q h => by simp [xk_w] at h) ⟨fun i j p q h => by simp [xk_w] at h, fun k q h => by simp [xk_w] at h⟩ va_S.rf hl ⟨fun v hv => by simp at hv, fun v hv => absurd hv List.not_mem_nil, fun e he => absurd he List.not_mem_nil⟩
