/-! Constructors: the reference. Laid by a program of our own. -/
set_option maxHeartbeats 4000000 in
set_option maxRecDepth 100000 in
theorem y_X9_init (d : Nat) {hs : xk_H} {m n : Nat} {t : Int32} (hth : (if (2 : Int32) < (if t < 6 then t else 6) then (if t < 6 then t else 6) else 2) = nI n) (h2n : 2 ≤ n) (hn : n ≤ 6) (hb : hs.length = m + 1) (ho : hs[m]? = some (.inr (8, [.int 0, .int 0, .null, .null, .null, .null, .null, .null, .null, .null, .null, .null, .null, .int 0, .null, .null, .null, .long 0, .long 0, .int 0, .null, .long 0, .long 0, .int 0, .int 0]))) : xk_Y (d + 1) 15 173 mX9_init true [.ref m, .int t] hs (fun r' h => r' = none ∧ mdA h m n T0 ∧ xext m hs h 15) := by
  have hnp := np_ok n (by omega)
  have l154 : ∀ (r j i : Nat) (h : xk_H), j + r = n → i < n → i < j → mdI hs h m n (po n i + (j - (i + 1))) → (∀ (h : xk_H) (o4 : Option Value), mdI hs h m n (po n i + (n - (i + 1))) → xk_X (d + 1) 15 173 mX9_init (xk_fx true hs) (fun r' h => r' = none ∧ mdA h m n T0 ∧ xext m hs h 15) (0 + 1 + 1 + 1 + 1 + 1 + 1 + 1 + 1 + 1 + 1 + 1 + 1 + 1 + 1 + 1) (0 + 15 + 15 + 15 + 15 + 15 + 15 + 15 + 15 + 6 + 6 + 6 + 5 + 12 + 12 + 6) 187 [some (.ref m), some (.int t), some (.int (nI (po n i + (n - (i + 1))))), some (.int (nI i)), o4] [] h) → xk_X (d + 1) 15 173 mX9_init (xk_fx true hs) (fun r' h => r' = none ∧ mdA h m n T0 ∧ xext m hs h 15) (0 + 1 + 1 + 1 + 1 + 1 + 1 + 1 + 1 + 1 + 1 + 1 + 1 + 1 + 1 + 1) (0 + 15 + 15 + 15 + 15 + 15 + 15 + 15 + 15 + 6 + 6 + 6 + 5 + 12 + 12 + 6) 154 [some (.ref m), some (.int t), some (.int (nI (po n i + (j - (i + 1))))), some (.int (nI i)), some (.int (nI j))] [] h := by
    intro r
    induction r with
    | zero =>
      intro j i h h1 hi hij H K
      obtain rfl : j = n := by omega
      have p2 := H.2.1
      refine xk_iload dX9_init_154 rfl ?_
      refine xk_aload_n dX9_init_156 rfl ?_
      refine xk_get (ci := 8) (r := (RX9, TX9, 25)) 0 dX9_init_157 rfl inX9 (by decide) wf_X9_66 p2 rfl ?_
      refine xk_icmp_ge 187 dX9_init_160 (by decide) (fun c160 => ?_) (fun c160 => ?_)
      · exact K h _ H
      · exact absurd (nI_le (Nat.le_refl _) (by omega)) c160
    | succ r ih =>
      intro j i h h1 hi hij H K
      have hpo := po_at (show n < 7 by omega) hi (show j < n by omega) hij
      obtain ⟨p1, p2, -, -, -, -, -, -, p7, p8, -⟩ := id H
      have q3 : (nI (po n i + (j - (i + 1)))).toNatClampNeg = po n i + (j - (i + 1)) := nI_clamp (by omega)
      refine xk_iload dX9_init_154 rfl ?_
      refine xk_aload_n dX9_init_156 rfl ?_
      refine xk_get (ci := 8) (r := (RX9, TX9, 25)) 0 dX9_init_157 rfl inX9 (by decide) wf_X9_66 p2 rfl ?_
      refine xk_icmp_ge 187 dX9_init_160 (by decide) (fun c160 => ?_) (fun c160 => ?_)
      · exact absurd c160 (nI_ge (by omega) (by omega))
      · refine xk_aload_n dX9_init_163 rfl ?_
        refine xk_get (ci := 8) (r := (RX9, TX9, 25)) 8 dX9_init_164 rfl inX9 (by decide) wf_X9_28 p2 rfl ?_
        refine xk_iload_n dX9_init_167 rfl ?_
        refine xk_iload_n dX9_init_168 rfl ?_
        refine xk_iast dX9_init_169 p7 (vp_in_nI (by omega) (by omega)) ?_
        rw [q3, iarr_upd]
        refine xk_aload_n dX9_init_170 rfl ?_
        refine xk_get (ci := 8) (r := (RX9, TX9, 25)) 9 dX9_init_171 rfl inX9 (by decide) wf_X9_31 ((xs_ne (by omega)).trans p2) rfl ?_
        refine xk_iload_n dX9_init_174 rfl ?_
        refine xk_iload dX9_init_175 rfl ?_
        refine xk_iast dX9_init_177 ((xs_ne (by omega)).trans p8) (vp_in_nI (by omega) (by omega)) ?_
        try rw [q3]
        rw [iarr_upd]
        refine xk_iinc (nI (po n i + (j + 1 - (i + 1)))) dX9_init_178 rfl (by rw [show Int32.ofInt 1 = 1 from rfl, nI_1]; congr 1; omega) (by decide) ?_
        dsimp only [xk_s1, xk_s2, xk_kill]
        refine xk_iinc (nI (j + 1)) dX9_init_181 rfl (nI_1 j) (by decide) ?_
        dsimp only [xk_s1, xk_s2, xk_kill]
        refine xk_goto 154 dX9_init_184 (by decide) ?_
        refine ih (j + 1) i _ (by omega) hi (by omega) ?_ K
        rw [show po n i + (j + 1 - (i + 1)) = po n i + (j - (i + 1)) + 1 by omega]
        exact H.pr hpo.1 hpo.2.1
  have l141 : ∀ (r i : Nat) (h : xk_H) (o4 : Option Value), i + r = n → mdI hs h m n (po n i) → xk_X (d + 1) 15 173 mX9_init (xk_fx true hs) (fun r' h => r' = none ∧ mdA h m n T0 ∧ xext m hs h 15) (0 + 1 + 1 + 1 + 1 + 1 + 1 + 1 + 1 + 1 + 1 + 1 + 1 + 1 + 1 + 1) (0 + 15 + 15 + 15 + 15 + 15 + 15 + 15 + 15 + 6 + 6 + 6 + 5 + 12 + 12 + 6) 141 [some (.ref m), some (.int t), some (.int (nI (po n i))), some (.int (nI i)), o4] [] h := by
    intro r
    induction r with
    | zero =>
      intro i h o4 h1 H
      have p2 := H.2.1
      obtain rfl : i = n := by omega
      have e9 := (po_t i (by omega) 0 (by omega)).2.2.2
      rw [e9] at H
      obtain ⟨r1, r2, r3⟩ := H.fin hn
      refine xk_iload_n dX9_init_141 rfl ?_
      refine xk_aload_n dX9_init_142 rfl ?_
      refine xk_get (ci := 8) (r := (RX9, TX9, 25)) 0 dX9_init_143 rfl inX9 (by decide) wf_X9_66 p2 rfl ?_
      refine xk_icmp_ge 193 dX9_init_146 (by decide) (fun c146 => ?_) (fun c146 => ?_)
      · refine xk_aload_n dX9_init_193 rfl ?_
        refine xk_iload_n dX9_init_194 rfl ?_
        refine xk_putF (ci := 8) (r := (RX9, TX9, 25)) 1 tyX9 dX9_init_195 rfl inX9 tyX9_ok nmX9 (by decide) wf_X9_70 rfl rfl rfl (fun _ => rfl) (fun _ => rfl) p2 (Nat.le_of_ble_eq_true rfl) ?_
        dsimp only [List.set]
        exact xk_vret rfl dX9_init_198 (by decide +kernel) (by decide +kernel) ⟨rfl, by rw [e9]; exact r1, by rw [e9]; exact r2.trans (by omega), fun k k1 k2 => by rw [e9]; exact r3 k (by omega)⟩
      · exact absurd (nI_le (Nat.le_refl _) (by omega)) c146
    | succ r ih =>
      intro i h o4 h1 H
      have p2 := H.2.1
      have hps := (po_t n (by omega) i (by omega)).2.1
      have K : ∀ (h : xk_H) (o4 : Option Value), mdI hs h m n (po n i + (n - (i + 1))) → xk_X (d + 1) 15 173 mX9_init (xk_fx true hs) (fun r' h => r' = none ∧ mdA h m n T0 ∧ xext m hs h 15) (0 + 1 + 1 + 1 + 1 + 1 + 1 + 1 + 1 + 1 + 1 + 1 + 1 + 1 + 1 + 1) (0 + 15 + 15 + 15 + 15 + 15 + 15 + 15 + 15 + 6 + 6 + 6 + 5 + 12 + 12 + 6) 187 [some (.ref m), some (.int t), some (.int (nI (po n i + (n - (i + 1))))), some (.int (nI i)), o4] [] h := by
        intro h o4 H
        refine xk_iinc (nI (i + 1)) dX9_init_187 rfl (nI_1 i) (by decide) ?_
        dsimp only [xk_s1, xk_s2, xk_kill]
        refine xk_goto 141 dX9_init_190 (by decide) ?_
        rw [← hps] at H ⊢
        exact ih (i + 1) h _ (by omega) H
      refine xk_iload_n dX9_init_141 rfl ?_
      refine xk_aload_n dX9_init_142 rfl ?_
      refine xk_get (ci := 8) (r := (RX9, TX9, 25)) 0 dX9_init_143 rfl inX9 (by decide) wf_X9_66 p2 rfl ?_
      refine xk_icmp_ge 193 dX9_init_146 (by decide) (fun c146 => ?_) (fun c146 => ?_)
      · exact absurd c146 (nI_ge (by omega) (by omega))
      · refine xk_iload_n dX9_init_149 rfl ?_
        refine xk_iconst (1) dX9_init_150 (by decide) ?_
        refine xk_iadd dX9_init_151 ?_
        rw [nI_1]
        refine xk_istore dX9_init_152 (by decide) ?_
        dsimp only [xk_s1, xk_s2, xk_kill]
        have hK := l154 (n - (i + 1)) (i + 1) i h (by omega) (by omega) (by omega) (by rw [Nat.sub_self, Nat.add_zero]; exact H) K
        rw [Nat.sub_self, Nat.add_zero] at hK
        exact hK
  have H0 : mdJ hs hs m 0 := ⟨hb, fun j hj => absurd hj (by omega), fun j hj => rfl⟩
  refine xk_Y.ofX (k := 3) (ls := [some (.ref m), some (.int t), none, none, none]) (by decide) rfl rfl ?_
  refine xk_aload_n dX9_init_0 rfl ?_
  refine xk_objInit dX9_init_1 wm_X9_1 (by omega) (Nat.le_of_ble_eq_true rfl) ?_
  refine xk_aload_n dX9_init_4 rfl ?_
  refine xk_bipush (15) dX9_init_5 (by decide) ?_
  rw [show (15 : Int32) = nI 15 from rfl]
  refine xk_newI (B := 15) dX9_init_7 (by omega) (by omega) (by decide +kernel) (by decide +kernel) (fun k hk => by have h9 : k < hs.length := hk rfl; first | omega | (simp only [List.length_append, List.length_set, List.length_cons, List.length_nil, List.length_replicate]; omega)) ?_
  refine xk_putF (ci := 8) (r := (RX9, TX9, 25)) 2 tyX9 dX9_init_9 rfl inX9 tyX9_ok nmX9 (by decide) wf_X9_9 rfl rfl rfl (fun _ => rfl) (fun _ => rfl) ((xa_old (by omega)).trans ho) (Nat.le_of_ble_eq_true rfl) ?_
  dsimp only [List.set]
  refine xk_gen (P := fun w => mdJ hs w m 1 ∧ w[m]? = some (.inr (8, [.int 0, .int 0, .ref (m + 1), .null, .null, .null, .null, .null, .null, .null, .null, .null, .null, .int 0, .null, .null, .null, .long 0, .long 0, .int 0, .null, .long 0, .long 0, .int 0, .int 0]))) ⟨H0.step rfl, by rw [hb]; exact xs_at ((xa_old (by omega)).trans ho)⟩ (fun w hw => ?_)
  obtain ⟨H, q1⟩ := hw
  have hHl := H.1
  refine xk_aload_n dX9_init_12 rfl ?_
  refine xk_bipush (15) dX9_init_13 (by decide) ?_
  rw [show (15 : Int32) = nI 15 from rfl]
  refine xk_newI (B := 15) dX9_init_15 (by omega) (by omega) (by decide +kernel) (by decide +kernel) (fun k hk => by have h9 : k < hs.length := hk rfl; first | omega | (simp only [List.length_append, List.length_set, List.length_cons, List.length_nil, List.length_replicate]; omega)) ?_
  refine xk_putF (ci := 8) (r := (RX9, TX9, 25)) 3 tyX9 dX9_init_17 rfl inX9 tyX9_ok nmX9 (by decide) wf_X9_13 rfl rfl rfl (fun _ => rfl) (fun _ => rfl) ((xa_old (by omega)).trans q1) (Nat.le_of_ble_eq_true rfl) ?_
  dsimp only [List.set]
  refine xk_gen (P := fun w => mdJ hs w m 2 ∧ w[m]? = some (.inr (8, [.int 0, .int 0, .ref (m + 1), .ref (m + 2), .null, .null, .null, .null, .null, .null, .null, .null, .null, .int 0, .null, .null, .null, .long 0, .long 0, .int 0, .null, .long 0, .long 0, .int 0, .int 0]))) ⟨H.step rfl, by rw [H.1]; exact xs_at ((xa_old (by omega)).trans q1)⟩ (fun w hw => ?_)
  obtain ⟨H, q1⟩ := hw
  have hHl := H.1
  refine xk_aload_n dX9_init_20 rfl ?_
  refine xk_bipush (15) dX9_init_21 (by decide) ?_
  rw [show (15 : Int32) = nI 15 from rfl]
  refine xk_newI (B := 15) dX9_init_23 (by omega) (by omega) (by decide +kernel) (by decide +kernel) (fun k hk => by have h9 : k < hs.length := hk rfl; first | omega | (simp only [List.length_append, List.length_set, List.length_cons, List.length_nil, List.length_replicate]; omega)) ?_
  refine xk_putF (ci := 8) (r := (RX9, TX9, 25)) 4 tyX9 dX9_init_25 rfl inX9 tyX9_ok nmX9 (by decide) wf_X9_16 rfl rfl rfl (fun _ => rfl) (fun _ => rfl) ((xa_old (by omega)).trans q1) (Nat.le_of_ble_eq_true rfl) ?_
  dsimp only [List.set]
  refine xk_gen (P := fun w => mdJ hs w m 3 ∧ w[m]? = some (.inr (8, [.int 0, .int 0, .ref (m + 1), .ref (m + 2), .ref (m + 3), .null, .null, .null, .null, .null, .null, .null, .null, .int 0, .null, .null, .null, .long 0, .long 0, .int 0, .null, .long 0, .long 0, .int 0, .int 0]))) ⟨H.step rfl, by rw [H.1]; exact xs_at ((xa_old (by omega)).trans q1)⟩ (fun w hw => ?_)
  obtain ⟨H, q1⟩ := hw
  have hHl := H.1
  refine xk_aload_n dX9_init_28 rfl ?_
  refine xk_bipush (15) dX9_init_29 (by decide) ?_
  rw [show (15 : Int32) = nI 15 from rfl]
  refine xk_newI (B := 15) dX9_init_31 (by omega) (by omega) (by decide +kernel) (by decide +kernel) (fun k hk => by have h9 : k < hs.length := hk rfl; first | omega | (simp only [List.length_append, List.length_set, List.length_cons, List.length_nil, List.length_replicate]; omega)) ?_
  refine xk_putF (ci := 8) (r := (RX9, TX9, 25)) 5 tyX9 dX9_init_33 rfl inX9 tyX9_ok nmX9 (by decide) wf_X9_19 rfl rfl rfl (fun _ => rfl) (fun _ => rfl) ((xa_old (by omega)).trans q1) (Nat.le_of_ble_eq_true rfl) ?_
  dsimp only [List.set]
  refine xk_gen (P := fun w => mdJ hs w m 4 ∧ w[m]? = some (.inr (8, [.int 0, .int 0, .ref (m + 1), .ref (m + 2), .ref (m + 3), .ref (m + 4), .null, .null, .null, .null, .null, .null, .null, .int 0, .null, .null, .null, .long 0, .long 0, .int 0, .null, .long 0, .long 0, .int 0, .int 0]))) ⟨H.step rfl, by rw [H.1]; exact xs_at ((xa_old (by omega)).trans q1)⟩ (fun w hw => ?_)
  obtain ⟨H, q1⟩ := hw
  have hHl := H.1
  refine xk_aload_n dX9_init_36 rfl ?_
  refine xk_bipush (15) dX9_init_37 (by decide) ?_
  rw [show (15 : Int32) = nI 15 from rfl]
  refine xk_newI (B := 15) dX9_init_39 (by omega) (by omega) (by decide +kernel) (by decide +kernel) (fun k hk => by have h9 : k < hs.length := hk rfl; first | omega | (simp only [List.length_append, List.length_set, List.length_cons, List.length_nil, List.length_replicate]; omega)) ?_
  refine xk_putF (ci := 8) (r := (RX9, TX9, 25)) 6 tyX9 dX9_init_41 rfl inX9 tyX9_ok nmX9 (by decide) wf_X9_22 rfl rfl rfl (fun _ => rfl) (fun _ => rfl) ((xa_old (by omega)).trans q1) (Nat.le_of_ble_eq_true rfl) ?_
  dsimp only [List.set]
  refine xk_gen (P := fun w => mdJ hs w m 5 ∧ w[m]? = some (.inr (8, [.int 0, .int 0, .ref (m + 1), .ref (m + 2), .ref (m + 3), .ref (m + 4), .ref (m + 5), .null, .null, .null, .null, .null, .null, .int 0, .null, .null, .null, .long 0, .long 0, .int 0, .null, .long 0, .long 0, .int 0, .int 0]))) ⟨H.step rfl, by rw [H.1]; exact xs_at ((xa_old (by omega)).trans q1)⟩ (fun w hw => ?_)
  obtain ⟨H, q1⟩ := hw
  have hHl := H.1
  refine xk_aload_n dX9_init_44 rfl ?_
  refine xk_bipush (15) dX9_init_45 (by decide) ?_
  rw [show (15 : Int32) = nI 15 from rfl]
  refine xk_newI (B := 15) dX9_init_47 (by omega) (by omega) (by decide +kernel) (by decide +kernel) (fun k hk => by have h9 : k < hs.length := hk rfl; first | omega | (simp only [List.length_append, List.length_set, List.length_cons, List.length_nil, List.length_replicate]; omega)) ?_
  refine xk_putF (ci := 8) (r := (RX9, TX9, 25)) 7 tyX9 dX9_init_49 rfl inX9 tyX9_ok nmX9 (by decide) wf_X9_25 rfl rfl rfl (fun _ => rfl) (fun _ => rfl) ((xa_old (by omega)).trans q1) (Nat.le_of_ble_eq_true rfl) ?_
  dsimp only [List.set]
  refine xk_gen (P := fun w => mdJ hs w m 6 ∧ w[m]? = some (.inr (8, [.int 0, .int 0, .ref (m + 1), .ref (m + 2), .ref (m + 3), .ref (m + 4), .ref (m + 5), .ref (m + 6), .null, .null, .null, .null, .null, .int 0, .null, .null, .null, .long 0, .long 0, .int 0, .null, .long 0, .long 0, .int 0, .int 0]))) ⟨H.step rfl, by rw [H.1]; exact xs_at ((xa_old (by omega)).trans q1)⟩ (fun w hw => ?_)
  obtain ⟨H, q1⟩ := hw
  have hHl := H.1
  refine xk_aload_n dX9_init_52 rfl ?_
  refine xk_bipush (15) dX9_init_53 (by decide) ?_
  rw [show (15 : Int32) = nI 15 from rfl]
  refine xk_newI (B := 15) dX9_init_55 (by omega) (by omega) (by decide +kernel) (by decide +kernel) (fun k hk => by have h9 : k < hs.length := hk rfl; first | omega | (simp only [List.length_append, List.length_set, List.length_cons, List.length_nil, List.length_replicate]; omega)) ?_
  refine xk_putF (ci := 8) (r := (RX9, TX9, 25)) 8 tyX9 dX9_init_57 rfl inX9 tyX9_ok nmX9 (by decide) wf_X9_28 rfl rfl rfl (fun _ => rfl) (fun _ => rfl) ((xa_old (by omega)).trans q1) (Nat.le_of_ble_eq_true rfl) ?_
  dsimp only [List.set]
  refine xk_gen (P := fun w => mdJ hs w m 7 ∧ w[m]? = some (.inr (8, [.int 0, .int 0, .ref (m + 1), .ref (m + 2), .ref (m + 3), .ref (m + 4), .ref (m + 5), .ref (m + 6), .ref (m + 7), .null, .null, .null, .null, .int 0, .null, .null, .null, .long 0, .long 0, .int 0, .null, .long 0, .long 0, .int 0, .int 0]))) ⟨H.step rfl, by rw [H.1]; exact xs_at ((xa_old (by omega)).trans q1)⟩ (fun w hw => ?_)
  obtain ⟨H, q1⟩ := hw
  have hHl := H.1
  refine xk_aload_n dX9_init_60 rfl ?_
  refine xk_bipush (15) dX9_init_61 (by decide) ?_
  rw [show (15 : Int32) = nI 15 from rfl]
  refine xk_newI (B := 15) dX9_init_63 (by omega) (by omega) (by decide +kernel) (by decide +kernel) (fun k hk => by have h9 : k < hs.length := hk rfl; first | omega | (simp only [List.length_append, List.length_set, List.length_cons, List.length_nil, List.length_replicate]; omega)) ?_
  refine xk_putF (ci := 8) (r := (RX9, TX9, 25)) 9 tyX9 dX9_init_65 rfl inX9 tyX9_ok nmX9 (by decide) wf_X9_31 rfl rfl rfl (fun _ => rfl) (fun _ => rfl) ((xa_old (by omega)).trans q1) (Nat.le_of_ble_eq_true rfl) ?_
  dsimp only [List.set]
  refine xk_gen (P := fun w => mdJ hs w m 8 ∧ w[m]? = some (.inr (8, [.int 0, .int 0, .ref (m + 1), .ref (m + 2), .ref (m + 3), .ref (m + 4), .ref (m + 5), .ref (m + 6), .ref (m + 7), .ref (m + 8), .null, .null, .null, .int 0, .null, .null, .null, .long 0, .long 0, .int 0, .null, .long 0, .long 0, .int 0, .int 0]))) ⟨H.step rfl, by rw [H.1]; exact xs_at ((xa_old (by omega)).trans q1)⟩ (fun w hw => ?_)
  obtain ⟨H, q1⟩ := hw
  have hHl := H.1
  refine xk_aload_n dX9_init_68 rfl ?_
  refine xk_bipush (6) dX9_init_69 (by decide) ?_
  rw [show (6 : Int32) = nI 6 from rfl]
  refine xk_newJ (B := 6) dX9_init_71 (by omega) (by omega) (by decide +kernel) (by decide +kernel) (fun k hk => by have h9 : k < hs.length := hk rfl; first | omega | (simp only [List.length_append, List.length_set, List.length_cons, List.length_nil, List.length_replicate]; omega)) ?_
  refine xk_putF (ci := 8) (r := (RX9, TX9, 25)) 10 tyX9 dX9_init_73 rfl inX9 tyX9_ok nmX9 (by decide) wf_X9_34 rfl rfl rfl (fun _ => rfl) (fun _ => rfl) ((xa_old (by omega)).trans q1) (Nat.le_of_ble_eq_true rfl) ?_
  dsimp only [List.set]
  refine xk_gen (P := fun w => mdJ hs w m 9 ∧ w[m]? = some (.inr (8, [.int 0, .int 0, .ref (m + 1), .ref (m + 2), .ref (m + 3), .ref (m + 4), .ref (m + 5), .ref (m + 6), .ref (m + 7), .ref (m + 8), .ref (m + 9), .null, .null, .int 0, .null, .null, .null, .long 0, .long 0, .int 0, .null, .long 0, .long 0, .int 0, .int 0]))) ⟨H.step rfl, by rw [H.1]; exact xs_at ((xa_old (by omega)).trans q1)⟩ (fun w hw => ?_)
  obtain ⟨H, q1⟩ := hw
  have hHl := H.1
  refine xk_aload_n dX9_init_76 rfl ?_
  refine xk_bipush (6) dX9_init_77 (by decide) ?_
  rw [show (6 : Int32) = nI 6 from rfl]
  refine xk_newJ (B := 6) dX9_init_79 (by omega) (by omega) (by decide +kernel) (by decide +kernel) (fun k hk => by have h9 : k < hs.length := hk rfl; first | omega | (simp only [List.length_append, List.length_set, List.length_cons, List.length_nil, List.length_replicate]; omega)) ?_
  refine xk_putF (ci := 8) (r := (RX9, TX9, 25)) 11 tyX9 dX9_init_81 rfl inX9 tyX9_ok nmX9 (by decide) wf_X9_38 rfl rfl rfl (fun _ => rfl) (fun _ => rfl) ((xa_old (by omega)).trans q1) (Nat.le_of_ble_eq_true rfl) ?_
  dsimp only [List.set]
  refine xk_gen (P := fun w => mdJ hs w m 10 ∧ w[m]? = some (.inr (8, [.int 0, .int 0, .ref (m + 1), .ref (m + 2), .ref (m + 3), .ref (m + 4), .ref (m + 5), .ref (m + 6), .ref (m + 7), .ref (m + 8), .ref (m + 9), .ref (m + 10), .null, .int 0, .null, .null, .null, .long 0, .long 0, .int 0, .null, .long 0, .long 0, .int 0, .int 0]))) ⟨H.step rfl, by rw [H.1]; exact xs_at ((xa_old (by omega)).trans q1)⟩ (fun w hw => ?_)
  obtain ⟨H, q1⟩ := hw
  have hHl := H.1
  refine xk_aload_n dX9_init_84 rfl ?_
  refine xk_bipush (6) dX9_init_85 (by decide) ?_
  rw [show (6 : Int32) = nI 6 from rfl]
  refine xk_newZ (B := 6) dX9_init_87 (by omega) (by omega) (by decide +kernel) (by decide +kernel) (fun k hk => by have h9 : k < hs.length := hk rfl; first | omega | (simp only [List.length_append, List.length_set, List.length_cons, List.length_nil, List.length_replicate]; omega)) ?_
  refine xk_putF (ci := 8) (r := (RX9, TX9, 25)) 12 tyX9 dX9_init_89 rfl inX9 tyX9_ok nmX9 (by decide) wf_X9_41 rfl rfl rfl (fun _ => rfl) (fun _ => rfl) ((xa_old (by omega)).trans q1) (Nat.le_of_ble_eq_true rfl) ?_
  dsimp only [List.set]
  refine xk_gen (P := fun w => mdJ hs w m 11 ∧ w[m]? = some (.inr (8, [.int 0, .int 0, .ref (m + 1), .ref (m + 2), .ref (m + 3), .ref (m + 4), .ref (m + 5), .ref (m + 6), .ref (m + 7), .ref (m + 8), .ref (m + 9), .ref (m + 10), .ref (m + 11), .int 0, .null, .null, .null, .long 0, .long 0, .int 0, .null, .long 0, .long 0, .int 0, .int 0]))) ⟨H.step rfl, by rw [H.1]; exact xs_at ((xa_old (by omega)).trans q1)⟩ (fun w hw => ?_)
  obtain ⟨H, q1⟩ := hw
  have hHl := H.1
  refine xk_aload_n dX9_init_92 rfl ?_
  refine xk_iconst (5) dX9_init_93 (by decide) ?_
  rw [show (5 : Int32) = nI 5 from rfl]
  refine xk_newI (B := 5) dX9_init_94 (by omega) (by omega) (by decide +kernel) (by decide +kernel) (fun k hk => by have h9 : k < hs.length := hk rfl; first | omega | (simp only [List.length_append, List.length_set, List.length_cons, List.length_nil, List.length_replicate]; omega)) ?_
  refine xk_putF (ci := 8) (r := (RX9, TX9, 25)) 14 tyX9 dX9_init_96 rfl inX9 tyX9_ok nmX9 (by decide) wf_X9_45 rfl rfl rfl (fun _ => rfl) (fun _ => rfl) ((xa_old (by omega)).trans q1) (Nat.le_of_ble_eq_true rfl) ?_
  dsimp only [List.set]
  refine xk_gen (P := fun w => mdJ hs w m 12 ∧ w[m]? = some (.inr (8, [.int 0, .int 0, .ref (m + 1), .ref (m + 2), .ref (m + 3), .ref (m + 4), .ref (m + 5), .ref (m + 6), .ref (m + 7), .ref (m + 8), .ref (m + 9), .ref (m + 10), .ref (m + 11), .int 0, .ref (m + 12), .null, .null, .long 0, .long 0, .int 0, .null, .long 0, .long 0, .int 0, .int 0]))) ⟨H.step rfl, by rw [H.1]; exact xs_at ((xa_old (by omega)).trans q1)⟩ (fun w hw => ?_)
  obtain ⟨H, q1⟩ := hw
  have hHl := H.1
  refine xk_aload_n dX9_init_99 rfl ?_
  refine xk_bipush (12) dX9_init_100 (by decide) ?_
  rw [show (12 : Int32) = nI 12 from rfl]
  refine xk_newJ (B := 12) dX9_init_102 (by omega) (by omega) (by decide +kernel) (by decide +kernel) (fun k hk => by have h9 : k < hs.length := hk rfl; first | omega | (simp only [List.length_append, List.length_set, List.length_cons, List.length_nil, List.length_replicate]; omega)) ?_
  refine xk_putF (ci := 8) (r := (RX9, TX9, 25)) 15 tyX9 dX9_init_104 rfl inX9 tyX9_ok nmX9 (by decide) wf_X9_48 rfl rfl rfl (fun _ => rfl) (fun _ => rfl) ((xa_old (by omega)).trans q1) (Nat.le_of_ble_eq_true rfl) ?_
  dsimp only [List.set]
  refine xk_gen (P := fun w => mdJ hs w m 13 ∧ w[m]? = some (.inr (8, [.int 0, .int 0, .ref (m + 1), .ref (m + 2), .ref (m + 3), .ref (m + 4), .ref (m + 5), .ref (m + 6), .ref (m + 7), .ref (m + 8), .ref (m + 9), .ref (m + 10), .ref (m + 11), .int 0, .ref (m + 12), .ref (m + 13), .null, .long 0, .long 0, .int 0, .null, .long 0, .long 0, .int 0, .int 0]))) ⟨H.step rfl, by rw [H.1]; exact xs_at ((xa_old (by omega)).trans q1)⟩ (fun w hw => ?_)
  obtain ⟨H, q1⟩ := hw
  have hHl := H.1
  refine xk_aload_n dX9_init_107 rfl ?_
  refine xk_bipush (12) dX9_init_108 (by decide) ?_
  rw [show (12 : Int32) = nI 12 from rfl]
  refine xk_newJ (B := 12) dX9_init_110 (by omega) (by omega) (by decide +kernel) (by decide +kernel) (fun k hk => by have h9 : k < hs.length := hk rfl; first | omega | (simp only [List.length_append, List.length_set, List.length_cons, List.length_nil, List.length_replicate]; omega)) ?_
  refine xk_putF (ci := 8) (r := (RX9, TX9, 25)) 16 tyX9 dX9_init_112 rfl inX9 tyX9_ok nmX9 (by decide) wf_X9_51 rfl rfl rfl (fun _ => rfl) (fun _ => rfl) ((xa_old (by omega)).trans q1) (Nat.le_of_ble_eq_true rfl) ?_
  dsimp only [List.set]
  refine xk_gen (P := fun w => mdJ hs w m 14 ∧ w[m]? = some (.inr (8, [.int 0, .int 0, .ref (m + 1), .ref (m + 2), .ref (m + 3), .ref (m + 4), .ref (m + 5), .ref (m + 6), .ref (m + 7), .ref (m + 8), .ref (m + 9), .ref (m + 10), .ref (m + 11), .int 0, .ref (m + 12), .ref (m + 13), .ref (m + 14), .long 0, .long 0, .int 0, .null, .long 0, .long 0, .int 0, .int 0]))) ⟨H.step rfl, by rw [H.1]; exact xs_at ((xa_old (by omega)).trans q1)⟩ (fun w hw => ?_)
  obtain ⟨H, q1⟩ := hw
  have hHl := H.1
  refine xk_aload_n dX9_init_115 rfl ?_
  refine xk_bipush (6) dX9_init_116 (by decide) ?_
  rw [show (6 : Int32) = nI 6 from rfl]
  refine xk_newI (B := 6) dX9_init_118 (by omega) (by omega) (by decide +kernel) (by decide +kernel) (fun k hk => by have h9 : k < hs.length := hk rfl; first | omega | (simp only [List.length_append, List.length_set, List.length_cons, List.length_nil, List.length_replicate]; omega)) ?_
  refine xk_putF (ci := 8) (r := (RX9, TX9, 25)) 20 tyX9 dX9_init_120 rfl inX9 tyX9_ok nmX9 (by decide) wf_X9_54 rfl rfl rfl (fun _ => rfl) (fun _ => rfl) ((xa_old (by omega)).trans q1) (Nat.le_of_ble_eq_true rfl) ?_
  dsimp only [List.set]
  refine xk_gen (P := fun w => mdJ hs w m 15 ∧ w[m]? = some (.inr (8, [.int 0, .int 0, .ref (m + 1), .ref (m + 2), .ref (m + 3), .ref (m + 4), .ref (m + 5), .ref (m + 6), .ref (m + 7), .ref (m + 8), .ref (m + 9), .ref (m + 10), .ref (m + 11), .int 0, .ref (m + 12), .ref (m + 13), .ref (m + 14), .long 0, .long 0, .int 0, .ref (m + 15), .long 0, .long 0, .int 0, .int 0]))) ⟨H.step rfl, by rw [H.1]; exact xs_at ((xa_old (by omega)).trans q1)⟩ (fun w hw => ?_)
  obtain ⟨H, q1⟩ := hw
  have hHl := H.1
  refine xk_aload_n dX9_init_123 rfl ?_
  refine xk_iconst (2) dX9_init_124 (by decide) ?_
  refine xk_bipush (6) dX9_init_125 (by decide) ?_
  refine xk_iload_n dX9_init_127 rfl ?_
  refine xk_mmin dX9_init_128 wm_X9_57 (by omega) (by decide +kernel) (by decide +kernel) (Nat.le_of_ble_eq_true rfl) ?_
  refine xk_mmax dX9_init_131 wm_X9_63 (by omega) (by decide +kernel) (by decide +kernel) (Nat.le_of_ble_eq_true rfl) ?_
  rw [hth]
  refine xk_putF (ci := 8) (r := (RX9, TX9, 25)) 0 tyX9 dX9_init_134 rfl inX9 tyX9_ok nmX9 (by decide) wf_X9_66 rfl rfl rfl (fun _ => rfl) (fun _ => rfl) q1 (Nat.le_of_ble_eq_true rfl) ?_
  dsimp only [List.set]
  refine xk_gen (P := fun w => mdI hs w m n 0) (H.fin q1) (fun w hw => ?_)
  refine xk_iconst (0) dX9_init_137 (by decide) ?_
  refine xk_istore_n dX9_init_138 (by decide) ?_
  dsimp only [xk_s1, xk_s2, xk_kill]
  refine xk_iconst (0) dX9_init_139 (by decide) ?_
  refine xk_istore_n dX9_init_140 (by decide) ?_
  dsimp only [xk_s1, xk_s2, xk_kill]
  have e0 := (po_t n (by omega) 0 (by omega)).2.2.1
  have hk := l141 n 0 w none (by omega) (by rw [e0]; exact hw)
  rw [e0] at hk
  exact hk

