/-! Constructors: Leaving, PairScales, the reference. Laid by a program of our own. -/
set_option maxHeartbeats 4000000 in
set_option maxRecDepth 100000 in
theorem y_X2_init (d : Nat) {hs : xk_H} {v n : Nat} (h2n : 2 ≤ n) (hn : n ≤ 6) (hb : hs.length = v + 1) (ho : hs[v]? = some (.inr (1, [.int 0, .int 0, .null, .null, .null, .null, .int 0, .int 0]))) : xk_Y (d + 1) 16 114 mX2_init true [.ref v, .int (nI n)] hs (fun r' h => r' = none ∧ lvA h v n (lvG n) (fun _ _ => 0) 0 0 ∧ xext v hs h (4 + n + n)) := by
  have e1 : nI n * nI (n - 1) / 2 = nI (n * (n - 1) / 2) := by
    rw [pk_mul, show (2 : Int32) = nI 2 from rfl, pk_div (Nat.lt_of_le_of_lt (Nat.mul_le_mul hn (show n - 1 ≤ 6 by omega)) (by decide)) (by decide) (by decide)]
  have hnp := np_ok n (by omega)
  have l83 : ∀ (r j i : Nat) (h : xk_H), j + r = n → i < n → i < j → lvI hs h v n (i + 1) (po n i + (j - (i + 1))) → (∀ (h : xk_H) (o4 : Option Value), lvI hs h v n (i + 1) (po n i + (n - (i + 1))) → xk_X (d + 1) 16 114 mX2_init (xk_fx true hs) (fun r' h => r' = none ∧ lvA h v n (lvG n) (fun _ _ => 0) 0 0 ∧ xext v hs h (4 + n + n)) (0 + 1 + 1 + 7 + 7) (0 + 15 + 15 + 42 + 42) 113 [some (.ref v), some (.int (nI n)), some (.int (nI (po n i + (n - (i + 1))))), some (.int (nI i)), o4] [] h) → xk_X (d + 1) 16 114 mX2_init (xk_fx true hs) (fun r' h => r' = none ∧ lvA h v n (lvG n) (fun _ _ => 0) 0 0 ∧ xext v hs h (4 + n + n)) (0 + 1 + 1 + 7 + 7) (0 + 15 + 15 + 42 + 42) 83 [some (.ref v), some (.int (nI n)), some (.int (nI (po n i + (j - (i + 1))))), some (.int (nI i)), some (.int (nI j))] [] h := by
    intro r
    induction r with
    | zero =>
      intro j i h h1 hi hij H K
      obtain rfl : j = n := by omega
      refine xk_iload dX2_init_83 rfl ?_
      refine xk_iload_n dX2_init_85 rfl ?_
      refine xk_icmp_ge 113 dX2_init_86 (by decide) (fun c86 => ?_) (fun c86 => ?_)
      · exact K h _ H
      · exact absurd (nI_le (Nat.le_refl _) (by omega)) c86
    | succ r ih =>
      intro j i h h1 hi hij H K
      have hpo := po_at (show n < 7 by omega) hi (show j < n by omega) hij
      obtain ⟨p1, p2, ⟨f1, p3, p3b⟩, ⟨f2, p4, p4b⟩, -⟩ := id H
      have q3 : (nI (po n i + (j - (i + 1)))).toNatClampNeg = po n i + (j - (i + 1)) := nI_clamp (by omega)
      refine xk_iload dX2_init_83 rfl ?_
      refine xk_iload_n dX2_init_85 rfl ?_
      refine xk_icmp_ge 113 dX2_init_86 (by decide) (fun c86 => ?_) (fun c86 => ?_)
      · exact absurd c86 (nI_ge (by omega) (by omega))
      · refine xk_aload_n dX2_init_89 rfl ?_
        refine xk_get (ci := 1) (r := (RX2, TX2, 8)) 2 dX2_init_90 rfl inX2 (by decide) wf_X2_16 p2 rfl ?_
        refine xk_iload_n dX2_init_93 rfl ?_
        refine xk_iload_n dX2_init_94 rfl ?_
        refine xk_iast dX2_init_95 p3 (vp_in_nI hpo.2.2 (by omega)) ?_
        rw [q3]
        refine xk_aload_n dX2_init_96 rfl ?_
        refine xk_get (ci := 1) (r := (RX2, TX2, 8)) 3 dX2_init_97 rfl inX2 (by decide) wf_X2_20 ((xs_ne (by omega)).trans p2) rfl ?_
        refine xk_iload_n dX2_init_100 rfl ?_
        refine xk_iload dX2_init_101 rfl ?_
        refine xk_iast dX2_init_103 ((xs_ne (by omega)).trans p4) (vp_in_nI hpo.2.2 (by omega)) ?_
        try rw [q3]
        refine xk_iinc (nI (po n i + (j + 1 - (i + 1)))) dX2_init_104 rfl (by rw [show Int32.ofInt 1 = 1 from rfl, nI_1]; congr 1; omega) (by decide) ?_
        dsimp only [xk_s1, xk_s2, xk_kill]
        refine xk_iinc (nI (j + 1)) dX2_init_107 rfl (nI_1 j) (by decide) ?_
        dsimp only [xk_s1, xk_s2, xk_kill]
        refine xk_goto 83 dX2_init_110 (by decide) ?_
        refine ih (j + 1) i _ (by omega) hi (by omega) ?_ K
        rw [show po n i + (j + 1 - (i + 1)) = po n i + (j - (i + 1)) + 1 by omega]
        exact H.pr p3 p4 hpo.1 hpo.2.1
  have l64 : ∀ (r i : Nat) (h : xk_H) (o4 : Option Value), i + r = n → lvI hs h v n i (po n i) → xk_X (d + 1) 16 114 mX2_init (xk_fx true hs) (fun r' h => r' = none ∧ lvA h v n (lvG n) (fun _ _ => 0) 0 0 ∧ xext v hs h (4 + n + n)) (0 + 1 + 1 + 7 + 7) (0 + 15 + 15 + 42 + 42) 64 [some (.ref v), some (.int (nI n)), some (.int (nI (po n i))), some (.int (nI i)), o4] [] h := by
    intro r
    induction r with
    | zero =>
      intro i h o4 h1 H
      obtain rfl : i = n := by omega
      have e9 := (po_t i (by omega) 0 (by omega)).2.2.2
      refine xk_iload_n dX2_init_64 rfl ?_
      refine xk_iload_n dX2_init_65 rfl ?_
      refine xk_icmp_ge 119 dX2_init_66 (by decide) (fun c66 => ?_) (fun c66 => ?_)
      · exact xk_vret rfl dX2_init_119 (by decide +kernel) (by decide +kernel) ⟨rfl, (e9 ▸ H : lvI hs h v i i (i * (i - 1) / 2)).fin, by have := H.1; omega, fun k k1 k2 => H.2.2.2.2.2.2.2.2.2 k (by omega)⟩
      · exact absurd (nI_le (Nat.le_refl _) (by omega)) c66
    | succ r ih =>
      intro i h o4 h1 H
      obtain ⟨p1, p2, -, -, p5, -, ⟨f3, p7, p7b⟩, -⟩ := id H
      have hps := (po_t n (by omega) i (by omega)).2.1
      have q3 : (nI i).toNatClampNeg = i := nI_clamp (by omega)
      have q0 : (0 : Int32).toNatClampNeg = 0 := rfl
      have K : ∀ (h : xk_H) (o4 : Option Value), lvI hs h v n (i + 1) (po n i + (n - (i + 1))) → xk_X (d + 1) 16 114 mX2_init (xk_fx true hs) (fun r' h => r' = none ∧ lvA h v n (lvG n) (fun _ _ => 0) 0 0 ∧ xext v hs h (4 + n + n)) (0 + 1 + 1 + 7 + 7) (0 + 15 + 15 + 42 + 42) 113 [some (.ref v), some (.int (nI n)), some (.int (nI (po n i + (n - (i + 1))))), some (.int (nI i)), o4] [] h := by
        intro h o4 H
        refine xk_iinc (nI (i + 1)) dX2_init_113 rfl (nI_1 i) (by decide) ?_
        dsimp only [xk_s1, xk_s2, xk_kill]
        refine xk_goto 64 dX2_init_116 (by decide) ?_
        rw [← hps] at H ⊢
        exact ih (i + 1) h _ (by omega) H
      refine xk_iload_n dX2_init_64 rfl ?_
      refine xk_iload_n dX2_init_65 rfl ?_
      refine xk_icmp_ge 119 dX2_init_66 (by decide) (fun c66 => ?_) (fun c66 => ?_)
      · exact absurd c66 (nI_ge (by omega) (by omega))
      · refine xk_aload_n dX2_init_69 rfl ?_
        refine xk_get (ci := 1) (r := (RX2, TX2, 8)) 4 dX2_init_70 rfl inX2 (by decide) wf_X2_25 p2 rfl ?_
        refine xk_iconst (0) dX2_init_73 (by decide) ?_
        refine xk_aaldI dX2_init_74 p5 (vp_in_nI (n := 0) (by omega) (by omega)) (by rw [q0]; exact if_pos (by omega)) ?_
        refine xk_iload_n dX2_init_75 rfl ?_
        refine xk_iload_n dX2_init_76 rfl ?_
        refine xk_iast dX2_init_77 p7 (vp_in_nI (by omega) (by omega)) ?_
        rw [q3]
        refine xk_iload_n dX2_init_78 rfl ?_
        refine xk_iconst (1) dX2_init_79 (by decide) ?_
        refine xk_iadd dX2_init_80 ?_
        rw [nI_1]
        refine xk_istore dX2_init_81 (by decide) ?_
        dsimp only [xk_s1, xk_s2, xk_kill]
        have H2 := H.r0 h2n p7
        have hK := l83 (n - (i + 1)) (i + 1) i _ (by omega) (by omega) (by omega) (by rw [Nat.sub_self, Nat.add_zero]; exact H2) K
        rw [Nat.sub_self, Nat.add_zero] at hK
        exact hK
  refine xk_Y.ofX (k := 3) (ls := [some (.ref v), some (.int (nI n)), none, none, none]) (by decide) rfl rfl ?_
  refine xk_aload_n dX2_init_0 rfl ?_
  refine xk_objInit dX2_init_1 wm_X2_1 (by omega) (Nat.le_of_ble_eq_true rfl) ?_
  refine xk_aload_n dX2_init_4 rfl ?_
  refine xk_iload_n dX2_init_5 rfl ?_
  refine xk_putF (ci := 1) (r := (RX2, TX2, 8)) 0 tyX2 dX2_init_6 rfl inX2 tyX2_ok nmX2 (by decide) wf_X2_7 rfl rfl rfl (fun _ => rfl) (fun _ => rfl) ho (Nat.le_of_ble_eq_true rfl) ?_
  dsimp only [List.set]
  refine xk_aload_n dX2_init_9 rfl ?_
  refine xk_iload_n dX2_init_10 rfl ?_
  refine xk_iload_n dX2_init_11 rfl ?_
  refine xk_iconst (1) dX2_init_12 (by decide) ?_
  refine xk_isub dX2_init_13 ?_
  rw [show (1 : Int32) = nI 1 from rfl, pk_sub (by omega)]
  refine xk_imul dX2_init_14 ?_
  refine xk_iconst (2) dX2_init_15 (by decide) ?_
  refine xk_idiv dX2_init_16 (by decide) ?_
  rw [e1]
  refine xk_putF (ci := 1) (r := (RX2, TX2, 8)) 1 tyX2 dX2_init_17 rfl inX2 tyX2_ok nmX2 (by decide) wf_X2_13 rfl rfl rfl (fun _ => rfl) (fun _ => rfl) (xs_at ho) (Nat.le_of_ble_eq_true rfl) ?_
  dsimp only [List.set]
  refine xk_aload_n dX2_init_20 rfl ?_
  refine xk_aload_n dX2_init_21 rfl ?_
  refine xk_get (ci := 1) (r := (RX2, TX2, 8)) 1 dX2_init_22 rfl inX2 (by decide) wf_X2_13 (xs_at (xs_at ho)) rfl ?_
  refine xk_newI (B := 15) dX2_init_25 (by omega) (by omega) (by decide +kernel) (by decide +kernel) (fun k hk => by have h9 : k < hs.length := hk rfl; first | omega | (simp only [List.length_append, List.length_set, List.length_cons, List.length_nil, List.length_replicate]; omega)) ?_
  refine xk_putF (ci := 1) (r := (RX2, TX2, 8)) 2 tyX2 dX2_init_27 rfl inX2 tyX2_ok nmX2 (by decide) wf_X2_16 rfl rfl rfl (fun _ => rfl) (fun _ => rfl) ((xa_old (by simp; omega)).trans (xs_at (xs_at ho))) (Nat.le_of_ble_eq_true rfl) ?_
  dsimp only [List.set]
  refine xk_gen (P := fun w => w.length = v + 2 ∧ w[v]? = some (.inr (1, [.int (nI n), .int (nI (n * (n - 1) / 2)), .ref (v + 1), .null, .null, .null, .int 0, .int 0])) ∧ w[v + 1]? = some (zr0 (n * (n - 1) / 2)) ∧ ∀ k, k < v → w[k]? = hs[k]?) ⟨by simp; omega, by rw [List.length_set, List.length_set, hb]; exact xs_at ((xa_old (by simp; omega)).trans (xs_at (xs_at ho))), (xs_ne (by omega)).trans (xa_at (by simp; omega)), fun k hk => (xs_ne (by omega)).trans ((xa_old (by simp; omega)).trans ((xs_ne (by omega)).trans (xs_ne (by omega))))⟩ (fun w hw => ?_)
  obtain ⟨l1, p1, p2, p9⟩ := hw
  refine xk_aload_n dX2_init_30 rfl ?_
  refine xk_aload_n dX2_init_31 rfl ?_
  refine xk_get (ci := 1) (r := (RX2, TX2, 8)) 1 dX2_init_32 rfl inX2 (by decide) wf_X2_13 p1 rfl ?_
  refine xk_newI (B := 15) dX2_init_35 (by omega) (by omega) (by decide +kernel) (by decide +kernel) (fun k hk => by have h9 : k < hs.length := hk rfl; first | omega | (simp only [List.length_append, List.length_set, List.length_cons, List.length_nil, List.length_replicate]; omega)) ?_
  refine xk_putF (ci := 1) (r := (RX2, TX2, 8)) 3 tyX2 dX2_init_37 rfl inX2 tyX2_ok nmX2 (by decide) wf_X2_20 rfl rfl rfl (fun _ => rfl) (fun _ => rfl) ((xa_old (by omega)).trans p1) (Nat.le_of_ble_eq_true rfl) ?_
  dsimp only [List.set]
  refine xk_gen (P := fun w => w.length = v + 3 ∧ w[v]? = some (.inr (1, [.int (nI n), .int (nI (n * (n - 1) / 2)), .ref (v + 1), .ref (v + 2), .null, .null, .int 0, .int 0])) ∧ w[v + 1]? = some (zr0 (n * (n - 1) / 2)) ∧ w[v + 2]? = some (zr0 (n * (n - 1) / 2)) ∧ ∀ k, k < v → w[k]? = hs[k]?) ⟨by simp; omega, by rw [l1]; exact xs_at ((xa_old (by omega)).trans p1), (xs_ne (by omega)).trans ((xa_old (by omega)).trans p2), (xs_ne (by omega)).trans (xa_at (by omega)), fun k hk => (xs_ne (by omega)).trans ((xa_old (by omega)).trans (p9 k hk))⟩ (fun w hw => ?_)
  obtain ⟨l1, p1, p2, p3, p9⟩ := hw
  refine xk_aload_n dX2_init_40 rfl ?_
  refine xk_iload_n dX2_init_41 rfl ?_
  refine xk_iload_n dX2_init_42 rfl ?_
  refine xk_mnaI wq_X2_23 dX2_init_43 (by omega) (by omega) (by decide +kernel) (by decide +kernel) (fun k hk => by have h9 : k < hs.length := hk rfl; first | omega | (simp only [List.length_append, List.length_set, List.length_cons, List.length_nil, List.length_replicate]; omega)) ?_
  refine xk_putF (ci := 1) (r := (RX2, TX2, 8)) 4 tyX2 dX2_init_47 rfl inX2 tyX2_ok nmX2 (by decide) wf_X2_25 rfl rfl rfl (fun _ => rfl) (fun _ => rfl) ((xa_old (by omega)).trans p1) (Nat.le_of_ble_eq_true rfl) ?_
  dsimp only [List.set]
  refine xk_gen (P := fun w => w.length = v + 4 + n ∧ w[v]? = some (.inr (1, [.int (nI n), .int (nI (n * (n - 1) / 2)), .ref (v + 1), .ref (v + 2), .ref (v + 3), .null, .int 0, .int 0])) ∧ w[v + 1]? = some (zr0 (n * (n - 1) / 2)) ∧ w[v + 2]? = some (zr0 (n * (n - 1) / 2)) ∧ w[v + 3]? = some (.inl (3, n, .inr (.inr (.inr (.inr (fun i => if i < n then some (v + 4 + i) else none)))))) ∧ (∀ k, k < n → w[v + 4 + k]? = some (zr0 n)) ∧ ∀ k, k < v → w[k]? = hs[k]?) ⟨by simp; omega, by rw [l1]; exact xs_at ((xa_old (by omega)).trans p1), (xs_ne (by omega)).trans ((xa_old (by omega)).trans p2), (xs_ne (by omega)).trans ((xa_old (by omega)).trans p3), by rw [l1]; exact (xs_ne (by omega)).trans (xa_at (by omega)), fun k hk => (xs_ne (by omega)).trans (xa_rep (i := k) (by omega) hk), fun k hk => (xs_ne (by omega)).trans ((xa_old (by omega)).trans (p9 k hk))⟩ (fun w hw => ?_)
  obtain ⟨l1, p1, p2, p3, p4, p5, p9⟩ := hw
  refine xk_aload_n dX2_init_50 rfl ?_
  refine xk_iload_n dX2_init_51 rfl ?_
  refine xk_iload_n dX2_init_52 rfl ?_
  refine xk_mnaI wq_X2_23 dX2_init_53 (by omega) (by omega) (by decide +kernel) (by decide +kernel) (fun k hk => by have h9 : k < hs.length := hk rfl; first | omega | (simp only [List.length_append, List.length_set, List.length_cons, List.length_nil, List.length_replicate]; omega)) ?_
  refine xk_putF (ci := 1) (r := (RX2, TX2, 8)) 5 tyX2 dX2_init_57 rfl inX2 tyX2_ok nmX2 (by decide) wf_X2_28 rfl rfl rfl (fun _ => rfl) (fun _ => rfl) ((xa_old (by omega)).trans p1) (Nat.le_of_ble_eq_true rfl) ?_
  dsimp only [List.set]
  refine xk_gen (P := fun w => lvI hs w v n 0 0) ⟨by simp; omega, by rw [l1]; exact xs_at ((xa_old (by omega)).trans p1), ⟨_, (xs_ne (by omega)).trans ((xa_old (by omega)).trans p2), fun k hk => absurd hk (by omega)⟩, ⟨_, (xs_ne (by omega)).trans ((xa_old (by omega)).trans p3), fun k hk => absurd hk (by omega)⟩, (xs_ne (by omega)).trans ((xa_old (by omega)).trans p4), by rw [l1, show v + 4 + n + 1 = v + 5 + n by omega]; exact (xs_ne (by omega)).trans (xa_at (by omega)), ⟨_, (xs_ne (by omega)).trans ((xa_old (by omega)).trans (p5 0 (by omega))), fun j hj => absurd hj (by omega)⟩, fun k _ k2 => (xs_ne (by omega)).trans ((xa_old (by omega)).trans (p5 k k2)), fun k hk => (xs_ne (by omega)).trans (xa_rep (i := k) (by omega) hk), fun k hk => (xs_ne (by omega)).trans ((xa_old (by omega)).trans (p9 k hk))⟩ (fun w hw => ?_)
  refine xk_iconst (0) dX2_init_60 (by decide) ?_
  refine xk_istore_n dX2_init_61 (by decide) ?_
  dsimp only [xk_s1, xk_s2, xk_kill]
  refine xk_iconst (0) dX2_init_62 (by decide) ?_
  refine xk_istore_n dX2_init_63 (by decide) ?_
  dsimp only [xk_s1, xk_s2, xk_kill]
  have e0 := (po_t n (by omega) 0 (by omega)).2.2.1
  have hk := l64 n 0 w none (by omega) (by rw [e0]; exact hw)
  rw [e0] at hk
  exact hk

