/-! The reference: worst, fits, even. Laid by a program of our own. -/
set_option maxHeartbeats 4000000 in
set_option maxRecDepth 100000 in
theorem y_X9_worst (d : Nat) {hs : xk_H} {m n : Nat} {T : mdT} (hn : n ≤ 6) (h2 : 2 ≤ n) (hA : mdA hs m n T) (hK : mdOK T) {q : Int32} : xk_Y (d + 4) 0 0 mX9_worst false [.ref m, .int q] hs (fun r' h => r' = some (.int (mWor n T q)) ∧ mdA h m n T ∧ xfr (mdR m) hs h) := by
  obtain ⟨⟨s, hO⟩, hC, hW⟩ := id hA
  obtain ⟨w1, w2, w3, ⟨F, w4⟩, w5, w6, w7⟩ := id hW
  refine xk_Y.ofX (k := 0) (ls := [some (.ref m), some (.int q)]) (by decide) rfl rfl ?_
  refine xk_iload_n dX9_worst_0 rfl ?_
  refine xk_iconst (0) dX9_worst_1 (by decide) ?_
  refine xk_iconst (4) dX9_worst_2 (by decide) ?_
  refine xk_s3c (M' := mX9_in) (d' := (d + 3)) dX9_worst_3 wm_X9_73 cv_X9_in wt_X9_in (by omega) (Nat.le_refl _) (Nat.le_refl _) (Nat.le_of_ble_eq_true rfl) (y_X9_in (d + 3)) rfl ?_
  refine xk_ifb_eq 25 dX9_worst_6 (by decide) (fun c6 => ?_) (fun c6 => ?_)
  · refine xk_iconst (-1) dX9_worst_25 (by decide) ?_
    exact xk_iret rfl dX9_worst_26 (Nat.le_refl _) (Nat.le_refl _) ⟨by first | rw [show mWor n T q = wFn F (mwF n T) q.toNatClampNeg by unfold mWor; rw [c6, c13, if_pos (by rfl)]; exact wFn_eq c13 (inB_04 c6).2] | (unfold mWor; rw [if_neg (by simp [*])]), by first | exact ⟨⟨s, (xs_ne (by omega)).trans hO⟩, hC.kept (S := fun k => k = m + 12) (xfr.rf.set rfl) (by omega), by obtain ⟨f1, w1⟩ := w1; exact ⟨⟨f1, (xs_ne (by omega)).trans w1⟩, by obtain ⟨f2, w2⟩ := w2; exact ⟨f2, (xs_ne (by omega)).trans w2⟩, by obtain ⟨f2, w2⟩ := w3; exact ⟨f2, (xs_ne (by omega)).trans w2⟩, ⟨_, xs_at w4⟩, by obtain ⟨f2, w2⟩ := w5; exact ⟨f2, (xs_ne (by omega)).trans w2⟩, by obtain ⟨f2, w2⟩ := w6; exact ⟨f2, (xs_ne (by omega)).trans w2⟩, by obtain ⟨f2, w2⟩ := w7; exact ⟨f2, (xs_ne (by omega)).trans w2⟩⟩⟩ | exact hA, by first | exact xfr.rf.set ⟨by omega, by omega⟩ | exact xfr.rf⟩
  · refine xk_aload_n dX9_worst_9 rfl ?_
    refine xk_v0 (M' := mX9_findsWorst) (d' := d + 3) (ci := 8) (r0 := (RX9, TX9, 25)) dX9_worst_10 wm_X9_117 cv_X9_findsWorst wi_X9_findsWorst wl_X9_findsWorst (by omega) (Nat.le_refl _) (Nat.le_refl _) rfl rfl hO (Nat.le_of_ble_eq_true rfl) (y_X9_findsWorst d hn h2 hO hC hK (F := F) w4) (by simp) ?_
    refine xk_ifb_eq 25 dX9_worst_13 (by decide) (fun c13 => ?_) (fun c13 => ?_)
    · refine xk_iconst (-1) dX9_worst_25 (by decide) ?_
      exact xk_iret rfl dX9_worst_26 (Nat.le_refl _) (Nat.le_refl _) ⟨by first | rw [show mWor n T q = wFn F (mwF n T) q.toNatClampNeg by unfold mWor; rw [c6, c13, if_pos (by rfl)]; exact wFn_eq c13 (inB_04 c6).2] | (unfold mWor; rw [if_neg (by simp [*])]), by first | exact ⟨⟨s, (xs_ne (by omega)).trans hO⟩, hC.kept (S := fun k => k = m + 12) (xfr.rf.set rfl) (by omega), by obtain ⟨f1, w1⟩ := w1; exact ⟨⟨f1, (xs_ne (by omega)).trans w1⟩, by obtain ⟨f2, w2⟩ := w2; exact ⟨f2, (xs_ne (by omega)).trans w2⟩, by obtain ⟨f2, w2⟩ := w3; exact ⟨f2, (xs_ne (by omega)).trans w2⟩, ⟨_, xs_at w4⟩, by obtain ⟨f2, w2⟩ := w5; exact ⟨f2, (xs_ne (by omega)).trans w2⟩, by obtain ⟨f2, w2⟩ := w6; exact ⟨f2, (xs_ne (by omega)).trans w2⟩, by obtain ⟨f2, w2⟩ := w7; exact ⟨f2, (xs_ne (by omega)).trans w2⟩⟩⟩ | exact hA, by first | exact xfr.rf.set ⟨by omega, by omega⟩ | exact xfr.rf⟩
    · refine xk_aload_n dX9_worst_16 rfl ?_
      refine xk_get (ci := 8) (r := (RX9, TX9, 25)) 14 dX9_worst_17 rfl inX9 (by decide) wf_X9_45 ((xs_ne (by omega)).trans hO) rfl ?_
      refine xk_iload_n dX9_worst_20 rfl ?_
      refine xk_iald dX9_worst_21 (xs_at w4) (inB_04 c6).1 ?_
      refine xk_goto 26 dX9_worst_22 (by decide) ?_
      exact xk_iret rfl dX9_worst_26 (Nat.le_refl _) (Nat.le_refl _) ⟨by first | rw [show mWor n T q = wFn F (mwF n T) q.toNatClampNeg by unfold mWor; rw [c6, c13, if_pos (by rfl)]; exact wFn_eq c13 (inB_04 c6).2] | (unfold mWor; rw [if_neg (by simp [*])]), by first | exact ⟨⟨s, (xs_ne (by omega)).trans hO⟩, hC.kept (S := fun k => k = m + 12) (xfr.rf.set rfl) (by omega), by obtain ⟨f1, w1⟩ := w1; exact ⟨⟨f1, (xs_ne (by omega)).trans w1⟩, by obtain ⟨f2, w2⟩ := w2; exact ⟨f2, (xs_ne (by omega)).trans w2⟩, by obtain ⟨f2, w2⟩ := w3; exact ⟨f2, (xs_ne (by omega)).trans w2⟩, ⟨_, xs_at w4⟩, by obtain ⟨f2, w2⟩ := w5; exact ⟨f2, (xs_ne (by omega)).trans w2⟩, by obtain ⟨f2, w2⟩ := w6; exact ⟨f2, (xs_ne (by omega)).trans w2⟩, by obtain ⟨f2, w2⟩ := w7; exact ⟨f2, (xs_ne (by omega)).trans w2⟩⟩⟩ | exact hA, by first | exact xfr.rf.set ⟨by omega, by omega⟩ | exact xfr.rf⟩

set_option maxHeartbeats 4000000 in
set_option maxRecDepth 100000 in
/-- fits -/
theorem y_X9_fits (d : Nat) {hs : xk_H} {m n : Nat} {T : mdT} (hn : n ≤ 6) (h2 : 2 ≤ n) (hA : mdA hs m n T) (hK : mdOK T) {hp : Nat} (hh : hp < 32768) (hsub : ∀ k, hIn n hp k → 0 < T.1 k) : xk_Y (d + 1) 0 0 mX9_fits false [.ref m, .int (nI hp)] hs (fun r' h' => r' = some (.int (xk_b (fitB n T hp))) ∧ (∃ (s' : mdX) (c : Nat), h'[m]? = some (mdO n m s') ∧ s'.1 = nI c ∧ c ≤ 6 ∧ (c = 1 ↔ hConn n hp)) ∧ mdA h' m n T ∧ xfr (mdR m) hs h') := by
  have hnp := np_ok n (by omega)
  have l328 : ∀ (r k c : Nat) (f : Nat → Bool) (A B : Nat → Int64) (a b ρ : Nat → Nat) (h : xk_H), k + r = (n * (n - 1) / 2) → ftA hs h m n (nI c) f A B → ftN n f A B a b → ftW n T hp f a b ρ → ftO n hp n c f ρ → (∀ j, j < k → hIn n hp j → a (pu n j) * b (pl n j) * T.2.1 j = b (pu n j) * a (pl n j) * T.1 j) → xk_X (d + 1) 0 0 mX9_fits (xk_fx false hs) (fun r' h' => r' = some (.int (xk_b (fitB n T hp))) ∧ (∃ (s' : mdX) (c : Nat), h'[m]? = some (mdO n m s') ∧ s'.1 = nI c ∧ c ≤ 6 ∧ (c = 1 ↔ hConn n hp)) ∧ mdA h' m n T ∧ xfr (mdR m) hs h') 0 0 328 [some (.ref m), some (.int (nI hp)), some (.int (nI k)), none, none, none, none, none, none, none, none, none, none, none] [] h := by
    intro r
    induction r with
    | zero =>
      intro k c f A B a b ρ h h1 hF hN hW hO2 hQ
      obtain rfl : k = (n * (n - 1) / 2) := by omega
      obtain ⟨⟨sx, hO⟩, g9, g10, g11, gx⟩ := id hF
      refine xk_iload_n dX9_fits_328 rfl ?_
      refine xk_aload_n dX9_fits_329 rfl ?_
      refine xk_get (ci := 8) (r := (RX9, TX9, 25)) 1 dX9_fits_330 rfl inX9 (by decide) wf_X9_70 hO rfl ?_
      refine xk_icmp_ge 418 dX9_fits_333 (by decide) (fun c333 => ?_) (fun c333 => ?_)
      · refine xk_iconst (1) dX9_fits_418 (by decide) ?_
        exact xk_zret rfl (by rfl) dX9_fits_419 (Nat.le_refl _) (Nat.le_refl _) ⟨by rw [xb_t (fitB_t (ft_yes hO2 hW (fun k hk => hQ k hk.1 hk)))], ⟨_, c, hO, rfl, by have := hO2.2.2.2.1; omega, ftO_end hO2 h2⟩, hF.toA hA, hF.fr⟩
      · exact absurd (nI_le (Nat.le_refl _) (by omega)) c333
    | succ r ih =>
      intro k c f A B a b ρ h h1 hF hN hW hO2 hQ
      obtain ⟨⟨sx, hO⟩, g9, g10, g11, gx⟩ := id hF
      have hpr := prs_ok n (by omega) h2 k (by omega)
      have hk9 := hK k
      have q3 : (nI k).toNatClampNeg = k := nI_clamp (by omega)
      have q1 : vp_in (nI k) 15 := vp_in_nI (by omega) (by omega)
      have qi : (nI (pu n k)).toNatClampNeg = pu n k := nI_clamp (by omega)
      have qj : (nI (pl n k)).toNatClampNeg = pl n k := nI_clamp (by omega)
      have vi : vp_in (nI (pu n k)) 6 := vp_in_nI (by omega) (by omega)
      have vj : vp_in (nI (pl n k)) 6 := vp_in_nI (by omega) (by omega)
      have fi := hO2.1 (pu n k) (by omega)
      have fj := hO2.1 (pl n k) (by omega)
      have ni := hN (pu n k) (by omega) fi
      have nj := hN (pl n k) (by omega) fj
      have bi := hW.le hn (show pu n k < n by omega) fi
      have bj := hW.le hn hpr.2 fj
      have m1 : a (pu n k) * b (pl n k) ≤ 59049 * 59049 := Nat.mul_le_mul bi.1.2 bj.2.2
      have m2 : a (pu n k) * b (pl n k) * T.2.1 k ≤ 59049 * 59049 * 9 := Nat.mul_le_mul m1 hk9.2.2.1
      have m3 : b (pu n k) * a (pl n k) ≤ 59049 * 59049 := Nat.mul_le_mul bi.2.2 bj.1.2
      have m4 : b (pu n k) * a (pl n k) * T.1 k ≤ 59049 * 59049 * 9 := Nat.mul_le_mul m3 hk9.2.1
      refine xk_iload_n dX9_fits_328 rfl ?_
      refine xk_aload_n dX9_fits_329 rfl ?_
      refine xk_get (ci := 8) (r := (RX9, TX9, 25)) 1 dX9_fits_330 rfl inX9 (by decide) wf_X9_70 hO rfl ?_
      refine xk_icmp_ge 418 dX9_fits_333 (by decide) (fun c333 => ?_) (fun c333 => ?_)
      · exact absurd c333 (nI_ge (by omega) (by omega))
      · refine xk_iload_n dX9_fits_336 rfl ?_
        refine xk_iload_n dX9_fits_337 rfl ?_
        refine xk_ishr dX9_fits_338 ?_
        refine xk_iconst (1) dX9_fits_339 (by decide) ?_
        refine xk_iand dX9_fits_340 ?_
        refine xk_if_ne 347 dX9_fits_341 (by decide) (fun c341 => ?_) (fun c341 => ?_)
        · have hk : hIn n hp k := ⟨by omega, by cases e : hp.testBit k; exact absurd ((shr_bit hh (by omega)).mpr e) c341; rfl⟩
          refine xk_aload_n dX9_fits_347 rfl ?_
          refine xk_get (ci := 8) (r := (RX9, TX9, 25)) 8 dX9_fits_348 rfl inX9 (by decide) wf_X9_28 hO rfl ?_
          refine xk_iload_n dX9_fits_351 rfl ?_
          refine xk_iald dX9_fits_352 (hF.C hA).2.2.2.2.2.2.1 q1 ?_
          rw [q3]
          refine xk_istore_n dX9_fits_353 (by decide) ?_
          dsimp only [xk_s1, xk_s2, xk_kill]
          refine xk_aload_n dX9_fits_354 rfl ?_
          refine xk_get (ci := 8) (r := (RX9, TX9, 25)) 9 dX9_fits_355 rfl inX9 (by decide) wf_X9_31 hO rfl ?_
          refine xk_iload_n dX9_fits_358 rfl ?_
          refine xk_iald dX9_fits_359 (hF.C hA).2.2.2.2.2.2.2 q1 ?_
          try rw [q3]
          refine xk_istore dX9_fits_360 (by decide) ?_
          dsimp only [xk_s1, xk_s2, xk_kill]
          refine xk_aload_n dX9_fits_362 rfl ?_
          refine xk_get (ci := 8) (r := (RX9, TX9, 25)) 10 dX9_fits_363 rfl inX9 (by decide) wf_X9_34 hO rfl ?_
          refine xk_iload_n dX9_fits_366 rfl ?_
          refine xk_lald dX9_fits_367 g9 vi ?_
          rw [qi, ni.1]
          refine xk_aload_n dX9_fits_368 rfl ?_
          refine xk_get (ci := 8) (r := (RX9, TX9, 25)) 11 dX9_fits_369 rfl inX9 (by decide) wf_X9_38 hO rfl ?_
          refine xk_iload dX9_fits_372 rfl ?_
          refine xk_lald dX9_fits_374 g10 vj ?_
          rw [qj, nj.2]
          refine xk_lmul dX9_fits_375 ?_
          rw [lN_mul]
          refine xk_aload_n dX9_fits_376 rfl ?_
          refine xk_get (ci := 8) (r := (RX9, TX9, 25)) 3 dX9_fits_377 rfl inX9 (by decide) wf_X9_13 hO rfl ?_
          refine xk_iload_n dX9_fits_380 rfl ?_
          refine xk_iald dX9_fits_381 (hF.C hA).2.1 q1 ?_
          try rw [q3]
          refine xk_i2l dX9_fits_382 ?_
          rw [nI_l (by omega)]
          refine xk_lmul dX9_fits_383 ?_
          rw [lN_mul]
          refine xk_aload_n dX9_fits_384 rfl ?_
          refine xk_get (ci := 8) (r := (RX9, TX9, 25)) 11 dX9_fits_385 rfl inX9 (by decide) wf_X9_38 hO rfl ?_
          refine xk_iload_n dX9_fits_388 rfl ?_
          refine xk_lald dX9_fits_389 g10 vi ?_
          try rw [qi]
          rw [ni.2]
          refine xk_aload_n dX9_fits_390 rfl ?_
          refine xk_get (ci := 8) (r := (RX9, TX9, 25)) 10 dX9_fits_391 rfl inX9 (by decide) wf_X9_34 hO rfl ?_
          refine xk_iload dX9_fits_394 rfl ?_
          refine xk_lald dX9_fits_396 g9 vj ?_
          try rw [qj]
          rw [nj.1]
          refine xk_lmul dX9_fits_397 ?_
          rw [lN_mul]
          refine xk_aload_n dX9_fits_398 rfl ?_
          refine xk_get (ci := 8) (r := (RX9, TX9, 25)) 2 dX9_fits_399 rfl inX9 (by decide) wf_X9_9 hO rfl ?_
          refine xk_iload_n dX9_fits_402 rfl ?_
          refine xk_iald dX9_fits_403 (hF.C hA).1 q1 ?_
          try rw [q3]
          refine xk_i2l dX9_fits_404 ?_
          rw [nI_l (by omega)]
          refine xk_lmul dX9_fits_405 ?_
          rw [lN_mul]
          refine xk_lcmp dX9_fits_406 ?_
          refine xk_if_eq 412 dX9_fits_407 (by decide) (fun c407 => ?_) (fun c407 => ?_)
          · have hX : hIn n hp k → a (pu n k) * b (pl n k) * T.2.1 k = b (pu n k) * a (pl n k) * T.1 k := fun _ => (lc_eq (by omega) (by omega)).mp c407
            refine xk_iinc (nI (k + 1)) dX9_fits_412 rfl (nI_1 k) (by decide) ?_
            dsimp only [xk_s1, xk_s2, xk_kill]
            refine xk_goto 328 dX9_fits_415 (by decide) ?_
            exact xk_sub (ih (k + 1) c f A B a b ρ h (by omega) hF hN hW hO2 (fun j hj hi => by by_cases e : j = k; (subst e; exact hX hi); exact hQ j (by omega) hi)) ⟨rfl, rfl, rfl, trivial⟩
          · have hX := ft_chk (by omega) h2 hO2 hW hk (fun z => c407 ((lc_eq (by omega) (by omega)).mpr z))
            refine xk_iconst (0) dX9_fits_410 (by decide) ?_
            exact xk_zret rfl (by rfl) dX9_fits_411 (Nat.le_refl _) (Nat.le_refl _) ⟨by rw [xb_f (fitB_f hX)], ⟨_, c, hO, rfl, by have := hO2.2.2.2.1; omega, ftO_end hO2 h2⟩, hF.toA hA, hF.fr⟩
        · have hX : hIn n hp k → a (pu n k) * b (pl n k) * T.2.1 k = b (pu n k) * a (pl n k) * T.1 k := fun z => absurd z.2 (by rw [(shr_bit hh (by omega)).mp c341]; decide)
          refine xk_goto 412 dX9_fits_344 (by decide) ?_
          refine xk_iinc (nI (k + 1)) dX9_fits_412 rfl (nI_1 k) (by decide) ?_
          dsimp only [xk_s1, xk_s2, xk_kill]
          refine xk_goto 328 dX9_fits_415 (by decide) ?_
          exact xk_sub (ih (k + 1) c f A B a b ρ h (by omega) hF hN hW hO2 (fun j hj hi => by by_cases e : j = k; (subst e; exact hX hi); exact hQ j (by omega) hi)) ⟨rfl, rfl, rfl, trivial⟩
  have l83 : ∀ (s0 c : Nat) (f0 : Nat → Bool) (ρ0 : Nat → Nat), s0 < n → ftO n hp s0 c f0 ρ0 → f0 s0 = false → (∀ (f : Nat → Bool) (A B : Nat → Int64) (a b ρ : Nat → Nat) (h : xk_H), ftA hs h m n (nI (c + 1)) f A B → ftN n f A B a b → ftW n T hp f a b ρ → ftO n hp (s0 + 1) (c + 1) f ρ → xk_X (d + 1) 0 0 mX9_fits (xk_fx false hs) (fun r' h' => r' = some (.int (xk_b (fitB n T hp))) ∧ (∃ (s' : mdX) (c : Nat), h'[m]? = some (mdO n m s') ∧ s'.1 = nI c ∧ c ≤ 6 ∧ (c = 1 ↔ hConn n hp)) ∧ mdA h' m n T ∧ xfr (mdR m) hs h') 0 0 320 [some (.ref m), some (.int (nI hp)), some (.int (nI s0)), none, none, none, none, none, none, none, none, none, none, none] [] h) → ∀ (u : Nat) (f : Nat → Bool) (A B : Nat → Int64) (a b ρ : Nat → Nat) (h : xk_H), unr f n = u → ftA hs h m n (nI (c + 1)) f A B → ftN n f A B a b → ftW n T hp f a b ρ → ftS n hp s0 f0 f ρ → xk_X (d + 1) 0 0 mX9_fits (xk_fx false hs) (fun r' h' => r' = some (.int (xk_b (fitB n T hp))) ∧ (∃ (s' : mdX) (c : Nat), h'[m]? = some (mdO n m s') ∧ s'.1 = nI c ∧ c ≤ 6 ∧ (c = 1 ↔ hConn n hp)) ∧ mdA h' m n T ∧ xfr (mdR m) hs h') 0 0 83 [some (.ref m), some (.int (nI hp)), some (.int (nI s0)), some (.int 1), none, none, none, none, none, none, none, none, none, none] [] h := by
    intro s0 c f0 ρ0 hs0 hO0 fs0 K u
    induction u using Nat.strongRecOn with
    | ind u ihu =>
      have l92 : ∀ (r k : Nat) (mo : Bool) (f : Nat → Bool) (A B : Nat → Int64) (a b ρ : Nat → Nat) (h : xk_H), k + r = (n * (n - 1) / 2) → ftA hs h m n (nI (c + 1)) f A B → ftN n f A B a b → ftW n T hp f a b ρ → ftS n hp s0 f0 f ρ → ftQ n hp u k mo f → xk_X (d + 1) 0 0 mX9_fits (xk_fx false hs) (fun r' h' => r' = some (.int (xk_b (fitB n T hp))) ∧ (∃ (s' : mdX) (c : Nat), h'[m]? = some (mdO n m s') ∧ s'.1 = nI c ∧ c ≤ 6 ∧ (c = 1 ↔ hConn n hp)) ∧ mdA h' m n T ∧ xfr (mdR m) hs h') 0 0 92 [some (.ref m), some (.int (nI hp)), some (.int (nI s0)), some (.int (xk_b mo)), some (.int (nI k)), none, none, none, none, none, none, none, none, none] [] h := by
        intro r
        induction r with
        | zero =>
          intro k mo f A B a b ρ h h1 hF hN hW hS hQ
          obtain rfl : k = (n * (n - 1) / 2) := by omega
          obtain ⟨⟨sx, hO⟩, g9, g10, g11, gx⟩ := id hF
          refine xk_iload dX9_fits_92 rfl ?_
          refine xk_aload_n dX9_fits_94 rfl ?_
          refine xk_get (ci := 8) (r := (RX9, TX9, 25)) 1 dX9_fits_95 rfl inX9 (by decide) wf_X9_70 hO rfl ?_
          refine xk_icmp_ge 317 dX9_fits_98 (by decide) (fun c98 => ?_) (fun c98 => ?_)
          · refine xk_goto 83 dX9_fits_317 (by decide) ?_
            cases mo with
            | true => exact xk_sub (ihu (unr f n) (hQ.2.1 rfl) f A B a b ρ h rfl hF hN hW hS) ⟨rfl, rfl, rfl, rfl, trivial⟩
            | false =>
              refine xk_iload_n dX9_fits_83 rfl ?_
              refine xk_if_eq 320 dX9_fits_84 (by decide) (fun c84 => ?_) (fun c84 => ?_)
              · exact xk_sub (K f A B a b ρ h hF hN hW (ftO_s (by omega) h2 hO0 fs0 hs0 hS (ftQ_c hQ))) ⟨rfl, rfl, rfl, trivial⟩
              · exact absurd rfl c84
          · exact absurd (nI_le (Nat.le_refl _) (by omega)) c98
        | succ r ih =>
          intro k mo f A B a b ρ h h1 hF hN hW hS hQ
          obtain ⟨⟨sx, hO⟩, g9, g10, g11, gx⟩ := id hF
          have hpr := prs_ok n (by omega) h2 k (by omega)
          have hk9 := hK k
          have q3 : (nI k).toNatClampNeg = k := nI_clamp (by omega)
          have q1 : vp_in (nI k) 15 := vp_in_nI (by omega) (by omega)
          have qi : (nI (pu n k)).toNatClampNeg = pu n k := nI_clamp (by omega)
          have qj : (nI (pl n k)).toNatClampNeg = pl n k := nI_clamp (by omega)
          have vi : vp_in (nI (pu n k)) 6 := vp_in_nI (by omega) (by omega)
          have vj : vp_in (nI (pl n k)) 6 := vp_in_nI (by omega) (by omega)
          refine xk_iload dX9_fits_92 rfl ?_
          refine xk_aload_n dX9_fits_94 rfl ?_
          refine xk_get (ci := 8) (r := (RX9, TX9, 25)) 1 dX9_fits_95 rfl inX9 (by decide) wf_X9_70 hO rfl ?_
          refine xk_icmp_ge 317 dX9_fits_98 (by decide) (fun c98 => ?_) (fun c98 => ?_)
          · exact absurd c98 (nI_ge (by omega) (by omega))
          · refine xk_iload_n dX9_fits_101 rfl ?_
            refine xk_iload dX9_fits_102 rfl ?_
            refine xk_ishr dX9_fits_104 ?_
            refine xk_iconst (1) dX9_fits_105 (by decide) ?_
            refine xk_iand dX9_fits_106 ?_
            refine xk_if_eq 311 dX9_fits_107 (by decide) (fun c107 => ?_) (fun c107 => ?_)
            · have hX : hIn n hp k → f (pu n k) = f (pl n k) := fun z => absurd z.2 (by rw [(shr_bit hh (by omega)).mp c107]; decide)
              refine xk_iinc (nI (k + 1)) dX9_fits_311 rfl (nI_1 k) (by decide) ?_
              dsimp only [xk_s1, xk_s2, xk_kill]
              refine xk_goto 92 dX9_fits_314 (by decide) ?_
              exact xk_sub (ih (k + 1) mo f A B a b ρ h (by omega) hF hN hW hS (ftQ_k hQ hX)) ⟨rfl, rfl, rfl, rfl, rfl, trivial⟩
            · have hk : hIn n hp k := ⟨by omega, by cases e : hp.testBit k; exact absurd ((shr_bit hh (by omega)).mpr e) c107; rfl⟩
              refine xk_aload_n dX9_fits_110 rfl ?_
              refine xk_get (ci := 8) (r := (RX9, TX9, 25)) 12 dX9_fits_111 rfl inX9 (by decide) wf_X9_41 hO rfl ?_
              refine xk_aload_n dX9_fits_114 rfl ?_
              refine xk_get (ci := 8) (r := (RX9, TX9, 25)) 8 dX9_fits_115 rfl inX9 (by decide) wf_X9_28 hO rfl ?_
              refine xk_iload dX9_fits_118 rfl ?_
              refine xk_iald dX9_fits_120 (hF.C hA).2.2.2.2.2.2.1 q1 ?_
              rw [q3]
              refine xk_zald dX9_fits_121 g11 vi ?_
              rw [qi]
              refine xk_aload_n dX9_fits_122 rfl ?_
              refine xk_get (ci := 8) (r := (RX9, TX9, 25)) 12 dX9_fits_123 rfl inX9 (by decide) wf_X9_41 hO rfl ?_
              refine xk_aload_n dX9_fits_126 rfl ?_
              refine xk_get (ci := 8) (r := (RX9, TX9, 25)) 9 dX9_fits_127 rfl inX9 (by decide) wf_X9_31 hO rfl ?_
              refine xk_iload dX9_fits_130 rfl ?_
              refine xk_iald dX9_fits_132 (hF.C hA).2.2.2.2.2.2.2 q1 ?_
              try rw [q3]
              refine xk_zald dX9_fits_133 g11 vj ?_
              rw [qj]
              refine xk_icmp_ne 140 dX9_fits_134 (by decide) (fun c134 => ?_) (fun c134 => ?_)
              · rcases xb_xor c134 with ⟨fi, fj⟩ | ⟨fi, fj⟩
                · have np := hN (pu n k) (by omega) fi
                  have bp := hW.le hn (show (pu n k) < n by omega) fi
                  have hsk := hsub k hk
                  have m1 : a (pu n k) * T.2.1 k ≤ 59049 * 9 := Nat.mul_le_mul bp.1.2 (by omega)
                  have m2 : b (pu n k) * T.1 k ≤ 59049 * 9 := Nat.mul_le_mul bp.2.2 (by omega)
                  have m3 : 0 < a (pu n k) * T.2.1 k := Nat.mul_pos bp.1.1 (by omega)
                  have hg1 : 0 < (Nat.gcd (a (pu n k) * T.2.1 k) (b (pu n k) * T.1 k)) := Nat.gcd_pos_of_pos_left _ m3
                  have hg2 : (Nat.gcd (a (pu n k) * T.2.1 k) (b (pu n k) * T.1 k)) ≤ a (pu n k) * T.2.1 k := Nat.gcd_le_left _ m3
                  have hWn := ftW_s (x := T.2.1 k) (y := T.1 k) hW (show (pu n k) < n by omega) (show (pl n k) < n by omega) fi fj (by omega) (by omega) (by omega) (by omega) (fun φ hφ => by have := hφ.2 k hk; exact this)
                  have hSn := ftS_s hS hO0.2.1 hk (Or.inl ⟨rfl, rfl⟩) (show (pu n k) < n by omega) fi fj
                  have hNn := ftN_s (q := (pl n k)) (x := a (pu n k) * T.2.1 k / (Nat.gcd (a (pu n k) * T.2.1 k) (b (pu n k) * T.1 k))) (y := b (pu n k) * T.1 k / (Nat.gcd (a (pu n k) * T.2.1 k) (b (pu n k) * T.1 k))) hN
                  have hQn := ftQ_s hQ (show (pl n k) < n by omega) fj
                  refine xk_aload_n dX9_fits_140 rfl ?_
                  refine xk_get (ci := 8) (r := (RX9, TX9, 25)) 12 dX9_fits_141 rfl inX9 (by decide) wf_X9_41 hO rfl ?_
                  refine xk_aload_n dX9_fits_144 rfl ?_
                  refine xk_get (ci := 8) (r := (RX9, TX9, 25)) 8 dX9_fits_145 rfl inX9 (by decide) wf_X9_28 hO rfl ?_
                  refine xk_iload dX9_fits_148 rfl ?_
                  refine xk_iald dX9_fits_150 (hF.C hA).2.2.2.2.2.2.1 q1 ?_
                  try rw [q3]
                  refine xk_zald dX9_fits_151 g11 vi ?_
                  try rw [qi]
                  rw [fi]
                  refine xk_istore dX9_fits_152 (by decide) ?_
                  dsimp only [xk_s1, xk_s2, xk_kill]
                  refine xk_iload dX9_fits_154 rfl ?_
                  refine xk_ifb_eq 169 dX9_fits_156 (by decide) (fun c156 => ?_) (fun c156 => ?_)
                  · exact absurd (show true = false from c156) (by decide)
                  · refine xk_aload_n dX9_fits_159 rfl ?_
                    refine xk_get (ci := 8) (r := (RX9, TX9, 25)) 9 dX9_fits_160 rfl inX9 (by decide) wf_X9_31 hO rfl ?_
                    refine xk_iload dX9_fits_163 rfl ?_
                    refine xk_iald dX9_fits_165 (hF.C hA).2.2.2.2.2.2.2 q1 ?_
                    try rw [q3]
                    refine xk_goto 176 dX9_fits_166 (by decide) ?_
                    refine xk_istore dX9_fits_176 (by decide) ?_
                    dsimp only [xk_s1, xk_s2, xk_kill]
                    refine xk_iload dX9_fits_178 rfl ?_
                    refine xk_ifb_eq 193 dX9_fits_180 (by decide) (fun c180 => ?_) (fun c180 => ?_)
                    · exact absurd (show true = false from c180) (by decide)
                    · refine xk_aload_n dX9_fits_183 rfl ?_
                      refine xk_get (ci := 8) (r := (RX9, TX9, 25)) 8 dX9_fits_184 rfl inX9 (by decide) wf_X9_28 hO rfl ?_
                      refine xk_iload dX9_fits_187 rfl ?_
                      refine xk_iald dX9_fits_189 (hF.C hA).2.2.2.2.2.2.1 q1 ?_
                      try rw [q3]
                      refine xk_goto 200 dX9_fits_190 (by decide) ?_
                      refine xk_istore dX9_fits_200 (by decide) ?_
                      dsimp only [xk_s1, xk_s2, xk_kill]
                      refine xk_aload_n dX9_fits_202 rfl ?_
                      refine xk_get (ci := 8) (r := (RX9, TX9, 25)) 10 dX9_fits_203 rfl inX9 (by decide) wf_X9_34 hO rfl ?_
                      refine xk_iload dX9_fits_206 rfl ?_
                      refine xk_lald dX9_fits_208 g9 vi ?_
                      rw [qi, np.1]
                      refine xk_iload dX9_fits_209 rfl ?_
                      refine xk_ifb_eq 224 dX9_fits_211 (by decide) (fun c211 => ?_) (fun c211 => ?_)
                      · exact absurd (show true = false from c211) (by decide)
                      · refine xk_aload_n dX9_fits_214 rfl ?_
                        refine xk_get (ci := 8) (r := (RX9, TX9, 25)) 3 dX9_fits_215 rfl inX9 (by decide) wf_X9_13 hO rfl ?_
                        refine xk_iload dX9_fits_218 rfl ?_
                        refine xk_iald dX9_fits_220 (hF.C hA).2.1 q1 ?_
                        try rw [q3]
                        refine xk_goto 231 dX9_fits_221 (by decide) ?_
                        refine xk_i2l dX9_fits_231 ?_
                        rw [nI_l (by omega)]
                        refine xk_lmul dX9_fits_232 ?_
                        rw [lN_mul]
                        refine xk_lstore dX9_fits_233 (by decide) ?_
                        dsimp only [xk_s1, xk_s2, xk_kill]
                        refine xk_aload_n dX9_fits_235 rfl ?_
                        refine xk_get (ci := 8) (r := (RX9, TX9, 25)) 11 dX9_fits_236 rfl inX9 (by decide) wf_X9_38 hO rfl ?_
                        refine xk_iload dX9_fits_239 rfl ?_
                        refine xk_lald dX9_fits_241 g10 vi ?_
                        try rw [qi]
                        rw [np.2]
                        refine xk_iload dX9_fits_242 rfl ?_
                        refine xk_ifb_eq 257 dX9_fits_244 (by decide) (fun c244 => ?_) (fun c244 => ?_)
                        · exact absurd (show true = false from c244) (by decide)
                        · refine xk_aload_n dX9_fits_247 rfl ?_
                          refine xk_get (ci := 8) (r := (RX9, TX9, 25)) 2 dX9_fits_248 rfl inX9 (by decide) wf_X9_9 hO rfl ?_
                          refine xk_iload dX9_fits_251 rfl ?_
                          refine xk_iald dX9_fits_253 (hF.C hA).1 q1 ?_
                          try rw [q3]
                          refine xk_goto 264 dX9_fits_254 (by decide) ?_
                          refine xk_i2l dX9_fits_264 ?_
                          rw [nI_l (by omega)]
                          refine xk_lmul dX9_fits_265 ?_
                          rw [lN_mul]
                          refine xk_lstore dX9_fits_266 (by decide) ?_
                          dsimp only [xk_s1, xk_s2, xk_kill]
                          refine xk_lload dX9_fits_268 rfl ?_
                          refine xk_lload dX9_fits_270 rfl ?_
                          refine xk_s2c (M' := mX9_divisor) (d' := d) dX9_fits_272 wm_X9_81 cv_X9_divisor wt_X9_divisor (by omega) (Nat.le_refl _) (Nat.le_refl _) (Nat.le_of_ble_eq_true rfl) (y_X9_divisor d (by omega) (by omega)) rfl ?_
                          refine xk_lstore dX9_fits_275 (by decide) ?_
                          dsimp only [xk_s1, xk_s2, xk_kill]
                          refine xk_aload_n dX9_fits_277 rfl ?_
                          refine xk_get (ci := 8) (r := (RX9, TX9, 25)) 10 dX9_fits_278 rfl inX9 (by decide) wf_X9_34 hO rfl ?_
                          refine xk_iload dX9_fits_281 rfl ?_
                          refine xk_lload dX9_fits_283 rfl ?_
                          refine xk_lload dX9_fits_285 rfl ?_
                          refine xk_ldiv dX9_fits_287 (fun z => absurd ((pk_lEQ (b := 0) (by omega) (by decide)).mp z) (by omega)) ?_
                          rw [pk_lDiv (by omega) hg1 (by omega)]
                          refine xk_last dX9_fits_288 g9 vj ?_
                          rw [qj]
                          change xk_X _ _ _ _ _ _ _ _ _ _ _ (h.set (m + 9) (lrow (vp_updL A (pl n k) (lN (a (pu n k) * T.2.1 k / (Nat.gcd (a (pu n k) * T.2.1 k) (b (pu n k) * T.1 k)))))))
                          have hF := hF.a (vp_updL A (pl n k) (lN (a (pu n k) * T.2.1 k / (Nat.gcd (a (pu n k) * T.2.1 k) (b (pu n k) * T.1 k)))))
                          generalize h.set (m + 9) (lrow (vp_updL A (pl n k) (lN (a (pu n k) * T.2.1 k / (Nat.gcd (a (pu n k) * T.2.1 k) (b (pu n k) * T.1 k)))))) = h at hF ⊢
                          obtain ⟨⟨sx, hO⟩, g9, g10, g11, gx⟩ := id hF
                          refine xk_aload_n dX9_fits_289 rfl ?_
                          refine xk_get (ci := 8) (r := (RX9, TX9, 25)) 11 dX9_fits_290 rfl inX9 (by decide) wf_X9_38 hO rfl ?_
                          refine xk_iload dX9_fits_293 rfl ?_
                          refine xk_lload dX9_fits_295 rfl ?_
                          refine xk_lload dX9_fits_297 rfl ?_
                          refine xk_ldiv dX9_fits_299 (fun z => absurd ((pk_lEQ (b := 0) (by omega) (by decide)).mp z) (by omega)) ?_
                          rw [pk_lDiv (by omega) hg1 (by omega)]
                          refine xk_last dX9_fits_300 g10 vj ?_
                          try rw [qj]
                          change xk_X _ _ _ _ _ _ _ _ _ _ _ (h.set (m + 10) (lrow (vp_updL B (pl n k) (lN (b (pu n k) * T.1 k / (Nat.gcd (a (pu n k) * T.2.1 k) (b (pu n k) * T.1 k)))))))
                          have hF := hF.b (vp_updL B (pl n k) (lN (b (pu n k) * T.1 k / (Nat.gcd (a (pu n k) * T.2.1 k) (b (pu n k) * T.1 k)))))
                          generalize h.set (m + 10) (lrow (vp_updL B (pl n k) (lN (b (pu n k) * T.1 k / (Nat.gcd (a (pu n k) * T.2.1 k) (b (pu n k) * T.1 k)))))) = h at hF ⊢
                          obtain ⟨⟨sx, hO⟩, g9, g10, g11, gx⟩ := id hF
                          refine xk_aload_n dX9_fits_301 rfl ?_
                          refine xk_get (ci := 8) (r := (RX9, TX9, 25)) 12 dX9_fits_302 rfl inX9 (by decide) wf_X9_41 hO rfl ?_
                          refine xk_iload dX9_fits_305 rfl ?_
                          refine xk_iconst (1) dX9_fits_307 (by decide) ?_
                          refine xk_zast dX9_fits_308 g11 vj ?_
                          try rw [qj]
                          rw [zrow_set (x := 1) f (pl n k) true rfl]
                          have hF := hF.z (setB f (pl n k) true)
                          generalize h.set (m + 11) (zrow (setB f (pl n k) true)) = h at hF ⊢
                          obtain ⟨⟨sx, hO⟩, g9, g10, g11, gx⟩ := id hF
                          refine xk_iconst (1) dX9_fits_309 (by decide) ?_
                          refine xk_istore_n dX9_fits_310 (by decide) ?_
                          dsimp only [xk_s1, xk_s2, xk_kill]
                          refine xk_iinc (nI (k + 1)) dX9_fits_311 rfl (nI_1 k) (by decide) ?_
                          dsimp only [xk_s1, xk_s2, xk_kill]
                          refine xk_goto 92 dX9_fits_314 (by decide) ?_
                          exact xk_sub (ih (k + 1) true (setB f (pl n k) true) _ _ _ _ _ h (by omega) hF hNn hWn hSn hQn) ⟨rfl, rfl, rfl, rfl, rfl, trivial⟩
                · have np := hN (pl n k) (by omega) fj
                  have bp := hW.le hn (show (pl n k) < n by omega) fj
                  have hsk := hsub k hk
                  have m1 : a (pl n k) * T.1 k ≤ 59049 * 9 := Nat.mul_le_mul bp.1.2 (by omega)
                  have m2 : b (pl n k) * T.2.1 k ≤ 59049 * 9 := Nat.mul_le_mul bp.2.2 (by omega)
                  have m3 : 0 < a (pl n k) * T.1 k := Nat.mul_pos bp.1.1 (by omega)
                  have hg1 : 0 < (Nat.gcd (a (pl n k) * T.1 k) (b (pl n k) * T.2.1 k)) := Nat.gcd_pos_of_pos_left _ m3
                  have hg2 : (Nat.gcd (a (pl n k) * T.1 k) (b (pl n k) * T.2.1 k)) ≤ a (pl n k) * T.1 k := Nat.gcd_le_left _ m3
                  have hWn := ftW_s (x := T.1 k) (y := T.2.1 k) hW (show (pl n k) < n by omega) (show (pu n k) < n by omega) fj fi (by omega) (by omega) (by omega) (by omega) (fun φ hφ => by have := hφ.2 k hk; rw [Nat.mul_comm (φ (pl n k)).1, Nat.mul_comm (φ (pl n k)).2]; exact this.symm)
                  have hSn := ftS_s hS hO0.2.1 hk (Or.inr ⟨rfl, rfl⟩) (show (pl n k) < n by omega) fj fi
                  have hNn := ftN_s (q := (pu n k)) (x := a (pl n k) * T.1 k / (Nat.gcd (a (pl n k) * T.1 k) (b (pl n k) * T.2.1 k))) (y := b (pl n k) * T.2.1 k / (Nat.gcd (a (pl n k) * T.1 k) (b (pl n k) * T.2.1 k))) hN
                  have hQn := ftQ_s hQ (show (pu n k) < n by omega) fi
                  refine xk_aload_n dX9_fits_140 rfl ?_
                  refine xk_get (ci := 8) (r := (RX9, TX9, 25)) 12 dX9_fits_141 rfl inX9 (by decide) wf_X9_41 hO rfl ?_
                  refine xk_aload_n dX9_fits_144 rfl ?_
                  refine xk_get (ci := 8) (r := (RX9, TX9, 25)) 8 dX9_fits_145 rfl inX9 (by decide) wf_X9_28 hO rfl ?_
                  refine xk_iload dX9_fits_148 rfl ?_
                  refine xk_iald dX9_fits_150 (hF.C hA).2.2.2.2.2.2.1 q1 ?_
                  try rw [q3]
                  refine xk_zald dX9_fits_151 g11 vi ?_
                  try rw [qi]
                  rw [fi]
                  refine xk_istore dX9_fits_152 (by decide) ?_
                  dsimp only [xk_s1, xk_s2, xk_kill]
                  refine xk_iload dX9_fits_154 rfl ?_
                  refine xk_ifb_eq 169 dX9_fits_156 (by decide) (fun c156 => ?_) (fun c156 => ?_)
                  · refine xk_aload_n dX9_fits_169 rfl ?_
                    refine xk_get (ci := 8) (r := (RX9, TX9, 25)) 8 dX9_fits_170 rfl inX9 (by decide) wf_X9_28 hO rfl ?_
                    refine xk_iload dX9_fits_173 rfl ?_
                    refine xk_iald dX9_fits_175 (hF.C hA).2.2.2.2.2.2.1 q1 ?_
                    try rw [q3]
                    refine xk_istore dX9_fits_176 (by decide) ?_
                    dsimp only [xk_s1, xk_s2, xk_kill]
                    refine xk_iload dX9_fits_178 rfl ?_
                    refine xk_ifb_eq 193 dX9_fits_180 (by decide) (fun c180 => ?_) (fun c180 => ?_)
                    · refine xk_aload_n dX9_fits_193 rfl ?_
                      refine xk_get (ci := 8) (r := (RX9, TX9, 25)) 9 dX9_fits_194 rfl inX9 (by decide) wf_X9_31 hO rfl ?_
                      refine xk_iload dX9_fits_197 rfl ?_
                      refine xk_iald dX9_fits_199 (hF.C hA).2.2.2.2.2.2.2 q1 ?_
                      try rw [q3]
                      refine xk_istore dX9_fits_200 (by decide) ?_
                      dsimp only [xk_s1, xk_s2, xk_kill]
                      refine xk_aload_n dX9_fits_202 rfl ?_
                      refine xk_get (ci := 8) (r := (RX9, TX9, 25)) 10 dX9_fits_203 rfl inX9 (by decide) wf_X9_34 hO rfl ?_
                      refine xk_iload dX9_fits_206 rfl ?_
                      refine xk_lald dX9_fits_208 g9 vj ?_
                      rw [qj, np.1]
                      refine xk_iload dX9_fits_209 rfl ?_
                      refine xk_ifb_eq 224 dX9_fits_211 (by decide) (fun c211 => ?_) (fun c211 => ?_)
                      · refine xk_aload_n dX9_fits_224 rfl ?_
                        refine xk_get (ci := 8) (r := (RX9, TX9, 25)) 2 dX9_fits_225 rfl inX9 (by decide) wf_X9_9 hO rfl ?_
                        refine xk_iload dX9_fits_228 rfl ?_
                        refine xk_iald dX9_fits_230 (hF.C hA).1 q1 ?_
                        try rw [q3]
                        refine xk_i2l dX9_fits_231 ?_
                        rw [nI_l (by omega)]
                        refine xk_lmul dX9_fits_232 ?_
                        rw [lN_mul]
                        refine xk_lstore dX9_fits_233 (by decide) ?_
                        dsimp only [xk_s1, xk_s2, xk_kill]
                        refine xk_aload_n dX9_fits_235 rfl ?_
                        refine xk_get (ci := 8) (r := (RX9, TX9, 25)) 11 dX9_fits_236 rfl inX9 (by decide) wf_X9_38 hO rfl ?_
                        refine xk_iload dX9_fits_239 rfl ?_
                        refine xk_lald dX9_fits_241 g10 vj ?_
                        try rw [qj]
                        rw [np.2]
                        refine xk_iload dX9_fits_242 rfl ?_
                        refine xk_ifb_eq 257 dX9_fits_244 (by decide) (fun c244 => ?_) (fun c244 => ?_)
                        · refine xk_aload_n dX9_fits_257 rfl ?_
                          refine xk_get (ci := 8) (r := (RX9, TX9, 25)) 3 dX9_fits_258 rfl inX9 (by decide) wf_X9_13 hO rfl ?_
                          refine xk_iload dX9_fits_261 rfl ?_
                          refine xk_iald dX9_fits_263 (hF.C hA).2.1 q1 ?_
                          try rw [q3]
                          refine xk_i2l dX9_fits_264 ?_
                          rw [nI_l (by omega)]
                          refine xk_lmul dX9_fits_265 ?_
                          rw [lN_mul]
                          refine xk_lstore dX9_fits_266 (by decide) ?_
                          dsimp only [xk_s1, xk_s2, xk_kill]
                          refine xk_lload dX9_fits_268 rfl ?_
                          refine xk_lload dX9_fits_270 rfl ?_
                          refine xk_s2c (M' := mX9_divisor) (d' := d) dX9_fits_272 wm_X9_81 cv_X9_divisor wt_X9_divisor (by omega) (Nat.le_refl _) (Nat.le_refl _) (Nat.le_of_ble_eq_true rfl) (y_X9_divisor d (by omega) (by omega)) rfl ?_
                          refine xk_lstore dX9_fits_275 (by decide) ?_
                          dsimp only [xk_s1, xk_s2, xk_kill]
                          refine xk_aload_n dX9_fits_277 rfl ?_
                          refine xk_get (ci := 8) (r := (RX9, TX9, 25)) 10 dX9_fits_278 rfl inX9 (by decide) wf_X9_34 hO rfl ?_
                          refine xk_iload dX9_fits_281 rfl ?_
                          refine xk_lload dX9_fits_283 rfl ?_
                          refine xk_lload dX9_fits_285 rfl ?_
                          refine xk_ldiv dX9_fits_287 (fun z => absurd ((pk_lEQ (b := 0) (by omega) (by decide)).mp z) (by omega)) ?_
                          rw [pk_lDiv (by omega) hg1 (by omega)]
                          refine xk_last dX9_fits_288 g9 vi ?_
                          rw [qi]
                          change xk_X _ _ _ _ _ _ _ _ _ _ _ (h.set (m + 9) (lrow (vp_updL A (pu n k) (lN (a (pl n k) * T.1 k / (Nat.gcd (a (pl n k) * T.1 k) (b (pl n k) * T.2.1 k)))))))
                          have hF := hF.a (vp_updL A (pu n k) (lN (a (pl n k) * T.1 k / (Nat.gcd (a (pl n k) * T.1 k) (b (pl n k) * T.2.1 k)))))
                          generalize h.set (m + 9) (lrow (vp_updL A (pu n k) (lN (a (pl n k) * T.1 k / (Nat.gcd (a (pl n k) * T.1 k) (b (pl n k) * T.2.1 k)))))) = h at hF ⊢
                          obtain ⟨⟨sx, hO⟩, g9, g10, g11, gx⟩ := id hF
                          refine xk_aload_n dX9_fits_289 rfl ?_
                          refine xk_get (ci := 8) (r := (RX9, TX9, 25)) 11 dX9_fits_290 rfl inX9 (by decide) wf_X9_38 hO rfl ?_
                          refine xk_iload dX9_fits_293 rfl ?_
                          refine xk_lload dX9_fits_295 rfl ?_
                          refine xk_lload dX9_fits_297 rfl ?_
                          refine xk_ldiv dX9_fits_299 (fun z => absurd ((pk_lEQ (b := 0) (by omega) (by decide)).mp z) (by omega)) ?_
                          rw [pk_lDiv (by omega) hg1 (by omega)]
                          refine xk_last dX9_fits_300 g10 vi ?_
                          try rw [qi]
                          change xk_X _ _ _ _ _ _ _ _ _ _ _ (h.set (m + 10) (lrow (vp_updL B (pu n k) (lN (b (pl n k) * T.2.1 k / (Nat.gcd (a (pl n k) * T.1 k) (b (pl n k) * T.2.1 k)))))))
                          have hF := hF.b (vp_updL B (pu n k) (lN (b (pl n k) * T.2.1 k / (Nat.gcd (a (pl n k) * T.1 k) (b (pl n k) * T.2.1 k)))))
                          generalize h.set (m + 10) (lrow (vp_updL B (pu n k) (lN (b (pl n k) * T.2.1 k / (Nat.gcd (a (pl n k) * T.1 k) (b (pl n k) * T.2.1 k)))))) = h at hF ⊢
                          obtain ⟨⟨sx, hO⟩, g9, g10, g11, gx⟩ := id hF
                          refine xk_aload_n dX9_fits_301 rfl ?_
                          refine xk_get (ci := 8) (r := (RX9, TX9, 25)) 12 dX9_fits_302 rfl inX9 (by decide) wf_X9_41 hO rfl ?_
                          refine xk_iload dX9_fits_305 rfl ?_
                          refine xk_iconst (1) dX9_fits_307 (by decide) ?_
                          refine xk_zast dX9_fits_308 g11 vi ?_
                          try rw [qi]
                          rw [zrow_set (x := 1) f (pu n k) true rfl]
                          have hF := hF.z (setB f (pu n k) true)
                          generalize h.set (m + 11) (zrow (setB f (pu n k) true)) = h at hF ⊢
                          obtain ⟨⟨sx, hO⟩, g9, g10, g11, gx⟩ := id hF
                          refine xk_iconst (1) dX9_fits_309 (by decide) ?_
                          refine xk_istore_n dX9_fits_310 (by decide) ?_
                          dsimp only [xk_s1, xk_s2, xk_kill]
                          refine xk_iinc (nI (k + 1)) dX9_fits_311 rfl (nI_1 k) (by decide) ?_
                          dsimp only [xk_s1, xk_s2, xk_kill]
                          refine xk_goto 92 dX9_fits_314 (by decide) ?_
                          exact xk_sub (ih (k + 1) true (setB f (pu n k) true) _ _ _ _ _ h (by omega) hF hNn hWn hSn hQn) ⟨rfl, rfl, rfl, rfl, rfl, trivial⟩
                        · exact absurd (show false = true from c244) (by decide)
                      · exact absurd (show false = true from c211) (by decide)
                    · exact absurd (show false = true from c180) (by decide)
                  · exact absurd (show false = true from c156) (by decide)
              · have hX : hIn n hp k → f (pu n k) = f (pl n k) := fun _ => xb_inj c134
                refine xk_goto 311 dX9_fits_137 (by decide) ?_
                refine xk_iinc (nI (k + 1)) dX9_fits_311 rfl (nI_1 k) (by decide) ?_
                dsimp only [xk_s1, xk_s2, xk_kill]
                refine xk_goto 92 dX9_fits_314 (by decide) ?_
                exact xk_sub (ih (k + 1) mo f A B a b ρ h (by omega) hF hN hW hS (ftQ_k hQ hX)) ⟨rfl, rfl, rfl, rfl, rfl, trivial⟩
      intro f A B a b ρ h hu hF hN hW hS
      obtain ⟨⟨sx, hO⟩, g9, g10, g11, gx⟩ := id hF
      subst hu
      refine xk_iload_n dX9_fits_83 rfl ?_
      refine xk_if_eq 320 dX9_fits_84 (by decide) (fun c84 => ?_) (fun c84 => ?_)
      · exact absurd c84 (by decide)
      · refine xk_iconst (0) dX9_fits_87 (by decide) ?_
        refine xk_istore_n dX9_fits_88 (by decide) ?_
        dsimp only [xk_s1, xk_s2, xk_kill]
        refine xk_iconst (0) dX9_fits_89 (by decide) ?_
        refine xk_istore dX9_fits_90 (by decide) ?_
        dsimp only [xk_s1, xk_s2, xk_kill]
        exact xk_sub (l92 (n * (n - 1) / 2) 0 false f A B a b ρ h (by omega) hF hN hW hS ftQ_0) ⟨rfl, rfl, rfl, rfl, rfl, trivial⟩
  have l30 : ∀ (r s0 c : Nat) (f : Nat → Bool) (A B : Nat → Int64) (a b ρ : Nat → Nat) (h : xk_H), s0 + r = n → ftA hs h m n (nI c) f A B → ftN n f A B a b → ftW n T hp f a b ρ → ftO n hp s0 c f ρ → xk_X (d + 1) 0 0 mX9_fits (xk_fx false hs) (fun r' h' => r' = some (.int (xk_b (fitB n T hp))) ∧ (∃ (s' : mdX) (c : Nat), h'[m]? = some (mdO n m s') ∧ s'.1 = nI c ∧ c ≤ 6 ∧ (c = 1 ↔ hConn n hp)) ∧ mdA h' m n T ∧ xfr (mdR m) hs h') 0 0 30 [some (.ref m), some (.int (nI hp)), some (.int (nI s0)), none, none, none, none, none, none, none, none, none, none, none] [] h := by
    intro r
    induction r with
    | zero =>
      intro s0 c f A B a b ρ h h1 hF hN hW hO2
      obtain rfl : n = s0 := by omega
      obtain ⟨⟨sx, hO⟩, g9, g10, g11, gx⟩ := id hF
      refine xk_iload_n dX9_fits_30 rfl ?_
      refine xk_aload_n dX9_fits_31 rfl ?_
      refine xk_get (ci := 8) (r := (RX9, TX9, 25)) 0 dX9_fits_32 rfl inX9 (by decide) wf_X9_66 hO rfl ?_
      refine xk_icmp_ge 326 dX9_fits_35 (by decide) (fun c35 => ?_) (fun c35 => ?_)
      · refine xk_iconst (0) dX9_fits_326 (by decide) ?_
        refine xk_istore_n dX9_fits_327 (by decide) ?_
        dsimp only [xk_s1, xk_s2, xk_kill]
        exact xk_sub (l328 (n * (n - 1) / 2) 0 c f A B a b ρ h (by omega) hF hN hW hO2 (fun j hj => by omega)) ⟨rfl, rfl, rfl, trivial⟩
      · exact absurd (nI_le (Nat.le_refl _) (by omega)) c35
    | succ r ih =>
      intro s0 c f A B a b ρ h h1 hF hN hW hO2
      obtain ⟨⟨sx, hO⟩, g9, g10, g11, gx⟩ := id hF
      have q3 : (nI s0).toNatClampNeg = s0 := nI_clamp (by omega)
      have q1 : vp_in (nI s0) 6 := vp_in_nI (by omega) (by omega)
      refine xk_iload_n dX9_fits_30 rfl ?_
      refine xk_aload_n dX9_fits_31 rfl ?_
      refine xk_get (ci := 8) (r := (RX9, TX9, 25)) 0 dX9_fits_32 rfl inX9 (by decide) wf_X9_66 hO rfl ?_
      refine xk_icmp_ge 326 dX9_fits_35 (by decide) (fun c35 => ?_) (fun c35 => ?_)
      · exact absurd c35 (nI_ge (by omega) (by omega))
      · refine xk_aload_n dX9_fits_38 rfl ?_
        refine xk_get (ci := 8) (r := (RX9, TX9, 25)) 12 dX9_fits_39 rfl inX9 (by decide) wf_X9_41 hO rfl ?_
        refine xk_iload_n dX9_fits_42 rfl ?_
        refine xk_zald dX9_fits_43 g11 q1 ?_
        rw [q3]
        refine xk_ifb_eq 50 dX9_fits_44 (by decide) (fun c44 => ?_) (fun c44 => ?_)
        · refine xk_aload_n dX9_fits_50 rfl ?_
          refine xk_dup dX9_fits_51 rfl ?_
          refine xk_get (ci := 8) (r := (RX9, TX9, 25)) 13 dX9_fits_52 rfl inX9 (by decide) wf_X9_97 hO rfl ?_
          refine xk_iconst (1) dX9_fits_55 (by decide) ?_
          refine xk_iadd dX9_fits_56 ?_
          rw [nI_1]
          refine xk_put (ci := 8) (r := (RX9, TX9, 25)) 13 tyX9 dX9_fits_57 rfl inX9 tyX9_ok nmX9 (by decide) wf_X9_97 rfl (fun _ => rfl) (fun _ => rfl) hO (Nat.le_of_ble_eq_true rfl) ?_
          dsimp only [List.set]
          change xk_X _ _ _ _ _ _ _ _ _ _ _ (h.set m (mdO n m (nI (c + 1), sx.2)))
          have hF := hF.o (nI (c + 1)) sx
          generalize h.set m (mdO n m (nI (c + 1), sx.2)) = h at hF ⊢
          obtain ⟨⟨sx, hO⟩, g9, g10, g11, gx⟩ := id hF
          refine xk_aload_n dX9_fits_60 rfl ?_
          refine xk_get (ci := 8) (r := (RX9, TX9, 25)) 12 dX9_fits_61 rfl inX9 (by decide) wf_X9_41 hO rfl ?_
          refine xk_iload_n dX9_fits_64 rfl ?_
          refine xk_iconst (1) dX9_fits_65 (by decide) ?_
          refine xk_zast dX9_fits_66 g11 q1 ?_
          try rw [q3]
          rw [zrow_set (x := 1) f s0 true rfl]
          have hF := hF.z (setB f s0 true)
          generalize h.set (m + 11) (zrow (setB f s0 true)) = h at hF ⊢
          obtain ⟨⟨sx, hO⟩, g9, g10, g11, gx⟩ := id hF
          refine xk_aload_n dX9_fits_67 rfl ?_
          refine xk_get (ci := 8) (r := (RX9, TX9, 25)) 10 dX9_fits_68 rfl inX9 (by decide) wf_X9_34 hO rfl ?_
          refine xk_iload_n dX9_fits_71 rfl ?_
          refine xk_lconst (1) dX9_fits_72 (by decide) ?_
          rw [show (1 : Int64) = lN 1 from rfl]
          refine xk_last dX9_fits_73 g9 q1 ?_
          try rw [q3]
          change xk_X _ _ _ _ _ _ _ _ _ _ _ (h.set (m + 9) (lrow (vp_updL A s0 (lN 1))))
          have hF := hF.a (vp_updL A s0 (lN 1))
          generalize h.set (m + 9) (lrow (vp_updL A s0 (lN 1))) = h at hF ⊢
          obtain ⟨⟨sx, hO⟩, g9, g10, g11, gx⟩ := id hF
          refine xk_aload_n dX9_fits_74 rfl ?_
          refine xk_get (ci := 8) (r := (RX9, TX9, 25)) 11 dX9_fits_75 rfl inX9 (by decide) wf_X9_38 hO rfl ?_
          refine xk_iload_n dX9_fits_78 rfl ?_
          refine xk_lconst (1) dX9_fits_79 (by decide) ?_
          rw [show (1 : Int64) = lN 1 from rfl]
          refine xk_last dX9_fits_80 g10 q1 ?_
          try rw [q3]
          change xk_X _ _ _ _ _ _ _ _ _ _ _ (h.set (m + 10) (lrow (vp_updL B s0 (lN 1))))
          have hF := hF.b (vp_updL B s0 (lN 1))
          generalize h.set (m + 10) (lrow (vp_updL B s0 (lN 1))) = h at hF ⊢
          obtain ⟨⟨sx, hO⟩, g9, g10, g11, gx⟩ := id hF
          refine xk_iconst (1) dX9_fits_81 (by decide) ?_
          refine xk_istore_n dX9_fits_82 (by decide) ?_
          dsimp only [xk_s1, xk_s2, xk_kill]
          refine xk_sub (l83 s0 c f ρ (by omega) hO2 c44 (fun f A B a b ρ h hF hN hW hO2 => ?_) (unr (setB f s0 true) n) (setB f s0 true) _ _ _ _ _ h rfl hF (ftN_s hN) (ftW_n hW (by omega) c44) (ftS_n hO2 (by omega) h2 c44)) ⟨rfl, rfl, rfl, rfl, trivial⟩
          refine xk_iinc (nI (s0 + 1)) dX9_fits_320 rfl (nI_1 s0) (by decide) ?_
          dsimp only [xk_s1, xk_s2, xk_kill]
          refine xk_goto 30 dX9_fits_323 (by decide) ?_
          exact xk_sub (ih (s0 + 1) (c + 1) f A B a b ρ h (by omega) hF hN hW hO2) ⟨rfl, rfl, rfl, trivial⟩
        · refine xk_goto 320 dX9_fits_47 (by decide) ?_
          refine xk_iinc (nI (s0 + 1)) dX9_fits_320 rfl (nI_1 s0) (by decide) ?_
          dsimp only [xk_s1, xk_s2, xk_kill]
          refine xk_goto 30 dX9_fits_323 (by decide) ?_
          exact xk_sub (ih (s0 + 1) c f A B a b ρ h (by omega) hF hN hW (ftO_k2 hO2 (by omega) c44)) ⟨rfl, rfl, rfl, trivial⟩
  have l2 : ∀ (r i : Nat) (c : Int32) (f : Nat → Bool) (A B : Nat → Int64) (h : xk_H), i + r = n → ftA hs h m n c f A B → (∀ v, v < i → f v = false) → xk_X (d + 1) 0 0 mX9_fits (xk_fx false hs) (fun r' h' => r' = some (.int (xk_b (fitB n T hp))) ∧ (∃ (s' : mdX) (c : Nat), h'[m]? = some (mdO n m s') ∧ s'.1 = nI c ∧ c ≤ 6 ∧ (c = 1 ↔ hConn n hp)) ∧ mdA h' m n T ∧ xfr (mdR m) hs h') 0 0 2 [some (.ref m), some (.int (nI hp)), some (.int (nI i)), none, none, none, none, none, none, none, none, none, none, none] [] h := by
    intro r
    induction r with
    | zero =>
      intro i c f A B h h1 hF hf
      obtain rfl : n = i := by omega
      obtain ⟨⟨sx, hO⟩, g9, g10, g11, gx⟩ := id hF
      refine xk_iload_n dX9_fits_2 rfl ?_
      refine xk_aload_n dX9_fits_3 rfl ?_
      refine xk_get (ci := 8) (r := (RX9, TX9, 25)) 0 dX9_fits_4 rfl inX9 (by decide) wf_X9_66 hO rfl ?_
      refine xk_icmp_ge 23 dX9_fits_7 (by decide) (fun c7 => ?_) (fun c7 => ?_)
      · refine xk_aload_n dX9_fits_23 rfl ?_
        refine xk_iconst (0) dX9_fits_24 (by decide) ?_
        rw [show (0 : Int32) = nI 0 from rfl]
        refine xk_put (ci := 8) (r := (RX9, TX9, 25)) 13 tyX9 dX9_fits_25 rfl inX9 tyX9_ok nmX9 (by decide) wf_X9_97 rfl (fun _ => rfl) (fun _ => rfl) hO (Nat.le_of_ble_eq_true rfl) ?_
        dsimp only [List.set]
        change xk_X _ _ _ _ _ _ _ _ _ _ _ (h.set m (mdO n m (nI 0, sx.2)))
        have hF := hF.o (nI 0) sx
        generalize h.set m (mdO n m (nI 0, sx.2)) = h at hF ⊢
        obtain ⟨⟨sx, hO⟩, g9, g10, g11, gx⟩ := id hF
        refine xk_iconst (0) dX9_fits_28 (by decide) ?_
        refine xk_istore_n dX9_fits_29 (by decide) ?_
        dsimp only [xk_s1, xk_s2, xk_kill]
        exact xk_sub (l30 n 0 0 f A B (fun _ => 0) (fun _ => 0) (fun _ => 0) h (by omega) hF (fun v hv z => by rw [hf v hv] at z; exact absurd z (by decide)) (ftW_ini hf) (ftO_ini (by omega) h2 hf)) ⟨rfl, rfl, rfl, trivial⟩
      · exact absurd (nI_le (Nat.le_refl _) (by omega)) c7
    | succ r ih =>
      intro i c f A B h h1 hF hf
      obtain ⟨⟨sx, hO⟩, g9, g10, g11, gx⟩ := id hF
      have q3 : (nI i).toNatClampNeg = i := nI_clamp (by omega)
      have q1 : vp_in (nI i) 6 := vp_in_nI (by omega) (by omega)
      refine xk_iload_n dX9_fits_2 rfl ?_
      refine xk_aload_n dX9_fits_3 rfl ?_
      refine xk_get (ci := 8) (r := (RX9, TX9, 25)) 0 dX9_fits_4 rfl inX9 (by decide) wf_X9_66 hO rfl ?_
      refine xk_icmp_ge 23 dX9_fits_7 (by decide) (fun c7 => ?_) (fun c7 => ?_)
      · exact absurd c7 (nI_ge (by omega) (by omega))
      · refine xk_aload_n dX9_fits_10 rfl ?_
        refine xk_get (ci := 8) (r := (RX9, TX9, 25)) 12 dX9_fits_11 rfl inX9 (by decide) wf_X9_41 hO rfl ?_
        refine xk_iload_n dX9_fits_14 rfl ?_
        refine xk_iconst (0) dX9_fits_15 (by decide) ?_
        refine xk_zast dX9_fits_16 g11 q1 ?_
        rw [q3]
        rw [zrow_set (x := 0) f i false rfl]
        have hF := hF.z (setB f i false)
        generalize h.set (m + 11) (zrow (setB f i false)) = h at hF ⊢
        obtain ⟨⟨sx, hO⟩, g9, g10, g11, gx⟩ := id hF
        refine xk_iinc (nI (i + 1)) dX9_fits_17 rfl (nI_1 i) (by decide) ?_
        dsimp only [xk_s1, xk_s2, xk_kill]
        refine xk_goto 2 dX9_fits_20 (by decide) ?_
        exact xk_sub (ih (i + 1) c _ A B h (by omega) hF (fun v hv => by by_cases e : v = i; (simp [setB, e]); (simp only [setB, e, if_false]; exact hf v (by omega)))) ⟨rfl, rfl, rfl, trivial⟩
  refine xk_Y.ofX (k := 12) (ls := [some (.ref m), some (.int (nI hp)), none, none, none, none, none, none, none, none, none, none, none, none]) (by decide) rfl rfl ?_
  refine xk_iconst (0) dX9_fits_0 (by decide) ?_
  refine xk_istore_n dX9_fits_1 (by decide) ?_
  dsimp only [xk_s1, xk_s2, xk_kill]
  obtain ⟨c, f, A, B, hF⟩ := ftA.ini hA
  exact xk_sub (l2 n 0 c f A B hs (by omega) hF (fun v hv => by omega)) ⟨rfl, rfl, rfl, trivial⟩

