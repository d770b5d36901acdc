/-! PairScales: contracts, first half. Laid by a program of our own. -/
set_option maxHeartbeats 4000000 in
set_option maxRecDepth 100000 in
theorem y_X8_isDigit (d : Nat) {hs : xk_H} {p : Int32} : xk_F d mX8_isDigit [.int p] hs (some (.int (xk_b (dig p)))) hs := by
  refine xk_Y.ofX (k := 0) (ls := [some (.int p)]) (by decide) rfl rfl ?_
  refine xk_iload_n dX8_isDigit_0 rfl ?_
  refine xk_iconst (1) dX8_isDigit_1 (by decide) ?_
  refine xk_icmp_lt 15 dX8_isDigit_2 (by decide) (fun c2 => ?_) (fun c2 => ?_)
  · refine xk_iconst (0) dX8_isDigit_15 (by decide) ?_
    exact xk_zret rfl (by rfl) dX8_isDigit_16 (Nat.le_refl _) (Nat.le_refl _) ⟨by first | (refine xz1 ?_; unfold dig; simp; exact ⟨Int32.not_lt.mp c2, Int32.not_lt.mp c8⟩; done) | (refine xz0 ?_; unfold dig; simp; exact ⟨Int32.not_lt.mp c2, Int32.not_lt.mp c8⟩; done) | (refine xz1 ?_; unfold dig; simp; intro q; exact absurd c2 (Int32.not_lt.mpr q); done) | (refine xz0 ?_; unfold dig; simp; intro q; exact absurd c2 (Int32.not_lt.mpr q); done) | (refine xz1 ?_; unfold dig; simp; intro _; exact c8; done) | (refine xz0 ?_; unfold dig; simp; intro _; exact c8; done), rfl⟩
  · refine xk_iload_n dX8_isDigit_5 rfl ?_
    refine xk_bipush (9) dX8_isDigit_6 (by decide) ?_
    refine xk_icmp_gt 15 dX8_isDigit_8 (by decide) (fun c8 => ?_) (fun c8 => ?_)
    · refine xk_iconst (0) dX8_isDigit_15 (by decide) ?_
      exact xk_zret rfl (by rfl) dX8_isDigit_16 (Nat.le_refl _) (Nat.le_refl _) ⟨by first | (refine xz1 ?_; unfold dig; simp; exact ⟨Int32.not_lt.mp c2, Int32.not_lt.mp c8⟩; done) | (refine xz0 ?_; unfold dig; simp; exact ⟨Int32.not_lt.mp c2, Int32.not_lt.mp c8⟩; done) | (refine xz1 ?_; unfold dig; simp; intro q; exact absurd c2 (Int32.not_lt.mpr q); done) | (refine xz0 ?_; unfold dig; simp; intro q; exact absurd c2 (Int32.not_lt.mpr q); done) | (refine xz1 ?_; unfold dig; simp; intro _; exact c8; done) | (refine xz0 ?_; unfold dig; simp; intro _; exact c8; done), rfl⟩
    · refine xk_iconst (1) dX8_isDigit_11 (by decide) ?_
      refine xk_goto 16 dX8_isDigit_12 (by decide) ?_
      exact xk_zret rfl (by rfl) dX8_isDigit_16 (Nat.le_refl _) (Nat.le_refl _) ⟨by first | (refine xz1 ?_; unfold dig; simp; exact ⟨Int32.not_lt.mp c2, Int32.not_lt.mp c8⟩; done) | (refine xz0 ?_; unfold dig; simp; exact ⟨Int32.not_lt.mp c2, Int32.not_lt.mp c8⟩; done) | (refine xz1 ?_; unfold dig; simp; intro q; exact absurd c2 (Int32.not_lt.mpr q); done) | (refine xz0 ?_; unfold dig; simp; intro q; exact absurd c2 (Int32.not_lt.mpr q); done) | (refine xz1 ?_; unfold dig; simp; intro _; exact c8; done) | (refine xz0 ?_; unfold dig; simp; intro _; exact c8; done), rfl⟩

set_option maxHeartbeats 4000000 in
set_option maxRecDepth 100000 in
theorem y_X8_isPart (d : Nat) {hs : xk_H} {p : Int32} : xk_F d mX8_isPart [.int p] hs (some (.int (xk_b (isPt p)))) hs := by
  refine xk_Y.ofX (k := 0) (ls := [some (.int p)]) (by decide) rfl rfl ?_
  refine xk_iload_n dX8_isPart_0 rfl ?_
  refine xk_if_eq 9 dX8_isPart_1 (by decide) (fun c1 => ?_) (fun c1 => ?_)
  · refine xk_iconst (1) dX8_isPart_9 (by decide) ?_
    refine xk_goto 14 dX8_isPart_10 (by decide) ?_
    exact xk_zret rfl (by rfl) dX8_isPart_14 (Nat.le_refl _) (Nat.le_refl _) ⟨by first | (refine xz1 ?_; unfold isPt; simp_all; done) | (refine xz0 ?_; unfold isPt; simp_all; done) | (refine xz1 ?_; unfold isPt; simp [*]; done) | (refine xz0 ?_; unfold isPt; simp [*]; done), rfl⟩
  · refine xk_iload_n dX8_isPart_4 rfl ?_
    refine xk_iconst (1) dX8_isPart_5 (by decide) ?_
    refine xk_icmp_ne 13 dX8_isPart_6 (by decide) (fun c6 => ?_) (fun c6 => ?_)
    · refine xk_iconst (0) dX8_isPart_13 (by decide) ?_
      exact xk_zret rfl (by rfl) dX8_isPart_14 (Nat.le_refl _) (Nat.le_refl _) ⟨by first | (refine xz1 ?_; unfold isPt; simp_all; done) | (refine xz0 ?_; unfold isPt; simp_all; done) | (refine xz1 ?_; unfold isPt; simp [*]; done) | (refine xz0 ?_; unfold isPt; simp [*]; done), rfl⟩
    · refine xk_iconst (1) dX8_isPart_9 (by decide) ?_
      refine xk_goto 14 dX8_isPart_10 (by decide) ?_
      exact xk_zret rfl (by rfl) dX8_isPart_14 (Nat.le_refl _) (Nat.le_refl _) ⟨by first | (refine xz1 ?_; unfold isPt; simp_all; done) | (refine xz0 ?_; unfold isPt; simp_all; done) | (refine xz1 ?_; unfold isPt; simp [*]; done) | (refine xz0 ?_; unfold isPt; simp [*]; done), rfl⟩

set_option maxHeartbeats 4000000 in
set_option maxRecDepth 100000 in
theorem y_X8_say (d : Nat) {hs : xk_H} {x n fl fv : Nat} {w v : tbW} (hn : n ≤ 6) (h2 : 2 ≤ n) (hX : xsA hs x n w fl v fv) (ho : tbOK n w) (hov : tbOK n v) {i j p q : Int32} : xk_Y (d + 4) 0 0 mX8_say false [.ref x, .int i, .int j, .int p, .int q] hs (fun r' h => r' = some (.int (xk_b (sayC n i j p q))) ∧ xsA h x n (sayW n w i j p q) (sayN n w fl i j p q) v fv ∧ xfr (xsS x n) hs h) := by
  have cF : (tPair n i j && (dig p && dig q)) = false → sayC n i j p q = false := fun q => q
  have cW : sayC n i j p q = false → sayW n w i j p q = w := fun q => by unfold sayW; rw [if_neg (by rw [q]; decide)]
  have cN : sayC n i j p q = false → sayN n w fl i j p q = fl := fun q => by unfold sayN; rw [if_neg (by rw [q]; exact fun z => absurd z.1 (by decide))]
  refine xk_Y.ofX (k := 2) (ls := [some (.ref x), some (.int i), some (.int j), some (.int p), some (.int q), none, none]) (by decide) rfl rfl ?_
  refine xk_aload_n dX8_say_0 rfl ?_
  refine xk_get (ci := 7) (r := (RX8, TX8, 8)) 1 dX8_say_1 rfl inX8 (by decide) wf_X8_27 hX.1 rfl ?_
  refine xk_iload_n dX8_say_4 rfl ?_
  refine xk_iload_n dX8_say_5 rfl ?_
  refine xk_v2 (M' := mX5_isPair) (d' := (d + 2) + 1) (ci := 4) (r0 := (RX5, TX5, 3)) dX8_say_6 wm_X8_69 cv_X5_isPair wi_X5_isPair wl_X5_isPair (by omega) (Nat.le_refl _) (Nat.le_refl _) rfl rfl hX.2.1.1 (Nat.le_of_ble_eq_true rfl) (y_X5_isPair (d + 2) hX.2.1) rfl ?_
  refine xk_ifb_eq 27 dX8_say_9 (by decide) (fun c9 => ?_) (fun c9 => ?_)
  · refine xk_iconst (0) dX8_say_27 (by decide) ?_
    exact xk_zret rfl (by rfl) dX8_say_28 (Nat.le_refl _) (Nat.le_refl _) ⟨by rw [xb_f (cF (by simp [*]))], by rw [cW (cF (by simp [*])), cN (cF (by simp [*]))]; exact hX, xfr.rf⟩
  · refine xk_iload_n dX8_say_12 rfl ?_
    refine xk_s1c (M' := mX8_isDigit) (d' := (d + 3)) dX8_say_13 wm_X8_73 cv_X8_isDigit wt_X8_isDigit (by omega) (Nat.le_refl _) (Nat.le_refl _) (Nat.le_of_ble_eq_true rfl) (y_X8_isDigit (d + 3)) rfl ?_
    refine xk_ifb_eq 27 dX8_say_16 (by decide) (fun c16 => ?_) (fun c16 => ?_)
    · refine xk_iconst (0) dX8_say_27 (by decide) ?_
      exact xk_zret rfl (by rfl) dX8_say_28 (Nat.le_refl _) (Nat.le_refl _) ⟨by rw [xb_f (cF (by simp [*]))], by rw [cW (cF (by simp [*])), cN (cF (by simp [*]))]; exact hX, xfr.rf⟩
    · refine xk_iload dX8_say_19 rfl ?_
      refine xk_s1c (M' := mX8_isDigit) (d' := (d + 3)) dX8_say_21 wm_X8_73 cv_X8_isDigit wt_X8_isDigit (by omega) (Nat.le_refl _) (Nat.le_refl _) (Nat.le_of_ble_eq_true rfl) (y_X8_isDigit (d + 3)) rfl ?_
      refine xk_ifb_ne 29 dX8_say_24 (by decide) (fun c24 => ?_) (fun c24 => ?_)
      · obtain ⟨a, b, ha, hb, hab, rfl, rfl⟩ := tPair_of hn c9
        obtain ⟨p0, hp1, hp2, rfl⟩ := dig_of c16
        obtain ⟨q0, hq1, hq2, rfl⟩ := dig_of c24
        have cS : sayC n (nI a) (nI b) (nI p0) (nI q0) = true := by unfold sayC; simp [c9, c16, c24]
        have e1 : (nI a).toNatClampNeg = a := nI_clamp (by omega)
        have e2 : (nI b).toNatClampNeg = b := nI_clamp (by omega)
        have e3 : (nI p0).toNatClampNeg = p0 := nI_clamp (by omega)
        have e4 : (nI q0).toNatClampNeg = q0 := nI_clamp (by omega)
        refine xk_iload_n dX8_say_29 rfl ?_
        refine xk_i2l dX8_say_30 ?_
        rw [nI_l (by omega)]
        refine xk_iload dX8_say_31 rfl ?_
        refine xk_i2l dX8_say_33 ?_
        rw [nI_l (by omega)]
        refine xk_s2c (M' := mX1_of) (d' := (d + 3)) dX8_say_34 wm_X8_77 cv_X1_of wt_X1_of (by omega) (Nat.le_refl _) (Nat.le_refl _) (Nat.le_of_ble_eq_true rfl) (y_X1_of (d + 3) (by omega) (by omega)) rfl ?_
        refine xk_lstore dX8_say_37 (by decide) ?_
        dsimp only [xk_s1, xk_s2, xk_kill]
        refine xk_aload_n dX8_say_39 rfl ?_
        refine xk_get (ci := 7) (r := (RX8, TX8, 8)) 1 dX8_say_40 rfl inX8 (by decide) wf_X8_27 hX.1 rfl ?_
        refine xk_iload_n dX8_say_43 rfl ?_
        refine xk_iload_n dX8_say_44 rfl ?_
        refine xk_lload dX8_say_45 rfl ?_
        refine xk_lload dX8_say_47 rfl ?_
        refine xk_callV4 (M' := mX5_put) (ci := 4) (r0 := (RX5, TX5, 3)) dX8_say_49 wm_X8_83 cv_X5_put wi_X5_put wl_X5_put (by omega) (Nat.le_refl _) (Nat.le_refl _) rfl rfl hX.2.1.1 (Nat.le_of_ble_eq_true rfl) (y_X5_put d hn hX.2.1 ho ha hb hab hp2 hq2 hp2 hq2) (fun _ _ z => z.2.2.1) (fun r0 hz z => ?_)
        obtain ⟨rfl, z1, z2⟩ := z
        refine xk_iconst (1) dX8_say_52 (by decide) ?_
        refine xk_zret rfl (by rfl) dX8_say_53 (Nat.le_refl _) (Nat.le_refl _) ⟨by rw [xb_t cS], ?_, z2.mono (by unfold tbS xsS; omega)⟩
        unfold sayW sayN
        rw [if_pos cS, e1, e2, e3, e4]
        have hz2 := hX.say h2 z2 z1
        by_cases c : w a b = (0, 1)
        · rw [if_pos ⟨cS, c⟩]
          rw [if_pos c] at hz2
          exact hz2
        · rw [if_neg (fun q => c q.2)]
          rw [if_neg c] at hz2
          exact hz2
      · refine xk_iconst (0) dX8_say_27 (by decide) ?_
        exact xk_zret rfl (by rfl) dX8_say_28 (Nat.le_refl _) (Nat.le_refl _) ⟨by rw [xb_f (cF (by simp [*]))], by rw [cW (cF (by simp [*])), cN (cF (by simp [*]))]; exact hX, xfr.rf⟩

set_option maxHeartbeats 4000000 in
set_option maxRecDepth 100000 in
theorem y_X8_unsay (d : Nat) {hs : xk_H} {x n fl fv : Nat} {w v : tbW} (hn : n ≤ 6) (h2 : 2 ≤ n) (hX : xsA hs x n w fl v fv) (ho : tbOK n w) (hov : tbOK n v) {i j : Int32} (hfl : tHas n w i j = true → 1 ≤ fl) : xk_Y (d + 4) 0 0 mX8_unsay false [.ref x, .int i, .int j] hs (fun r' h => r' = some (.int (xk_b (tHas n w i j))) ∧ xsA h x n (dropW n w i j) (dropN n w fl i j) v fv ∧ xfr (xsS x n) hs h) := by
  refine xk_Y.ofX (k := 0) (ls := [some (.ref x), some (.int i), some (.int j)]) (by decide) rfl rfl ?_
  refine xk_aload_n dX8_unsay_0 rfl ?_
  refine xk_get (ci := 7) (r := (RX8, TX8, 8)) 1 dX8_unsay_1 rfl inX8 (by decide) wf_X8_27 hX.1 rfl ?_
  refine xk_iload_n dX8_unsay_4 rfl ?_
  refine xk_iload_n dX8_unsay_5 rfl ?_
  refine xk_callV2 (M' := mX5_drop) (ci := 4) (r0 := (RX5, TX5, 3)) dX8_unsay_6 wm_X8_87 cv_X5_drop wi_X5_drop wl_X5_drop (by omega) (Nat.le_refl _) (Nat.le_refl _) rfl rfl hX.2.1.1 (Nat.le_of_ble_eq_true rfl) (y_X5_drop d hn hX.2.1 ho hfl) (fun _ _ z => by by_cases c : tHas n w i j = true; (have h9 := z.2; rw [if_pos c] at h9; exact h9.2.1); (have h9 := z.2; rw [if_neg c] at h9; rw [h9])) (fun r0 hz z => ?_)
  obtain ⟨rfl, z1⟩ := z
  refine xk_zret rfl (xk_b_nar _) dX8_unsay_9 (Nat.le_refl _) (Nat.le_refl _) ?_
  by_cases c : tHas n w i j = true
  · rw [if_pos c] at z1
    refine ⟨rfl, ?_, z1.2.mono (by unfold tbS xsS; omega)⟩
    unfold dropW dropN
    rw [if_pos c, if_pos c]
    exact hX.say h2 z1.2 z1.1
  · rw [if_neg c] at z1
    subst z1
    refine ⟨rfl, ?_, xfr.rf⟩
    unfold dropW dropN
    rw [if_neg c, if_neg c]
    exact hX

set_option maxHeartbeats 4000000 in
set_option maxRecDepth 100000 in
theorem y_X8_unspan (d : Nat) {hs : xk_H} {x n fl fv : Nat} {w v : tbW} (hn : n ≤ 6) (h2 : 2 ≤ n) (hX : xsA hs x n w fl v fv) (ho : tbOK n w) (hov : tbOK n v) {i j : Int32} (hfl : tHas n v i j = true → 1 ≤ fv) : xk_Y (d + 4) 0 0 mX8_unspan false [.ref x, .int i, .int j] hs (fun r' h => r' = some (.int (xk_b (tHas n v i j))) ∧ xsA h x n w fl (dropW n v i j) (dropN n v fv i j) ∧ xfr (xsS x n) hs h) := by
  refine xk_Y.ofX (k := 0) (ls := [some (.ref x), some (.int i), some (.int j)]) (by decide) rfl rfl ?_
  refine xk_aload_n dX8_unspan_0 rfl ?_
  refine xk_get (ci := 7) (r := (RX8, TX8, 8)) 2 dX8_unspan_1 rfl inX8 (by decide) wf_X8_31 hX.1 rfl ?_
  refine xk_iload_n dX8_unspan_4 rfl ?_
  refine xk_iload_n dX8_unspan_5 rfl ?_
  refine xk_callV2 (M' := mX5_drop) (ci := 4) (r0 := (RX5, TX5, 3)) dX8_unspan_6 wm_X8_87 cv_X5_drop wi_X5_drop wl_X5_drop (by omega) (Nat.le_refl _) (Nat.le_refl _) rfl rfl hX.2.2.1.1 (Nat.le_of_ble_eq_true rfl) (y_X5_drop d hn hX.2.2.1 hov hfl) (fun _ _ z => by by_cases c : tHas n v i j = true; (have h9 := z.2; rw [if_pos c] at h9; exact h9.2.1); (have h9 := z.2; rw [if_neg c] at h9; rw [h9])) (fun r0 hz z => ?_)
  obtain ⟨rfl, z1⟩ := z
  refine xk_zret rfl (xk_b_nar _) dX8_unspan_9 (Nat.le_refl _) (Nat.le_refl _) ?_
  by_cases c : tHas n v i j = true
  · rw [if_pos c] at z1
    refine ⟨rfl, ?_, z1.2.mono (by unfold tbS xsS; omega)⟩
    unfold dropW dropN
    rw [if_pos c, if_pos c]
    exact hX.spn h2 z1.2 z1.1
  · rw [if_neg c] at z1
    subst z1
    refine ⟨rfl, ?_, xfr.rf⟩
    unfold dropW dropN
    rw [if_neg c, if_neg c]
    exact hX

set_option maxHeartbeats 4000000 in
set_option maxRecDepth 100000 in
theorem y_X8_said (d : Nat) {hs : xk_H} {x n fl fv : Nat} {w v : tbW} (hn : n ≤ 6) (h2 : 2 ≤ n) (hX : xsA hs x n w fl v fv) (ho : tbOK n w) (hov : tbOK n v) {i j q : Int32} : xk_Y (d + 3) 0 0 mX8_said false [.ref x, .int i, .int j, .int q] hs (fun r' h => r' = some (.int (saidV n w i j q)) ∧ xsA h x n w fl v fv ∧ xfr (xsS x n) hs h) := by
  refine xk_Y.ofX (k := 0) (ls := [some (.ref x), some (.int i), some (.int j), some (.int q)]) (by decide) rfl rfl ?_
  refine xk_iload_n dX8_said_0 rfl ?_
  refine xk_s1c (M' := mX8_isPart) (d' := (d + 2)) dX8_said_1 wm_X8_90 cv_X8_isPart wt_X8_isPart (by omega) (Nat.le_refl _) (Nat.le_refl _) (Nat.le_of_ble_eq_true rfl) (y_X8_isPart (d + 2)) rfl ?_
  refine xk_ifb_eq 19 dX8_said_4 (by decide) (fun c4 => ?_) (fun c4 => ?_)
  · refine xk_iconst (-1) dX8_said_19 (by decide) ?_
    exact xk_iret rfl dX8_said_20 (Nat.le_refl _) (Nat.le_refl _) ⟨by rw [saidV_n (by simp [*])], hX, xfr.rf⟩
  · refine xk_aload_n dX8_said_7 rfl ?_
    refine xk_get (ci := 7) (r := (RX8, TX8, 8)) 1 dX8_said_8 rfl inX8 (by decide) wf_X8_27 hX.1 rfl ?_
    refine xk_iload_n dX8_said_11 rfl ?_
    refine xk_iload_n dX8_said_12 rfl ?_
    refine xk_v2 (M' := mX5_holds) (d' := d + 2) (ci := 4) (r0 := (RX5, TX5, 3)) dX8_said_13 wm_X8_93 cv_X5_holds wi_X5_holds wl_X5_holds (by omega) (Nat.le_refl _) (Nat.le_refl _) rfl rfl hX.2.1.1 (Nat.le_of_ble_eq_true rfl) (y_X5_holds d hn hX.2.1 ho) rfl ?_
    refine xk_ifb_ne 21 dX8_said_16 (by decide) (fun c16 => ?_) (fun c16 => ?_)
    · obtain ⟨a, b, ha, hb, hab, rfl, rfl, hw9⟩ := tHas_of hn c16
      have dg := ho.lt ha hb
      refine xk_aload_n dX8_said_21 rfl ?_
      refine xk_get (ci := 7) (r := (RX8, TX8, 8)) 1 dX8_said_22 rfl inX8 (by decide) wf_X8_27 hX.1 rfl ?_
      refine xk_iload_n dX8_said_25 rfl ?_
      refine xk_iload_n dX8_said_26 rfl ?_
      refine xk_v2 (M' := mX5_low) (d' := d + 2) (ci := 4) (r0 := (RX5, TX5, 3)) dX8_said_27 wm_X8_96 cv_X5_low wi_X5_low wl_X5_low (by omega) (Nat.le_refl _) (Nat.le_refl _) rfl rfl hX.2.1.1 (Nat.le_of_ble_eq_true rfl) (y_X5_low d hn hX.2.1) rfl ?_
      rw [tLow_nI hn ha hb hab]
      refine xk_iload_n dX8_said_30 rfl ?_
      refine xk_s2c (M' := mX1_part) (d' := (d + 1) + 1) dX8_said_31 wm_X8_100 cv_X1_part wt_X1_part (by omega) (Nat.le_refl _) (Nat.le_refl _) (Nat.le_of_ble_eq_true rfl) (y_X1_part (d + 1) (by omega) (by omega)) rfl ?_
      exact xk_iret rfl dX8_said_34 (Nat.le_refl _) (Nat.le_refl _) ⟨by rw [saidV_y hn ha hb hab c4 c16], hX, xfr.rf⟩
    · refine xk_iconst (-1) dX8_said_19 (by decide) ?_
      exact xk_iret rfl dX8_said_20 (Nat.le_refl _) (Nat.le_refl _) ⟨by rw [saidV_n (by simp [*])], hX, xfr.rf⟩

set_option maxHeartbeats 4000000 in
set_option maxRecDepth 100000 in
theorem y_X8_even (d : Nat) {hs : xk_H} {x n fl fv : Nat} {w v : tbW} (hn : n ≤ 6) (h2 : 2 ≤ n) (hX : xsA hs x n w fl v fv) (ho : tbOK n w) (hov : tbOK n v) : xk_Y (d + 11) 0 0 mX8_even false [.ref x] hs (fun r' h => (∃ g, gB g ∧ r' = some (.int (xk_b (noneG (measG w n g) (n - 2) 3)))) ∧ xsA h x n w fl v fv ∧ xfr (xsS x n) hs h) := by
  obtain ⟨hg0, g, hg1, hg2⟩ := hX.2.2.2.2.1
  refine xk_Y.ofX (k := 0) (ls := [some (.ref x)]) (by decide) rfl rfl ?_
  refine xk_aload_n dX8_even_0 rfl ?_
  refine xk_get (ci := 7) (r := (RX8, TX8, 8)) 4 dX8_even_1 rfl inX8 (by decide) wf_X8_44 hX.1 rfl ?_
  refine xk_aload_n dX8_even_4 rfl ?_
  refine xk_get (ci := 7) (r := (RX8, TX8, 8)) 1 dX8_even_5 rfl inX8 (by decide) wf_X8_27 hX.1 rfl ?_
  refine xk_v1 (M' := mX3_noneAboveOne) (d' := d + 10) (ci := 2) (r0 := (RX3, TX3, 2)) dX8_even_8 wm_X8_104 cv_X3_noneAboveOne wi_X3_noneAboveOne wl_X3_noneAboveOne (by omega) (Nat.le_refl _) (Nat.le_refl _) rfl rfl hX.2.2.2.2.1.1 (Nat.le_of_ble_eq_true rfl) (y_X3_noneAboveOne d hn h2 hX.2.1 ho hg0 hg1 hg2 (by unfold tbS; omega)) (by simp) ?_
  exact xk_zret rfl (xk_b_nar _) dX8_even_11 (Nat.le_refl _) (Nat.le_refl _) ⟨⟨g, hg2, rfl⟩, hX.rng h2 (gB_meas ho hn hg2), xfr.rf.set ⟨by omega, by omega⟩⟩

set_option maxHeartbeats 4000000 in
set_option maxRecDepth 100000 in
theorem y_X8_can (d : Nat) {hs : xk_H} {x n fl fv : Nat} {w v : tbW} (hn : n ≤ 6) (h2 : 2 ≤ n) (hX : xsA hs x n w fl v fv) (ho : tbOK n w) (hov : tbOK n v) : xk_Y (d + 11) 0 0 mX8_can false [.ref x] hs (fun r' h => (∃ g, gB g ∧ r' = some (.int (xk_b (noneG (measG v n g) (n - 2) 3)))) ∧ xsA h x n w fl v fv ∧ xfr (xsS x n) hs h) := by
  obtain ⟨hg0, g, hg1, hg2⟩ := hX.2.2.2.2.1
  refine xk_Y.ofX (k := 0) (ls := [some (.ref x)]) (by decide) rfl rfl ?_
  refine xk_aload_n dX8_can_0 rfl ?_
  refine xk_get (ci := 7) (r := (RX8, TX8, 8)) 4 dX8_can_1 rfl inX8 (by decide) wf_X8_44 hX.1 rfl ?_
  refine xk_aload_n dX8_can_4 rfl ?_
  refine xk_get (ci := 7) (r := (RX8, TX8, 8)) 2 dX8_can_5 rfl inX8 (by decide) wf_X8_31 hX.1 rfl ?_
  refine xk_v1 (M' := mX3_noneAboveOne) (d' := d + 10) (ci := 2) (r0 := (RX3, TX3, 2)) dX8_can_8 wm_X8_104 cv_X3_noneAboveOne wi_X3_noneAboveOne wl_X3_noneAboveOne (by omega) (Nat.le_refl _) (Nat.le_refl _) rfl rfl hX.2.2.2.2.1.1 (Nat.le_of_ble_eq_true rfl) (y_X3_noneAboveOne d hn h2 hX.2.2.1 hov hg0 hg1 hg2 (by unfold tbS; omega)) (by simp) ?_
  exact xk_zret rfl (xk_b_nar _) dX8_can_11 (Nat.le_refl _) (Nat.le_refl _) ⟨⟨g, hg2, rfl⟩, hX.rng h2 (gB_meas hov hn hg2), xfr.rf.set ⟨by omega, by omega⟩⟩

set_option maxHeartbeats 4000000 in
set_option maxRecDepth 100000 in
theorem y_X8_trees (d : Nat) {hs : xk_H} {x n fl fv : Nat} {w v : tbW} (hn : n ≤ 6) (h2 : 2 ≤ n) (hX : xsA hs x n w fl v fv) (ho : tbOK n w) (hov : tbOK n v) : xk_Y (d + 5) 0 0 mX8_trees false [.ref x] hs (fun r' h => r' = some (.int (ofM (n - 1) (n - 1 - 1) 0 1 (lapM w (n - 1)))) ∧ xsA h x n w fl v fv ∧ xfr (xsS x n) hs h) := by
  obtain ⟨M, hM⟩ := hX.2.2.2.2.2.1
  refine xk_Y.ofX (k := 0) (ls := [some (.ref x)]) (by decide) rfl rfl ?_
  refine xk_aload_n dX8_trees_0 rfl ?_
  refine xk_get (ci := 7) (r := (RX8, TX8, 8)) 5 dX8_trees_1 rfl inX8 (by decide) wf_X8_51 hX.1 rfl ?_
  refine xk_aload_n dX8_trees_4 rfl ?_
  refine xk_get (ci := 7) (r := (RX8, TX8, 8)) 1 dX8_trees_5 rfl inX8 (by decide) wf_X8_27 hX.1 rfl ?_
  refine xk_callV1 (M' := mX6_of) (ci := 5) (r0 := (RX6, TX6, 2)) dX8_trees_8 wm_X8_125 cv_X6_of wi_X6_of wl_X6_of (by omega) (Nat.le_refl _) (Nat.le_refl _) rfl rfl hM.1 (Nat.le_of_ble_eq_true rfl) (y_X6_of d hn (s := n - 1) (by omega) (by omega) hX.2.1 ho hM (by unfold tbS mtS; omega)) (fun _ _ z => z.2.2.1) (fun r0 hz z => ?_)
  obtain ⟨rfl, z1, z2⟩ := z
  exact xk_iret rfl dX8_trees_11 (Nat.le_refl _) (Nat.le_refl _) ⟨rfl, hX.tre h2 z2 z1, z2.mono (by unfold mtS xsS; omega)⟩

set_option maxHeartbeats 4000000 in
set_option maxRecDepth 100000 in
theorem y_X8_few (d : Nat) {hs : xk_H} {x n fl fv : Nat} {w v : tbW} (hn : n ≤ 6) (h2 : 2 ≤ n) (hX : xsA hs x n w fl v fv) (ho : tbOK n w) (hov : tbOK n v) : xk_Y (d + 20) 0 0 mX8_few false [.ref x] hs (fun r' h => r' = some (.int (nI (leaveF w n).1)) ∧ xsA h x n w fl v fv ∧ xfr (xsS x n) hs h) := by
  obtain ⟨G, Wt, fw, lh, hL, hG, h0⟩ := hX.2.2.2.2.2.2.1
  refine xk_Y.ofX (k := 0) (ls := [some (.ref x)]) (by decide) rfl rfl ?_
  refine xk_aload_n dX8_few_0 rfl ?_
  refine xk_get (ci := 7) (r := (RX8, TX8, 8)) 6 dX8_few_1 rfl inX8 (by decide) wf_X8_58 hX.1 rfl ?_
  refine xk_aload_n dX8_few_4 rfl ?_
  refine xk_get (ci := 7) (r := (RX8, TX8, 8)) 1 dX8_few_5 rfl inX8 (by decide) wf_X8_27 hX.1 rfl ?_
  refine xk_callV1 (M' := mX2_search) (ci := 1) (r0 := (RX2, TX2, 8)) dX8_few_8 wm_X8_128 cv_X2_search wi_X2_search wl_X2_search (by omega) (Nat.le_refl _) (Nat.le_refl _) rfl rfl hL.1 (Nat.le_of_ble_eq_true rfl) (y_X2_search d hn h2 ho (by unfold tbS lvS; omega) hX.2.1 hL hG h0) (fun _ _ z => z.2.2.1) (fun r0 hz z => ?_)
  obtain ⟨rfl, ⟨G3, W3, z1, z2, z3⟩, z4⟩ := z
  have hX2 := hX.lev h2 z4 ⟨G3, W3, _, _, z1, z2, z3⟩
  refine xk_aload_n dX8_few_11 rfl ?_
  refine xk_get (ci := 7) (r := (RX8, TX8, 8)) 6 dX8_few_12 rfl inX8 (by decide) wf_X8_58 hX2.1 rfl ?_
  refine xk_getN (ci := 1) (r := (RX2, TX2, 8)) (host := "PairScales") 6 dX8_few_15 rfl inX2 (by decide) (List.mem_of_getElem? (i := 6) rfl) z1.1 rfl ?_
  exact xk_iret rfl dX8_few_18 (Nat.le_refl _) (Nat.le_refl _) ⟨rfl, hX2, z4.mono (by unfold lvS xsS; omega)⟩

set_option maxHeartbeats 4000000 in
set_option maxRecDepth 100000 in
theorem y_X8_left (d : Nat) {hs : xk_H} {x n fl fv : Nat} {w v : tbW} (hn : n ≤ 6) (h2 : 2 ≤ n) (hX : xsA hs x n w fl v fv) (ho : tbOK n w) (hov : tbOK n v) : xk_Y (d + 20) 0 0 mX8_left false [.ref x] hs (fun r' h => r' = some (.int (nI (leaveF w n).2)) ∧ xsA h x n w fl v fv ∧ xfr (xsS x n) hs h) := by
  obtain ⟨G, Wt, fw, lh, hL, hG, h0⟩ := hX.2.2.2.2.2.2.1
  refine xk_Y.ofX (k := 0) (ls := [some (.ref x)]) (by decide) rfl rfl ?_
  refine xk_aload_n dX8_left_0 rfl ?_
  refine xk_get (ci := 7) (r := (RX8, TX8, 8)) 6 dX8_left_1 rfl inX8 (by decide) wf_X8_58 hX.1 rfl ?_
  refine xk_aload_n dX8_left_4 rfl ?_
  refine xk_get (ci := 7) (r := (RX8, TX8, 8)) 1 dX8_left_5 rfl inX8 (by decide) wf_X8_27 hX.1 rfl ?_
  refine xk_callV1 (M' := mX2_search) (ci := 1) (r0 := (RX2, TX2, 8)) dX8_left_8 wm_X8_128 cv_X2_search wi_X2_search wl_X2_search (by omega) (Nat.le_refl _) (Nat.le_refl _) rfl rfl hL.1 (Nat.le_of_ble_eq_true rfl) (y_X2_search d hn h2 ho (by unfold tbS lvS; omega) hX.2.1 hL hG h0) (fun _ _ z => z.2.2.1) (fun r0 hz z => ?_)
  obtain ⟨rfl, ⟨G3, W3, z1, z2, z3⟩, z4⟩ := z
  have hX2 := hX.lev h2 z4 ⟨G3, W3, _, _, z1, z2, z3⟩
  refine xk_aload_n dX8_left_11 rfl ?_
  refine xk_get (ci := 7) (r := (RX8, TX8, 8)) 6 dX8_left_12 rfl inX8 (by decide) wf_X8_58 hX2.1 rfl ?_
  refine xk_getN (ci := 1) (r := (RX2, TX2, 8)) (host := "PairScales") 7 dX8_left_15 rfl inX2 (by decide) (List.mem_of_getElem? (i := 7) rfl) z1.1 rfl ?_
  exact xk_iret rfl dX8_left_18 (Nat.le_refl _) (Nat.le_refl _) ⟨rfl, hX2, z4.mono (by unfold lvS xsS; omega)⟩

set_option maxHeartbeats 4000000 in
set_option maxRecDepth 100000 in
theorem y_X8_count (d : Nat) {hs : xk_H} {x n fl fv : Nat} {w v : tbW} (hn : n ≤ 6) (h2 : 2 ≤ n) (hX : xsA hs x n w fl v fv) (ho : tbOK n w) (hov : tbOK n v) {q : Int32} : xk_Y d 0 0 mX8_count false [.ref x, .int q] hs (fun r' h => r' = some (.int (if q = 0 then nI n else if q = 1 then nI fl else if q = 2 then nI fv else -1)) ∧ xsA h x n w fl v fv ∧ xfr (xsS x n) hs h) := by
  refine xk_Y.ofX (k := 0) (ls := [some (.ref x), some (.int q)]) (by decide) rfl rfl ?_
  refine xk_iload_n dX8_count_0 rfl ?_
  by_cases q0 : q = 0
  · subst q0
    refine xk_tabIn (off := 27) 28 dX8_count_1 (x := 0) (by decide) (by decide) (by decide) (by decide) ?_
    refine xk_aload_n dX8_count_28 rfl ?_
    refine xk_get (ci := 7) (r := (RX8, TX8, 8)) 0 dX8_count_29 rfl inX8 (by decide) wf_X8_18 hX.1 rfl ?_
    exact xk_iret rfl dX8_count_32 (Nat.le_refl _) (Nat.le_refl _) ⟨rfl, hX, xfr.rf⟩
  · by_cases q1 : q = 1
    · subst q1
      refine xk_tabIn (off := 32) 33 dX8_count_1 (x := 1) (by decide) (by decide) (by decide) (by decide) ?_
      refine xk_aload_n dX8_count_33 rfl ?_
      refine xk_get (ci := 7) (r := (RX8, TX8, 8)) 1 dX8_count_34 rfl inX8 (by decide) wf_X8_27 hX.1 rfl ?_
      refine xk_getN (ci := 4) (r := (RX5, TX5, 3)) (host := "PairScales") 2 dX8_count_37 rfl inX5 (by decide) (List.mem_of_getElem? (i := 0) rfl) hX.2.1.1 rfl ?_
      exact xk_iret rfl dX8_count_40 (Nat.le_refl _) (Nat.le_refl _) ⟨rfl, hX, xfr.rf⟩
    · by_cases q2 : q = 2
      · subst q2
        refine xk_tabIn (off := 40) 41 dX8_count_1 (x := 2) (by decide) (by decide) (by decide) (by decide) ?_
        refine xk_aload_n dX8_count_41 rfl ?_
        refine xk_get (ci := 7) (r := (RX8, TX8, 8)) 2 dX8_count_42 rfl inX8 (by decide) wf_X8_31 hX.1 rfl ?_
        refine xk_getN (ci := 4) (r := (RX5, TX5, 3)) (host := "PairScales") 2 dX8_count_45 rfl inX5 (by decide) (List.mem_of_getElem? (i := 0) rfl) hX.2.2.1.1 rfl ?_
        exact xk_iret rfl dX8_count_48 (Nat.le_refl _) (Nat.le_refl _) ⟨rfl, hX, xfr.rf⟩
      · refine xk_tabOut 49 dX8_count_1 (tab3 q0 q1 q2) (by decide) ?_
        refine xk_iconst (-1) dX8_count_49 (by decide) ?_
        exact xk_iret rfl dX8_count_50 (Nat.le_refl _) (Nat.le_refl _) ⟨by simp [q0, q1, q2], hX, xfr.rf⟩

