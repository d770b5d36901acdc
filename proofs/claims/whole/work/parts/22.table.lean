/-! Table: contracts. Laid by a program of our own. -/
set_option maxHeartbeats 4000000 in
set_option maxRecDepth 100000 in
theorem y_X5_isThing (d : Nat) {hs : xk_H} {t n fl : Nat} {w : tbW} {x : Int32} (hT : tbA hs t n w fl) : xk_F d mX5_isThing [.ref t, .int x] hs (some (.int (xk_b (tIn n x)))) hs := by
  refine xk_Y.ofX (k := 0) (ls := [some (.ref t), some (.int x)]) (by decide) rfl rfl ?_
  refine xk_iload_n dX5_isThing_0 rfl ?_
  refine xk_if_lt 16 dX5_isThing_1 (by decide) (fun c1 => ?_) (fun c1 => ?_)
  · refine xk_iconst (0) dX5_isThing_16 (by decide) ?_
    exact xk_zret rfl (by rfl) dX5_isThing_17 (Nat.le_refl _) (Nat.le_refl _) ⟨by first | (refine xz1 ?_; unfold tIn; simp; exact ⟨Int32.not_lt.mp c1, Int32.not_le.mp c9⟩; done) | (refine xz0 ?_; unfold tIn; simp; exact ⟨Int32.not_lt.mp c1, Int32.not_le.mp c9⟩; done) | (refine xz1 ?_; unfold tIn; simp; intro _; assumption; done) | (refine xz0 ?_; unfold tIn; simp; intro _; assumption; done) | (refine xz1 ?_; unfold tIn; simp; intro q; exact absurd c1 (Int32.not_lt.mpr q); done) | (refine xz0 ?_; unfold tIn; simp; intro q; exact absurd c1 (Int32.not_lt.mpr q); done), rfl⟩
  · refine xk_iload_n dX5_isThing_4 rfl ?_
    refine xk_aload_n dX5_isThing_5 rfl ?_
    refine xk_get (ci := 4) (r := (RX5, TX5, 3)) 0 dX5_isThing_6 rfl inX5 (by decide) wf_X5_7 hT.1 rfl ?_
    refine xk_icmp_ge 16 dX5_isThing_9 (by decide) (fun c9 => ?_) (fun c9 => ?_)
    · refine xk_iconst (0) dX5_isThing_16 (by decide) ?_
      exact xk_zret rfl (by rfl) dX5_isThing_17 (Nat.le_refl _) (Nat.le_refl _) ⟨by first | (refine xz1 ?_; unfold tIn; simp; exact ⟨Int32.not_lt.mp c1, Int32.not_le.mp c9⟩; done) | (refine xz0 ?_; unfold tIn; simp; exact ⟨Int32.not_lt.mp c1, Int32.not_le.mp c9⟩; done) | (refine xz1 ?_; unfold tIn; simp; intro _; assumption; done) | (refine xz0 ?_; unfold tIn; simp; intro _; assumption; done) | (refine xz1 ?_; unfold tIn; simp; intro q; exact absurd c1 (Int32.not_lt.mpr q); done) | (refine xz0 ?_; unfold tIn; simp; intro q; exact absurd c1 (Int32.not_lt.mpr q); done), rfl⟩
    · refine xk_iconst (1) dX5_isThing_12 (by decide) ?_
      refine xk_goto 17 dX5_isThing_13 (by decide) ?_
      exact xk_zret rfl (by rfl) dX5_isThing_17 (Nat.le_refl _) (Nat.le_refl _) ⟨by first | (refine xz1 ?_; unfold tIn; simp; exact ⟨Int32.not_lt.mp c1, Int32.not_le.mp c9⟩; done) | (refine xz0 ?_; unfold tIn; simp; exact ⟨Int32.not_lt.mp c1, Int32.not_le.mp c9⟩; done) | (refine xz1 ?_; unfold tIn; simp; intro _; assumption; done) | (refine xz0 ?_; unfold tIn; simp; intro _; assumption; done) | (refine xz1 ?_; unfold tIn; simp; intro q; exact absurd c1 (Int32.not_lt.mpr q); done) | (refine xz0 ?_; unfold tIn; simp; intro q; exact absurd c1 (Int32.not_lt.mpr q); done), rfl⟩

set_option maxHeartbeats 4000000 in
set_option maxRecDepth 100000 in
theorem y_X5_isPair (d : Nat) {hs : xk_H} {t n fl : Nat} {w : tbW} {x y : Int32} (hT : tbA hs t n w fl) : xk_F (d + 1) mX5_isPair [.ref t, .int x, .int y] hs (some (.int (xk_b (tPair n x y)))) hs := by
  refine xk_Y.ofX (k := 0) (ls := [some (.ref t), some (.int x), some (.int y)]) (by decide) rfl rfl ?_
  refine xk_aload_n dX5_isPair_0 rfl ?_
  refine xk_iload_n dX5_isPair_1 rfl ?_
  refine xk_v1 (M' := mX5_isThing) (d' := d) (ci := 4) (r0 := (RX5, TX5, 3)) dX5_isPair_2 wm_X5_26 cv_X5_isThing wi_X5_isThing wl_X5_isThing (by omega) (Nat.le_refl _) (Nat.le_refl _) rfl rfl hT.1 (Nat.le_of_ble_eq_true rfl) (y_X5_isThing d hT) rfl ?_
  refine xk_ifb_eq 25 dX5_isPair_5 (by decide) (fun c5 => ?_) (fun c5 => ?_)
  · refine xk_iconst (0) dX5_isPair_25 (by decide) ?_
    exact xk_zret rfl (by rfl) dX5_isPair_26 (Nat.le_refl _) (Nat.le_refl _) ⟨by first | (refine xz1 ?_; unfold tPair; simp_all; done) | (refine xz0 ?_; unfold tPair; simp_all; done), rfl⟩
  · refine xk_aload_n dX5_isPair_8 rfl ?_
    refine xk_iload_n dX5_isPair_9 rfl ?_
    refine xk_v1 (M' := mX5_isThing) (d' := d) (ci := 4) (r0 := (RX5, TX5, 3)) dX5_isPair_10 wm_X5_26 cv_X5_isThing wi_X5_isThing wl_X5_isThing (by omega) (Nat.le_refl _) (Nat.le_refl _) rfl rfl hT.1 (Nat.le_of_ble_eq_true rfl) (y_X5_isThing d hT) rfl ?_
    refine xk_ifb_eq 25 dX5_isPair_13 (by decide) (fun c13 => ?_) (fun c13 => ?_)
    · refine xk_iconst (0) dX5_isPair_25 (by decide) ?_
      exact xk_zret rfl (by rfl) dX5_isPair_26 (Nat.le_refl _) (Nat.le_refl _) ⟨by first | (refine xz1 ?_; unfold tPair; simp_all; done) | (refine xz0 ?_; unfold tPair; simp_all; done), rfl⟩
    · refine xk_iload_n dX5_isPair_16 rfl ?_
      refine xk_iload_n dX5_isPair_17 rfl ?_
      refine xk_icmp_eq 25 dX5_isPair_18 (by decide) (fun c18 => ?_) (fun c18 => ?_)
      · refine xk_iconst (0) dX5_isPair_25 (by decide) ?_
        exact xk_zret rfl (by rfl) dX5_isPair_26 (Nat.le_refl _) (Nat.le_refl _) ⟨by first | (refine xz1 ?_; unfold tPair; simp_all; done) | (refine xz0 ?_; unfold tPair; simp_all; done), rfl⟩
      · refine xk_iconst (1) dX5_isPair_21 (by decide) ?_
        refine xk_goto 26 dX5_isPair_22 (by decide) ?_
        exact xk_zret rfl (by rfl) dX5_isPair_26 (Nat.le_refl _) (Nat.le_refl _) ⟨by first | (refine xz1 ?_; unfold tPair; simp_all; done) | (refine xz0 ?_; unfold tPair; simp_all; done), rfl⟩

set_option maxHeartbeats 4000000 in
set_option maxRecDepth 100000 in
theorem y_X5_holds (d : Nat) {hs : xk_H} {t n fl : Nat} {w : tbW} {x y : Int32} (hn : n ≤ 6) (hT : tbA hs t n w fl) (ho : tbOK n w) : xk_F (d + 2) mX5_holds [.ref t, .int x, .int y] hs (some (.int (xk_b (tHas n w x y)))) hs := by
  refine xk_Y.ofX (k := 0) (ls := [some (.ref t), some (.int x), some (.int y)]) (by decide) rfl rfl ?_
  refine xk_aload_n dX5_holds_0 rfl ?_
  refine xk_iload_n dX5_holds_1 rfl ?_
  refine xk_iload_n dX5_holds_2 rfl ?_
  refine xk_v2 (M' := mX5_isPair) (d' := d + 1) (ci := 4) (r0 := (RX5, TX5, 3)) dX5_holds_3 wm_X5_30 cv_X5_isPair wi_X5_isPair wl_X5_isPair (by omega) (Nat.le_refl _) (Nat.le_refl _) rfl rfl hT.1 (Nat.le_of_ble_eq_true rfl) (y_X5_isPair d hT) rfl ?_
  refine xk_ifb_eq 26 dX5_holds_6 (by decide) (fun c6 => ?_) (fun c6 => ?_)
  · refine xk_iconst (0) dX5_holds_26 (by decide) ?_
    exact xk_zret rfl (by rfl) dX5_holds_27 (Nat.le_refl _) (Nat.le_refl _) ⟨by first | (refine xz1 ?_; rw [tHas_nI hn (by omega) (by omega)]; simp [hi, hj, hij, c20]; done) | (refine xz0 ?_; rw [tHas_nI hn (by omega) (by omega)]; simp [hi, hj, hij, c20]; done) | (refine xz1 ?_; unfold tHas; simp [c6]; done) | (refine xz0 ?_; unfold tHas; simp [c6]; done), rfl⟩
  · obtain ⟨i, j, hi, hj, hij, rfl, rfl⟩ := tPair_of hn c6
    have q1 : vp_in (nI i) n := vp_in_nI hi (by omega)
    have q2 : vp_in (nI j) n := vp_in_nI hj (by omega)
    have q3 : (nI i).toNatClampNeg = i := nI_clamp (by omega)
    have q4 : (nI j).toNatClampNeg = j := nI_clamp (by omega)
    have q5 : (if (nI i).toNatClampNeg < n then some (t + 2 + (nI i).toNatClampNeg) else none) = some (t + 2 + i) := by rw [q3, if_pos hi]
    refine xk_aload_n dX5_holds_9 rfl ?_
    refine xk_get (ci := 4) (r := (RX5, TX5, 3)) 1 dX5_holds_10 rfl inX5 (by decide) wf_X5_15 hT.1 rfl ?_
    refine xk_iload_n dX5_holds_13 rfl ?_
    refine xk_aaldJ dX5_holds_14 hT.2.1 q1 q5 ?_
    refine xk_iload_n dX5_holds_15 rfl ?_
    refine xk_lald dX5_holds_16 (hT.2.2 i hi) q2 ?_
    refine xk_lconst (1) dX5_holds_17 (by decide) ?_
    refine xk_lcmp dX5_holds_18 ?_
    refine xk_if_eq 26 dX5_holds_19 (by decide) (fun c19 => ?_) (fun c19 => ?_)
    · rw [q4] at c19
      have c20 := (fr_nothing ho hi hj).mp ((lg_cmp_eq _ _).mp c19)
      refine xk_iconst (0) dX5_holds_26 (by decide) ?_
      exact xk_zret rfl (by rfl) dX5_holds_27 (Nat.le_refl _) (Nat.le_refl _) ⟨by first | (refine xz1 ?_; rw [tHas_nI hn (by omega) (by omega)]; simp [hi, hj, hij, c20]; done) | (refine xz0 ?_; rw [tHas_nI hn (by omega) (by omega)]; simp [hi, hj, hij, c20]; done) | (refine xz1 ?_; unfold tHas; simp [c6]; done) | (refine xz0 ?_; unfold tHas; simp [c6]; done), rfl⟩
    · rw [q4] at c19
      have c20 : ¬ w i j = (0, 1) := fun z => c19 ((lg_cmp_eq _ _).mpr ((fr_nothing ho hi hj).mpr z))
      refine xk_iconst (1) dX5_holds_22 (by decide) ?_
      refine xk_goto 27 dX5_holds_23 (by decide) ?_
      exact xk_zret rfl (by rfl) dX5_holds_27 (Nat.le_refl _) (Nat.le_refl _) ⟨by first | (refine xz1 ?_; rw [tHas_nI hn (by omega) (by omega)]; simp [hi, hj, hij, c20]; done) | (refine xz0 ?_; rw [tHas_nI hn (by omega) (by omega)]; simp [hi, hj, hij, c20]; done) | (refine xz1 ?_; unfold tHas; simp [c6]; done) | (refine xz0 ?_; unfold tHas; simp [c6]; done), rfl⟩

set_option maxHeartbeats 4000000 in
set_option maxRecDepth 100000 in
theorem y_X5_low (d : Nat) {hs : xk_H} {t n fl : Nat} {w : tbW} {x y : Int32} (hn : n ≤ 6) (hT : tbA hs t n w fl) : xk_F (d + 2) mX5_low [.ref t, .int x, .int y] hs (some (.long (fr (tLow n w x y).1 (tLow n w x y).2))) hs := by
  refine xk_Y.ofX (k := 0) (ls := [some (.ref t), some (.int x), some (.int y)]) (by decide) rfl rfl ?_
  refine xk_aload_n dX5_low_0 rfl ?_
  refine xk_iload_n dX5_low_1 rfl ?_
  refine xk_iload_n dX5_low_2 rfl ?_
  refine xk_v2 (M' := mX5_isPair) (d' := d + 1) (ci := 4) (r0 := (RX5, TX5, 3)) dX5_low_3 wm_X5_30 cv_X5_isPair wi_X5_isPair wl_X5_isPair (by omega) (Nat.le_refl _) (Nat.le_refl _) rfl rfl hT.1 (Nat.le_of_ble_eq_true rfl) (y_X5_isPair d hT) rfl ?_
  refine xk_ifb_eq 20 dX5_low_6 (by decide) (fun c6 => ?_) (fun c6 => ?_)
  · refine xk_lconst (1) dX5_low_20 (by decide) ?_
    exact xk_lret rfl dX5_low_21 (Nat.le_refl _) (Nat.le_refl _) ⟨by first | (rw [tLow_nI hn hi hj hij, q4]; rfl) | (unfold tLow; rw [if_neg (by rw [c6]; decide)]; rfl), rfl⟩
  · obtain ⟨i, j, hi, hj, hij, rfl, rfl⟩ := tPair_of hn c6
    have q1 : vp_in (nI i) n := vp_in_nI hi (by omega)
    have q2 : vp_in (nI j) n := vp_in_nI hj (by omega)
    have q3 : (nI i).toNatClampNeg = i := nI_clamp (by omega)
    have q4 : (nI j).toNatClampNeg = j := nI_clamp (by omega)
    have q5 : (if (nI i).toNatClampNeg < n then some (t + 2 + (nI i).toNatClampNeg) else none) = some (t + 2 + i) := by rw [q3, if_pos hi]
    refine xk_aload_n dX5_low_9 rfl ?_
    refine xk_get (ci := 4) (r := (RX5, TX5, 3)) 1 dX5_low_10 rfl inX5 (by decide) wf_X5_15 hT.1 rfl ?_
    refine xk_iload_n dX5_low_13 rfl ?_
    refine xk_aaldJ dX5_low_14 hT.2.1 q1 q5 ?_
    refine xk_iload_n dX5_low_15 rfl ?_
    refine xk_lald dX5_low_16 (hT.2.2 i hi) q2 ?_
    refine xk_goto 21 dX5_low_17 (by decide) ?_
    exact xk_lret rfl dX5_low_21 (Nat.le_refl _) (Nat.le_refl _) ⟨by first | (rw [tLow_nI hn hi hj hij, q4]; rfl) | (unfold tLow; rw [if_neg (by rw [c6]; decide)]; rfl), rfl⟩

set_option maxHeartbeats 4000000 in
set_option maxRecDepth 100000 in
theorem y_X5_isFull (d : Nat) {hs : xk_H} {t n fl : Nat} {w : tbW} (hn : n ≤ 6) (hT : tbA hs t n w fl) (h2 : 2 ≤ n) (hfl : fl < 100) : xk_F d mX5_isFull [.ref t] hs (some (.int (xk_b (decide (fl = n * (n - 1) / 2))))) hs := by
  have e1 : nI n * (nI n - 1) / 2 = nI (n * (n - 1) / 2) := by
    rw [show (1 : Int32) = nI 1 from rfl, pk_sub (by omega), pk_mul, show (2 : Int32) = nI 2 from rfl, pk_div (Nat.lt_of_le_of_lt (Nat.mul_le_mul hn (show n - 1 ≤ 6 by omega)) (by decide)) (by decide) (by decide)]
  have e2 : n * (n - 1) / 2 < 100 := Nat.lt_of_le_of_lt (Nat.div_le_self _ _) (Nat.lt_of_le_of_lt (Nat.mul_le_mul hn (show n - 1 ≤ 6 by omega)) (by decide))
  refine xk_Y.ofX (k := 0) (ls := [some (.ref t)]) (by decide) rfl rfl ?_
  refine xk_aload_n dX5_isFull_0 rfl ?_
  refine xk_get (ci := 4) (r := (RX5, TX5, 3)) 2 dX5_isFull_1 rfl inX5 (by decide) wf_X5_34 hT.1 rfl ?_
  refine xk_aload_n dX5_isFull_4 rfl ?_
  refine xk_get (ci := 4) (r := (RX5, TX5, 3)) 0 dX5_isFull_5 rfl inX5 (by decide) wf_X5_7 hT.1 rfl ?_
  refine xk_aload_n dX5_isFull_8 rfl ?_
  refine xk_get (ci := 4) (r := (RX5, TX5, 3)) 0 dX5_isFull_9 rfl inX5 (by decide) wf_X5_7 hT.1 rfl ?_
  refine xk_iconst (1) dX5_isFull_12 (by decide) ?_
  refine xk_isub dX5_isFull_13 ?_
  refine xk_imul dX5_isFull_14 ?_
  refine xk_iconst (2) dX5_isFull_15 (by decide) ?_
  refine xk_idiv dX5_isFull_16 (by decide) ?_
  rw [e1]
  refine xk_icmp_ne 24 dX5_isFull_17 (by decide) (fun c17 => ?_) (fun c17 => ?_)
  · rw [nI_eq (by omega) (by omega)] at c17
    refine xk_iconst (0) dX5_isFull_24 (by decide) ?_
    exact xk_zret rfl (by rfl) dX5_isFull_25 (Nat.le_refl _) (Nat.le_refl _) ⟨by first | rw [xd_t c17] | rw [xd_f c17], rfl⟩
  · rw [nI_eq (by omega) (by omega)] at c17
    refine xk_iconst (1) dX5_isFull_20 (by decide) ?_
    refine xk_goto 25 dX5_isFull_21 (by decide) ?_
    exact xk_zret rfl (by rfl) dX5_isFull_25 (Nat.le_refl _) (Nat.le_refl _) ⟨by first | rw [xd_t c17] | rw [xd_f c17], rfl⟩

set_option maxHeartbeats 4000000 in
set_option maxRecDepth 100000 in
theorem y_X5_put (d : Nat) {hs : xk_H} {t n fl : Nat} {w : tbW} {i j p q r s : Nat} (hn : n ≤ 6) (hT : tbA hs t n w fl) (ho : tbOK n w) (hi : i < n) (hj : j < n) (hij : i ≠ j) (hp : p ≤ 9) (hq : q ≤ 9) (hr : r ≤ 9) (hs2 : s ≤ 9) : xk_Y (d + 3) 0 0 mX5_put false [.ref t, .int (nI i), .int (nI j), .long (fr p q), .long (fr r s)] hs (fun r' h => r' = none ∧ tbA h t n (tbSet w i j (p, q) (s, r)) (if w i j = (0, 1) then fl + 1 else fl) ∧ xfr (tbS t n) hs h) := by
  have q1 : vp_in (nI i) n := vp_in_nI hi (by omega)
  have q2 : vp_in (nI j) n := vp_in_nI hj (by omega)
  have q3 : (nI i).toNatClampNeg = i := nI_clamp (by omega)
  have q4 : (nI j).toNatClampNeg = j := nI_clamp (by omega)
  have q5 : (if (nI i).toNatClampNeg < n then some (t + 2 + (nI i).toNatClampNeg) else none) = some (t + 2 + i) := by rw [q3, if_pos hi]
  have q6 : (if (nI j).toNatClampNeg < n then some (t + 2 + (nI j).toNatClampNeg) else none) = some (t + 2 + j) := by rw [q4, if_pos hj]
  have hH : tHas n w (nI i) (nI j) = decide (w i j ≠ (0, 1)) := by rw [tHas_nI hn (by omega) (by omega)]; simp [hi, hj, hij]
  have j29 : ∀ (fl' : Nat) (hs1 : xk_H), hs1 = hs.set t (.inr (4, [.int (nI n), .ref (t + 1), .int (nI fl')])) → fl' = (if w i j = (0, 1) then fl + 1 else fl) → xk_X (d + 3) 0 0 mX5_put (xk_fx false hs) (fun r' h => r' = none ∧ tbA h t n (tbSet w i j (p, q) (s, r)) (if w i j = (0, 1) then fl + 1 else fl) ∧ xfr (tbS t n) hs h) 0 0 29 [some (.ref t), some (.int (nI i)), some (.int (nI j)), some (.long (fr p q)), none, some (.long (fr r s)), none] [] hs1 := by
    intro fl' hs1 e1 e2
    subst e1
    have g1 := xs_at (e := .inr (4, [.int (nI n), .ref (t + 1), .int (nI fl')])) hT.1
    have g2 : (hs.set t (.inr (4, [.int (nI n), .ref (t + 1), .int (nI fl')])))[t + 1]? = _ := (xs_ne (by omega)).trans hT.2.1
    have g3 : (hs.set t (.inr (4, [.int (nI n), .ref (t + 1), .int (nI fl')])))[t + 2 + i]? = _ := (xs_ne (by omega)).trans (hT.2.2 i hi)
    refine xk_aload_n dX5_put_29 rfl ?_
    refine xk_get (ci := 4) (r := (RX5, TX5, 3)) 1 dX5_put_30 rfl inX5 (by decide) wf_X5_15 g1 rfl ?_
    refine xk_iload_n dX5_put_33 rfl ?_
    refine xk_aaldJ dX5_put_34 g2 q1 q5 ?_
    refine xk_iload_n dX5_put_35 rfl ?_
    refine xk_lload_n dX5_put_36 rfl ?_
    refine xk_last dX5_put_37 g3 q2 ?_
    rw [q4]
    refine xk_aload_n dX5_put_38 rfl ?_
    refine xk_get (ci := 4) (r := (RX5, TX5, 3)) 1 dX5_put_39 rfl inX5 (by decide) wf_X5_15 ((xs_ne (by omega)).trans g1) rfl ?_
    refine xk_iload_n dX5_put_42 rfl ?_
    refine xk_aaldJ dX5_put_43 ((xs_ne (by omega)).trans g2) q2 q6 ?_
    refine xk_iload_n dX5_put_44 rfl ?_
    refine xk_lload dX5_put_45 rfl ?_
    refine xk_s1c (M' := mX1_inverse) (d' := (d + 1) + 1) dX5_put_47 wm_X5_40 cv_X1_inverse wt_X1_inverse (by omega) (Nat.le_refl _) (Nat.le_refl _) (Nat.le_of_ble_eq_true rfl) (y_X1_inverse (d + 1) (by omega) (by omega)) rfl ?_
    have g4 : ((hs.set t (.inr (4, [.int (nI n), .ref (t + 1), .int (nI fl')]))).set (t + 2 + i) (.inl (1, n, .inr (.inl (vp_updL (tbRow w i) j (fr p q))))))[t + 2 + j]? = _ := (xs_ne (by omega)).trans ((xs_ne (by omega)).trans (hT.2.2 j hj))
    refine xk_last dX5_put_50 g4 q1 ?_
    rw [q3]
    exact xk_vret rfl dX5_put_51 (Nat.le_refl _) (Nat.le_refl _) ⟨rfl, by rw [← e2]; exact hT.put (a := (p, q)) (b := (s, r)) hi hj hij, ((xfr.rf.set ⟨by omega, by omega⟩).set ⟨by omega, by omega⟩).set ⟨by omega, by omega⟩⟩
  refine xk_Y.ofX (k := 0) (ls := [some (.ref t), some (.int (nI i)), some (.int (nI j)), some (.long (fr p q)), none, some (.long (fr r s)), none]) (by decide) rfl rfl ?_
  refine xk_aload_n dX5_put_0 rfl ?_
  refine xk_iload_n dX5_put_1 rfl ?_
  refine xk_iload_n dX5_put_2 rfl ?_
  refine xk_v2 (M' := mX5_isPair) (d' := (d + 1) + 1) (ci := 4) (r0 := (RX5, TX5, 3)) dX5_put_3 wm_X5_30 cv_X5_isPair wi_X5_isPair wl_X5_isPair (by omega) (Nat.le_refl _) (Nat.le_refl _) rfl rfl hT.1 (Nat.le_of_ble_eq_true rfl) (y_X5_isPair (d + 1) hT) rfl ?_
  refine xk_ifb_ne 10 dX5_put_6 (by decide) (fun c6 => ?_) (fun c6 => ?_)
  · refine xk_aload_n dX5_put_10 rfl ?_
    refine xk_iload_n dX5_put_11 rfl ?_
    refine xk_iload_n dX5_put_12 rfl ?_
    refine xk_v2 (M' := mX5_holds) (d' := d + 2) (ci := 4) (r0 := (RX5, TX5, 3)) dX5_put_13 wm_X5_37 cv_X5_holds wi_X5_holds wl_X5_holds (by omega) (Nat.le_refl _) (Nat.le_refl _) rfl rfl hT.1 (Nat.le_of_ble_eq_true rfl) (y_X5_holds d hn hT ho) rfl ?_
    refine xk_ifb_ne 29 dX5_put_16 (by decide) (fun c16 => ?_) (fun c16 => ?_)
    · rw [hH] at c16
      have c17 : ¬ w i j = (0, 1) := of_decide_eq_true c16
      first | exact j29 (fl + 1) _ rfl (by rw [if_pos c17]) | exact j29 fl _ (xs_same hT.1).symm (by rw [if_neg c17])
    · rw [hH] at c16
      have c17 : w i j = (0, 1) := by simpa using c16
      refine xk_aload_n dX5_put_19 rfl ?_
      refine xk_dup dX5_put_20 rfl ?_
      refine xk_get (ci := 4) (r := (RX5, TX5, 3)) 2 dX5_put_21 rfl inX5 (by decide) wf_X5_34 hT.1 rfl ?_
      refine xk_iconst (1) dX5_put_24 (by decide) ?_
      refine xk_iadd dX5_put_25 ?_
      rw [nI_1]
      refine xk_put (ci := 4) (r := (RX5, TX5, 3)) 2 tyX5 dX5_put_26 rfl inX5 tyX5_ok nmX5 (by decide) wf_X5_34 rfl (fun _ => rfl) (fun _ => rfl) hT.1 (Nat.le_of_ble_eq_true rfl) ?_
      dsimp only [List.set]
      first | exact j29 (fl + 1) _ rfl (by rw [if_pos c17]) | exact j29 fl _ (xs_same hT.1).symm (by rw [if_neg c17])
  · exact absurd c6 (by rw [tPair_t hn hi hj hij]; decide)

set_option maxHeartbeats 4000000 in
set_option maxRecDepth 100000 in
theorem y_X5_drop (d : Nat) {hs : xk_H} {t n fl : Nat} {w : tbW} {x y : Int32} (hn : n ≤ 6) (hT : tbA hs t n w fl) (ho : tbOK n w) (hfl : tHas n w x y = true → 1 ≤ fl) : xk_Y (d + 3) 0 0 mX5_drop false [.ref t, .int x, .int y] hs (fun r' h => r' = some (.int (xk_b (tHas n w x y))) ∧ (if tHas n w x y = true then tbA h t n (tbSet w x.toNatClampNeg y.toNatClampNeg (0, 1) (0, 1)) (fl - 1) ∧ xfr (tbS t n) hs h else h = hs)) := by
  refine xk_Y.ofX (k := 0) (ls := [some (.ref t), some (.int x), some (.int y)]) (by decide) rfl rfl ?_
  refine xk_aload_n dX5_drop_0 rfl ?_
  refine xk_iload_n dX5_drop_1 rfl ?_
  refine xk_iload_n dX5_drop_2 rfl ?_
  refine xk_v2 (M' := mX5_holds) (d' := d + 2) (ci := 4) (r0 := (RX5, TX5, 3)) dX5_drop_3 wm_X5_37 cv_X5_holds wi_X5_holds wl_X5_holds (by omega) (Nat.le_refl _) (Nat.le_refl _) rfl rfl hT.1 (Nat.le_of_ble_eq_true rfl) (y_X5_holds d hn hT ho) rfl ?_
  refine xk_ifb_ne 11 dX5_drop_6 (by decide) (fun c6 => ?_) (fun c6 => ?_)
  · obtain ⟨i, j, hi, hj, hij, rfl, rfl, c7⟩ := tHas_of hn c6
    have q1 : vp_in (nI i) n := vp_in_nI hi (by omega)
    have q2 : vp_in (nI j) n := vp_in_nI hj (by omega)
    have q3 : (nI i).toNatClampNeg = i := nI_clamp (by omega)
    have q4 : (nI j).toNatClampNeg = j := nI_clamp (by omega)
    have q5 : (if (nI i).toNatClampNeg < n then some (t + 2 + (nI i).toNatClampNeg) else none) = some (t + 2 + i) := by rw [q3, if_pos hi]
    have q6 : (if (nI j).toNatClampNeg < n then some (t + 2 + (nI j).toNatClampNeg) else none) = some (t + 2 + j) := by rw [q4, if_pos hj]
    skip
    refine xk_aload_n dX5_drop_11 rfl ?_
    refine xk_dup dX5_drop_12 rfl ?_
    refine xk_get (ci := 4) (r := (RX5, TX5, 3)) 2 dX5_drop_13 rfl inX5 (by decide) wf_X5_34 hT.1 rfl ?_
    refine xk_iconst (1) dX5_drop_16 (by decide) ?_
    refine xk_isub dX5_drop_17 ?_
    rw [show (1 : Int32) = nI 1 from rfl, pk_sub (hfl c6)]
    refine xk_put (ci := 4) (r := (RX5, TX5, 3)) 2 tyX5 dX5_drop_18 rfl inX5 tyX5_ok nmX5 (by decide) wf_X5_34 rfl (fun _ => rfl) (fun _ => rfl) hT.1 (Nat.le_of_ble_eq_true rfl) ?_
    dsimp only [List.set]
    have g1 := xs_at (e := .inr (4, [.int (nI n), .ref (t + 1), .int (nI (fl - 1))])) hT.1
    have g2 : (hs.set t (.inr (4, [.int (nI n), .ref (t + 1), .int (nI (fl - 1))])))[t + 1]? = _ := (xs_ne (by omega)).trans hT.2.1
    have g3 : (hs.set t (.inr (4, [.int (nI n), .ref (t + 1), .int (nI (fl - 1))])))[t + 2 + i]? = _ := (xs_ne (by omega)).trans (hT.2.2 i hi)
    refine xk_aload_n dX5_drop_21 rfl ?_
    refine xk_get (ci := 4) (r := (RX5, TX5, 3)) 1 dX5_drop_22 rfl inX5 (by decide) wf_X5_15 g1 rfl ?_
    refine xk_iload_n dX5_drop_25 rfl ?_
    refine xk_aaldJ dX5_drop_26 g2 q1 q5 ?_
    refine xk_iload_n dX5_drop_27 rfl ?_
    refine xk_lconst (1) dX5_drop_28 (by decide) ?_
    refine xk_last dX5_drop_29 g3 q2 ?_
    rw [q4]
    have g4 : ((hs.set t (.inr (4, [.int (nI n), .ref (t + 1), .int (nI (fl - 1))]))).set (t + 2 + i) (.inl (1, n, .inr (.inl (vp_updL (tbRow w i) j 1)))))[t + 2 + j]? = _ := (xs_ne (by omega)).trans ((xs_ne (by omega)).trans (hT.2.2 j hj))
    refine xk_aload_n dX5_drop_30 rfl ?_
    refine xk_get (ci := 4) (r := (RX5, TX5, 3)) 1 dX5_drop_31 rfl inX5 (by decide) wf_X5_15 ((xs_ne (by omega)).trans g1) rfl ?_
    refine xk_iload_n dX5_drop_34 rfl ?_
    refine xk_aaldJ dX5_drop_35 ((xs_ne (by omega)).trans g2) q2 q6 ?_
    refine xk_iload_n dX5_drop_36 rfl ?_
    refine xk_lconst (1) dX5_drop_37 (by decide) ?_
    refine xk_last dX5_drop_38 g4 q1 ?_
    rw [q3]
    refine xk_iconst (1) dX5_drop_39 (by decide) ?_
    exact xk_zret rfl (by rfl) dX5_drop_40 (Nat.le_refl _) (Nat.le_refl _) ⟨by rw [xb_t c6], by rw [if_pos c6]; exact ⟨hT.put (a := (0, 1)) (b := (0, 1)) hi hj hij, ((xfr.rf.set ⟨by omega, by omega⟩).set ⟨by omega, by omega⟩).set ⟨by omega, by omega⟩⟩⟩
  · refine xk_iconst (0) dX5_drop_9 (by decide) ?_
    exact xk_zret rfl (by rfl) dX5_drop_10 (Nat.le_refl _) (Nat.le_refl _) ⟨by rw [xb_f c6], by rw [if_neg (by rw [c6]; decide)]⟩

