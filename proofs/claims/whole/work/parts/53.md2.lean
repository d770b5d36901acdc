/-! The reference: say, unsay, said, counts, spans. Laid by a program of our own. -/
set_option maxHeartbeats 4000000 in
set_option maxRecDepth 100000 in
theorem y_X9_say (d : Nat) {hs : xk_H} {m n : Nat} {T : mdT} (hn : n ≤ 6) (h2 : 2 ≤ n) (hA : mdA hs m n T) (hK : mdOK T) {i j p q : Int32} : xk_Y (d + 3) 0 0 mX9_say false [.ref m, .int i, .int j, .int p, .int q] hs (fun r' h => r' = some (.int (xk_b (sayC n i j p q))) ∧ mdA h m n (mSayT n T i j p q) ∧ xfr (mdR m) hs h) := by
  obtain ⟨⟨s, hO⟩, hC, hW⟩ := id hA
  have cF : (tPair n i j && (dig p && dig q)) = false → sayC n i j p q = false := fun q => q
  have cW : sayC n i j p q = false → mSayT n T i j p q = T := fun q => by unfold mSayT; rw [if_neg (by rw [q]; decide)]
  refine xk_Y.ofX (k := 2) (ls := [some (.ref m), some (.int i), some (.int j), some (.int p), some (.int q), none, none]) (by decide) rfl rfl ?_
  refine xk_aload_n dX9_say_0 rfl ?_
  refine xk_iload_n dX9_say_1 rfl ?_
  refine xk_iload_n dX9_say_2 rfl ?_
  refine xk_v2 (M' := mX9_areTwo) (d' := (d + 1) + 1) (ci := 8) (r0 := (RX9, TX9, 25)) dX9_say_3 wm_X9_77 cv_X9_areTwo wi_X9_areTwo wl_X9_areTwo (by omega) (Nat.le_refl _) (Nat.le_refl _) rfl rfl hO (Nat.le_of_ble_eq_true rfl) (y_X9_areTwo (d + 1) hn h2 hO) rfl ?_
  refine xk_ifb_eq 30 dX9_say_6 (by decide) (fun c6 => ?_) (fun c6 => ?_)
  · refine xk_iconst (0) dX9_say_30 (by decide) ?_
    exact xk_zret rfl (by rfl) dX9_say_31 (Nat.le_refl _) (Nat.le_refl _) ⟨by rw [xb_f (cF (by simp [*]))], by rw [cW (cF (by simp [*]))]; exact hA, xfr.rf⟩
  · refine xk_iload_n dX9_say_9 rfl ?_
    refine xk_iconst (1) dX9_say_10 (by decide) ?_
    refine xk_bipush (9) dX9_say_11 (by decide) ?_
    refine xk_s3c (M' := mX9_in) (d' := (d + 2)) dX9_say_13 wm_X9_73 cv_X9_in wt_X9_in (by omega) (Nat.le_refl _) (Nat.le_refl _) (Nat.le_of_ble_eq_true rfl) (y_X9_in (d + 2)) rfl ?_
    refine xk_ifb_eq 30 dX9_say_16 (by decide) (fun c16 => ?_) (fun c16 => ?_)
    · rw [inB_dig] at c16
      refine xk_iconst (0) dX9_say_30 (by decide) ?_
      exact xk_zret rfl (by rfl) dX9_say_31 (Nat.le_refl _) (Nat.le_refl _) ⟨by rw [xb_f (cF (by simp [*]))], by rw [cW (cF (by simp [*]))]; exact hA, xfr.rf⟩
    · rw [inB_dig] at c16
      refine xk_iload dX9_say_19 rfl ?_
      refine xk_iconst (1) dX9_say_21 (by decide) ?_
      refine xk_bipush (9) dX9_say_22 (by decide) ?_
      refine xk_s3c (M' := mX9_in) (d' := (d + 2)) dX9_say_24 wm_X9_73 cv_X9_in wt_X9_in (by omega) (Nat.le_refl _) (Nat.le_refl _) (Nat.le_of_ble_eq_true rfl) (y_X9_in (d + 2)) rfl ?_
      refine xk_ifb_ne 32 dX9_say_27 (by decide) (fun c27 => ?_) (fun c27 => ?_)
      · rw [inB_dig] at c27
        obtain ⟨a, b, ha, hb, hab, rfl, rfl⟩ := tPair_of hn c6
        have hp := pidx_ok n (by omega) h2 a ha b hb hab
        have hnp := np_ok n (by omega)
        have q3 : (nI (pidx n a b)).toNatClampNeg = pidx n a b := nI_clamp (by omega)
        have q1 : vp_in (nI (pidx n a b)) 15 := vp_in_nI (by omega) (by omega)
        have e1 : (nI a).toNatClampNeg = a := nI_clamp (by omega)
        have e2 : (nI b).toNatClampNeg = b := nI_clamp (by omega)
        obtain ⟨p0, hp1, hp2, rfl⟩ := dig_of c16
        obtain ⟨q0, hq1, hq2, rfl⟩ := dig_of c27
        have cS : sayC n (nI a) (nI b) (nI p0) (nI q0) = true := by unfold sayC; rw [c6, c16, c27]; rfl
        have e3 : (nI p0).toNatClampNeg = p0 := nI_clamp (by omega)
        have e4 : (nI q0).toNatClampNeg = q0 := nI_clamp (by omega)
        have hg1 : 0 < Nat.gcd p0 q0 := Nat.gcd_pos_of_pos_left q0 (by omega)
        have hg2 : Nat.gcd p0 q0 ≤ 9 := Nat.le_trans (Nat.gcd_le_left q0 (by omega)) hp2
        refine xk_iload_n dX9_say_32 rfl ?_
        refine xk_i2l dX9_say_33 ?_
        rw [nI_l (by omega)]
        refine xk_iload dX9_say_34 rfl ?_
        refine xk_i2l dX9_say_36 ?_
        rw [nI_l (by omega)]
        refine xk_s2c (M' := mX9_divisor) (d' := (d + 2)) dX9_say_37 wm_X9_81 cv_X9_divisor wt_X9_divisor (by omega) (Nat.le_refl _) (Nat.le_refl _) (Nat.le_of_ble_eq_true rfl) (y_X9_divisor (d + 2) (by omega) (by omega)) rfl ?_
        refine xk_l2i dX9_say_40 ?_
        rw [lN_i]
        refine xk_istore dX9_say_41 (by decide) ?_
        dsimp only [xk_s1, xk_s2, xk_kill]
        refine xk_aload_n dX9_say_43 rfl ?_
        refine xk_iload_n dX9_say_44 rfl ?_
        refine xk_iload_n dX9_say_45 rfl ?_
        refine xk_v2 (M' := mX9_pair) (d' := (d + 1) + 1) (ci := 8) (r0 := (RX9, TX9, 25)) dX9_say_46 wm_X9_85 cv_X9_pair wi_X9_pair wl_X9_pair (by omega) (Nat.le_refl _) (Nat.le_refl _) rfl rfl hO (Nat.le_of_ble_eq_true rfl) (y_X9_pair (d + 1) hn h2 hO hC ha hb hab) rfl ?_
        refine xk_istore dX9_say_49 (by decide) ?_
        dsimp only [xk_s1, xk_s2, xk_kill]
        refine xk_aload_n dX9_say_51 rfl ?_
        refine xk_get (ci := 8) (r := (RX9, TX9, 25)) 2 dX9_say_52 rfl inX9 (by decide) wf_X9_9 hO rfl ?_
        refine xk_iload dX9_say_55 rfl ?_
        refine xk_iload_n dX9_say_57 rfl ?_
        refine xk_iload_n dX9_say_58 rfl ?_
        refine xk_icmp_ge 66 dX9_say_59 (by decide) (fun c59 => ?_) (fun c59 => ?_)
        · have c9 : ¬ a < b := fun z => absurd c59 (nI_ge z (by omega))
          refine xk_iload dX9_say_66 rfl ?_
          refine xk_iload dX9_say_68 rfl ?_
          refine xk_idiv dX9_say_70 (fun z => absurd ((nI_eq (b := 0) (by omega) (by decide)).mp z) (by omega)) ?_
          rw [pk_div (by omega) hg1 (by omega)]
          refine xk_iast dX9_say_71 hC.1 q1 ?_
          rw [q3, iarr_upd]
          refine xk_aload_n dX9_say_72 rfl ?_
          refine xk_get (ci := 8) (r := (RX9, TX9, 25)) 3 dX9_say_73 rfl inX9 (by decide) wf_X9_13 ((xs_ne (by omega)).trans hO) rfl ?_
          refine xk_iload dX9_say_76 rfl ?_
          refine xk_iload_n dX9_say_78 rfl ?_
          refine xk_iload_n dX9_say_79 rfl ?_
          refine xk_icmp_ge 88 dX9_say_80 (by decide) (fun c80 => ?_) (fun c80 => ?_)
          · refine xk_iload_n dX9_say_88 rfl ?_
            refine xk_iload dX9_say_89 rfl ?_
            refine xk_idiv dX9_say_91 (fun z => absurd ((nI_eq (b := 0) (by omega) (by decide)).mp z) (by omega)) ?_
            rw [pk_div (by omega) hg1 (by omega)]
            refine xk_iast dX9_say_92 ((xs_ne (by omega)).trans hC.2.1) q1 ?_
            try rw [q3]
            rw [iarr_upd]
            refine xk_iconst (1) dX9_say_93 (by decide) ?_
            exact xk_zret rfl (by rfl) dX9_say_94 (Nat.le_refl _) (Nat.le_refl _) ⟨by rw [xb_t cS], ⟨⟨s, (xs_ne (by omega)).trans ((xs_ne (by omega)).trans hO)⟩, by unfold mSayT mSay; rw [if_pos cS, e1, e2, e3, e4, if_neg c9, if_neg c9]; exact hC.say, hW.kept ((xfr.rf (S := fun k => k = m + 1 ∨ k = m + 2)).set (Or.inl rfl) |>.set (Or.inr rfl)) (by omega)⟩, (xfr.rf.set ⟨by omega, by omega⟩).set ⟨by omega, by omega⟩⟩
          · exact absurd (nI_le (by omega) (by omega)) c80
        · have c9 : a < b := by
            rcases Nat.lt_or_ge a b with z | z
            · exact z
            · exact absurd (nI_le z (by omega)) c59
          refine xk_iload_n dX9_say_62 rfl ?_
          refine xk_goto 68 dX9_say_63 (by decide) ?_
          refine xk_iload dX9_say_68 rfl ?_
          refine xk_idiv dX9_say_70 (fun z => absurd ((nI_eq (b := 0) (by omega) (by decide)).mp z) (by omega)) ?_
          rw [pk_div (by omega) hg1 (by omega)]
          refine xk_iast dX9_say_71 hC.1 q1 ?_
          rw [q3, iarr_upd]
          refine xk_aload_n dX9_say_72 rfl ?_
          refine xk_get (ci := 8) (r := (RX9, TX9, 25)) 3 dX9_say_73 rfl inX9 (by decide) wf_X9_13 ((xs_ne (by omega)).trans hO) rfl ?_
          refine xk_iload dX9_say_76 rfl ?_
          refine xk_iload_n dX9_say_78 rfl ?_
          refine xk_iload_n dX9_say_79 rfl ?_
          refine xk_icmp_ge 88 dX9_say_80 (by decide) (fun c80 => ?_) (fun c80 => ?_)
          · exact absurd c80 (nI_ge c9 (by omega))
          · refine xk_iload dX9_say_83 rfl ?_
            refine xk_goto 89 dX9_say_85 (by decide) ?_
            refine xk_iload dX9_say_89 rfl ?_
            refine xk_idiv dX9_say_91 (fun z => absurd ((nI_eq (b := 0) (by omega) (by decide)).mp z) (by omega)) ?_
            rw [pk_div (by omega) hg1 (by omega)]
            refine xk_iast dX9_say_92 ((xs_ne (by omega)).trans hC.2.1) q1 ?_
            try rw [q3]
            rw [iarr_upd]
            refine xk_iconst (1) dX9_say_93 (by decide) ?_
            exact xk_zret rfl (by rfl) dX9_say_94 (Nat.le_refl _) (Nat.le_refl _) ⟨by rw [xb_t cS], ⟨⟨s, (xs_ne (by omega)).trans ((xs_ne (by omega)).trans hO)⟩, by unfold mSayT mSay; rw [if_pos cS, e1, e2, e3, e4, if_pos c9, if_pos c9]; exact hC.say, hW.kept ((xfr.rf (S := fun k => k = m + 1 ∨ k = m + 2)).set (Or.inl rfl) |>.set (Or.inr rfl)) (by omega)⟩, (xfr.rf.set ⟨by omega, by omega⟩).set ⟨by omega, by omega⟩⟩
      · rw [inB_dig] at c27
        refine xk_iconst (0) dX9_say_30 (by decide) ?_
        exact xk_zret rfl (by rfl) dX9_say_31 (Nat.le_refl _) (Nat.le_refl _) ⟨by rw [xb_f (cF (by simp [*]))], by rw [cW (cF (by simp [*]))]; exact hA, xfr.rf⟩

set_option maxHeartbeats 4000000 in
set_option maxRecDepth 100000 in
theorem y_X9_unsay (d : Nat) {hs : xk_H} {m n : Nat} {T : mdT} (hn : n ≤ 6) (h2 : 2 ≤ n) (hA : mdA hs m n T) (hK : mdOK T) {i j : Int32} : xk_Y (d + 3) 0 0 mX9_unsay false [.ref m, .int i, .int j] hs (fun r' h => r' = some (.int (xk_b (tPair n i j && decide (0 < T.1 (pidx n i.toNatClampNeg j.toNatClampNeg))))) ∧ mdA h m n (if (tPair n i j && decide (0 < T.1 (pidx n i.toNatClampNeg j.toNatClampNeg))) = true then (updN T.1 (pidx n i.toNatClampNeg j.toNatClampNeg) 0, T.2) else T) ∧ xfr (mdR m) hs h) := by
  obtain ⟨⟨s, hO⟩, hC, hW⟩ := id hA
  refine xk_Y.ofX (k := 0) (ls := [some (.ref m), some (.int i), some (.int j)]) (by decide) rfl rfl ?_
  refine xk_aload_n dX9_unsay_0 rfl ?_
  refine xk_iload_n dX9_unsay_1 rfl ?_
  refine xk_iload_n dX9_unsay_2 rfl ?_
  refine xk_v2 (M' := mX9_areTwo) (d' := (d + 1) + 1) (ci := 8) (r0 := (RX9, TX9, 25)) dX9_unsay_3 wm_X9_77 cv_X9_areTwo wi_X9_areTwo wl_X9_areTwo (by omega) (Nat.le_refl _) (Nat.le_refl _) rfl rfl hO (Nat.le_of_ble_eq_true rfl) (y_X9_areTwo (d + 1) hn h2 hO) rfl ?_
  refine xk_ifb_eq 23 dX9_unsay_6 (by decide) (fun c6 => ?_) (fun c6 => ?_)
  · refine xk_iconst (0) dX9_unsay_23 (by decide) ?_
    exact xk_zret rfl (by rfl) dX9_unsay_24 (Nat.le_refl _) (Nat.le_refl _) ⟨by first | rw [xb_f c21] | rw [xb_f (by rw [c6]; rfl)], by first | (rw [if_neg (by rw [c21]; decide)]; exact hA) | (rw [if_neg (by simp [c6])]; exact hA), xfr.rf⟩
  · obtain ⟨a, b, ha, hb, hab, rfl, rfl⟩ := tPair_of hn c6
    have hp := pidx_ok n (by omega) h2 a ha b hb hab
    have hnp := np_ok n (by omega)
    have q3 : (nI (pidx n a b)).toNatClampNeg = pidx n a b := nI_clamp (by omega)
    have q1 : vp_in (nI (pidx n a b)) 15 := vp_in_nI (by omega) (by omega)
    have e1 : (nI a).toNatClampNeg = a := nI_clamp (by omega)
    have e2 : (nI b).toNatClampNeg = b := nI_clamp (by omega)
    have hk9 : T.1 (pidx n a b) ≤ 9 := by have := hK (pidx n a b); omega
    refine xk_aload_n dX9_unsay_9 rfl ?_
    refine xk_get (ci := 8) (r := (RX9, TX9, 25)) 2 dX9_unsay_10 rfl inX9 (by decide) wf_X9_9 hO rfl ?_
    refine xk_aload_n dX9_unsay_13 rfl ?_
    refine xk_iload_n dX9_unsay_14 rfl ?_
    refine xk_iload_n dX9_unsay_15 rfl ?_
    refine xk_v2 (M' := mX9_pair) (d' := (d + 1) + 1) (ci := 8) (r0 := (RX9, TX9, 25)) dX9_unsay_16 wm_X9_85 cv_X9_pair wi_X9_pair wl_X9_pair (by omega) (Nat.le_refl _) (Nat.le_refl _) rfl rfl hO (Nat.le_of_ble_eq_true rfl) (y_X9_pair (d + 1) hn h2 hO hC ha hb hab) rfl ?_
    refine xk_iald dX9_unsay_19 hC.1 q1 ?_
    rw [q3]
    refine xk_if_ne 25 dX9_unsay_20 (by decide) (fun c20 => ?_) (fun c20 => ?_)
    · have c21 : (tPair n (nI a) (nI b) && decide (0 < T.1 (pidx n (nI a).toNatClampNeg (nI b).toNatClampNeg))) = true := by
        rw [c6, e1, e2]
        simp only [Bool.true_and, decide_eq_true_eq]
        rcases Nat.eq_zero_or_pos (T.1 (pidx n a b)) with z | z
        · exact absurd (by rw [z]; rfl) c20
        · exact z
      refine xk_aload_n dX9_unsay_25 rfl ?_
      refine xk_get (ci := 8) (r := (RX9, TX9, 25)) 2 dX9_unsay_26 rfl inX9 (by decide) wf_X9_9 hO rfl ?_
      refine xk_aload_n dX9_unsay_29 rfl ?_
      refine xk_iload_n dX9_unsay_30 rfl ?_
      refine xk_iload_n dX9_unsay_31 rfl ?_
      refine xk_v2 (M' := mX9_pair) (d' := (d + 1) + 1) (ci := 8) (r0 := (RX9, TX9, 25)) dX9_unsay_32 wm_X9_85 cv_X9_pair wi_X9_pair wl_X9_pair (by omega) (Nat.le_refl _) (Nat.le_refl _) rfl rfl hO (Nat.le_of_ble_eq_true rfl) (y_X9_pair (d + 1) hn h2 hO hC ha hb hab) rfl ?_
      refine xk_iconst (0) dX9_unsay_35 (by decide) ?_
      refine xk_iast dX9_unsay_36 hC.1 q1 ?_
      rw [q3, show (0 : Int32) = nI 0 from rfl, iarr_upd]
      refine xk_iconst (1) dX9_unsay_37 (by decide) ?_
      exact xk_zret rfl (by rfl) dX9_unsay_38 (Nat.le_refl _) (Nat.le_refl _) ⟨by rw [xb_t c21], by rw [if_pos c21, e1, e2]; exact ⟨⟨s, (xs_ne (by omega)).trans hO⟩, hC.top, hW.kept ((xfr.rf (S := fun k => k = m + 1)).set rfl) (by omega)⟩, xfr.rf.set ⟨by omega, by omega⟩⟩
    · have c21 : (tPair n (nI a) (nI b) && decide (0 < T.1 (pidx n (nI a).toNatClampNeg (nI b).toNatClampNeg))) = false := by
        rw [c6, e1, e2]
        simp only [Bool.true_and, decide_eq_false_iff_not]
        have := (nI_eq (b := 0) (by omega) (by decide)).mp c20
        omega
      refine xk_iconst (0) dX9_unsay_23 (by decide) ?_
      exact xk_zret rfl (by rfl) dX9_unsay_24 (Nat.le_refl _) (Nat.le_refl _) ⟨by first | rw [xb_f c21] | rw [xb_f (by rw [c6]; rfl)], by first | (rw [if_neg (by rw [c21]; decide)]; exact hA) | (rw [if_neg (by simp [c6])]; exact hA), xfr.rf⟩

set_option maxHeartbeats 4000000 in
set_option maxRecDepth 100000 in
theorem y_X9_unspan (d : Nat) {hs : xk_H} {m n : Nat} {T : mdT} (hn : n ≤ 6) (h2 : 2 ≤ n) (hA : mdA hs m n T) (hK : mdOK T) {i j : Int32} : xk_Y (d + 3) 0 0 mX9_unspan false [.ref m, .int i, .int j] hs (fun r' h => r' = some (.int (xk_b (tPair n i j && decide (0 < T.2.2.1 (pidx n i.toNatClampNeg j.toNatClampNeg))))) ∧ mdA h m n (if (tPair n i j && decide (0 < T.2.2.1 (pidx n i.toNatClampNeg j.toNatClampNeg))) = true then (T.1, T.2.1, updN T.2.2.1 (pidx n i.toNatClampNeg j.toNatClampNeg) 0, T.2.2.2) else T) ∧ xfr (mdR m) hs h) := by
  obtain ⟨⟨s, hO⟩, hC, hW⟩ := id hA
  refine xk_Y.ofX (k := 0) (ls := [some (.ref m), some (.int i), some (.int j)]) (by decide) rfl rfl ?_
  refine xk_aload_n dX9_unspan_0 rfl ?_
  refine xk_iload_n dX9_unspan_1 rfl ?_
  refine xk_iload_n dX9_unspan_2 rfl ?_
  refine xk_v2 (M' := mX9_areTwo) (d' := (d + 1) + 1) (ci := 8) (r0 := (RX9, TX9, 25)) dX9_unspan_3 wm_X9_77 cv_X9_areTwo wi_X9_areTwo wl_X9_areTwo (by omega) (Nat.le_refl _) (Nat.le_refl _) rfl rfl hO (Nat.le_of_ble_eq_true rfl) (y_X9_areTwo (d + 1) hn h2 hO) rfl ?_
  refine xk_ifb_eq 23 dX9_unspan_6 (by decide) (fun c6 => ?_) (fun c6 => ?_)
  · refine xk_iconst (0) dX9_unspan_23 (by decide) ?_
    exact xk_zret rfl (by rfl) dX9_unspan_24 (Nat.le_refl _) (Nat.le_refl _) ⟨by first | rw [xb_f c21] | rw [xb_f (by rw [c6]; rfl)], by first | (rw [if_neg (by rw [c21]; decide)]; exact hA) | (rw [if_neg (by simp [c6])]; exact hA), xfr.rf⟩
  · obtain ⟨a, b, ha, hb, hab, rfl, rfl⟩ := tPair_of hn c6
    have hp := pidx_ok n (by omega) h2 a ha b hb hab
    have hnp := np_ok n (by omega)
    have q3 : (nI (pidx n a b)).toNatClampNeg = pidx n a b := nI_clamp (by omega)
    have q1 : vp_in (nI (pidx n a b)) 15 := vp_in_nI (by omega) (by omega)
    have e1 : (nI a).toNatClampNeg = a := nI_clamp (by omega)
    have e2 : (nI b).toNatClampNeg = b := nI_clamp (by omega)
    have hk9 : T.2.2.1 (pidx n a b) ≤ 9 := by have := hK (pidx n a b); omega
    refine xk_aload_n dX9_unspan_9 rfl ?_
    refine xk_get (ci := 8) (r := (RX9, TX9, 25)) 4 dX9_unspan_10 rfl inX9 (by decide) wf_X9_16 hO rfl ?_
    refine xk_aload_n dX9_unspan_13 rfl ?_
    refine xk_iload_n dX9_unspan_14 rfl ?_
    refine xk_iload_n dX9_unspan_15 rfl ?_
    refine xk_v2 (M' := mX9_pair) (d' := (d + 1) + 1) (ci := 8) (r0 := (RX9, TX9, 25)) dX9_unspan_16 wm_X9_85 cv_X9_pair wi_X9_pair wl_X9_pair (by omega) (Nat.le_refl _) (Nat.le_refl _) rfl rfl hO (Nat.le_of_ble_eq_true rfl) (y_X9_pair (d + 1) hn h2 hO hC ha hb hab) rfl ?_
    refine xk_iald dX9_unspan_19 hC.2.2.1 q1 ?_
    rw [q3]
    refine xk_if_ne 25 dX9_unspan_20 (by decide) (fun c20 => ?_) (fun c20 => ?_)
    · have c21 : (tPair n (nI a) (nI b) && decide (0 < T.2.2.1 (pidx n (nI a).toNatClampNeg (nI b).toNatClampNeg))) = true := by
        rw [c6, e1, e2]
        simp only [Bool.true_and, decide_eq_true_eq]
        rcases Nat.eq_zero_or_pos (T.2.2.1 (pidx n a b)) with z | z
        · exact absurd (by rw [z]; rfl) c20
        · exact z
      refine xk_aload_n dX9_unspan_25 rfl ?_
      refine xk_get (ci := 8) (r := (RX9, TX9, 25)) 4 dX9_unspan_26 rfl inX9 (by decide) wf_X9_16 hO rfl ?_
      refine xk_aload_n dX9_unspan_29 rfl ?_
      refine xk_iload_n dX9_unspan_30 rfl ?_
      refine xk_iload_n dX9_unspan_31 rfl ?_
      refine xk_v2 (M' := mX9_pair) (d' := (d + 1) + 1) (ci := 8) (r0 := (RX9, TX9, 25)) dX9_unspan_32 wm_X9_85 cv_X9_pair wi_X9_pair wl_X9_pair (by omega) (Nat.le_refl _) (Nat.le_refl _) rfl rfl hO (Nat.le_of_ble_eq_true rfl) (y_X9_pair (d + 1) hn h2 hO hC ha hb hab) rfl ?_
      refine xk_iconst (0) dX9_unspan_35 (by decide) ?_
      refine xk_iast dX9_unspan_36 hC.2.2.1 q1 ?_
      rw [q3, show (0 : Int32) = nI 0 from rfl, iarr_upd]
      refine xk_iconst (1) dX9_unspan_37 (by decide) ?_
      exact xk_zret rfl (by rfl) dX9_unspan_38 (Nat.le_refl _) (Nat.le_refl _) ⟨by rw [xb_t c21], by rw [if_pos c21, e1, e2]; exact ⟨⟨s, (xs_ne (by omega)).trans hO⟩, hC.low, hW.kept ((xfr.rf (S := fun k => k = m + 3)).set rfl) (by omega)⟩, xfr.rf.set ⟨by omega, by omega⟩⟩
    · have c21 : (tPair n (nI a) (nI b) && decide (0 < T.2.2.1 (pidx n (nI a).toNatClampNeg (nI b).toNatClampNeg))) = false := by
        rw [c6, e1, e2]
        simp only [Bool.true_and, decide_eq_false_iff_not]
        have := (nI_eq (b := 0) (by omega) (by decide)).mp c20
        omega
      refine xk_iconst (0) dX9_unspan_23 (by decide) ?_
      exact xk_zret rfl (by rfl) dX9_unspan_24 (Nat.le_refl _) (Nat.le_refl _) ⟨by first | rw [xb_f c21] | rw [xb_f (by rw [c6]; rfl)], by first | (rw [if_neg (by rw [c21]; decide)]; exact hA) | (rw [if_neg (by simp [c6])]; exact hA), xfr.rf⟩

set_option maxHeartbeats 4000000 in
set_option maxRecDepth 100000 in
theorem y_X9_said (d : Nat) {hs : xk_H} {m n : Nat} {T : mdT} (hn : n ≤ 6) (h2 : 2 ≤ n) (hA : mdA hs m n T) (hK : mdOK T) {i j q : Int32} : xk_Y (d + 3) 0 0 mX9_said false [.ref m, .int i, .int j, .int q] hs (fun r' h => r' = some (.int (mSaid n T i j q)) ∧ mdA h m n T ∧ xfr (mdR m) hs h) := by
  obtain ⟨⟨s, hO⟩, hC, hW⟩ := id hA
  refine xk_Y.ofX (k := 0) (ls := [some (.ref m), some (.int i), some (.int j), some (.int q)]) (by decide) rfl rfl ?_
  refine xk_aload_n dX9_said_0 rfl ?_
  refine xk_iload_n dX9_said_1 rfl ?_
  refine xk_iload_n dX9_said_2 rfl ?_
  refine xk_v2 (M' := mX9_areTwo) (d' := (d + 1) + 1) (ci := 8) (r0 := (RX9, TX9, 25)) dX9_said_3 wm_X9_77 cv_X9_areTwo wi_X9_areTwo wl_X9_areTwo (by omega) (Nat.le_refl _) (Nat.le_refl _) rfl rfl hO (Nat.le_of_ble_eq_true rfl) (y_X9_areTwo (d + 1) hn h2 hO) rfl ?_
  refine xk_ifb_eq 18 dX9_said_6 (by decide) (fun c6 => ?_) (fun c6 => ?_)
  · refine xk_iconst (-1) dX9_said_18 (by decide) ?_
    exact xk_iret rfl dX9_said_19 (Nat.le_refl _) (Nat.le_refl _) ⟨by first | rw [mSaid_0 hn ha hb hab c16] | rw [mSaid_n c6], hA, xfr.rf⟩
  · obtain ⟨a, b, ha, hb, hab, rfl, rfl⟩ := tPair_of hn c6
    have hp := pidx_ok n (by omega) h2 a ha b hb hab
    have hnp := np_ok n (by omega)
    have q3 : (nI (pidx n a b)).toNatClampNeg = pidx n a b := nI_clamp (by omega)
    have q1 : vp_in (nI (pidx n a b)) 15 := vp_in_nI (by omega) (by omega)
    have e1 : (nI a).toNatClampNeg = a := nI_clamp (by omega)
    have e2 : (nI b).toNatClampNeg = b := nI_clamp (by omega)
    refine xk_aload_n dX9_said_9 rfl ?_
    refine xk_iload_n dX9_said_10 rfl ?_
    refine xk_iload_n dX9_said_11 rfl ?_
    refine xk_v2 (M' := mX9_isSaid) (d' := d + 2) (ci := 8) (r0 := (RX9, TX9, 25)) dX9_said_12 wm_X9_88 cv_X9_isSaid wi_X9_isSaid wl_X9_isSaid (by omega) (Nat.le_refl _) (Nat.le_refl _) rfl rfl hO (Nat.le_of_ble_eq_true rfl) (y_X9_isSaid d hn h2 hO hC ha hb hab (by have := hK (pidx n a b); omega)) rfl ?_
    refine xk_ifb_ne 20 dX9_said_15 (by decide) (fun c15 => ?_) (fun c15 => ?_)
    · have c16 := of_decide_eq_true c15
      refine xk_iload_n dX9_said_20 rfl ?_
      refine xk_if_ne 33 dX9_said_21 (by decide) (fun c21 => ?_) (fun c21 => ?_)
      · refine xk_iload_n dX9_said_33 rfl ?_
        refine xk_iconst (1) dX9_said_34 (by decide) ?_
        refine xk_icmp_ne 47 dX9_said_35 (by decide) (fun c35 => ?_) (fun c35 => ?_)
        · refine xk_iconst (-1) dX9_said_47 (by decide) ?_
          exact xk_iret rfl dX9_said_48 (Nat.le_refl _) (Nat.le_refl _) ⟨by rw [mSaid_y hn ha hb hab c16]; simp [*], hA, xfr.rf⟩
        · refine xk_aload_n dX9_said_38 rfl ?_
          refine xk_iload_n dX9_said_39 rfl ?_
          refine xk_iload_n dX9_said_40 rfl ?_
          refine xk_v2 (M' := mX9_bottomOf) (d' := d + 2) (ci := 8) (r0 := (RX9, TX9, 25)) dX9_said_41 wm_X9_94 cv_X9_bottomOf wi_X9_bottomOf wl_X9_bottomOf (by omega) (Nat.le_refl _) (Nat.le_refl _) rfl rfl hO (Nat.le_of_ble_eq_true rfl) (y_X9_bottomOf d hn h2 hO hC ha hb hab) rfl ?_
          refine xk_goto 48 dX9_said_44 (by decide) ?_
          exact xk_iret rfl dX9_said_48 (Nat.le_refl _) (Nat.le_refl _) ⟨by rw [mSaid_y hn ha hb hab c16]; simp [*], hA, xfr.rf⟩
      · refine xk_aload_n dX9_said_24 rfl ?_
        refine xk_iload_n dX9_said_25 rfl ?_
        refine xk_iload_n dX9_said_26 rfl ?_
        refine xk_v2 (M' := mX9_topOf) (d' := d + 2) (ci := 8) (r0 := (RX9, TX9, 25)) dX9_said_27 wm_X9_91 cv_X9_topOf wi_X9_topOf wl_X9_topOf (by omega) (Nat.le_refl _) (Nat.le_refl _) rfl rfl hO (Nat.le_of_ble_eq_true rfl) (y_X9_topOf d hn h2 hO hC ha hb hab) rfl ?_
        refine xk_goto 48 dX9_said_30 (by decide) ?_
        exact xk_iret rfl dX9_said_48 (Nat.le_refl _) (Nat.le_refl _) ⟨by rw [mSaid_y hn ha hb hab c16]; simp [*], hA, xfr.rf⟩
    · have c16 := of_decide_eq_false c15
      refine xk_iconst (-1) dX9_said_18 (by decide) ?_
      exact xk_iret rfl dX9_said_19 (Nat.le_refl _) (Nat.le_refl _) ⟨by first | rw [mSaid_0 hn ha hb hab c16] | rw [mSaid_n c6], hA, xfr.rf⟩

set_option maxHeartbeats 4000000 in
set_option maxRecDepth 100000 in
/-- all -/
theorem y_X9_all (d : Nat) {hs : xk_H} {m n : Nat} {T : mdT} {s : mdX} (hn : n ≤ 6) (h2 : 2 ≤ n) (hO : hs[m]? = some (mdO n m s)) (hC : mdC hs m n T) (hK : mdOK T) : xk_F d mX9_all [.ref m] hs (some (.int (nI (allB T.1 (n * (n - 1) / 2))))) hs := by
  have hnp := np_ok n (by omega)
  have l4 : ∀ (r k : Nat), k + r = (n * (n - 1) / 2) → xk_P d mX9_all [.ref m] hs (some (.int (nI (allB T.1 (n * (n - 1) / 2))))) hs 4 [some (.ref m), some (.int (nI (allB T.1 k))), some (.int (nI k))] [] hs := by
    intro r
    induction r with
    | zero =>
      intro k h1
      obtain rfl : k = (n * (n - 1) / 2) := by omega
      refine xk_iload_n dX9_all_4 rfl ?_
      refine xk_aload_n dX9_all_5 rfl ?_
      refine xk_get (ci := 8) (r := (RX9, TX9, 25)) 1 dX9_all_6 rfl inX9 (by decide) wf_X9_70 hO rfl ?_
      refine xk_icmp_ge 37 dX9_all_9 (by decide) (fun c9 => ?_) (fun c9 => ?_)
      · refine xk_iload_n dX9_all_37 rfl ?_
        exact xk_iret rfl dX9_all_38 (Nat.le_refl _) (Nat.le_refl _) ⟨rfl, rfl⟩
      · exact absurd (nI_le (Nat.le_refl _) (by omega)) c9
    | succ r ih =>
      intro k h1
      have q3 : (nI k).toNatClampNeg = k := nI_clamp (by omega)
      have hk9 := hK k
      refine xk_iload_n dX9_all_4 rfl ?_
      refine xk_aload_n dX9_all_5 rfl ?_
      refine xk_get (ci := 8) (r := (RX9, TX9, 25)) 1 dX9_all_6 rfl inX9 (by decide) wf_X9_70 hO rfl ?_
      refine xk_icmp_ge 37 dX9_all_9 (by decide) (fun c9 => ?_) (fun c9 => ?_)
      · exact absurd c9 (nI_ge (by omega) (by omega))
      · refine xk_iload_n dX9_all_12 rfl ?_
        refine xk_aload_n dX9_all_13 rfl ?_
        refine xk_get (ci := 8) (r := (RX9, TX9, 25)) 2 dX9_all_14 rfl inX9 (by decide) wf_X9_9 hO rfl ?_
        refine xk_iload_n dX9_all_17 rfl ?_
        refine xk_iald dX9_all_18 hC.1 (vp_in_nI (by omega) (by decide)) ?_
        rw [q3]
        refine xk_if_le 28 dX9_all_19 (by decide) (fun c19 => ?_) (fun c19 => ?_)
        · have c20 : ¬ 0 < T.1 k := fun z => absurd c19 (nI_nle z (by omega))
          refine xk_iconst (0) dX9_all_28 (by decide) ?_
          refine xk_ior dX9_all_29 ?_
          first | rw [nI_or, show allB T.1 k ||| 2 ^ k = allB T.1 (k + 1) by rw [allB, if_pos c20]] | rw [show (0 : Int32) = nI 0 from rfl, nI_or, show allB T.1 k ||| 0 = allB T.1 (k + 1) by rw [allB, if_neg c20]]
          refine xk_istore_n dX9_all_30 (by decide) ?_
          dsimp only [xk_s1, xk_s2, xk_kill]
          refine xk_iinc (nI (k + 1)) dX9_all_31 rfl (nI_1 k) (by decide) ?_
          dsimp only [xk_s1, xk_s2, xk_kill]
          refine xk_goto 4 dX9_all_34 (by decide) ?_
          exact ih (k + 1) (by omega)
        · have c20 : 0 < T.1 k := by
            rcases Nat.eq_zero_or_pos (T.1 k) with z | z
            · exact absurd (by rw [z]; decide) c19
            · exact z
          refine xk_iconst (1) dX9_all_22 (by decide) ?_
          refine xk_iload_n dX9_all_23 rfl ?_
          refine xk_ishl dX9_all_24 ?_
          rw [nI_pow k (by omega)]
          refine xk_goto 29 dX9_all_25 (by decide) ?_
          refine xk_ior dX9_all_29 ?_
          first | rw [nI_or, show allB T.1 k ||| 2 ^ k = allB T.1 (k + 1) by rw [allB, if_pos c20]] | rw [show (0 : Int32) = nI 0 from rfl, nI_or, show allB T.1 k ||| 0 = allB T.1 (k + 1) by rw [allB, if_neg c20]]
          refine xk_istore_n dX9_all_30 (by decide) ?_
          dsimp only [xk_s1, xk_s2, xk_kill]
          refine xk_iinc (nI (k + 1)) dX9_all_31 rfl (nI_1 k) (by decide) ?_
          dsimp only [xk_s1, xk_s2, xk_kill]
          refine xk_goto 4 dX9_all_34 (by decide) ?_
          exact ih (k + 1) (by omega)
  refine xk_Y.ofX (k := 2) (ls := [some (.ref m), none, none]) (by decide) rfl rfl ?_
  refine xk_iconst (0) dX9_all_0 (by decide) ?_
  refine xk_istore_n dX9_all_1 (by decide) ?_
  dsimp only [xk_s1, xk_s2, xk_kill]
  refine xk_iconst (0) dX9_all_2 (by decide) ?_
  refine xk_istore_n dX9_all_3 (by decide) ?_
  dsimp only [xk_s1, xk_s2, xk_kill]
  exact l4 (n * (n - 1) / 2) 0 (by omega)

set_option maxHeartbeats 4000000 in
set_option maxRecDepth 100000 in
theorem y_X9_areAllSaid (d : Nat) {hs : xk_H} {m n : Nat} {T : mdT} {s : mdX} (hn : n ≤ 6) (h2 : 2 ≤ n) (hO : hs[m]? = some (mdO n m s)) (hC : mdC hs m n T) (hK : mdOK T) : xk_F (d + 1) mX9_areAllSaid [.ref m] hs (some (.int (xk_b (decide (cntP T.1 (n * (n - 1) / 2) = (n * (n - 1) / 2)))))) hs := by
  have hnp := np_ok n (by omega)
  have hcl := cntP_le T.1 (n * (n - 1) / 2)
  refine xk_Y.ofX (k := 0) (ls := [some (.ref m)]) (by decide) rfl rfl ?_
  refine xk_aload_n dX9_areAllSaid_0 rfl ?_
  refine xk_v0 (M' := mX9_all) (d' := d) (ci := 8) (r0 := (RX9, TX9, 25)) dX9_areAllSaid_1 wm_X9_100 cv_X9_all wi_X9_all wl_X9_all (by omega) (Nat.le_refl _) (Nat.le_refl _) rfl rfl hO (Nat.le_of_ble_eq_true rfl) (y_X9_all d hn h2 hO hC hK) rfl ?_
  refine xk_s1c (M' := mJ6_bitCount_0f7a4) (d' := d) dX9_areAllSaid_4 wm_X9_108 cv_J6_bitCount_0f7a4 wt_J6_bitCount_0f7a4 (by omega) (Nat.le_refl _) (Nat.le_refl _) (Nat.le_of_ble_eq_true rfl) (y_J6_bitCount d) rfl ?_
  rw [bitc_eq (Nat.lt_of_lt_of_le (allB_lt T.1 _) (Nat.pow_le_pow_right (by decide) (show n * (n - 1) / 2 ≤ 15 from hnp))), popc_all T.1 _ hnp]
  refine xk_aload_n dX9_areAllSaid_7 rfl ?_
  refine xk_get (ci := 8) (r := (RX9, TX9, 25)) 1 dX9_areAllSaid_8 rfl inX9 (by decide) wf_X9_70 hO rfl ?_
  refine xk_icmp_ne 18 dX9_areAllSaid_11 (by decide) (fun c11 => ?_) (fun c11 => ?_)
  · have c12 := fun z => c11 ((nI_eq (a := cntP T.1 (n * (n - 1) / 2)) (b := (n * (n - 1) / 2)) (by omega) (by omega)).mpr z)
    refine xk_iconst (0) dX9_areAllSaid_18 (by decide) ?_
    exact xk_zret rfl (by rfl) dX9_areAllSaid_19 (Nat.le_refl _) (Nat.le_refl _) ⟨by first | rw [xd_t c12] | rw [xd_f c12], rfl⟩
  · have c12 := (nI_eq (by omega) (by omega)).mp c11
    refine xk_iconst (1) dX9_areAllSaid_14 (by decide) ?_
    refine xk_goto 19 dX9_areAllSaid_15 (by decide) ?_
    exact xk_zret rfl (by rfl) dX9_areAllSaid_19 (Nat.le_refl _) (Nat.le_refl _) ⟨by first | rw [xd_t c12] | rw [xd_f c12], rfl⟩

set_option maxHeartbeats 4000000 in
set_option maxRecDepth 100000 in
/-- count -/
theorem y_X9_count (d : Nat) {hs : xk_H} {m n : Nat} {T : mdT} (hn : n ≤ 6) (h2 : 2 ≤ n) (hA : mdA hs m n T) (hK : mdOK T) {q : Int32} : xk_Y (d + 1) 0 0 mX9_count false [.ref m, .int q] hs (fun r' h => r' = some (.int (mCnt n T q)) ∧ mdA h m n T ∧ xfr (mdR m) hs h) := by
  obtain ⟨⟨s, hO⟩, hC, hW⟩ := id hA
  have hnp := np_ok n (by omega)
  have l33 : q = 2 → ∀ (r k : Nat), k + r = (n * (n - 1) / 2) → xk_X (d + 1) 0 0 mX9_count (xk_fx false hs) (fun r' h => r' = some (.int (mCnt n T q)) ∧ mdA h m n T ∧ xfr (mdR m) hs h) 0 0 33 [some (.ref m), some (.int q), some (.int (nI (cntP T.2.2.1 k))), some (.int (nI k))] [] hs := by
    intro hq r
    induction r with
    | zero =>
      intro k h1
      obtain rfl : k = (n * (n - 1) / 2) := by omega
      refine xk_iload_n dX9_count_33 rfl ?_
      refine xk_aload_n dX9_count_34 rfl ?_
      refine xk_get (ci := 8) (r := (RX9, TX9, 25)) 1 dX9_count_35 rfl inX9 (by decide) wf_X9_70 hO rfl ?_
      refine xk_icmp_ge 64 dX9_count_38 (by decide) (fun c38 => ?_) (fun c38 => ?_)
      · refine xk_iload_n dX9_count_64 rfl ?_
        exact xk_iret rfl dX9_count_65 (Nat.le_refl _) (Nat.le_refl _) ⟨by subst hq; rfl, hA, xfr.rf⟩
      · exact absurd (nI_le (Nat.le_refl _) (by omega)) c38
    | succ r ih =>
      intro k h1
      have q3 : (nI k).toNatClampNeg = k := nI_clamp (by omega)
      have hk9 := hK k
      refine xk_iload_n dX9_count_33 rfl ?_
      refine xk_aload_n dX9_count_34 rfl ?_
      refine xk_get (ci := 8) (r := (RX9, TX9, 25)) 1 dX9_count_35 rfl inX9 (by decide) wf_X9_70 hO rfl ?_
      refine xk_icmp_ge 64 dX9_count_38 (by decide) (fun c38 => ?_) (fun c38 => ?_)
      · exact absurd c38 (nI_ge (by omega) (by omega))
      · refine xk_iload_n dX9_count_41 rfl ?_
        refine xk_aload_n dX9_count_42 rfl ?_
        refine xk_get (ci := 8) (r := (RX9, TX9, 25)) 4 dX9_count_43 rfl inX9 (by decide) wf_X9_16 hO rfl ?_
        refine xk_iload_n dX9_count_46 rfl ?_
        refine xk_iald dX9_count_47 hC.2.2.1 (vp_in_nI (by omega) (by decide)) ?_
        rw [q3]
        refine xk_if_le 55 dX9_count_48 (by decide) (fun c48 => ?_) (fun c48 => ?_)
        · have c20 : ¬ 0 < T.2.2.1 k := fun z => absurd c48 (nI_nle z (by omega))
          refine xk_iconst (0) dX9_count_55 (by decide) ?_
          refine xk_iadd dX9_count_56 ?_
          first | rw [nI_1, show cntP T.2.2.1 k + 1 = cntP T.2.2.1 (k + 1) by rw [cntP, if_pos c20]] | rw [show (0 : Int32) = nI 0 from rfl, nI_add, show cntP T.2.2.1 k + 0 = cntP T.2.2.1 (k + 1) by rw [cntP, if_neg c20]]
          refine xk_istore_n dX9_count_57 (by decide) ?_
          dsimp only [xk_s1, xk_s2, xk_kill]
          refine xk_iinc (nI (k + 1)) dX9_count_58 rfl (nI_1 k) (by decide) ?_
          dsimp only [xk_s1, xk_s2, xk_kill]
          refine xk_goto 33 dX9_count_61 (by decide) ?_
          exact ih (k + 1) (by omega)
        · have c20 : 0 < T.2.2.1 k := by
            rcases Nat.eq_zero_or_pos (T.2.2.1 k) with z | z
            · exact absurd (by rw [z]; decide) c48
            · exact z
          refine xk_iconst (1) dX9_count_51 (by decide) ?_
          refine xk_goto 56 dX9_count_52 (by decide) ?_
          refine xk_iadd dX9_count_56 ?_
          first | rw [nI_1, show cntP T.2.2.1 k + 1 = cntP T.2.2.1 (k + 1) by rw [cntP, if_pos c20]] | rw [show (0 : Int32) = nI 0 from rfl, nI_add, show cntP T.2.2.1 k + 0 = cntP T.2.2.1 (k + 1) by rw [cntP, if_neg c20]]
          refine xk_istore_n dX9_count_57 (by decide) ?_
          dsimp only [xk_s1, xk_s2, xk_kill]
          refine xk_iinc (nI (k + 1)) dX9_count_58 rfl (nI_1 k) (by decide) ?_
          dsimp only [xk_s1, xk_s2, xk_kill]
          refine xk_goto 33 dX9_count_61 (by decide) ?_
          exact ih (k + 1) (by omega)
  refine xk_Y.ofX (k := 2) (ls := [some (.ref m), some (.int q), none, none]) (by decide) rfl rfl ?_
  refine xk_iload_n dX9_count_0 rfl ?_
  refine xk_if_ne 9 dX9_count_1 (by decide) (fun c1 => ?_) (fun c1 => ?_)
  · refine xk_iload_n dX9_count_9 rfl ?_
    refine xk_iconst (1) dX9_count_10 (by decide) ?_
    refine xk_icmp_ne 22 dX9_count_11 (by decide) (fun c11 => ?_) (fun c11 => ?_)
    · refine xk_iload_n dX9_count_22 rfl ?_
      refine xk_iconst (2) dX9_count_23 (by decide) ?_
      refine xk_icmp_eq 29 dX9_count_24 (by decide) (fun c24 => ?_) (fun c24 => ?_)
      · refine xk_iconst (0) dX9_count_29 (by decide) ?_
        refine xk_istore_n dX9_count_30 (by decide) ?_
        dsimp only [xk_s1, xk_s2, xk_kill]
        refine xk_iconst (0) dX9_count_31 (by decide) ?_
        refine xk_istore_n dX9_count_32 (by decide) ?_
        dsimp only [xk_s1, xk_s2, xk_kill]
        exact l33 c24 (n * (n - 1) / 2) 0 (by omega)
      · refine xk_iconst (-1) dX9_count_27 (by decide) ?_
        exact xk_iret rfl dX9_count_28 (Nat.le_refl _) (Nat.le_refl _) ⟨by unfold mCnt; rw [if_neg c1, if_neg c11, if_neg c24], hA, xfr.rf⟩
    · refine xk_aload_n dX9_count_14 rfl ?_
      refine xk_v0 (M' := mX9_all) (d' := d) (ci := 8) (r0 := (RX9, TX9, 25)) dX9_count_15 wm_X9_100 cv_X9_all wi_X9_all wl_X9_all (by omega) (Nat.le_refl _) (Nat.le_refl _) rfl rfl hO (Nat.le_of_ble_eq_true rfl) (y_X9_all d hn h2 hO hC hK) rfl ?_
      refine xk_s1c (M' := mJ6_bitCount_0f7a4) (d' := d) dX9_count_18 wm_X9_108 cv_J6_bitCount_0f7a4 wt_J6_bitCount_0f7a4 (by omega) (Nat.le_refl _) (Nat.le_refl _) (Nat.le_of_ble_eq_true rfl) (y_J6_bitCount d) rfl ?_
      rw [bitc_eq (Nat.lt_of_lt_of_le (allB_lt T.1 _) (Nat.pow_le_pow_right (by decide) (show n * (n - 1) / 2 ≤ 15 from hnp))), popc_all T.1 _ hnp]
      exact xk_iret rfl dX9_count_21 (Nat.le_refl _) (Nat.le_refl _) ⟨by subst c11; rfl, hA, xfr.rf⟩
  · refine xk_aload_n dX9_count_4 rfl ?_
    refine xk_get (ci := 8) (r := (RX9, TX9, 25)) 0 dX9_count_5 rfl inX9 (by decide) wf_X9_66 hO rfl ?_
    exact xk_iret rfl dX9_count_8 (Nat.le_refl _) (Nat.le_refl _) ⟨by subst c1; rfl, hA, xfr.rf⟩

