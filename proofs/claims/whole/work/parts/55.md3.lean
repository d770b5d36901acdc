/-! The reference: span, rows. Laid by a program of our own. -/
set_option maxHeartbeats 4000000 in
set_option maxRecDepth 100000 in
/-- span -/
theorem y_X9_span (d : Nat) {hs : xk_H} {m n : Nat} {T : mdT} (hn : n ≤ 6) (h2 : 2 ≤ n) (hA : mdA hs m n T) (hK : mdOK T) {i j e : Int32} : xk_Y (d + 3) 0 0 mX9_span false [.ref m, .int i, .int j, .int e] hs (fun r' h => r' = some (.int (xk_b (spOk n i j e))) ∧ mdA h m n (mSpanT n T i j e) ∧ xfr (mdR m) hs h) := by
  obtain ⟨⟨s, hO⟩, hC, hW⟩ := id hA
  have cW : spOk n i j e = false → mSpanT n T i j e = T := fun q => by unfold mSpanT; rw [if_neg (by rw [q]; decide)]
  refine xk_Y.ofX (k := 5) (ls := [some (.ref m), some (.int i), some (.int j), some (.int e), none, none, none, none, none]) (by decide) rfl rfl ?_
  by_cases he : e < 0
  · have cN : spOk n i j e = false := by unfold spOk spC; simp [dig_neg he]
    refine xk_iload_n dX9_span_0 rfl ?_
    refine xk_sipush (1000) dX9_span_1 (by decide) ?_
    refine xk_idiv dX9_span_4 (by decide) ?_
    refine xk_istore dX9_span_5 (by decide) ?_
    dsimp only [xk_s1, xk_s2, xk_kill]
    refine xk_iload_n dX9_span_7 rfl ?_
    refine xk_bipush (100) dX9_span_8 (by decide) ?_
    refine xk_idiv dX9_span_10 (by decide) ?_
    refine xk_bipush (10) dX9_span_11 (by decide) ?_
    refine xk_irem dX9_span_13 (by decide) ?_
    refine xk_istore dX9_span_14 (by decide) ?_
    dsimp only [xk_s1, xk_s2, xk_kill]
    refine xk_iload_n dX9_span_16 rfl ?_
    refine xk_bipush (10) dX9_span_17 (by decide) ?_
    refine xk_idiv dX9_span_19 (by decide) ?_
    refine xk_bipush (10) dX9_span_20 (by decide) ?_
    refine xk_irem dX9_span_22 (by decide) ?_
    refine xk_istore dX9_span_23 (by decide) ?_
    dsimp only [xk_s1, xk_s2, xk_kill]
    refine xk_iload_n dX9_span_25 rfl ?_
    refine xk_bipush (10) dX9_span_26 (by decide) ?_
    refine xk_irem dX9_span_28 (by decide) ?_
    refine xk_istore dX9_span_29 (by decide) ?_
    dsimp only [xk_s1, xk_s2, xk_kill]
    refine xk_aload_n dX9_span_31 rfl ?_
    refine xk_iload_n dX9_span_32 rfl ?_
    refine xk_iload_n dX9_span_33 rfl ?_
    refine xk_v2 (M' := mX9_areTwo) (d' := (d + 1) + 1) (ci := 8) (r0 := (RX9, TX9, 25)) dX9_span_34 wm_X9_77 cv_X9_areTwo wi_X9_areTwo wl_X9_areTwo (by omega) (Nat.le_refl _) (Nat.le_refl _) rfl rfl hO (Nat.le_of_ble_eq_true rfl) (y_X9_areTwo (d + 1) hn h2 hO) rfl ?_
    refine xk_ifb_eq 83 dX9_span_37 (by decide) (fun c37 => ?_) (fun c37 => ?_)
    · refine xk_iconst (0) dX9_span_83 (by decide) ?_
      exact xk_zret rfl (by rfl) dX9_span_84 (Nat.le_refl _) (Nat.le_refl _) ⟨by rw [xb_f (cN)], by rw [cW (cN)]; exact hA, xfr.rf⟩
    · refine xk_iload_n dX9_span_40 rfl ?_
      refine xk_if_lt 83 dX9_span_41 (by decide) (fun c41 => ?_) (fun c41 => ?_)
      · refine xk_iconst (0) dX9_span_83 (by decide) ?_
        exact xk_zret rfl (by rfl) dX9_span_84 (Nat.le_refl _) (Nat.le_refl _) ⟨by rw [xb_f (cN)], by rw [cW (cN)]; exact hA, xfr.rf⟩
      · exact absurd he c41
  · obtain ⟨E, hE, rfl⟩ := nI_of he
    obtain ⟨k1, k2, k3, k4, k5, k6⟩ := sp_k hE
    obtain ⟨v1, v2, v3, v4⟩ := sp_v hE
    have hS := spOk_nat (n := n) (i := i) (j := j) hE
    refine xk_iload_n dX9_span_0 rfl ?_
    refine xk_sipush (1000) dX9_span_1 (by decide) ?_
    refine xk_idiv dX9_span_4 (by decide) ?_
    rw [k1]
    refine xk_istore dX9_span_5 (by decide) ?_
    dsimp only [xk_s1, xk_s2, xk_kill]
    refine xk_iload_n dX9_span_7 rfl ?_
    refine xk_bipush (100) dX9_span_8 (by decide) ?_
    refine xk_idiv dX9_span_10 (by decide) ?_
    rw [k2]
    refine xk_bipush (10) dX9_span_11 (by decide) ?_
    refine xk_irem dX9_span_13 (by decide) ?_
    rw [k4]
    refine xk_istore dX9_span_14 (by decide) ?_
    dsimp only [xk_s1, xk_s2, xk_kill]
    refine xk_iload_n dX9_span_16 rfl ?_
    refine xk_bipush (10) dX9_span_17 (by decide) ?_
    refine xk_idiv dX9_span_19 (by decide) ?_
    rw [k3]
    refine xk_bipush (10) dX9_span_20 (by decide) ?_
    refine xk_irem dX9_span_22 (by decide) ?_
    rw [k5]
    refine xk_istore dX9_span_23 (by decide) ?_
    dsimp only [xk_s1, xk_s2, xk_kill]
    refine xk_iload_n dX9_span_25 rfl ?_
    refine xk_bipush (10) dX9_span_26 (by decide) ?_
    refine xk_irem dX9_span_28 (by decide) ?_
    rw [k6]
    refine xk_istore dX9_span_29 (by decide) ?_
    dsimp only [xk_s1, xk_s2, xk_kill]
    refine xk_aload_n dX9_span_31 rfl ?_
    refine xk_iload_n dX9_span_32 rfl ?_
    refine xk_iload_n dX9_span_33 rfl ?_
    refine xk_v2 (M' := mX9_areTwo) (d' := (d + 1) + 1) (ci := 8) (r0 := (RX9, TX9, 25)) dX9_span_34 wm_X9_77 cv_X9_areTwo wi_X9_areTwo wl_X9_areTwo (by omega) (Nat.le_refl _) (Nat.le_refl _) rfl rfl hO (Nat.le_of_ble_eq_true rfl) (y_X9_areTwo (d + 1) hn h2 hO) rfl ?_
    refine xk_ifb_eq 83 dX9_span_37 (by decide) (fun c37 => ?_) (fun c37 => ?_)
    · have cN : spOk n i j (nI E) = false := by rw [hS, Bool.and_eq_false_iff]; first | (left; exact c37) | (right; rw [decide_eq_false_iff_not]; rintro ⟨y1, y2, y3, y4, y5⟩; first | exact z52 y1 | omega)
      refine xk_iconst (0) dX9_span_83 (by decide) ?_
      exact xk_zret rfl (by rfl) dX9_span_84 (Nat.le_refl _) (Nat.le_refl _) ⟨by rw [xb_f cN], by rw [cW cN]; exact hA, xfr.rf⟩
    · refine xk_iload_n dX9_span_40 rfl ?_
      refine xk_if_lt 83 dX9_span_41 (by decide) (fun c41 => ?_) (fun c41 => ?_)
      · exact absurd c41 he
      · refine xk_iload dX9_span_44 rfl ?_
        refine xk_iconst (1) dX9_span_46 (by decide) ?_
        refine xk_bipush (9) dX9_span_47 (by decide) ?_
        refine xk_s3c (M' := mX9_in) (d' := (d + 2)) dX9_span_49 wm_X9_73 cv_X9_in wt_X9_in (by omega) (Nat.le_refl _) (Nat.le_refl _) (Nat.le_of_ble_eq_true rfl) (y_X9_in (d + 2)) rfl ?_
        refine xk_ifb_eq 83 dX9_span_52 (by decide) (fun c52 => ?_) (fun c52 => ?_)
        · rw [inB_dig, dig_nI (by omega)] at c52
          have z52 := of_decide_eq_false c52
          have cN : spOk n i j (nI E) = false := by rw [hS, Bool.and_eq_false_iff]; first | (left; exact c37) | (right; rw [decide_eq_false_iff_not]; rintro ⟨y1, y2, y3, y4, y5⟩; first | exact z52 y1 | omega)
          refine xk_iconst (0) dX9_span_83 (by decide) ?_
          exact xk_zret rfl (by rfl) dX9_span_84 (Nat.le_refl _) (Nat.le_refl _) ⟨by rw [xb_f cN], by rw [cW cN]; exact hA, xfr.rf⟩
        · rw [inB_dig, dig_nI (by omega)] at c52
          have z52 := of_decide_eq_true c52
          refine xk_iload dX9_span_55 rfl ?_
          refine xk_if_eq 83 dX9_span_57 (by decide) (fun c57 => ?_) (fun c57 => ?_)
          · have z57 : E / 100 % 10 = 0 := (nI_eq (b := 0) (by omega) (by decide)).mp c57
            have cN : spOk n i j (nI E) = false := by rw [hS, Bool.and_eq_false_iff]; first | (left; exact c37) | (right; rw [decide_eq_false_iff_not]; rintro ⟨y1, y2, y3, y4, y5⟩; first | exact z52 y1 | omega)
            refine xk_iconst (0) dX9_span_83 (by decide) ?_
            exact xk_zret rfl (by rfl) dX9_span_84 (Nat.le_refl _) (Nat.le_refl _) ⟨by rw [xb_f cN], by rw [cW cN]; exact hA, xfr.rf⟩
          · have z57 : 1 ≤ E / 100 % 10 := Nat.pos_of_ne_zero (fun z => c57 (by rw [z]; rfl))
            refine xk_iload dX9_span_60 rfl ?_
            refine xk_if_eq 83 dX9_span_62 (by decide) (fun c62 => ?_) (fun c62 => ?_)
            · have z62 : E / 10 % 10 = 0 := (nI_eq (b := 0) (by omega) (by decide)).mp c62
              have cN : spOk n i j (nI E) = false := by rw [hS, Bool.and_eq_false_iff]; first | (left; exact c37) | (right; rw [decide_eq_false_iff_not]; rintro ⟨y1, y2, y3, y4, y5⟩; first | exact z52 y1 | omega)
              refine xk_iconst (0) dX9_span_83 (by decide) ?_
              exact xk_zret rfl (by rfl) dX9_span_84 (Nat.le_refl _) (Nat.le_refl _) ⟨by rw [xb_f cN], by rw [cW cN]; exact hA, xfr.rf⟩
            · have z62 : 1 ≤ E / 10 % 10 := Nat.pos_of_ne_zero (fun z => c62 (by rw [z]; rfl))
              refine xk_iload dX9_span_65 rfl ?_
              refine xk_if_eq 83 dX9_span_67 (by decide) (fun c67 => ?_) (fun c67 => ?_)
              · have z67 : E % 10 = 0 := (nI_eq (b := 0) (by omega) (by decide)).mp c67
                have cN : spOk n i j (nI E) = false := by rw [hS, Bool.and_eq_false_iff]; first | (left; exact c37) | (right; rw [decide_eq_false_iff_not]; rintro ⟨y1, y2, y3, y4, y5⟩; first | exact z52 y1 | omega)
                refine xk_iconst (0) dX9_span_83 (by decide) ?_
                exact xk_zret rfl (by rfl) dX9_span_84 (Nat.le_refl _) (Nat.le_refl _) ⟨by rw [xb_f cN], by rw [cW cN]; exact hA, xfr.rf⟩
              · have z67 : 1 ≤ E % 10 := Nat.pos_of_ne_zero (fun z => c67 (by rw [z]; rfl))
                have m1 : E / 1000 * (E % 10) < 2147483648 := Nat.lt_of_le_of_lt (Nat.mul_le_mul z52.2 (show E % 10 ≤ 9 by omega)) (by decide)
                have m2 : E / 10 % 10 * (E / 100 % 10) < 2147483648 := Nat.lt_of_le_of_lt (Nat.mul_le_mul (show E / 10 % 10 ≤ 9 by omega) (show E / 100 % 10 ≤ 9 by omega)) (by decide)
                refine xk_iload dX9_span_70 rfl ?_
                refine xk_iload dX9_span_72 rfl ?_
                refine xk_imul dX9_span_74 ?_
                rw [pk_mul]
                refine xk_iload dX9_span_75 rfl ?_
                refine xk_iload dX9_span_77 rfl ?_
                refine xk_imul dX9_span_79 ?_
                rw [pk_mul]
                refine xk_icmp_le 85 dX9_span_80 (by decide) (fun c80 => ?_) (fun c80 => ?_)
                · have z80 : E / 1000 * (E % 10) ≤ E / 10 % 10 * (E / 100 % 10) := (nI_leI m1 m2).mp c80
                  have cS : spOk n i j (nI E) = true := by
                    rw [hS, c37, Bool.true_and, decide_eq_true_eq]
                    exact ⟨z52, z57, z62, z67, by omega⟩
                  obtain ⟨a, b, ha, hb, hab, rfl, rfl⟩ := tPair_of hn c37
                  have hp := pidx_ok n (by omega) h2 a ha b hb hab
                  have hnp := np_ok n (by omega)
                  have q3 : (nI (pidx n a b)).toNatClampNeg = pidx n a b := nI_clamp (by omega)
                  have q1 : vp_in (nI (pidx n a b)) 15 := vp_in_nI (by omega) (by omega)
                  have e1 : (nI a).toNatClampNeg = a := nI_clamp (by omega)
                  have e2 : (nI b).toNatClampNeg = b := nI_clamp (by omega)
                  refine xk_aload_n dX9_span_85 rfl ?_
                  refine xk_iload_n dX9_span_86 rfl ?_
                  refine xk_iload_n dX9_span_87 rfl ?_
                  refine xk_v2 (M' := mX9_pair) (d' := (d + 1) + 1) (ci := 8) (r0 := (RX9, TX9, 25)) dX9_span_88 wm_X9_85 cv_X9_pair wi_X9_pair wl_X9_pair (by omega) (Nat.le_refl _) (Nat.le_refl _) rfl rfl hO (Nat.le_of_ble_eq_true rfl) (y_X9_pair (d + 1) hn h2 hO hC ha hb hab) rfl ?_
                  refine xk_istore dX9_span_91 (by decide) ?_
                  dsimp only [xk_s1, xk_s2, xk_kill]
                  refine xk_aload_n dX9_span_93 rfl ?_
                  refine xk_get (ci := 8) (r := (RX9, TX9, 25)) 4 dX9_span_94 rfl inX9 (by decide) wf_X9_16 hO rfl ?_
                  refine xk_iload dX9_span_97 rfl ?_
                  refine xk_iload_n dX9_span_99 rfl ?_
                  refine xk_iload_n dX9_span_100 rfl ?_
                  refine xk_icmp_ge 109 dX9_span_101 (by decide) (fun c101 => ?_) (fun c101 => ?_)
                  · have c9 : ¬ a < b := fun z => absurd c101 (nI_ge z (by omega))
                    refine xk_iload dX9_span_109 rfl ?_
                    refine xk_iast dX9_span_111 hC.2.2.1 q1 ?_
                    try rw [q3]
                    rw [iarr_upd]
                    refine xk_aload_n dX9_span_112 rfl ?_
                    refine xk_get (ci := 8) (r := (RX9, TX9, 25)) 5 dX9_span_113 rfl inX9 (by decide) wf_X9_19 ((xs_ne (by omega)).trans hO) rfl ?_
                    refine xk_iload dX9_span_116 rfl ?_
                    refine xk_iload_n dX9_span_118 rfl ?_
                    refine xk_iload_n dX9_span_119 rfl ?_
                    refine xk_icmp_ge 128 dX9_span_120 (by decide) (fun c120 => ?_) (fun c120 => ?_)
                    · refine xk_iload dX9_span_128 rfl ?_
                      refine xk_iast dX9_span_130 ((xs_ne (by omega)).trans hC.2.2.2.1) q1 ?_
                      try rw [q3]
                      rw [iarr_upd]
                      refine xk_aload_n dX9_span_131 rfl ?_
                      refine xk_get (ci := 8) (r := (RX9, TX9, 25)) 6 dX9_span_132 rfl inX9 (by decide) wf_X9_22 ((xs_ne (by omega)).trans ((xs_ne (by omega)).trans hO)) rfl ?_
                      refine xk_iload dX9_span_135 rfl ?_
                      refine xk_iload_n dX9_span_137 rfl ?_
                      refine xk_iload_n dX9_span_138 rfl ?_
                      refine xk_icmp_ge 147 dX9_span_139 (by decide) (fun c139 => ?_) (fun c139 => ?_)
                      · refine xk_iload dX9_span_147 rfl ?_
                        refine xk_iast dX9_span_149 ((xs_ne (by omega)).trans ((xs_ne (by omega)).trans hC.2.2.2.2.1)) q1 ?_
                        try rw [q3]
                        rw [iarr_upd]
                        refine xk_aload_n dX9_span_150 rfl ?_
                        refine xk_get (ci := 8) (r := (RX9, TX9, 25)) 7 dX9_span_151 rfl inX9 (by decide) wf_X9_25 ((xs_ne (by omega)).trans ((xs_ne (by omega)).trans ((xs_ne (by omega)).trans hO))) rfl ?_
                        refine xk_iload dX9_span_154 rfl ?_
                        refine xk_iload_n dX9_span_156 rfl ?_
                        refine xk_iload_n dX9_span_157 rfl ?_
                        refine xk_icmp_ge 166 dX9_span_158 (by decide) (fun c158 => ?_) (fun c158 => ?_)
                        · refine xk_iload dX9_span_166 rfl ?_
                          refine xk_iast dX9_span_168 ((xs_ne (by omega)).trans ((xs_ne (by omega)).trans ((xs_ne (by omega)).trans hC.2.2.2.2.2.1))) q1 ?_
                          try rw [q3]
                          rw [iarr_upd]
                          refine xk_iconst (1) dX9_span_169 (by decide) ?_
                          exact xk_zret rfl (by rfl) dX9_span_170 (Nat.le_refl _) (Nat.le_refl _) ⟨by rw [xb_t cS], ⟨⟨s, (xs_ne (by omega)).trans ((xs_ne (by omega)).trans ((xs_ne (by omega)).trans ((xs_ne (by omega)).trans hO)))⟩, by unfold mSpanT mSpan; rw [if_pos cS, e1, e2, v1, v2, v3, v4, if_neg c9, if_neg c9, if_neg c9, if_neg c9]; exact hC.spn, hW.kept ((((((xfr.rf (S := fun k => m + 3 ≤ k ∧ k < m + 7)).set ⟨by omega, by omega⟩).set ⟨by omega, by omega⟩).set ⟨by omega, by omega⟩).set ⟨by omega, by omega⟩)) (by omega)⟩, (((xfr.rf.set ⟨by omega, by omega⟩).set ⟨by omega, by omega⟩).set ⟨by omega, by omega⟩).set ⟨by omega, by omega⟩⟩
                        · exact absurd (nI_le (by omega) (by omega)) c158
                      · exact absurd (nI_le (by omega) (by omega)) c139
                    · exact absurd (nI_le (by omega) (by omega)) c120
                  · have c9 : a < b := by
                      rcases Nat.lt_or_ge a b with z | z
                      · exact z
                      · exact absurd (nI_le z (by omega)) c101
                    refine xk_iload dX9_span_104 rfl ?_
                    refine xk_goto 111 dX9_span_106 (by decide) ?_
                    refine xk_iast dX9_span_111 hC.2.2.1 q1 ?_
                    try rw [q3]
                    rw [iarr_upd]
                    refine xk_aload_n dX9_span_112 rfl ?_
                    refine xk_get (ci := 8) (r := (RX9, TX9, 25)) 5 dX9_span_113 rfl inX9 (by decide) wf_X9_19 ((xs_ne (by omega)).trans hO) rfl ?_
                    refine xk_iload dX9_span_116 rfl ?_
                    refine xk_iload_n dX9_span_118 rfl ?_
                    refine xk_iload_n dX9_span_119 rfl ?_
                    refine xk_icmp_ge 128 dX9_span_120 (by decide) (fun c120 => ?_) (fun c120 => ?_)
                    · exact absurd c120 (nI_ge c9 (by omega))
                    · refine xk_iload dX9_span_123 rfl ?_
                      refine xk_goto 130 dX9_span_125 (by decide) ?_
                      refine xk_iast dX9_span_130 ((xs_ne (by omega)).trans hC.2.2.2.1) q1 ?_
                      try rw [q3]
                      rw [iarr_upd]
                      refine xk_aload_n dX9_span_131 rfl ?_
                      refine xk_get (ci := 8) (r := (RX9, TX9, 25)) 6 dX9_span_132 rfl inX9 (by decide) wf_X9_22 ((xs_ne (by omega)).trans ((xs_ne (by omega)).trans hO)) rfl ?_
                      refine xk_iload dX9_span_135 rfl ?_
                      refine xk_iload_n dX9_span_137 rfl ?_
                      refine xk_iload_n dX9_span_138 rfl ?_
                      refine xk_icmp_ge 147 dX9_span_139 (by decide) (fun c139 => ?_) (fun c139 => ?_)
                      · exact absurd c139 (nI_ge c9 (by omega))
                      · refine xk_iload dX9_span_142 rfl ?_
                        refine xk_goto 149 dX9_span_144 (by decide) ?_
                        refine xk_iast dX9_span_149 ((xs_ne (by omega)).trans ((xs_ne (by omega)).trans hC.2.2.2.2.1)) q1 ?_
                        try rw [q3]
                        rw [iarr_upd]
                        refine xk_aload_n dX9_span_150 rfl ?_
                        refine xk_get (ci := 8) (r := (RX9, TX9, 25)) 7 dX9_span_151 rfl inX9 (by decide) wf_X9_25 ((xs_ne (by omega)).trans ((xs_ne (by omega)).trans ((xs_ne (by omega)).trans hO))) rfl ?_
                        refine xk_iload dX9_span_154 rfl ?_
                        refine xk_iload_n dX9_span_156 rfl ?_
                        refine xk_iload_n dX9_span_157 rfl ?_
                        refine xk_icmp_ge 166 dX9_span_158 (by decide) (fun c158 => ?_) (fun c158 => ?_)
                        · exact absurd c158 (nI_ge c9 (by omega))
                        · refine xk_iload dX9_span_161 rfl ?_
                          refine xk_goto 168 dX9_span_163 (by decide) ?_
                          refine xk_iast dX9_span_168 ((xs_ne (by omega)).trans ((xs_ne (by omega)).trans ((xs_ne (by omega)).trans hC.2.2.2.2.2.1))) q1 ?_
                          try rw [q3]
                          rw [iarr_upd]
                          refine xk_iconst (1) dX9_span_169 (by decide) ?_
                          exact xk_zret rfl (by rfl) dX9_span_170 (Nat.le_refl _) (Nat.le_refl _) ⟨by rw [xb_t cS], ⟨⟨s, (xs_ne (by omega)).trans ((xs_ne (by omega)).trans ((xs_ne (by omega)).trans ((xs_ne (by omega)).trans hO)))⟩, by unfold mSpanT mSpan; rw [if_pos cS, e1, e2, v1, v2, v3, v4, if_pos c9, if_pos c9, if_pos c9, if_pos c9]; exact hC.spn, hW.kept ((((((xfr.rf (S := fun k => m + 3 ≤ k ∧ k < m + 7)).set ⟨by omega, by omega⟩).set ⟨by omega, by omega⟩).set ⟨by omega, by omega⟩).set ⟨by omega, by omega⟩)) (by omega)⟩, (((xfr.rf.set ⟨by omega, by omega⟩).set ⟨by omega, by omega⟩).set ⟨by omega, by omega⟩).set ⟨by omega, by omega⟩⟩
                · have z80 : ¬ E / 1000 * (E % 10) ≤ E / 10 % 10 * (E / 100 % 10) := fun z => c80 ((nI_leI m1 m2).mpr z)
                  have cN : spOk n i j (nI E) = false := by rw [hS, Bool.and_eq_false_iff]; first | (left; exact c37) | (right; rw [decide_eq_false_iff_not]; rintro ⟨y1, y2, y3, y4, y5⟩; first | exact z52 y1 | omega)
                  refine xk_iconst (0) dX9_span_83 (by decide) ?_
                  exact xk_zret rfl (by rfl) dX9_span_84 (Nat.le_refl _) (Nat.le_refl _) ⟨by rw [xb_f cN], by rw [cW cN]; exact hA, xfr.rf⟩

set_option maxHeartbeats 4000000 in
set_option maxRecDepth 100000 in
/-- rowPart -/
theorem y_X9_rowPart (d : Nat) {hs : xk_H} {m n : Nat} {T : mdT} {s : mdX} (hn : n ≤ 6) (h2 : 2 ≤ n) (hO : hs[m]? = some (mdO n m s)) (hC : mdC hs m n T) (hK : mdOK T) (hF : mdF n T) {i : Nat} {bb : Bool} (hi : i < n) : xk_F (d + 3) mX9_rowPart [.ref m, .int (nI i), .int (xk_b bb)] hs (some (.long (lN (if bb = true then lowT (rowM n T i).1 (rowM n T i).2 else lowB (rowM n T i).1 (rowM n T i).2)))) hs := by
  have hB := rowM_b hn h2 hK hF hi
  have h9n := p9 hn
  have l8 : ∀ (r j : Nat) (p : Nat × Nat), j + r = n → rowMB j p → itr (fun j p => if j = i then p else mul2 p (mdS n T.1 T.2.1 i j)) r j p = rowM n T i → xk_P (d + 3) mX9_rowPart [.ref m, .int (nI i), .int (xk_b bb)] hs (some (.long (lN (if bb = true then lowT (rowM n T i).1 (rowM n T i).2 else lowB (rowM n T i).1 (rowM n T i).2)))) hs 8 [some (.ref m), some (.int (nI i)), some (.int (xk_b bb)), some (.long (lN p.1)), none, some (.long (lN p.2)), none, some (.int (nI j)), none] [] hs := by
    intro r
    induction r with
    | zero =>
      intro j p h1 h3 h4
      obtain rfl : p = rowM n T i := h4
      obtain ⟨⟨a1, a2⟩, a3, a4⟩ := hB
      have hg1 : 0 < Nat.gcd (rowM n T i).1 (rowM n T i).2 := Nat.gcd_pos_of_pos_left _ a1
      have hg2 : Nat.gcd (rowM n T i).1 (rowM n T i).2 ≤ (rowM n T i).1 := Nat.gcd_le_left _ a1
      refine xk_iload dX9_rowPart_8 rfl ?_
      refine xk_aload_n dX9_rowPart_10 rfl ?_
      refine xk_get (ci := 8) (r := (RX9, TX9, 25)) 0 dX9_rowPart_11 rfl inX9 (by decide) wf_X9_66 hO rfl ?_
      refine xk_icmp_ge 56 dX9_rowPart_14 (by decide) (fun c14 => ?_) (fun c14 => ?_)
      · refine xk_lload_n dX9_rowPart_56 rfl ?_
        refine xk_lload dX9_rowPart_57 rfl ?_
        refine xk_s2c (M' := mX9_divisor) (d' := (d + 2)) dX9_rowPart_59 wm_X9_81 cv_X9_divisor wt_X9_divisor (by omega) (Nat.le_refl _) (Nat.le_refl _) (Nat.le_of_ble_eq_true rfl) (y_X9_divisor (d + 2) (by omega) (by omega)) rfl ?_
        refine xk_lstore dX9_rowPart_62 (by decide) ?_
        dsimp only [xk_s1, xk_s2, xk_kill]
        refine xk_iload_n dX9_rowPart_64 rfl ?_
        refine xk_ifb_eq 75 dX9_rowPart_65 (by decide) (fun c65 => ?_) (fun c65 => ?_)
        · refine xk_lload dX9_rowPart_75 rfl ?_
          refine xk_lload dX9_rowPart_77 rfl ?_
          refine xk_ldiv dX9_rowPart_79 (fun z => absurd ((pk_lEQ (b := 0) (by omega) (by decide)).mp z) (by omega)) ?_
          rw [pk_lDiv (by omega) hg1 (by omega)]
          exact xk_lret rfl dX9_rowPart_80 (Nat.le_refl _) (Nat.le_refl _) ⟨by subst c65; rfl, rfl⟩
        · refine xk_lload_n dX9_rowPart_68 rfl ?_
          refine xk_lload dX9_rowPart_69 rfl ?_
          refine xk_ldiv dX9_rowPart_71 (fun z => absurd ((pk_lEQ (b := 0) (by omega) (by decide)).mp z) (by omega)) ?_
          rw [pk_lDiv (by omega) hg1 (by omega)]
          refine xk_goto 80 dX9_rowPart_72 (by decide) ?_
          exact xk_lret rfl dX9_rowPart_80 (Nat.le_refl _) (Nat.le_refl _) ⟨by subst c65; rfl, rfl⟩
      · exact absurd (nI_le (by omega) (by omega)) c14
    | succ r ih =>
      intro j p h1 h3 h4
      obtain ⟨⟨a1, a2⟩, a3, a4⟩ := id h3
      have h9j := p9 (show j ≤ 6 by omega)
      have hs3 := rowMB_s hn h2 hK hF hi (show j < n by omega) h3
      refine xk_iload dX9_rowPart_8 rfl ?_
      refine xk_aload_n dX9_rowPart_10 rfl ?_
      refine xk_get (ci := 8) (r := (RX9, TX9, 25)) 0 dX9_rowPart_11 rfl inX9 (by decide) wf_X9_66 hO rfl ?_
      refine xk_icmp_ge 56 dX9_rowPart_14 (by decide) (fun c14 => ?_) (fun c14 => ?_)
      · exact absurd c14 (nI_ge (by omega) (by omega))
      · refine xk_iload dX9_rowPart_17 rfl ?_
        refine xk_iload_n dX9_rowPart_19 rfl ?_
        refine xk_icmp_ne 26 dX9_rowPart_20 (by decide) (fun c20 => ?_) (fun c20 => ?_)
        · have c21 : ¬ j = i := fun z => c20 (by rw [z])
          have b9 := mdS_b hn h2 hK hF hi (show j < n by omega) (fun q => c21 q.symm)
          refine xk_lload_n dX9_rowPart_26 rfl ?_
          refine xk_aload_n dX9_rowPart_27 rfl ?_
          refine xk_iload_n dX9_rowPart_28 rfl ?_
          refine xk_iload dX9_rowPart_29 rfl ?_
          refine xk_v2 (M' := mX9_topOf) (d' := d + 2) (ci := 8) (r0 := (RX9, TX9, 25)) dX9_rowPart_31 wm_X9_91 cv_X9_topOf wi_X9_topOf wl_X9_topOf (by omega) (Nat.le_refl _) (Nat.le_refl _) rfl rfl hO (Nat.le_of_ble_eq_true rfl) (y_X9_topOf d hn h2 hO hC hi (by omega) (fun q => c21 q.symm)) rfl ?_
          refine xk_i2l dX9_rowPart_34 ?_
          rw [nI_l (by omega)]
          refine xk_lmul dX9_rowPart_35 ?_
          rw [lN_mul]
          refine xk_lstore_n dX9_rowPart_36 (by decide) ?_
          dsimp only [xk_s1, xk_s2, xk_kill]
          refine xk_lload dX9_rowPart_37 rfl ?_
          refine xk_aload_n dX9_rowPart_39 rfl ?_
          refine xk_iload_n dX9_rowPart_40 rfl ?_
          refine xk_iload dX9_rowPart_41 rfl ?_
          refine xk_v2 (M' := mX9_bottomOf) (d' := d + 2) (ci := 8) (r0 := (RX9, TX9, 25)) dX9_rowPart_43 wm_X9_94 cv_X9_bottomOf wi_X9_bottomOf wl_X9_bottomOf (by omega) (Nat.le_refl _) (Nat.le_refl _) rfl rfl hO (Nat.le_of_ble_eq_true rfl) (y_X9_bottomOf d hn h2 hO hC hi (by omega) (fun q => c21 q.symm)) rfl ?_
          refine xk_i2l dX9_rowPart_46 ?_
          rw [nI_l (by omega)]
          refine xk_lmul dX9_rowPart_47 ?_
          rw [lN_mul]
          refine xk_lstore dX9_rowPart_48 (by decide) ?_
          dsimp only [xk_s1, xk_s2, xk_kill]
          refine xk_iinc (nI (j + 1)) dX9_rowPart_50 rfl (nI_1 j) (by decide) ?_
          dsimp only [xk_s1, xk_s2, xk_kill]
          refine xk_goto 8 dX9_rowPart_53 (by decide) ?_
          first
          | (have q9 : j = i := c21; rw [if_pos c21] at hs3; exact ih (j + 1) p (by omega) hs3 (by rw [← h4, itr, if_pos c21]))
          | (have q9 : ¬ j = i := c21; rw [if_neg c21] at hs3; exact ih (j + 1) (mul2 p (mdS n T.1 T.2.1 i j)) (by omega) hs3 (by rw [← h4, itr, if_neg c21]))
        · have c21 : j = i := (nI_eq (by omega) (by omega)).mp c20
          refine xk_goto 50 dX9_rowPart_23 (by decide) ?_
          refine xk_iinc (nI (j + 1)) dX9_rowPart_50 rfl (nI_1 j) (by decide) ?_
          dsimp only [xk_s1, xk_s2, xk_kill]
          refine xk_goto 8 dX9_rowPart_53 (by decide) ?_
          first
          | (have q9 : j = i := c21; rw [if_pos c21] at hs3; exact ih (j + 1) p (by omega) hs3 (by rw [← h4, itr, if_pos c21]))
          | (have q9 : ¬ j = i := c21; rw [if_neg c21] at hs3; exact ih (j + 1) (mul2 p (mdS n T.1 T.2.1 i j)) (by omega) hs3 (by rw [← h4, itr, if_neg c21]))
  refine xk_Y.ofX (k := 6) (ls := [some (.ref m), some (.int (nI i)), some (.int (xk_b bb)), none, none, none, none, none, none]) (by decide) rfl rfl ?_
  refine xk_lconst (1) dX9_rowPart_0 (by decide) ?_
  refine xk_lstore_n dX9_rowPart_1 (by decide) ?_
  dsimp only [xk_s1, xk_s2, xk_kill]
  refine xk_lconst (1) dX9_rowPart_2 (by decide) ?_
  refine xk_lstore dX9_rowPart_3 (by decide) ?_
  dsimp only [xk_s1, xk_s2, xk_kill]
  refine xk_iconst (0) dX9_rowPart_5 (by decide) ?_
  refine xk_istore dX9_rowPart_6 (by decide) ?_
  dsimp only [xk_s1, xk_s2, xk_kill]
  exact l8 n 0 (1, 1) (by omega) ⟨⟨by decide, by decide⟩, by decide, by decide⟩ rfl

set_option maxHeartbeats 4000000 in
set_option maxRecDepth 100000 in
theorem y_X9_row (d : Nat) {hs : xk_H} {m n : Nat} {T : mdT} (hn : n ≤ 6) (h2 : 2 ≤ n) (hA : mdA hs m n T) (hK : mdOK T) {i q : Int32} : xk_Y (d + 4) 0 0 mX9_row false [.ref m, .int i, .int q] hs (fun r' h => r' = some (.int (mRow n T i q)) ∧ mdA h m n T ∧ xfr (mdR m) hs h) := by
  obtain ⟨⟨s, hO⟩, hC, hW⟩ := id hA
  refine xk_Y.ofX (k := 0) (ls := [some (.ref m), some (.int i), some (.int q)]) (by decide) rfl rfl ?_
  refine xk_iload_n dX9_row_0 rfl ?_
  refine xk_iconst (0) dX9_row_1 (by decide) ?_
  refine xk_aload_n dX9_row_2 rfl ?_
  refine xk_get (ci := 8) (r := (RX9, TX9, 25)) 0 dX9_row_3 rfl inX9 (by decide) wf_X9_66 hO rfl ?_
  refine xk_iconst (1) dX9_row_6 (by decide) ?_
  refine xk_isub dX9_row_7 ?_
  refine xk_s3c (M' := mX9_in) (d' := (d + 3)) dX9_row_8 wm_X9_73 cv_X9_in wt_X9_in (by omega) (Nat.le_refl _) (Nat.le_refl _) (Nat.le_of_ble_eq_true rfl) (y_X9_in (d + 3)) rfl ?_
  refine xk_ifb_eq 30 dX9_row_11 (by decide) (fun c11 => ?_) (fun c11 => ?_)
  · rw [inB_tIn (by omega) hn] at c11
    refine xk_iconst (-1) dX9_row_30 (by decide) ?_
    exact xk_iret rfl dX9_row_31 (Nat.le_refl _) (Nat.le_refl _) ⟨by rw [mRow_n (by simp [*])], hA, xfr.rf⟩
  · rw [inB_tIn (by omega) hn] at c11
    refine xk_aload_n dX9_row_14 rfl ?_
    refine xk_v0 (M' := mX9_areAllSaid) (d' := (d + 2) + 1) (ci := 8) (r0 := (RX9, TX9, 25)) dX9_row_15 wm_X9_121 cv_X9_areAllSaid wi_X9_areAllSaid wl_X9_areAllSaid (by omega) (Nat.le_refl _) (Nat.le_refl _) rfl rfl hO (Nat.le_of_ble_eq_true rfl) (y_X9_areAllSaid (d + 2) hn h2 hO hC hK) rfl ?_
    refine xk_ifb_eq 30 dX9_row_18 (by decide) (fun c18 => ?_) (fun c18 => ?_)
    · refine xk_iconst (-1) dX9_row_30 (by decide) ?_
      exact xk_iret rfl dX9_row_31 (Nat.le_refl _) (Nat.le_refl _) ⟨by rw [mRow_n (by simp [*])], hA, xfr.rf⟩
    · refine xk_iload_n dX9_row_21 rfl ?_
      refine xk_iconst (0) dX9_row_22 (by decide) ?_
      refine xk_iconst (1) dX9_row_23 (by decide) ?_
      refine xk_s3c (M' := mX9_in) (d' := (d + 3)) dX9_row_24 wm_X9_73 cv_X9_in wt_X9_in (by omega) (Nat.le_refl _) (Nat.le_refl _) (Nat.le_of_ble_eq_true rfl) (y_X9_in (d + 3)) rfl ?_
      refine xk_ifb_ne 32 dX9_row_27 (by decide) (fun c27 => ?_) (fun c27 => ?_)
      · rw [inB_01] at c27
        obtain ⟨a, ha, rfl⟩ := tIn_of hn c11
        have hF := mdF_of hK (of_decide_eq_true c18)
        have cC : (tIn n (nI a) && decide (cntP T.1 (n * (n - 1) / 2) = n * (n - 1) / 2) && isPt q) = true := by rw [c11, c18, c27]; rfl
        refine xk_aload_n dX9_row_32 rfl ?_
        refine xk_iload_n dX9_row_33 rfl ?_
        refine xk_iload_n dX9_row_34 rfl ?_
        refine xk_if_ne 42 dX9_row_35 (by decide) (fun c35 => ?_) (fun c35 => ?_)
        · refine xk_iconst (0) dX9_row_42 (by decide) ?_
          refine xk_v2 (M' := mX9_rowPart) (ci := 8) (r0 := (RX9, TX9, 25)) dX9_row_43 wm_X9_124 cv_X9_rowPart wi_X9_rowPart wl_X9_rowPart (by omega) (Nat.le_refl _) (Nat.le_refl _) rfl rfl hO (Nat.le_of_ble_eq_true rfl) (y_X9_rowPart d hn h2 hO hC hK hF (bb := false) ha) rfl ?_
          refine xk_l2i dX9_row_46 ?_
          rw [lN_i]
          exact xk_iret rfl dX9_row_47 (Nat.le_refl _) (Nat.le_refl _) ⟨by unfold mRow; rw [if_pos cC, nI_clamp (by omega), if_neg c35]; rfl, hA, xfr.rf⟩
        · refine xk_iconst (1) dX9_row_38 (by decide) ?_
          refine xk_goto 43 dX9_row_39 (by decide) ?_
          refine xk_v2 (M' := mX9_rowPart) (ci := 8) (r0 := (RX9, TX9, 25)) dX9_row_43 wm_X9_124 cv_X9_rowPart wi_X9_rowPart wl_X9_rowPart (by omega) (Nat.le_refl _) (Nat.le_refl _) rfl rfl hO (Nat.le_of_ble_eq_true rfl) (y_X9_rowPart d hn h2 hO hC hK hF (bb := true) ha) rfl ?_
          refine xk_l2i dX9_row_46 ?_
          rw [lN_i]
          exact xk_iret rfl dX9_row_47 (Nat.le_refl _) (Nat.le_refl _) ⟨by unfold mRow; rw [if_pos cC, nI_clamp (by omega), if_pos c35]; rfl, hA, xfr.rf⟩
      · rw [inB_01] at c27
        refine xk_iconst (-1) dX9_row_30 (by decide) ?_
        exact xk_iret rfl dX9_row_31 (Nat.le_refl _) (Nat.le_refl _) ⟨by rw [mRow_n (by simp [*])], hA, xfr.rf⟩

set_option maxHeartbeats 4000000 in
set_option maxRecDepth 100000 in
theorem y_X9_order (d : Nat) {hs : xk_H} {m n : Nat} {T : mdT} (hn : n ≤ 6) (h2 : 2 ≤ n) (hA : mdA hs m n T) (hK : mdOK T) {i j : Int32} : xk_Y (d + 4) 0 0 mX9_order false [.ref m, .int i, .int j] hs (fun r' h => r' = some (.int (mOrd n T i j)) ∧ mdA h m n T ∧ xfr (mdR m) hs h) := by
  obtain ⟨⟨s, hO⟩, hC, hW⟩ := id hA
  refine xk_Y.ofX (k := 4) (ls := [some (.ref m), some (.int i), some (.int j), none, none, none, none]) (by decide) rfl rfl ?_
  refine xk_iload_n dX9_order_0 rfl ?_
  refine xk_iconst (0) dX9_order_1 (by decide) ?_
  refine xk_aload_n dX9_order_2 rfl ?_
  refine xk_get (ci := 8) (r := (RX9, TX9, 25)) 0 dX9_order_3 rfl inX9 (by decide) wf_X9_66 hO rfl ?_
  refine xk_iconst (1) dX9_order_6 (by decide) ?_
  refine xk_isub dX9_order_7 ?_
  refine xk_s3c (M' := mX9_in) (d' := (d + 3)) dX9_order_8 wm_X9_73 cv_X9_in wt_X9_in (by omega) (Nat.le_refl _) (Nat.le_refl _) (Nat.le_of_ble_eq_true rfl) (y_X9_in (d + 3)) rfl ?_
  refine xk_ifb_eq 35 dX9_order_11 (by decide) (fun c11 => ?_) (fun c11 => ?_)
  · rw [inB_tIn (by omega) hn] at c11
    refine xk_iconst (-1) dX9_order_35 (by decide) ?_
    exact xk_iret rfl dX9_order_36 (Nat.le_refl _) (Nat.le_refl _) ⟨by rw [mOrd_n (by simp [*])], hA, xfr.rf⟩
  · rw [inB_tIn (by omega) hn] at c11
    refine xk_iload_n dX9_order_14 rfl ?_
    refine xk_iconst (0) dX9_order_15 (by decide) ?_
    refine xk_aload_n dX9_order_16 rfl ?_
    refine xk_get (ci := 8) (r := (RX9, TX9, 25)) 0 dX9_order_17 rfl inX9 (by decide) wf_X9_66 hO rfl ?_
    refine xk_iconst (1) dX9_order_20 (by decide) ?_
    refine xk_isub dX9_order_21 ?_
    refine xk_s3c (M' := mX9_in) (d' := (d + 3)) dX9_order_22 wm_X9_73 cv_X9_in wt_X9_in (by omega) (Nat.le_refl _) (Nat.le_refl _) (Nat.le_of_ble_eq_true rfl) (y_X9_in (d + 3)) rfl ?_
    refine xk_ifb_eq 35 dX9_order_25 (by decide) (fun c25 => ?_) (fun c25 => ?_)
    · rw [inB_tIn (by omega) hn] at c25
      refine xk_iconst (-1) dX9_order_35 (by decide) ?_
      exact xk_iret rfl dX9_order_36 (Nat.le_refl _) (Nat.le_refl _) ⟨by rw [mOrd_n (by simp [*])], hA, xfr.rf⟩
    · rw [inB_tIn (by omega) hn] at c25
      refine xk_aload_n dX9_order_28 rfl ?_
      refine xk_v0 (M' := mX9_areAllSaid) (d' := (d + 2) + 1) (ci := 8) (r0 := (RX9, TX9, 25)) dX9_order_29 wm_X9_121 cv_X9_areAllSaid wi_X9_areAllSaid wl_X9_areAllSaid (by omega) (Nat.le_refl _) (Nat.le_refl _) rfl rfl hO (Nat.le_of_ble_eq_true rfl) (y_X9_areAllSaid (d + 2) hn h2 hO hC hK) rfl ?_
      refine xk_ifb_ne 37 dX9_order_32 (by decide) (fun c32 => ?_) (fun c32 => ?_)
      · obtain ⟨a, ha, rfl⟩ := tIn_of hn c11
        obtain ⟨b, hb, rfl⟩ := tIn_of hn c25
        have hF := mdF_of hK (of_decide_eq_true c32)
        have cC : (tIn n (nI a) && tIn n (nI b) && decide (cntP T.1 (n * (n - 1) / 2) = n * (n - 1) / 2)) = true := by rw [c11, c25, c32]; rfl
        have Ba := rowM_b hn h2 hK hF ha
        have Bb := rowM_b hn h2 hK hF hb
        have h9n := p9 hn
        have Ta : lowT (rowM n T a).1 (rowM n T a).2 ≤ 531441 := Nat.le_trans (Nat.div_le_self _ _) (Nat.le_trans Ba.1.2 h9n)
        have Ua : lowB (rowM n T a).1 (rowM n T a).2 ≤ 531441 := Nat.le_trans (Nat.div_le_self _ _) (Nat.le_trans Ba.2.2 h9n)
        have Tb : lowT (rowM n T b).1 (rowM n T b).2 ≤ 531441 := Nat.le_trans (Nat.div_le_self _ _) (Nat.le_trans Bb.1.2 h9n)
        have Ub : lowB (rowM n T b).1 (rowM n T b).2 ≤ 531441 := Nat.le_trans (Nat.div_le_self _ _) (Nat.le_trans Bb.2.2 h9n)
        have M1 : lowT (rowM n T a).1 (rowM n T a).2 * lowB (rowM n T b).1 (rowM n T b).2 < 2 ^ 63 := Nat.lt_of_le_of_lt (Nat.mul_le_mul Ta Ub) (by decide)
        have M2 : lowT (rowM n T b).1 (rowM n T b).2 * lowB (rowM n T a).1 (rowM n T a).2 < 2 ^ 63 := Nat.lt_of_le_of_lt (Nat.mul_le_mul Tb Ua) (by decide)
        refine xk_aload_n dX9_order_37 rfl ?_
        refine xk_iload_n dX9_order_38 rfl ?_
        refine xk_iconst (1) dX9_order_39 (by decide) ?_
        refine xk_v2 (M' := mX9_rowPart) (ci := 8) (r0 := (RX9, TX9, 25)) dX9_order_40 wm_X9_124 cv_X9_rowPart wi_X9_rowPart wl_X9_rowPart (by omega) (Nat.le_refl _) (Nat.le_refl _) rfl rfl hO (Nat.le_of_ble_eq_true rfl) (y_X9_rowPart d hn h2 hO hC hK hF (bb := true) ha) rfl ?_
        rw [show (if true = true then lowT (rowM n T a).1 (rowM n T a).2 else lowB (rowM n T a).1 (rowM n T a).2) = lowT (rowM n T a).1 (rowM n T a).2 from rfl]
        refine xk_aload_n dX9_order_43 rfl ?_
        refine xk_iload_n dX9_order_44 rfl ?_
        refine xk_iconst (0) dX9_order_45 (by decide) ?_
        refine xk_v2 (M' := mX9_rowPart) (ci := 8) (r0 := (RX9, TX9, 25)) dX9_order_46 wm_X9_124 cv_X9_rowPart wi_X9_rowPart wl_X9_rowPart (by omega) (Nat.le_refl _) (Nat.le_refl _) rfl rfl hO (Nat.le_of_ble_eq_true rfl) (y_X9_rowPart d hn h2 hO hC hK hF (bb := false) hb) rfl ?_
        rw [show (if false = true then lowT (rowM n T b).1 (rowM n T b).2 else lowB (rowM n T b).1 (rowM n T b).2) = lowB (rowM n T b).1 (rowM n T b).2 from rfl]
        refine xk_lmul dX9_order_49 ?_
        rw [lN_mul]
        refine xk_lstore_n dX9_order_50 (by decide) ?_
        dsimp only [xk_s1, xk_s2, xk_kill]
        refine xk_aload_n dX9_order_51 rfl ?_
        refine xk_iload_n dX9_order_52 rfl ?_
        refine xk_iconst (1) dX9_order_53 (by decide) ?_
        refine xk_v2 (M' := mX9_rowPart) (ci := 8) (r0 := (RX9, TX9, 25)) dX9_order_54 wm_X9_124 cv_X9_rowPart wi_X9_rowPart wl_X9_rowPart (by omega) (Nat.le_refl _) (Nat.le_refl _) rfl rfl hO (Nat.le_of_ble_eq_true rfl) (y_X9_rowPart d hn h2 hO hC hK hF (bb := true) hb) rfl ?_
        rw [show (if true = true then lowT (rowM n T b).1 (rowM n T b).2 else lowB (rowM n T b).1 (rowM n T b).2) = lowT (rowM n T b).1 (rowM n T b).2 from rfl]
        refine xk_aload_n dX9_order_57 rfl ?_
        refine xk_iload_n dX9_order_58 rfl ?_
        refine xk_iconst (0) dX9_order_59 (by decide) ?_
        refine xk_v2 (M' := mX9_rowPart) (ci := 8) (r0 := (RX9, TX9, 25)) dX9_order_60 wm_X9_124 cv_X9_rowPart wi_X9_rowPart wl_X9_rowPart (by omega) (Nat.le_refl _) (Nat.le_refl _) rfl rfl hO (Nat.le_of_ble_eq_true rfl) (y_X9_rowPart d hn h2 hO hC hK hF (bb := false) ha) rfl ?_
        rw [show (if false = true then lowT (rowM n T a).1 (rowM n T a).2 else lowB (rowM n T a).1 (rowM n T a).2) = lowB (rowM n T a).1 (rowM n T a).2 from rfl]
        refine xk_lmul dX9_order_63 ?_
        rw [lN_mul]
        refine xk_lstore dX9_order_64 (by decide) ?_
        dsimp only [xk_s1, xk_s2, xk_kill]
        refine xk_lload_n dX9_order_66 rfl ?_
        refine xk_lload dX9_order_67 rfl ?_
        refine xk_lcmp dX9_order_69 ?_
        refine xk_if_le 77 dX9_order_70 (by decide) (fun c70 => ?_) (fun c70 => ?_)
        · rw [lc_le M1 M2] at c70
          refine xk_lload_n dX9_order_77 rfl ?_
          refine xk_lload dX9_order_78 rfl ?_
          refine xk_lcmp dX9_order_80 ?_
          refine xk_if_ge 88 dX9_order_81 (by decide) (fun c81 => ?_) (fun c81 => ?_)
          · rw [lc_ge M1 M2] at c81
            refine xk_iconst (0) dX9_order_88 (by decide) ?_
            exact xk_iret rfl dX9_order_89 (Nat.le_refl _) (Nat.le_refl _) ⟨by unfold mOrd; rw [if_pos cC, nI_clamp (by omega), nI_clamp (by omega)]; dsimp only; first | (rw [if_pos (by omega)]; done) | (rw [if_neg (by omega), if_pos (by omega)]; done) | (rw [if_neg (by omega), if_neg (by omega)]; done), hA, xfr.rf⟩
          · rw [lc_ge M1 M2] at c81
            refine xk_iconst (2) dX9_order_84 (by decide) ?_
            refine xk_goto 89 dX9_order_85 (by decide) ?_
            exact xk_iret rfl dX9_order_89 (Nat.le_refl _) (Nat.le_refl _) ⟨by unfold mOrd; rw [if_pos cC, nI_clamp (by omega), nI_clamp (by omega)]; dsimp only; first | (rw [if_pos (by omega)]; done) | (rw [if_neg (by omega), if_pos (by omega)]; done) | (rw [if_neg (by omega), if_neg (by omega)]; done), hA, xfr.rf⟩
        · rw [lc_le M1 M2] at c70
          refine xk_iconst (1) dX9_order_73 (by decide) ?_
          refine xk_goto 89 dX9_order_74 (by decide) ?_
          exact xk_iret rfl dX9_order_89 (Nat.le_refl _) (Nat.le_refl _) ⟨by unfold mOrd; rw [if_pos cC, nI_clamp (by omega), nI_clamp (by omega)]; dsimp only; first | (rw [if_pos (by omega)]; done) | (rw [if_neg (by omega), if_pos (by omega)]; done) | (rw [if_neg (by omega), if_neg (by omega)]; done), hA, xfr.rf⟩
      · refine xk_iconst (-1) dX9_order_35 (by decide) ?_
        exact xk_iret rfl dX9_order_36 (Nat.le_refl _) (Nat.le_refl _) ⟨by rw [mOrd_n (by simp [*])], hA, xfr.rf⟩

