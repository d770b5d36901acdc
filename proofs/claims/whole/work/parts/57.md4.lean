/-! The reference: findsWorst, worst. Laid by a program of our own. -/
set_option maxHeartbeats 4000000 in
set_option maxRecDepth 100000 in
/-- findsWorst -/
theorem y_X9_findsWorst (d : Nat) {hs : xk_H} {m n : Nat} {T : mdT} {s0 : mdX} {F : Nat → Int32} (hn : n ≤ 6) (h2 : 2 ≤ n) (hO : hs[m]? = some (mdO n m s0)) (hC : mdC hs m n T) (hK : mdOK T) (hw : hs[m + 12]? = some (wR F (false, 0, 0, 0, 0, 0))) : xk_F (d + 3) mX9_findsWorst [.ref m] hs (some (.int (xk_b (mwF n T).1))) (hs.set (m + 12) (wR F (mwF n T))) := by
  have hO2 : ∀ e : xk_C, (hs.set (m + 12) e)[m]? = some (mdO n m s0) := fun e => (xs_ne (by omega)).trans hO
  have hC2 : ∀ e : xk_C, mdC (hs.set (m + 12) e) m n T := fun e => hC.kept (S := fun k => k = m + 12) (xfr.rf.set rfl) (by omega)
  have hw2 : ∀ e : xk_C, (hs.set (m + 12) e)[m + 12]? = some e := fun e => xs_at hw
  have l29 : ∀ (r k i j : Nat) (s : mwS) (o5 o6 o7 o8 o9 : Option Value), k + r = n → i < j → j < k → j < n → mwB s → (∀ (o5 o6 o7 o8 o9 : Option Value) (v : Int32), xk_P (d + 3) mX9_findsWorst [.ref m] hs (some (.int (xk_b (mwF n T).1))) (hs.set (m + 12) (wR F (mwF n T))) 233 [some (.ref m), some (.int (xk_b (itr (fun k s => mwC n T i j k s) r k s).1)), some (.int (nI i)), some (.int (nI j)), some (.int v), o5, o6, o7, o8, o9] [] (hs.set (m + 12) (wR F (itr (fun k s => mwC n T i j k s) r k s)))) → xk_P (d + 3) mX9_findsWorst [.ref m] hs (some (.int (xk_b (mwF n T).1))) (hs.set (m + 12) (wR F (mwF n T))) 29 [some (.ref m), some (.int (xk_b s.1)), some (.int (nI i)), some (.int (nI j)), some (.int (nI k)), o5, o6, o7, o8, o9] [] (hs.set (m + 12) (wR F s)) := by
    intro r
    induction r with
    | zero =>
      intro k i j s o5 o6 o7 o8 o9 h1 hij hjk hjn hB KK
      refine xk_iload dX9_findsWorst_29 rfl ?_
      refine xk_aload_n dX9_findsWorst_31 rfl ?_
      refine xk_get (ci := 8) (r := (RX9, TX9, 25)) 0 dX9_findsWorst_32 rfl inX9 (by decide) wf_X9_66 (hO2 _) rfl ?_
      refine xk_icmp_ge 233 dX9_findsWorst_35 (by decide) (fun c35 => ?_) (fun c35 => ?_)
      · exact KK _ _ _ _ _ _
      · exact absurd (nI_le (by omega) (by omega)) c35
    | succ r ih =>
      intro k i j s o5 o6 o7 o8 o9 h1 hij hjk hjn hB KK
      have k9 := fun q => hK q
      have pik := pidx_ok n (by omega) h2 i (by omega) k (by omega) (by omega)
      have hb1 := hB.1
      have hb2 := hB.2
      have hBn := mwC_b (j := j) hn h2 hK (show i < n by omega) (show k < n by omega) (by omega) hB
      refine xk_iload dX9_findsWorst_29 rfl ?_
      refine xk_aload_n dX9_findsWorst_31 rfl ?_
      refine xk_get (ci := 8) (r := (RX9, TX9, 25)) 0 dX9_findsWorst_32 rfl inX9 (by decide) wf_X9_66 (hO2 _) rfl ?_
      refine xk_icmp_ge 233 dX9_findsWorst_35 (by decide) (fun c35 => ?_) (fun c35 => ?_)
      · exact absurd c35 (nI_ge (by omega) (by omega))
      · refine xk_aload_n dX9_findsWorst_38 rfl ?_
        refine xk_iload_n dX9_findsWorst_39 rfl ?_
        refine xk_iload_n dX9_findsWorst_40 rfl ?_
        refine xk_v2 (M' := mX9_isSaid) (d' := d + 2) (ci := 8) (r0 := (RX9, TX9, 25)) dX9_findsWorst_41 wm_X9_88 cv_X9_isSaid wi_X9_isSaid wl_X9_isSaid (by omega) (Nat.le_refl _) (Nat.le_refl _) rfl rfl (hO2 _) (Nat.le_of_ble_eq_true rfl) (y_X9_isSaid d hn h2 (hO2 _) (hC2 _) (i := i) (j := j) (by omega) (by omega) (by omega) (by have := hK (pidx n i j); omega)) rfl ?_
        refine xk_ifb_eq 227 dX9_findsWorst_44 (by decide) (fun c44 => ?_) (fun c44 => ?_)
        · have cx := of_decide_eq_false c44
          have cOld : mwC n T i j k s = s := by unfold mwC; rw [if_neg (by simp [cx])]
          refine xk_iinc (nI (k + 1)) dX9_findsWorst_227 rfl (nI_1 k) (by decide) ?_
          dsimp only [xk_s1, xk_s2, xk_kill]
          refine xk_goto 29 dX9_findsWorst_230 (by decide) ?_
          first
          | (have q9 : ¬ (s.1 = true ∧ mwX n T i j k * s.2.2.2.2.2 ≤ s.2.2.2.2.1 * mwY n T i j k) := cNew; rw [show mwC n T i j k s = (true, i, j, k, mwX n T i j k, mwY n T i j k) by unfold mwC; rw [if_pos cA, if_neg cNew]] at hBn; refine ih (k + 1) i j (true, i, j, k, mwX n T i j k, mwY n T i j k) _ _ _ _ _ (by omega) hij (by omega) hjn hBn ?_; rw [show itr (fun k s => mwC n T i j k s) (r + 1) k s = itr (fun k s => mwC n T i j k s) r (k + 1) (true, i, j, k, mwX n T i j k, mwY n T i j k) by rw [itr]; rw [show mwC n T i j k s = (true, i, j, k, mwX n T i j k, mwY n T i j k) by unfold mwC; rw [if_pos cA, if_neg cNew]]] at KK; exact KK)
          | (have q9 : mwC n T i j k s = s := cOld; rw [show itr (fun k s => mwC n T i j k s) (r + 1) k s = itr (fun k s => mwC n T i j k s) r (k + 1) s by rw [itr, cOld]] at KK; exact ih (k + 1) i j s _ _ _ _ _ (by omega) hij (by omega) hjn hB KK)
        · have c47 := of_decide_eq_true c44
          refine xk_aload_n dX9_findsWorst_47 rfl ?_
          refine xk_iload_n dX9_findsWorst_48 rfl ?_
          refine xk_iload dX9_findsWorst_49 rfl ?_
          refine xk_v2 (M' := mX9_isSaid) (d' := d + 2) (ci := 8) (r0 := (RX9, TX9, 25)) dX9_findsWorst_51 wm_X9_88 cv_X9_isSaid wi_X9_isSaid wl_X9_isSaid (by omega) (Nat.le_refl _) (Nat.le_refl _) rfl rfl (hO2 _) (Nat.le_of_ble_eq_true rfl) (y_X9_isSaid d hn h2 (hO2 _) (hC2 _) (i := j) (j := k) (by omega) (by omega) (by omega) (by have := hK (pidx n j k); omega)) rfl ?_
          refine xk_ifb_eq 227 dX9_findsWorst_54 (by decide) (fun c54 => ?_) (fun c54 => ?_)
          · have cx := of_decide_eq_false c54
            have cOld : mwC n T i j k s = s := by unfold mwC; rw [if_neg (by simp [cx])]
            refine xk_iinc (nI (k + 1)) dX9_findsWorst_227 rfl (nI_1 k) (by decide) ?_
            dsimp only [xk_s1, xk_s2, xk_kill]
            refine xk_goto 29 dX9_findsWorst_230 (by decide) ?_
            first
            | (have q9 : ¬ (s.1 = true ∧ mwX n T i j k * s.2.2.2.2.2 ≤ s.2.2.2.2.1 * mwY n T i j k) := cNew; rw [show mwC n T i j k s = (true, i, j, k, mwX n T i j k, mwY n T i j k) by unfold mwC; rw [if_pos cA, if_neg cNew]] at hBn; refine ih (k + 1) i j (true, i, j, k, mwX n T i j k, mwY n T i j k) _ _ _ _ _ (by omega) hij (by omega) hjn hBn ?_; rw [show itr (fun k s => mwC n T i j k s) (r + 1) k s = itr (fun k s => mwC n T i j k s) r (k + 1) (true, i, j, k, mwX n T i j k, mwY n T i j k) by rw [itr]; rw [show mwC n T i j k s = (true, i, j, k, mwX n T i j k, mwY n T i j k) by unfold mwC; rw [if_pos cA, if_neg cNew]]] at KK; exact KK)
            | (have q9 : mwC n T i j k s = s := cOld; rw [show itr (fun k s => mwC n T i j k s) (r + 1) k s = itr (fun k s => mwC n T i j k s) r (k + 1) s by rw [itr, cOld]] at KK; exact ih (k + 1) i j s _ _ _ _ _ (by omega) hij (by omega) hjn hB KK)
          · have c57 := of_decide_eq_true c54
            refine xk_aload_n dX9_findsWorst_57 rfl ?_
            refine xk_iload_n dX9_findsWorst_58 rfl ?_
            refine xk_iload dX9_findsWorst_59 rfl ?_
            refine xk_v2 (M' := mX9_isSaid) (d' := d + 2) (ci := 8) (r0 := (RX9, TX9, 25)) dX9_findsWorst_61 wm_X9_88 cv_X9_isSaid wi_X9_isSaid wl_X9_isSaid (by omega) (Nat.le_refl _) (Nat.le_refl _) rfl rfl (hO2 _) (Nat.le_of_ble_eq_true rfl) (y_X9_isSaid d hn h2 (hO2 _) (hC2 _) (i := i) (j := k) (by omega) (by omega) (by omega) (by have := hK (pidx n i k); omega)) rfl ?_
            refine xk_ifb_ne 70 dX9_findsWorst_64 (by decide) (fun c64 => ?_) (fun c64 => ?_)
            · have c67 := of_decide_eq_true c64
              have hH : mwH n T i j k := ⟨c47, c57, c67⟩
              have bt := mwT_b hn h2 hK (show i < n by omega) (show k < n by omega) (by omega) hH
              obtain ⟨⟨bt1, bt2⟩, bt3, bt4⟩ := bt
              have cA : (decide (0 < T.1 (pidx n i j)) && decide (0 < T.1 (pidx n j k)) && decide (0 < T.1 (pidx n i k))) = true := by rw [decide_eq_true c47, decide_eq_true c57, decide_eq_true c67]; rfl
              obtain ⟨t9, et9⟩ : ∃ z, z = (mwT n T i j k).1 := ⟨_, rfl⟩
              obtain ⟨b9, eb9⟩ : ∃ z, z = (mwT n T i j k).2 := ⟨_, rfl⟩
              have hg1 : 0 < Nat.gcd t9 b9 := Nat.gcd_pos_of_pos_left _ (by omega)
              have hg2 : Nat.gcd t9 b9 ≤ t9 := Nat.gcd_le_left _ (by omega)
              have xx : mwX n T i j k = max t9 b9 / Nat.gcd t9 b9 := by unfold mwX; rw [← et9, ← eb9]
              have yy : mwY n T i j k = min t9 b9 / Nat.gcd t9 b9 := by unfold mwY; rw [← et9, ← eb9]
              have hX : mwX n T i j k ≤ 729 := by rw [xx]; exact Nat.le_trans (Nat.div_le_self _ _) (Nat.max_le.mpr ⟨by omega, by omega⟩)
              have hY : mwY n T i j k ≤ 729 := by rw [yy]; exact Nat.le_trans (Nat.div_le_self _ _) (Nat.le_trans (Nat.min_le_left _ _) (by omega))
              refine xk_aload_n dX9_findsWorst_70 rfl ?_
              refine xk_iload_n dX9_findsWorst_71 rfl ?_
              refine xk_iload_n dX9_findsWorst_72 rfl ?_
              refine xk_v2 (M' := mX9_topOf) (d' := d + 2) (ci := 8) (r0 := (RX9, TX9, 25)) dX9_findsWorst_73 wm_X9_91 cv_X9_topOf wi_X9_topOf wl_X9_topOf (by omega) (Nat.le_refl _) (Nat.le_refl _) rfl rfl (hO2 _) (Nat.le_of_ble_eq_true rfl) (y_X9_topOf d hn h2 (hO2 _) (hC2 _) (i := i) (j := j) (by omega) (by omega) (by omega)) rfl ?_
              refine xk_aload_n dX9_findsWorst_76 rfl ?_
              refine xk_iload_n dX9_findsWorst_77 rfl ?_
              refine xk_iload dX9_findsWorst_78 rfl ?_
              refine xk_v2 (M' := mX9_topOf) (d' := d + 2) (ci := 8) (r0 := (RX9, TX9, 25)) dX9_findsWorst_80 wm_X9_91 cv_X9_topOf wi_X9_topOf wl_X9_topOf (by omega) (Nat.le_refl _) (Nat.le_refl _) rfl rfl (hO2 _) (Nat.le_of_ble_eq_true rfl) (y_X9_topOf d hn h2 (hO2 _) (hC2 _) (i := j) (j := k) (by omega) (by omega) (by omega)) rfl ?_
              refine xk_imul dX9_findsWorst_83 ?_
              rw [pk_mul]
              refine xk_aload_n dX9_findsWorst_84 rfl ?_
              refine xk_iload dX9_findsWorst_85 rfl ?_
              refine xk_iload_n dX9_findsWorst_87 rfl ?_
              refine xk_v2 (M' := mX9_topOf) (d' := d + 2) (ci := 8) (r0 := (RX9, TX9, 25)) dX9_findsWorst_88 wm_X9_91 cv_X9_topOf wi_X9_topOf wl_X9_topOf (by omega) (Nat.le_refl _) (Nat.le_refl _) rfl rfl (hO2 _) (Nat.le_of_ble_eq_true rfl) (y_X9_topOf d hn h2 (hO2 _) (hC2 _) (i := k) (j := i) (by omega) (by omega) (by omega)) rfl ?_
              refine xk_imul dX9_findsWorst_91 ?_
              rw [pk_mul]
              rw [show (mdS n T.1 T.2.1 i j).1 * (mdS n T.1 T.2.1 j k).1 * (mdS n T.1 T.2.1 k i).1 = t9 from et9.symm]
              refine xk_istore dX9_findsWorst_92 (by decide) ?_
              dsimp only [xk_s1, xk_s2, xk_kill]
              refine xk_aload_n dX9_findsWorst_94 rfl ?_
              refine xk_iload_n dX9_findsWorst_95 rfl ?_
              refine xk_iload_n dX9_findsWorst_96 rfl ?_
              refine xk_v2 (M' := mX9_bottomOf) (d' := d + 2) (ci := 8) (r0 := (RX9, TX9, 25)) dX9_findsWorst_97 wm_X9_94 cv_X9_bottomOf wi_X9_bottomOf wl_X9_bottomOf (by omega) (Nat.le_refl _) (Nat.le_refl _) rfl rfl (hO2 _) (Nat.le_of_ble_eq_true rfl) (y_X9_bottomOf d hn h2 (hO2 _) (hC2 _) (i := i) (j := j) (by omega) (by omega) (by omega)) rfl ?_
              refine xk_aload_n dX9_findsWorst_100 rfl ?_
              refine xk_iload_n dX9_findsWorst_101 rfl ?_
              refine xk_iload dX9_findsWorst_102 rfl ?_
              refine xk_v2 (M' := mX9_bottomOf) (d' := d + 2) (ci := 8) (r0 := (RX9, TX9, 25)) dX9_findsWorst_104 wm_X9_94 cv_X9_bottomOf wi_X9_bottomOf wl_X9_bottomOf (by omega) (Nat.le_refl _) (Nat.le_refl _) rfl rfl (hO2 _) (Nat.le_of_ble_eq_true rfl) (y_X9_bottomOf d hn h2 (hO2 _) (hC2 _) (i := j) (j := k) (by omega) (by omega) (by omega)) rfl ?_
              refine xk_imul dX9_findsWorst_107 ?_
              rw [pk_mul]
              refine xk_aload_n dX9_findsWorst_108 rfl ?_
              refine xk_iload dX9_findsWorst_109 rfl ?_
              refine xk_iload_n dX9_findsWorst_111 rfl ?_
              refine xk_v2 (M' := mX9_bottomOf) (d' := d + 2) (ci := 8) (r0 := (RX9, TX9, 25)) dX9_findsWorst_112 wm_X9_94 cv_X9_bottomOf wi_X9_bottomOf wl_X9_bottomOf (by omega) (Nat.le_refl _) (Nat.le_refl _) rfl rfl (hO2 _) (Nat.le_of_ble_eq_true rfl) (y_X9_bottomOf d hn h2 (hO2 _) (hC2 _) (i := k) (j := i) (by omega) (by omega) (by omega)) rfl ?_
              refine xk_imul dX9_findsWorst_115 ?_
              rw [pk_mul]
              rw [show (mdS n T.1 T.2.1 i j).2 * (mdS n T.1 T.2.1 j k).2 * (mdS n T.1 T.2.1 k i).2 = b9 from eb9.symm]
              refine xk_istore dX9_findsWorst_116 (by decide) ?_
              dsimp only [xk_s1, xk_s2, xk_kill]
              refine xk_iload dX9_findsWorst_118 rfl ?_
              refine xk_i2l dX9_findsWorst_120 ?_
              rw [nI_l (by omega)]
              refine xk_iload dX9_findsWorst_121 rfl ?_
              refine xk_i2l dX9_findsWorst_123 ?_
              rw [nI_l (by omega)]
              refine xk_s2c (M' := mX9_divisor) (d' := (d + 2)) dX9_findsWorst_124 wm_X9_81 cv_X9_divisor wt_X9_divisor (by omega) (Nat.le_refl _) (Nat.le_refl _) (Nat.le_of_ble_eq_true rfl) (y_X9_divisor (d + 2) (by omega) (by omega)) rfl ?_
              refine xk_l2i dX9_findsWorst_127 ?_
              rw [lN_i]
              refine xk_istore dX9_findsWorst_128 (by decide) ?_
              dsimp only [xk_s1, xk_s2, xk_kill]
              refine xk_iload dX9_findsWorst_130 rfl ?_
              refine xk_iload dX9_findsWorst_132 rfl ?_
              refine xk_mmax dX9_findsWorst_134 wm_X9_63 (by omega) (Nat.le_refl _) (Nat.le_refl _) (Nat.le_of_ble_eq_true rfl) ?_
              rw [show (if nI t9 < nI b9 then nI b9 else nI t9) = nI (max t9 b9) from by by_cases c : t9 < b9; (rw [if_pos (nI_lt c (by omega)), Nat.max_eq_right (by omega)]); (rw [if_neg (nI_nlt (by omega) (by omega)), Nat.max_eq_left (by omega)])]
              refine xk_iload dX9_findsWorst_137 rfl ?_
              refine xk_idiv dX9_findsWorst_139 (fun z => absurd ((nI_eq (b := 0) (by omega) (by decide)).mp z) (by omega)) ?_
              rw [pk_div (by omega) hg1 (by omega), ← xx]
              refine xk_istore dX9_findsWorst_140 (by decide) ?_
              dsimp only [xk_s1, xk_s2, xk_kill]
              refine xk_iload dX9_findsWorst_142 rfl ?_
              refine xk_iload dX9_findsWorst_144 rfl ?_
              refine xk_mmin dX9_findsWorst_146 wm_X9_57 (by omega) (Nat.le_refl _) (Nat.le_refl _) (Nat.le_of_ble_eq_true rfl) ?_
              rw [show (if nI b9 < nI t9 then nI b9 else nI t9) = nI (min t9 b9) from by by_cases c : b9 < t9; (rw [if_pos (nI_lt c (by omega)), Nat.min_eq_right (by omega)]); (rw [if_neg (nI_nlt (by omega) (by omega)), Nat.min_eq_left (by omega)])]
              refine xk_iload dX9_findsWorst_149 rfl ?_
              refine xk_idiv dX9_findsWorst_151 (fun z => absurd ((nI_eq (b := 0) (by omega) (by decide)).mp z) (by omega)) ?_
              rw [pk_div (by omega) hg1 (by omega), ← yy]
              refine xk_istore dX9_findsWorst_152 (by decide) ?_
              dsimp only [xk_s1, xk_s2, xk_kill]
              obtain ⟨sb, i0, j0, k0, x0, y0⟩ := s; cases sb
              · refine xk_iload_n dX9_findsWorst_154 rfl ?_
                refine xk_ifb_eq 187 dX9_findsWorst_155 (by decide) (fun c155 => ?_) (fun c155 => ?_)
                · have cNew : ¬ ((false, i0, j0, k0, x0, y0).1 = true ∧ mwX n T i j k * (false, i0, j0, k0, x0, y0).2.2.2.2.2 ≤ (false, i0, j0, k0, x0, y0).2.2.2.2.1 * mwY n T i j k) := fun z => absurd (show false = true from z.1) (by decide)
                  refine xk_iconst (1) dX9_findsWorst_187 (by decide) ?_
                  refine xk_istore_n dX9_findsWorst_188 (by decide) ?_
                  dsimp only [xk_s1, xk_s2, xk_kill]
                  refine xk_aload_n dX9_findsWorst_189 rfl ?_
                  refine xk_get (ci := 8) (r := (RX9, TX9, 25)) 14 dX9_findsWorst_190 rfl inX9 (by decide) wf_X9_45 (hO2 _) rfl ?_
                  refine xk_iconst (0) dX9_findsWorst_193 (by decide) ?_
                  refine xk_iload_n dX9_findsWorst_194 rfl ?_
                  refine xk_iast dX9_findsWorst_195 (hw2 _) (vp_in_nI (n := 0) (by decide) (by decide)) ?_
                  rw [show (0 : Int32).toNatClampNeg = 0 from rfl]
                  refine xk_aload_n dX9_findsWorst_196 rfl ?_
                  refine xk_get (ci := 8) (r := (RX9, TX9, 25)) 14 dX9_findsWorst_197 rfl inX9 (by decide) wf_X9_45 ((xs_ne (by omega)).trans (hO2 _)) rfl ?_
                  refine xk_iconst (1) dX9_findsWorst_200 (by decide) ?_
                  refine xk_iload_n dX9_findsWorst_201 rfl ?_
                  refine xk_iast dX9_findsWorst_202 (xs_at (hw2 _)) (vp_in_nI (n := 1) (by decide) (by decide)) ?_
                  rw [show (1 : Int32).toNatClampNeg = 1 from rfl]
                  rw [List.set_set]
                  refine xk_aload_n dX9_findsWorst_203 rfl ?_
                  refine xk_get (ci := 8) (r := (RX9, TX9, 25)) 14 dX9_findsWorst_204 rfl inX9 (by decide) wf_X9_45 ((xs_ne (by omega)).trans (hO2 _)) rfl ?_
                  refine xk_iconst (2) dX9_findsWorst_207 (by decide) ?_
                  refine xk_iload dX9_findsWorst_208 rfl ?_
                  refine xk_iast dX9_findsWorst_210 (xs_at (hw2 _)) (vp_in_nI (n := 2) (by decide) (by decide)) ?_
                  rw [show (2 : Int32).toNatClampNeg = 2 from rfl]
                  rw [List.set_set]
                  refine xk_aload_n dX9_findsWorst_211 rfl ?_
                  refine xk_get (ci := 8) (r := (RX9, TX9, 25)) 14 dX9_findsWorst_212 rfl inX9 (by decide) wf_X9_45 ((xs_ne (by omega)).trans (hO2 _)) rfl ?_
                  refine xk_iconst (3) dX9_findsWorst_215 (by decide) ?_
                  refine xk_iload dX9_findsWorst_216 rfl ?_
                  refine xk_iast dX9_findsWorst_218 (xs_at (hw2 _)) (vp_in_nI (n := 3) (by decide) (by decide)) ?_
                  rw [show (3 : Int32).toNatClampNeg = 3 from rfl]
                  rw [List.set_set]
                  refine xk_aload_n dX9_findsWorst_219 rfl ?_
                  refine xk_get (ci := 8) (r := (RX9, TX9, 25)) 14 dX9_findsWorst_220 rfl inX9 (by decide) wf_X9_45 ((xs_ne (by omega)).trans (hO2 _)) rfl ?_
                  refine xk_iconst (4) dX9_findsWorst_223 (by decide) ?_
                  refine xk_iload dX9_findsWorst_224 rfl ?_
                  refine xk_iast dX9_findsWorst_226 (xs_at (hw2 _)) (vp_in_nI (n := 4) (by decide) (by decide)) ?_
                  rw [show (4 : Int32).toNatClampNeg = 4 from rfl]
                  rw [List.set_set]
                  rw [wR_set, List.set_set]
                  refine xk_iinc (nI (k + 1)) dX9_findsWorst_227 rfl (nI_1 k) (by decide) ?_
                  dsimp only [xk_s1, xk_s2, xk_kill]
                  refine xk_goto 29 dX9_findsWorst_230 (by decide) ?_
                  first
                  | (have q9 : ¬ ((false, i0, j0, k0, x0, y0).1 = true ∧ mwX n T i j k * (false, i0, j0, k0, x0, y0).2.2.2.2.2 ≤ (false, i0, j0, k0, x0, y0).2.2.2.2.1 * mwY n T i j k) := cNew; rw [show mwC n T i j k (false, i0, j0, k0, x0, y0) = (true, i, j, k, mwX n T i j k, mwY n T i j k) by unfold mwC; rw [if_pos cA, if_neg cNew]] at hBn; refine ih (k + 1) i j (true, i, j, k, mwX n T i j k, mwY n T i j k) _ _ _ _ _ (by omega) hij (by omega) hjn hBn ?_; rw [show itr (fun k s => mwC n T i j k s) (r + 1) k (false, i0, j0, k0, x0, y0) = itr (fun k s => mwC n T i j k s) r (k + 1) (true, i, j, k, mwX n T i j k, mwY n T i j k) by rw [itr]; rw [show mwC n T i j k (false, i0, j0, k0, x0, y0) = (true, i, j, k, mwX n T i j k, mwY n T i j k) by unfold mwC; rw [if_pos cA, if_neg cNew]]] at KK; exact KK)
                  | (have q9 : mwC n T i j k (false, i0, j0, k0, x0, y0) = (false, i0, j0, k0, x0, y0) := cOld; rw [show itr (fun k s => mwC n T i j k s) (r + 1) k (false, i0, j0, k0, x0, y0) = itr (fun k s => mwC n T i j k s) r (k + 1) (false, i0, j0, k0, x0, y0) by rw [itr, cOld]] at KK; exact ih (k + 1) i j (false, i0, j0, k0, x0, y0) _ _ _ _ _ (by omega) hij (by omega) hjn hB KK)
                · exact absurd (show false = true from c155) (by decide)
              · have hb1 : x0 ≤ 729 := hb1
                have hb2 : y0 ≤ 729 := hb2
                have m1 : mwX n T i j k * y0 ≤ 729 * 729 := Nat.mul_le_mul hX hb2
                have m2 : x0 * mwY n T i j k ≤ 729 * 729 := Nat.mul_le_mul hb1 hY
                refine xk_iload_n dX9_findsWorst_154 rfl ?_
                refine xk_ifb_eq 187 dX9_findsWorst_155 (by decide) (fun c155 => ?_) (fun c155 => ?_)
                · exact absurd (show true = false from c155) (by decide)
                · refine xk_iload dX9_findsWorst_158 rfl ?_
                  refine xk_i2l dX9_findsWorst_160 ?_
                  rw [nI_l (by omega)]
                  refine xk_aload_n dX9_findsWorst_161 rfl ?_
                  refine xk_get (ci := 8) (r := (RX9, TX9, 25)) 14 dX9_findsWorst_162 rfl inX9 (by decide) wf_X9_45 (hO2 _) rfl ?_
                  refine xk_iconst (4) dX9_findsWorst_165 (by decide) ?_
                  refine xk_iald dX9_findsWorst_166 (hw2 _) (vp_in_nI (n := 4) (by decide) (by decide)) ?_
                  rw [show (4 : Int32).toNatClampNeg = 4 from rfl, show wFn F (true, i0, j0, k0, x0, y0) 4 = nI y0 from rfl]
                  refine xk_i2l dX9_findsWorst_167 ?_
                  rw [nI_l (by omega)]
                  refine xk_lmul dX9_findsWorst_168 ?_
                  rw [lN_mul]
                  refine xk_aload_n dX9_findsWorst_169 rfl ?_
                  refine xk_get (ci := 8) (r := (RX9, TX9, 25)) 14 dX9_findsWorst_170 rfl inX9 (by decide) wf_X9_45 (hO2 _) rfl ?_
                  refine xk_iconst (3) dX9_findsWorst_173 (by decide) ?_
                  refine xk_iald dX9_findsWorst_174 (hw2 _) (vp_in_nI (n := 3) (by decide) (by decide)) ?_
                  rw [show (3 : Int32).toNatClampNeg = 3 from rfl, show wFn F (true, i0, j0, k0, x0, y0) 3 = nI x0 from rfl]
                  refine xk_i2l dX9_findsWorst_175 ?_
                  rw [nI_l (by omega)]
                  refine xk_iload dX9_findsWorst_176 rfl ?_
                  refine xk_i2l dX9_findsWorst_178 ?_
                  rw [nI_l (by omega)]
                  refine xk_lmul dX9_findsWorst_179 ?_
                  rw [lN_mul]
                  refine xk_lcmp dX9_findsWorst_180 ?_
                  refine xk_if_gt 187 dX9_findsWorst_181 (by decide) (fun c181 => ?_) (fun c181 => ?_)
                  · have c182 : ¬ mwX n T i j k * y0 ≤ x0 * mwY n T i j k := fun z => absurd ((lc_gt (by omega) (by omega)).mp c181) (by omega)
                    have cNew : ¬ ((true, i0, j0, k0, x0, y0).1 = true ∧ mwX n T i j k * (true, i0, j0, k0, x0, y0).2.2.2.2.2 ≤ (true, i0, j0, k0, x0, y0).2.2.2.2.1 * mwY n T i j k) := fun z => c182 z.2
                    refine xk_iconst (1) dX9_findsWorst_187 (by decide) ?_
                    refine xk_istore_n dX9_findsWorst_188 (by decide) ?_
                    dsimp only [xk_s1, xk_s2, xk_kill]
                    refine xk_aload_n dX9_findsWorst_189 rfl ?_
                    refine xk_get (ci := 8) (r := (RX9, TX9, 25)) 14 dX9_findsWorst_190 rfl inX9 (by decide) wf_X9_45 (hO2 _) rfl ?_
                    refine xk_iconst (0) dX9_findsWorst_193 (by decide) ?_
                    refine xk_iload_n dX9_findsWorst_194 rfl ?_
                    refine xk_iast dX9_findsWorst_195 (hw2 _) (vp_in_nI (n := 0) (by decide) (by decide)) ?_
                    rw [show (0 : Int32).toNatClampNeg = 0 from rfl]
                    refine xk_aload_n dX9_findsWorst_196 rfl ?_
                    refine xk_get (ci := 8) (r := (RX9, TX9, 25)) 14 dX9_findsWorst_197 rfl inX9 (by decide) wf_X9_45 ((xs_ne (by omega)).trans (hO2 _)) rfl ?_
                    refine xk_iconst (1) dX9_findsWorst_200 (by decide) ?_
                    refine xk_iload_n dX9_findsWorst_201 rfl ?_
                    refine xk_iast dX9_findsWorst_202 (xs_at (hw2 _)) (vp_in_nI (n := 1) (by decide) (by decide)) ?_
                    rw [show (1 : Int32).toNatClampNeg = 1 from rfl]
                    rw [List.set_set]
                    refine xk_aload_n dX9_findsWorst_203 rfl ?_
                    refine xk_get (ci := 8) (r := (RX9, TX9, 25)) 14 dX9_findsWorst_204 rfl inX9 (by decide) wf_X9_45 ((xs_ne (by omega)).trans (hO2 _)) rfl ?_
                    refine xk_iconst (2) dX9_findsWorst_207 (by decide) ?_
                    refine xk_iload dX9_findsWorst_208 rfl ?_
                    refine xk_iast dX9_findsWorst_210 (xs_at (hw2 _)) (vp_in_nI (n := 2) (by decide) (by decide)) ?_
                    rw [show (2 : Int32).toNatClampNeg = 2 from rfl]
                    rw [List.set_set]
                    refine xk_aload_n dX9_findsWorst_211 rfl ?_
                    refine xk_get (ci := 8) (r := (RX9, TX9, 25)) 14 dX9_findsWorst_212 rfl inX9 (by decide) wf_X9_45 ((xs_ne (by omega)).trans (hO2 _)) rfl ?_
                    refine xk_iconst (3) dX9_findsWorst_215 (by decide) ?_
                    refine xk_iload dX9_findsWorst_216 rfl ?_
                    refine xk_iast dX9_findsWorst_218 (xs_at (hw2 _)) (vp_in_nI (n := 3) (by decide) (by decide)) ?_
                    rw [show (3 : Int32).toNatClampNeg = 3 from rfl]
                    rw [List.set_set]
                    refine xk_aload_n dX9_findsWorst_219 rfl ?_
                    refine xk_get (ci := 8) (r := (RX9, TX9, 25)) 14 dX9_findsWorst_220 rfl inX9 (by decide) wf_X9_45 ((xs_ne (by omega)).trans (hO2 _)) rfl ?_
                    refine xk_iconst (4) dX9_findsWorst_223 (by decide) ?_
                    refine xk_iload dX9_findsWorst_224 rfl ?_
                    refine xk_iast dX9_findsWorst_226 (xs_at (hw2 _)) (vp_in_nI (n := 4) (by decide) (by decide)) ?_
                    rw [show (4 : Int32).toNatClampNeg = 4 from rfl]
                    rw [List.set_set]
                    rw [wR_set, List.set_set]
                    refine xk_iinc (nI (k + 1)) dX9_findsWorst_227 rfl (nI_1 k) (by decide) ?_
                    dsimp only [xk_s1, xk_s2, xk_kill]
                    refine xk_goto 29 dX9_findsWorst_230 (by decide) ?_
                    first
                    | (have q9 : ¬ ((true, i0, j0, k0, x0, y0).1 = true ∧ mwX n T i j k * (true, i0, j0, k0, x0, y0).2.2.2.2.2 ≤ (true, i0, j0, k0, x0, y0).2.2.2.2.1 * mwY n T i j k) := cNew; rw [show mwC n T i j k (true, i0, j0, k0, x0, y0) = (true, i, j, k, mwX n T i j k, mwY n T i j k) by unfold mwC; rw [if_pos cA, if_neg cNew]] at hBn; refine ih (k + 1) i j (true, i, j, k, mwX n T i j k, mwY n T i j k) _ _ _ _ _ (by omega) hij (by omega) hjn hBn ?_; rw [show itr (fun k s => mwC n T i j k s) (r + 1) k (true, i0, j0, k0, x0, y0) = itr (fun k s => mwC n T i j k s) r (k + 1) (true, i, j, k, mwX n T i j k, mwY n T i j k) by rw [itr]; rw [show mwC n T i j k (true, i0, j0, k0, x0, y0) = (true, i, j, k, mwX n T i j k, mwY n T i j k) by unfold mwC; rw [if_pos cA, if_neg cNew]]] at KK; exact KK)
                    | (have q9 : mwC n T i j k (true, i0, j0, k0, x0, y0) = (true, i0, j0, k0, x0, y0) := cOld; rw [show itr (fun k s => mwC n T i j k s) (r + 1) k (true, i0, j0, k0, x0, y0) = itr (fun k s => mwC n T i j k s) r (k + 1) (true, i0, j0, k0, x0, y0) by rw [itr, cOld]] at KK; exact ih (k + 1) i j (true, i0, j0, k0, x0, y0) _ _ _ _ _ (by omega) hij (by omega) hjn hB KK)
                  · have c182 : mwX n T i j k * y0 ≤ x0 * mwY n T i j k := by
                      rcases Nat.lt_or_ge (x0 * mwY n T i j k) (mwX n T i j k * y0) with z | z
                      · exact absurd ((lc_gt (by omega) (by omega)).mpr z) c181
                      · exact z
                    have cOld : mwC n T i j k (true, i0, j0, k0, x0, y0) = (true, i0, j0, k0, x0, y0) := by unfold mwC; rw [if_pos cA, if_pos ⟨rfl, c182⟩]
                    refine xk_goto 227 dX9_findsWorst_184 (by decide) ?_
                    refine xk_iinc (nI (k + 1)) dX9_findsWorst_227 rfl (nI_1 k) (by decide) ?_
                    dsimp only [xk_s1, xk_s2, xk_kill]
                    refine xk_goto 29 dX9_findsWorst_230 (by decide) ?_
                    first
                    | (have q9 : ¬ ((true, i0, j0, k0, x0, y0).1 = true ∧ mwX n T i j k * (true, i0, j0, k0, x0, y0).2.2.2.2.2 ≤ (true, i0, j0, k0, x0, y0).2.2.2.2.1 * mwY n T i j k) := cNew; rw [show mwC n T i j k (true, i0, j0, k0, x0, y0) = (true, i, j, k, mwX n T i j k, mwY n T i j k) by unfold mwC; rw [if_pos cA, if_neg cNew]] at hBn; refine ih (k + 1) i j (true, i, j, k, mwX n T i j k, mwY n T i j k) _ _ _ _ _ (by omega) hij (by omega) hjn hBn ?_; rw [show itr (fun k s => mwC n T i j k s) (r + 1) k (true, i0, j0, k0, x0, y0) = itr (fun k s => mwC n T i j k s) r (k + 1) (true, i, j, k, mwX n T i j k, mwY n T i j k) by rw [itr]; rw [show mwC n T i j k (true, i0, j0, k0, x0, y0) = (true, i, j, k, mwX n T i j k, mwY n T i j k) by unfold mwC; rw [if_pos cA, if_neg cNew]]] at KK; exact KK)
                    | (have q9 : mwC n T i j k (true, i0, j0, k0, x0, y0) = (true, i0, j0, k0, x0, y0) := cOld; rw [show itr (fun k s => mwC n T i j k s) (r + 1) k (true, i0, j0, k0, x0, y0) = itr (fun k s => mwC n T i j k s) r (k + 1) (true, i0, j0, k0, x0, y0) by rw [itr, cOld]] at KK; exact ih (k + 1) i j (true, i0, j0, k0, x0, y0) _ _ _ _ _ (by omega) hij (by omega) hjn hB KK)
            · have cx := of_decide_eq_false c64
              have cOld : mwC n T i j k s = s := by unfold mwC; rw [if_neg (by simp [cx])]
              refine xk_goto 227 dX9_findsWorst_67 (by decide) ?_
              refine xk_iinc (nI (k + 1)) dX9_findsWorst_227 rfl (nI_1 k) (by decide) ?_
              dsimp only [xk_s1, xk_s2, xk_kill]
              refine xk_goto 29 dX9_findsWorst_230 (by decide) ?_
              first
              | (have q9 : ¬ (s.1 = true ∧ mwX n T i j k * s.2.2.2.2.2 ≤ s.2.2.2.2.1 * mwY n T i j k) := cNew; rw [show mwC n T i j k s = (true, i, j, k, mwX n T i j k, mwY n T i j k) by unfold mwC; rw [if_pos cA, if_neg cNew]] at hBn; refine ih (k + 1) i j (true, i, j, k, mwX n T i j k, mwY n T i j k) _ _ _ _ _ (by omega) hij (by omega) hjn hBn ?_; rw [show itr (fun k s => mwC n T i j k s) (r + 1) k s = itr (fun k s => mwC n T i j k s) r (k + 1) (true, i, j, k, mwX n T i j k, mwY n T i j k) by rw [itr]; rw [show mwC n T i j k s = (true, i, j, k, mwX n T i j k, mwY n T i j k) by unfold mwC; rw [if_pos cA, if_neg cNew]]] at KK; exact KK)
              | (have q9 : mwC n T i j k s = s := cOld; rw [show itr (fun k s => mwC n T i j k s) (r + 1) k s = itr (fun k s => mwC n T i j k s) r (k + 1) s by rw [itr, cOld]] at KK; exact ih (k + 1) i j s _ _ _ _ _ (by omega) hij (by omega) hjn hB KK)
  have l16 : ∀ (r j i : Nat) (s : mwS) (o4 : Option Value) (o5 o6 o7 o8 o9 : Option Value), j + r = n → i < j → mwB s → (∀ (o5 o6 o7 o8 o9 : Option Value) (o4 : Option Value) (v : Int32), xk_P (d + 3) mX9_findsWorst [.ref m] hs (some (.int (xk_b (mwF n T).1))) (hs.set (m + 12) (wR F (mwF n T))) 239 [some (.ref m), some (.int (xk_b (itr (fun j s => itr (fun k s => mwC n T i j k s) (n - (j + 1)) (j + 1) s) r j s).1)), some (.int (nI i)), some (.int v), o4, o5, o6, o7, o8, o9] [] (hs.set (m + 12) (wR F (itr (fun j s => itr (fun k s => mwC n T i j k s) (n - (j + 1)) (j + 1) s) r j s)))) → xk_P (d + 3) mX9_findsWorst [.ref m] hs (some (.int (xk_b (mwF n T).1))) (hs.set (m + 12) (wR F (mwF n T))) 16 [some (.ref m), some (.int (xk_b s.1)), some (.int (nI i)), some (.int (nI j)), o4, o5, o6, o7, o8, o9] [] (hs.set (m + 12) (wR F s)) := by
    intro r
    induction r with
    | zero =>
      intro j i s o4 o5 o6 o7 o8 o9 h1 hij hB KK
      refine xk_iload_n dX9_findsWorst_16 rfl ?_
      refine xk_aload_n dX9_findsWorst_17 rfl ?_
      refine xk_get (ci := 8) (r := (RX9, TX9, 25)) 0 dX9_findsWorst_18 rfl inX9 (by decide) wf_X9_66 (hO2 _) rfl ?_
      refine xk_icmp_ge 239 dX9_findsWorst_21 (by decide) (fun c21 => ?_) (fun c21 => ?_)
      · exact KK _ _ _ _ _ _ _
      · exact absurd (nI_le (by omega) (by omega)) c21
    | succ r ih =>
      intro j i s o4 o5 o6 o7 o8 o9 h1 hij hB KK
      refine xk_iload_n dX9_findsWorst_16 rfl ?_
      refine xk_aload_n dX9_findsWorst_17 rfl ?_
      refine xk_get (ci := 8) (r := (RX9, TX9, 25)) 0 dX9_findsWorst_18 rfl inX9 (by decide) wf_X9_66 (hO2 _) rfl ?_
      refine xk_icmp_ge 239 dX9_findsWorst_21 (by decide) (fun c21 => ?_) (fun c21 => ?_)
      · exact absurd c21 (nI_ge (by omega) (by omega))
      · refine xk_iload_n dX9_findsWorst_24 rfl ?_
        refine xk_iconst (1) dX9_findsWorst_25 (by decide) ?_
        refine xk_iadd dX9_findsWorst_26 ?_
        rw [nI_1]
        refine xk_istore dX9_findsWorst_27 (by decide) ?_
        dsimp only [xk_s1, xk_s2, xk_kill]
        refine l29 (n - (j + 1)) (j + 1) i j s _ _ _ _ _ (by omega) hij (by omega) (by omega) hB (fun o5 o6 o7 o8 o9 v => ?_)
        refine xk_iinc (nI (j + 1)) dX9_findsWorst_233 rfl (nI_1 j) (by decide) ?_
        dsimp only [xk_s1, xk_s2, xk_kill]
        refine xk_goto 16 dX9_findsWorst_236 (by decide) ?_
        exact ih (j + 1) i _ _ _ _ _ _ _ (by omega) (by omega) (itr_inv mwB _ _ _ (fun k s h1 h2x h3 => mwC_b hn h2 hK (by omega) (by omega) (by omega) h3) hB) KK
  have l4 : ∀ (r i : Nat) (s : mwS) (o3 o4 : Option Value) (o5 o6 o7 o8 o9 : Option Value), i + r = n → mwB s → (itr (fun i s => itr (fun j s => itr (fun k s => mwC n T i j k s) (n - (j + 1)) (j + 1) s) (n - (i + 1)) (i + 1) s) r i s) = mwF n T → xk_P (d + 3) mX9_findsWorst [.ref m] hs (some (.int (xk_b (mwF n T).1))) (hs.set (m + 12) (wR F (mwF n T))) 4 [some (.ref m), some (.int (xk_b s.1)), some (.int (nI i)), o3, o4, o5, o6, o7, o8, o9] [] (hs.set (m + 12) (wR F s)) := by
    intro r
    induction r with
    | zero =>
      intro i s o3 o4 o5 o6 o7 o8 o9 h1 hB hE
      obtain rfl : s = mwF n T := hE
      refine xk_iload_n dX9_findsWorst_4 rfl ?_
      refine xk_aload_n dX9_findsWorst_5 rfl ?_
      refine xk_get (ci := 8) (r := (RX9, TX9, 25)) 0 dX9_findsWorst_6 rfl inX9 (by decide) wf_X9_66 (hO2 _) rfl ?_
      refine xk_icmp_ge 245 dX9_findsWorst_9 (by decide) (fun c9 => ?_) (fun c9 => ?_)
      · refine xk_iload_n dX9_findsWorst_245 rfl ?_
        exact xk_zret rfl (xk_b_nar _) dX9_findsWorst_246 (Nat.le_refl _) (Nat.le_refl _) ⟨rfl, rfl⟩
      · exact absurd (nI_le (by omega) (by omega)) c9
    | succ r ih =>
      intro i s o3 o4 o5 o6 o7 o8 o9 h1 hB hE
      refine xk_iload_n dX9_findsWorst_4 rfl ?_
      refine xk_aload_n dX9_findsWorst_5 rfl ?_
      refine xk_get (ci := 8) (r := (RX9, TX9, 25)) 0 dX9_findsWorst_6 rfl inX9 (by decide) wf_X9_66 (hO2 _) rfl ?_
      refine xk_icmp_ge 245 dX9_findsWorst_9 (by decide) (fun c9 => ?_) (fun c9 => ?_)
      · exact absurd c9 (nI_ge (by omega) (by omega))
      · refine xk_iload_n dX9_findsWorst_12 rfl ?_
        refine xk_iconst (1) dX9_findsWorst_13 (by decide) ?_
        refine xk_iadd dX9_findsWorst_14 ?_
        rw [nI_1]
        refine xk_istore_n dX9_findsWorst_15 (by decide) ?_
        dsimp only [xk_s1, xk_s2, xk_kill]
        refine l16 (n - (i + 1)) (i + 1) i s _ _ _ _ _ _ (by omega) (by omega) hB (fun o5 o6 o7 o8 o9 o4 v => ?_)
        refine xk_iinc (nI (i + 1)) dX9_findsWorst_239 rfl (nI_1 i) (by decide) ?_
        dsimp only [xk_s1, xk_s2, xk_kill]
        refine xk_goto 4 dX9_findsWorst_242 (by decide) ?_
        exact ih (i + 1) _ _ _ _ _ _ _ _ (by omega) (itr_inv mwB _ _ _ (fun j s h1 h2x h3 => itr_inv mwB _ _ _ (fun k s h4 h5 h6 => mwC_b hn h2 hK (by omega) (by omega) (by omega) h6) h3) hB) (by rw [← hE, itr])
  refine xk_Y.ofX (k := 9) (ls := [some (.ref m), none, none, none, none, none, none, none, none, none]) (by decide) rfl rfl ?_
  refine xk_iconst (0) dX9_findsWorst_0 (by decide) ?_
  refine xk_istore_n dX9_findsWorst_1 (by decide) ?_
  dsimp only [xk_s1, xk_s2, xk_kill]
  refine xk_iconst (0) dX9_findsWorst_2 (by decide) ?_
  refine xk_istore_n dX9_findsWorst_3 (by decide) ?_
  dsimp only [xk_s1, xk_s2, xk_kill]
  have hk := l4 n 0 (false, 0, 0, 0, 0, 0) none none none none none none none (by omega) ⟨Nat.le_of_ble_eq_true rfl, Nat.le_of_ble_eq_true rfl⟩ rfl
  rw [xs_same hw] at hk
  exact hk

