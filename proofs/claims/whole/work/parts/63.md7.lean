/-! The reference: one, times, compare, ring. Laid by a program of our own. -/
set_option maxHeartbeats 4000000 in
set_option maxRecDepth 100000 in
/-- one -/
theorem y_X9_one (d : Nat) {hs : xk_H} {q : Nat} {g : Nat → Int64} (hq : hs[q]? = some (drow g)) : xk_Y d 0 0 mX9_one false [.ref q] hs (fun r' h => r' = none ∧ ∃ g', dP g' 1 ∧ h = hs.set q (drow g')) := by
  have l2 : ∀ (r k : Nat) (g1 : Nat → Int64), k + r = 12 → d1 g1 k → xk_X d 0 0 mX9_one (xk_fx false hs) (fun r' h => r' = none ∧ ∃ g', dP g' 1 ∧ h = hs.set q (drow g')) 0 0 2 [some (.ref q), some (.int (nI k))] [] (hs.set q (drow g1)) := by
    intro r
    induction r with
    | zero =>
      intro k g1 h1 hd
      obtain rfl : k = 12 := by omega
      refine xk_iload_n dX9_one_2 rfl ?_
      refine xk_bipush (12) dX9_one_3 (by decide) ?_
      refine xk_icmp_ge 26 dX9_one_5 (by decide) (fun c5 => ?_) (fun c5 => ?_)
      · exact xk_vret rfl dX9_one_26 (Nat.le_refl _) (Nat.le_refl _) ⟨rfl, g1, d1_12 hd, rfl⟩
      · exact absurd (nI_le (a := 12) (b := 12) (by decide) (by decide)) c5
    | succ r ih =>
      intro k g1 h1 hd
      have q3 : (nI k).toNatClampNeg = k := nI_clamp (by omega)
      refine xk_iload_n dX9_one_2 rfl ?_
      refine xk_bipush (12) dX9_one_3 (by decide) ?_
      refine xk_icmp_ge 26 dX9_one_5 (by decide) (fun c5 => ?_) (fun c5 => ?_)
      · exact absurd c5 (nI_ge (a := k) (b := 12) (by omega) (by decide))
      · refine xk_aload_n dX9_one_8 rfl ?_
        refine xk_iload_n dX9_one_9 rfl ?_
        refine xk_iload_n dX9_one_10 rfl ?_
        refine xk_if_ne 18 dX9_one_11 (by decide) (fun c11 => ?_) (fun c11 => ?_)
        · have hx : 0 = if k = 0 then 1 else 0 := by rw [if_neg (fun z => c11 (by rw [z]; rfl))]
          refine xk_lconst (0) dX9_one_18 (by decide) ?_
          rw [show (0 : Int64) = lN 0 from rfl]
          refine xk_last dX9_one_19 (xs_at hq) (vp_in_nI (by omega) (by decide)) ?_
          rw [q3, List.set_set]
          refine xk_iinc (nI (k + 1)) dX9_one_20 rfl (nI_1 k) (by decide) ?_
          dsimp only [xk_s1, xk_s2, xk_kill]
          refine xk_goto 2 dX9_one_23 (by decide) ?_
          exact ih (k + 1) _ (by omega) (d1_s hd hx)
        · have hx : 1 = if k = 0 then 1 else 0 := by rw [if_pos ((nI_eq (b := 0) (by omega) (by decide)).mp c11)]
          refine xk_lconst (1) dX9_one_14 (by decide) ?_
          rw [show (1 : Int64) = lN 1 from rfl]
          refine xk_goto 19 dX9_one_15 (by decide) ?_
          refine xk_last dX9_one_19 (xs_at hq) (vp_in_nI (by omega) (by decide)) ?_
          rw [q3, List.set_set]
          refine xk_iinc (nI (k + 1)) dX9_one_20 rfl (nI_1 k) (by decide) ?_
          dsimp only [xk_s1, xk_s2, xk_kill]
          refine xk_goto 2 dX9_one_23 (by decide) ?_
          exact ih (k + 1) _ (by omega) (d1_s hd hx)
  refine xk_Y.ofX (k := 1) (ls := [some (.ref q), none]) (by decide) rfl rfl ?_
  refine xk_iconst (0) dX9_one_0 (by decide) ?_
  refine xk_istore_n dX9_one_1 (by decide) ?_
  dsimp only [xk_s1, xk_s2, xk_kill]
  have hk := l2 12 0 g (by decide) (fun j hj => by omega)
  rw [xs_same hq] at hk
  exact hk

set_option maxHeartbeats 4000000 in
set_option maxRecDepth 100000 in
/-- times -/
theorem y_X9_times (d : Nat) {hs : xk_H} {q N f k : Nat} {g : Nat → Int64} (hq : hs[q]? = some (drow g)) (hg : dP g N) (hf : f ≤ 531441) (hk : k ≤ 6) : xk_Y d 0 0 mX9_times false [.ref q, .long (lN f), .int (nI k)] hs (fun r' h => r' = none ∧ ∃ g', dP g' (N * f ^ k) ∧ h = hs.set q (drow g')) := by
  have l15 : ∀ (r j P c0 : Nat) (g1 : Nat → Int64), j + r = 12 → dM g1 P f j → (∀ g1, dP g1 (P * f) → xk_X d 0 0 mX9_times (xk_fx false hs) (fun r' h => r' = none ∧ ∃ g', dP g' (N * f ^ k) ∧ h = hs.set q (drow g')) 0 0 57 [some (.ref q), some (.long (lN f)), none, some (.int (nI k)), some (.int (nI c0)), none, none, none, none, none] [] (hs.set q (drow g1))) → xk_X d 0 0 mX9_times (xk_fx false hs) (fun r' h => r' = none ∧ ∃ g', dP g' (N * f ^ k) ∧ h = hs.set q (drow g')) 0 0 15 [some (.ref q), some (.long (lN f)), none, some (.int (nI k)), some (.int (nI c0)), some (.long (lN (dcr P f j))), none, some (.int (nI j)), none, none] [] (hs.set q (drow g1)) := by
    intro r
    induction r with
    | zero =>
      intro j P c0 g1 hj hd K
      obtain rfl : j = 12 := by omega
      refine xk_iload dX9_times_15 rfl ?_
      refine xk_bipush (12) dX9_times_17 (by decide) ?_
      refine xk_icmp_ge 57 dX9_times_19 (by decide) (fun c19 => ?_) (fun c19 => ?_)
      · exact xk_sub (K g1 (dM_12 hd)) ⟨rfl, rfl, rfl, rfl, trivial⟩
      · exact absurd (nI_le (a := 12) (b := 12) (by decide) (by decide)) c19
    | succ r ih =>
      intro j P c0 g1 hj hd K
      have q0 := dlb_lt P j
      have q1 := dcr_le P f j
      have q2 : dlb P j * f ≤ 1000000000 * 531441 := Nat.mul_le_mul (Nat.le_of_lt q0) hf
      have q3 : (nI j).toNatClampNeg = j := nI_clamp (by omega)
      have e0 : g1 j = lN (dlb P j) := by rw [hd j (by omega), if_neg (by omega)]
      refine xk_iload dX9_times_15 rfl ?_
      refine xk_bipush (12) dX9_times_17 (by decide) ?_
      refine xk_icmp_ge 57 dX9_times_19 (by decide) (fun c19 => ?_) (fun c19 => ?_)
      · exact absurd c19 (nI_ge (a := j) (b := 12) (by omega) (by decide))
      · refine xk_aload_n dX9_times_22 rfl ?_
        refine xk_iload dX9_times_23 rfl ?_
        refine xk_lald dX9_times_25 (xs_at hq) (vp_in_nI (by omega) (by decide)) ?_
        rw [q3, e0]
        refine xk_lload_n dX9_times_26 rfl ?_
        refine xk_lmul dX9_times_27 ?_
        rw [lN_mul]
        refine xk_lload dX9_times_28 rfl ?_
        refine xk_ladd dX9_times_30 ?_
        rw [lN_add]
        refine xk_lstore dX9_times_31 (by decide) ?_
        dsimp only [xk_s1, xk_s2, xk_kill]
        refine xk_aload_n dX9_times_33 rfl ?_
        refine xk_iload dX9_times_34 rfl ?_
        refine xk_lload dX9_times_36 rfl ?_
        refine xk_ldc2 dX9_times_38 wk_X9_128 ?_
        rw [show (1000000000 : Int64) = lN 1000000000 from rfl]
        refine xk_lrem dX9_times_41 (by decide) ?_
        rw [pk_lRem (by omega) (by decide) (by decide), dlb_s]
        refine xk_last dX9_times_42 (xs_at hq) (vp_in_nI (by omega) (by decide)) ?_
        try rw [q3]
        rw [List.set_set]
        refine xk_lload dX9_times_43 rfl ?_
        refine xk_ldc2 dX9_times_45 wk_X9_128 ?_
        rw [show (1000000000 : Int64) = lN 1000000000 from rfl]
        refine xk_ldiv dX9_times_48 (by decide) ?_
        rw [pk_lDiv (by omega) (by decide) (by decide), dcr_s]
        refine xk_lstore dX9_times_49 (by decide) ?_
        dsimp only [xk_s1, xk_s2, xk_kill]
        refine xk_iinc (nI (j + 1)) dX9_times_51 rfl (nI_1 j) (by decide) ?_
        dsimp only [xk_s1, xk_s2, xk_kill]
        refine xk_goto 15 dX9_times_54 (by decide) ?_
        exact xk_sub (ih (j + 1) P c0 _ (by omega) (dM_s hd) K) ⟨rfl, rfl, rfl, rfl, rfl, rfl, trivial⟩
  have l3 : ∀ (r c0 : Nat) (g1 : Nat → Int64), c0 + r = k → dP g1 (N * f ^ c0) → xk_X d 0 0 mX9_times (xk_fx false hs) (fun r' h => r' = none ∧ ∃ g', dP g' (N * f ^ k) ∧ h = hs.set q (drow g')) 0 0 3 [some (.ref q), some (.long (lN f)), none, some (.int (nI k)), some (.int (nI c0)), none, none, none, none, none] [] (hs.set q (drow g1)) := by
    intro r
    induction r with
    | zero =>
      intro c0 g1 h hd
      obtain rfl : c0 = k := by omega
      refine xk_iload dX9_times_3 rfl ?_
      refine xk_iload_n dX9_times_5 rfl ?_
      refine xk_icmp_ge 63 dX9_times_6 (by decide) (fun c6 => ?_) (fun c6 => ?_)
      · exact xk_vret rfl dX9_times_63 (Nat.le_refl _) (Nat.le_refl _) ⟨rfl, g1, hd, rfl⟩
      · exact absurd (nI_le (Nat.le_refl c0) (by omega)) c6
    | succ r ih =>
      intro c0 g1 h hd
      have e1 : N * f ^ c0 * f = N * f ^ (c0 + 1) := by rw [Nat.pow_succ, Nat.mul_assoc]
      have e2 : (0 : Int64) = lN (dcr (N * f ^ c0) f 0) := by rw [dcr_0]; rfl
      refine xk_iload dX9_times_3 rfl ?_
      refine xk_iload_n dX9_times_5 rfl ?_
      refine xk_icmp_ge 63 dX9_times_6 (by decide) (fun c6 => ?_) (fun c6 => ?_)
      · exact absurd c6 (nI_ge (by omega) (by omega))
      · refine xk_lconst (0) dX9_times_9 (by decide) ?_
        rw [e2]
        refine xk_lstore dX9_times_10 (by decide) ?_
        dsimp only [xk_s1, xk_s2, xk_kill]
        refine xk_iconst (0) dX9_times_12 (by decide) ?_
        refine xk_istore dX9_times_13 (by decide) ?_
        dsimp only [xk_s1, xk_s2, xk_kill]
        refine xk_sub (l15 12 0 (N * f ^ c0) c0 g1 (by decide) (dM_0 hd) (fun g1 hd => ?_)) ⟨rfl, rfl, rfl, rfl, rfl, rfl, trivial⟩
        refine xk_iinc (nI (c0 + 1)) dX9_times_57 rfl (nI_1 c0) (by decide) ?_
        dsimp only [xk_s1, xk_s2, xk_kill]
        refine xk_goto 3 dX9_times_60 (by decide) ?_
        exact ih (c0 + 1) g1 (by omega) (by rw [← e1]; exact hd)
  refine xk_Y.ofX (k := 6) (ls := [some (.ref q), some (.long (lN f)), none, some (.int (nI k)), none, none, none, none, none, none]) (by decide) rfl rfl ?_
  refine xk_iconst (0) dX9_times_0 (by decide) ?_
  refine xk_istore dX9_times_1 (by decide) ?_
  dsimp only [xk_s1, xk_s2, xk_kill]
  have hK := l3 k 0 g (by omega) (by rw [Nat.pow_zero, Nat.mul_one]; exact hg)
  rw [xs_same hq] at hK
  exact hK

set_option maxHeartbeats 4000000 in
set_option maxRecDepth 100000 in
/-- compare -/
theorem y_X9_compare (d : Nat) {hs : xk_H} {m n x y z : Nat} {s : lS} {c : Int32} {e : lE} {f1 f2 : Nat → Int64} (hO : hs[m]? = some (mdO n m (c, lN s.1, lN s.2.1, nI s.2.2, e))) (hl : hs[m + 13]? = some (drow f1)) (hr : hs[m + 14]? = some (drow f2)) (hx : x ≤ 531441) (hy : y ≤ 531441) (hz : z ≤ 6) (hB : lB s) : xk_Y (d + 1) 0 0 mX9_compare false [.ref m, .long (lN x), .long (lN y), .int (nI z)] hs (fun r' h => r' = some (.int (cmp3 (x ^ s.2.2 * s.2.1 ^ z) (s.1 ^ z * y ^ s.2.2))) ∧ ∃ g1 g2, h = (hs.set (m + 13) (drow g1)).set (m + 14) (drow g2)) := by
  have b1 : (x ^ s.2.2 * s.2.1 ^ z) < dB ^ 12 := dpow hx hB.2.1 hB.2.2 hz
  have b2 : (s.1 ^ z * y ^ s.2.2) < dB ^ 12 := dpow hB.1 hy hz hB.2.2
  have l68 : ∀ (r : Nat) (g1 g2 : Nat → Int64) (h : xk_H), r ≤ 12 → dP g1 (x ^ s.2.2 * s.2.1 ^ z) → dP g2 (s.1 ^ z * y ^ s.2.2) → h[m]? = some (mdO n m (c, lN s.1, lN s.2.1, nI s.2.2, e)) → h[m + 13]? = some (drow g1) → h[m + 14]? = some (drow g2) → h = (hs.set (m + 13) (drow g1)).set (m + 14) (drow g2) → (x ^ s.2.2 * s.2.1 ^ z) / dB ^ r = (s.1 ^ z * y ^ s.2.2) / dB ^ r → xk_X (d + 1) 0 0 mX9_compare (xk_fx false hs) (fun r' h => r' = some (.int (cmp3 (x ^ s.2.2 * s.2.1 ^ z) (s.1 ^ z * y ^ s.2.2))) ∧ ∃ g1 g2, h = (hs.set (m + 13) (drow g1)).set (m + 14) (drow g2)) 0 0 68 [some (.ref m), some (.long (lN x)), none, some (.long (lN y)), none, some (.int (nI z)), some (.int (nI r + (-1)))] [] h := by
    intro r
    induction r with
    | zero =>
      intro g1 g2 h h12 hd1 hd2 hO hl hr hh he
      refine xk_iload dX9_compare_68 rfl ?_
      refine xk_if_lt 121 dX9_compare_70 (by decide) (fun c70 => ?_) (fun c70 => ?_)
      · refine xk_iconst (0) dX9_compare_121 (by decide) ?_
        exact xk_iret rfl dX9_compare_122 (Nat.le_refl _) (Nat.le_refl _) ⟨by rw [show (x ^ s.2.2 * s.2.1 ^ z) = (s.1 ^ z * y ^ s.2.2) from by simpa using he]; unfold cmp3; rw [if_neg (Nat.lt_irrefl _), if_neg (Nat.lt_irrefl _)], g1, g2, hh⟩
      · exact absurd (by decide) c70
    | succ r ih =>
      intro g1 g2 h h12 hd1 hd2 hO hl hr hh he
      have q0 := dlb_lt (x ^ s.2.2 * s.2.1 ^ z) r
      have q1 := dlb_lt (s.1 ^ z * y ^ s.2.2) r
      have k1 := dlb_cmp he
      have k2 := dlb_cmp he.symm
      have q3 : (nI r).toNatClampNeg = r := nI_clamp (by omega)
      rw [pk_m1]
      refine xk_iload dX9_compare_68 rfl ?_
      refine xk_if_lt 121 dX9_compare_70 (by decide) (fun c70 => ?_) (fun c70 => ?_)
      · exact absurd c70 (nI_pos (by omega))
      · refine xk_aload_n dX9_compare_73 rfl ?_
        refine xk_get (ci := 8) (r := (RX9, TX9, 25)) 15 dX9_compare_74 rfl inX9 (by decide) wf_X9_48 hO rfl ?_
        refine xk_iload dX9_compare_77 rfl ?_
        refine xk_lald dX9_compare_79 hl (vp_in_nI (by omega) (by decide)) ?_
        rw [q3, hd1 r (by omega)]
        refine xk_aload_n dX9_compare_80 rfl ?_
        refine xk_get (ci := 8) (r := (RX9, TX9, 25)) 16 dX9_compare_81 rfl inX9 (by decide) wf_X9_51 hO rfl ?_
        refine xk_iload dX9_compare_84 rfl ?_
        refine xk_lald dX9_compare_86 hr (vp_in_nI (by omega) (by decide)) ?_
        try rw [q3]
        rw [hd2 r (by omega)]
        refine xk_lcmp dX9_compare_87 ?_
        refine xk_if_eq 115 dX9_compare_88 (by decide) (fun c88 => ?_) (fun c88 => ?_)
        · rw [lc_eq (by omega) (by omega)] at c88
          refine xk_iinc (nI r + (-1)) dX9_compare_115 rfl rfl (by decide) ?_
          dsimp only [xk_s1, xk_s2, xk_kill]
          refine xk_goto 68 dX9_compare_118 (by decide) ?_
          exact ih g1 g2 h (by omega) hd1 hd2 hO hl hr hh (k1.2 c88)
        · rw [lc_eq (by omega) (by omega)] at c88
          refine xk_aload_n dX9_compare_91 rfl ?_
          refine xk_get (ci := 8) (r := (RX9, TX9, 25)) 15 dX9_compare_92 rfl inX9 (by decide) wf_X9_48 hO rfl ?_
          refine xk_iload dX9_compare_95 rfl ?_
          refine xk_lald dX9_compare_97 hl (vp_in_nI (by omega) (by decide)) ?_
          try rw [q3]
          try rw [hd1 r (by omega)]
          refine xk_aload_n dX9_compare_98 rfl ?_
          refine xk_get (ci := 8) (r := (RX9, TX9, 25)) 16 dX9_compare_99 rfl inX9 (by decide) wf_X9_51 hO rfl ?_
          refine xk_iload dX9_compare_102 rfl ?_
          refine xk_lald dX9_compare_104 hr (vp_in_nI (by omega) (by decide)) ?_
          try rw [q3]
          try rw [hd2 r (by omega)]
          refine xk_lcmp dX9_compare_105 ?_
          refine xk_if_le 113 dX9_compare_106 (by decide) (fun c106 => ?_) (fun c106 => ?_)
          · rw [lc_le (by omega) (by omega)] at c106
            refine xk_iconst (-1) dX9_compare_113 (by decide) ?_
            exact xk_iret rfl dX9_compare_114 (Nat.le_refl _) (Nat.le_refl _) ⟨by unfold cmp3; first | (rw [if_pos (k1.1 (by omega))]; done) | (have k3 := k2.1 (by omega); rw [if_neg (by omega), if_pos k3]; done), g1, g2, hh⟩
          · rw [lc_le (by omega) (by omega)] at c106
            refine xk_iconst (1) dX9_compare_109 (by decide) ?_
            refine xk_goto 114 dX9_compare_110 (by decide) ?_
            exact xk_iret rfl dX9_compare_114 (Nat.le_refl _) (Nat.le_refl _) ⟨by unfold cmp3; first | (rw [if_pos (k1.1 (by omega))]; done) | (have k3 := k2.1 (by omega); rw [if_neg (by omega), if_pos k3]; done), g1, g2, hh⟩
  refine xk_Y.ofX (k := 1) (ls := [some (.ref m), some (.long (lN x)), none, some (.long (lN y)), none, some (.int (nI z)), none]) (by decide) rfl rfl ?_
  refine xk_aload_n dX9_compare_0 rfl ?_
  refine xk_get (ci := 8) (r := (RX9, TX9, 25)) 15 dX9_compare_1 rfl inX9 (by decide) wf_X9_48 hO rfl ?_
  refine xk_callS1 (M' := mX9_one) (d' := d) dX9_compare_4 wm_X9_130 cv_X9_one wt_X9_one (by omega) (Nat.le_refl _) (Nat.le_refl _) (Nat.le_of_ble_eq_true rfl) (y_X9_one d hl) (fun _ _ z => by obtain ⟨-, g, -, e9⟩ := z; rw [e9]; simp) (fun r4 z4 h4 => ?_)
  obtain ⟨rfl, ga, hdga, rfl⟩ := h4
  refine xk_aload_n dX9_compare_7 rfl ?_
  refine xk_get (ci := 8) (r := (RX9, TX9, 25)) 15 dX9_compare_8 rfl inX9 (by decide) wf_X9_48 ((xs_ne (by omega)).trans hO) rfl ?_
  refine xk_lload_n dX9_compare_11 rfl ?_
  refine xk_aload_n dX9_compare_12 rfl ?_
  refine xk_get (ci := 8) (r := (RX9, TX9, 25)) 19 dX9_compare_13 rfl inX9 (by decide) wf_X9_134 ((xs_ne (by omega)).trans hO) rfl ?_
  refine xk_callS3 (M' := mX9_times) (d' := d) dX9_compare_16 wm_X9_137 cv_X9_times wt_X9_times (by omega) (Nat.le_refl _) (Nat.le_refl _) (Nat.le_of_ble_eq_true rfl) (y_X9_times d (xs_at hl) hdga hx hB.2.2) (fun _ _ z => by obtain ⟨-, g, -, e9⟩ := z; rw [e9]; simp) (fun r16 z16 h16 => ?_)
  obtain ⟨rfl, gb, hdgb, rfl⟩ := h16
  refine xk_aload_n dX9_compare_19 rfl ?_
  refine xk_get (ci := 8) (r := (RX9, TX9, 25)) 15 dX9_compare_20 rfl inX9 (by decide) wf_X9_48 ((xs_ne (by omega)).trans ((xs_ne (by omega)).trans hO)) rfl ?_
  refine xk_aload_n dX9_compare_23 rfl ?_
  refine xk_get (ci := 8) (r := (RX9, TX9, 25)) 18 dX9_compare_24 rfl inX9 (by decide) wf_X9_141 ((xs_ne (by omega)).trans ((xs_ne (by omega)).trans hO)) rfl ?_
  refine xk_iload dX9_compare_27 rfl ?_
  refine xk_callS3 (M' := mX9_times) (d' := d) dX9_compare_29 wm_X9_137 cv_X9_times wt_X9_times (by omega) (Nat.le_refl _) (Nat.le_refl _) (Nat.le_of_ble_eq_true rfl) (y_X9_times d (xs_at (xs_at hl)) hdgb hB.2.1 hz) (fun _ _ z => by obtain ⟨-, g, -, e9⟩ := z; rw [e9]; simp) (fun r29 z29 h29 => ?_)
  obtain ⟨rfl, gc, hdgc, rfl⟩ := h29
  rw [List.set_set, List.set_set]
  refine xk_aload_n dX9_compare_32 rfl ?_
  refine xk_get (ci := 8) (r := (RX9, TX9, 25)) 16 dX9_compare_33 rfl inX9 (by decide) wf_X9_51 ((xs_ne (by omega)).trans hO) rfl ?_
  refine xk_callS1 (M' := mX9_one) (d' := d) dX9_compare_36 wm_X9_130 cv_X9_one wt_X9_one (by omega) (Nat.le_refl _) (Nat.le_refl _) (Nat.le_of_ble_eq_true rfl) (y_X9_one d ((xs_ne (by omega)).trans hr)) (fun _ _ z => by obtain ⟨-, g, -, e9⟩ := z; rw [e9]; simp) (fun r36 z36 h36 => ?_)
  obtain ⟨rfl, gd, hdgd, rfl⟩ := h36
  refine xk_aload_n dX9_compare_39 rfl ?_
  refine xk_get (ci := 8) (r := (RX9, TX9, 25)) 16 dX9_compare_40 rfl inX9 (by decide) wf_X9_51 ((xs_ne (by omega)).trans ((xs_ne (by omega)).trans hO)) rfl ?_
  refine xk_aload_n dX9_compare_43 rfl ?_
  refine xk_get (ci := 8) (r := (RX9, TX9, 25)) 17 dX9_compare_44 rfl inX9 (by decide) wf_X9_145 ((xs_ne (by omega)).trans ((xs_ne (by omega)).trans hO)) rfl ?_
  refine xk_iload dX9_compare_47 rfl ?_
  refine xk_callS3 (M' := mX9_times) (d' := d) dX9_compare_49 wm_X9_137 cv_X9_times wt_X9_times (by omega) (Nat.le_refl _) (Nat.le_refl _) (Nat.le_of_ble_eq_true rfl) (y_X9_times d (xs_at ((xs_ne (by omega)).trans hr)) hdgd hB.1 hz) (fun _ _ z => by obtain ⟨-, g, -, e9⟩ := z; rw [e9]; simp) (fun r49 z49 h49 => ?_)
  obtain ⟨rfl, ge, hdge, rfl⟩ := h49
  rw [List.set_set]
  refine xk_aload_n dX9_compare_52 rfl ?_
  refine xk_get (ci := 8) (r := (RX9, TX9, 25)) 16 dX9_compare_53 rfl inX9 (by decide) wf_X9_51 ((xs_ne (by omega)).trans ((xs_ne (by omega)).trans hO)) rfl ?_
  refine xk_lload_n dX9_compare_56 rfl ?_
  refine xk_aload_n dX9_compare_57 rfl ?_
  refine xk_get (ci := 8) (r := (RX9, TX9, 25)) 19 dX9_compare_58 rfl inX9 (by decide) wf_X9_134 ((xs_ne (by omega)).trans ((xs_ne (by omega)).trans hO)) rfl ?_
  refine xk_callS3 (M' := mX9_times) (d' := d) dX9_compare_61 wm_X9_137 cv_X9_times wt_X9_times (by omega) (Nat.le_refl _) (Nat.le_refl _) (Nat.le_of_ble_eq_true rfl) (y_X9_times d (xs_at ((xs_ne (by omega)).trans hr)) hdge hy hB.2.2) (fun _ _ z => by obtain ⟨-, g, -, e9⟩ := z; rw [e9]; simp) (fun r61 z61 h61 => ?_)
  obtain ⟨rfl, gf, hdgf, rfl⟩ := h61
  rw [List.set_set]
  refine xk_bipush (11) dX9_compare_64 (by decide) ?_
  refine xk_istore dX9_compare_66 (by decide) ?_
  dsimp only [xk_s1, xk_s2, xk_kill]
  refine l68 12 gc gf _ (Nat.le_refl _) (by rw [← Nat.one_mul (x ^ s.2.2)]; exact hdgc) (by rw [← Nat.one_mul (s.1 ^ z)]; exact hdgf) ((xs_ne (by omega)).trans ((xs_ne (by omega)).trans hO)) ((xs_ne (by omega)).trans (xs_at hl)) (xs_at ((xs_ne (by omega)).trans hr)) rfl (by rw [Nat.div_eq_of_lt b1, Nat.div_eq_of_lt b2])

set_option maxHeartbeats 4000000 in
set_option maxRecDepth 100000 in
/-- ring -/
theorem y_X9_ring (d : Nat) {hs : xk_H} {m n z : Nat} {s : lS} {W : Nat → Int32} {p : Nat × Nat} (hR : rgA hs hs m n s W) (hp1 : 1 ≤ p.1) (hp2 : 1 ≤ p.2) (hp3 : p.1 ≤ 531441) (hp4 : p.2 ≤ 531441) (hz : z ≤ 6) (hB : lB s) : xk_Y (d + 2) 0 0 mX9_ring false [.ref m, .long (lN p.1), .long (lN p.2), .int (nI z)] hs (fun r' h => r' = none ∧ rgA hs h m n (rgS p z s) W) := by
  obtain ⟨⟨c, e, hO⟩, ⟨f1, hl⟩, ⟨f2, hr⟩, hw, -⟩ := id hR
  have hg1 : 0 < (Nat.gcd p.1 p.2) := Nat.gcd_pos_of_pos_left _ hp1
  have hg2 : (Nat.gcd p.1 p.2) ≤ p.1 := Nat.gcd_le_left _ hp1
  have hxy := rg_le hp3 hp4
  have emax : max p.1 p.2 ≤ 531441 := Nat.max_le.mpr ⟨hp3, hp4⟩
  have emin : min p.1 p.2 ≤ 531441 := Nat.le_trans (Nat.min_le_left _ _) hp3
  obtain ⟨hB1, hB2, hB3⟩ := id hB
  refine xk_Y.ofX (k := 7) (ls := [some (.ref m), some (.long (lN p.1)), none, some (.long (lN p.2)), none, some (.int (nI z)), none, none, none, none, none, none, none]) (by decide) rfl rfl ?_
  refine xk_lload_n dX9_ring_0 rfl ?_
  refine xk_lload_n dX9_ring_1 rfl ?_
  refine xk_s2c (M' := mX9_divisor) (d' := (d + 1)) dX9_ring_2 wm_X9_81 cv_X9_divisor wt_X9_divisor (by omega) (Nat.le_refl _) (Nat.le_refl _) (Nat.le_of_ble_eq_true rfl) (y_X9_divisor (d + 1) (by omega) (by omega)) rfl ?_
  refine xk_lstore dX9_ring_5 (by decide) ?_
  dsimp only [xk_s1, xk_s2, xk_kill]
  refine xk_lload_n dX9_ring_7 rfl ?_
  refine xk_lload_n dX9_ring_8 rfl ?_
  refine xk_mmax_long dX9_ring_9 wm_X9_148 (by omega) (Nat.le_refl _) (Nat.le_refl _) (Nat.le_of_ble_eq_true rfl) ?_
  rw [show (if lN p.2 < lN p.1 then lN p.1 else lN p.2) = lN (max p.1 p.2) from by by_cases c : p.2 < p.1; (rw [if_pos ((pk_lLT (by omega) (by omega)).mpr c), Nat.max_eq_left (by omega)]); (rw [if_neg (fun z => c ((pk_lLT (by omega) (by omega)).mp z)), Nat.max_eq_right (by omega)])]
  refine xk_lload dX9_ring_12 rfl ?_
  refine xk_ldiv dX9_ring_14 (fun z => absurd ((pk_lEQ (b := 0) (by omega) (by decide)).mp z) (by omega)) ?_
  rw [pk_lDiv (by omega) hg1 (by omega), show max p.1 p.2 / Nat.gcd p.1 p.2 = rgX p from rfl]
  refine xk_lstore dX9_ring_15 (by decide) ?_
  dsimp only [xk_s1, xk_s2, xk_kill]
  refine xk_lload_n dX9_ring_17 rfl ?_
  refine xk_lload_n dX9_ring_18 rfl ?_
  refine xk_mmin_long dX9_ring_19 wm_X9_150 (by omega) (Nat.le_refl _) (Nat.le_refl _) (Nat.le_of_ble_eq_true rfl) ?_
  rw [show (if lN p.2 < lN p.1 then lN p.2 else lN p.1) = lN (min p.1 p.2) from by by_cases c : p.2 < p.1; (rw [if_pos ((pk_lLT (by omega) (by omega)).mpr c), Nat.min_eq_right (by omega)]); (rw [if_neg (fun z => c ((pk_lLT (by omega) (by omega)).mp z)), Nat.min_eq_left (by omega)])]
  refine xk_lload dX9_ring_22 rfl ?_
  refine xk_ldiv dX9_ring_24 (fun z => absurd ((pk_lEQ (b := 0) (by omega) (by decide)).mp z) (by omega)) ?_
  rw [pk_lDiv (by omega) hg1 (by omega), show min p.1 p.2 / Nat.gcd p.1 p.2 = rgY p from rfl]
  refine xk_lstore dX9_ring_25 (by decide) ?_
  dsimp only [xk_s1, xk_s2, xk_kill]
  refine xk_lload dX9_ring_27 rfl ?_
  refine xk_lload dX9_ring_29 rfl ?_
  refine xk_lcmp dX9_ring_31 ?_
  refine xk_if_ne 36 dX9_ring_32 (by decide) (fun c32 => ?_) (fun c32 => ?_)
  · have c33 : ¬ rgX p = rgY p := fun q => c32 ((lc_eq (by omega) (by omega)).mpr q)
    refine xk_aload_n dX9_ring_36 rfl ?_
    refine xk_get (ci := 8) (r := (RX9, TX9, 25)) 19 dX9_ring_37 rfl inX9 (by decide) wf_X9_134 hO rfl ?_
    refine xk_if_ne 47 dX9_ring_40 (by decide) (fun c40 => ?_) (fun c40 => ?_)
    · have c41 : ¬ s.2.2 = 0 := fun q => c40 (by rw [q]; rfl)
      refine xk_aload_n dX9_ring_47 rfl ?_
      refine xk_lload dX9_ring_48 rfl ?_
      refine xk_lload dX9_ring_50 rfl ?_
      refine xk_iload dX9_ring_52 rfl ?_
      refine xk_callV3 (M' := mX9_compare) (d' := d + 1) (ci := 8) (r0 := (RX9, TX9, 25)) dX9_ring_54 wm_X9_152 cv_X9_compare wi_X9_compare wl_X9_compare (by omega) (Nat.le_refl _) (Nat.le_refl _) rfl rfl hO (Nat.le_of_ble_eq_true rfl) (y_X9_compare d hO hl hr hxy.1 hxy.2 hz hB) (fun _ _ z => by obtain ⟨-, g, g2, e9⟩ := z; rw [e9]; simp) (fun r54 z54 h54 => ?_)
      obtain ⟨rfl, k1, k2, rfl⟩ := h54
      have hR := hR.lr k1 k2
      generalize (hs.set (m + 13) (drow k1)).set (m + 14) (drow k2) = h at hR ⊢
      obtain ⟨⟨c, e, hO⟩, ⟨f1, hl⟩, ⟨f2, hr⟩, hw, -⟩ := id hR
      rcases Nat.lt_trichotomy (rgX p ^ s.2.2 * s.2.1 ^ z) (s.1 ^ z * rgY p ^ s.2.2) with hc | hc | hc
      · rw [show cmp3 (rgX p ^ s.2.2 * s.2.1 ^ z) (s.1 ^ z * rgY p ^ s.2.2) = -1 from by unfold cmp3; rw [if_neg (by omega), if_pos hc]]
        have hT : ¬ rgT (rgX p) (rgY p) z s := fun q => by rcases q with q | q | q; (exact c41 q); omega; omega
        refine xk_istore dX9_ring_57 (by decide) ?_
        dsimp only [xk_s1, xk_s2, xk_kill]
        refine xk_iload dX9_ring_59 rfl ?_
        refine xk_if_lt 78 dX9_ring_61 (by decide) (fun c61 => ?_) (fun c61 => ?_)
        · exact xk_vret rfl dX9_ring_78 (Nat.le_refl _) (Nat.le_refl _) ⟨rfl, by rw [rgS_n c33 hT]; exact hR⟩
        · exact absurd (by decide) c61
      · rw [show cmp3 (rgX p ^ s.2.2 * s.2.1 ^ z) (s.1 ^ z * rgY p ^ s.2.2) = 0 from by unfold cmp3; rw [if_neg (by omega), if_neg (by omega)]]
        refine xk_istore dX9_ring_57 (by decide) ?_
        dsimp only [xk_s1, xk_s2, xk_kill]
        refine xk_iload dX9_ring_59 rfl ?_
        refine xk_if_lt 78 dX9_ring_61 (by decide) (fun c61 => ?_) (fun c61 => ?_)
        · exact absurd c61 (by decide)
        · refine xk_iload dX9_ring_64 rfl ?_
          refine xk_if_ne 79 dX9_ring_66 (by decide) (fun c66 => ?_) (fun c66 => ?_)
          · exact absurd rfl c66
          · refine xk_iload dX9_ring_69 rfl ?_
            refine xk_aload_n dX9_ring_71 rfl ?_
            refine xk_get (ci := 8) (r := (RX9, TX9, 25)) 19 dX9_ring_72 rfl inX9 (by decide) wf_X9_134 hO rfl ?_
            refine xk_icmp_lt 79 dX9_ring_75 (by decide) (fun c75 => ?_) (fun c75 => ?_)
            · have hT : rgT (rgX p) (rgY p) z s := Or.inr (Or.inr ⟨hc, (nI_ltI (by omega) (by omega)).mp c75⟩)
              refine xk_aload_n dX9_ring_79 rfl ?_
              refine xk_lload dX9_ring_80 rfl ?_
              refine xk_put (ci := 8) (r := (RX9, TX9, 25)) 17 tyX9 dX9_ring_82 rfl inX9 tyX9_ok nmX9 (by decide) wf_X9_145 rfl (fun _ => rfl) (fun _ => rfl) hO (Nat.le_of_ble_eq_true rfl) ?_
              dsimp only [List.set]
              refine xk_aload_n dX9_ring_85 rfl ?_
              refine xk_lload dX9_ring_86 rfl ?_
              refine xk_put (ci := 8) (r := (RX9, TX9, 25)) 18 tyX9 dX9_ring_88 rfl inX9 tyX9_ok nmX9 (by decide) wf_X9_141 rfl (fun _ => rfl) (fun _ => rfl) (xs_at hO) (Nat.le_of_ble_eq_true rfl) ?_
              dsimp only [List.set]
              refine xk_aload_n dX9_ring_91 rfl ?_
              refine xk_iload dX9_ring_92 rfl ?_
              refine xk_put (ci := 8) (r := (RX9, TX9, 25)) 19 tyX9 dX9_ring_94 rfl inX9 tyX9_ok nmX9 (by decide) wf_X9_134 rfl (fun _ => rfl) (fun _ => rfl) (xs_at (xs_at hO)) (Nat.le_of_ble_eq_true rfl) ?_
              dsimp only [List.set]
              exact xk_vret rfl dX9_ring_97 (Nat.le_refl _) (Nat.le_refl _) ⟨rfl, by rw [List.set_set, List.set_set, rgS_y c33 hT]; exact hR.o c e (rgX p, rgY p, z)⟩
            · have hT : ¬ rgT (rgX p) (rgY p) z s := fun q => by rcases q with q | q | q; (exact c41 q); omega; exact c75 (nI_lt q.2 (by omega))
              exact xk_vret rfl dX9_ring_78 (Nat.le_refl _) (Nat.le_refl _) ⟨rfl, by rw [rgS_n c33 hT]; exact hR⟩
      · rw [show cmp3 (rgX p ^ s.2.2 * s.2.1 ^ z) (s.1 ^ z * rgY p ^ s.2.2) = 1 from by unfold cmp3; rw [if_pos hc]]
        have hT : rgT (rgX p) (rgY p) z s := Or.inr (Or.inl hc)
        refine xk_istore dX9_ring_57 (by decide) ?_
        dsimp only [xk_s1, xk_s2, xk_kill]
        refine xk_iload dX9_ring_59 rfl ?_
        refine xk_if_lt 78 dX9_ring_61 (by decide) (fun c61 => ?_) (fun c61 => ?_)
        · exact absurd c61 (by decide)
        · refine xk_iload dX9_ring_64 rfl ?_
          refine xk_if_ne 79 dX9_ring_66 (by decide) (fun c66 => ?_) (fun c66 => ?_)
          · refine xk_aload_n dX9_ring_79 rfl ?_
            refine xk_lload dX9_ring_80 rfl ?_
            refine xk_put (ci := 8) (r := (RX9, TX9, 25)) 17 tyX9 dX9_ring_82 rfl inX9 tyX9_ok nmX9 (by decide) wf_X9_145 rfl (fun _ => rfl) (fun _ => rfl) hO (Nat.le_of_ble_eq_true rfl) ?_
            dsimp only [List.set]
            refine xk_aload_n dX9_ring_85 rfl ?_
            refine xk_lload dX9_ring_86 rfl ?_
            refine xk_put (ci := 8) (r := (RX9, TX9, 25)) 18 tyX9 dX9_ring_88 rfl inX9 tyX9_ok nmX9 (by decide) wf_X9_141 rfl (fun _ => rfl) (fun _ => rfl) (xs_at hO) (Nat.le_of_ble_eq_true rfl) ?_
            dsimp only [List.set]
            refine xk_aload_n dX9_ring_91 rfl ?_
            refine xk_iload dX9_ring_92 rfl ?_
            refine xk_put (ci := 8) (r := (RX9, TX9, 25)) 19 tyX9 dX9_ring_94 rfl inX9 tyX9_ok nmX9 (by decide) wf_X9_134 rfl (fun _ => rfl) (fun _ => rfl) (xs_at (xs_at hO)) (Nat.le_of_ble_eq_true rfl) ?_
            dsimp only [List.set]
            exact xk_vret rfl dX9_ring_97 (Nat.le_refl _) (Nat.le_refl _) ⟨rfl, by rw [List.set_set, List.set_set, rgS_y c33 hT]; exact hR.o c e (rgX p, rgY p, z)⟩
          · exact absurd c66 (by decide)
    · refine xk_iconst (1) dX9_ring_43 (by decide) ?_
      refine xk_goto 57 dX9_ring_44 (by decide) ?_
      refine xk_istore dX9_ring_57 (by decide) ?_
      dsimp only [xk_s1, xk_s2, xk_kill]
      refine xk_iload dX9_ring_59 rfl ?_
      refine xk_if_lt 78 dX9_ring_61 (by decide) (fun c61 => ?_) (fun c61 => ?_)
      · exact absurd c61 (by decide)
      · refine xk_iload dX9_ring_64 rfl ?_
        refine xk_if_ne 79 dX9_ring_66 (by decide) (fun c66 => ?_) (fun c66 => ?_)
        · have hT : rgT (rgX p) (rgY p) z s := Or.inl ((nI_eq (b := 0) (by omega) (by decide)).mp c40)
          refine xk_aload_n dX9_ring_79 rfl ?_
          refine xk_lload dX9_ring_80 rfl ?_
          refine xk_put (ci := 8) (r := (RX9, TX9, 25)) 17 tyX9 dX9_ring_82 rfl inX9 tyX9_ok nmX9 (by decide) wf_X9_145 rfl (fun _ => rfl) (fun _ => rfl) hO (Nat.le_of_ble_eq_true rfl) ?_
          dsimp only [List.set]
          refine xk_aload_n dX9_ring_85 rfl ?_
          refine xk_lload dX9_ring_86 rfl ?_
          refine xk_put (ci := 8) (r := (RX9, TX9, 25)) 18 tyX9 dX9_ring_88 rfl inX9 tyX9_ok nmX9 (by decide) wf_X9_141 rfl (fun _ => rfl) (fun _ => rfl) (xs_at hO) (Nat.le_of_ble_eq_true rfl) ?_
          dsimp only [List.set]
          refine xk_aload_n dX9_ring_91 rfl ?_
          refine xk_iload dX9_ring_92 rfl ?_
          refine xk_put (ci := 8) (r := (RX9, TX9, 25)) 19 tyX9 dX9_ring_94 rfl inX9 tyX9_ok nmX9 (by decide) wf_X9_134 rfl (fun _ => rfl) (fun _ => rfl) (xs_at (xs_at hO)) (Nat.le_of_ble_eq_true rfl) ?_
          dsimp only [List.set]
          exact xk_vret rfl dX9_ring_97 (Nat.le_refl _) (Nat.le_refl _) ⟨rfl, by rw [List.set_set, List.set_set, rgS_y c33 hT]; exact hR.o c e (rgX p, rgY p, z)⟩
        · exact absurd c66 (by decide)
  · have c33 : rgX p = rgY p := (lc_eq (by omega) (by omega)).mp c32
    exact xk_vret rfl dX9_ring_35 (Nat.le_refl _) (Nat.le_refl _) ⟨rfl, by rw [rgS_e c33]; exact hR⟩

