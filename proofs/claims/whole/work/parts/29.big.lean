/-! Big, Roots: contracts. Laid by a program of our own. -/
set_option maxHeartbeats 4000000 in
set_option maxRecDepth 100000 in
theorem y_X0_reset (d : Nat) {hs : xk_H} {b N : Nat} (hN : N < 2 ^ 240) (hb : hs[b]? = some (.inr (0, [.ref (b + 1)]))) (hl : hs[b + 1]? = some (bw N)) : xk_F (d + 1) mX0_reset [.ref b] hs none (hs.set (b + 1) (bw 1)) := by
  refine xk_Y.ofX (k := 0) (ls := [some (.ref b)]) (by decide) rfl rfl ?_
  refine xk_aload_n dX0_reset_0 rfl ?_
  refine xk_get (ci := 0) (r := (RX0, TX0, 1)) 0 dX0_reset_1 rfl inX0 (by decide) wf_X0_9 hb rfl ?_
  refine xk_lconst (0) dX0_reset_4 (by decide) ?_
  refine xk_s2nc (M' := mJ7_fill_d0a16) (d' := d) dX0_reset_5 wm_X0_13 cv_J7_fill_d0a16 wt_J7_fill_d0a16 (by omega) (Nat.le_refl _) (Nat.le_refl _) (Nat.le_of_ble_eq_true rfl) (y_J7_fill d (by omega) hl) (by simp) ?_
  refine xk_aload_n dX0_reset_8 rfl ?_
  refine xk_get (ci := 0) (r := (RX0, TX0, 1)) 0 dX0_reset_9 rfl inX0 (by decide) wf_X0_9 ((xs_ne (by omega)).trans hb) rfl ?_
  refine xk_iconst (0) dX0_reset_12 (by decide) ?_
  refine xk_lconst (1) dX0_reset_13 (by decide) ?_
  refine xk_last dX0_reset_14 (xs_at hl) (vp_in_nI (n := 0) (by decide) (by decide)) ?_
  rw [show (0 : Int32).toNatClampNeg = 0 from rfl, List.set_set, bw_reset N hN]
  exact xk_vret rfl dX0_reset_15 (Nat.le_refl _) (Nat.le_refl _) ⟨rfl, rfl⟩

set_option maxHeartbeats 4000000 in
set_option maxRecDepth 100000 in
/-- multiply: so many times by a factor -/
theorem y_X0_multiply (d : Nat) {hs : xk_H} {b N f k : Nat} (hf : f < 1048576) (hk : k < 100) (hN : N * f ^ k < 2 ^ 240) (h1 : 1 ≤ f) (hb : hs[b]? = some (.inr (0, [.ref (b + 1)]))) (hl : hs[b + 1]? = some (bw N)) : xk_F d mX0_multiply [.ref b, .long (lN f), .int (nI k)] hs none (hs.set (b + 1) (bw (N * f ^ k))) := by
  have hb2 : ∀ e : xk_C, (hs.set (b + 1) e)[b]? = some (.inr (0, [.ref (b + 1)])) := fun e => (xs_ne (by omega)).trans hb
  have l15 : ∀ (r j P c0 : Nat) (o8 : Option Value), j + r = 8 → xk_P d mX0_multiply [.ref b, .long (lN f), .int (nI k)] hs none (hs.set (b + 1) (bw (N * f ^ k))) 62 [some (.ref b), some (.long (lN f)), none, some (.int (nI k)), some (.int (nI c0)), none, none, none, none, none] [] (hs.set (b + 1) (bwM P f 8)) → xk_P d mX0_multiply [.ref b, .long (lN f), .int (nI k)] hs none (hs.set (b + 1) (bw (N * f ^ k))) 15 [some (.ref b), some (.long (lN f)), none, some (.int (nI k)), some (.int (nI c0)), some (.long (lN (carr P f j))), none, some (.int (nI j)), o8, none] [] (hs.set (b + 1) (bwM P f j)) := by
    intro r
    induction r with
    | zero =>
      intro j P c0 o8 hj K
      obtain rfl : j = 8 := by omega
      refine xk_iload dX0_multiply_15 rfl ?_
      refine xk_bipush (8) dX0_multiply_17 (by decide) ?_
      refine xk_icmp_ge 62 dX0_multiply_19 (by decide) (fun c19 => ?_) (fun c19 => ?_)
      · refine xk_sub K ?_
        simp [xk_le]
      · exact absurd (nI_le (a := 8) (b := 8) (by decide) (by decide)) c19
    | succ r ih =>
      intro j P c0 o8 hj K
      have q0 := limb_lt P j
      have q1 := carr_lt P f j
      have q2 : limb P j * f ≤ 1073741824 * 1048576 := Nat.mul_le_mul (Nat.le_of_lt q0) (Nat.le_of_lt hf)
      have e0 : mixL P f j j = limb P j := by simp [mixL]
      refine xk_iload dX0_multiply_15 rfl ?_
      refine xk_bipush (8) dX0_multiply_17 (by decide) ?_
      refine xk_icmp_ge 62 dX0_multiply_19 (by decide) (fun c19 => ?_) (fun c19 => ?_)
      · exact absurd c19 (nI_ge (a := j) (b := 8) (by omega) (by decide))
      · refine xk_aload_n dX0_multiply_22 rfl ?_
        refine xk_get (ci := 0) (r := (RX0, TX0, 1)) 0 dX0_multiply_23 rfl inX0 (by decide) wf_X0_9 (hb2 _) rfl ?_
        refine xk_iload dX0_multiply_26 rfl ?_
        refine xk_lald dX0_multiply_28 (xs_at hl) (vp_in_nI (by omega) (by decide)) ?_
        rw [nI_clamp (by omega), e0]
        refine xk_lload_n dX0_multiply_29 rfl ?_
        refine xk_lmul dX0_multiply_30 ?_
        rw [lN_mul]
        refine xk_lload dX0_multiply_31 rfl ?_
        refine xk_ladd dX0_multiply_33 ?_
        rw [lN_add]
        refine xk_lstore dX0_multiply_34 (by decide) ?_
        dsimp only [xk_s1, xk_s2, xk_kill]
        refine xk_aload_n dX0_multiply_36 rfl ?_
        refine xk_get (ci := 0) (r := (RX0, TX0, 1)) 0 dX0_multiply_37 rfl inX0 (by decide) wf_X0_9 (hb2 _) rfl ?_
        refine xk_iload dX0_multiply_40 rfl ?_
        refine xk_lload dX0_multiply_42 rfl ?_
        refine xk_ldc2 dX0_multiply_44 wk_X0_19 ?_
        refine xk_land dX0_multiply_47 ?_
        rw [show lN (limb P j * f + carr P f j) &&& 1073741823 = lN ((limb P j * f + carr P f j) % 1073741824) from g_mask (s := 30) (p := 1073741824) rfl (by decide) (by omega), limb_s]
        refine xk_last dX0_multiply_48 (xs_at hl) (vp_in_nI (by omega) (by decide)) ?_
        rw [nI_clamp (by omega), bwM_s, List.set_set]
        refine xk_lload dX0_multiply_49 rfl ?_
        refine xk_bipush (30) dX0_multiply_51 (by decide) ?_
        refine xk_lushr dX0_multiply_53 ?_
        rw [show ((lN (limb P j * f + carr P f j)).toUInt64 >>> ((30 : Int32).toInt64.toUInt64 &&& Int64.toUInt64 63)).toInt64 = lN ((limb P j * f + carr P f j) / 2 ^ 30) from wb_shr (k := 30) (by omega) (by decide), show (limb P j * f + carr P f j) / 2 ^ 30 = carr P f (j + 1) from carr_s P f j]
        refine xk_lstore dX0_multiply_54 (by decide) ?_
        dsimp only [xk_s1, xk_s2, xk_kill]
        refine xk_iinc (nI (j + 1)) dX0_multiply_56 rfl (nI_1 j) (by decide) ?_
        dsimp only [xk_s1, xk_s2, xk_kill]
        refine xk_goto 15 dX0_multiply_59 (by decide) ?_
        exact ih (j + 1) P c0 _ (by omega) K
  have l3 : ∀ (r c0 : Nat) (o5 o7 o8 : Option Value), c0 + r = k → xk_P d mX0_multiply [.ref b, .long (lN f), .int (nI k)] hs none (hs.set (b + 1) (bw (N * f ^ k))) 3 [some (.ref b), some (.long (lN f)), none, some (.int (nI k)), some (.int (nI c0)), none, none, none, none, none] [] (hs.set (b + 1) (bw (N * f ^ c0))) := by
    intro r
    induction r with
    | zero =>
      intro c0 o5 o7 o8 h
      obtain rfl : c0 = k := by omega
      refine xk_iload dX0_multiply_3 rfl ?_
      refine xk_iload_n dX0_multiply_5 rfl ?_
      refine xk_icmp_ge 68 dX0_multiply_6 (by decide) (fun c6 => ?_) (fun c6 => ?_)
      · exact xk_vret rfl dX0_multiply_68 (Nat.le_refl _) (Nat.le_refl _) ⟨rfl, rfl⟩
      · exact absurd (nI_le (Nat.le_refl c0) (by omega)) c6
    | succ r ih =>
      intro c0 o5 o7 o8 h
      have hp1 : f ^ (c0 + 1) ≤ f ^ k := Nat.pow_le_pow_right h1 (by omega)
      have hp2 : N * f ^ (c0 + 1) < 2 ^ 240 := Nat.lt_of_le_of_lt (Nat.mul_le_mul_left N hp1) hN
      have hp3 : N * f ^ c0 < 2 ^ 240 := Nat.lt_of_le_of_lt (Nat.mul_le_mul_left N (Nat.pow_le_pow_right h1 (by omega))) hN
      have e1 : N * f ^ c0 * f = N * f ^ (c0 + 1) := by rw [Nat.pow_succ, Nat.mul_assoc]
      refine xk_iload dX0_multiply_3 rfl ?_
      refine xk_iload_n dX0_multiply_5 rfl ?_
      refine xk_icmp_ge 68 dX0_multiply_6 (by decide) (fun c6 => ?_) (fun c6 => ?_)
      · exact absurd c6 (nI_ge (by omega) (by omega))
      · refine xk_lconst (0) dX0_multiply_9 (by decide) ?_
        refine xk_lstore dX0_multiply_10 (by decide) ?_
        dsimp only [xk_s1, xk_s2, xk_kill]
        refine xk_iconst (0) dX0_multiply_12 (by decide) ?_
        refine xk_istore dX0_multiply_13 (by decide) ?_
        dsimp only [xk_s1, xk_s2, xk_kill]
        have hK := l15 8 0 (N * f ^ c0) c0 none (by decide) ?_
        · rw [carr_0, bwM_0] at hK
          exact hK
        · rw [bwM_8 hp3 (by rw [e1]; exact hp2), e1]
          refine xk_iinc (nI (c0 + 1)) dX0_multiply_62 rfl (nI_1 c0) (by decide) ?_
          dsimp only [xk_s1, xk_s2, xk_kill]
          refine xk_goto 3 dX0_multiply_65 (by decide) ?_
          exact ih (c0 + 1) none none none (by omega)
  refine xk_Y.ofX (k := 6) (ls := [some (.ref b), some (.long (lN f)), none, some (.int (nI k)), none, none, none, none, none, none]) (by decide) rfl rfl ?_
  refine xk_iconst (0) dX0_multiply_0 (by decide) ?_
  refine xk_istore dX0_multiply_1 (by decide) ?_
  dsimp only [xk_s1, xk_s2, xk_kill]
  have hK := l3 k 0 none none none (by omega)
  rw [Nat.pow_zero, Nat.mul_one, xs_same hl] at hK
  exact hK

set_option maxHeartbeats 4000000 in
set_option maxRecDepth 100000 in
/-- isAbove -/
theorem y_X0_isAbove (d : Nat) {hs : xk_H} {b N b2 N2 : Nat} (hN : N < 2 ^ 240) (hN2 : N2 < 2 ^ 240) (hb : hs[b]? = some (.inr (0, [.ref (b + 1)]))) (hl : hs[b + 1]? = some (bw N)) (hb2 : hs[b2]? = some (.inr (0, [.ref (b2 + 1)]))) (hl2 : hs[b2 + 1]? = some (bw N2)) : xk_F d mX0_isAbove [.ref b, .ref b2] hs (some (.int (xk_b (decide (N2 < N))))) hs := by
  have l3 : ∀ (r : Nat), r ≤ 8 → N / 2 ^ (30 * r) = N2 / 2 ^ (30 * r) → xk_P d mX0_isAbove [.ref b, .ref b2] hs (some (.int (xk_b (decide (N2 < N))))) hs 3 [some (.ref b), some (.ref b2), some (.int (nI r + (-1)))] [] hs := by
    intro r
    induction r with
    | zero =>
      intro h8 he
      refine xk_iload_n dX0_isAbove_3 rfl ?_
      refine xk_if_lt 51 dX0_isAbove_4 (by decide) (fun c4 => ?_) (fun c4 => ?_)
      · refine xk_iconst (0) dX0_isAbove_51 (by decide) ?_
        exact xk_zret rfl (by rfl) dX0_isAbove_52 (Nat.le_refl _) (Nat.le_refl _) ⟨by rw [xd_f (by simp at he; omega)], rfl⟩
      · exact absurd (by decide) c4
    | succ r ih =>
      intro h8 he
      have q0 := limb_lt N r
      have q1 := limb_lt N2 r
      have g1 := limb_cmp (N := N) (N' := N2) he
      have g2 := limb_cmp (N := N2) (N' := N) he.symm
      have q3 : (nI r).toNatClampNeg = r := nI_clamp (by omega)
      rw [pk_m1]
      refine xk_iload_n dX0_isAbove_3 rfl ?_
      refine xk_if_lt 51 dX0_isAbove_4 (by decide) (fun c4 => ?_) (fun c4 => ?_)
      · exact absurd c4 (nI_pos (by omega))
      · refine xk_aload_n dX0_isAbove_7 rfl ?_
        refine xk_get (ci := 0) (r := (RX0, TX0, 1)) 0 dX0_isAbove_8 rfl inX0 (by decide) wf_X0_9 hb rfl ?_
        refine xk_iload_n dX0_isAbove_11 rfl ?_
        refine xk_lald dX0_isAbove_12 hl (vp_in_nI (by omega) (by decide)) ?_
        rw [q3]
        refine xk_aload_n dX0_isAbove_13 rfl ?_
        refine xk_get (ci := 0) (r := (RX0, TX0, 1)) 0 dX0_isAbove_14 rfl inX0 (by decide) wf_X0_9 hb2 rfl ?_
        refine xk_iload_n dX0_isAbove_17 rfl ?_
        refine xk_lald dX0_isAbove_18 hl2 (vp_in_nI (by omega) (by decide)) ?_
        try rw [q3]
        refine xk_lcmp dX0_isAbove_19 ?_
        refine xk_if_eq 45 dX0_isAbove_20 (by decide) (fun c20 => ?_) (fun c20 => ?_)
        · rw [lc_eq (by omega) (by omega)] at c20
          refine xk_iinc (nI r + (-1)) dX0_isAbove_45 rfl rfl (by decide) ?_
          dsimp only [xk_s1, xk_s2, xk_kill]
          refine xk_goto 3 dX0_isAbove_48 (by decide) ?_
          exact ih (by omega) (g1.2 c20)
        · rw [lc_eq (by omega) (by omega)] at c20
          refine xk_aload_n dX0_isAbove_23 rfl ?_
          refine xk_get (ci := 0) (r := (RX0, TX0, 1)) 0 dX0_isAbove_24 rfl inX0 (by decide) wf_X0_9 hb rfl ?_
          refine xk_iload_n dX0_isAbove_27 rfl ?_
          refine xk_lald dX0_isAbove_28 hl (vp_in_nI (by omega) (by decide)) ?_
          try rw [q3]
          refine xk_aload_n dX0_isAbove_29 rfl ?_
          refine xk_get (ci := 0) (r := (RX0, TX0, 1)) 0 dX0_isAbove_30 rfl inX0 (by decide) wf_X0_9 hb2 rfl ?_
          refine xk_iload_n dX0_isAbove_33 rfl ?_
          refine xk_lald dX0_isAbove_34 hl2 (vp_in_nI (by omega) (by decide)) ?_
          try rw [q3]
          refine xk_lcmp dX0_isAbove_35 ?_
          refine xk_if_le 43 dX0_isAbove_36 (by decide) (fun c36 => ?_) (fun c36 => ?_)
          · rw [lc_le (by omega) (by omega)] at c36
            refine xk_iconst (0) dX0_isAbove_43 (by decide) ?_
            exact xk_zret rfl (by rfl) dX0_isAbove_44 (Nat.le_refl _) (Nat.le_refl _) ⟨by first | rw [xd_t (g1.1 (by omega))] | rw [xd_f (by have := g2.1 (by omega); omega)], rfl⟩
          · rw [lc_le (by omega) (by omega)] at c36
            refine xk_iconst (1) dX0_isAbove_39 (by decide) ?_
            refine xk_goto 44 dX0_isAbove_40 (by decide) ?_
            exact xk_zret rfl (by rfl) dX0_isAbove_44 (Nat.le_refl _) (Nat.le_refl _) ⟨by first | rw [xd_t (g1.1 (by omega))] | rw [xd_f (by have := g2.1 (by omega); omega)], rfl⟩
  refine xk_Y.ofX (k := 1) (ls := [some (.ref b), some (.ref b2), none]) (by decide) rfl rfl ?_
  refine xk_bipush (7) dX0_isAbove_0 (by decide) ?_
  refine xk_istore_n dX0_isAbove_2 (by decide) ?_
  dsimp only [xk_s1, xk_s2, xk_kill]
  exact l3 8 (Nat.le_refl _) (by rw [Nat.div_eq_of_lt hN, Nat.div_eq_of_lt hN2])

