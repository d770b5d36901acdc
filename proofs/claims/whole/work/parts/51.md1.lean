/-! The reference: reads. Laid by a program of our own. -/
set_option maxHeartbeats 4000000 in
set_option maxRecDepth 100000 in
theorem y_X9_in (d : Nat) {hs : xk_H} {a b c : Int32} : xk_F d mX9_in [.int a, .int b, .int c] hs (some (.int (xk_b (inB a b c)))) hs := by
  refine xk_Y.ofX (k := 0) (ls := [some (.int a), some (.int b), some (.int c)]) (by decide) rfl rfl ?_
  refine xk_iload_n dX9_in_0 rfl ?_
  refine xk_iload_n dX9_in_1 rfl ?_
  refine xk_icmp_lt 14 dX9_in_2 (by decide) (fun c2 => ?_) (fun c2 => ?_)
  · refine xk_iconst (0) dX9_in_14 (by decide) ?_
    exact xk_zret rfl (by rfl) dX9_in_15 (Nat.le_refl _) (Nat.le_refl _) ⟨by first | (refine xz1 ?_; unfold inB; simp; exact ⟨Int32.not_lt.mp c2, Int32.not_lt.mp c7⟩; done) | (refine xz0 ?_; unfold inB; simp; exact ⟨Int32.not_lt.mp c2, Int32.not_lt.mp c7⟩; done) | (refine xz1 ?_; unfold inB; simp; intro q; exact absurd c2 (Int32.not_lt.mpr q); done) | (refine xz0 ?_; unfold inB; simp; intro q; exact absurd c2 (Int32.not_lt.mpr q); done) | (refine xz1 ?_; unfold inB; simp; intro _; exact c7; done) | (refine xz0 ?_; unfold inB; simp; intro _; exact c7; done), rfl⟩
  · refine xk_iload_n dX9_in_5 rfl ?_
    refine xk_iload_n dX9_in_6 rfl ?_
    refine xk_icmp_gt 14 dX9_in_7 (by decide) (fun c7 => ?_) (fun c7 => ?_)
    · refine xk_iconst (0) dX9_in_14 (by decide) ?_
      exact xk_zret rfl (by rfl) dX9_in_15 (Nat.le_refl _) (Nat.le_refl _) ⟨by first | (refine xz1 ?_; unfold inB; simp; exact ⟨Int32.not_lt.mp c2, Int32.not_lt.mp c7⟩; done) | (refine xz0 ?_; unfold inB; simp; exact ⟨Int32.not_lt.mp c2, Int32.not_lt.mp c7⟩; done) | (refine xz1 ?_; unfold inB; simp; intro q; exact absurd c2 (Int32.not_lt.mpr q); done) | (refine xz0 ?_; unfold inB; simp; intro q; exact absurd c2 (Int32.not_lt.mpr q); done) | (refine xz1 ?_; unfold inB; simp; intro _; exact c7; done) | (refine xz0 ?_; unfold inB; simp; intro _; exact c7; done), rfl⟩
    · refine xk_iconst (1) dX9_in_10 (by decide) ?_
      refine xk_goto 15 dX9_in_11 (by decide) ?_
      exact xk_zret rfl (by rfl) dX9_in_15 (Nat.le_refl _) (Nat.le_refl _) ⟨by first | (refine xz1 ?_; unfold inB; simp; exact ⟨Int32.not_lt.mp c2, Int32.not_lt.mp c7⟩; done) | (refine xz0 ?_; unfold inB; simp; exact ⟨Int32.not_lt.mp c2, Int32.not_lt.mp c7⟩; done) | (refine xz1 ?_; unfold inB; simp; intro q; exact absurd c2 (Int32.not_lt.mpr q); done) | (refine xz0 ?_; unfold inB; simp; intro q; exact absurd c2 (Int32.not_lt.mpr q); done) | (refine xz1 ?_; unfold inB; simp; intro _; exact c7; done) | (refine xz0 ?_; unfold inB; simp; intro _; exact c7; done), rfl⟩

set_option maxHeartbeats 4000000 in
set_option maxRecDepth 100000 in
theorem y_X9_areTwo (d : Nat) {hs : xk_H} {m n : Nat} {s : mdX} {x y : Int32} (hn : n ≤ 6) (h2 : 2 ≤ n) (hO : hs[m]? = some (mdO n m s)) : xk_F (d + 1) mX9_areTwo [.ref m, .int x, .int y] hs (some (.int (xk_b (tPair n x y)))) hs := by
  refine xk_Y.ofX (k := 0) (ls := [some (.ref m), some (.int x), some (.int y)]) (by decide) rfl rfl ?_
  refine xk_iload_n dX9_areTwo_0 rfl ?_
  refine xk_iconst (0) dX9_areTwo_1 (by decide) ?_
  refine xk_aload_n dX9_areTwo_2 rfl ?_
  refine xk_get (ci := 8) (r := (RX9, TX9, 25)) 0 dX9_areTwo_3 rfl inX9 (by decide) wf_X9_66 hO rfl ?_
  refine xk_iconst (1) dX9_areTwo_6 (by decide) ?_
  refine xk_isub dX9_areTwo_7 ?_
  refine xk_s3c (M' := mX9_in) (d' := d) dX9_areTwo_8 wm_X9_73 cv_X9_in wt_X9_in (by omega) (Nat.le_refl _) (Nat.le_refl _) (Nat.le_of_ble_eq_true rfl) (y_X9_in d) rfl ?_
  refine xk_ifb_eq 37 dX9_areTwo_11 (by decide) (fun c11 => ?_) (fun c11 => ?_)
  · rw [inB_tIn (by omega) hn] at c11
    refine xk_iconst (0) dX9_areTwo_37 (by decide) ?_
    exact xk_zret rfl (by rfl) dX9_areTwo_38 (Nat.le_refl _) (Nat.le_refl _) ⟨by first | (refine xz1 ?_; unfold tPair; simp_all; done) | (refine xz0 ?_; unfold tPair; simp_all; done), rfl⟩
  · rw [inB_tIn (by omega) hn] at c11
    refine xk_iload_n dX9_areTwo_14 rfl ?_
    refine xk_iconst (0) dX9_areTwo_15 (by decide) ?_
    refine xk_aload_n dX9_areTwo_16 rfl ?_
    refine xk_get (ci := 8) (r := (RX9, TX9, 25)) 0 dX9_areTwo_17 rfl inX9 (by decide) wf_X9_66 hO rfl ?_
    refine xk_iconst (1) dX9_areTwo_20 (by decide) ?_
    refine xk_isub dX9_areTwo_21 ?_
    refine xk_s3c (M' := mX9_in) (d' := d) dX9_areTwo_22 wm_X9_73 cv_X9_in wt_X9_in (by omega) (Nat.le_refl _) (Nat.le_refl _) (Nat.le_of_ble_eq_true rfl) (y_X9_in d) rfl ?_
    refine xk_ifb_eq 37 dX9_areTwo_25 (by decide) (fun c25 => ?_) (fun c25 => ?_)
    · rw [inB_tIn (by omega) hn] at c25
      refine xk_iconst (0) dX9_areTwo_37 (by decide) ?_
      exact xk_zret rfl (by rfl) dX9_areTwo_38 (Nat.le_refl _) (Nat.le_refl _) ⟨by first | (refine xz1 ?_; unfold tPair; simp_all; done) | (refine xz0 ?_; unfold tPair; simp_all; done), rfl⟩
    · rw [inB_tIn (by omega) hn] at c25
      refine xk_iload_n dX9_areTwo_28 rfl ?_
      refine xk_iload_n dX9_areTwo_29 rfl ?_
      refine xk_icmp_eq 37 dX9_areTwo_30 (by decide) (fun c30 => ?_) (fun c30 => ?_)
      · refine xk_iconst (0) dX9_areTwo_37 (by decide) ?_
        exact xk_zret rfl (by rfl) dX9_areTwo_38 (Nat.le_refl _) (Nat.le_refl _) ⟨by first | (refine xz1 ?_; unfold tPair; simp_all; done) | (refine xz0 ?_; unfold tPair; simp_all; done), rfl⟩
      · refine xk_iconst (1) dX9_areTwo_33 (by decide) ?_
        refine xk_goto 38 dX9_areTwo_34 (by decide) ?_
        exact xk_zret rfl (by rfl) dX9_areTwo_38 (Nat.le_refl _) (Nat.le_refl _) ⟨by first | (refine xz1 ?_; unfold tPair; simp_all; done) | (refine xz0 ?_; unfold tPair; simp_all; done), rfl⟩

set_option maxHeartbeats 4000000 in
set_option maxRecDepth 100000 in
/-- pair -/
theorem y_X9_pair (d : Nat) {hs : xk_H} {m n : Nat} {T : mdT} {s : mdX} (hn : n ≤ 6) (h2 : 2 ≤ n) (hO : hs[m]? = some (mdO n m s)) (hC : mdC hs m n T) {i j : Nat} (hi : i < n) (hj : j < n) (hij : i ≠ j) : xk_F (d + 1) mX9_pair [.ref m, .int (nI i), .int (nI j)] hs (some (.int (nI (pidx n i j)))) hs := by
  have hp := pidx_ok n (by omega) h2 i hi j hj hij
  have hnp := np_ok n (by omega)
  have l16 : ∀ (r k : Nat), k + r = pidx n i j → xk_P (d + 1) mX9_pair [.ref m, .int (nI i), .int (nI j)] hs (some (.int (nI (pidx n i j)))) hs 16 [some (.ref m), some (.int (nI i)), some (.int (nI j)), some (.int (nI (min i j))), some (.int (nI (max i j))), some (.int (nI k))] [] hs := by
    intro r
    induction r with
    | zero =>
      intro k h1
      obtain rfl : k = pidx n i j := by omega
      have q3 : (nI (pidx n i j)).toNatClampNeg = pidx n i j := nI_clamp (by omega)
      have q1 : vp_in (nI (pidx n i j)) 15 := vp_in_nI (by omega) (by omega)
      refine xk_aload_n dX9_pair_16 rfl ?_
      refine xk_get (ci := 8) (r := (RX9, TX9, 25)) 8 dX9_pair_17 rfl inX9 (by decide) wf_X9_28 hO rfl ?_
      refine xk_iload dX9_pair_20 rfl ?_
      refine xk_iald dX9_pair_22 hC.2.2.2.2.2.2.1 q1 ?_
      rw [q3, hp.2.1]
      refine xk_iload_n dX9_pair_23 rfl ?_
      refine xk_icmp_ne 39 dX9_pair_24 (by decide) (fun c24 => ?_) (fun c24 => ?_)
      · exact absurd rfl c24
      · refine xk_aload_n dX9_pair_27 rfl ?_
        refine xk_get (ci := 8) (r := (RX9, TX9, 25)) 9 dX9_pair_28 rfl inX9 (by decide) wf_X9_31 hO rfl ?_
        refine xk_iload dX9_pair_31 rfl ?_
        refine xk_iald dX9_pair_33 hC.2.2.2.2.2.2.2 q1 ?_
        try rw [q3]
        rw [hp.2.2.1]
        refine xk_iload dX9_pair_34 rfl ?_
        refine xk_icmp_eq 45 dX9_pair_36 (by decide) (fun c36 => ?_) (fun c36 => ?_)
        · refine xk_iload dX9_pair_45 rfl ?_
          exact xk_iret rfl dX9_pair_47 (Nat.le_refl _) (Nat.le_refl _) ⟨rfl, rfl⟩
        · exact absurd rfl c36
    | succ r ih =>
      intro k h1
      have q3 : (nI k).toNatClampNeg = k := nI_clamp (by omega)
      have q1 : vp_in (nI k) 15 := vp_in_nI (by omega) (by omega)
      have hne := hp.2.2.2.2 k (by omega)
      have hlt := pu_lt n (by omega) k (by omega)
      refine xk_aload_n dX9_pair_16 rfl ?_
      refine xk_get (ci := 8) (r := (RX9, TX9, 25)) 8 dX9_pair_17 rfl inX9 (by decide) wf_X9_28 hO rfl ?_
      refine xk_iload dX9_pair_20 rfl ?_
      refine xk_iald dX9_pair_22 hC.2.2.2.2.2.2.1 q1 ?_
      rw [q3]
      refine xk_iload_n dX9_pair_23 rfl ?_
      refine xk_icmp_ne 39 dX9_pair_24 (by decide) (fun c24 => ?_) (fun c24 => ?_)
      · refine xk_iinc (nI (k + 1)) dX9_pair_39 rfl (nI_1 k) (by decide) ?_
        dsimp only [xk_s1, xk_s2, xk_kill]
        refine xk_goto 16 dX9_pair_42 (by decide) ?_
        exact ih (k + 1) (by omega)
      · have c25 := (nI_eq (by omega) (by omega)).mp c24
        refine xk_aload_n dX9_pair_27 rfl ?_
        refine xk_get (ci := 8) (r := (RX9, TX9, 25)) 9 dX9_pair_28 rfl inX9 (by decide) wf_X9_31 hO rfl ?_
        refine xk_iload dX9_pair_31 rfl ?_
        refine xk_iald dX9_pair_33 hC.2.2.2.2.2.2.2 q1 ?_
        try rw [q3]
        refine xk_iload dX9_pair_34 rfl ?_
        refine xk_icmp_eq 45 dX9_pair_36 (by decide) (fun c36 => ?_) (fun c36 => ?_)
        · exact absurd ⟨c25, (nI_eq (by omega) (by omega)).mp c36⟩ hne
        · refine xk_iinc (nI (k + 1)) dX9_pair_39 rfl (nI_1 k) (by decide) ?_
          dsimp only [xk_s1, xk_s2, xk_kill]
          refine xk_goto 16 dX9_pair_42 (by decide) ?_
          exact ih (k + 1) (by omega)
  refine xk_Y.ofX (k := 3) (ls := [some (.ref m), some (.int (nI i)), some (.int (nI j)), none, none, none]) (by decide) rfl rfl ?_
  refine xk_iload_n dX9_pair_0 rfl ?_
  refine xk_iload_n dX9_pair_1 rfl ?_
  refine xk_mmin dX9_pair_2 wm_X9_57 (by omega) (Nat.le_refl _) (Nat.le_refl _) (Nat.le_of_ble_eq_true rfl) ?_
  rw [show (if nI j < nI i then nI j else nI i) = nI (min i j) from by by_cases c : j < i; (rw [if_pos (nI_lt c (by omega)), Nat.min_eq_right (by omega)]); (rw [if_neg (nI_nlt (by omega) (by omega)), Nat.min_eq_left (by omega)])]
  refine xk_istore_n dX9_pair_5 (by decide) ?_
  dsimp only [xk_s1, xk_s2, xk_kill]
  refine xk_iload_n dX9_pair_6 rfl ?_
  refine xk_iload_n dX9_pair_7 rfl ?_
  refine xk_mmax dX9_pair_8 wm_X9_63 (by omega) (Nat.le_refl _) (Nat.le_refl _) (Nat.le_of_ble_eq_true rfl) ?_
  rw [show (if nI i < nI j then nI j else nI i) = nI (max i j) from by by_cases c : i < j; (rw [if_pos (nI_lt c (by omega)), Nat.max_eq_right (by omega)]); (rw [if_neg (nI_nlt (by omega) (by omega)), Nat.max_eq_left (by omega)])]
  refine xk_istore dX9_pair_11 (by decide) ?_
  dsimp only [xk_s1, xk_s2, xk_kill]
  refine xk_iconst (0) dX9_pair_13 (by decide) ?_
  refine xk_istore dX9_pair_14 (by decide) ?_
  dsimp only [xk_s1, xk_s2, xk_kill]
  exact l16 (pidx n i j) 0 (by omega)

set_option maxHeartbeats 4000000 in
set_option maxRecDepth 100000 in
/-- the loop of divisor -/
theorem l_X9_divisor (d : Nat) {hs : xk_H} : ∀ (k a b : Nat) (o0 o2 o8 : Option Value), b ≤ k → a < 2 ^ 62 → b < 2 ^ 62 → xk_P d mX9_divisor [] hs (some (.long (lN (Nat.gcd a b)))) hs 6 [o0, none, o2, none, some (.long (lN a)), none, some (.long (lN b)), none, o8, none] [] hs := by
  intro k
  induction k with
  | zero =>
    intro a b o0 o2 o8 hb ha hb2
    obtain rfl : b = 0 := by omega
    refine xk_lload dX9_divisor_6 rfl ?_
    refine xk_lconst (0) dX9_divisor_8 (by decide) ?_
    refine xk_lcmp dX9_divisor_9 ?_
    refine xk_if_eq 31 dX9_divisor_10 (by decide) (fun c10 => ?_) (fun c10 => ?_)
    · refine xk_lload dX9_divisor_31 rfl ?_
      exact xk_lret rfl dX9_divisor_33 (Nat.le_refl _) (Nat.le_refl _) ⟨by rw [Nat.gcd_zero_right], rfl⟩
    · exact absurd ((lc_eq (a := 0) (b := 0) (by decide) (by decide)).mpr rfl) c10
  | succ k ih =>
    intro a b o0 o2 o8 hb ha hb2
    refine xk_lload dX9_divisor_6 rfl ?_
    refine xk_lconst (0) dX9_divisor_8 (by decide) ?_
    refine xk_lcmp dX9_divisor_9 ?_
    refine xk_if_eq 31 dX9_divisor_10 (by decide) (fun c10 => ?_) (fun c10 => ?_)
    · have hb0 : b = 0 := (lc_eq (b := 0) (by omega) (by decide)).mp c10
      subst hb0
      refine xk_lload dX9_divisor_31 rfl ?_
      exact xk_lret rfl dX9_divisor_33 (Nat.le_refl _) (Nat.le_refl _) ⟨by rw [Nat.gcd_zero_right], rfl⟩
    · have hb0 : ¬ b = 0 := fun q => c10 ((lc_eq (b := 0) (by omega) (by decide)).mpr q)
      have hlt := Nat.mod_lt a (Nat.pos_of_ne_zero hb0)
      refine xk_lload dX9_divisor_13 rfl ?_
      refine xk_lload dX9_divisor_15 rfl ?_
      refine xk_lrem dX9_divisor_17 (fun q => hb0 ((pk_lEQ (b := 0) (by omega) (by decide)).mp q)) ?_
      rw [pk_lRem (by omega) (by omega) (by omega)]
      refine xk_lstore dX9_divisor_18 (by decide) ?_
      dsimp only [xk_s1, xk_s2, xk_kill]
      refine xk_lload dX9_divisor_20 rfl ?_
      refine xk_lstore dX9_divisor_22 (by decide) ?_
      dsimp only [xk_s1, xk_s2, xk_kill]
      refine xk_lload dX9_divisor_24 rfl ?_
      refine xk_lstore dX9_divisor_26 (by decide) ?_
      dsimp only [xk_s1, xk_s2, xk_kill]
      refine xk_goto 6 dX9_divisor_28 (by decide) ?_
      rw [show Nat.gcd a b = Nat.gcd b (a % b) by rw [Nat.gcd_comm, Nat.gcd_rec, Nat.gcd_comm]]
      exact ih b (a % b) _ _ _ (by omega) hb2 (by omega)

set_option maxHeartbeats 4000000 in
set_option maxRecDepth 100000 in
theorem y_X9_divisor (d : Nat) {a b : Nat} {hs : xk_H} (ha : a < 4611686018427387904) (hb : b < 4611686018427387904) : xk_F d mX9_divisor [.long (lN a), .long (lN b)] hs (some (.long (lN (Nat.gcd a b)))) hs := by
  refine xk_Y.ofX (k := 6) (ls := [some (.long (lN a)), none, some (.long (lN b)), none, none, none, none, none, none, none]) (by decide) rfl rfl ?_
  refine xk_lload_n dX9_divisor_0 rfl ?_
  refine xk_lstore dX9_divisor_1 (by decide) ?_
  dsimp only [xk_s1, xk_s2, xk_kill]
  refine xk_lload_n dX9_divisor_3 rfl ?_
  refine xk_lstore dX9_divisor_4 (by decide) ?_
  dsimp only [xk_s1, xk_s2, xk_kill]
  exact l_X9_divisor d b a b _ _ _ (Nat.le_refl _) ha hb

set_option maxHeartbeats 4000000 in
set_option maxRecDepth 100000 in
theorem y_X9_isSaid (d : Nat) {hs : xk_H} {m n : Nat} {T : mdT} {s : mdX} (hn : n ≤ 6) (h2 : 2 ≤ n) (hO : hs[m]? = some (mdO n m s)) (hC : mdC hs m n T) {i j : Nat} (hi : i < n) (hj : j < n) (hij : i ≠ j) (hb : T.1 (pidx n i j) < 100) : xk_F (d + 2) mX9_isSaid [.ref m, .int (nI i), .int (nI j)] hs (some (.int (xk_b (decide (0 < T.1 (pidx n i j)))))) hs := by
  have hp := pidx_ok n (by omega) h2 i hi j hj hij
  have hnp := np_ok n (by omega)
  have q3 : (nI (pidx n i j)).toNatClampNeg = pidx n i j := nI_clamp (by omega)
  have q1 : vp_in (nI (pidx n i j)) 15 := vp_in_nI (by omega) (by omega)
  refine xk_Y.ofX (k := 0) (ls := [some (.ref m), some (.int (nI i)), some (.int (nI j))]) (by decide) rfl rfl ?_
  refine xk_aload_n dX9_isSaid_0 rfl ?_
  refine xk_get (ci := 8) (r := (RX9, TX9, 25)) 2 dX9_isSaid_1 rfl inX9 (by decide) wf_X9_9 hO rfl ?_
  refine xk_aload_n dX9_isSaid_4 rfl ?_
  refine xk_iload_n dX9_isSaid_5 rfl ?_
  refine xk_iload_n dX9_isSaid_6 rfl ?_
  refine xk_v2 (M' := mX9_pair) (d' := d + 1) (ci := 8) (r0 := (RX9, TX9, 25)) dX9_isSaid_7 wm_X9_85 cv_X9_pair wi_X9_pair wl_X9_pair (by omega) (Nat.le_refl _) (Nat.le_refl _) rfl rfl hO (Nat.le_of_ble_eq_true rfl) (y_X9_pair d hn h2 hO hC hi hj hij) rfl ?_
  refine xk_iald dX9_isSaid_10 hC.1 q1 ?_
  rw [q3]
  refine xk_if_le 18 dX9_isSaid_11 (by decide) (fun c11 => ?_) (fun c11 => ?_)
  · have c12 : ¬ 0 < T.1 (pidx n i j) := fun z => absurd c11 (nI_nle z (by omega))
    refine xk_iconst (0) dX9_isSaid_18 (by decide) ?_
    exact xk_zret rfl (by rfl) dX9_isSaid_19 (Nat.le_refl _) (Nat.le_refl _) ⟨by first | (refine xz1 ?_; simp [c12]; done; done) | (refine xz0 ?_; simp [c12]; done; done) | (refine xz1 ?_; simp only [decide_eq_true_eq]; exact c12; done) | (refine xz0 ?_; simp only [decide_eq_true_eq]; exact c12; done) | (refine xz1 ?_; simp only [decide_eq_false_iff_not]; exact c12; done) | (refine xz0 ?_; simp only [decide_eq_false_iff_not]; exact c12; done), rfl⟩
  · have c12 : 0 < T.1 (pidx n i j) := by
      rcases Nat.eq_zero_or_pos (T.1 (pidx n i j)) with z | z
      · exact absurd (by rw [z]; decide) c11
      · exact z
    refine xk_iconst (1) dX9_isSaid_14 (by decide) ?_
    refine xk_goto 19 dX9_isSaid_15 (by decide) ?_
    exact xk_zret rfl (by rfl) dX9_isSaid_19 (Nat.le_refl _) (Nat.le_refl _) ⟨by first | (refine xz1 ?_; simp [c12]; done; done) | (refine xz0 ?_; simp [c12]; done; done) | (refine xz1 ?_; simp only [decide_eq_true_eq]; exact c12; done) | (refine xz0 ?_; simp only [decide_eq_true_eq]; exact c12; done) | (refine xz1 ?_; simp only [decide_eq_false_iff_not]; exact c12; done) | (refine xz0 ?_; simp only [decide_eq_false_iff_not]; exact c12; done), rfl⟩

set_option maxHeartbeats 4000000 in
set_option maxRecDepth 100000 in
theorem y_X9_isSpan (d : Nat) {hs : xk_H} {m n : Nat} {T : mdT} {s : mdX} (hn : n ≤ 6) (h2 : 2 ≤ n) (hO : hs[m]? = some (mdO n m s)) (hC : mdC hs m n T) {i j : Nat} (hi : i < n) (hj : j < n) (hij : i ≠ j) (hb : T.2.2.1 (pidx n i j) < 100) : xk_F (d + 2) mX9_isSpan [.ref m, .int (nI i), .int (nI j)] hs (some (.int (xk_b (decide (0 < T.2.2.1 (pidx n i j)))))) hs := by
  have hp := pidx_ok n (by omega) h2 i hi j hj hij
  have hnp := np_ok n (by omega)
  have q3 : (nI (pidx n i j)).toNatClampNeg = pidx n i j := nI_clamp (by omega)
  have q1 : vp_in (nI (pidx n i j)) 15 := vp_in_nI (by omega) (by omega)
  refine xk_Y.ofX (k := 0) (ls := [some (.ref m), some (.int (nI i)), some (.int (nI j))]) (by decide) rfl rfl ?_
  refine xk_aload_n dX9_isSpan_0 rfl ?_
  refine xk_get (ci := 8) (r := (RX9, TX9, 25)) 4 dX9_isSpan_1 rfl inX9 (by decide) wf_X9_16 hO rfl ?_
  refine xk_aload_n dX9_isSpan_4 rfl ?_
  refine xk_iload_n dX9_isSpan_5 rfl ?_
  refine xk_iload_n dX9_isSpan_6 rfl ?_
  refine xk_v2 (M' := mX9_pair) (d' := d + 1) (ci := 8) (r0 := (RX9, TX9, 25)) dX9_isSpan_7 wm_X9_85 cv_X9_pair wi_X9_pair wl_X9_pair (by omega) (Nat.le_refl _) (Nat.le_refl _) rfl rfl hO (Nat.le_of_ble_eq_true rfl) (y_X9_pair d hn h2 hO hC hi hj hij) rfl ?_
  refine xk_iald dX9_isSpan_10 hC.2.2.1 q1 ?_
  rw [q3]
  refine xk_if_le 18 dX9_isSpan_11 (by decide) (fun c11 => ?_) (fun c11 => ?_)
  · have c12 : ¬ 0 < T.2.2.1 (pidx n i j) := fun z => absurd c11 (nI_nle z (by omega))
    refine xk_iconst (0) dX9_isSpan_18 (by decide) ?_
    exact xk_zret rfl (by rfl) dX9_isSpan_19 (Nat.le_refl _) (Nat.le_refl _) ⟨by first | (refine xz1 ?_; simp [c12]; done; done) | (refine xz0 ?_; simp [c12]; done; done) | (refine xz1 ?_; simp only [decide_eq_true_eq]; exact c12; done) | (refine xz0 ?_; simp only [decide_eq_true_eq]; exact c12; done) | (refine xz1 ?_; simp only [decide_eq_false_iff_not]; exact c12; done) | (refine xz0 ?_; simp only [decide_eq_false_iff_not]; exact c12; done), rfl⟩
  · have c12 : 0 < T.2.2.1 (pidx n i j) := by
      rcases Nat.eq_zero_or_pos (T.2.2.1 (pidx n i j)) with z | z
      · exact absurd (by rw [z]; decide) c11
      · exact z
    refine xk_iconst (1) dX9_isSpan_14 (by decide) ?_
    refine xk_goto 19 dX9_isSpan_15 (by decide) ?_
    exact xk_zret rfl (by rfl) dX9_isSpan_19 (Nat.le_refl _) (Nat.le_refl _) ⟨by first | (refine xz1 ?_; simp [c12]; done; done) | (refine xz0 ?_; simp [c12]; done; done) | (refine xz1 ?_; simp only [decide_eq_true_eq]; exact c12; done) | (refine xz0 ?_; simp only [decide_eq_true_eq]; exact c12; done) | (refine xz1 ?_; simp only [decide_eq_false_iff_not]; exact c12; done) | (refine xz0 ?_; simp only [decide_eq_false_iff_not]; exact c12; done), rfl⟩

set_option maxHeartbeats 4000000 in
set_option maxRecDepth 100000 in
theorem y_X9_topOf (d : Nat) {hs : xk_H} {m n : Nat} {T : mdT} {s : mdX} (hn : n ≤ 6) (h2 : 2 ≤ n) (hO : hs[m]? = some (mdO n m s)) (hC : mdC hs m n T) {i j : Nat} (hi : i < n) (hj : j < n) (hij : i ≠ j) : xk_F (d + 2) mX9_topOf [.ref m, .int (nI i), .int (nI j)] hs (some (.int (nI (mdS n T.1 T.2.1 i j).1))) hs := by
  have hp := pidx_ok n (by omega) h2 i hi j hj hij
  have hnp := np_ok n (by omega)
  have q3 : (nI (pidx n i j)).toNatClampNeg = pidx n i j := nI_clamp (by omega)
  have q1 : vp_in (nI (pidx n i j)) 15 := vp_in_nI (by omega) (by omega)
  refine xk_Y.ofX (k := 0) (ls := [some (.ref m), some (.int (nI i)), some (.int (nI j))]) (by decide) rfl rfl ?_
  refine xk_iload_n dX9_topOf_0 rfl ?_
  refine xk_iload_n dX9_topOf_1 rfl ?_
  refine xk_icmp_ge 19 dX9_topOf_2 (by decide) (fun c2 => ?_) (fun c2 => ?_)
  · have c3 : ¬ i < j := fun z => absurd c2 (nI_ge z (by omega))
    refine xk_aload_n dX9_topOf_19 rfl ?_
    refine xk_get (ci := 8) (r := (RX9, TX9, 25)) 3 dX9_topOf_20 rfl inX9 (by decide) wf_X9_13 hO rfl ?_
    refine xk_aload_n dX9_topOf_23 rfl ?_
    refine xk_iload_n dX9_topOf_24 rfl ?_
    refine xk_iload_n dX9_topOf_25 rfl ?_
    refine xk_v2 (M' := mX9_pair) (d' := d + 1) (ci := 8) (r0 := (RX9, TX9, 25)) dX9_topOf_26 wm_X9_85 cv_X9_pair wi_X9_pair wl_X9_pair (by omega) (Nat.le_refl _) (Nat.le_refl _) rfl rfl hO (Nat.le_of_ble_eq_true rfl) (y_X9_pair d hn h2 hO hC hi hj hij) rfl ?_
    refine xk_iald dX9_topOf_29 hC.2.1 q1 ?_
    rw [q3]
    exact xk_iret rfl dX9_topOf_30 (Nat.le_refl _) (Nat.le_refl _) ⟨by unfold mdS; first | rw [if_pos c3] | rw [if_neg c3], rfl⟩
  · have c3 : i < j := by
      rcases Nat.lt_or_ge i j with z | z
      · exact z
      · exact absurd (nI_le z (by omega)) c2
    refine xk_aload_n dX9_topOf_5 rfl ?_
    refine xk_get (ci := 8) (r := (RX9, TX9, 25)) 2 dX9_topOf_6 rfl inX9 (by decide) wf_X9_9 hO rfl ?_
    refine xk_aload_n dX9_topOf_9 rfl ?_
    refine xk_iload_n dX9_topOf_10 rfl ?_
    refine xk_iload_n dX9_topOf_11 rfl ?_
    refine xk_v2 (M' := mX9_pair) (d' := d + 1) (ci := 8) (r0 := (RX9, TX9, 25)) dX9_topOf_12 wm_X9_85 cv_X9_pair wi_X9_pair wl_X9_pair (by omega) (Nat.le_refl _) (Nat.le_refl _) rfl rfl hO (Nat.le_of_ble_eq_true rfl) (y_X9_pair d hn h2 hO hC hi hj hij) rfl ?_
    refine xk_iald dX9_topOf_15 hC.1 q1 ?_
    rw [q3]
    refine xk_goto 30 dX9_topOf_16 (by decide) ?_
    exact xk_iret rfl dX9_topOf_30 (Nat.le_refl _) (Nat.le_refl _) ⟨by unfold mdS; first | rw [if_pos c3] | rw [if_neg c3], rfl⟩

set_option maxHeartbeats 4000000 in
set_option maxRecDepth 100000 in
theorem y_X9_bottomOf (d : Nat) {hs : xk_H} {m n : Nat} {T : mdT} {s : mdX} (hn : n ≤ 6) (h2 : 2 ≤ n) (hO : hs[m]? = some (mdO n m s)) (hC : mdC hs m n T) {i j : Nat} (hi : i < n) (hj : j < n) (hij : i ≠ j) : xk_F (d + 2) mX9_bottomOf [.ref m, .int (nI i), .int (nI j)] hs (some (.int (nI (mdS n T.1 T.2.1 i j).2))) hs := by
  have hp := pidx_ok n (by omega) h2 i hi j hj hij
  have hnp := np_ok n (by omega)
  have q3 : (nI (pidx n i j)).toNatClampNeg = pidx n i j := nI_clamp (by omega)
  have q1 : vp_in (nI (pidx n i j)) 15 := vp_in_nI (by omega) (by omega)
  refine xk_Y.ofX (k := 0) (ls := [some (.ref m), some (.int (nI i)), some (.int (nI j))]) (by decide) rfl rfl ?_
  refine xk_iload_n dX9_bottomOf_0 rfl ?_
  refine xk_iload_n dX9_bottomOf_1 rfl ?_
  refine xk_icmp_ge 19 dX9_bottomOf_2 (by decide) (fun c2 => ?_) (fun c2 => ?_)
  · have c3 : ¬ i < j := fun z => absurd c2 (nI_ge z (by omega))
    refine xk_aload_n dX9_bottomOf_19 rfl ?_
    refine xk_get (ci := 8) (r := (RX9, TX9, 25)) 2 dX9_bottomOf_20 rfl inX9 (by decide) wf_X9_9 hO rfl ?_
    refine xk_aload_n dX9_bottomOf_23 rfl ?_
    refine xk_iload_n dX9_bottomOf_24 rfl ?_
    refine xk_iload_n dX9_bottomOf_25 rfl ?_
    refine xk_v2 (M' := mX9_pair) (d' := d + 1) (ci := 8) (r0 := (RX9, TX9, 25)) dX9_bottomOf_26 wm_X9_85 cv_X9_pair wi_X9_pair wl_X9_pair (by omega) (Nat.le_refl _) (Nat.le_refl _) rfl rfl hO (Nat.le_of_ble_eq_true rfl) (y_X9_pair d hn h2 hO hC hi hj hij) rfl ?_
    refine xk_iald dX9_bottomOf_29 hC.1 q1 ?_
    rw [q3]
    exact xk_iret rfl dX9_bottomOf_30 (Nat.le_refl _) (Nat.le_refl _) ⟨by unfold mdS; first | rw [if_pos c3] | rw [if_neg c3], rfl⟩
  · have c3 : i < j := by
      rcases Nat.lt_or_ge i j with z | z
      · exact z
      · exact absurd (nI_le z (by omega)) c2
    refine xk_aload_n dX9_bottomOf_5 rfl ?_
    refine xk_get (ci := 8) (r := (RX9, TX9, 25)) 3 dX9_bottomOf_6 rfl inX9 (by decide) wf_X9_13 hO rfl ?_
    refine xk_aload_n dX9_bottomOf_9 rfl ?_
    refine xk_iload_n dX9_bottomOf_10 rfl ?_
    refine xk_iload_n dX9_bottomOf_11 rfl ?_
    refine xk_v2 (M' := mX9_pair) (d' := d + 1) (ci := 8) (r0 := (RX9, TX9, 25)) dX9_bottomOf_12 wm_X9_85 cv_X9_pair wi_X9_pair wl_X9_pair (by omega) (Nat.le_refl _) (Nat.le_refl _) rfl rfl hO (Nat.le_of_ble_eq_true rfl) (y_X9_pair d hn h2 hO hC hi hj hij) rfl ?_
    refine xk_iald dX9_bottomOf_15 hC.2.1 q1 ?_
    rw [q3]
    refine xk_goto 30 dX9_bottomOf_16 (by decide) ?_
    exact xk_iret rfl dX9_bottomOf_30 (Nat.le_refl _) (Nat.le_refl _) ⟨by unfold mdS; first | rw [if_pos c3] | rw [if_neg c3], rfl⟩

set_option maxHeartbeats 4000000 in
set_option maxRecDepth 100000 in
theorem y_X9_lowOver (d : Nat) {hs : xk_H} {m n : Nat} {T : mdT} {s : mdX} (hn : n ≤ 6) (h2 : 2 ≤ n) (hO : hs[m]? = some (mdO n m s)) (hC : mdC hs m n T) {i j : Nat} (hi : i < n) (hj : j < n) (hij : i ≠ j) : xk_F (d + 2) mX9_lowOver [.ref m, .int (nI i), .int (nI j)] hs (some (.int (nI (mdL n T i j).1))) hs := by
  have hp := pidx_ok n (by omega) h2 i hi j hj hij
  have hnp := np_ok n (by omega)
  have q3 : (nI (pidx n i j)).toNatClampNeg = pidx n i j := nI_clamp (by omega)
  have q1 : vp_in (nI (pidx n i j)) 15 := vp_in_nI (by omega) (by omega)
  refine xk_Y.ofX (k := 0) (ls := [some (.ref m), some (.int (nI i)), some (.int (nI j))]) (by decide) rfl rfl ?_
  refine xk_iload_n dX9_lowOver_0 rfl ?_
  refine xk_iload_n dX9_lowOver_1 rfl ?_
  refine xk_icmp_ge 19 dX9_lowOver_2 (by decide) (fun c2 => ?_) (fun c2 => ?_)
  · have c3 : ¬ i < j := fun z => absurd c2 (nI_ge z (by omega))
    refine xk_aload_n dX9_lowOver_19 rfl ?_
    refine xk_get (ci := 8) (r := (RX9, TX9, 25)) 7 dX9_lowOver_20 rfl inX9 (by decide) wf_X9_25 hO rfl ?_
    refine xk_aload_n dX9_lowOver_23 rfl ?_
    refine xk_iload_n dX9_lowOver_24 rfl ?_
    refine xk_iload_n dX9_lowOver_25 rfl ?_
    refine xk_v2 (M' := mX9_pair) (d' := d + 1) (ci := 8) (r0 := (RX9, TX9, 25)) dX9_lowOver_26 wm_X9_85 cv_X9_pair wi_X9_pair wl_X9_pair (by omega) (Nat.le_refl _) (Nat.le_refl _) rfl rfl hO (Nat.le_of_ble_eq_true rfl) (y_X9_pair d hn h2 hO hC hi hj hij) rfl ?_
    refine xk_iald dX9_lowOver_29 hC.2.2.2.2.2.1 q1 ?_
    rw [q3]
    exact xk_iret rfl dX9_lowOver_30 (Nat.le_refl _) (Nat.le_refl _) ⟨by unfold mdL; first | rw [if_pos c3] | rw [if_neg c3], rfl⟩
  · have c3 : i < j := by
      rcases Nat.lt_or_ge i j with z | z
      · exact z
      · exact absurd (nI_le z (by omega)) c2
    refine xk_aload_n dX9_lowOver_5 rfl ?_
    refine xk_get (ci := 8) (r := (RX9, TX9, 25)) 4 dX9_lowOver_6 rfl inX9 (by decide) wf_X9_16 hO rfl ?_
    refine xk_aload_n dX9_lowOver_9 rfl ?_
    refine xk_iload_n dX9_lowOver_10 rfl ?_
    refine xk_iload_n dX9_lowOver_11 rfl ?_
    refine xk_v2 (M' := mX9_pair) (d' := d + 1) (ci := 8) (r0 := (RX9, TX9, 25)) dX9_lowOver_12 wm_X9_85 cv_X9_pair wi_X9_pair wl_X9_pair (by omega) (Nat.le_refl _) (Nat.le_refl _) rfl rfl hO (Nat.le_of_ble_eq_true rfl) (y_X9_pair d hn h2 hO hC hi hj hij) rfl ?_
    refine xk_iald dX9_lowOver_15 hC.2.2.1 q1 ?_
    rw [q3]
    refine xk_goto 30 dX9_lowOver_16 (by decide) ?_
    exact xk_iret rfl dX9_lowOver_30 (Nat.le_refl _) (Nat.le_refl _) ⟨by unfold mdL; first | rw [if_pos c3] | rw [if_neg c3], rfl⟩

set_option maxHeartbeats 4000000 in
set_option maxRecDepth 100000 in
theorem y_X9_lowUnder (d : Nat) {hs : xk_H} {m n : Nat} {T : mdT} {s : mdX} (hn : n ≤ 6) (h2 : 2 ≤ n) (hO : hs[m]? = some (mdO n m s)) (hC : mdC hs m n T) {i j : Nat} (hi : i < n) (hj : j < n) (hij : i ≠ j) : xk_F (d + 2) mX9_lowUnder [.ref m, .int (nI i), .int (nI j)] hs (some (.int (nI (mdL n T i j).2))) hs := by
  have hp := pidx_ok n (by omega) h2 i hi j hj hij
  have hnp := np_ok n (by omega)
  have q3 : (nI (pidx n i j)).toNatClampNeg = pidx n i j := nI_clamp (by omega)
  have q1 : vp_in (nI (pidx n i j)) 15 := vp_in_nI (by omega) (by omega)
  refine xk_Y.ofX (k := 0) (ls := [some (.ref m), some (.int (nI i)), some (.int (nI j))]) (by decide) rfl rfl ?_
  refine xk_iload_n dX9_lowUnder_0 rfl ?_
  refine xk_iload_n dX9_lowUnder_1 rfl ?_
  refine xk_icmp_ge 19 dX9_lowUnder_2 (by decide) (fun c2 => ?_) (fun c2 => ?_)
  · have c3 : ¬ i < j := fun z => absurd c2 (nI_ge z (by omega))
    refine xk_aload_n dX9_lowUnder_19 rfl ?_
    refine xk_get (ci := 8) (r := (RX9, TX9, 25)) 6 dX9_lowUnder_20 rfl inX9 (by decide) wf_X9_22 hO rfl ?_
    refine xk_aload_n dX9_lowUnder_23 rfl ?_
    refine xk_iload_n dX9_lowUnder_24 rfl ?_
    refine xk_iload_n dX9_lowUnder_25 rfl ?_
    refine xk_v2 (M' := mX9_pair) (d' := d + 1) (ci := 8) (r0 := (RX9, TX9, 25)) dX9_lowUnder_26 wm_X9_85 cv_X9_pair wi_X9_pair wl_X9_pair (by omega) (Nat.le_refl _) (Nat.le_refl _) rfl rfl hO (Nat.le_of_ble_eq_true rfl) (y_X9_pair d hn h2 hO hC hi hj hij) rfl ?_
    refine xk_iald dX9_lowUnder_29 hC.2.2.2.2.1 q1 ?_
    rw [q3]
    exact xk_iret rfl dX9_lowUnder_30 (Nat.le_refl _) (Nat.le_refl _) ⟨by unfold mdL; first | rw [if_pos c3] | rw [if_neg c3], rfl⟩
  · have c3 : i < j := by
      rcases Nat.lt_or_ge i j with z | z
      · exact z
      · exact absurd (nI_le z (by omega)) c2
    refine xk_aload_n dX9_lowUnder_5 rfl ?_
    refine xk_get (ci := 8) (r := (RX9, TX9, 25)) 5 dX9_lowUnder_6 rfl inX9 (by decide) wf_X9_19 hO rfl ?_
    refine xk_aload_n dX9_lowUnder_9 rfl ?_
    refine xk_iload_n dX9_lowUnder_10 rfl ?_
    refine xk_iload_n dX9_lowUnder_11 rfl ?_
    refine xk_v2 (M' := mX9_pair) (d' := d + 1) (ci := 8) (r0 := (RX9, TX9, 25)) dX9_lowUnder_12 wm_X9_85 cv_X9_pair wi_X9_pair wl_X9_pair (by omega) (Nat.le_refl _) (Nat.le_refl _) rfl rfl hO (Nat.le_of_ble_eq_true rfl) (y_X9_pair d hn h2 hO hC hi hj hij) rfl ?_
    refine xk_iald dX9_lowUnder_15 hC.2.2.2.1 q1 ?_
    rw [q3]
    refine xk_goto 30 dX9_lowUnder_16 (by decide) ?_
    exact xk_iret rfl dX9_lowUnder_30 (Nat.le_refl _) (Nat.le_refl _) ⟨by unfold mdL; first | rw [if_pos c3] | rw [if_neg c3], rfl⟩

