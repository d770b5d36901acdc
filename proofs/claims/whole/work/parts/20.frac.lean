/-! Fraction: contracts. Laid by a program of our own. -/
set_option maxHeartbeats 4000000 in
set_option maxRecDepth 100000 in
theorem y_X1_of (d : Nat) {p q : Nat} {hs : xk_H} (hp : p < 2147483648) (hq : q < 4294967296) : xk_F d mX1_of [.long (lN p), .long (lN q)] hs (some (.long (fr p q))) hs := by
  refine xk_Y.ofX (k := 0) (ls := [some (.long (lN p)), none, some (.long (lN q)), none]) (by decide) rfl rfl ?_
  refine xk_lload_n dX1_of_0 rfl ?_
  refine xk_bipush (32) dX1_of_1 (by decide) ?_
  refine xk_lshl dX1_of_3 ?_
  refine xk_lload_n dX1_of_4 rfl ?_
  refine xk_lor dX1_of_5 ?_
  exact xk_lret rfl dX1_of_6 (Nat.le_refl _) (Nat.le_refl _) ⟨by rw [fr_of hp hq], rfl⟩

set_option maxHeartbeats 4000000 in
set_option maxRecDepth 100000 in
theorem y_X1_top (d : Nat) {p q : Nat} {hs : xk_H} (hp : p < 2147483648) (hq : q < 4294967296) : xk_F d mX1_top [.long (fr p q)] hs (some (.long (lN p))) hs := by
  refine xk_Y.ofX (k := 0) (ls := [some (.long (fr p q)), none]) (by decide) rfl rfl ?_
  refine xk_lload_n dX1_top_0 rfl ?_
  refine xk_bipush (32) dX1_top_1 (by decide) ?_
  refine xk_lushr dX1_top_3 ?_
  exact xk_lret rfl dX1_top_4 (Nat.le_refl _) (Nat.le_refl _) ⟨by rw [fr_top hp hq], rfl⟩

set_option maxHeartbeats 4000000 in
set_option maxRecDepth 100000 in
theorem y_X1_bottom (d : Nat) {p q : Nat} {hs : xk_H} (hp : p < 2147483648) (hq : q < 4294967296) : xk_F d mX1_bottom [.long (fr p q)] hs (some (.long (lN q))) hs := by
  refine xk_Y.ofX (k := 0) (ls := [some (.long (fr p q)), none]) (by decide) rfl rfl ?_
  refine xk_lload_n dX1_bottom_0 rfl ?_
  refine xk_ldc2 dX1_bottom_1 wk_X1_7 ?_
  refine xk_land dX1_bottom_4 ?_
  exact xk_lret rfl dX1_bottom_5 (Nat.le_refl _) (Nat.le_refl _) ⟨by rw [fr_bot hp hq], rfl⟩

set_option maxHeartbeats 4000000 in
set_option maxRecDepth 100000 in
theorem y_X1_times (d : Nat) {p q r s : Nat} {hs : xk_H} (hp : p < 2147483648) (hq : q < 2147483648) (hr : r < 2147483648) (hs2 : s < 2147483648) (hpr : p * r < 2147483648) (hqs : q * s < 2147483648) : xk_F (d + 1) mX1_times [.long (fr p q), .long (fr r s)] hs (some (.long (fr (p * r) (q * s)))) hs := by
  refine xk_Y.ofX (k := 0) (ls := [some (.long (fr p q)), none, some (.long (fr r s)), none]) (by decide) rfl rfl ?_
  refine xk_lload_n dX1_times_0 rfl ?_
  refine xk_s1c (M' := mX1_top) (d' := d) dX1_times_1 wm_X1_9 cv_X1_top wt_X1_top (by omega) (Nat.le_refl _) (Nat.le_refl _) (Nat.le_of_ble_eq_true rfl) (y_X1_top d (by omega) (by omega)) rfl ?_
  refine xk_lload_n dX1_times_4 rfl ?_
  refine xk_s1c (M' := mX1_top) (d' := d) dX1_times_5 wm_X1_9 cv_X1_top wt_X1_top (by omega) (Nat.le_refl _) (Nat.le_refl _) (Nat.le_of_ble_eq_true rfl) (y_X1_top d (by omega) (by omega)) rfl ?_
  refine xk_lmul dX1_times_8 ?_
  rw [lN_mul]
  refine xk_lload_n dX1_times_9 rfl ?_
  refine xk_s1c (M' := mX1_bottom) (d' := d) dX1_times_10 wm_X1_15 cv_X1_bottom wt_X1_bottom (by omega) (Nat.le_refl _) (Nat.le_refl _) (Nat.le_of_ble_eq_true rfl) (y_X1_bottom d (by omega) (by omega)) rfl ?_
  refine xk_lload_n dX1_times_13 rfl ?_
  refine xk_s1c (M' := mX1_bottom) (d' := d) dX1_times_14 wm_X1_15 cv_X1_bottom wt_X1_bottom (by omega) (Nat.le_refl _) (Nat.le_refl _) (Nat.le_of_ble_eq_true rfl) (y_X1_bottom d (by omega) (by omega)) rfl ?_
  refine xk_lmul dX1_times_17 ?_
  rw [lN_mul]
  refine xk_s2c (M' := mX1_of) (d' := d) dX1_times_18 wm_X1_18 cv_X1_of wt_X1_of (by omega) (Nat.le_refl _) (Nat.le_refl _) (Nat.le_of_ble_eq_true rfl) (y_X1_of d hpr (by omega)) rfl ?_
  exact xk_lret rfl dX1_times_21 (Nat.le_refl _) (Nat.le_refl _) ⟨rfl, rfl⟩

set_option maxHeartbeats 4000000 in
set_option maxRecDepth 100000 in
theorem y_X1_inverse (d : Nat) {p q : Nat} {hs : xk_H} (hp : p < 2147483648) (hq : q < 2147483648) : xk_F (d + 1) mX1_inverse [.long (fr p q)] hs (some (.long (fr q p))) hs := by
  refine xk_Y.ofX (k := 0) (ls := [some (.long (fr p q)), none]) (by decide) rfl rfl ?_
  refine xk_lload_n dX1_inverse_0 rfl ?_
  refine xk_s1c (M' := mX1_bottom) (d' := d) dX1_inverse_1 wm_X1_15 cv_X1_bottom wt_X1_bottom (by omega) (Nat.le_refl _) (Nat.le_refl _) (Nat.le_of_ble_eq_true rfl) (y_X1_bottom d (by omega) (by omega)) rfl ?_
  refine xk_lload_n dX1_inverse_4 rfl ?_
  refine xk_s1c (M' := mX1_top) (d' := d) dX1_inverse_5 wm_X1_9 cv_X1_top wt_X1_top (by omega) (Nat.le_refl _) (Nat.le_refl _) (Nat.le_of_ble_eq_true rfl) (y_X1_top d (by omega) (by omega)) rfl ?_
  refine xk_s2c (M' := mX1_of) (d' := d) dX1_inverse_8 wm_X1_18 cv_X1_of wt_X1_of (by omega) (Nat.le_refl _) (Nat.le_refl _) (Nat.le_of_ble_eq_true rfl) (y_X1_of d (by omega) (by omega)) rfl ?_
  exact xk_lret rfl dX1_inverse_11 (Nat.le_refl _) (Nat.le_refl _) ⟨rfl, rfl⟩

set_option maxHeartbeats 4000000 in
set_option maxRecDepth 100000 in
theorem y_X1_isAbove (d : Nat) {p q r s : Nat} {hs : xk_H} (hp : p < 2147483648) (hq : q < 2147483648) (hr : r < 2147483648) (hs2 : s < 2147483648) : xk_F (d + 1) mX1_isAbove [.long (fr p q), .long (fr r s)] hs (some (.int (xk_b (decide (r * q < p * s))))) hs := by
  have h1 : p * s < 2 ^ 63 := Nat.lt_of_le_of_lt (Nat.mul_le_mul (Nat.le_of_lt hp) (Nat.le_of_lt hs2)) (by decide)
  have h2 : r * q < 2 ^ 63 := Nat.lt_of_le_of_lt (Nat.mul_le_mul (Nat.le_of_lt hr) (Nat.le_of_lt hq)) (by decide)
  refine xk_Y.ofX (k := 0) (ls := [some (.long (fr p q)), none, some (.long (fr r s)), none]) (by decide) rfl rfl ?_
  refine xk_lload_n dX1_isAbove_0 rfl ?_
  refine xk_s1c (M' := mX1_top) (d' := d) dX1_isAbove_1 wm_X1_9 cv_X1_top wt_X1_top (by omega) (Nat.le_refl _) (Nat.le_refl _) (Nat.le_of_ble_eq_true rfl) (y_X1_top d (by omega) (by omega)) rfl ?_
  refine xk_lload_n dX1_isAbove_4 rfl ?_
  refine xk_s1c (M' := mX1_bottom) (d' := d) dX1_isAbove_5 wm_X1_15 cv_X1_bottom wt_X1_bottom (by omega) (Nat.le_refl _) (Nat.le_refl _) (Nat.le_of_ble_eq_true rfl) (y_X1_bottom d (by omega) (by omega)) rfl ?_
  refine xk_lmul dX1_isAbove_8 ?_
  rw [lN_mul]
  refine xk_lload_n dX1_isAbove_9 rfl ?_
  refine xk_s1c (M' := mX1_top) (d' := d) dX1_isAbove_10 wm_X1_9 cv_X1_top wt_X1_top (by omega) (Nat.le_refl _) (Nat.le_refl _) (Nat.le_of_ble_eq_true rfl) (y_X1_top d (by omega) (by omega)) rfl ?_
  refine xk_lload_n dX1_isAbove_13 rfl ?_
  refine xk_s1c (M' := mX1_bottom) (d' := d) dX1_isAbove_14 wm_X1_15 cv_X1_bottom wt_X1_bottom (by omega) (Nat.le_refl _) (Nat.le_refl _) (Nat.le_of_ble_eq_true rfl) (y_X1_bottom d (by omega) (by omega)) rfl ?_
  refine xk_lmul dX1_isAbove_17 ?_
  rw [lN_mul]
  refine xk_lcmp dX1_isAbove_18 ?_
  refine xk_if_le 26 dX1_isAbove_19 (by decide) (fun c19 => ?_) (fun c19 => ?_)
  · rw [lc_le h1 h2] at c19
    refine xk_iconst (0) dX1_isAbove_26 (by decide) ?_
    exact xk_zret rfl (by rfl) dX1_isAbove_27 (Nat.le_refl _) (Nat.le_refl _) ⟨by first | rw [xd_t (by omega)] | rw [xd_f (by omega)], rfl⟩
  · rw [lc_le h1 h2] at c19
    refine xk_iconst (1) dX1_isAbove_22 (by decide) ?_
    refine xk_goto 27 dX1_isAbove_23 (by decide) ?_
    exact xk_zret rfl (by rfl) dX1_isAbove_27 (Nat.le_refl _) (Nat.le_refl _) ⟨by first | rw [xd_t (by omega)] | rw [xd_f (by omega)], rfl⟩

set_option maxHeartbeats 4000000 in
set_option maxRecDepth 100000 in
/-- the loop of Euclid's steps -/
theorem l_X1_commonDivisor (d : Nat) {hs : xk_H} : ∀ (n a b f : Nat) (o0 o2 o9 : Option Value), a < 2 ^ 62 → b < 2 ^ 62 → f + n = 100 → xk_P d mX1_commonDivisor [] hs (some (.long (lN (eu n a b)))) hs 9 [o0, none, o2, none, some (.long (lN a)), none, some (.long (lN b)), none, some (.int (nI f)), o9, none] [] hs := by
  intro n
  induction n with
  | zero =>
    intro a b f o0 o2 o9 ha hb hfn
    refine xk_iload dX1_commonDivisor_9 rfl ?_
    refine xk_bipush (100) dX1_commonDivisor_11 (by decide) ?_
    refine xk_icmp_ge 44 dX1_commonDivisor_13 (by decide) (fun c13 => ?_) (fun c13 => ?_)
    · refine xk_lload dX1_commonDivisor_44 rfl ?_
      exact xk_lret rfl dX1_commonDivisor_46 (Nat.le_refl _) (Nat.le_refl _) ⟨rfl, rfl⟩
    · exact absurd ((nI_leI (by decide) (by omega)).mpr (by omega : 100 ≤ f)) c13
  | succ n ih =>
    intro a b f o0 o2 o9 ha hb hfn
    refine xk_iload dX1_commonDivisor_9 rfl ?_
    refine xk_bipush (100) dX1_commonDivisor_11 (by decide) ?_
    refine xk_icmp_ge 44 dX1_commonDivisor_13 (by decide) (fun c13 => ?_) (fun c13 => ?_)
    · exact absurd ((nI_leI (a := 100) (b := f) (by decide) (by omega)).mp c13) (by omega)
    · refine xk_lload dX1_commonDivisor_16 rfl ?_
      refine xk_lconst (0) dX1_commonDivisor_18 (by decide) ?_
      refine xk_lcmp dX1_commonDivisor_19 ?_
      refine xk_if_eq 44 dX1_commonDivisor_20 (by decide) (fun c20 => ?_) (fun c20 => ?_)
      · have hb0 : b = 0 := (lc_eq (b := 0) (by omega) (by decide)).mp c20
        subst hb0
        refine xk_lload dX1_commonDivisor_44 rfl ?_
        exact xk_lret rfl dX1_commonDivisor_46 (Nat.le_refl _) (Nat.le_refl _) ⟨by rw [eu_0], rfl⟩
      · have hb0 : ¬ b = 0 := fun q => c20 ((lc_eq (b := 0) (by omega) (by decide)).mpr q)
        refine xk_lload dX1_commonDivisor_23 rfl ?_
        refine xk_lload dX1_commonDivisor_25 rfl ?_
        refine xk_lrem dX1_commonDivisor_27 (fun q => hb0 ((pk_lEQ (by omega) (by decide)).mp q)) ?_
        rw [pk_lRem (by omega) (by omega) (by omega)]
        refine xk_lstore dX1_commonDivisor_28 (by decide) ?_
        dsimp only [xk_s1, xk_s2, xk_kill]
        refine xk_lload dX1_commonDivisor_30 rfl ?_
        refine xk_lstore dX1_commonDivisor_32 (by decide) ?_
        dsimp only [xk_s1, xk_s2, xk_kill]
        refine xk_lload dX1_commonDivisor_34 rfl ?_
        refine xk_lstore dX1_commonDivisor_36 (by decide) ?_
        dsimp only [xk_s1, xk_s2, xk_kill]
        refine xk_iinc (nI (f + 1)) dX1_commonDivisor_38 rfl (nI_1 f) (by decide) ?_
        dsimp only [xk_s1, xk_s2, xk_kill]
        refine xk_goto 9 dX1_commonDivisor_41 (by decide) ?_
        rw [show eu (n + 1) a b = eu n b (a % b) by rw [eu, if_neg hb0]]
        exact ih b (a % b) (f + 1) _ _ _ hb (Nat.lt_trans (Nat.mod_lt _ (Nat.pos_of_ne_zero hb0)) hb) (by omega)

set_option maxHeartbeats 4000000 in
set_option maxRecDepth 100000 in
theorem y_X1_commonDivisor (d : Nat) {a b : Nat} {hs : xk_H} (ha : a < 1099511627776) (hb : b < 1099511627776) : xk_F d mX1_commonDivisor [.long (lN a), .long (lN b)] hs (some (.long (lN (Nat.gcd a b)))) hs := by
  refine xk_Y.ofX (k := 7) (ls := [some (.long (lN a)), none, some (.long (lN b)), none, none, none, none, none, none, none, none]) (by decide) rfl rfl ?_
  refine xk_lload_n dX1_commonDivisor_0 rfl ?_
  refine xk_lstore dX1_commonDivisor_1 (by decide) ?_
  dsimp only [xk_s1, xk_s2, xk_kill]
  refine xk_lload_n dX1_commonDivisor_3 rfl ?_
  refine xk_lstore dX1_commonDivisor_4 (by decide) ?_
  dsimp only [xk_s1, xk_s2, xk_kill]
  refine xk_iconst (0) dX1_commonDivisor_6 (by decide) ?_
  refine xk_istore dX1_commonDivisor_7 (by decide) ?_
  dsimp only [xk_s1, xk_s2, xk_kill]
  rw [← eu_100 (a := a) (b := b) (by omega)]
  exact l_X1_commonDivisor d 100 a b 0 _ _ _ (by omega) (by omega) rfl

