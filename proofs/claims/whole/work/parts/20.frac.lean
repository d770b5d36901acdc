/-! Fraction: contracts. Laid by a program of our own. -/
set_option maxHeartbeats 4000000 in
set_option maxRecDepth 100000 in
theorem y_X1_of (d : Nat) {p q : Nat} {hs : xk_H} (hp : p < 2147483648) (hq : q < 4294967296) : xk_F d mX1_of [.long (lN p), .long (lN q)] hs (some (.long (fr p q))) hs := by
  refine xk_Y.ofX (k := 0) (ls := [some (.long (lN p)), none, some (.long (lN q)), none]) (by decide) rfl rfl ?_
  refine xk_lload_n dX1_of_0 rfl ?_
  refine xk_bipush (32) dX1_of_1 (by decide) ?_
  refine xk_lshl dX1_of_3 ?_
  refine xk_lload_n dX1_of_4 rfl ?_
  refine xk_lor dX1_of_5 ?_
  exact xk_lret rfl dX1_of_6 (Nat.le_refl _) (Nat.le_refl _) ⟨by rw [fr_of hp hq], rfl⟩

set_option maxHeartbeats 4000000 in
set_option maxRecDepth 100000 in
theorem y_X1_top (d : Nat) {p q : Nat} {hs : xk_H} (hp : p < 2147483648) (hq : q < 4294967296) : xk_F d mX1_top [.long (fr p q)] hs (some (.long (lN p))) hs := by
  refine xk_Y.ofX (k := 0) (ls := [some (.long (fr p q)), none]) (by decide) rfl rfl ?_
  refine xk_lload_n dX1_top_0 rfl ?_
  refine xk_bipush (32) dX1_top_1 (by decide) ?_
  refine xk_lushr dX1_top_3 ?_
  exact xk_lret rfl dX1_top_4 (Nat.le_refl _) (Nat.le_refl _) ⟨by rw [fr_top hp hq], rfl⟩

set_option maxHeartbeats 4000000 in
set_option maxRecDepth 100000 in
theorem y_X1_bottom (d : Nat) {p q : Nat} {hs : xk_H} (hp : p < 2147483648) (hq : q < 4294967296) : xk_F d mX1_bottom [.long (fr p q)] hs (some (.long (lN q))) hs := by
  refine xk_Y.ofX (k := 0) (ls := [some (.long (fr p q)), none]) (by decide) rfl rfl ?_
  refine xk_lload_n dX1_bottom_0 rfl ?_
  refine xk_ldc2 dX1_bottom_1 wk_X1_7 ?_
  refine xk_land dX1_bottom_4 ?_
  exact xk_lret rfl dX1_bottom_5 (Nat.le_refl _) (Nat.le_refl _) ⟨by rw [fr_bot hp hq], rfl⟩

set_option maxHeartbeats 4000000 in
set_option maxRecDepth 100000 in
theorem y_X1_times (d : Nat) {p q r s : Nat} {hs : xk_H} (hp : p < 2147483648) (hq : q < 2147483648) (hr : r < 2147483648) (hs2 : s < 2147483648) (hpr : p * r < 2147483648) (hqs : q * s < 2147483648) : xk_F (d + 1) mX1_times [.long (fr p q), .long (fr r s)] hs (some (.long (fr (p * r) (q * s)))) hs := by
  refine xk_Y.ofX (k := 0) (ls := [some (.long (fr p q)), none, some (.long (fr r s)), none]) (by decide) rfl rfl ?_
  refine xk_lload_n dX1_times_0 rfl ?_
  refine xk_s1c (M' := mX1_top) (d' := d) dX1_times_1 wm_X1_9 cv_X1_top wt_X1_top (by omega) (Nat.le_refl _) (Nat.le_refl _) (Nat.le_of_ble_eq_true rfl) (y_X1_top d (by omega) (by omega)) rfl ?_
  refine xk_lload_n dX1_times_4 rfl ?_
  refine xk_s1c (M' := mX1_top) (d' := d) dX1_times_5 wm_X1_9 cv_X1_top wt_X1_top (by omega) (Nat.le_refl _) (Nat.le_refl _) (Nat.le_of_ble_eq_true rfl) (y_X1_top d (by omega) (by omega)) rfl ?_
  refine xk_lmul dX1_times_8 ?_
  rw [lN_mul]
  refine xk_lload_n dX1_times_9 rfl ?_
  refine xk_s1c (M' := mX1_bottom) (d' := d) dX1_times_10 wm_X1_15 cv_X1_bottom wt_X1_bottom (by omega) (Nat.le_refl _) (Nat.le_refl _) (Nat.le_of_ble_eq_true rfl) (y_X1_bottom d (by omega) (by omega)) rfl ?_
  refine xk_lload_n dX1_times_13 rfl ?_
  refine xk_s1c (M' := mX1_bottom) (d' := d) dX1_times_14 wm_X1_15 cv_X1_bottom wt_X1_bottom (by omega) (Nat.le_refl _) (Nat.le_refl _) (Nat.le_of_ble_eq_true rfl) (y_X1_bottom d (by omega) (by omega)) rfl ?_
  refine xk_lmul dX1_times_17 ?_
  rw [lN_mul]
  refine xk_s2c (M' := mX1_of) (d' := d) dX1_times_18 wm_X1_18 cv_X1_of wt_X1_of (by omega) (Nat.le_refl _) (Nat.le_refl _) (Nat.le_of_ble_eq_true rfl) (y_X1_of d hpr (by omega)) rfl ?_
  exact xk_lret rfl dX1_times_21 (Nat.le_refl _) (Nat.le_refl _) ⟨rfl, rfl⟩

set_option maxHeartbeats 4000000 in
set_option maxRecDepth 100000 in
theorem y_X1_inverse (d : Nat) {p q : Nat} {hs : xk_H} (hp : p < 2147483648) (hq : q < 2147483648) : xk_F (d + 1) mX1_inverse [.long (fr p q)] hs (some (.long (fr q p))) hs := by
  refine xk_Y.ofX (k := 0) (ls := [some (.long (fr p q)), none]) (by decide) rfl rfl ?_
  refine xk_lload_n dX1_inverse_0 rfl ?_
  refine xk_s1c (M' := mX1_bottom) (d' := d) dX1_inverse_1 wm_X1_15 cv_X1_bottom wt_X1_bottom (by omega) (Nat.le_refl _) (Nat.le_refl _) (Nat.le_of_ble_eq_true rfl) (y_X1_bottom d (by omega) (by omega)) rfl ?_
  refine xk_lload_n dX1_inverse_4 rfl ?_
  refine xk_s1c (M' := mX1_top) (d' := d) dX1_inverse_5 wm_X1_9 cv_X1_top wt_X1_top (by omega) (Nat.le_refl _) (Nat.le_refl _) (Nat.le_of_ble_eq_true rfl) (y_X1_top d (by omega) (by omega)) rfl ?_
  refine xk_s2c (M' := mX1_of) (d' := d) dX1_inverse_8 wm_X1_18 cv_X1_of wt_X1_of (by omega) (Nat.le_refl _) (Nat.le_refl _) (Nat.le_of_ble_eq_true rfl) (y_X1_of d (by omega) (by omega)) rfl ?_
  exact xk_lret rfl dX1_inverse_11 (Nat.le_refl _) (Nat.le_refl _) ⟨rfl, rfl⟩

set_option maxHeartbeats 4000000 in
set_option maxRecDepth 100000 in
theorem y_X1_isAbove (d : Nat) {p q r s : Nat} {hs : xk_H} (hp : p < 2147483648) (hq : q < 2147483648) (hr : r < 2147483648) (hs2 : s < 2147483648) : xk_F (d + 1) mX1_isAbove [.long (fr p q), .long (fr r s)] hs (some (.int (xk_b (decide (r * q < p * s))))) hs := by
  have h1 : p * s < 2 ^ 63 := Nat.lt_of_le_of_lt (Nat.mul_le_mul (Nat.le_of_lt hp) (Nat.le_of_lt hs2)) (by decide)
  have h2 : r * q < 2 ^ 63 := Nat.lt_of_le_of_lt (Nat.mul_le_mul (Nat.le_of_lt hr) (Nat.le_of_lt hq)) (by decide)
  refine xk_Y.ofX (k := 0) (ls := [some (.long (fr p q)), none, some (.long (fr r s)), none]) (by decide) rfl rfl ?_
  refine xk_lload_n dX1_isAbove_0 rfl ?_
  refine xk_s1c (M' := mX1_top) (d' := d) dX1_isAbove_1 wm_X1_9 cv_X1_top wt_X1_top (by omega) (Nat.le_refl _) (Nat.le_refl _) (Nat.le_of_ble_eq_true rfl) (y_X1_top d (by omega) (by omega)) rfl ?_
  refine xk_lload_n dX1_isAbove_4 rfl ?_
  refine xk_s1c (M' := mX1_bottom) (d' := d) dX1_isAbove_5 wm_X1_15 cv_X1_bottom wt_X1_bottom (by omega) (Nat.le_refl _) (Nat.le_refl _) (Nat.le_of_ble_eq_true rfl) (y_X1_bottom d (by omega) (by omega)) rfl ?_
  refine xk_lmul dX1_isAbove_8 ?_
  rw [lN_mul]
  refine xk_lload_n dX1_isAbove_9 rfl ?_
  refine xk_s1c (M' := mX1_top) (d' := d) dX1_isAbove_10 wm_X1_9 cv_X1_top wt_X1_top (by omega) (Nat.le_refl _) (Nat.le_refl _) (Nat.le_of_ble_eq_true rfl) (y_X1_top d (by omega) (by omega)) rfl ?_
  refine xk_lload_n dX1_isAbove_13 rfl ?_
  refine xk_s1c (M' := mX1_bottom) (d' := d) dX1_isAbove_14 wm_X1_15 cv_X1_bottom wt_X1_bottom (by omega) (Nat.le_refl _) (Nat.le_refl _) (Nat.le_of_ble_eq_true rfl) (y_X1_bottom d (by omega) (by omega)) rfl ?_
  refine xk_lmul dX1_isAbove_17 ?_
  rw [lN_mul]
  refine xk_lcmp dX1_isAbove_18 ?_
  refine xk_if_le 26 dX1_isAbove_19 (by decide) (fun c19 => ?_) (fun c19 => ?_)
  · rw [lc_le h1 h2] at c19
    refine xk_iconst (0) dX1_isAbove_26 (by decide) ?_
    exact xk_zret rfl (by rfl) dX1_isAbove_27 (Nat.le_refl _) (Nat.le_refl _) ⟨by first | rw [xd_t (by omega)] | rw [xd_f (by omega)], rfl⟩
  · rw [lc_le h1 h2] at c19
    refine xk_iconst (1) dX1_isAbove_22 (by decide) ?_
    refine xk_goto 27 dX1_isAbove_23 (by decide) ?_
    exact xk_zret rfl (by rfl) dX1_isAbove_27 (Nat.le_refl _) (Nat.le_refl _) ⟨by first | rw [xd_t (by omega)] | rw [xd_f (by omega)], rfl⟩

set_option maxHeartbeats 4000000 in
set_option maxRecDepth 100000 in
/-- the loop of Euclid's steps -/
theorem l_X1_commonDivisor (d : Nat) {hs : xk_H} : ∀ (n a b f : Nat) (o0 o2 o9 : Option Value), a < 2 ^ 62 → b < 2 ^ 62 → f + n = 100 → xk_P d mX1_commonDivisor [] hs (some (.long (lN (eu n a b)))) hs 9 [o0, none, o2, none, some (.long (lN a)), none, some (.long (lN b)), none, some (.int (nI f)), o9, none] [] hs := by
  intro n
  induction n with
  | zero =>
    intro a b f o0 o2 o9 ha hb hfn
    refine xk_iload dX1_commonDivisor_9 rfl ?_
    refine xk_bipush (100) dX1_commonDivisor_11 (by decide) ?_
    refine xk_icmp_ge 44 dX1_commonDivisor_13 (by decide) (fun c13 => ?_) (fun c13 => ?_)
    · refine xk_lload dX1_commonDivisor_44 rfl ?_
      exact xk_lret rfl dX1_commonDivisor_46 (Nat.le_refl _) (Nat.le_refl _) ⟨rfl, rfl⟩
    · exact absurd ((nI_leI (by decide) (by omega)).mpr (by omega : 100 ≤ f)) c13
  | succ n ih =>
    intro a b f o0 o2 o9 ha hb hfn
    refine xk_iload dX1_commonDivisor_9 rfl ?_
    refine xk_bipush (100) dX1_commonDivisor_11 (by decide) ?_
    refine xk_icmp_ge 44 dX1_commonDivisor_13 (by decide) (fun c13 => ?_) (fun c13 => ?_)
    · exact absurd ((nI_leI (a := 100) (b := f) (by decide) (by omega)).mp c13) (by omega)
    · refine xk_lload dX1_commonDivisor_16 rfl ?_
      refine xk_lconst (0) dX1_commonDivisor_18 (by decide) ?_
      refine xk_lcmp dX1_commonDivisor_19 ?_
      refine xk_if_eq 44 dX1_commonDivisor_20 (by decide) (fun c20 => ?_) (fun c20 => ?_)
      · have hb0 : b = 0 := (lc_eq (b := 0) (by omega) (by decide)).mp c20
        subst hb0
        refine xk_lload dX1_commonDivisor_44 rfl ?_
        exact xk_lret rfl dX1_commonDivisor_46 (Nat.le_refl _) (Nat.le_refl _) ⟨by rw [eu_0], rfl⟩
      · have hb0 : ¬ b = 0 := fun q => c20 ((lc_eq (b := 0) (by omega) (by decide)).mpr q)
        refine xk_lload dX1_commonDivisor_23 rfl ?_
        refine xk_lload dX1_commonDivisor_25 rfl ?_
        refine xk_lrem dX1_commonDivisor_27 (fun q => hb0 ((pk_lEQ (by omega) (by decide)).mp q)) ?_
        rw [pk_lRem (by omega) (by omega) (by omega)]
        refine xk_lstore dX1_commonDivisor_28 (by decide) ?_
        dsimp only [xk_s1, xk_s2, xk_kill]
        refine xk_lload dX1_commonDivisor_30 rfl ?_
        refine xk_lstore dX1_commonDivisor_32 (by decide) ?_
        dsimp only [xk_s1, xk_s2, xk_kill]
        refine xk_lload dX1_commonDivisor_34 rfl ?_
        refine xk_lstore dX1_commonDivisor_36 (by decide) ?_
        dsimp only [xk_s1, xk_s2, xk_kill]
        refine xk_iinc (nI (f + 1)) dX1_commonDivisor_38 rfl (nI_1 f) (by decide) ?_
        dsimp only [xk_s1, xk_s2, xk_kill]
        refine xk_goto 9 dX1_commonDivisor_41 (by decide) ?_
        rw [show eu (n + 1) a b = eu n b (a % b) by rw [eu, if_neg hb0]]
        exact ih b (a % b) (f + 1) _ _ _ hb (Nat.lt_trans (Nat.mod_lt _ (Nat.pos_of_ne_zero hb0)) hb) (by omega)

set_option maxHeartbeats 4000000 in
set_option maxRecDepth 100000 in
theorem y_X1_commonDivisor (d : Nat) {a b : Nat} {hs : xk_H} (ha : a < 1099511627776) (hb : b < 1099511627776) : xk_F d mX1_commonDivisor [.long (lN a), .long (lN b)] hs (some (.long (lN (Nat.gcd a b)))) hs := by
  refine xk_Y.ofX (k := 7) (ls := [some (.long (lN a)), none, some (.long (lN b)), none, none, none, none, none, none, none, none]) (by decide) rfl rfl ?_
  refine xk_lload_n dX1_commonDivisor_0 rfl ?_
  refine xk_lstore dX1_commonDivisor_1 (by decide) ?_
  dsimp only [xk_s1, xk_s2, xk_kill]
  refine xk_lload_n dX1_commonDivisor_3 rfl ?_
  refine xk_lstore dX1_commonDivisor_4 (by decide) ?_
  dsimp only [xk_s1, xk_s2, xk_kill]
  refine xk_iconst (0) dX1_commonDivisor_6 (by decide) ?_
  refine xk_istore dX1_commonDivisor_7 (by decide) ?_
  dsimp only [xk_s1, xk_s2, xk_kill]
  rw [← eu_100 (a := a) (b := b) (by omega)]
  exact l_X1_commonDivisor d 100 a b 0 _ _ _ (by omega) (by omega) rfl

set_option maxHeartbeats 4000000 in
set_option maxRecDepth 100000 in
/-- part: a fraction's top or bottom in lowest terms -/
theorem y_X1_part (d : Nat) {p q : Nat} {w : Int32} {hs : xk_H} (hp : p < 2147483648) (hq : q < 2147483648) : xk_F (d + 1) mX1_part [.long (fr p q), .int w] hs (some (.int (nI (if w = 0 then lowT p q else lowB p q)))) hs := by
  have hgp : Nat.gcd p q ≤ p ∨ Nat.gcd p q ≤ q := by
    by_cases h0 : p = 0
    · right; rw [h0, Nat.gcd_zero_left]; exact Nat.le_refl _
    · left; exact Nat.gcd_le_left q (Nat.pos_of_ne_zero h0)
  have j15 : ∀ (x : Nat), x = (if w = 0 then p else q) → xk_P (d + 1) mX1_part [.long (fr p q), .int w] hs (some (.int (nI (if w = 0 then lowT p q else lowB p q)))) hs 15 [some (.long (fr p q)), none, some (.int w), none, none, none, none] [.long (lN x)] hs := by
    intro x hx
    have hxb : x < 2147483648 := by rw [hx]; split <;> assumption
    have hg1 : 1 < Nat.gcd p q → nI (x / Nat.gcd p q) = nI (if w = 0 then lowT p q else lowB p q) := fun _ => by
      rw [hx]; unfold lowT lowB; split <;> rfl
    have hg0 : Nat.gcd p q ≤ 1 → nI x = nI (if w = 0 then lowT p q else lowB p q) := fun h => by
      rw [hx]; unfold lowT lowB
      rcases Nat.lt_or_ge 0 (Nat.gcd p q) with h1 | h1
      · rw [show Nat.gcd p q = 1 by omega, Nat.div_one, Nat.div_one]
      · have h0 := Nat.gcd_eq_zero_iff.mp (show Nat.gcd p q = 0 by omega)
        rw [h0.1, h0.2]; simp
    refine xk_lstore_n dX1_part_15 (by decide) ?_
    dsimp only [xk_s1, xk_s2, xk_kill]
    refine xk_lload_n dX1_part_16 rfl ?_
    refine xk_s1c (M' := mX1_top) (d' := d) dX1_part_17 wm_X1_9 cv_X1_top wt_X1_top (by omega) (Nat.le_refl _) (Nat.le_refl _) (Nat.le_of_ble_eq_true rfl) (y_X1_top d (by omega) (by omega)) rfl ?_
    refine xk_lload_n dX1_part_20 rfl ?_
    refine xk_s1c (M' := mX1_bottom) (d' := d) dX1_part_21 wm_X1_15 cv_X1_bottom wt_X1_bottom (by omega) (Nat.le_refl _) (Nat.le_refl _) (Nat.le_of_ble_eq_true rfl) (y_X1_bottom d (by omega) (by omega)) rfl ?_
    refine xk_s2c (M' := mX1_commonDivisor) (d' := d) dX1_part_24 wm_X1_22 cv_X1_commonDivisor wt_X1_commonDivisor (by omega) (Nat.le_refl _) (Nat.le_refl _) (Nat.le_of_ble_eq_true rfl) (y_X1_commonDivisor d (by omega) (by omega)) rfl ?_
    refine xk_lstore dX1_part_27 (by decide) ?_
    dsimp only [xk_s1, xk_s2, xk_kill]
    refine xk_lload dX1_part_29 rfl ?_
    refine xk_lconst (1) dX1_part_31 (by decide) ?_
    refine xk_lcmp dX1_part_32 ?_
    refine xk_if_le 43 dX1_part_33 (by decide) (fun c33 => ?_) (fun c33 => ?_)
    · have c33 := (lc_le (a := Nat.gcd p q) (b := 1) (by omega) (by decide)).mp c33
      refine xk_lload_n dX1_part_43 rfl ?_
      refine xk_l2i dX1_part_44 ?_
      exact xk_iret rfl dX1_part_45 (Nat.le_refl _) (Nat.le_refl _) ⟨by rw [lN_i]; first | rw [hg1 (by omega)] | rw [hg0 (by omega)], rfl⟩
    · have c33 : ¬ Nat.gcd p q ≤ 1 := fun z => c33 ((lc_le (a := Nat.gcd p q) (b := 1) (by omega) (by decide)).mpr z)
      refine xk_lload_n dX1_part_36 rfl ?_
      refine xk_lload dX1_part_37 rfl ?_
      refine xk_ldiv dX1_part_39 (fun z => absurd ((pk_lEQ (b := 0) (by omega) (by decide)).mp z) (by omega)) ?_
      rw [pk_lDiv (by omega) (by omega) (by omega)]
      refine xk_goto 44 dX1_part_40 (by decide) ?_
      refine xk_l2i dX1_part_44 ?_
      exact xk_iret rfl dX1_part_45 (Nat.le_refl _) (Nat.le_refl _) ⟨by rw [lN_i]; first | rw [hg1 (by omega)] | rw [hg0 (by omega)], rfl⟩
  refine xk_Y.ofX (k := 4) (ls := [some (.long (fr p q)), none, some (.int w), none, none, none, none]) (by decide) rfl rfl ?_
  refine xk_iload_n dX1_part_0 rfl ?_
  refine xk_if_ne 11 dX1_part_1 (by decide) (fun c1 => ?_) (fun c1 => ?_)
  · refine xk_lload_n dX1_part_11 rfl ?_
    refine xk_s1c (M' := mX1_bottom) (d' := d) dX1_part_12 wm_X1_15 cv_X1_bottom wt_X1_bottom (by omega) (Nat.le_refl _) (Nat.le_refl _) (Nat.le_of_ble_eq_true rfl) (y_X1_bottom d (by omega) (by omega)) rfl ?_
    exact j15 _ (by simp [c1])
  · refine xk_lload_n dX1_part_4 rfl ?_
    refine xk_s1c (M' := mX1_top) (d' := d) dX1_part_5 wm_X1_9 cv_X1_top wt_X1_top (by omega) (Nat.le_refl _) (Nat.le_refl _) (Nat.le_of_ble_eq_true rfl) (y_X1_top d (by omega) (by omega)) rfl ?_
    refine xk_goto 15 dX1_part_8 (by decide) ?_
    exact j15 _ (by simp [c1])

set_option maxHeartbeats 4000000 in
set_option maxRecDepth 100000 in
theorem y_J6_bitCount (d : Nat) {x : Int32} {hs : xk_H} : xk_F d mJ6_bitCount_0f7a4 [.int x] hs (some (.int (bitc x))) hs := by
  refine xk_Y.ofX (k := 0) (ls := [some (.int x)]) (by decide) rfl rfl ?_
  refine xk_iload_n dJ6_bitCount_0f7a4_0 rfl ?_
  refine xk_iload_n dJ6_bitCount_0f7a4_1 rfl ?_
  refine xk_iconst (1) dJ6_bitCount_0f7a4_2 (by decide) ?_
  refine xk_iushr dJ6_bitCount_0f7a4_3 ?_
  refine xk_ldcw dJ6_bitCount_0f7a4_4 wk_J6_265 ?_
  refine xk_iand dJ6_bitCount_0f7a4_7 ?_
  refine xk_isub dJ6_bitCount_0f7a4_8 ?_
  refine xk_istore_n dJ6_bitCount_0f7a4_9 (by decide) ?_
  dsimp only [xk_s1, xk_s2, xk_kill]
  refine xk_iload_n dJ6_bitCount_0f7a4_10 rfl ?_
  refine xk_ldcw dJ6_bitCount_0f7a4_11 wk_J6_266 ?_
  refine xk_iand dJ6_bitCount_0f7a4_14 ?_
  refine xk_iload_n dJ6_bitCount_0f7a4_15 rfl ?_
  refine xk_iconst (2) dJ6_bitCount_0f7a4_16 (by decide) ?_
  refine xk_iushr dJ6_bitCount_0f7a4_17 ?_
  refine xk_ldcw dJ6_bitCount_0f7a4_18 wk_J6_266 ?_
  refine xk_iand dJ6_bitCount_0f7a4_21 ?_
  refine xk_iadd dJ6_bitCount_0f7a4_22 ?_
  refine xk_istore_n dJ6_bitCount_0f7a4_23 (by decide) ?_
  dsimp only [xk_s1, xk_s2, xk_kill]
  refine xk_iload_n dJ6_bitCount_0f7a4_24 rfl ?_
  refine xk_iload_n dJ6_bitCount_0f7a4_25 rfl ?_
  refine xk_iconst (4) dJ6_bitCount_0f7a4_26 (by decide) ?_
  refine xk_iushr dJ6_bitCount_0f7a4_27 ?_
  refine xk_iadd dJ6_bitCount_0f7a4_28 ?_
  refine xk_ldcw dJ6_bitCount_0f7a4_29 wk_J6_267 ?_
  refine xk_iand dJ6_bitCount_0f7a4_32 ?_
  refine xk_istore_n dJ6_bitCount_0f7a4_33 (by decide) ?_
  dsimp only [xk_s1, xk_s2, xk_kill]
  refine xk_iload_n dJ6_bitCount_0f7a4_34 rfl ?_
  refine xk_iload_n dJ6_bitCount_0f7a4_35 rfl ?_
  refine xk_bipush (8) dJ6_bitCount_0f7a4_36 (by decide) ?_
  refine xk_iushr dJ6_bitCount_0f7a4_38 ?_
  refine xk_iadd dJ6_bitCount_0f7a4_39 ?_
  refine xk_istore_n dJ6_bitCount_0f7a4_40 (by decide) ?_
  dsimp only [xk_s1, xk_s2, xk_kill]
  refine xk_iload_n dJ6_bitCount_0f7a4_41 rfl ?_
  refine xk_iload_n dJ6_bitCount_0f7a4_42 rfl ?_
  refine xk_bipush (16) dJ6_bitCount_0f7a4_43 (by decide) ?_
  refine xk_iushr dJ6_bitCount_0f7a4_45 ?_
  refine xk_iadd dJ6_bitCount_0f7a4_46 ?_
  refine xk_istore_n dJ6_bitCount_0f7a4_47 (by decide) ?_
  dsimp only [xk_s1, xk_s2, xk_kill]
  refine xk_iload_n dJ6_bitCount_0f7a4_48 rfl ?_
  refine xk_bipush (63) dJ6_bitCount_0f7a4_49 (by decide) ?_
  refine xk_iand dJ6_bitCount_0f7a4_51 ?_
  exact xk_iret rfl dJ6_bitCount_0f7a4_52 (Nat.le_refl _) (Nat.le_refl _) ⟨rfl, rfl⟩

set_option maxHeartbeats 4000000 in
set_option maxRecDepth 100000 in
/-- the loop of Arrays.fill -/
theorem l_J7_fill (d : Nat) {hs : xk_H} {a n : Nat} {v : Int64} {f : Nat → Int64} (hn : n < 2147483648) (he : hs[a]? = some (.inl (1, n, .inr (.inl f)))) : ∀ (m i : Nat), i + m = n → xk_P d mJ7_fill_d0a16 [] hs none (hs.set a (.inl (1, n, .inr (.inl (fillF f n v))))) 6 [some (.ref a), some (.long v), none, some (.int (nI i)), some (.int (nI n))] [] (hs.set a (.inl (1, n, .inr (.inl (fillF f i v))))) := by
  intro m
  induction m with
  | zero =>
    intro i hi
    obtain rfl : i = n := by omega
    refine xk_iload_n dJ7_fill_d0a16_6 rfl ?_
    refine xk_iload dJ7_fill_d0a16_7 rfl ?_
    refine xk_icmp_ge 22 dJ7_fill_d0a16_9 (by decide) (fun c9 => ?_) (fun c9 => ?_)
    · exact xk_vret rfl dJ7_fill_d0a16_22 (Nat.le_refl _) (Nat.le_refl _) ⟨rfl, rfl⟩
    · exact absurd (nI_le (Nat.le_refl i) hn) c9
  | succ m ih =>
    intro i hi
    refine xk_iload_n dJ7_fill_d0a16_6 rfl ?_
    refine xk_iload dJ7_fill_d0a16_7 rfl ?_
    refine xk_icmp_ge 22 dJ7_fill_d0a16_9 (by decide) (fun c9 => ?_) (fun c9 => ?_)
    · exact absurd c9 (nI_ge (by omega) hn)
    · refine xk_aload_n dJ7_fill_d0a16_12 rfl ?_
      refine xk_iload_n dJ7_fill_d0a16_13 rfl ?_
      refine xk_lload_n dJ7_fill_d0a16_14 rfl ?_
      refine xk_last dJ7_fill_d0a16_15 (xs_at he) (vp_in_nI (by omega) hn) ?_
      rw [nI_clamp (by omega), fillF_s, List.set_set]
      refine xk_iinc (nI (i + 1)) dJ7_fill_d0a16_16 rfl (nI_1 i) (by decide) ?_
      dsimp only [xk_s1, xk_s2, xk_kill]
      refine xk_goto 6 dJ7_fill_d0a16_19 (by decide) ?_
      exact ih (i + 1) (by omega)

set_option maxHeartbeats 4000000 in
set_option maxRecDepth 100000 in
theorem y_J7_fill (d : Nat) {hs : xk_H} {a n : Nat} {v : Int64} {f : Nat → Int64} (hn : n < 2147483648) (he : hs[a]? = some (.inl (1, n, .inr (.inl f)))) : xk_F d mJ7_fill_d0a16 [.ref a, .long v] hs none (hs.set a (.inl (1, n, .inr (.inl (fillF f n v))))) := by
  refine xk_Y.ofX (k := 2) (ls := [some (.ref a), some (.long v), none, none, none]) (by decide) rfl rfl ?_
  refine xk_iconst (0) dJ7_fill_d0a16_0 (by decide) ?_
  refine xk_istore_n dJ7_fill_d0a16_1 (by decide) ?_
  dsimp only [xk_s1, xk_s2, xk_kill]
  refine xk_aload_n dJ7_fill_d0a16_2 rfl ?_
  refine xk_alen dJ7_fill_d0a16_3 he (by decide) rfl ?_
  refine xk_istore dJ7_fill_d0a16_4 (by decide) ?_
  dsimp only [xk_s1, xk_s2, xk_kill]
  have h := l_J7_fill d (v := v) hn he n 0 (by omega)
  rw [fillF_0, xs_same he] at h
  exact h

