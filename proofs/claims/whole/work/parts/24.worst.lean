/-! WorstThree: contracts. Laid by a program of our own. -/
set_option maxHeartbeats 4000000 in
set_option maxRecDepth 100000 in
theorem y_X7_offOf (d : Nat) {hs : xk_H} {t n fl : Nat} {w : tbW} {a b c : Nat} (hn : n ≤ 6) (hT : tbA hs t n w fl) (ho : tbOK n w) (ha : a < n) (hb : b < n) (hc : c < n) (hab : a ≠ b) (hbc : b ≠ c) (hac : a ≠ c) : xk_F (d + 3) mX7_offOf [.ref t, .int (nI a), .int (nI b), .int (nI c)] hs (some (.long (fr (offW w a b c).1 (offW w a b c).2))) hs := by
  have b1 := ho.lt ha hb
  have b2 := ho.lt hb hc
  have b3 := ho.lt hc ha
  have p1 : (w a b).1 * (w b c).1 ≤ 81 := mul_le9 b1.1 b2.1
  have p2 : (w a b).2 * (w b c).2 ≤ 81 := mul_le9 b1.2.1 b2.2.1
  have p3 : (w a b).1 * (w b c).1 * (w c a).1 ≤ 729 := mul_le9 p1 b3.1
  have p4 : (w a b).2 * (w b c).2 * (w c a).2 ≤ 729 := mul_le9 p2 b3.2.1
  have e1 := tHas_N (w := w) hn ha hb hab
  have e2 := tHas_N (w := w) hn hb hc hbc
  have e3 := tHas_N (w := w) hn hc ha (Ne.symm hac)
  have f1 := tLow_nI (w := w) hn ha hb hab
  have f2 := tLow_nI (w := w) hn hb hc hbc
  have f3 := tLow_nI (w := w) hn hc ha (Ne.symm hac)
  refine xk_Y.ofX (k := 2) (ls := [some (.ref t), some (.int (nI a)), some (.int (nI b)), some (.int (nI c)), none, none]) (by decide) rfl rfl ?_
  refine xk_aload_n dX7_offOf_0 rfl ?_
  refine xk_iload_n dX7_offOf_1 rfl ?_
  refine xk_iload_n dX7_offOf_2 rfl ?_
  refine xk_v2 (M' := mX5_holds) (d' := d + 2) (ci := 4) (r0 := (RX5, TX5, 3)) dX7_offOf_3 wm_X7_40 cv_X5_holds wi_X5_holds wl_X5_holds (by omega) (Nat.le_refl _) (Nat.le_refl _) rfl rfl hT.1 (Nat.le_of_ble_eq_true rfl) (y_X5_holds d hn hT ho) rfl ?_
  refine xk_ifb_eq 27 dX7_offOf_6 (by decide) (fun c6 => ?_) (fun c6 => ?_)
  · rw [e1] at c6
    refine xk_lconst (1) dX7_offOf_27 (by decide) ?_
    exact xk_lret rfl dX7_offOf_28 (Nat.le_refl _) (Nat.le_refl _) ⟨by simp [offW, *]; rfl, rfl⟩
  · rw [e1] at c6
    refine xk_aload_n dX7_offOf_9 rfl ?_
    refine xk_iload_n dX7_offOf_10 rfl ?_
    refine xk_iload_n dX7_offOf_11 rfl ?_
    refine xk_v2 (M' := mX5_holds) (d' := d + 2) (ci := 4) (r0 := (RX5, TX5, 3)) dX7_offOf_12 wm_X7_40 cv_X5_holds wi_X5_holds wl_X5_holds (by omega) (Nat.le_refl _) (Nat.le_refl _) rfl rfl hT.1 (Nat.le_of_ble_eq_true rfl) (y_X5_holds d hn hT ho) rfl ?_
    refine xk_ifb_eq 27 dX7_offOf_15 (by decide) (fun c15 => ?_) (fun c15 => ?_)
    · rw [e2] at c15
      refine xk_lconst (1) dX7_offOf_27 (by decide) ?_
      exact xk_lret rfl dX7_offOf_28 (Nat.le_refl _) (Nat.le_refl _) ⟨by simp [offW, *]; rfl, rfl⟩
    · rw [e2] at c15
      refine xk_aload_n dX7_offOf_18 rfl ?_
      refine xk_iload_n dX7_offOf_19 rfl ?_
      refine xk_iload_n dX7_offOf_20 rfl ?_
      refine xk_v2 (M' := mX5_holds) (d' := d + 2) (ci := 4) (r0 := (RX5, TX5, 3)) dX7_offOf_21 wm_X7_40 cv_X5_holds wi_X5_holds wl_X5_holds (by omega) (Nat.le_refl _) (Nat.le_refl _) rfl rfl hT.1 (Nat.le_of_ble_eq_true rfl) (y_X5_holds d hn hT ho) rfl ?_
      refine xk_ifb_ne 29 dX7_offOf_24 (by decide) (fun c24 => ?_) (fun c24 => ?_)
      · rw [e3] at c24
        refine xk_aload_n dX7_offOf_29 rfl ?_
        refine xk_iload_n dX7_offOf_30 rfl ?_
        refine xk_iload_n dX7_offOf_31 rfl ?_
        refine xk_v2 (M' := mX5_low) (d' := d + 2) (ci := 4) (r0 := (RX5, TX5, 3)) dX7_offOf_32 wm_X7_46 cv_X5_low wi_X5_low wl_X5_low (by omega) (Nat.le_refl _) (Nat.le_refl _) rfl rfl hT.1 (Nat.le_of_ble_eq_true rfl) (y_X5_low d hn hT) rfl ?_
        rw [f1]
        refine xk_aload_n dX7_offOf_35 rfl ?_
        refine xk_iload_n dX7_offOf_36 rfl ?_
        refine xk_iload_n dX7_offOf_37 rfl ?_
        refine xk_v2 (M' := mX5_low) (d' := d + 2) (ci := 4) (r0 := (RX5, TX5, 3)) dX7_offOf_38 wm_X7_46 cv_X5_low wi_X5_low wl_X5_low (by omega) (Nat.le_refl _) (Nat.le_refl _) rfl rfl hT.1 (Nat.le_of_ble_eq_true rfl) (y_X5_low d hn hT) rfl ?_
        rw [f2]
        refine xk_s2c (M' := mX1_times) (d' := (d + 1) + 1) dX7_offOf_41 wm_X7_50 cv_X1_times wt_X1_times (by omega) (Nat.le_refl _) (Nat.le_refl _) (Nat.le_of_ble_eq_true rfl) (y_X1_times (d + 1) (by omega) (by omega) (by omega) (by omega) (by omega) (by omega)) rfl ?_
        refine xk_lstore dX7_offOf_44 (by decide) ?_
        dsimp only [xk_s1, xk_s2, xk_kill]
        refine xk_lload dX7_offOf_46 rfl ?_
        refine xk_aload_n dX7_offOf_48 rfl ?_
        refine xk_iload_n dX7_offOf_49 rfl ?_
        refine xk_iload_n dX7_offOf_50 rfl ?_
        refine xk_v2 (M' := mX5_low) (d' := d + 2) (ci := 4) (r0 := (RX5, TX5, 3)) dX7_offOf_51 wm_X7_46 cv_X5_low wi_X5_low wl_X5_low (by omega) (Nat.le_refl _) (Nat.le_refl _) rfl rfl hT.1 (Nat.le_of_ble_eq_true rfl) (y_X5_low d hn hT) rfl ?_
        rw [f3]
        refine xk_s2c (M' := mX1_times) (d' := (d + 1) + 1) dX7_offOf_54 wm_X7_50 cv_X1_times wt_X1_times (by omega) (Nat.le_refl _) (Nat.le_refl _) (Nat.le_of_ble_eq_true rfl) (y_X1_times (d + 1) (by omega) (by omega) (by omega) (by omega) (by omega) (by omega)) rfl ?_
        refine xk_lstore dX7_offOf_57 (by decide) ?_
        dsimp only [xk_s1, xk_s2, xk_kill]
        refine xk_ldc2 dX7_offOf_59 wk_X7_54 ?_
        rw [show (4294967297 : Int64) = fr 1 1 from rfl]
        refine xk_lload dX7_offOf_62 rfl ?_
        refine xk_s2c (M' := mX1_isAbove) (d' := (d + 1) + 1) dX7_offOf_64 wm_X7_27 cv_X1_isAbove wt_X1_isAbove (by omega) (Nat.le_refl _) (Nat.le_refl _) (Nat.le_of_ble_eq_true rfl) (y_X1_isAbove (d + 1) (by omega) (by omega) (by omega) (by omega)) rfl ?_
        refine xk_ifb_eq 78 dX7_offOf_67 (by decide) (fun c67 => ?_) (fun c67 => ?_)
        · have c68 : ¬ (w a b).1 * (w b c).1 * (w c a).1 < (w a b).2 * (w b c).2 * (w c a).2 := by
            have := of_decide_eq_false c67
            omega
          refine xk_lload dX7_offOf_78 rfl ?_
          exact xk_lret rfl dX7_offOf_80 (Nat.le_refl _) (Nat.le_refl _) ⟨by simp [offW, mul2, *], rfl⟩
        · have c68 : (w a b).1 * (w b c).1 * (w c a).1 < (w a b).2 * (w b c).2 * (w c a).2 := by
            have := of_decide_eq_true c67
            omega
          refine xk_lload dX7_offOf_70 rfl ?_
          refine xk_s1c (M' := mX1_inverse) (d' := (d + 1) + 1) dX7_offOf_72 wm_X7_56 cv_X1_inverse wt_X1_inverse (by omega) (Nat.le_refl _) (Nat.le_refl _) (Nat.le_of_ble_eq_true rfl) (y_X1_inverse (d + 1) (by omega) (by omega)) rfl ?_
          refine xk_goto 80 dX7_offOf_75 (by decide) ?_
          exact xk_lret rfl dX7_offOf_80 (Nat.le_refl _) (Nat.le_refl _) ⟨by simp [offW, mul2, *], rfl⟩
      · rw [e3] at c24
        refine xk_lconst (1) dX7_offOf_27 (by decide) ?_
        exact xk_lret rfl dX7_offOf_28 (Nat.le_refl _) (Nat.le_refl _) ⟨by simp [offW, *]; rfl, rfl⟩

set_option maxHeartbeats 4000000 in
set_option maxRecDepth 100000 in
theorem y_X7_compare (d : Nat) {hs : xk_H} {t n fl : Nat} {w : tbW} {u : Nat} {s : woS} {a b c : Nat} (hn : n ≤ 6) (hT : tbA hs t n w fl) (ho : tbOK n w) (hu : hs[u]? = some (woO n s)) (hs2 : woB s) (ha : a < n) (hb : b < n) (hc : c < n) (hab : a ≠ b) (hbc : b ≠ c) (hac : a ≠ c) : xk_F (d + 4) mX7_compare [.ref u, .ref t, .int (nI a), .int (nI b), .int (nI c)] hs none (hs.set u (woO n (woC w a b c s))) := by
  have bb := offW_b ho ha hb hc (w := w)
  have hs1 := hs2.1
  have hs3 := hs2.2
  refine xk_Y.ofX (k := 2) (ls := [some (.ref u), some (.ref t), some (.int (nI a)), some (.int (nI b)), some (.int (nI c)), none, none]) (by decide) rfl rfl ?_
  refine xk_aload_n dX7_compare_0 rfl ?_
  refine xk_iload_n dX7_compare_1 rfl ?_
  refine xk_iload_n dX7_compare_2 rfl ?_
  refine xk_iload dX7_compare_3 rfl ?_
  refine xk_s4c (M' := mX7_offOf) (d' := d + 3) dX7_compare_5 wm_X7_23 cv_X7_offOf wt_X7_offOf (by omega) (Nat.le_refl _) (Nat.le_refl _) (Nat.le_of_ble_eq_true rfl) (y_X7_offOf d hn hT ho ha hb hc hab hbc hac) rfl ?_
  refine xk_lstore dX7_compare_8 (by decide) ?_
  dsimp only [xk_s1, xk_s2, xk_kill]
  refine xk_lload dX7_compare_10 rfl ?_
  refine xk_aload_n dX7_compare_12 rfl ?_
  refine xk_get (ci := 6) (r := (RX7, TX7, 5)) 4 dX7_compare_13 rfl inX7 (by decide) wf_X7_15 hu rfl ?_
  refine xk_s2c (M' := mX1_isAbove) (d' := (d + 2) + 1) dX7_compare_16 wm_X7_27 cv_X1_isAbove wt_X1_isAbove (by omega) (Nat.le_refl _) (Nat.le_refl _) (Nat.le_of_ble_eq_true rfl) (y_X1_isAbove (d + 2) (by omega) (by omega) (by omega) (by omega)) rfl ?_
  refine xk_ifb_eq 44 dX7_compare_19 (by decide) (fun c19 => ?_) (fun c19 => ?_)
  · have c20 := of_decide_eq_false c19
    exact xk_vret rfl dX7_compare_44 (Nat.le_refl _) (Nat.le_refl _) ⟨rfl, by first | (unfold woC; rw [if_pos c20]; rfl) | (unfold woC; rw [if_neg c20]; exact (xs_same hu).symm)⟩
  · have c20 := of_decide_eq_true c19
    refine xk_aload_n dX7_compare_22 rfl ?_
    refine xk_iload_n dX7_compare_23 rfl ?_
    refine xk_put (ci := 6) (r := (RX7, TX7, 5)) 1 tyX7 dX7_compare_24 rfl inX7 tyX7_ok nmX7 (by decide) wf_X7_31 rfl (fun _ => rfl) (fun _ => rfl) hu (Nat.le_of_ble_eq_true rfl) ?_
    dsimp only [List.set]
    refine xk_aload_n dX7_compare_27 rfl ?_
    refine xk_iload_n dX7_compare_28 rfl ?_
    refine xk_put (ci := 6) (r := (RX7, TX7, 5)) 2 tyX7 dX7_compare_29 rfl inX7 tyX7_ok nmX7 (by decide) wf_X7_34 rfl (fun _ => rfl) (fun _ => rfl) (xs_at hu) (Nat.le_of_ble_eq_true rfl) ?_
    dsimp only [List.set]
    rw [List.set_set]
    refine xk_aload_n dX7_compare_32 rfl ?_
    refine xk_iload dX7_compare_33 rfl ?_
    refine xk_put (ci := 6) (r := (RX7, TX7, 5)) 3 tyX7 dX7_compare_35 rfl inX7 tyX7_ok nmX7 (by decide) wf_X7_37 rfl (fun _ => rfl) (fun _ => rfl) (xs_at hu) (Nat.le_of_ble_eq_true rfl) ?_
    dsimp only [List.set]
    rw [List.set_set]
    refine xk_aload_n dX7_compare_38 rfl ?_
    refine xk_lload dX7_compare_39 rfl ?_
    refine xk_put (ci := 6) (r := (RX7, TX7, 5)) 4 tyX7 dX7_compare_41 rfl inX7 tyX7_ok nmX7 (by decide) wf_X7_15 rfl (fun _ => rfl) (fun _ => rfl) (xs_at hu) (Nat.le_of_ble_eq_true rfl) ?_
    dsimp only [List.set]
    rw [List.set_set]
    exact xk_vret rfl dX7_compare_44 (Nat.le_refl _) (Nat.le_refl _) ⟨rfl, by first | (unfold woC; rw [if_pos c20]; rfl) | (unfold woC; rw [if_neg c20]; exact (xs_same hu).symm)⟩

set_option maxHeartbeats 4000000 in
set_option maxRecDepth 100000 in
/-- find: all threes, in their order -/
theorem y_X7_find (d : Nat) {hs : xk_H} {t n fl : Nat} {w : tbW} {u : Nat} {s : woS} (hn : n ≤ 6) (hT : tbA hs t n w fl) (ho : tbOK n w) (hu : hs[u]? = some (woO n s)) (hut : ¬ tbS t n u) : xk_F (d + 5) mX7_find [.ref u, .ref t] hs none (hs.set u (woO n (woF w n s))) := by
  have hT2 : ∀ e : xk_C, tbA (hs.set u e) t n w fl := fun e => hT.set1 hut
  have l32 : ∀ (m c : Nat) (s1 : woS) (a b : Nat), c + m = n → a < b → b < c → b < n → woB s1 → (∀ v : Int32, xk_P (d + 5) mX7_find [.ref u, .ref t] hs none (hs.set u (woO n (woF w n s))) 56 [some (.ref u), some (.ref t), some (.int (nI a)), some (.int (nI b)), some (.int v)] [] (hs.set u (woO n (itr (fun c s => woC w a b c s) m c s1)))) → xk_P (d + 5) mX7_find [.ref u, .ref t] hs none (hs.set u (woO n (woF w n s))) 32 [some (.ref u), some (.ref t), some (.int (nI a)), some (.int (nI b)), some (.int (nI c))] [] (hs.set u (woO n s1)) := by
    intro m
    induction m with
    | zero =>
      intro c s1 a b h1 hab hbc hbn hB K
      refine xk_iload dX7_find_32 rfl ?_
      refine xk_aload_n dX7_find_34 rfl ?_
      refine xk_get (ci := 6) (r := (RX7, TX7, 5)) 0 dX7_find_35 rfl inX7 (by decide) wf_X7_7 (xs_at hu) rfl ?_
      refine xk_icmp_ge 56 dX7_find_38 (by decide) (fun c38 => ?_) (fun c38 => ?_)
      · exact K _
      · exact absurd (nI_le (by omega) (by omega)) c38
    | succ m ih =>
      intro c s1 a b h1 hab hbc hbn hB K
      refine xk_iload dX7_find_32 rfl ?_
      refine xk_aload_n dX7_find_34 rfl ?_
      refine xk_get (ci := 6) (r := (RX7, TX7, 5)) 0 dX7_find_35 rfl inX7 (by decide) wf_X7_7 (xs_at hu) rfl ?_
      refine xk_icmp_ge 56 dX7_find_38 (by decide) (fun c38 => ?_) (fun c38 => ?_)
      · exact absurd c38 (nI_ge (by omega) (by omega))
      · refine xk_aload_n dX7_find_41 rfl ?_
        refine xk_aload_n dX7_find_42 rfl ?_
        refine xk_iload_n dX7_find_43 rfl ?_
        refine xk_iload_n dX7_find_44 rfl ?_
        refine xk_iload dX7_find_45 rfl ?_
        refine xk_v4n (M' := mX7_compare) (d' := d + 4) (ci := 6) (r0 := (RX7, TX7, 5)) dX7_find_47 wm_X7_19 cv_X7_compare wi_X7_compare wl_X7_compare (by omega) (Nat.le_refl _) (Nat.le_refl _) rfl rfl (xs_at hu) (Nat.le_of_ble_eq_true rfl) (y_X7_compare d hn (hT2 _) ho (xs_at hu) hB (by omega) (by omega) (by omega) (by omega) (by omega) (by omega)) (by simp) ?_
        rw [List.set_set]
        refine xk_iinc (nI (c + 1)) dX7_find_50 rfl (nI_1 c) (by decide) ?_
        dsimp only [xk_s1, xk_s2, xk_kill]
        refine xk_goto 32 dX7_find_53 (by decide) ?_
        exact ih (c + 1) _ a b (by omega) hab (by omega) hbn (woC_b ho (by omega) (by omega) (by omega) hB) K
  have l19 : ∀ (m b : Nat) (s1 : woS) (a : Nat) (o4 : Option Value), b + m = n → a < b → woB s1 → (∀ (v : Int32) (o4 : Option Value), xk_P (d + 5) mX7_find [.ref u, .ref t] hs none (hs.set u (woO n (woF w n s))) 62 [some (.ref u), some (.ref t), some (.int (nI a)), some (.int v), o4] [] (hs.set u (woO n (itr (fun b s => itr (fun c s => woC w a b c s) (n - (b + 1)) (b + 1) s) m b s1)))) → xk_P (d + 5) mX7_find [.ref u, .ref t] hs none (hs.set u (woO n (woF w n s))) 19 [some (.ref u), some (.ref t), some (.int (nI a)), some (.int (nI b)), o4] [] (hs.set u (woO n s1)) := by
    intro m
    induction m with
    | zero =>
      intro b s1 a o4 h1 hab hB K
      refine xk_iload_n dX7_find_19 rfl ?_
      refine xk_aload_n dX7_find_20 rfl ?_
      refine xk_get (ci := 6) (r := (RX7, TX7, 5)) 0 dX7_find_21 rfl inX7 (by decide) wf_X7_7 (xs_at hu) rfl ?_
      refine xk_icmp_ge 62 dX7_find_24 (by decide) (fun c24 => ?_) (fun c24 => ?_)
      · exact K _ _
      · exact absurd (nI_le (by omega) (by omega)) c24
    | succ m ih =>
      intro b s1 a o4 h1 hab hB K
      refine xk_iload_n dX7_find_19 rfl ?_
      refine xk_aload_n dX7_find_20 rfl ?_
      refine xk_get (ci := 6) (r := (RX7, TX7, 5)) 0 dX7_find_21 rfl inX7 (by decide) wf_X7_7 (xs_at hu) rfl ?_
      refine xk_icmp_ge 62 dX7_find_24 (by decide) (fun c24 => ?_) (fun c24 => ?_)
      · exact absurd c24 (nI_ge (by omega) (by omega))
      · refine xk_iload_n dX7_find_27 rfl ?_
        refine xk_iconst (1) dX7_find_28 (by decide) ?_
        refine xk_iadd dX7_find_29 ?_
        rw [nI_1]
        refine xk_istore dX7_find_30 (by decide) ?_
        dsimp only [xk_s1, xk_s2, xk_kill]
        refine l32 (n - (b + 1)) (b + 1) s1 a b (by omega) hab (by omega) (by omega) hB (fun v => ?_)
        refine xk_iinc (nI (b + 1)) dX7_find_56 rfl (nI_1 b) (by decide) ?_
        dsimp only [xk_s1, xk_s2, xk_kill]
        refine xk_goto 19 dX7_find_59 (by decide) ?_
        exact ih (b + 1) _ a _ (by omega) (by omega) (itr_inv woB _ _ _ (fun k s h1 h2 => woC_b ho (by omega) (by omega) (by omega)) hB) K
  have l7 : ∀ (m a : Nat) (s1 : woS) (o3 o4 : Option Value), a + m = n → woB s1 → (itr (fun a s => itr (fun b s => itr (fun c s => woC w a b c s) (n - (b + 1)) (b + 1) s) (n - (a + 1)) (a + 1) s) m a s1) = woF w n s → xk_P (d + 5) mX7_find [.ref u, .ref t] hs none (hs.set u (woO n (woF w n s))) 7 [some (.ref u), some (.ref t), some (.int (nI a)), o3, o4] [] (hs.set u (woO n s1)) := by
    intro m
    induction m with
    | zero =>
      intro a s1 o3 o4 h1 hB hF
      refine xk_iload_n dX7_find_7 rfl ?_
      refine xk_aload_n dX7_find_8 rfl ?_
      refine xk_get (ci := 6) (r := (RX7, TX7, 5)) 0 dX7_find_9 rfl inX7 (by decide) wf_X7_7 (xs_at hu) rfl ?_
      refine xk_icmp_ge 68 dX7_find_12 (by decide) (fun c12 => ?_) (fun c12 => ?_)
      · exact xk_vret rfl dX7_find_68 (Nat.le_refl _) (Nat.le_refl _) ⟨rfl, by rw [← hF]; rfl⟩
      · exact absurd (nI_le (by omega) (by omega)) c12
    | succ m ih =>
      intro a s1 o3 o4 h1 hB hF
      refine xk_iload_n dX7_find_7 rfl ?_
      refine xk_aload_n dX7_find_8 rfl ?_
      refine xk_get (ci := 6) (r := (RX7, TX7, 5)) 0 dX7_find_9 rfl inX7 (by decide) wf_X7_7 (xs_at hu) rfl ?_
      refine xk_icmp_ge 68 dX7_find_12 (by decide) (fun c12 => ?_) (fun c12 => ?_)
      · exact absurd c12 (nI_ge (by omega) (by omega))
      · refine xk_iload_n dX7_find_15 rfl ?_
        refine xk_iconst (1) dX7_find_16 (by decide) ?_
        refine xk_iadd dX7_find_17 ?_
        rw [nI_1]
        refine xk_istore_n dX7_find_18 (by decide) ?_
        dsimp only [xk_s1, xk_s2, xk_kill]
        refine l19 (n - (a + 1)) (a + 1) s1 a _ (by omega) (by omega) hB (fun v o => ?_)
        refine xk_iinc (nI (a + 1)) dX7_find_62 rfl (nI_1 a) (by decide) ?_
        dsimp only [xk_s1, xk_s2, xk_kill]
        refine xk_goto 7 dX7_find_65 (by decide) ?_
        exact ih (a + 1) _ _ _ (by omega) (itr_inv woB _ _ _ (fun k s h1 h2 h3 => itr_inv woB _ _ _ (fun k2 s h4 h5 => woC_b ho (by omega) (by omega) (by omega)) h3) hB) hF
  refine xk_Y.ofX (k := 3) (ls := [some (.ref u), some (.ref t), none, none, none]) (by decide) rfl rfl ?_
  refine xk_aload_n dX7_find_0 rfl ?_
  refine xk_lconst (1) dX7_find_1 (by decide) ?_
  rw [show (1 : Int64) = fr 0 1 from rfl]
  refine xk_put (ci := 6) (r := (RX7, TX7, 5)) 4 tyX7 dX7_find_2 rfl inX7 tyX7_ok nmX7 (by decide) wf_X7_15 rfl (fun _ => rfl) (fun _ => rfl) hu (Nat.le_of_ble_eq_true rfl) ?_
  dsimp only [List.set]
  refine xk_iconst (0) dX7_find_5 (by decide) ?_
  refine xk_istore_n dX7_find_6 (by decide) ?_
  dsimp only [xk_s1, xk_s2, xk_kill]
  exact l7 n 0 (s.1, s.2.1, s.2.2.1, 0, 1) _ _ (by omega) ⟨Nat.le_of_ble_eq_true rfl, Nat.le_of_ble_eq_true rfl⟩ rfl

