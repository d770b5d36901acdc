/-! PairScales: contracts, second half. Laid by a program of our own. -/
set_option maxHeartbeats 4000000 in
set_option maxRecDepth 100000 in
theorem y_X8_worst (d : Nat) {hs : xk_H} {x n fl fv : Nat} {w v : tbW} (hn : n ≤ 6) (h2 : 2 ≤ n) (hX : xsA hs x n w fl v fv) (ho : tbOK n w) (hov : tbOK n v) {q : Int32} : xk_Y (d + 6) 0 0 mX8_worst false [.ref x, .int q] hs (fun r' h => (∃ s, woB s ∧ r' = some (.int (worstV (woF w n s) q))) ∧ xsA h x n w fl v fv ∧ xfr (xsS x n) hs h) := by
  obtain ⟨s, hs1, hs2⟩ := hX.2.2.2.1
  have hB := woF_b (s := s) ho
  have hB1 := hB.1
  have hB2 := hB.2
  refine xk_Y.ofX (k := 0) (ls := [some (.ref x), some (.int q)]) (by decide) rfl rfl ?_
  refine xk_iload_n dX8_worst_0 rfl ?_
  refine xk_if_lt 9 dX8_worst_1 (by decide) (fun c1 => ?_) (fun c1 => ?_)
  · have cq : ¬ ((0 ≤ q ∧ q ≤ 4)) := fun z => absurd z.1 (Int32.not_le.mpr c1)
    refine xk_iconst (-1) dX8_worst_9 (by decide) ?_
    exact xk_iret rfl dX8_worst_10 (Nat.le_refl _) (Nat.le_refl _) ⟨⟨s, hs2, by unfold worstV; rw [if_neg (fun z => cq z.1)]⟩, hX, xfr.rf⟩
  · refine xk_iload_n dX8_worst_4 rfl ?_
    refine xk_iconst (4) dX8_worst_5 (by decide) ?_
    refine xk_icmp_le 11 dX8_worst_6 (by decide) (fun c6 => ?_) (fun c6 => ?_)
    · refine xk_aload_n dX8_worst_11 rfl ?_
      refine xk_get (ci := 7) (r := (RX8, TX8, 8)) 3 dX8_worst_12 rfl inX8 (by decide) wf_X8_37 hX.1 rfl ?_
      refine xk_aload_n dX8_worst_15 rfl ?_
      refine xk_get (ci := 7) (r := (RX8, TX8, 8)) 1 dX8_worst_16 rfl inX8 (by decide) wf_X8_27 hX.1 rfl ?_
      refine xk_v1n (M' := mX7_find) (d' := d + 5) (ci := 6) (r0 := (RX7, TX7, 5)) dX8_worst_19 wm_X8_108 cv_X7_find wi_X7_find wl_X7_find (by omega) (Nat.le_refl _) (Nat.le_refl _) rfl rfl hs1 (Nat.le_of_ble_eq_true rfl) (y_X7_find d hn hX.2.1 ho hs1 (by unfold tbS; omega)) (by simp) ?_
      have hX2 := hX.wst (s := woF w n s) h2 hB
      have hs3 : (hs.set (x + 2 * n + 5) (woO n (woF w n s)))[x + 2 * n + 5]? = some (woO n (woF w n s)) := xs_at hs1
      refine xk_aload_n dX8_worst_22 rfl ?_
      refine xk_get (ci := 7) (r := (RX8, TX8, 8)) 3 dX8_worst_23 rfl inX8 (by decide) wf_X8_37 hX2.1 rfl ?_
      refine xk_getN (ci := 6) (r := (RX7, TX7, 5)) (host := "PairScales") 4 dX8_worst_26 rfl inX7 (by decide) (List.mem_of_getElem? (i := 4) rfl) hs3 rfl ?_
      refine xk_lconst (1) dX8_worst_29 (by decide) ?_
      refine xk_lcmp dX8_worst_30 ?_
      refine xk_if_ne 36 dX8_worst_31 (by decide) (fun c31 => ?_) (fun c31 => ?_)
      · have c32 : ¬ ((woF w n s).2.2.2.1 = 0 ∧ (woF w n s).2.2.2.2 = 1) := fun z => c31 ((lg_cmp_eq _ _).mpr (by rw [z.1, z.2]; rfl))
        refine xk_iload_n dX8_worst_36 rfl ?_
        by_cases q0 : q = 0
        · subst q0
          refine xk_tabIn (off := 27) 64 dX8_worst_37 (x := 0) (by decide) (by decide) (by decide) (by decide) ?_
          refine xk_aload_n dX8_worst_64 rfl ?_
          refine xk_get (ci := 7) (r := (RX8, TX8, 8)) 3 dX8_worst_65 rfl inX8 (by decide) wf_X8_37 hX2.1 rfl ?_
          refine xk_getN (ci := 6) (r := (RX7, TX7, 5)) (host := "PairScales") 1 dX8_worst_68 rfl inX7 (by decide) (List.mem_of_getElem? (i := 1) rfl) hs3 rfl ?_
          exact xk_iret rfl dX8_worst_71 (Nat.le_refl _) (Nat.le_refl _) ⟨⟨s, hs2, by unfold worstV; rw [if_pos ⟨⟨Int32.not_lt.mp c1, c6⟩, c32⟩]; rfl⟩, hX2, xfr.rf.set ⟨by omega, by omega⟩⟩
        · by_cases q1 : q = 1
          · subst q1
            refine xk_tabIn (off := 35) 72 dX8_worst_37 (x := 1) (by decide) (by decide) (by decide) (by decide) ?_
            refine xk_aload_n dX8_worst_72 rfl ?_
            refine xk_get (ci := 7) (r := (RX8, TX8, 8)) 3 dX8_worst_73 rfl inX8 (by decide) wf_X8_37 hX2.1 rfl ?_
            refine xk_getN (ci := 6) (r := (RX7, TX7, 5)) (host := "PairScales") 2 dX8_worst_76 rfl inX7 (by decide) (List.mem_of_getElem? (i := 2) rfl) hs3 rfl ?_
            exact xk_iret rfl dX8_worst_79 (Nat.le_refl _) (Nat.le_refl _) ⟨⟨s, hs2, by unfold worstV; rw [if_pos ⟨⟨Int32.not_lt.mp c1, c6⟩, c32⟩]; rfl⟩, hX2, xfr.rf.set ⟨by omega, by omega⟩⟩
          · by_cases q2 : q = 2
            · subst q2
              refine xk_tabIn (off := 43) 80 dX8_worst_37 (x := 2) (by decide) (by decide) (by decide) (by decide) ?_
              refine xk_aload_n dX8_worst_80 rfl ?_
              refine xk_get (ci := 7) (r := (RX8, TX8, 8)) 3 dX8_worst_81 rfl inX8 (by decide) wf_X8_37 hX2.1 rfl ?_
              refine xk_getN (ci := 6) (r := (RX7, TX7, 5)) (host := "PairScales") 3 dX8_worst_84 rfl inX7 (by decide) (List.mem_of_getElem? (i := 3) rfl) hs3 rfl ?_
              exact xk_iret rfl dX8_worst_87 (Nat.le_refl _) (Nat.le_refl _) ⟨⟨s, hs2, by unfold worstV; rw [if_pos ⟨⟨Int32.not_lt.mp c1, c6⟩, c32⟩]; rfl⟩, hX2, xfr.rf.set ⟨by omega, by omega⟩⟩
            · refine xk_tabOut 88 dX8_worst_37 (tab3 q0 q1 q2) (by decide) ?_
              refine xk_aload_n dX8_worst_88 rfl ?_
              refine xk_get (ci := 7) (r := (RX8, TX8, 8)) 3 dX8_worst_89 rfl inX8 (by decide) wf_X8_37 hX2.1 rfl ?_
              refine xk_getN (ci := 6) (r := (RX7, TX7, 5)) (host := "PairScales") 4 dX8_worst_92 rfl inX7 (by decide) (List.mem_of_getElem? (i := 4) rfl) hs3 rfl ?_
              refine xk_iload_n dX8_worst_95 rfl ?_
              refine xk_iconst (3) dX8_worst_96 (by decide) ?_
              refine xk_isub dX8_worst_97 ?_
              refine xk_s2c (M' := mX1_part) (d' := (d + 4) + 1) dX8_worst_98 wm_X8_100 cv_X1_part wt_X1_part (by omega) (Nat.le_refl _) (Nat.le_refl _) (Nat.le_of_ble_eq_true rfl) (y_X1_part (d + 4) (by omega) (by omega)) rfl ?_
              exact xk_iret rfl dX8_worst_101 (Nat.le_refl _) (Nat.le_refl _) ⟨⟨s, hs2, by rw [worstV_3 ⟨⟨Int32.not_lt.mp c1, c6⟩, c32⟩ q0 q1 q2]⟩, hX2, xfr.rf.set ⟨by omega, by omega⟩⟩
      · have c32 : (woF w n s).2.2.2.1 = 0 ∧ (woF w n s).2.2.2.2 = 1 := (fr_inj (by omega) (by omega) (by decide) (by decide)).mp ((lg_cmp_eq _ _).mp c31)
        refine xk_iconst (-1) dX8_worst_34 (by decide) ?_
        exact xk_iret rfl dX8_worst_35 (Nat.le_refl _) (Nat.le_refl _) ⟨⟨s, hs2, by unfold worstV; rw [if_neg (fun z => z.2 c32)]⟩, hX2, xfr.rf.set ⟨by omega, by omega⟩⟩
    · have cq : ¬ ((0 ≤ q ∧ q ≤ 4)) := fun z => absurd z.2 c6
      refine xk_iconst (-1) dX8_worst_9 (by decide) ?_
      exact xk_iret rfl dX8_worst_10 (Nat.le_refl _) (Nat.le_refl _) ⟨⟨s, hs2, by unfold worstV; rw [if_neg (fun z => cq z.1)]⟩, hX, xfr.rf⟩

set_option maxHeartbeats 4000000 in
set_option maxRecDepth 100000 in
/-- productOfRow -/
theorem y_X8_productOfRow (d : Nat) {hs : xk_H} {x n fl fv : Nat} {w v : tbW} (hn : n ≤ 6) (h2 : 2 ≤ n) (hX : xsA hs x n w fl v fv) (ho : tbOK n w) (hov : tbOK n v) {i : Nat} (hi : i < n) : xk_F (d + 3) mX8_productOfRow [.ref x, .int (nI i)] hs (some (.long (fr (rowP w n i).1 (rowP w n i).2))) hs := by
  have l7 : ∀ (r j : Nat) (p : Nat × Nat), j + r = n → rowB j p → itr (fun j p => if tH w i j = true then mul2 p (w i j) else p) r j p = rowP w n i → xk_P (d + 3) mX8_productOfRow [.ref x, .int (nI i)] hs (some (.long (fr (rowP w n i).1 (rowP w n i).2))) hs 7 [some (.ref x), some (.int (nI i)), some (.long (fr p.1 p.2)), none, some (.int (nI j))] [] hs := by
    intro r
    induction r with
    | zero =>
      intro j p h1 h3 h4
      refine xk_iload dX8_productOfRow_7 rfl ?_
      refine xk_aload_n dX8_productOfRow_9 rfl ?_
      refine xk_get (ci := 7) (r := (RX8, TX8, 8)) 0 dX8_productOfRow_10 rfl inX8 (by decide) wf_X8_18 hX.1 rfl ?_
      refine xk_icmp_ge 50 dX8_productOfRow_13 (by decide) (fun c13 => ?_) (fun c13 => ?_)
      · refine xk_lload_n dX8_productOfRow_50 rfl ?_
        exact xk_lret rfl dX8_productOfRow_51 (Nat.le_refl _) (Nat.le_refl _) ⟨by rw [← h4]; rfl, rfl⟩
      · exact absurd (nI_le (by omega) (by omega)) c13
    | succ r ih =>
      intro j p h1 h3 h4
      have hp6 := rowB_6 (show j ≤ 6 by omega) h3
      have hij := ho.lt hi (show j < n by omega)
      have hp5 := rowB_6 (show j ≤ 6 by omega) h3
      have hpj := p9 (show j ≤ 6 by omega)
      have m1 : p.1 * (w i j).1 ≤ 531441 * 9 := Nat.mul_le_mul hp6.1 hij.1
      have m2 : p.2 * (w i j).2 ≤ 531441 * 9 := Nat.mul_le_mul hp6.2 hij.2.1
      have eK := tHas_H (w := w) hn hi (show j < n by omega)
      refine xk_iload dX8_productOfRow_7 rfl ?_
      refine xk_aload_n dX8_productOfRow_9 rfl ?_
      refine xk_get (ci := 7) (r := (RX8, TX8, 8)) 0 dX8_productOfRow_10 rfl inX8 (by decide) wf_X8_18 hX.1 rfl ?_
      refine xk_icmp_ge 50 dX8_productOfRow_13 (by decide) (fun c13 => ?_) (fun c13 => ?_)
      · exact absurd c13 (nI_ge (by omega) (by omega))
      · refine xk_aload_n dX8_productOfRow_16 rfl ?_
        refine xk_get (ci := 7) (r := (RX8, TX8, 8)) 1 dX8_productOfRow_17 rfl inX8 (by decide) wf_X8_27 hX.1 rfl ?_
        refine xk_iload_n dX8_productOfRow_20 rfl ?_
        refine xk_iload dX8_productOfRow_21 rfl ?_
        refine xk_v2 (M' := mX5_holds) (d' := d + 2) (ci := 4) (r0 := (RX5, TX5, 3)) dX8_productOfRow_23 wm_X8_93 cv_X5_holds wi_X5_holds wl_X5_holds (by omega) (Nat.le_refl _) (Nat.le_refl _) rfl rfl hX.2.1.1 (Nat.le_of_ble_eq_true rfl) (y_X5_holds d hn hX.2.1 ho) rfl ?_
        refine xk_ifb_eq 44 dX8_productOfRow_26 (by decide) (fun c26 => ?_) (fun c26 => ?_)
        · rw [eK] at c26
          refine xk_iinc (nI (j + 1)) dX8_productOfRow_44 rfl (nI_1 j) (by decide) ?_
          dsimp only [xk_s1, xk_s2, xk_kill]
          refine xk_goto 7 dX8_productOfRow_47 (by decide) ?_
          have hB := rowB_s ho hi (show j < n by omega) h3
          first
          | (rw [if_pos c26] at hB; exact ih (j + 1) (mul2 p (w i j)) (by omega) hB (by rw [← h4, itr, if_pos c26]))
          | (rw [if_neg (by rw [c26]; decide)] at hB; exact ih (j + 1) p (by omega) hB (by rw [← h4, itr, if_neg (by rw [c26]; decide)]))
        · rw [eK] at c26
          refine xk_lload_n dX8_productOfRow_29 rfl ?_
          refine xk_aload_n dX8_productOfRow_30 rfl ?_
          refine xk_get (ci := 7) (r := (RX8, TX8, 8)) 1 dX8_productOfRow_31 rfl inX8 (by decide) wf_X8_27 hX.1 rfl ?_
          refine xk_iload_n dX8_productOfRow_34 rfl ?_
          refine xk_iload dX8_productOfRow_35 rfl ?_
          refine xk_v2 (M' := mX5_low) (d' := d + 2) (ci := 4) (r0 := (RX5, TX5, 3)) dX8_productOfRow_37 wm_X8_96 cv_X5_low wi_X5_low wl_X5_low (by omega) (Nat.le_refl _) (Nat.le_refl _) rfl rfl hX.2.1.1 (Nat.le_of_ble_eq_true rfl) (y_X5_low d hn hX.2.1) rfl ?_
          rw [tLow_nI hn hi (show j < n by omega) (tH_ne c26)]
          refine xk_s2c (M' := mX1_times) (d' := (d + 1) + 1) dX8_productOfRow_40 wm_X8_169 cv_X1_times wt_X1_times (by omega) (Nat.le_refl _) (Nat.le_refl _) (Nat.le_of_ble_eq_true rfl) (y_X1_times (d + 1) (by omega) (by omega) (by omega) (by omega) (by omega) (by omega)) rfl ?_
          refine xk_lstore_n dX8_productOfRow_43 (by decide) ?_
          dsimp only [xk_s1, xk_s2, xk_kill]
          refine xk_iinc (nI (j + 1)) dX8_productOfRow_44 rfl (nI_1 j) (by decide) ?_
          dsimp only [xk_s1, xk_s2, xk_kill]
          refine xk_goto 7 dX8_productOfRow_47 (by decide) ?_
          have hB := rowB_s ho hi (show j < n by omega) h3
          first
          | (rw [if_pos c26] at hB; exact ih (j + 1) (mul2 p (w i j)) (by omega) hB (by rw [← h4, itr, if_pos c26]))
          | (rw [if_neg (by rw [c26]; decide)] at hB; exact ih (j + 1) p (by omega) hB (by rw [← h4, itr, if_neg (by rw [c26]; decide)]))
  refine xk_Y.ofX (k := 3) (ls := [some (.ref x), some (.int (nI i)), none, none, none]) (by decide) rfl rfl ?_
  refine xk_ldc2 dX8_productOfRow_0 wk_X8_160 ?_
  rw [show (4294967297 : Int64) = fr 1 1 from rfl]
  refine xk_lstore_n dX8_productOfRow_3 (by decide) ?_
  dsimp only [xk_s1, xk_s2, xk_kill]
  refine xk_iconst (0) dX8_productOfRow_4 (by decide) ?_
  refine xk_istore dX8_productOfRow_5 (by decide) ?_
  dsimp only [xk_s1, xk_s2, xk_kill]
  exact l7 n 0 (1, 1) (by omega) ⟨by decide, by decide⟩ rfl

set_option maxHeartbeats 4000000 in
set_option maxRecDepth 100000 in
theorem y_X8_row (d : Nat) {hs : xk_H} {x n fl fv : Nat} {w v : tbW} (hn : n ≤ 6) (h2 : 2 ≤ n) (hX : xsA hs x n w fl v fv) (ho : tbOK n w) (hov : tbOK n v) {i q : Int32} (hfl : fl < 100) : xk_Y (d + 4) 0 0 mX8_row false [.ref x, .int i, .int q] hs (fun r' h => r' = some (.int (rowV n w fl i q)) ∧ xsA h x n w fl v fv ∧ xfr (xsS x n) hs h) := by
  refine xk_Y.ofX (k := 0) (ls := [some (.ref x), some (.int i), some (.int q)]) (by decide) rfl rfl ?_
  refine xk_iload_n dX8_row_0 rfl ?_
  refine xk_s1c (M' := mX8_isPart) (d' := (d + 3)) dX8_row_1 wm_X8_90 cv_X8_isPart wt_X8_isPart (by omega) (Nat.le_refl _) (Nat.le_refl _) (Nat.le_of_ble_eq_true rfl) (y_X8_isPart (d + 3)) rfl ?_
  refine xk_ifb_eq 28 dX8_row_4 (by decide) (fun c4 => ?_) (fun c4 => ?_)
  · refine xk_iconst (-1) dX8_row_28 (by decide) ?_
    exact xk_iret rfl dX8_row_29 (Nat.le_refl _) (Nat.le_refl _) ⟨by rw [rowV_n (by simp [*])], hX, xfr.rf⟩
  · refine xk_aload_n dX8_row_7 rfl ?_
    refine xk_get (ci := 7) (r := (RX8, TX8, 8)) 1 dX8_row_8 rfl inX8 (by decide) wf_X8_27 hX.1 rfl ?_
    refine xk_iload_n dX8_row_11 rfl ?_
    refine xk_v1 (M' := mX5_isThing) (d' := (d + 3)) (ci := 4) (r0 := (RX5, TX5, 3)) dX8_row_12 wm_X8_137 cv_X5_isThing wi_X5_isThing wl_X5_isThing (by omega) (Nat.le_refl _) (Nat.le_refl _) rfl rfl hX.2.1.1 (Nat.le_of_ble_eq_true rfl) (y_X5_isThing (d + 3) hX.2.1) rfl ?_
    refine xk_ifb_eq 28 dX8_row_15 (by decide) (fun c15 => ?_) (fun c15 => ?_)
    · refine xk_iconst (-1) dX8_row_28 (by decide) ?_
      exact xk_iret rfl dX8_row_29 (Nat.le_refl _) (Nat.le_refl _) ⟨by rw [rowV_n (by simp [*])], hX, xfr.rf⟩
    · refine xk_aload_n dX8_row_18 rfl ?_
      refine xk_get (ci := 7) (r := (RX8, TX8, 8)) 1 dX8_row_19 rfl inX8 (by decide) wf_X8_27 hX.1 rfl ?_
      refine xk_v0 (M' := mX5_isFull) (d' := (d + 3)) (ci := 4) (r0 := (RX5, TX5, 3)) dX8_row_22 wm_X8_140 cv_X5_isFull wi_X5_isFull wl_X5_isFull (by omega) (Nat.le_refl _) (Nat.le_refl _) rfl rfl hX.2.1.1 (Nat.le_of_ble_eq_true rfl) (y_X5_isFull (d + 3) hn hX.2.1 h2 hfl) rfl ?_
      refine xk_ifb_ne 30 dX8_row_25 (by decide) (fun c25 => ?_) (fun c25 => ?_)
      · obtain ⟨a, ha, rfl⟩ := tIn_of hn c15
        have bb := rowP_b ho hn ha
        refine xk_aload_n dX8_row_30 rfl ?_
        refine xk_iload_n dX8_row_31 rfl ?_
        refine xk_v1 (M' := mX8_productOfRow) (d' := d + 3) (ci := 7) (r0 := (RX8, TX8, 8)) dX8_row_32 wm_X8_144 cv_X8_productOfRow wi_X8_productOfRow wl_X8_productOfRow (by omega) (Nat.le_refl _) (Nat.le_refl _) rfl rfl hX.1 (Nat.le_of_ble_eq_true rfl) (y_X8_productOfRow d hn h2 hX ho hov ha) rfl ?_
        refine xk_iload_n dX8_row_35 rfl ?_
        refine xk_s2c (M' := mX1_part) (d' := (d + 2) + 1) dX8_row_36 wm_X8_100 cv_X1_part wt_X1_part (by omega) (Nat.le_refl _) (Nat.le_refl _) (Nat.le_of_ble_eq_true rfl) (y_X1_part (d + 2) (by omega) (by omega)) rfl ?_
        exact xk_iret rfl dX8_row_39 (Nat.le_refl _) (Nat.le_refl _) ⟨by rw [rowV_y (by omega) (by rw [c4, c15, c25]; rfl)], hX, xfr.rf⟩
      · refine xk_iconst (-1) dX8_row_28 (by decide) ?_
        exact xk_iret rfl dX8_row_29 (Nat.le_refl _) (Nat.le_refl _) ⟨by rw [rowV_n (by simp [*])], hX, xfr.rf⟩

set_option maxHeartbeats 4000000 in
set_option maxRecDepth 100000 in
theorem y_X8_order (d : Nat) {hs : xk_H} {x n fl fv : Nat} {w v : tbW} (hn : n ≤ 6) (h2 : 2 ≤ n) (hX : xsA hs x n w fl v fv) (ho : tbOK n w) (hov : tbOK n v) {i j : Int32} (hfl : fl < 100) : xk_Y (d + 4) 0 0 mX8_order false [.ref x, .int i, .int j] hs (fun r' h => r' = some (.int (ordV n w fl i j)) ∧ xsA h x n w fl v fv ∧ xfr (xsS x n) hs h) := by
  refine xk_Y.ofX (k := 4) (ls := [some (.ref x), some (.int i), some (.int j), none, none, none, none]) (by decide) rfl rfl ?_
  refine xk_aload_n dX8_order_0 rfl ?_
  refine xk_get (ci := 7) (r := (RX8, TX8, 8)) 1 dX8_order_1 rfl inX8 (by decide) wf_X8_27 hX.1 rfl ?_
  refine xk_iload_n dX8_order_4 rfl ?_
  refine xk_v1 (M' := mX5_isThing) (d' := (d + 3)) (ci := 4) (r0 := (RX5, TX5, 3)) dX8_order_5 wm_X8_137 cv_X5_isThing wi_X5_isThing wl_X5_isThing (by omega) (Nat.le_refl _) (Nat.le_refl _) rfl rfl hX.2.1.1 (Nat.le_of_ble_eq_true rfl) (y_X5_isThing (d + 3) hX.2.1) rfl ?_
  refine xk_ifb_eq 32 dX8_order_8 (by decide) (fun c8 => ?_) (fun c8 => ?_)
  · refine xk_iconst (-1) dX8_order_32 (by decide) ?_
    exact xk_iret rfl dX8_order_33 (Nat.le_refl _) (Nat.le_refl _) ⟨by rw [ordV_n (by simp [*])], hX, xfr.rf⟩
  · refine xk_aload_n dX8_order_11 rfl ?_
    refine xk_get (ci := 7) (r := (RX8, TX8, 8)) 1 dX8_order_12 rfl inX8 (by decide) wf_X8_27 hX.1 rfl ?_
    refine xk_iload_n dX8_order_15 rfl ?_
    refine xk_v1 (M' := mX5_isThing) (d' := (d + 3)) (ci := 4) (r0 := (RX5, TX5, 3)) dX8_order_16 wm_X8_137 cv_X5_isThing wi_X5_isThing wl_X5_isThing (by omega) (Nat.le_refl _) (Nat.le_refl _) rfl rfl hX.2.1.1 (Nat.le_of_ble_eq_true rfl) (y_X5_isThing (d + 3) hX.2.1) rfl ?_
    refine xk_ifb_eq 32 dX8_order_19 (by decide) (fun c19 => ?_) (fun c19 => ?_)
    · refine xk_iconst (-1) dX8_order_32 (by decide) ?_
      exact xk_iret rfl dX8_order_33 (Nat.le_refl _) (Nat.le_refl _) ⟨by rw [ordV_n (by simp [*])], hX, xfr.rf⟩
    · refine xk_aload_n dX8_order_22 rfl ?_
      refine xk_get (ci := 7) (r := (RX8, TX8, 8)) 1 dX8_order_23 rfl inX8 (by decide) wf_X8_27 hX.1 rfl ?_
      refine xk_v0 (M' := mX5_isFull) (d' := (d + 3)) (ci := 4) (r0 := (RX5, TX5, 3)) dX8_order_26 wm_X8_140 cv_X5_isFull wi_X5_isFull wl_X5_isFull (by omega) (Nat.le_refl _) (Nat.le_refl _) rfl rfl hX.2.1.1 (Nat.le_of_ble_eq_true rfl) (y_X5_isFull (d + 3) hn hX.2.1 h2 hfl) rfl ?_
      refine xk_ifb_ne 34 dX8_order_29 (by decide) (fun c29 => ?_) (fun c29 => ?_)
      · obtain ⟨a, ha, rfl⟩ := tIn_of hn c8
        obtain ⟨b, hb, rfl⟩ := tIn_of hn c19
        have ba := rowP_b ho hn ha
        have bb := rowP_b ho hn hb
        have cC : (tIn n (nI a) && tIn n (nI b) && decide (fl = n * (n - 1) / 2)) = true := by rw [c8, c19, c29]; rfl
        have e1 : (nI a).toNatClampNeg = a := nI_clamp (by omega)
        have e2 : (nI b).toNatClampNeg = b := nI_clamp (by omega)
        refine xk_aload_n dX8_order_34 rfl ?_
        refine xk_iload_n dX8_order_35 rfl ?_
        refine xk_v1 (M' := mX8_productOfRow) (d' := d + 3) (ci := 7) (r0 := (RX8, TX8, 8)) dX8_order_36 wm_X8_144 cv_X8_productOfRow wi_X8_productOfRow wl_X8_productOfRow (by omega) (Nat.le_refl _) (Nat.le_refl _) rfl rfl hX.1 (Nat.le_of_ble_eq_true rfl) (y_X8_productOfRow d hn h2 hX ho hov ha) rfl ?_
        refine xk_lstore_n dX8_order_39 (by decide) ?_
        dsimp only [xk_s1, xk_s2, xk_kill]
        refine xk_aload_n dX8_order_40 rfl ?_
        refine xk_iload_n dX8_order_41 rfl ?_
        refine xk_v1 (M' := mX8_productOfRow) (d' := d + 3) (ci := 7) (r0 := (RX8, TX8, 8)) dX8_order_42 wm_X8_144 cv_X8_productOfRow wi_X8_productOfRow wl_X8_productOfRow (by omega) (Nat.le_refl _) (Nat.le_refl _) rfl rfl hX.1 (Nat.le_of_ble_eq_true rfl) (y_X8_productOfRow d hn h2 hX ho hov hb) rfl ?_
        refine xk_lstore dX8_order_45 (by decide) ?_
        dsimp only [xk_s1, xk_s2, xk_kill]
        refine xk_lload_n dX8_order_47 rfl ?_
        refine xk_lload dX8_order_48 rfl ?_
        refine xk_s2c (M' := mX1_isAbove) (d' := (d + 2) + 1) dX8_order_50 wm_X8_148 cv_X1_isAbove wt_X1_isAbove (by omega) (Nat.le_refl _) (Nat.le_refl _) (Nat.le_of_ble_eq_true rfl) (y_X1_isAbove (d + 2) (by omega) (by omega) (by omega) (by omega)) rfl ?_
        refine xk_ifb_eq 58 dX8_order_53 (by decide) (fun c53 => ?_) (fun c53 => ?_)
        · have c54 := of_decide_eq_false c53
          refine xk_lload dX8_order_58 rfl ?_
          refine xk_lload_n dX8_order_60 rfl ?_
          refine xk_s2c (M' := mX1_isAbove) (d' := (d + 2) + 1) dX8_order_61 wm_X8_148 cv_X1_isAbove wt_X1_isAbove (by omega) (Nat.le_refl _) (Nat.le_refl _) (Nat.le_of_ble_eq_true rfl) (y_X1_isAbove (d + 2) (by omega) (by omega) (by omega) (by omega)) rfl ?_
          refine xk_ifb_eq 71 dX8_order_64 (by decide) (fun c64 => ?_) (fun c64 => ?_)
          · have c65 := of_decide_eq_false c64
            refine xk_iconst (0) dX8_order_71 (by decide) ?_
            exact xk_iret rfl dX8_order_72 (Nat.le_refl _) (Nat.le_refl _) ⟨by unfold ordV; rw [if_pos cC, e1, e2, if_neg c54]; first | rw [if_pos c65] | rw [if_neg c65], hX, xfr.rf⟩
          · have c65 := of_decide_eq_true c64
            refine xk_iconst (2) dX8_order_67 (by decide) ?_
            refine xk_goto 72 dX8_order_68 (by decide) ?_
            exact xk_iret rfl dX8_order_72 (Nat.le_refl _) (Nat.le_refl _) ⟨by unfold ordV; rw [if_pos cC, e1, e2, if_neg c54]; first | rw [if_pos c65] | rw [if_neg c65], hX, xfr.rf⟩
        · have c54 := of_decide_eq_true c53
          refine xk_iconst (1) dX8_order_56 (by decide) ?_
          exact xk_iret rfl dX8_order_57 (Nat.le_refl _) (Nat.le_refl _) ⟨by unfold ordV; rw [if_pos cC, e1, e2, if_pos c54], hX, xfr.rf⟩
      · refine xk_iconst (-1) dX8_order_32 (by decide) ?_
        exact xk_iret rfl dX8_order_33 (Nat.le_refl _) (Nat.le_refl _) ⟨by rw [ordV_n (by simp [*])], hX, xfr.rf⟩

set_option maxHeartbeats 4000000 in
set_option maxRecDepth 100000 in
theorem y_X8_span (d : Nat) {hs : xk_H} {x n fl fv : Nat} {w v : tbW} (hn : n ≤ 6) (h2 : 2 ≤ n) (hX : xsA hs x n w fl v fv) (ho : tbOK n w) (hov : tbOK n v) {i j e : Int32} : xk_Y (d + 4) 0 0 mX8_span false [.ref x, .int i, .int j, .int e] hs (fun r' h => r' = some (.int (xk_b (spOk n i j e))) ∧ xsA h x n w fl (spW n v i j e) (spN n v fv i j e) ∧ xfr (xsS x n) hs h) := by
  have cF : spOk n i j e = false → spOk n i j e = false := fun q => q
  have cW : spOk n i j e = false → spW n v i j e = v := fun q => by unfold spW; rw [if_neg (by rw [q]; decide)]
  have cN : spOk n i j e = false → spN n v fv i j e = fv := fun q => by unfold spN; rw [if_neg (by rw [q]; exact fun z => absurd z.1 (by decide))]
  refine xk_Y.ofX (k := 8) (ls := [some (.ref x), some (.int i), some (.int j), some (.int e), none, none, none, none, none, none, none, none]) (by decide) rfl rfl ?_
  refine xk_iload_n dX8_span_0 rfl ?_
  refine xk_sipush (1000) dX8_span_1 (by decide) ?_
  refine xk_idiv dX8_span_4 (by decide) ?_
  refine xk_istore dX8_span_5 (by decide) ?_
  dsimp only [xk_s1, xk_s2, xk_kill]
  refine xk_iload_n dX8_span_7 rfl ?_
  refine xk_bipush (100) dX8_span_8 (by decide) ?_
  refine xk_idiv dX8_span_10 (by decide) ?_
  refine xk_bipush (10) dX8_span_11 (by decide) ?_
  refine xk_irem dX8_span_13 (by decide) ?_
  refine xk_istore dX8_span_14 (by decide) ?_
  dsimp only [xk_s1, xk_s2, xk_kill]
  refine xk_iload_n dX8_span_16 rfl ?_
  refine xk_bipush (10) dX8_span_17 (by decide) ?_
  refine xk_idiv dX8_span_19 (by decide) ?_
  refine xk_bipush (10) dX8_span_20 (by decide) ?_
  refine xk_irem dX8_span_22 (by decide) ?_
  refine xk_istore dX8_span_23 (by decide) ?_
  dsimp only [xk_s1, xk_s2, xk_kill]
  refine xk_iload_n dX8_span_25 rfl ?_
  refine xk_bipush (10) dX8_span_26 (by decide) ?_
  refine xk_irem dX8_span_28 (by decide) ?_
  refine xk_istore dX8_span_29 (by decide) ?_
  dsimp only [xk_s1, xk_s2, xk_kill]
  refine xk_aload_n dX8_span_31 rfl ?_
  refine xk_get (ci := 7) (r := (RX8, TX8, 8)) 2 dX8_span_32 rfl inX8 (by decide) wf_X8_31 hX.1 rfl ?_
  refine xk_iload_n dX8_span_35 rfl ?_
  refine xk_iload_n dX8_span_36 rfl ?_
  refine xk_v2 (M' := mX5_isPair) (d' := (d + 2) + 1) (ci := 4) (r0 := (RX5, TX5, 3)) dX8_span_37 wm_X8_69 cv_X5_isPair wi_X5_isPair wl_X5_isPair (by omega) (Nat.le_refl _) (Nat.le_refl _) rfl rfl hX.2.2.1.1 (Nat.le_of_ble_eq_true rfl) (y_X5_isPair (d + 2) hX.2.2.1) rfl ?_
  refine xk_ifb_eq 75 dX8_span_40 (by decide) (fun c40 => ?_) (fun c40 => ?_)
  · refine xk_iconst (0) dX8_span_75 (by decide) ?_
    exact xk_zret rfl (by rfl) dX8_span_76 (Nat.le_refl _) (Nat.le_refl _) ⟨by rw [xb_f (cF (by unfold spOk spC; simp [*]))], by rw [cW (cF (by unfold spOk spC; simp [*])), cN (cF (by unfold spOk spC; simp [*]))]; exact hX, xfr.rf⟩
  · refine xk_iload dX8_span_43 rfl ?_
    refine xk_s1c (M' := mX8_isDigit) (d' := (d + 3)) dX8_span_45 wm_X8_73 cv_X8_isDigit wt_X8_isDigit (by omega) (Nat.le_refl _) (Nat.le_refl _) (Nat.le_of_ble_eq_true rfl) (y_X8_isDigit (d + 3)) rfl ?_
    refine xk_ifb_eq 75 dX8_span_48 (by decide) (fun c48 => ?_) (fun c48 => ?_)
    · refine xk_iconst (0) dX8_span_75 (by decide) ?_
      exact xk_zret rfl (by rfl) dX8_span_76 (Nat.le_refl _) (Nat.le_refl _) ⟨by rw [xb_f (cF (by unfold spOk spC; simp [*]))], by rw [cW (cF (by unfold spOk spC; simp [*])), cN (cF (by unfold spOk spC; simp [*]))]; exact hX, xfr.rf⟩
    · refine xk_iload dX8_span_51 rfl ?_
      refine xk_s1c (M' := mX8_isDigit) (d' := (d + 3)) dX8_span_53 wm_X8_73 cv_X8_isDigit wt_X8_isDigit (by omega) (Nat.le_refl _) (Nat.le_refl _) (Nat.le_of_ble_eq_true rfl) (y_X8_isDigit (d + 3)) rfl ?_
      refine xk_ifb_eq 75 dX8_span_56 (by decide) (fun c56 => ?_) (fun c56 => ?_)
      · refine xk_iconst (0) dX8_span_75 (by decide) ?_
        exact xk_zret rfl (by rfl) dX8_span_76 (Nat.le_refl _) (Nat.le_refl _) ⟨by rw [xb_f (cF (by unfold spOk spC; simp [*]))], by rw [cW (cF (by unfold spOk spC; simp [*])), cN (cF (by unfold spOk spC; simp [*]))]; exact hX, xfr.rf⟩
      · refine xk_iload dX8_span_59 rfl ?_
        refine xk_s1c (M' := mX8_isDigit) (d' := (d + 3)) dX8_span_61 wm_X8_73 cv_X8_isDigit wt_X8_isDigit (by omega) (Nat.le_refl _) (Nat.le_refl _) (Nat.le_of_ble_eq_true rfl) (y_X8_isDigit (d + 3)) rfl ?_
        refine xk_ifb_eq 75 dX8_span_64 (by decide) (fun c64 => ?_) (fun c64 => ?_)
        · refine xk_iconst (0) dX8_span_75 (by decide) ?_
          exact xk_zret rfl (by rfl) dX8_span_76 (Nat.le_refl _) (Nat.le_refl _) ⟨by rw [xb_f (cF (by unfold spOk spC; simp [*]))], by rw [cW (cF (by unfold spOk spC; simp [*])), cN (cF (by unfold spOk spC; simp [*]))]; exact hX, xfr.rf⟩
        · refine xk_iload dX8_span_67 rfl ?_
          refine xk_s1c (M' := mX8_isDigit) (d' := (d + 3)) dX8_span_69 wm_X8_73 cv_X8_isDigit wt_X8_isDigit (by omega) (Nat.le_refl _) (Nat.le_refl _) (Nat.le_of_ble_eq_true rfl) (y_X8_isDigit (d + 3)) rfl ?_
          refine xk_ifb_ne 77 dX8_span_72 (by decide) (fun c72 => ?_) (fun c72 => ?_)
          · obtain ⟨a, b, ha, hb, hab, rfl, rfl⟩ := tPair_of hn c40
            obtain ⟨p0, hp01, hp02, ep0⟩ := dig_of c48
            obtain ⟨q0, hq01, hq02, eq0⟩ := dig_of c56
            obtain ⟨r0, hr01, hr02, er0⟩ := dig_of c64
            obtain ⟨s0, hs01, hs02, es0⟩ := dig_of c72
            have cC : spC n (nI a) (nI b) e = true := by unfold spC; rw [c40, c48, c56, c64, c72]; rfl
            rw [ep0, eq0, er0, es0]
            have kA : spA e = p0 := by unfold spA; rw [ep0, nI_clamp (by omega)]
            have kB : spB e = q0 := by unfold spB; rw [eq0, nI_clamp (by omega)]
            have kP : spP e = r0 := by unfold spP; rw [er0, nI_clamp (by omega)]
            have kQ : spQ e = s0 := by unfold spQ; rw [es0, nI_clamp (by omega)]
            have e1 : (nI a).toNatClampNeg = a := nI_clamp (by omega)
            have e2 : (nI b).toNatClampNeg = b := nI_clamp (by omega)
            refine xk_iload dX8_span_77 rfl ?_
            refine xk_i2l dX8_span_79 ?_
            rw [nI_l (by omega)]
            refine xk_iload dX8_span_80 rfl ?_
            refine xk_i2l dX8_span_82 ?_
            rw [nI_l (by omega)]
            refine xk_s2c (M' := mX1_of) (d' := (d + 3)) dX8_span_83 wm_X8_77 cv_X1_of wt_X1_of (by omega) (Nat.le_refl _) (Nat.le_refl _) (Nat.le_of_ble_eq_true rfl) (y_X1_of (d + 3) (by omega) (by omega)) rfl ?_
            refine xk_lstore dX8_span_86 (by decide) ?_
            dsimp only [xk_s1, xk_s2, xk_kill]
            refine xk_iload dX8_span_88 rfl ?_
            refine xk_i2l dX8_span_90 ?_
            rw [nI_l (by omega)]
            refine xk_iload dX8_span_91 rfl ?_
            refine xk_i2l dX8_span_93 ?_
            rw [nI_l (by omega)]
            refine xk_s2c (M' := mX1_of) (d' := (d + 3)) dX8_span_94 wm_X8_77 cv_X1_of wt_X1_of (by omega) (Nat.le_refl _) (Nat.le_refl _) (Nat.le_of_ble_eq_true rfl) (y_X1_of (d + 3) (by omega) (by omega)) rfl ?_
            refine xk_lstore dX8_span_97 (by decide) ?_
            dsimp only [xk_s1, xk_s2, xk_kill]
            refine xk_lload dX8_span_99 rfl ?_
            refine xk_lload dX8_span_101 rfl ?_
            refine xk_s2c (M' := mX1_isAbove) (d' := (d + 2) + 1) dX8_span_103 wm_X8_148 cv_X1_isAbove wt_X1_isAbove (by omega) (Nat.le_refl _) (Nat.le_refl _) (Nat.le_of_ble_eq_true rfl) (y_X1_isAbove (d + 2) (by omega) (by omega) (by omega) (by omega)) rfl ?_
            refine xk_ifb_eq 111 dX8_span_106 (by decide) (fun c106 => ?_) (fun c106 => ?_)
            · have c107 := of_decide_eq_false c106
              have cS : spOk n (nI a) (nI b) e = true := by unfold spOk; rw [cC, kA, kB, kP, kQ]; simp only [Bool.true_and, decide_eq_true_eq]; exact c107
              refine xk_aload_n dX8_span_111 rfl ?_
              refine xk_get (ci := 7) (r := (RX8, TX8, 8)) 2 dX8_span_112 rfl inX8 (by decide) wf_X8_31 hX.1 rfl ?_
              refine xk_iload_n dX8_span_115 rfl ?_
              refine xk_iload_n dX8_span_116 rfl ?_
              refine xk_lload dX8_span_117 rfl ?_
              refine xk_lload dX8_span_119 rfl ?_
              refine xk_callV4 (M' := mX5_put) (ci := 4) (r0 := (RX5, TX5, 3)) dX8_span_121 wm_X8_83 cv_X5_put wi_X5_put wl_X5_put (by omega) (Nat.le_refl _) (Nat.le_refl _) rfl rfl hX.2.2.1.1 (Nat.le_of_ble_eq_true rfl) (y_X5_put d hn hX.2.2.1 hov ha hb hab hp02 hq02 hr02 hs02) (fun _ _ z => z.2.2.1) (fun r0 hz z => ?_)
              obtain ⟨rfl, z1, z2⟩ := z
              refine xk_iconst (1) dX8_span_124 (by decide) ?_
              refine xk_zret rfl (by rfl) dX8_span_125 (Nat.le_refl _) (Nat.le_refl _) ⟨by rw [xb_t cS], ?_, z2.mono (by unfold tbS xsS; omega)⟩
              unfold spW spN
              rw [if_pos cS, e1, e2, kA, kB, kP, kQ]
              have hz2 := hX.spn h2 z2 z1
              by_cases c : v a b = (0, 1)
              · rw [if_pos ⟨cS, c⟩]
                rw [if_pos c] at hz2
                exact hz2
              · rw [if_neg (fun q => c q.2)]
                rw [if_neg c] at hz2
                exact hz2
            · have c107 := of_decide_eq_true c106
              have cS : spOk n (nI a) (nI b) e = false := by unfold spOk; rw [cC, kA, kB, kP, kQ]; simp only [Bool.true_and, decide_eq_false_iff_not]; exact fun z => z c107
              refine xk_iconst (0) dX8_span_109 (by decide) ?_
              exact xk_zret rfl (by rfl) dX8_span_110 (Nat.le_refl _) (Nat.le_refl _) ⟨by rw [xb_f (cF (cS))], by rw [cW (cF (cS)), cN (cF (cS))]; exact hX, xfr.rf⟩
          · refine xk_iconst (0) dX8_span_75 (by decide) ?_
            exact xk_zret rfl (by rfl) dX8_span_76 (Nat.le_refl _) (Nat.le_refl _) ⟨by rw [xb_f (cF (by unfold spOk spC; simp [*]))], by rw [cW (cF (by unfold spOk spC; simp [*])), cN (cF (by unfold spOk spC; simp [*]))]; exact hX, xfr.rf⟩

