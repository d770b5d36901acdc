/-! PairScales: ways and roots. Laid by a program of our own. -/
set_option maxHeartbeats 4000000 in
set_option maxRecDepth 100000 in
/-- greatestWay, by how many things are free still -/
theorem y_X8_greatestWay (d : Nat) {hs : xk_H} {x n fl fv : Nat} {w v : tbW} (hn : n ≤ 6) (h2 : 2 ≤ n) (hX : xsA hs x n w fl v fv) (ho : tbOK n w) (hov : tbOK n v) {gl : Nat} (hgl : gl < n) : ∀ (f a m z : Nat) (p : Nat × Nat), a < n → m < 64 → z + f = n → pB z p → xk_F (d + 3 + f) mX8_greatestWay [.ref x, .int (nI a), .int (nI gl), .int (nI m), .int (nI z), .long (fr p.1 p.2)] hs (some (.long (fr (wayF v n gl f a m p).1 (wayF v n gl f a m p).2))) hs := by
  intro f
  induction f with
  | zero =>
    intro a m z p ha hm hz hp
    have hc : nI a = nI gl ↔ a = gl := nI_eq (by omega) (by omega)
    refine xk_Y.ofX (k := 7) (ls := [some (.ref x), some (.int (nI a)), some (.int (nI gl)), some (.int (nI m)), some (.int (nI z)), some (.long (fr p.1 p.2)), none, none, none, none, none, none, none, none]) (by decide) rfl rfl ?_
    refine xk_iload_n dX8_greatestWay_0 rfl ?_
    refine xk_iload_n dX8_greatestWay_1 rfl ?_
    refine xk_icmp_ne 8 dX8_greatestWay_2 (by decide) (fun c2 => ?_) (fun c2 => ?_)
    · have c3 : ¬ a = gl := fun q => c2 (hc.mpr q)
      refine xk_lconst (1) dX8_greatestWay_8 (by decide) ?_
      refine xk_lstore dX8_greatestWay_9 (by decide) ?_
      dsimp only [xk_s1, xk_s2, xk_kill]
      refine xk_iload dX8_greatestWay_11 rfl ?_
      refine xk_aload_n dX8_greatestWay_13 rfl ?_
      refine xk_get (ci := 7) (r := (RX8, TX8, 8)) 0 dX8_greatestWay_14 rfl inX8 (by decide) wf_X8_18 hX.1 rfl ?_
      refine xk_icmp_lt 23 dX8_greatestWay_17 (by decide) (fun c17 => ?_) (fun c17 => ?_)
      · exact absurd c17 (nI_nlt (by omega) (by omega))
      · refine xk_lload dX8_greatestWay_20 rfl ?_
        exact xk_lret rfl dX8_greatestWay_22 (Nat.le_refl _) (Nat.le_refl _) ⟨by rw [wayF, if_neg c3]; rfl, rfl⟩
    · have c3 : a = gl := hc.mp c2
      refine xk_lload dX8_greatestWay_5 rfl ?_
      exact xk_lret rfl dX8_greatestWay_7 (Nat.le_refl _) (Nat.le_refl _) ⟨by rw [wayF, if_pos c3], rfl⟩
  | succ f ih =>
    intro a m z p ha hm hz hp
    have hc : nI a = nI gl ↔ a = gl := nI_eq (by omega) (by omega)
    have hp6 := pB_6 (show z ≤ 6 by omega) hp
    have h96 := p9 (show z ≤ 6 by omega)
    have l26 : ¬ a = gl → ∀ (r k : Nat) (b : Nat × Nat) (o10 o12 : Option Value), k + r = n → b6 b → itr (fun k b => if m.testBit k = false ∧ tH v a k = true then maxP b (wayF v n gl f k (m ||| 2 ^ k) (mul2 p (v a k))) else b) r k b = wayF v n gl (f + 1) a m p → xk_P (d + 3 + (f + 1)) mX8_greatestWay [.ref x, .int (nI a), .int (nI gl), .int (nI m), .int (nI z), .long (fr p.1 p.2)] hs (some (.long (fr (wayF v n gl (f + 1) a m p).1 (wayF v n gl (f + 1) a m p).2))) hs 26 [some (.ref x), some (.int (nI a)), some (.int (nI gl)), some (.int (nI m)), some (.int (nI z)), some (.long (fr p.1 p.2)), none, some (.long (fr b.1 b.2)), none, some (.int (nI k)), o10, none, o12, none] [] hs := by
      intro c3 r
      induction r with
      | zero =>
        intro k b o10 o12 h1 h3 h4
        refine xk_iload dX8_greatestWay_26 rfl ?_
        refine xk_aload_n dX8_greatestWay_28 rfl ?_
        refine xk_get (ci := 7) (r := (RX8, TX8, 8)) 0 dX8_greatestWay_29 rfl inX8 (by decide) wf_X8_18 hX.1 rfl ?_
        refine xk_icmp_ge 115 dX8_greatestWay_32 (by decide) (fun c32 => ?_) (fun c32 => ?_)
        · refine xk_lload dX8_greatestWay_115 rfl ?_
          exact xk_lret rfl dX8_greatestWay_117 (Nat.le_refl _) (Nat.le_refl _) ⟨by rw [← h4]; rfl, rfl⟩
        · exact absurd (nI_le (by omega) (by omega)) c32
      | succ r ihr =>
        intro k b o10 o12 h1 h3 h4
        have hmk := mk_all m hm k (by omega)
        have hbk := hov.lt ha (show k < n by omega)
        have hqk := pB_mul hp hbk.1 hbk.2.1
        have hqk1 : p.1 * (v a k).1 ≤ 531441 := Nat.le_trans hqk.1 h96
        have hqk2 : p.2 * (v a k).2 ≤ 531441 := Nat.le_trans hqk.2 h96
        have eK := tHas_H (w := v) hn ha (show k < n by omega)
        have hy := wayF_b (goal := gl) hov hn f k (m ||| 2 ^ k) (z + 1) (mul2 p (v a k)) (by omega) (by omega) (pB_s hp hbk.1 hbk.2.1)
        have hy1 := hy.1
        have hy2 := hy.2
        have hb1 := h3.1
        have hb2 := h3.2
        refine xk_iload dX8_greatestWay_26 rfl ?_
        refine xk_aload_n dX8_greatestWay_28 rfl ?_
        refine xk_get (ci := 7) (r := (RX8, TX8, 8)) 0 dX8_greatestWay_29 rfl inX8 (by decide) wf_X8_18 hX.1 rfl ?_
        refine xk_icmp_ge 115 dX8_greatestWay_32 (by decide) (fun c32 => ?_) (fun c32 => ?_)
        · exact absurd c32 (nI_ge (by omega) (by omega))
        · refine xk_iload_n dX8_greatestWay_35 rfl ?_
          refine xk_iload dX8_greatestWay_36 rfl ?_
          refine xk_ishr dX8_greatestWay_38 ?_
          refine xk_iconst (1) dX8_greatestWay_39 (by decide) ?_
          refine xk_iand dX8_greatestWay_40 ?_
          refine xk_if_ne 109 dX8_greatestWay_41 (by decide) (fun c41 => ?_) (fun c41 => ?_)
          · have c64 : ¬ m.testBit k = false := fun q => c41 (hmk.1.mpr q)
            refine xk_iinc (nI (k + 1)) dX8_greatestWay_109 rfl (nI_1 k) (by decide) ?_
            dsimp only [xk_s1, xk_s2, xk_kill]
            refine xk_goto 26 dX8_greatestWay_112 (by decide) ?_
            first
            | (have q9 : b.1 * (wayF v n gl f k (m ||| 2 ^ k) (mul2 p (v a k))).2 < (wayF v n gl f k (m ||| 2 ^ k) (mul2 p (v a k))).1 * b.2 := c103; refine ihr (k + 1) (wayF v n gl f k (m ||| 2 ^ k) (mul2 p (v a k))) _ _ (by omega) hy ?_; rw [← h4, itr, if_pos ⟨c64, c54⟩, maxP, if_pos c103]; done)
            | (have q9 : ¬ b.1 * (wayF v n gl f k (m ||| 2 ^ k) (mul2 p (v a k))).2 < (wayF v n gl f k (m ||| 2 ^ k) (mul2 p (v a k))).1 * b.2 := c103; refine ihr (k + 1) b _ _ (by omega) h3 ?_; rw [← h4, itr, if_pos ⟨c64, c54⟩, maxP, if_neg c103]; done)
            | (have q9 : ¬ m.testBit k = false := c64; refine ihr (k + 1) b _ _ (by omega) h3 ?_; rw [← h4, itr, if_neg (fun q => c64 q.1)]; done)
            | (refine ihr (k + 1) b _ _ (by omega) h3 ?_; rw [← h4, itr, if_neg (fun q => absurd q.2 (by rw [c54]; decide))]; done)
          · have c64 : m.testBit k = false := hmk.1.mp c41
            refine xk_aload_n dX8_greatestWay_44 rfl ?_
            refine xk_get (ci := 7) (r := (RX8, TX8, 8)) 2 dX8_greatestWay_45 rfl inX8 (by decide) wf_X8_31 hX.1 rfl ?_
            refine xk_iload_n dX8_greatestWay_48 rfl ?_
            refine xk_iload dX8_greatestWay_49 rfl ?_
            refine xk_v2 (M' := mX5_holds)  (ci := 4) (r0 := (RX5, TX5, 3)) dX8_greatestWay_51 wm_X8_93 cv_X5_holds wi_X5_holds wl_X5_holds (by omega) (Nat.le_refl _) (Nat.le_refl _) rfl rfl hX.2.2.1.1 (Nat.le_of_ble_eq_true rfl) (y_X5_holds (d + f + 1) hn hX.2.2.1 hov) rfl ?_
            refine xk_ifb_eq 109 dX8_greatestWay_54 (by decide) (fun c54 => ?_) (fun c54 => ?_)
            · rw [eK] at c54
              refine xk_iinc (nI (k + 1)) dX8_greatestWay_109 rfl (nI_1 k) (by decide) ?_
              dsimp only [xk_s1, xk_s2, xk_kill]
              refine xk_goto 26 dX8_greatestWay_112 (by decide) ?_
              first
              | (have q9 : b.1 * (wayF v n gl f k (m ||| 2 ^ k) (mul2 p (v a k))).2 < (wayF v n gl f k (m ||| 2 ^ k) (mul2 p (v a k))).1 * b.2 := c103; refine ihr (k + 1) (wayF v n gl f k (m ||| 2 ^ k) (mul2 p (v a k))) _ _ (by omega) hy ?_; rw [← h4, itr, if_pos ⟨c64, c54⟩, maxP, if_pos c103]; done)
              | (have q9 : ¬ b.1 * (wayF v n gl f k (m ||| 2 ^ k) (mul2 p (v a k))).2 < (wayF v n gl f k (m ||| 2 ^ k) (mul2 p (v a k))).1 * b.2 := c103; refine ihr (k + 1) b _ _ (by omega) h3 ?_; rw [← h4, itr, if_pos ⟨c64, c54⟩, maxP, if_neg c103]; done)
              | (have q9 : ¬ m.testBit k = false := c64; refine ihr (k + 1) b _ _ (by omega) h3 ?_; rw [← h4, itr, if_neg (fun q => c64 q.1)]; done)
              | (refine ihr (k + 1) b _ _ (by omega) h3 ?_; rw [← h4, itr, if_neg (fun q => absurd q.2 (by rw [c54]; decide))]; done)
            · rw [eK] at c54
              refine xk_lload dX8_greatestWay_57 rfl ?_
              refine xk_aload_n dX8_greatestWay_59 rfl ?_
              refine xk_get (ci := 7) (r := (RX8, TX8, 8)) 2 dX8_greatestWay_60 rfl inX8 (by decide) wf_X8_31 hX.1 rfl ?_
              refine xk_iload_n dX8_greatestWay_63 rfl ?_
              refine xk_iload dX8_greatestWay_64 rfl ?_
              refine xk_v2 (M' := mX5_low)  (ci := 4) (r0 := (RX5, TX5, 3)) dX8_greatestWay_66 wm_X8_96 cv_X5_low wi_X5_low wl_X5_low (by omega) (Nat.le_refl _) (Nat.le_refl _) rfl rfl hX.2.2.1.1 (Nat.le_of_ble_eq_true rfl) (y_X5_low (d + f + 1) hn hX.2.2.1) rfl ?_
              rw [tLow_nI hn ha (show k < n by omega) (tH_ne c54)]
              refine xk_s2c (M' := mX1_times)  dX8_greatestWay_69 wm_X8_169 cv_X1_times wt_X1_times (by omega) (Nat.le_refl _) (Nat.le_refl _) (Nat.le_of_ble_eq_true rfl) (y_X1_times (d + f + 2) (by omega) (by omega) (by omega) (by omega) (by omega) (by omega)) rfl ?_
              refine xk_lstore dX8_greatestWay_72 (by decide) ?_
              dsimp only [xk_s1, xk_s2, xk_kill]
              refine xk_aload_n dX8_greatestWay_74 rfl ?_
              refine xk_iload dX8_greatestWay_75 rfl ?_
              refine xk_iload_n dX8_greatestWay_77 rfl ?_
              refine xk_iload_n dX8_greatestWay_78 rfl ?_
              refine xk_iconst (1) dX8_greatestWay_79 (by decide) ?_
              refine xk_iload dX8_greatestWay_80 rfl ?_
              refine xk_ishl dX8_greatestWay_82 ?_
              refine xk_ior dX8_greatestWay_83 ?_
              rw [hmk.2.1]
              refine xk_iload dX8_greatestWay_84 rfl ?_
              refine xk_iconst (1) dX8_greatestWay_86 (by decide) ?_
              refine xk_iadd dX8_greatestWay_87 ?_
              rw [nI_1]
              refine xk_lload dX8_greatestWay_88 rfl ?_
              refine xk_v5 (M' := mX8_greatestWay)  (ci := 7) (r0 := (RX8, TX8, 8)) dX8_greatestWay_90 wm_X8_162 cv_X8_greatestWay wi_X8_greatestWay wl_X8_greatestWay (by omega) (Nat.le_refl _) (Nat.le_refl _) rfl rfl hX.1 (Nat.le_of_ble_eq_true rfl) (ih k (m ||| 2 ^ k) (z + 1) (mul2 p (v a k)) (by omega) hmk.2.2.1 (by omega) (pB_s hp hbk.1 hbk.2.1)) rfl ?_
              refine xk_lstore dX8_greatestWay_93 (by decide) ?_
              dsimp only [xk_s1, xk_s2, xk_kill]
              refine xk_lload dX8_greatestWay_95 rfl ?_
              refine xk_lload dX8_greatestWay_97 rfl ?_
              refine xk_s2c (M' := mX1_isAbove)  dX8_greatestWay_99 wm_X8_148 cv_X1_isAbove wt_X1_isAbove (by omega) (Nat.le_refl _) (Nat.le_refl _) (Nat.le_of_ble_eq_true rfl) (y_X1_isAbove (d + f + 2) (by omega) (by omega) (by omega) (by omega)) rfl ?_
              refine xk_ifb_eq 109 dX8_greatestWay_102 (by decide) (fun c102 => ?_) (fun c102 => ?_)
              · have c103 := of_decide_eq_false c102
                refine xk_iinc (nI (k + 1)) dX8_greatestWay_109 rfl (nI_1 k) (by decide) ?_
                dsimp only [xk_s1, xk_s2, xk_kill]
                refine xk_goto 26 dX8_greatestWay_112 (by decide) ?_
                first
                | (have q9 : b.1 * (wayF v n gl f k (m ||| 2 ^ k) (mul2 p (v a k))).2 < (wayF v n gl f k (m ||| 2 ^ k) (mul2 p (v a k))).1 * b.2 := c103; refine ihr (k + 1) (wayF v n gl f k (m ||| 2 ^ k) (mul2 p (v a k))) _ _ (by omega) hy ?_; rw [← h4, itr, if_pos ⟨c64, c54⟩, maxP, if_pos c103]; done)
                | (have q9 : ¬ b.1 * (wayF v n gl f k (m ||| 2 ^ k) (mul2 p (v a k))).2 < (wayF v n gl f k (m ||| 2 ^ k) (mul2 p (v a k))).1 * b.2 := c103; refine ihr (k + 1) b _ _ (by omega) h3 ?_; rw [← h4, itr, if_pos ⟨c64, c54⟩, maxP, if_neg c103]; done)
                | (have q9 : ¬ m.testBit k = false := c64; refine ihr (k + 1) b _ _ (by omega) h3 ?_; rw [← h4, itr, if_neg (fun q => c64 q.1)]; done)
                | (refine ihr (k + 1) b _ _ (by omega) h3 ?_; rw [← h4, itr, if_neg (fun q => absurd q.2 (by rw [c54]; decide))]; done)
              · have c103 := of_decide_eq_true c102
                refine xk_lload dX8_greatestWay_105 rfl ?_
                refine xk_lstore dX8_greatestWay_107 (by decide) ?_
                dsimp only [xk_s1, xk_s2, xk_kill]
                refine xk_iinc (nI (k + 1)) dX8_greatestWay_109 rfl (nI_1 k) (by decide) ?_
                dsimp only [xk_s1, xk_s2, xk_kill]
                refine xk_goto 26 dX8_greatestWay_112 (by decide) ?_
                first
                | (have q9 : b.1 * (wayF v n gl f k (m ||| 2 ^ k) (mul2 p (v a k))).2 < (wayF v n gl f k (m ||| 2 ^ k) (mul2 p (v a k))).1 * b.2 := c103; refine ihr (k + 1) (wayF v n gl f k (m ||| 2 ^ k) (mul2 p (v a k))) _ _ (by omega) hy ?_; rw [← h4, itr, if_pos ⟨c64, c54⟩, maxP, if_pos c103]; done)
                | (have q9 : ¬ b.1 * (wayF v n gl f k (m ||| 2 ^ k) (mul2 p (v a k))).2 < (wayF v n gl f k (m ||| 2 ^ k) (mul2 p (v a k))).1 * b.2 := c103; refine ihr (k + 1) b _ _ (by omega) h3 ?_; rw [← h4, itr, if_pos ⟨c64, c54⟩, maxP, if_neg c103]; done)
                | (have q9 : ¬ m.testBit k = false := c64; refine ihr (k + 1) b _ _ (by omega) h3 ?_; rw [← h4, itr, if_neg (fun q => c64 q.1)]; done)
                | (refine ihr (k + 1) b _ _ (by omega) h3 ?_; rw [← h4, itr, if_neg (fun q => absurd q.2 (by rw [c54]; decide))]; done)
    refine xk_Y.ofX (k := 7) (ls := [some (.ref x), some (.int (nI a)), some (.int (nI gl)), some (.int (nI m)), some (.int (nI z)), some (.long (fr p.1 p.2)), none, none, none, none, none, none, none, none]) (by decide) rfl rfl ?_
    refine xk_iload_n dX8_greatestWay_0 rfl ?_
    refine xk_iload_n dX8_greatestWay_1 rfl ?_
    refine xk_icmp_ne 8 dX8_greatestWay_2 (by decide) (fun c2 => ?_) (fun c2 => ?_)
    · have c3 : ¬ a = gl := fun q => c2 (hc.mpr q)
      refine xk_lconst (1) dX8_greatestWay_8 (by decide) ?_
      rw [show (1 : Int64) = fr 0 1 from rfl]
      refine xk_lstore dX8_greatestWay_9 (by decide) ?_
      dsimp only [xk_s1, xk_s2, xk_kill]
      refine xk_iload dX8_greatestWay_11 rfl ?_
      refine xk_aload_n dX8_greatestWay_13 rfl ?_
      refine xk_get (ci := 7) (r := (RX8, TX8, 8)) 0 dX8_greatestWay_14 rfl inX8 (by decide) wf_X8_18 hX.1 rfl ?_
      refine xk_icmp_lt 23 dX8_greatestWay_17 (by decide) (fun c17 => ?_) (fun c17 => ?_)
      · refine xk_iconst (0) dX8_greatestWay_23 (by decide) ?_
        refine xk_istore dX8_greatestWay_24 (by decide) ?_
        dsimp only [xk_s1, xk_s2, xk_kill]
        exact l26 c3 n 0 (0, 1) _ _ (by omega) ⟨by decide, by decide⟩ (by rw [wayF, if_neg c3])
      · exact absurd (nI_lt (by omega) (by omega)) c17
    · have c3 : a = gl := hc.mp c2
      refine xk_lload dX8_greatestWay_5 rfl ?_
      exact xk_lret rfl dX8_greatestWay_7 (Nat.le_refl _) (Nat.le_refl _) ⟨by rw [wayF, if_pos c3], rfl⟩

set_option maxHeartbeats 4000000 in
set_option maxRecDepth 100000 in
theorem y_X8_bound (d : Nat) {hs : xk_H} {x n fl fv : Nat} {w v : tbW} (hn : n ≤ 6) (h2 : 2 ≤ n) (hX : xsA hs x n w fl v fv) (ho : tbOK n w) (hov : tbOK n v) {i j q : Int32} : xk_Y (d + 11) 0 0 mX8_bound false [.ref x, .int i, .int j, .int q] hs (fun r' h => (∃ g, gB g ∧ r' = some (.int (bndV n v (noneG (measG v n g) (n - 2) 3) i j q))) ∧ xsA h x n w fl v fv ∧ xfr (xsS x n) hs h) := by
  obtain ⟨hg0, g, hg1, hg2⟩ := hX.2.2.2.2.1
  refine xk_Y.ofX (k := 2) (ls := [some (.ref x), some (.int i), some (.int j), some (.int q), none, none]) (by decide) rfl rfl ?_
  refine xk_iload_n dX8_bound_0 rfl ?_
  refine xk_s1c (M' := mX8_isPart) (d' := (d + 10)) dX8_bound_1 wm_X8_90 cv_X8_isPart wt_X8_isPart (by omega) (Nat.le_refl _) (Nat.le_refl _) (Nat.le_of_ble_eq_true rfl) (y_X8_isPart (d + 10)) rfl ?_
  refine xk_ifb_eq 33 dX8_bound_4 (by decide) (fun c4 => ?_) (fun c4 => ?_)
  · refine xk_iconst (-1) dX8_bound_33 (by decide) ?_
    exact xk_iret rfl dX8_bound_34 (Nat.le_refl _) (Nat.le_refl _) ⟨⟨g, hg2, by rw [bndV_n (by simp [*])]⟩, hX, xfr.rf⟩
  · refine xk_aload_n dX8_bound_7 rfl ?_
    refine xk_get (ci := 7) (r := (RX8, TX8, 8)) 2 dX8_bound_8 rfl inX8 (by decide) wf_X8_31 hX.1 rfl ?_
    refine xk_iload_n dX8_bound_11 rfl ?_
    refine xk_iload_n dX8_bound_12 rfl ?_
    refine xk_v2 (M' := mX5_isPair) (d' := (d + 9) + 1) (ci := 4) (r0 := (RX5, TX5, 3)) dX8_bound_13 wm_X8_69 cv_X5_isPair wi_X5_isPair wl_X5_isPair (by omega) (Nat.le_refl _) (Nat.le_refl _) rfl rfl hX.2.2.1.1 (Nat.le_of_ble_eq_true rfl) (y_X5_isPair (d + 9) hX.2.2.1) rfl ?_
    refine xk_ifb_eq 33 dX8_bound_16 (by decide) (fun c16 => ?_) (fun c16 => ?_)
    · refine xk_iconst (-1) dX8_bound_33 (by decide) ?_
      exact xk_iret rfl dX8_bound_34 (Nat.le_refl _) (Nat.le_refl _) ⟨⟨g, hg2, by rw [bndV_n (by simp [*])]⟩, hX, xfr.rf⟩
    · refine xk_aload_n dX8_bound_19 rfl ?_
      refine xk_get (ci := 7) (r := (RX8, TX8, 8)) 4 dX8_bound_20 rfl inX8 (by decide) wf_X8_44 hX.1 rfl ?_
      refine xk_aload_n dX8_bound_23 rfl ?_
      refine xk_get (ci := 7) (r := (RX8, TX8, 8)) 2 dX8_bound_24 rfl inX8 (by decide) wf_X8_31 hX.1 rfl ?_
      refine xk_v1 (M' := mX3_noneAboveOne) (d' := d + 10) (ci := 2) (r0 := (RX3, TX3, 2)) dX8_bound_27 wm_X8_104 cv_X3_noneAboveOne wi_X3_noneAboveOne wl_X3_noneAboveOne (by omega) (Nat.le_refl _) (Nat.le_refl _) rfl rfl hX.2.2.2.2.1.1 (Nat.le_of_ble_eq_true rfl) (y_X3_noneAboveOne d hn h2 hX.2.2.1 hov hg0 hg1 hg2 (by unfold tbS; omega)) (by simp) ?_
      have hX2 := hX.rng h2 (gB_meas (g := g) hov hn hg2)
      refine xk_ifb_ne 35 dX8_bound_30 (by decide) (fun c30 => ?_) (fun c30 => ?_)
      · obtain ⟨a, b, ha, hb, hab, rfl, rfl⟩ := tPair_of hn c16
        have hmk := mk_all 0 (by decide) a (by omega)
        have e1 : (nI a).toNatClampNeg = a := nI_clamp (by omega)
        have e2 : (nI b).toNatClampNeg = b := nI_clamp (by omega)
        obtain ⟨y0, hy0⟩ : ∃ y, y = wayF v n b (n - 1) a (2 ^ a) (1, 1) := ⟨_, rfl⟩
        have hyb := wayF_b (goal := b) hov hn (n - 1) a (2 ^ a) 1 (1, 1) ha (by omega) ⟨by decide, by decide⟩
        have hyb1 := hyb.1
        have hyb2 := hyb.2
        have cC : (isPt q && tPair n (nI a) (nI b) && noneG (measG v n g) (n - 2) 3) = true := by rw [c4, c16, c30]; rfl
        refine xk_aload_n dX8_bound_35 rfl ?_
        refine xk_iload_n dX8_bound_36 rfl ?_
        refine xk_iload_n dX8_bound_37 rfl ?_
        refine xk_iconst (1) dX8_bound_38 (by decide) ?_
        refine xk_iload_n dX8_bound_39 rfl ?_
        refine xk_ishl dX8_bound_40 ?_
        rw [hmk.2.2.2]
        refine xk_iconst (1) dX8_bound_41 (by decide) ?_
        refine xk_ldc2 dX8_bound_42 wk_X8_160 ?_
        rw [show (4294967297 : Int64) = fr 1 1 from rfl]
        refine xk_v5 (M' := mX8_greatestWay)  (ci := 7) (r0 := (RX8, TX8, 8)) dX8_bound_45 wm_X8_162 cv_X8_greatestWay wi_X8_greatestWay wl_X8_greatestWay (by omega) (Nat.le_refl _) (Nat.le_refl _) rfl rfl hX2.1 (Nat.le_of_ble_eq_true rfl) (y_X8_greatestWay d hn h2 hX2 ho hov hb (n - 1) a (2 ^ a) 1 (1, 1) ha (Nat.lt_of_le_of_lt (Nat.pow_le_pow_right (by decide) (show a ≤ 5 by omega)) (by decide)) (by omega) ⟨by decide, by decide⟩) rfl ?_
        refine xk_lstore dX8_bound_48 (by decide) ?_
        dsimp only [xk_s1, xk_s2, xk_kill]
        refine xk_lload dX8_bound_50 rfl ?_
        refine xk_lconst (1) dX8_bound_52 (by decide) ?_
        refine xk_lcmp dX8_bound_53 ?_
        refine xk_if_ne 61 dX8_bound_54 (by decide) (fun c54 => ?_) (fun c54 => ?_)
        · have c55 : ¬ wayF v n b (n - 1) a (2 ^ a) (1, 1) = (0, 1) := fun z => c54 ((lg_cmp_eq _ _).mpr (by rw [z]; rfl))
          refine xk_lload dX8_bound_61 rfl ?_
          refine xk_iload_n dX8_bound_63 rfl ?_
          refine xk_s2c (M' := mX1_part) (d' := (d + 9) + 1) dX8_bound_64 wm_X8_100 cv_X1_part wt_X1_part (by omega) (Nat.le_refl _) (Nat.le_refl _) (Nat.le_of_ble_eq_true rfl) (y_X1_part (d + 9) (by omega) (by omega)) rfl ?_
          exact xk_iret rfl dX8_bound_67 (Nat.le_refl _) (Nat.le_refl _) ⟨⟨g, hg2, by unfold bndV; rw [if_pos cC, e1, e2]; first | (rw [if_pos c55]; done) | (rw [if_neg c55]; done)⟩, hX2, xfr.rf.set ⟨by omega, by omega⟩⟩
        · have c55 : wayF v n b (n - 1) a (2 ^ a) (1, 1) = (0, 1) := by
            have h9 := (fr_inj (p := (wayF v n b (n - 1) a (2 ^ a) (1, 1)).1) (q := (wayF v n b (n - 1) a (2 ^ a) (1, 1)).2) (r := 0) (s := 1) (by omega) (by omega) (by decide) (by decide)).mp ((lg_cmp_eq _ _).mp c54)
            exact Prod.ext h9.1 h9.2
          refine xk_iconst (-1) dX8_bound_57 (by decide) ?_
          refine xk_goto 67 dX8_bound_58 (by decide) ?_
          exact xk_iret rfl dX8_bound_67 (Nat.le_refl _) (Nat.le_refl _) ⟨⟨g, hg2, by unfold bndV; rw [if_pos cC, e1, e2]; first | (rw [if_pos c55]; done) | (rw [if_neg c55]; done)⟩, hX2, xfr.rf.set ⟨by omega, by omega⟩⟩
      · refine xk_iconst (-1) dX8_bound_33 (by decide) ?_
        exact xk_iret rfl dX8_bound_34 (Nat.le_refl _) (Nat.le_refl _) ⟨⟨g, hg2, by rw [bndV_n (by simp [*])]⟩, hX2, xfr.rf.set ⟨by omega, by omega⟩⟩

set_option maxHeartbeats 4000000 in
set_option maxRecDepth 100000 in
/-- sizeOfGreatestRoot -/
theorem y_X8_sizeOfGreatestRoot (d : Nat) {hs : xk_H} {x n fl fv : Nat} {w v : tbW} (hn : n ≤ 6) (h2 : 2 ≤ n) (hX : xsA hs x n w fl v fv) (ho : tbOK n w) (hov : tbOK n v) : xk_Y (d + 10) 0 0 mX8_sizeOfGreatestRoot false [.ref x] hs (fun r' h => ∃ g, gB g ∧ r' = some (.int (nI (rootF (measG w n g) (n - 2) 3 0))) ∧ xsA h x n w fl v fv ∧ xfr (xsS x n) hs h ∧ h[x + 2 * n + 6 + 1]? = some (gw n (measG w n g))) := by
  obtain ⟨hg0, g, hg1, hg2⟩ := hX.2.2.2.2.1
  have hB2 := gB_meas (g := g) ho hn hg2
  have hZ := gZ_meas (g := g) ho
  have l15 : ∀ (r z b : Nat) (h : xk_H) (o3 : Option Value), z + r = n + 1 → 3 ≤ z → b < z → (b = 0 ∨ (measG w n g b).2 < (measG w n g b).1) → rootF (measG w n g) r z b = rootF (measG w n g) (n - 2) 3 0 → xsA h x n w fl v fv → xfr (xsS x n) hs h → h[x + 2 * n + 6 + 1]? = some (gw n (measG w n g)) → xk_X (d + 10) 0 0 mX8_sizeOfGreatestRoot (xk_fx false hs) (fun r' h => ∃ g, gB g ∧ r' = some (.int (nI (rootF (measG w n g) (n - 2) 3 0))) ∧ xsA h x n w fl v fv ∧ xfr (xsS x n) hs h ∧ h[x + 2 * n + 6 + 1]? = some (gw n (measG w n g))) 0 0 15 [some (.ref x), some (.int (nI b)), some (.int (nI z)), o3, none] [] h := by
    intro r
    induction r with
    | zero =>
      intro z b h o3 h1 hz3 hbz hb0 hE hX2 hf hg
      refine xk_iload_n dX8_sizeOfGreatestRoot_15 rfl ?_
      refine xk_aload_n dX8_sizeOfGreatestRoot_16 rfl ?_
      refine xk_get (ci := 7) (r := (RX8, TX8, 8)) 0 dX8_sizeOfGreatestRoot_17 rfl inX8 (by decide) wf_X8_18 hX2.1 rfl ?_
      refine xk_icmp_gt 77 dX8_sizeOfGreatestRoot_20 (by decide) (fun c20 => ?_) (fun c20 => ?_)
      · refine xk_iload_n dX8_sizeOfGreatestRoot_77 rfl ?_
        exact xk_iret rfl dX8_sizeOfGreatestRoot_78 (Nat.le_refl _) (Nat.le_refl _) ⟨g, hg2, by rw [← hE]; rfl, hX2, hf, hg⟩
      · exact absurd (nI_lt (by omega) (by omega)) c20
    | succ r ih =>
      intro z b h o3 h1 hz3 hbz hb0 hE hX2 hf hg
      have hBz := hB2 z
      have hZz := hZ z (by omega)
      have hZb := hZ b (by omega)
      have hBb := hB2 b
      have q1 : (nI z).toNatClampNeg = z := nI_clamp (by omega)
      have q2 : (nI b).toNatClampNeg = b := nI_clamp (by omega)
      have hxy : z * b ≤ 30 := Nat.le_trans (Nat.mul_le_mul (show z ≤ 6 by omega) (show b ≤ 5 by omega)) (by decide)
      have hxy2 : b * z ≤ 30 := by rw [Nat.mul_comm]; exact hxy
      have o1 : (measG w n g z).1 ^ b * (measG w n g b).2 ^ z < 2 ^ 240 := Nat.lt_of_le_of_lt (pow_bd hZz.1 hZb.2.2 hxy) (by decide)
      have o2 : (measG w n g b).1 ^ z * (measG w n g z).2 ^ b < 2 ^ 240 := Nat.lt_of_le_of_lt (pow_bd hZb.1 hZz.2.2 hxy2) (by decide)
      obtain ⟨rt1, rt2, ⟨N1, rt3, rt4⟩, rt5, N2, rt6, rt7⟩ := hX2.2.2.2.2.2.2.2
      refine xk_iload_n dX8_sizeOfGreatestRoot_15 rfl ?_
      refine xk_aload_n dX8_sizeOfGreatestRoot_16 rfl ?_
      refine xk_get (ci := 7) (r := (RX8, TX8, 8)) 0 dX8_sizeOfGreatestRoot_17 rfl inX8 (by decide) wf_X8_18 hX2.1 rfl ?_
      refine xk_icmp_gt 77 dX8_sizeOfGreatestRoot_20 (by decide) (fun c20 => ?_) (fun c20 => ?_)
      · exact absurd c20 (nI_nlt (by omega) (by omega))
      · refine xk_aload_n dX8_sizeOfGreatestRoot_23 rfl ?_
        refine xk_get (ci := 7) (r := (RX8, TX8, 8)) 4 dX8_sizeOfGreatestRoot_24 rfl inX8 (by decide) wf_X8_44 hX2.1 rfl ?_
        refine xk_getN (ci := 2) (r := (RX3, TX3, 2)) (host := "PairScales") 1 dX8_sizeOfGreatestRoot_27 rfl inX3 (by decide) (List.mem_of_getElem? (i := 5) rfl) hX2.2.2.2.2.1.1 rfl ?_
        refine xk_iload_n dX8_sizeOfGreatestRoot_30 rfl ?_
        refine xk_lald dX8_sizeOfGreatestRoot_31 hg (vp_in_nI (by omega) (by omega)) ?_
        rw [q1]
        refine xk_lstore_n dX8_sizeOfGreatestRoot_32 (by decide) ?_
        dsimp only [xk_s1, xk_s2, xk_kill]
        refine xk_lload_n dX8_sizeOfGreatestRoot_33 rfl ?_
        refine xk_ldc2 dX8_sizeOfGreatestRoot_34 wk_X8_160 ?_
        rw [show (4294967297 : Int64) = fr 1 1 from rfl]
        refine xk_s2c (M' := mX1_isAbove) (d' := (d + 8) + 1) dX8_sizeOfGreatestRoot_37 wm_X8_148 cv_X1_isAbove wt_X1_isAbove (by omega) (Nat.le_refl _) (Nat.le_refl _) (Nat.le_of_ble_eq_true rfl) (y_X1_isAbove (d + 8) (by omega) (by omega) (by omega) (by omega)) rfl ?_
        refine xk_ifb_eq 71 dX8_sizeOfGreatestRoot_40 (by decide) (fun c40 => ?_) (fun c40 => ?_)
        · have c41 : ¬ (measG w n g z).2 < (measG w n g z).1 := by
            have := of_decide_eq_false c40
            omega
          refine xk_iinc (nI (z + 1)) dX8_sizeOfGreatestRoot_71 rfl (nI_1 z) (by decide) ?_
          dsimp only [xk_s1, xk_s2, xk_kill]
          refine xk_goto 15 dX8_sizeOfGreatestRoot_74 (by decide) ?_
          first
          | exact ih (z + 1) z _ _ (by omega) (by omega) (by omega) (Or.inr c41) (by rw [← hE, rootF, if_pos ⟨c41, Or.inl c45⟩]) hX2 hf hg
          | exact ih (z + 1) z _ _ (by omega) (by omega) (by omega) (Or.inr c41) (by rw [← hE, rootF, if_pos ⟨c41, Or.inr c66⟩]) (hX2.rot h2 o1 o2) ((hf.set ⟨by omega, by omega⟩).set ⟨by omega, by omega⟩) ((xs_ne (by omega)).trans ((xs_ne (by omega)).trans hg))
          | exact ih (z + 1) b _ _ (by omega) (by omega) (by omega) hb0 (by rw [← hE, rootF, if_neg (fun q => q.2.elim c45 (fun y => absurd (y.symm.trans c66) (by decide)))]) (hX2.rot h2 o1 o2) ((hf.set ⟨by omega, by omega⟩).set ⟨by omega, by omega⟩) ((xs_ne (by omega)).trans ((xs_ne (by omega)).trans hg))
          | exact ih (z + 1) b _ _ (by omega) (by omega) (by omega) hb0 (by rw [← hE, rootF, if_neg (fun q => c41 q.1)]) hX2 hf hg
        · have c41 : (measG w n g z).2 < (measG w n g z).1 := by
            have := of_decide_eq_true c40
            omega
          refine xk_iload_n dX8_sizeOfGreatestRoot_43 rfl ?_
          refine xk_if_eq 69 dX8_sizeOfGreatestRoot_44 (by decide) (fun c44 => ?_) (fun c44 => ?_)
          · have c45 : b = 0 := (nI_eq (b := 0) (by omega) (by decide)).mp c44
            refine xk_iload_n dX8_sizeOfGreatestRoot_69 rfl ?_
            refine xk_istore_n dX8_sizeOfGreatestRoot_70 (by decide) ?_
            dsimp only [xk_s1, xk_s2, xk_kill]
            refine xk_iinc (nI (z + 1)) dX8_sizeOfGreatestRoot_71 rfl (nI_1 z) (by decide) ?_
            dsimp only [xk_s1, xk_s2, xk_kill]
            refine xk_goto 15 dX8_sizeOfGreatestRoot_74 (by decide) ?_
            first
            | exact ih (z + 1) z _ _ (by omega) (by omega) (by omega) (Or.inr c41) (by rw [← hE, rootF, if_pos ⟨c41, Or.inl c45⟩]) hX2 hf hg
            | exact ih (z + 1) z _ _ (by omega) (by omega) (by omega) (Or.inr c41) (by rw [← hE, rootF, if_pos ⟨c41, Or.inr c66⟩]) (hX2.rot h2 o1 o2) ((hf.set ⟨by omega, by omega⟩).set ⟨by omega, by omega⟩) ((xs_ne (by omega)).trans ((xs_ne (by omega)).trans hg))
            | exact ih (z + 1) b _ _ (by omega) (by omega) (by omega) hb0 (by rw [← hE, rootF, if_neg (fun q => q.2.elim c45 (fun y => absurd (y.symm.trans c66) (by decide)))]) (hX2.rot h2 o1 o2) ((hf.set ⟨by omega, by omega⟩).set ⟨by omega, by omega⟩) ((xs_ne (by omega)).trans ((xs_ne (by omega)).trans hg))
            | exact ih (z + 1) b _ _ (by omega) (by omega) (by omega) hb0 (by rw [← hE, rootF, if_neg (fun q => c41 q.1)]) hX2 hf hg
          · have c45 : ¬ b = 0 := fun q => c44 (by rw [q]; rfl)
            have hb1 : (measG w n g b).2 < (measG w n g b).1 := hb0.resolve_left c45
            refine xk_aload_n dX8_sizeOfGreatestRoot_47 rfl ?_
            refine xk_get (ci := 7) (r := (RX8, TX8, 8)) 7 dX8_sizeOfGreatestRoot_48 rfl inX8 (by decide) wf_X8_65 hX2.1 rfl ?_
            refine xk_lload_n dX8_sizeOfGreatestRoot_51 rfl ?_
            refine xk_iload_n dX8_sizeOfGreatestRoot_52 rfl ?_
            refine xk_aload_n dX8_sizeOfGreatestRoot_53 rfl ?_
            refine xk_get (ci := 7) (r := (RX8, TX8, 8)) 4 dX8_sizeOfGreatestRoot_54 rfl inX8 (by decide) wf_X8_44 hX2.1 rfl ?_
            refine xk_getN (ci := 2) (r := (RX3, TX3, 2)) (host := "PairScales") 1 dX8_sizeOfGreatestRoot_57 rfl inX3 (by decide) (List.mem_of_getElem? (i := 5) rfl) hX2.2.2.2.2.1.1 rfl ?_
            refine xk_iload_n dX8_sizeOfGreatestRoot_60 rfl ?_
            refine xk_lald dX8_sizeOfGreatestRoot_61 hg (vp_in_nI (by omega) (by omega)) ?_
            rw [q2]
            refine xk_iload_n dX8_sizeOfGreatestRoot_62 rfl ?_
            refine xk_v4 (M' := mX4_isAbove)  (ci := 3) (r0 := (RX4, TX4, 2)) dX8_sizeOfGreatestRoot_63 wm_X8_175 cv_X4_isAbove wi_X4_isAbove wl_X4_isAbove (by omega) (Nat.le_refl _) (Nat.le_refl _) rfl rfl rt1 (Nat.le_of_ble_eq_true rfl) (y_X4_isAbove (d + 7) (N1 := N1) (N2 := N2) rt3 rt6 rt1 rt2 rt4 rt5 rt7 (by omega) (by omega) (by omega) (by omega) (by omega) (by omega) o1 o2) (by simp) ?_
            refine xk_ifb_eq 71 dX8_sizeOfGreatestRoot_66 (by decide) (fun c66 => ?_) (fun c66 => ?_)
            · refine xk_iinc (nI (z + 1)) dX8_sizeOfGreatestRoot_71 rfl (nI_1 z) (by decide) ?_
              dsimp only [xk_s1, xk_s2, xk_kill]
              refine xk_goto 15 dX8_sizeOfGreatestRoot_74 (by decide) ?_
              first
              | exact ih (z + 1) z _ _ (by omega) (by omega) (by omega) (Or.inr c41) (by rw [← hE, rootF, if_pos ⟨c41, Or.inl c45⟩]) hX2 hf hg
              | exact ih (z + 1) z _ _ (by omega) (by omega) (by omega) (Or.inr c41) (by rw [← hE, rootF, if_pos ⟨c41, Or.inr c66⟩]) (hX2.rot h2 o1 o2) ((hf.set ⟨by omega, by omega⟩).set ⟨by omega, by omega⟩) ((xs_ne (by omega)).trans ((xs_ne (by omega)).trans hg))
              | exact ih (z + 1) b _ _ (by omega) (by omega) (by omega) hb0 (by rw [← hE, rootF, if_neg (fun q => q.2.elim c45 (fun y => absurd (y.symm.trans c66) (by decide)))]) (hX2.rot h2 o1 o2) ((hf.set ⟨by omega, by omega⟩).set ⟨by omega, by omega⟩) ((xs_ne (by omega)).trans ((xs_ne (by omega)).trans hg))
              | exact ih (z + 1) b _ _ (by omega) (by omega) (by omega) hb0 (by rw [← hE, rootF, if_neg (fun q => c41 q.1)]) hX2 hf hg
            · refine xk_iload_n dX8_sizeOfGreatestRoot_69 rfl ?_
              refine xk_istore_n dX8_sizeOfGreatestRoot_70 (by decide) ?_
              dsimp only [xk_s1, xk_s2, xk_kill]
              refine xk_iinc (nI (z + 1)) dX8_sizeOfGreatestRoot_71 rfl (nI_1 z) (by decide) ?_
              dsimp only [xk_s1, xk_s2, xk_kill]
              refine xk_goto 15 dX8_sizeOfGreatestRoot_74 (by decide) ?_
              first
              | exact ih (z + 1) z _ _ (by omega) (by omega) (by omega) (Or.inr c41) (by rw [← hE, rootF, if_pos ⟨c41, Or.inl c45⟩]) hX2 hf hg
              | exact ih (z + 1) z _ _ (by omega) (by omega) (by omega) (Or.inr c41) (by rw [← hE, rootF, if_pos ⟨c41, Or.inr c66⟩]) (hX2.rot h2 o1 o2) ((hf.set ⟨by omega, by omega⟩).set ⟨by omega, by omega⟩) ((xs_ne (by omega)).trans ((xs_ne (by omega)).trans hg))
              | exact ih (z + 1) b _ _ (by omega) (by omega) (by omega) hb0 (by rw [← hE, rootF, if_neg (fun q => q.2.elim c45 (fun y => absurd (y.symm.trans c66) (by decide)))]) (hX2.rot h2 o1 o2) ((hf.set ⟨by omega, by omega⟩).set ⟨by omega, by omega⟩) ((xs_ne (by omega)).trans ((xs_ne (by omega)).trans hg))
              | exact ih (z + 1) b _ _ (by omega) (by omega) (by omega) hb0 (by rw [← hE, rootF, if_neg (fun q => c41 q.1)]) hX2 hf hg
  refine xk_Y.ofX (k := 4) (ls := [some (.ref x), none, none, none, none]) (by decide) rfl rfl ?_
  refine xk_aload_n dX8_sizeOfGreatestRoot_0 rfl ?_
  refine xk_get (ci := 7) (r := (RX8, TX8, 8)) 4 dX8_sizeOfGreatestRoot_1 rfl inX8 (by decide) wf_X8_44 hX.1 rfl ?_
  refine xk_aload_n dX8_sizeOfGreatestRoot_4 rfl ?_
  refine xk_get (ci := 7) (r := (RX8, TX8, 8)) 1 dX8_sizeOfGreatestRoot_5 rfl inX8 (by decide) wf_X8_27 hX.1 rfl ?_
  refine xk_v1n (M' := mX3_measure) (d' := d + 9) (ci := 2) (r0 := (RX3, TX3, 2)) dX8_sizeOfGreatestRoot_8 wm_X8_172 cv_X3_measure wi_X3_measure wl_X3_measure (by omega) (Nat.le_refl _) (Nat.le_refl _) rfl rfl hX.2.2.2.2.1.1 (Nat.le_of_ble_eq_true rfl) (y_X3_measure d hn h2 hX.2.1 ho hg0 hg1 hg2 (by unfold tbS; omega)) (by simp) ?_
  refine xk_iconst (0) dX8_sizeOfGreatestRoot_11 (by decide) ?_
  refine xk_istore_n dX8_sizeOfGreatestRoot_12 (by decide) ?_
  dsimp only [xk_s1, xk_s2, xk_kill]
  refine xk_iconst (3) dX8_sizeOfGreatestRoot_13 (by decide) ?_
  refine xk_istore_n dX8_sizeOfGreatestRoot_14 (by decide) ?_
  dsimp only [xk_s1, xk_s2, xk_kill]
  exact l15 (n - 2) 3 0 _ _ (by omega) (by omega) (by omega) (Or.inl rfl) rfl (hX.rng h2 hB2) (xfr.rf.set ⟨by omega, by omega⟩) (xs_at hg1)

set_option maxHeartbeats 4000000 in
set_option maxRecDepth 100000 in
theorem y_X8_least (d : Nat) {hs : xk_H} {x n fl fv : Nat} {w v : tbW} (hn : n ≤ 6) (h2 : 2 ≤ n) (hX : xsA hs x n w fl v fv) (ho : tbOK n w) (hov : tbOK n v) {q : Int32} : xk_Y (d + 11) 0 0 mX8_least false [.ref x, .int q] hs (fun r' h => (∃ g, gB g ∧ r' = some (.int (leaV (measG w n g) n q))) ∧ xsA h x n w fl v fv ∧ xfr (xsS x n) hs h) := by
  obtain ⟨-, g1, -, hg3⟩ := hX.2.2.2.2.1
  refine xk_Y.ofX (k := 1) (ls := [some (.ref x), some (.int q), none]) (by decide) rfl rfl ?_
  refine xk_iload_n dX8_least_0 rfl ?_
  refine xk_if_lt 9 dX8_least_1 (by decide) (fun c1 => ?_) (fun c1 => ?_)
  · have cq : ¬ ((0 ≤ q ∧ q ≤ 2)) := fun z => absurd z.1 (Int32.not_le.mpr c1)
    refine xk_iconst (-1) dX8_least_9 (by decide) ?_
    exact xk_iret rfl dX8_least_10 (Nat.le_refl _) (Nat.le_refl _) ⟨⟨g1, hg3, by unfold leaV; rw [if_neg cq]⟩, hX, xfr.rf⟩
  · refine xk_iload_n dX8_least_4 rfl ?_
    refine xk_iconst (2) dX8_least_5 (by decide) ?_
    refine xk_icmp_le 11 dX8_least_6 (by decide) (fun c6 => ?_) (fun c6 => ?_)
    · refine xk_aload_n dX8_least_11 rfl ?_
      refine xk_callV0 (M' := mX8_sizeOfGreatestRoot) (ci := 7) (r0 := (RX8, TX8, 8)) dX8_least_12 wm_X8_152 cv_X8_sizeOfGreatestRoot wi_X8_sizeOfGreatestRoot wl_X8_sizeOfGreatestRoot (by omega) (Nat.le_refl _) (Nat.le_refl _) rfl rfl hX.1 (Nat.le_of_ble_eq_true rfl) (y_X8_sizeOfGreatestRoot d hn h2 hX ho hov) (fun _ _ z => by obtain ⟨_, _, _, _, z5, _⟩ := z; exact z5.1) (fun r0 hz z => ?_)
      obtain ⟨g, hg2, rfl, hX2, hf, hg⟩ := z
      have hle : rootF (measG w n g) (n - 2) 3 0 ≤ n := rootF_le (n - 2) 3 0 (by omega) (by omega)
      have hBm := gB_meas (g := g) ho hn hg2 (rootF (measG w n g) (n - 2) 3 0)
      have cR : 0 ≤ q ∧ q ≤ 2 := ⟨Int32.not_lt.mp c1, c6⟩
      refine xk_istore_n dX8_least_15 (by decide) ?_
      dsimp only [xk_s1, xk_s2, xk_kill]
      refine xk_iload_n dX8_least_16 rfl ?_
      refine xk_iconst (2) dX8_least_17 (by decide) ?_
      refine xk_icmp_ne 23 dX8_least_18 (by decide) (fun c18 => ?_) (fun c18 => ?_)
      · refine xk_iload_n dX8_least_23 rfl ?_
        refine xk_if_ne 31 dX8_least_24 (by decide) (fun c24 => ?_) (fun c24 => ?_)
        · have c25 : ¬ rootF (measG w n g) (n - 2) 3 0 = 0 := fun z => c24 (by rw [z]; rfl)
          refine xk_aload_n dX8_least_31 rfl ?_
          refine xk_get (ci := 7) (r := (RX8, TX8, 8)) 4 dX8_least_32 rfl inX8 (by decide) wf_X8_44 hX2.1 rfl ?_
          refine xk_getN (ci := 2) (r := (RX3, TX3, 2)) (host := "PairScales") 1 dX8_least_35 rfl inX3 (by decide) (List.mem_of_getElem? (i := 5) rfl) hX2.2.2.2.2.1.1 rfl ?_
          refine xk_iload_n dX8_least_38 rfl ?_
          refine xk_lald dX8_least_39 hg (vp_in_nI (by omega) (by omega)) ?_
          rw [nI_clamp (by omega)]
          refine xk_iload_n dX8_least_40 rfl ?_
          refine xk_s2c (M' := mX1_part) (d' := (d + 9) + 1) dX8_least_41 wm_X8_100 cv_X1_part wt_X1_part (by omega) (Nat.le_refl _) (Nat.le_refl _) (Nat.le_of_ble_eq_true rfl) (y_X1_part (d + 9) (by omega) (by omega)) rfl ?_
          exact xk_iret rfl dX8_least_44 (Nat.le_refl _) (Nat.le_refl _) ⟨⟨g, hg2, by first | rw [leaV_1 cR c18 c25] | rw [leaV_0 cR c18 c25]⟩, hX2, hf⟩
        · have c25 : rootF (measG w n g) (n - 2) 3 0 = 0 := (nI_eq (b := 0) (by omega) (by decide)).mp c24
          refine xk_iconst (1) dX8_least_27 (by decide) ?_
          refine xk_goto 44 dX8_least_28 (by decide) ?_
          exact xk_iret rfl dX8_least_44 (Nat.le_refl _) (Nat.le_refl _) ⟨⟨g, hg2, by first | rw [leaV_1 cR c18 c25] | rw [leaV_0 cR c18 c25]⟩, hX2, hf⟩
      · refine xk_iload_n dX8_least_21 rfl ?_
        exact xk_iret rfl dX8_least_22 (Nat.le_refl _) (Nat.le_refl _) ⟨⟨g, hg2, by rw [leaV_2 cR c18]⟩, hX2, hf⟩
    · have cq : ¬ ((0 ≤ q ∧ q ≤ 2)) := fun z => absurd z.2 c6
      refine xk_iconst (-1) dX8_least_9 (by decide) ?_
      exact xk_iret rfl dX8_least_10 (Nat.le_refl _) (Nat.le_refl _) ⟨⟨g1, hg3, by unfold leaV; rw [if_neg cq]⟩, hX, xfr.rf⟩

