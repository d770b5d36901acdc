/-! Rings: contracts. Laid by a program of our own. -/
set_option maxHeartbeats 4000000 in
set_option maxRecDepth 100000 in
theorem y_X3_close (d : Nat) {hs : xk_H} {u n z : Nat} {g : gS} {p : Nat × Nat} (hn : n ≤ 6) (hz : z ≤ n) (hu : hs[u]? = some (.inr (2, [.int (nI n), .ref (u + 1)]))) (hg : hs[u + 1]? = some (gw n g)) (hB : gB g) (h1 : p.1 ≤ 531441) (h2 : p.2 ≤ 531441) : xk_F (d + 2) mX3_close [.ref u, .int (nI z), .long (fr p.1 p.2)] hs none (hs.set (u + 1) (gw n (closeG g z p))) := by
  have hBz := hB z
  have q1 : vp_in (nI z) (n + 1) := vp_in_nI (by omega) (by omega)
  have q2 : (nI z).toNatClampNeg = z := nI_clamp (by omega)
  refine xk_Y.ofX (k := 0) (ls := [some (.ref u), some (.int (nI z)), some (.long (fr p.1 p.2)), none]) (by decide) rfl rfl ?_
  refine xk_iload_n dX3_close_0 rfl ?_
  refine xk_aload_n dX3_close_1 rfl ?_
  refine xk_get (ci := 2) (r := (RX3, TX3, 2)) 1 dX3_close_2 rfl inX3 (by decide) wf_X3_15 hu rfl ?_
  refine xk_alen dX3_close_5 hg (by decide) rfl ?_
  refine xk_icmp_ge 29 dX3_close_6 (by decide) (fun c6 => ?_) (fun c6 => ?_)
  · exact absurd c6 (nI_ge (by omega) (by omega))
  · refine xk_lload_n dX3_close_9 rfl ?_
    refine xk_aload_n dX3_close_10 rfl ?_
    refine xk_get (ci := 2) (r := (RX3, TX3, 2)) 1 dX3_close_11 rfl inX3 (by decide) wf_X3_15 hu rfl ?_
    refine xk_iload_n dX3_close_14 rfl ?_
    refine xk_lald dX3_close_15 hg q1 ?_
    rw [q2]
    refine xk_s2c (M' := mX1_isAbove) (d' := d + 1) dX3_close_16 wm_X3_27 cv_X1_isAbove wt_X1_isAbove (by omega) (Nat.le_refl _) (Nat.le_refl _) (Nat.le_of_ble_eq_true rfl) (y_X1_isAbove d (by omega) (by omega) (by omega) (by omega)) rfl ?_
    refine xk_ifb_eq 29 dX3_close_19 (by decide) (fun c19 => ?_) (fun c19 => ?_)
    · have c20 := of_decide_eq_false c19
      exact xk_vret rfl dX3_close_29 (Nat.le_refl _) (Nat.le_refl _) ⟨rfl, by first | (unfold closeG; rw [if_pos c20]) | (unfold closeG; rw [if_neg c20]; exact (xs_same hg).symm)⟩
    · have c20 := of_decide_eq_true c19
      refine xk_aload_n dX3_close_22 rfl ?_
      refine xk_get (ci := 2) (r := (RX3, TX3, 2)) 1 dX3_close_23 rfl inX3 (by decide) wf_X3_15 hu rfl ?_
      refine xk_iload_n dX3_close_26 rfl ?_
      refine xk_lload_n dX3_close_27 rfl ?_
      refine xk_last dX3_close_28 hg q1 ?_
      rw [q2, gUp_w]
      exact xk_vret rfl dX3_close_29 (Nat.le_refl _) (Nat.le_refl _) ⟨rfl, by first | (unfold closeG; rw [if_pos c20]) | (unfold closeG; rw [if_neg c20]; exact (xs_same hg).symm)⟩

set_option maxHeartbeats 4000000 in
set_option maxRecDepth 100000 in
/-- extend, by how many things are free still -/
theorem y_X3_extend (d : Nat) {t n fl u a : Nat} {w : tbW} (hn : n ≤ 6) (ho : tbOK n w) (ha : a < n) (hut : ¬ tbS t n (u + 1)) : ∀ (f b m z : Nat) (p : Nat × Nat) (g : gS) (hs : xk_H), tbA hs t n w fl → hs[u]? = some (.inr (2, [.int (nI n), .ref (u + 1)])) → hs[u + 1]? = some (gw n g) → gB g → b < n → m < 64 → z + f = n → 1 ≤ z → pB z p →
    xk_F (d + 3 + f) mX3_extend [.ref u, .ref t, .int (nI a), .int (nI b), .int (nI m), .int (nI z), .long (fr p.1 p.2)] hs none (hs.set (u + 1) (gw n (extG w n a f b m z p g))) := by
  intro f
  induction f with
  | zero =>
    intro b m z p g hs hT hu hg hB hb hm hz hz1 hp
    have hT2 : ∀ e : xk_C, tbA (hs.set (u + 1) e) t n w fl := fun e => hT.set1 hut
    have hu2 : ∀ e : xk_C, (hs.set (u + 1) e)[u]? = some (.inr (2, [.int (nI n), .ref (u + 1)])) := fun e => (xs_ne (by omega)).trans hu
    have hp6 := pB_6 (show z ≤ 6 by omega) hp
    have hba := ho.lt hb ha
    have hq := pB_mul hp hba.1 hba.2.1
    have h96 := p9 (show z ≤ 6 by omega)
    have hq1 : (mul2 p (w b a)).1 ≤ 531441 := by omega
    have hq2 : (mul2 p (w b a)).2 ≤ 531441 := by omega
    have eH := tHas_H (w := w) hn hb ha
    have hq3 : p.1 * (w b a).1 ≤ 531441 := hq1
    have hq4 : p.2 * (w b a).2 ≤ 531441 := hq2
    have j32 : ∀ h : xk_H, h = hs.set (u + 1) (gw n (clG w a b z p g)) → xk_P (d + 3 + 0) mX3_extend [.ref u, .ref t, .int (nI a), .int (nI b), .int (nI m), .int (nI z), .long (fr p.1 p.2)] hs none (hs.set (u + 1) (gw n (extG w n a 0 b m z p g))) 32 [some (.ref u), some (.ref t), some (.int (nI a)), some (.int (nI b)), some (.int (nI m)), some (.int (nI z)), some (.long (fr p.1 p.2)), none, none, none, none] [] h := by
      intro h eh
      subst eh
      refine xk_iload dX3_extend_32 rfl ?_
      refine xk_aload_n dX3_extend_34 rfl ?_
      refine xk_get (ci := 2) (r := (RX3, TX3, 2)) 0 dX3_extend_35 rfl inX3 (by decide) wf_X3_9 (hu2 _) rfl ?_
      refine xk_icmp_lt 42 dX3_extend_38 (by decide) (fun c38 => ?_) (fun c38 => ?_)
      · exact absurd c38 (nI_nlt (by omega) (by omega))
      · exact xk_vret rfl dX3_extend_41 (Nat.le_refl _) (Nat.le_refl _) ⟨rfl, rfl⟩
    refine xk_Y.ofX (k := 3) (ls := [some (.ref u), some (.ref t), some (.int (nI a)), some (.int (nI b)), some (.int (nI m)), some (.int (nI z)), some (.long (fr p.1 p.2)), none, none, none, none]) (by decide) rfl rfl ?_
    refine xk_iload dX3_extend_0 rfl ?_
    refine xk_iconst (3) dX3_extend_2 (by decide) ?_
    refine xk_icmp_lt 32 dX3_extend_3 (by decide) (fun c3 => ?_) (fun c3 => ?_)
    · have c4 : ¬ 3 ≤ z := by
        intro q
        exact absurd c3 (nI_nlt (a := z) (b := 3) q (by omega))
      first | exact j32 _ (by unfold clG; rw [if_neg (by omega)]; exact (xs_same hg).symm) | exact j32 _ (by unfold clG; rw [if_neg (by rw [c12]; exact fun q => absurd q.2 (by decide))]; exact (xs_same hg).symm) | exact j32 _ (by unfold clG; rw [if_pos ⟨c4, c12⟩])
    · have c4 : 3 ≤ z := by
        rcases Nat.lt_or_ge z 3 with q | q
        · exact absurd (nI_lt (b := 3) q (by decide)) c3
        · exact q
      refine xk_aload_n dX3_extend_6 rfl ?_
      refine xk_iload_n dX3_extend_7 rfl ?_
      refine xk_iload_n dX3_extend_8 rfl ?_
      refine xk_v2 (M' := mX5_holds)  (ci := 4) (r0 := (RX5, TX5, 3)) dX3_extend_9 wm_X3_41 cv_X5_holds wi_X5_holds wl_X5_holds (by omega) (Nat.le_refl _) (Nat.le_refl _) rfl rfl hT.1 (Nat.le_of_ble_eq_true rfl) (y_X5_holds (d + 0) hn hT ho) rfl ?_
      refine xk_ifb_eq 32 dX3_extend_12 (by decide) (fun c12 => ?_) (fun c12 => ?_)
      · rw [eH] at c12
        first | exact j32 _ (by unfold clG; rw [if_neg (by omega)]; exact (xs_same hg).symm) | exact j32 _ (by unfold clG; rw [if_neg (by rw [c12]; exact fun q => absurd q.2 (by decide))]; exact (xs_same hg).symm) | exact j32 _ (by unfold clG; rw [if_pos ⟨c4, c12⟩])
      · rw [eH] at c12
        refine xk_aload_n dX3_extend_15 rfl ?_
        refine xk_iload dX3_extend_16 rfl ?_
        refine xk_lload dX3_extend_18 rfl ?_
        refine xk_aload_n dX3_extend_20 rfl ?_
        refine xk_iload_n dX3_extend_21 rfl ?_
        refine xk_iload_n dX3_extend_22 rfl ?_
        refine xk_v2 (M' := mX5_low)  (ci := 4) (r0 := (RX5, TX5, 3)) dX3_extend_23 wm_X3_47 cv_X5_low wi_X5_low wl_X5_low (by omega) (Nat.le_refl _) (Nat.le_refl _) rfl rfl hT.1 (Nat.le_of_ble_eq_true rfl) (y_X5_low (d + 0) hn hT) rfl ?_
        rw [tLow_nI hn hb ha (tH_ne c12)]
        refine xk_s2c (M' := mX1_times)  dX3_extend_26 wm_X3_51 cv_X1_times wt_X1_times (by omega) (Nat.le_refl _) (Nat.le_refl _) (Nat.le_of_ble_eq_true rfl) (y_X1_times (d + 0 + 1) (by omega) (by omega) (by omega) (by omega) (by omega) (by omega)) rfl ?_
        refine xk_v2n (M' := mX3_close)  (ci := 2) (r0 := (RX3, TX3, 2)) dX3_extend_29 wm_X3_55 cv_X3_close wi_X3_close wl_X3_close (by omega) (Nat.le_refl _) (Nat.le_refl _) rfl rfl hu (Nat.le_of_ble_eq_true rfl) (y_X3_close (d + 0) (p := mul2 p (w b a)) hn (by omega) hu hg hB hq1 hq2) (by simp) ?_
        first | exact j32 _ (by unfold clG; rw [if_neg (by omega)]; exact (xs_same hg).symm) | exact j32 _ (by unfold clG; rw [if_neg (by rw [c12]; exact fun q => absurd q.2 (by decide))]; exact (xs_same hg).symm) | exact j32 _ (by unfold clG; rw [if_pos ⟨c4, c12⟩])
  | succ f ih =>
    intro b m z p g hs hT hu hg hB hb hm hz hz1 hp
    have hT2 : ∀ e : xk_C, tbA (hs.set (u + 1) e) t n w fl := fun e => hT.set1 hut
    have hu2 : ∀ e : xk_C, (hs.set (u + 1) e)[u]? = some (.inr (2, [.int (nI n), .ref (u + 1)])) := fun e => (xs_ne (by omega)).trans hu
    have hp6 := pB_6 (show z ≤ 6 by omega) hp
    have hba := ho.lt hb ha
    have hq := pB_mul hp hba.1 hba.2.1
    have h96 := p9 (show z ≤ 6 by omega)
    have hq1 : (mul2 p (w b a)).1 ≤ 531441 := by omega
    have hq2 : (mul2 p (w b a)).2 ≤ 531441 := by omega
    have eH := tHas_H (w := w) hn hb ha
    have hq3 : p.1 * (w b a).1 ≤ 531441 := hq1
    have hq4 : p.2 * (w b a).2 ≤ 531441 := hq2
    have l47 : ∀ (r k : Nat) (g1 : gS) (o : Option Value), k + r = n → a < k → gB g1 → itr (fun k g => if m.testBit k = false ∧ tH w b k = true then extG w n a f k (m ||| 2 ^ k) (z + 1) (mul2 p (w b k)) g else g) r k g1 = extG w n a (f + 1) b m z p g → xk_P (d + 3 + (f + 1)) mX3_extend [.ref u, .ref t, .int (nI a), .int (nI b), .int (nI m), .int (nI z), .long (fr p.1 p.2)] hs none (hs.set (u + 1) (gw n (extG w n a (f + 1) b m z p g))) 47 [some (.ref u), some (.ref t), some (.int (nI a)), some (.int (nI b)), some (.int (nI m)), some (.int (nI z)), some (.long (fr p.1 p.2)), none, some (.int (nI k)), o, none] [] (hs.set (u + 1) (gw n g1)) := by
      intro r
      induction r with
      | zero =>
        intro k g1 o h1 h2 h3 h4
        refine xk_iload dX3_extend_47 rfl ?_
        refine xk_aload_n dX3_extend_49 rfl ?_
        refine xk_get (ci := 2) (r := (RX3, TX3, 2)) 0 dX3_extend_50 rfl inX3 (by decide) wf_X3_9 (hu2 _) rfl ?_
        refine xk_icmp_ge 117 dX3_extend_53 (by decide) (fun c53 => ?_) (fun c53 => ?_)
        · exact xk_vret rfl dX3_extend_117 (Nat.le_refl _) (Nat.le_refl _) ⟨rfl, by rw [← h4]; rfl⟩
        · exact absurd (nI_le (by omega) (by omega)) c53
      | succ r ihr =>
        intro k g1 o h1 h2 h3 h4
        have hmk := mk_all m hm k (by omega)
        have hbk := ho.lt hb (show k < n by omega)
        have hqk := pB_mul hp hbk.1 hbk.2.1
        have hqk1 : p.1 * (w b k).1 ≤ 531441 := Nat.le_trans hqk.1 h96
        have hqk2 : p.2 * (w b k).2 ≤ 531441 := Nat.le_trans hqk.2 h96
        have eK := tHas_H (w := w) hn hb (show k < n by omega)
        refine xk_iload dX3_extend_47 rfl ?_
        refine xk_aload_n dX3_extend_49 rfl ?_
        refine xk_get (ci := 2) (r := (RX3, TX3, 2)) 0 dX3_extend_50 rfl inX3 (by decide) wf_X3_9 (hu2 _) rfl ?_
        refine xk_icmp_ge 117 dX3_extend_53 (by decide) (fun c53 => ?_) (fun c53 => ?_)
        · exact absurd c53 (nI_ge (by omega) (by omega))
        · refine xk_iload dX3_extend_56 rfl ?_
          refine xk_iload dX3_extend_58 rfl ?_
          refine xk_ishr dX3_extend_60 ?_
          refine xk_iconst (1) dX3_extend_61 (by decide) ?_
          refine xk_iand dX3_extend_62 ?_
          refine xk_if_ne 111 dX3_extend_63 (by decide) (fun c63 => ?_) (fun c63 => ?_)
          · have c64 : ¬ m.testBit k = false := fun q => c63 (hmk.1.mpr q)
            refine xk_iinc (nI (k + 1)) dX3_extend_111 rfl (nI_1 k) (by decide) ?_
            dsimp only [xk_s1, xk_s2, xk_kill]
            refine xk_goto 47 dX3_extend_114 (by decide) ?_
            first
            | (refine ihr (k + 1) _ _ (by omega) (by omega) (gB_ext ho hn ha f k _ (z + 1) _ _ (by omega) (by omega) (pB_s hp hbk.1 hbk.2.1) h3) ?_; rw [← h4, itr, if_pos ⟨c64, c73⟩]; done)
            | (refine ihr (k + 1) _ _ (by omega) (by omega) h3 ?_; rw [← h4, itr, if_neg (fun q => c64 q.1)]; done)
            | (refine ihr (k + 1) _ _ (by omega) (by omega) h3 ?_; rw [← h4, itr, if_neg (fun q => absurd q.2 (by rw [c73]; decide))]; done)
          · have c64 : m.testBit k = false := hmk.1.mp c63
            refine xk_aload_n dX3_extend_66 rfl ?_
            refine xk_iload_n dX3_extend_67 rfl ?_
            refine xk_iload dX3_extend_68 rfl ?_
            refine xk_v2 (M' := mX5_holds)  (ci := 4) (r0 := (RX5, TX5, 3)) dX3_extend_70 wm_X3_41 cv_X5_holds wi_X5_holds wl_X5_holds (by omega) (Nat.le_refl _) (Nat.le_refl _) rfl rfl (hT2 _).1 (Nat.le_of_ble_eq_true rfl) (y_X5_holds (d + f + 1) hn (hT2 _) ho) rfl ?_
            refine xk_ifb_eq 111 dX3_extend_73 (by decide) (fun c73 => ?_) (fun c73 => ?_)
            · rw [eK] at c73
              refine xk_iinc (nI (k + 1)) dX3_extend_111 rfl (nI_1 k) (by decide) ?_
              dsimp only [xk_s1, xk_s2, xk_kill]
              refine xk_goto 47 dX3_extend_114 (by decide) ?_
              first
              | (refine ihr (k + 1) _ _ (by omega) (by omega) (gB_ext ho hn ha f k _ (z + 1) _ _ (by omega) (by omega) (pB_s hp hbk.1 hbk.2.1) h3) ?_; rw [← h4, itr, if_pos ⟨c64, c73⟩]; done)
              | (refine ihr (k + 1) _ _ (by omega) (by omega) h3 ?_; rw [← h4, itr, if_neg (fun q => c64 q.1)]; done)
              | (refine ihr (k + 1) _ _ (by omega) (by omega) h3 ?_; rw [← h4, itr, if_neg (fun q => absurd q.2 (by rw [c73]; decide))]; done)
            · rw [eK] at c73
              refine xk_lload dX3_extend_76 rfl ?_
              refine xk_aload_n dX3_extend_78 rfl ?_
              refine xk_iload_n dX3_extend_79 rfl ?_
              refine xk_iload dX3_extend_80 rfl ?_
              refine xk_v2 (M' := mX5_low)  (ci := 4) (r0 := (RX5, TX5, 3)) dX3_extend_82 wm_X3_47 cv_X5_low wi_X5_low wl_X5_low (by omega) (Nat.le_refl _) (Nat.le_refl _) rfl rfl (hT2 _).1 (Nat.le_of_ble_eq_true rfl) (y_X5_low (d + f + 1) hn (hT2 _)) rfl ?_
              rw [tLow_nI hn hb (show k < n by omega) (tH_ne c73)]
              refine xk_s2c (M' := mX1_times)  dX3_extend_85 wm_X3_51 cv_X1_times wt_X1_times (by omega) (Nat.le_refl _) (Nat.le_refl _) (Nat.le_of_ble_eq_true rfl) (y_X1_times (d + f + 2) (by omega) (by omega) (by omega) (by omega) (by omega) (by omega)) rfl ?_
              refine xk_lstore dX3_extend_88 (by decide) ?_
              dsimp only [xk_s1, xk_s2, xk_kill]
              refine xk_aload_n dX3_extend_90 rfl ?_
              refine xk_aload_n dX3_extend_91 rfl ?_
              refine xk_iload_n dX3_extend_92 rfl ?_
              refine xk_iload dX3_extend_93 rfl ?_
              refine xk_iload dX3_extend_95 rfl ?_
              refine xk_iconst (1) dX3_extend_97 (by decide) ?_
              refine xk_iload dX3_extend_98 rfl ?_
              refine xk_ishl dX3_extend_100 ?_
              refine xk_ior dX3_extend_101 ?_
              rw [hmk.2.1]
              refine xk_iload dX3_extend_102 rfl ?_
              refine xk_iconst (1) dX3_extend_104 (by decide) ?_
              refine xk_iadd dX3_extend_105 ?_
              rw [nI_1]
              refine xk_lload dX3_extend_106 rfl ?_
              refine xk_v6n (M' := mX3_extend)  (ci := 2) (r0 := (RX3, TX3, 2)) dX3_extend_108 wm_X3_37 cv_X3_extend wi_X3_extend wl_X3_extend (by omega) (Nat.le_refl _) (Nat.le_refl _) rfl rfl (hu2 _) (Nat.le_of_ble_eq_true rfl) (ih k (m ||| 2 ^ k) (z + 1) (mul2 p (w b k)) g1 _ (hT2 _) (hu2 _) (xs_at hg) h3 (by omega) hmk.2.2.1 (by omega) (by omega) (pB_s hp hbk.1 hbk.2.1)) (by simp) ?_
              rw [List.set_set]
              refine xk_iinc (nI (k + 1)) dX3_extend_111 rfl (nI_1 k) (by decide) ?_
              dsimp only [xk_s1, xk_s2, xk_kill]
              refine xk_goto 47 dX3_extend_114 (by decide) ?_
              first
              | (refine ihr (k + 1) _ _ (by omega) (by omega) (gB_ext ho hn ha f k _ (z + 1) _ _ (by omega) (by omega) (pB_s hp hbk.1 hbk.2.1) h3) ?_; rw [← h4, itr, if_pos ⟨c64, c73⟩]; done)
              | (refine ihr (k + 1) _ _ (by omega) (by omega) h3 ?_; rw [← h4, itr, if_neg (fun q => c64 q.1)]; done)
              | (refine ihr (k + 1) _ _ (by omega) (by omega) h3 ?_; rw [← h4, itr, if_neg (fun q => absurd q.2 (by rw [c73]; decide))]; done)
    have j32 : ∀ h : xk_H, h = hs.set (u + 1) (gw n (clG w a b z p g)) → xk_P (d + 3 + (f + 1)) mX3_extend [.ref u, .ref t, .int (nI a), .int (nI b), .int (nI m), .int (nI z), .long (fr p.1 p.2)] hs none (hs.set (u + 1) (gw n (extG w n a (f + 1) b m z p g))) 32 [some (.ref u), some (.ref t), some (.int (nI a)), some (.int (nI b)), some (.int (nI m)), some (.int (nI z)), some (.long (fr p.1 p.2)), none, none, none, none] [] h := by
      intro h eh
      subst eh
      refine xk_iload dX3_extend_32 rfl ?_
      refine xk_aload_n dX3_extend_34 rfl ?_
      refine xk_get (ci := 2) (r := (RX3, TX3, 2)) 0 dX3_extend_35 rfl inX3 (by decide) wf_X3_9 (hu2 _) rfl ?_
      refine xk_icmp_lt 42 dX3_extend_38 (by decide) (fun c38 => ?_) (fun c38 => ?_)
      · refine xk_iload_n dX3_extend_42 rfl ?_
        refine xk_iconst (1) dX3_extend_43 (by decide) ?_
        refine xk_iadd dX3_extend_44 ?_
        rw [nI_1]
        refine xk_istore dX3_extend_45 (by decide) ?_
        dsimp only [xk_s1, xk_s2, xk_kill]
        refine l47 (n - (a + 1)) (a + 1) _ _ (by omega) (by omega) (gB_cl ho ha hb (by omega) hp hB) rfl
      · exact absurd (nI_lt (by omega) (by omega)) c38
    refine xk_Y.ofX (k := 3) (ls := [some (.ref u), some (.ref t), some (.int (nI a)), some (.int (nI b)), some (.int (nI m)), some (.int (nI z)), some (.long (fr p.1 p.2)), none, none, none, none]) (by decide) rfl rfl ?_
    refine xk_iload dX3_extend_0 rfl ?_
    refine xk_iconst (3) dX3_extend_2 (by decide) ?_
    refine xk_icmp_lt 32 dX3_extend_3 (by decide) (fun c3 => ?_) (fun c3 => ?_)
    · have c4 : ¬ 3 ≤ z := by
        intro q
        exact absurd c3 (nI_nlt (a := z) (b := 3) q (by omega))
      first | exact j32 _ (by unfold clG; rw [if_neg (by omega)]; exact (xs_same hg).symm) | exact j32 _ (by unfold clG; rw [if_neg (by rw [c12]; exact fun q => absurd q.2 (by decide))]; exact (xs_same hg).symm) | exact j32 _ (by unfold clG; rw [if_pos ⟨c4, c12⟩])
    · have c4 : 3 ≤ z := by
        rcases Nat.lt_or_ge z 3 with q | q
        · exact absurd (nI_lt (b := 3) q (by decide)) c3
        · exact q
      refine xk_aload_n dX3_extend_6 rfl ?_
      refine xk_iload_n dX3_extend_7 rfl ?_
      refine xk_iload_n dX3_extend_8 rfl ?_
      refine xk_v2 (M' := mX5_holds)  (ci := 4) (r0 := (RX5, TX5, 3)) dX3_extend_9 wm_X3_41 cv_X5_holds wi_X5_holds wl_X5_holds (by omega) (Nat.le_refl _) (Nat.le_refl _) rfl rfl hT.1 (Nat.le_of_ble_eq_true rfl) (y_X5_holds (d + (f + 1)) hn hT ho) rfl ?_
      refine xk_ifb_eq 32 dX3_extend_12 (by decide) (fun c12 => ?_) (fun c12 => ?_)
      · rw [eH] at c12
        first | exact j32 _ (by unfold clG; rw [if_neg (by omega)]; exact (xs_same hg).symm) | exact j32 _ (by unfold clG; rw [if_neg (by rw [c12]; exact fun q => absurd q.2 (by decide))]; exact (xs_same hg).symm) | exact j32 _ (by unfold clG; rw [if_pos ⟨c4, c12⟩])
      · rw [eH] at c12
        refine xk_aload_n dX3_extend_15 rfl ?_
        refine xk_iload dX3_extend_16 rfl ?_
        refine xk_lload dX3_extend_18 rfl ?_
        refine xk_aload_n dX3_extend_20 rfl ?_
        refine xk_iload_n dX3_extend_21 rfl ?_
        refine xk_iload_n dX3_extend_22 rfl ?_
        refine xk_v2 (M' := mX5_low)  (ci := 4) (r0 := (RX5, TX5, 3)) dX3_extend_23 wm_X3_47 cv_X5_low wi_X5_low wl_X5_low (by omega) (Nat.le_refl _) (Nat.le_refl _) rfl rfl hT.1 (Nat.le_of_ble_eq_true rfl) (y_X5_low (d + (f + 1)) hn hT) rfl ?_
        rw [tLow_nI hn hb ha (tH_ne c12)]
        refine xk_s2c (M' := mX1_times)  dX3_extend_26 wm_X3_51 cv_X1_times wt_X1_times (by omega) (Nat.le_refl _) (Nat.le_refl _) (Nat.le_of_ble_eq_true rfl) (y_X1_times (d + (f + 1) + 1) (by omega) (by omega) (by omega) (by omega) (by omega) (by omega)) rfl ?_
        refine xk_v2n (M' := mX3_close)  (ci := 2) (r0 := (RX3, TX3, 2)) dX3_extend_29 wm_X3_55 cv_X3_close wi_X3_close wl_X3_close (by omega) (Nat.le_refl _) (Nat.le_refl _) rfl rfl hu (Nat.le_of_ble_eq_true rfl) (y_X3_close (d + (f + 1)) (p := mul2 p (w b a)) hn (by omega) hu hg hB hq1 hq2) (by simp) ?_
        first | exact j32 _ (by unfold clG; rw [if_neg (by omega)]; exact (xs_same hg).symm) | exact j32 _ (by unfold clG; rw [if_neg (by rw [c12]; exact fun q => absurd q.2 (by decide))]; exact (xs_same hg).symm) | exact j32 _ (by unfold clG; rw [if_pos ⟨c4, c12⟩])

