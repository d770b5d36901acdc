/-! Leaving: logOfDigit, logOf, join. Laid by a program of our own. -/
set_option maxHeartbeats 4000000 in
set_option maxRecDepth 100000 in
theorem y_X2_logOfDigit (d : Nat) {hs : xk_H} {a : Nat} (ha : a < 10) : xk_F d mX2_logOfDigit [.long (lN a)] hs (some (.int (logD a))) hs := by
  refine xk_Y.ofX (k := 0) (ls := [some (.long (lN a)), none]) (by decide) rfl rfl ?_
  refine xk_lload_n dX2_logOfDigit_0 rfl ?_
  refine xk_lconst (0) dX2_logOfDigit_1 (by decide) ?_
  refine xk_lcmp dX2_logOfDigit_2 ?_
  refine xk_if_lt 25 dX2_logOfDigit_3 (by decide) (fun c3 => ?_) (fun c3 => ?_)
  · exact absurd ((lc_lt (a := a) (b := 0) (by omega) (by decide)).mp c3) (by omega)
  · refine xk_lload_n dX2_logOfDigit_6 rfl ?_
    refine xk_logsLen dX2_logOfDigit_7 dX2_logOfDigit_10 wf_X2_71 ?_
    refine xk_i2l dX2_logOfDigit_11 ?_
    refine xk_lcmp dX2_logOfDigit_12 ?_
    refine xk_if_ge 25 dX2_logOfDigit_13 (by decide) (fun c13 => ?_) (fun c13 => ?_)
    · exact absurd ((lc_ge (a := a) (b := 10) (by omega) (by decide)).mp c13) (by omega)
    · refine xk_logsAt ha dX2_logOfDigit_16 dX2_logOfDigit_19 dX2_logOfDigit_20 dX2_logOfDigit_21 wf_X2_71 rfl ?_
      refine xk_goto 26 dX2_logOfDigit_22 (by decide) ?_
      exact xk_iret rfl dX2_logOfDigit_26 (Nat.le_refl _) (Nat.le_refl _) ⟨rfl, rfl⟩

set_option maxHeartbeats 4000000 in
set_option maxRecDepth 100000 in
theorem y_X2_logOf (d : Nat) {hs : xk_H} {p q : Nat} (hp : p < 10) (hq : q < 10) : xk_F (d + 1) mX2_logOf [.long (fr p q)] hs (some (.int (logD p - logD q))) hs := by
  refine xk_Y.ofX (k := 0) (ls := [some (.long (fr p q)), none]) (by decide) rfl rfl ?_
  refine xk_lload_n dX2_logOf_0 rfl ?_
  refine xk_s1c (M' := mX1_top) (d' := d) dX2_logOf_1 wm_X2_59 cv_X1_top wt_X1_top (by omega) (Nat.le_refl _) (Nat.le_refl _) (Nat.le_of_ble_eq_true rfl) (y_X1_top d (by omega) (by omega)) rfl ?_
  refine xk_s1c (M' := mX2_logOfDigit) (d' := d) dX2_logOf_4 wm_X2_65 cv_X2_logOfDigit wt_X2_logOfDigit (by omega) (Nat.le_refl _) (Nat.le_refl _) (Nat.le_of_ble_eq_true rfl) (y_X2_logOfDigit d hp) rfl ?_
  refine xk_lload_n dX2_logOf_7 rfl ?_
  refine xk_s1c (M' := mX1_bottom) (d' := d) dX2_logOf_8 wm_X2_68 cv_X1_bottom wt_X1_bottom (by omega) (Nat.le_refl _) (Nat.le_refl _) (Nat.le_of_ble_eq_true rfl) (y_X1_bottom d (by omega) (by omega)) rfl ?_
  refine xk_s1c (M' := mX2_logOfDigit) (d' := d) dX2_logOf_11 wm_X2_65 cv_X2_logOfDigit wt_X2_logOfDigit (by omega) (Nat.le_refl _) (Nat.le_refl _) (Nat.le_of_ble_eq_true rfl) (y_X2_logOfDigit d hq) rfl ?_
  refine xk_isub dX2_logOf_14 ?_
  exact xk_iret rfl dX2_logOf_15 (Nat.le_refl _) (Nat.le_refl _) ⟨rfl, rfl⟩

set_option maxHeartbeats 4000000 in
set_option maxRecDepth 100000 in
/-- join: the next level's groups and worths -/
theorem y_X2_join (d : Nat) {hs : xk_H} {v n fw lh jn i j : Nat} {lg : Int32} {G : Nat → Nat → Nat} {Wt : Nat → Nat → Int32} (hn : n ≤ 6) (hL : lvA hs v n G Wt fw lh) (hj1 : jn + 1 < n) (hi : i < n) (hj : j < n) (hG : ∀ a b, G a b < 6) : xk_Y d 0 0 mX2_join false [.ref v, .int (nI jn), .int (nI i), .int (nI j), .int lg] hs (fun r' h => r' = none ∧ lvA h v n (fun a b => if a = jn + 1 then joinG (G jn) i j b else G a b) (fun a b => if a = jn + 1 then joinW (G jn) (Wt jn) i j lg b else Wt a b) fw lh ∧ xfr (lvS v n) hs h) := by
  have a1 : (nI jn).toNatClampNeg = jn := nI_clamp (by omega)
  have a2 : (nI i).toNatClampNeg = i := nI_clamp (by omega)
  have a3 : (nI j).toNatClampNeg = j := nI_clamp (by omega)
  have a4 : (nI (jn + 1)).toNatClampNeg = jn + 1 := nI_clamp (by omega)
  have b1 : vp_in (nI jn) n := vp_in_nI (by omega) (by omega)
  have b2 : vp_in (nI i) n := vp_in_nI hi (by omega)
  have b3 : vp_in (nI j) n := vp_in_nI hj (by omega)
  have b4 : vp_in (nI (jn + 1)) n := vp_in_nI hj1 (by omega)
  have g1 : (if (nI jn).toNatClampNeg < n then some (v + 4 + (nI jn).toNatClampNeg) else none) = some (v + 4 + jn) := by rw [a1, if_pos (by omega)]
  have g2 : (if (nI jn).toNatClampNeg < n then some (v + 5 + n + (nI jn).toNatClampNeg) else none) = some (v + 5 + n + jn) := by rw [a1, if_pos (by omega)]
  have g3 : (if (nI (jn + 1)).toNatClampNeg < n then some (v + 4 + (nI (jn + 1)).toNatClampNeg) else none) = some (v + 4 + (jn + 1)) := by rw [a4, if_pos hj1]
  have g4 : (if (nI (jn + 1)).toNatClampNeg < n then some (v + 5 + n + (nI (jn + 1)).toNatClampNeg) else none) = some (v + 5 + n + (jn + 1)) := by rw [a4, if_pos hj1]
  have l45 : ∀ (r x : Nat) (G1 : Nat → Nat → Nat) (W1 : Nat → Nat → Int32) (h : xk_H) (o : Option Value), x + r = n → lvA h v n G1 W1 fw lh → xfr (lvS v n) hs h → (∀ a b, a < n → b < n → G1 a b = if a = jn + 1 ∧ b < x then joinG (G jn) i j b else G a b) → (∀ a b, a < n → b < n → W1 a b = if a = jn + 1 ∧ b < x then joinW (G jn) (Wt jn) i j lg b else Wt a b) → xk_X d 0 0 mX2_join (xk_fx false hs) (fun r' h => r' = none ∧ lvA h v n (fun a b => if a = jn + 1 then joinG (G jn) i j b else G a b) (fun a b => if a = jn + 1 then joinW (G jn) (Wt jn) i j lg b else Wt a b) fw lh ∧ xfr (lvS v n) hs h) 0 0 45 [some (.ref v), some (.int (nI jn)), some (.int (nI i)), some (.int (nI j)), some (.int lg), some (.int (nI (G jn i))), some (.int (nI (G jn j))), some (.int (Wt jn i - lg - Wt jn j)), some (.int (nI x)), o] [] h := by
    intro r
    induction r with
    | zero =>
      intro x G1 W1 h o h1 hl hf p1 p2
      obtain rfl : x = n := by omega
      refine xk_iload dX2_join_45 rfl ?_
      refine xk_aload_n dX2_join_47 rfl ?_
      refine xk_get (ci := 1) (r := (RX2, TX2, 8)) 0 dX2_join_48 rfl inX2 (by decide) wf_X2_7 hl.1 rfl ?_
      refine xk_icmp_ge 143 dX2_join_51 (by decide) (fun c51 => ?_) (fun c51 => ?_)
      · exact xk_vret rfl dX2_join_143 (Nat.le_refl _) (Nat.le_refl _) ⟨rfl, hl.to (fun a b ha hb => by rw [p1 a b ha hb]; simp [hb]) (fun a b ha hb => by rw [p2 a b ha hb]; simp [hb]), hf⟩
      · exact absurd (nI_le (Nat.le_refl x) (by omega)) c51
    | succ r ih =>
      intro x G1 W1 h o h1 hl hf p1 p2
      have a5 : (nI x).toNatClampNeg = x := nI_clamp (by omega)
      have b5 : vp_in (nI x) n := vp_in_nI (by omega) (by omega)
      obtain ⟨f0, f01, f02⟩ := hl.2.2.2.2.2.1 jn (by omega)
      obtain ⟨f1, f11, f12⟩ := hl.2.2.2.2.2.1 (jn + 1) hj1
      obtain ⟨k0, k01, k02⟩ := hl.2.2.2.2.2.2 jn (by omega)
      obtain ⟨k1, k11, k12⟩ := hl.2.2.2.2.2.2 (jn + 1) hj1
      have e0 : f0 x = nI (G jn x) := by rw [f02 x (by omega), p1 jn x (by omega) (by omega), if_neg (by omega)]
      have e1 : k0 x = Wt jn x := by rw [k02 x (by omega), p2 jn x (by omega) (by omega), if_neg (by omega)]
      have hc : nI (G jn x) = nI (G jn j) ↔ G jn x = G jn j := nI_eq (by have := hG jn x; omega) (by have := hG jn j; omega)
      refine xk_iload dX2_join_45 rfl ?_
      refine xk_aload_n dX2_join_47 rfl ?_
      refine xk_get (ci := 1) (r := (RX2, TX2, 8)) 0 dX2_join_48 rfl inX2 (by decide) wf_X2_7 hl.1 rfl ?_
      refine xk_icmp_ge 143 dX2_join_51 (by decide) (fun c51 => ?_) (fun c51 => ?_)
      · exact absurd c51 (nI_ge (by omega) (by omega))
      · refine xk_aload_n dX2_join_54 rfl ?_
        refine xk_get (ci := 1) (r := (RX2, TX2, 8)) 4 dX2_join_55 rfl inX2 (by decide) wf_X2_25 hl.1 rfl ?_
        refine xk_iload_n dX2_join_58 rfl ?_
        refine xk_aaldI dX2_join_59 hl.2.2.2.1 b1 g1 ?_
        refine xk_iload dX2_join_60 rfl ?_
        refine xk_iald dX2_join_62 f01 b5 ?_
        rw [a5, e0]
        refine xk_iload dX2_join_63 rfl ?_
        refine xk_icmp_ne 72 dX2_join_65 (by decide) (fun c65 => ?_) (fun c65 => ?_)
        · have cc : ¬ G jn x = G jn j := fun q => c65 (hc.mpr q)
          refine xk_iconst (0) dX2_join_72 (by decide) ?_
          refine xk_istore dX2_join_73 (by decide) ?_
          dsimp only [xk_s1, xk_s2, xk_kill]
          refine xk_aload_n dX2_join_75 rfl ?_
          refine xk_get (ci := 1) (r := (RX2, TX2, 8)) 4 dX2_join_76 rfl inX2 (by decide) wf_X2_25 hl.1 rfl ?_
          refine xk_iload_n dX2_join_79 rfl ?_
          refine xk_iconst (1) dX2_join_80 (by decide) ?_
          refine xk_iadd dX2_join_81 ?_
          rw [nI_1]
          refine xk_aaldI dX2_join_82 hl.2.2.2.1 b4 g3 ?_
          refine xk_iload dX2_join_83 rfl ?_
          refine xk_iload dX2_join_85 rfl ?_
          refine xk_if_eq 95 dX2_join_87 (by decide) (fun c87 => ?_) (fun c87 => ?_)
          · refine xk_aload_n dX2_join_95 rfl ?_
            refine xk_get (ci := 1) (r := (RX2, TX2, 8)) 4 dX2_join_96 rfl inX2 (by decide) wf_X2_25 hl.1 rfl ?_
            refine xk_iload_n dX2_join_99 rfl ?_
            refine xk_aaldI dX2_join_100 hl.2.2.2.1 b1 g1 ?_
            refine xk_iload dX2_join_101 rfl ?_
            refine xk_iald dX2_join_103 f01 b5 ?_
            try rw [a5]
            rw [e0]
            refine xk_iast dX2_join_104 f11 b5 ?_
            try rw [a5]
            have hlG := hl.putG (j := x) (x := (G jn x)) hj1 f11
            refine xk_aload_n dX2_join_105 rfl ?_
            refine xk_get (ci := 1) (r := (RX2, TX2, 8)) 5 dX2_join_106 rfl inX2 (by decide) wf_X2_28 hlG.1 rfl ?_
            refine xk_iload_n dX2_join_109 rfl ?_
            refine xk_iconst (1) dX2_join_110 (by decide) ?_
            refine xk_iadd dX2_join_111 ?_
            rw [nI_1]
            refine xk_aaldI dX2_join_112 hlG.2.2.2.2.1 b4 g4 ?_
            refine xk_iload dX2_join_113 rfl ?_
            refine xk_aload_n dX2_join_115 rfl ?_
            refine xk_get (ci := 1) (r := (RX2, TX2, 8)) 5 dX2_join_116 rfl inX2 (by decide) wf_X2_28 hlG.1 rfl ?_
            refine xk_iload_n dX2_join_119 rfl ?_
            refine xk_aaldI dX2_join_120 hlG.2.2.2.2.1 b1 g2 ?_
            refine xk_iload dX2_join_121 rfl ?_
            refine xk_iald dX2_join_123 ((xs_ne (by omega)).trans k01) b5 ?_
            try rw [a5]
            rw [e1]
            refine xk_iload dX2_join_124 rfl ?_
            refine xk_if_eq 134 dX2_join_126 (by decide) (fun c126 => ?_) (fun c126 => ?_)
            · refine xk_iconst (0) dX2_join_134 (by decide) ?_
              refine xk_iadd dX2_join_135 ?_
              refine xk_iast dX2_join_136 ((xs_ne (by omega)).trans k11) b5 ?_
              try rw [a5]
              refine xk_iinc (nI (x + 1)) dX2_join_137 rfl (nI_1 x) (by decide) ?_
              dsimp only [xk_s1, xk_s2, xk_kill]
              refine xk_goto 45 dX2_join_140 (by decide) ?_
              have hl2 := hl.putG (j := x) (x := (G jn x)) hj1 f11
              have hl3 := hl2.putW (j := x) (x := (Wt jn x + 0)) hj1 ((xs_ne (by omega)).trans k11)
              refine ih (x + 1) _ _ _ _ (by omega) hl3 ((hf.set ⟨by omega, by omega⟩).set ⟨by omega, by omega⟩) ?_ ?_
              · intro a b ha hb
                by_cases c : a = jn + 1 ∧ b = x
                · obtain ⟨rfl, rfl⟩ := c
                  rw [if_pos ⟨rfl, rfl⟩, if_pos ⟨rfl, by omega⟩, joinG, if_neg cc]
                · rw [if_neg c, p1 a b ha hb]
                  by_cases c2 : a = jn + 1 ∧ b < x
                  · rw [if_pos c2, if_pos ⟨c2.1, by omega⟩]
                  · rw [if_neg c2, if_neg (by omega)]
              · intro a b ha hb
                by_cases c : a = jn + 1 ∧ b = x
                · obtain ⟨rfl, rfl⟩ := c
                  rw [if_pos ⟨rfl, rfl⟩, if_pos ⟨rfl, by omega⟩, joinW, if_neg cc]
                · rw [if_neg c, p2 a b ha hb]
                  by_cases c2 : a = jn + 1 ∧ b < x
                  · rw [if_pos c2, if_pos ⟨c2.1, by omega⟩]
                  · rw [if_neg c2, if_neg (by omega)]
            · exact absurd rfl c126
          · exact absurd rfl c87
        · have cc : G jn x = G jn j := hc.mp c65
          refine xk_iconst (1) dX2_join_68 (by decide) ?_
          refine xk_goto 73 dX2_join_69 (by decide) ?_
          refine xk_istore dX2_join_73 (by decide) ?_
          dsimp only [xk_s1, xk_s2, xk_kill]
          refine xk_aload_n dX2_join_75 rfl ?_
          refine xk_get (ci := 1) (r := (RX2, TX2, 8)) 4 dX2_join_76 rfl inX2 (by decide) wf_X2_25 hl.1 rfl ?_
          refine xk_iload_n dX2_join_79 rfl ?_
          refine xk_iconst (1) dX2_join_80 (by decide) ?_
          refine xk_iadd dX2_join_81 ?_
          rw [nI_1]
          refine xk_aaldI dX2_join_82 hl.2.2.2.1 b4 g3 ?_
          refine xk_iload dX2_join_83 rfl ?_
          refine xk_iload dX2_join_85 rfl ?_
          refine xk_if_eq 95 dX2_join_87 (by decide) (fun c87 => ?_) (fun c87 => ?_)
          · exact absurd c87 (by decide)
          · refine xk_iload dX2_join_90 rfl ?_
            refine xk_goto 104 dX2_join_92 (by decide) ?_
            refine xk_iast dX2_join_104 f11 b5 ?_
            try rw [a5]
            have hlG := hl.putG (j := x) (x := (G jn i)) hj1 f11
            refine xk_aload_n dX2_join_105 rfl ?_
            refine xk_get (ci := 1) (r := (RX2, TX2, 8)) 5 dX2_join_106 rfl inX2 (by decide) wf_X2_28 hlG.1 rfl ?_
            refine xk_iload_n dX2_join_109 rfl ?_
            refine xk_iconst (1) dX2_join_110 (by decide) ?_
            refine xk_iadd dX2_join_111 ?_
            rw [nI_1]
            refine xk_aaldI dX2_join_112 hlG.2.2.2.2.1 b4 g4 ?_
            refine xk_iload dX2_join_113 rfl ?_
            refine xk_aload_n dX2_join_115 rfl ?_
            refine xk_get (ci := 1) (r := (RX2, TX2, 8)) 5 dX2_join_116 rfl inX2 (by decide) wf_X2_28 hlG.1 rfl ?_
            refine xk_iload_n dX2_join_119 rfl ?_
            refine xk_aaldI dX2_join_120 hlG.2.2.2.2.1 b1 g2 ?_
            refine xk_iload dX2_join_121 rfl ?_
            refine xk_iald dX2_join_123 ((xs_ne (by omega)).trans k01) b5 ?_
            try rw [a5]
            rw [e1]
            refine xk_iload dX2_join_124 rfl ?_
            refine xk_if_eq 134 dX2_join_126 (by decide) (fun c126 => ?_) (fun c126 => ?_)
            · exact absurd c126 (by decide)
            · refine xk_iload dX2_join_129 rfl ?_
              refine xk_goto 135 dX2_join_131 (by decide) ?_
              refine xk_iadd dX2_join_135 ?_
              refine xk_iast dX2_join_136 ((xs_ne (by omega)).trans k11) b5 ?_
              try rw [a5]
              refine xk_iinc (nI (x + 1)) dX2_join_137 rfl (nI_1 x) (by decide) ?_
              dsimp only [xk_s1, xk_s2, xk_kill]
              refine xk_goto 45 dX2_join_140 (by decide) ?_
              have hl2 := hl.putG (j := x) (x := (G jn i)) hj1 f11
              have hl3 := hl2.putW (j := x) (x := (Wt jn x + (Wt jn i - lg - Wt jn j))) hj1 ((xs_ne (by omega)).trans k11)
              refine ih (x + 1) _ _ _ _ (by omega) hl3 ((hf.set ⟨by omega, by omega⟩).set ⟨by omega, by omega⟩) ?_ ?_
              · intro a b ha hb
                by_cases c : a = jn + 1 ∧ b = x
                · obtain ⟨rfl, rfl⟩ := c
                  rw [if_pos ⟨rfl, rfl⟩, if_pos ⟨rfl, by omega⟩, joinG, if_pos cc]
                · rw [if_neg c, p1 a b ha hb]
                  by_cases c2 : a = jn + 1 ∧ b < x
                  · rw [if_pos c2, if_pos ⟨c2.1, by omega⟩]
                  · rw [if_neg c2, if_neg (by omega)]
              · intro a b ha hb
                by_cases c : a = jn + 1 ∧ b = x
                · obtain ⟨rfl, rfl⟩ := c
                  rw [if_pos ⟨rfl, rfl⟩, if_pos ⟨rfl, by omega⟩, joinW, if_pos cc]
                · rw [if_neg c, p2 a b ha hb]
                  by_cases c2 : a = jn + 1 ∧ b < x
                  · rw [if_pos c2, if_pos ⟨c2.1, by omega⟩]
                  · rw [if_neg c2, if_neg (by omega)]
  obtain ⟨f0, f01, f02⟩ := hL.2.2.2.2.2.1 jn (by omega)
  obtain ⟨k0, k01, k02⟩ := hL.2.2.2.2.2.2 jn (by omega)
  refine xk_Y.ofX (k := 5) (ls := [some (.ref v), some (.int (nI jn)), some (.int (nI i)), some (.int (nI j)), some (.int lg), none, none, none, none, none]) (by decide) rfl rfl ?_
  refine xk_aload_n dX2_join_0 rfl ?_
  refine xk_get (ci := 1) (r := (RX2, TX2, 8)) 4 dX2_join_1 rfl inX2 (by decide) wf_X2_25 hL.1 rfl ?_
  refine xk_iload_n dX2_join_4 rfl ?_
  refine xk_aaldI dX2_join_5 hL.2.2.2.1 b1 g1 ?_
  refine xk_iload_n dX2_join_6 rfl ?_
  refine xk_iald dX2_join_7 f01 b2 ?_
  rw [a2, f02 i hi]
  refine xk_istore dX2_join_8 (by decide) ?_
  dsimp only [xk_s1, xk_s2, xk_kill]
  refine xk_aload_n dX2_join_10 rfl ?_
  refine xk_get (ci := 1) (r := (RX2, TX2, 8)) 4 dX2_join_11 rfl inX2 (by decide) wf_X2_25 hL.1 rfl ?_
  refine xk_iload_n dX2_join_14 rfl ?_
  refine xk_aaldI dX2_join_15 hL.2.2.2.1 b1 g1 ?_
  refine xk_iload_n dX2_join_16 rfl ?_
  refine xk_iald dX2_join_17 f01 b3 ?_
  rw [a3, f02 j hj]
  refine xk_istore dX2_join_18 (by decide) ?_
  dsimp only [xk_s1, xk_s2, xk_kill]
  refine xk_aload_n dX2_join_20 rfl ?_
  refine xk_get (ci := 1) (r := (RX2, TX2, 8)) 5 dX2_join_21 rfl inX2 (by decide) wf_X2_28 hL.1 rfl ?_
  refine xk_iload_n dX2_join_24 rfl ?_
  refine xk_aaldI dX2_join_25 hL.2.2.2.2.1 b1 g2 ?_
  refine xk_iload_n dX2_join_26 rfl ?_
  refine xk_iald dX2_join_27 k01 b2 ?_
  try rw [a2]
  rw [k02 i hi]
  refine xk_iload dX2_join_28 rfl ?_
  refine xk_isub dX2_join_30 ?_
  refine xk_aload_n dX2_join_31 rfl ?_
  refine xk_get (ci := 1) (r := (RX2, TX2, 8)) 5 dX2_join_32 rfl inX2 (by decide) wf_X2_28 hL.1 rfl ?_
  refine xk_iload_n dX2_join_35 rfl ?_
  refine xk_aaldI dX2_join_36 hL.2.2.2.2.1 b1 g2 ?_
  refine xk_iload_n dX2_join_37 rfl ?_
  refine xk_iald dX2_join_38 k01 b3 ?_
  try rw [a3]
  rw [k02 j hj]
  refine xk_isub dX2_join_39 ?_
  refine xk_istore dX2_join_40 (by decide) ?_
  dsimp only [xk_s1, xk_s2, xk_kill]
  refine xk_iconst (0) dX2_join_42 (by decide) ?_
  refine xk_istore dX2_join_43 (by decide) ?_
  dsimp only [xk_s1, xk_s2, xk_kill]
  refine l45 n 0 G Wt hs _ (by omega) hL xfr.rf (fun a b ha hb => by rw [if_neg (by omega)]) (fun a b ha hb => by rw [if_neg (by omega)])

