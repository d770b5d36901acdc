/-! Leaving: settle, search. Laid by a program of our own. -/
set_option maxHeartbeats 4000000 in
set_option maxRecDepth 100000 in
/-- settle, by how many pairs are still to be settled -/
theorem y_X2_settle (d : Nat) {t n fl v : Nat} {w : tbW} (hn : n ≤ 6) (h2 : 2 ≤ n) (ho : tbOK n w) (hdj : ∀ k, tbS t n k → ¬ lvS v n k) : ∀ (k jn hp sz : Nat) (G : Nat → Nat → Nat) (Wt : Nat → Nat → Int32) (fw lh : Nat) (hs : xk_H), tbA hs t n w fl → lvA hs v n G Wt fw lh → (∀ x y, G x y < 6) → k ≤ n * (n - 1) / 2 → jn < n → hp < 32768 → sz + k ≤ 15 → fw ≤ 16 →
    xk_Y (d + 3 + k) 0 0 mX2_settle false [.ref v, .ref t, .int (nI k - 1), .int (nI jn), .int (nI hp), .int (nI sz)] hs (stO w n v jn G Wt (setF w n k jn (G jn) (Wt jn) hp sz (fw, lh)) hs) := by
  intro k
  induction k with
  | zero =>
    intro jn hp sz G Wt fw lh hs hT hL hG hk hjn hhp hsz hfw
    refine xk_Y.ofX (k := 5) (ls := [some (.ref v), some (.ref t), some (.int (nI 0 - 1)), some (.int (nI jn)), some (.int (nI hp)), some (.int (nI sz)), none, none, none, none, none]) (by decide) rfl rfl ?_
    refine xk_iload dX2_settle_0 rfl ?_
    refine xk_aload_n dX2_settle_2 rfl ?_
    refine xk_get (ci := 1) (r := (RX2, TX2, 8)) 6 dX2_settle_3 rfl inX2 (by decide) wf_X2_31 hL.1 rfl ?_
    refine xk_icmp_lt 10 dX2_settle_6 (by decide) (fun c6 => ?_) (fun c6 => ?_)
    · have c7 : ¬ fw ≤ sz := fun q => absurd c6 (nI_nlt q (by omega))
      refine xk_iload_n dX2_settle_10 rfl ?_
      refine xk_if_ge 27 dX2_settle_11 (by decide) (fun c11 => ?_) (fun c11 => ?_)
      · exact absurd c11 (by decide)
      · refine xk_aload_n dX2_settle_14 rfl ?_
        refine xk_iload dX2_settle_15 rfl ?_
        refine xk_put (ci := 1) (r := (RX2, TX2, 8)) 6 tyX2 dX2_settle_17 rfl inX2 tyX2_ok nmX2 (by decide) wf_X2_31 rfl (fun _ => rfl) (fun _ => rfl) hL.1 (Nat.le_of_ble_eq_true rfl) ?_
        dsimp only [List.set]
        refine xk_aload_n dX2_settle_20 rfl ?_
        refine xk_iload dX2_settle_21 rfl ?_
        refine xk_put (ci := 1) (r := (RX2, TX2, 8)) 7 tyX2 dX2_settle_23 rfl inX2 tyX2_ok nmX2 (by decide) wf_X2_34 rfl (fun _ => rfl) (fun _ => rfl) (xs_at hL.1) (Nat.le_of_ble_eq_true rfl) ?_
        dsimp only [List.set]
        rw [List.set_set]
        exact xk_vret rfl dX2_settle_26 (Nat.le_refl _) (Nat.le_refl _) ⟨rfl, ⟨G, Wt, by rw [setF, if_neg (show ¬ (fw, lh).1 ≤ sz from c7)]; exact hL.obj, hG, fun x y _ _ => ⟨rfl, rfl⟩⟩, xfr.rf.set ⟨by omega, by omega⟩⟩
    · have c7 : fw ≤ sz := by
        rcases Nat.lt_or_ge sz fw with q | q
        · exact absurd (nI_lt q (by omega)) c6
        · exact q
      exact xk_vret rfl dX2_settle_9 (Nat.le_refl _) (Nat.le_refl _) ⟨rfl, ⟨G, Wt, by rw [setF_done (b := (fw, lh)) c7]; exact hL, hG, fun x y _ _ => ⟨rfl, rfl⟩⟩, xfr.rf⟩
  | succ k ih =>
    intro jn hp sz G Wt fw lh hs hT hL hG hk hjn hhp hsz hfw
    have hnp := np_ok n (by omega)
    have hpr := prs_ok n (by omega) h2 k (by omega)
    obtain ⟨f1, f11, f12⟩ := hL.2.1
    obtain ⟨f2, f21, f22⟩ := hL.2.2.1
    obtain ⟨gf, gf1, gf2⟩ := hL.2.2.2.2.2.1 jn hjn
    obtain ⟨wf, wf1, wf2⟩ := hL.2.2.2.2.2.2 jn hjn
    have a0 : (nI k).toNatClampNeg = k := nI_clamp (by omega)
    have a1 : (nI jn).toNatClampNeg = jn := nI_clamp (by omega)
    have a2 : (nI (pu n k)).toNatClampNeg = pu n k := nI_clamp (by omega)
    have a3 : (nI (pl n k)).toNatClampNeg = pl n k := nI_clamp (by omega)
    have b0 : vp_in (nI k) (n * (n - 1) / 2) := vp_in_nI (by omega) (by omega)
    have b1 : vp_in (nI jn) n := vp_in_nI hjn (by omega)
    have b2 : vp_in (nI (pu n k)) n := vp_in_nI (by omega) (by omega)
    have b3 : vp_in (nI (pl n k)) n := vp_in_nI (by omega) (by omega)
    have g1 : (if (nI jn).toNatClampNeg < n then some (v + 4 + (nI jn).toNatClampNeg) else none) = some (v + 4 + jn) := by rw [a1, if_pos hjn]
    have g2 : (if (nI jn).toNatClampNeg < n then some (v + 5 + n + (nI jn).toNatClampNeg) else none) = some (v + 5 + n + jn) := by rw [a1, if_pos hjn]
    have eH := tHas_H (w := w) hn (show pu n k < n by omega) (show pl n k < n by omega)
    have eL := tLow_nI (w := w) hn (show pu n k < n by omega) (show pl n k < n by omega) (show pu n k ≠ pl n k by omega)
    have dg := ho.lt (show pu n k < n by omega) (show pl n k < n by omega)
    have hc : nI (G jn (pu n k)) = nI (G jn (pl n k)) ↔ G jn (pu n k) = G jn (pl n k) := nI_eq (by have := hG jn (pu n k); omega) (by have := hG jn (pl n k); omega)
    have hor : nI hp ||| ((1 : Int32) <<< (nI k &&& 31)) = nI (hp ||| 2 ^ k) := by rw [nI_pow k (by omega), nI_or]
    rw [nI_pred]
    refine xk_Y.ofX (k := 5) (ls := [some (.ref v), some (.ref t), some (.int (nI k)), some (.int (nI jn)), some (.int (nI hp)), some (.int (nI sz)), none, none, none, none, none]) (by decide) rfl rfl ?_
    refine xk_iload dX2_settle_0 rfl ?_
    refine xk_aload_n dX2_settle_2 rfl ?_
    refine xk_get (ci := 1) (r := (RX2, TX2, 8)) 6 dX2_settle_3 rfl inX2 (by decide) wf_X2_31 hL.1 rfl ?_
    refine xk_icmp_lt 10 dX2_settle_6 (by decide) (fun c6 => ?_) (fun c6 => ?_)
    · have c7 : ¬ (fw, lh).1 ≤ sz := fun q => absurd c6 (nI_nlt q (by omega))
      refine xk_iload_n dX2_settle_10 rfl ?_
      refine xk_if_ge 27 dX2_settle_11 (by decide) (fun c11 => ?_) (fun c11 => ?_)
      · refine xk_aload_n dX2_settle_27 rfl ?_
        refine xk_get (ci := 1) (r := (RX2, TX2, 8)) 2 dX2_settle_28 rfl inX2 (by decide) wf_X2_16 hL.1 rfl ?_
        refine xk_iload_n dX2_settle_31 rfl ?_
        refine xk_iald dX2_settle_32 f11 b0 ?_
        rw [a0, f12 k (by omega)]
        refine xk_istore dX2_settle_33 (by decide) ?_
        dsimp only [xk_s1, xk_s2, xk_kill]
        refine xk_aload_n dX2_settle_35 rfl ?_
        refine xk_get (ci := 1) (r := (RX2, TX2, 8)) 3 dX2_settle_36 rfl inX2 (by decide) wf_X2_20 hL.1 rfl ?_
        refine xk_iload_n dX2_settle_39 rfl ?_
        refine xk_iald dX2_settle_40 f21 b0 ?_
        try rw [a0]
        rw [f22 k (by omega)]
        refine xk_istore dX2_settle_41 (by decide) ?_
        dsimp only [xk_s1, xk_s2, xk_kill]
        refine xk_aload_n dX2_settle_43 rfl ?_
        refine xk_iload dX2_settle_44 rfl ?_
        refine xk_iload dX2_settle_46 rfl ?_
        refine xk_v2 (M' := mX5_holds)  (ci := 4) (r0 := (RX5, TX5, 3)) dX2_settle_48 wm_X2_41 cv_X5_holds wi_X5_holds wl_X5_holds (by omega) (Nat.le_refl _) (Nat.le_refl _) rfl rfl hT.1 (Nat.le_of_ble_eq_true rfl) (y_X5_holds (d + k + 1) hn hT ho) rfl ?_
        refine xk_ifb_ne 68 dX2_settle_51 (by decide) (fun c51 => ?_) (fun c51 => ?_)
        · rw [eH] at c51
          refine xk_aload_n dX2_settle_68 rfl ?_
          refine xk_iload dX2_settle_69 rfl ?_
          refine xk_iload dX2_settle_71 rfl ?_
          refine xk_v2 (M' := mX5_low)  (ci := 4) (r0 := (RX5, TX5, 3)) dX2_settle_73 wm_X2_47 cv_X5_low wi_X5_low wl_X5_low (by omega) (Nat.le_refl _) (Nat.le_refl _) rfl rfl hT.1 (Nat.le_of_ble_eq_true rfl) (y_X5_low (d + k + 1) hn hT) rfl ?_
          rw [eL]
          refine xk_s1c (M' := mX2_logOf)  dX2_settle_76 wm_X2_51 cv_X2_logOf wt_X2_logOf (by omega) (Nat.le_refl _) (Nat.le_refl _) (Nat.le_of_ble_eq_true rfl) (y_X2_logOf (d + k + 1) (by omega) (by omega)) rfl ?_
          refine xk_istore dX2_settle_79 (by decide) ?_
          dsimp only [xk_s1, xk_s2, xk_kill]
          refine xk_aload_n dX2_settle_81 rfl ?_
          refine xk_get (ci := 1) (r := (RX2, TX2, 8)) 4 dX2_settle_82 rfl inX2 (by decide) wf_X2_25 hL.1 rfl ?_
          refine xk_iload_n dX2_settle_85 rfl ?_
          refine xk_aaldI dX2_settle_86 hL.2.2.2.1 b1 g1 ?_
          refine xk_iload dX2_settle_87 rfl ?_
          refine xk_iald dX2_settle_89 gf1 b2 ?_
          rw [a2, gf2 _ (by omega)]
          refine xk_aload_n dX2_settle_90 rfl ?_
          refine xk_get (ci := 1) (r := (RX2, TX2, 8)) 4 dX2_settle_91 rfl inX2 (by decide) wf_X2_25 hL.1 rfl ?_
          refine xk_iload_n dX2_settle_94 rfl ?_
          refine xk_aaldI dX2_settle_95 hL.2.2.2.1 b1 g1 ?_
          refine xk_iload dX2_settle_96 rfl ?_
          refine xk_iald dX2_settle_98 gf1 b3 ?_
          rw [a3, gf2 _ (by omega)]
          refine xk_icmp_ne 106 dX2_settle_99 (by decide) (fun c99 => ?_) (fun c99 => ?_)
          · have c99 : ¬ G jn (pu n k) = G jn (pl n k) := fun q => c99 (hc.mpr q)
            refine xk_iconst (0) dX2_settle_106 (by decide) ?_
            refine xk_istore dX2_settle_107 (by decide) ?_
            dsimp only [xk_s1, xk_s2, xk_kill]
            refine xk_aload_n dX2_settle_109 rfl ?_
            refine xk_get (ci := 1) (r := (RX2, TX2, 8)) 5 dX2_settle_110 rfl inX2 (by decide) wf_X2_28 hL.1 rfl ?_
            refine xk_iload_n dX2_settle_113 rfl ?_
            refine xk_aaldI dX2_settle_114 hL.2.2.2.2.1 b1 g2 ?_
            refine xk_iload dX2_settle_115 rfl ?_
            refine xk_iald dX2_settle_117 wf1 b2 ?_
            try rw [a2]
            rw [wf2 _ (by omega)]
            refine xk_aload_n dX2_settle_118 rfl ?_
            refine xk_get (ci := 1) (r := (RX2, TX2, 8)) 5 dX2_settle_119 rfl inX2 (by decide) wf_X2_28 hL.1 rfl ?_
            refine xk_iload_n dX2_settle_122 rfl ?_
            refine xk_aaldI dX2_settle_123 hL.2.2.2.2.1 b1 g2 ?_
            refine xk_iload dX2_settle_124 rfl ?_
            refine xk_iald dX2_settle_126 wf1 b3 ?_
            try rw [a3]
            rw [wf2 _ (by omega)]
            refine xk_isub dX2_settle_127 ?_
            refine xk_iload dX2_settle_128 rfl ?_
            refine xk_icmp_ne 137 dX2_settle_130 (by decide) (fun c130 => ?_) (fun c130 => ?_)
            · have c130 : ¬ Wt jn (pu n k) - Wt jn (pl n k) = logW w (pu n k) (pl n k) := c130
              refine xk_iconst (0) dX2_settle_137 (by decide) ?_
              refine xk_istore dX2_settle_138 (by decide) ?_
              dsimp only [xk_s1, xk_s2, xk_kill]
              refine xk_iload dX2_settle_140 rfl ?_
              refine xk_if_ne 184 dX2_settle_142 (by decide) (fun c142 => ?_) (fun c142 => ?_)
              · exact absurd rfl c142
              · refine xk_iload_n dX2_settle_145 rfl ?_
                refine xk_iconst (1) dX2_settle_146 (by decide) ?_
                refine xk_iadd dX2_settle_147 ?_
                rw [nI_1]
                refine xk_aload_n dX2_settle_148 rfl ?_
                refine xk_get (ci := 1) (r := (RX2, TX2, 8)) 0 dX2_settle_149 rfl inX2 (by decide) wf_X2_7 hL.1 rfl ?_
                refine xk_icmp_ge 184 dX2_settle_152 (by decide) (fun c152 => ?_) (fun c152 => ?_)
                · have c152 : ¬ jn + 1 < n := fun q => absurd c152 (nI_ge q (by omega))
                  refine xk_iload dX2_settle_184 rfl ?_
                  refine xk_if_eq 208 dX2_settle_186 (by decide) (fun c186 => ?_) (fun c186 => ?_)
                  · refine xk_aload_n dX2_settle_208 rfl ?_
                    refine xk_aload_n dX2_settle_209 rfl ?_
                    refine xk_iload_n dX2_settle_210 rfl ?_
                    refine xk_iconst (1) dX2_settle_211 (by decide) ?_
                    refine xk_isub dX2_settle_212 ?_
                    refine xk_iload_n dX2_settle_213 rfl ?_
                    refine xk_iload dX2_settle_214 rfl ?_
                    refine xk_iconst (1) dX2_settle_216 (by decide) ?_
                    refine xk_iload_n dX2_settle_217 rfl ?_
                    refine xk_ishl dX2_settle_218 ?_
                    refine xk_ior dX2_settle_219 ?_
                    rw [hor]
                    refine xk_iload dX2_settle_220 rfl ?_
                    refine xk_iconst (1) dX2_settle_222 (by decide) ?_
                    refine xk_iadd dX2_settle_223 ?_
                    rw [nI_1]
                    refine xk_callV5 (M' := mX2_settle) (ci := 1) (r0 := (RX2, TX2, 8)) dX2_settle_224 wm_X2_37 cv_X2_settle wi_X2_settle wl_X2_settle (by omega) (Nat.le_refl _) (Nat.le_refl _) rfl rfl hL.1 (Nat.le_of_ble_eq_true rfl) (ih jn (hp ||| 2 ^ k) (sz + 1) G Wt fw lh hs hT hL hG (by omega) (by omega) (or_lt15 hhp (by omega)) (by omega) hfw) (fun _ _ z => z.2.2.1) (fun r0 hz z => ?_)
                    obtain ⟨rfl, ⟨G3, W3, z1, z2, z3⟩, z4⟩ := z
                    refine xk_vret rfl dX2_settle_227 (Nat.le_refl _) (Nat.le_refl _) ⟨rfl, ⟨G3, W3, ?_, z2, z3⟩, z4⟩
                    first
                    | (rw [setF_4 (b := (fw, lh)) c7 c51 (fun q => c152 q.2) (fun q => c99 q.1)]; exact z1)
                    | (rw [setF_4 (b := (fw, lh)) c7 c51 (fun q => q.1 c99) (fun q => c130 q.2)]; exact z1)
                  · exact absurd rfl c186
                · have c152 : jn + 1 < n := by
                    rcases Nat.lt_or_ge (jn + 1) n with q | q
                    · exact q
                    · exact absurd (nI_le q (by omega)) c152
                  refine xk_aload_n dX2_settle_155 rfl ?_
                  refine xk_iload_n dX2_settle_156 rfl ?_
                  refine xk_iload dX2_settle_157 rfl ?_
                  refine xk_iload dX2_settle_159 rfl ?_
                  refine xk_iload dX2_settle_161 rfl ?_
                  refine xk_callV4 (M' := mX2_join) (ci := 1) (r0 := (RX2, TX2, 8)) dX2_settle_163 wm_X2_55 cv_X2_join wi_X2_join wl_X2_join (by omega) (Nat.le_refl _) (Nat.le_refl _) rfl rfl hL.1 (Nat.le_of_ble_eq_true rfl) (y_X2_join d hn hL c152 (by omega) (by omega) hG) (fun _ _ z => z.2.2.1) (fun r0 hz z => ?_)
                  obtain ⟨rfl, hL1, hf1⟩ := z
                  have hT1 := hT.kept hf1 hdj
                  refine xk_aload_n dX2_settle_166 rfl ?_
                  refine xk_aload_n dX2_settle_167 rfl ?_
                  refine xk_iload_n dX2_settle_168 rfl ?_
                  refine xk_iconst (1) dX2_settle_169 (by decide) ?_
                  refine xk_isub dX2_settle_170 ?_
                  refine xk_iload_n dX2_settle_171 rfl ?_
                  refine xk_iconst (1) dX2_settle_172 (by decide) ?_
                  refine xk_iadd dX2_settle_173 ?_
                  rw [nI_1]
                  refine xk_iload dX2_settle_174 rfl ?_
                  refine xk_iload dX2_settle_176 rfl ?_
                  refine xk_callV5 (M' := mX2_settle) (ci := 1) (r0 := (RX2, TX2, 8)) dX2_settle_178 wm_X2_37 cv_X2_settle wi_X2_settle wl_X2_settle (by omega) (Nat.le_refl _) (Nat.le_refl _) rfl rfl hL1.1 (Nat.le_of_ble_eq_true rfl) (ih (jn + 1) hp sz _ _ fw lh _ hT1 hL1 (fun x y => joinA_lt hG jn _ _ x y) (by omega) (by omega) hhp (by omega) hfw) (fun _ _ z => z.2.2.1) (fun r0 h2z z => ?_)
                  obtain ⟨rfl, ⟨G3, W3, hL2, hG2, hS2⟩, hf2⟩ := z
                  have hT2 := hT1.kept hf2 hdj
                  have e3 : (setF w n k (jn + 1) (fun b => if jn + 1 = jn + 1 then joinG (G jn) (pu n k) (pl n k) b else G (jn + 1) b) (fun b => if jn + 1 = jn + 1 then joinW (G jn) (Wt jn) (pu n k) (pl n k) (logW w (pu n k) (pl n k)) b else Wt (jn + 1) b) hp sz (fw, lh)) = setF w n k (jn + 1) (joinG (G jn) (pu n k) (pl n k)) (joinW (G jn) (Wt jn) (pu n k) (pl n k) (logW w (pu n k) (pl n k))) hp sz (fw, lh) := by simp
                  have hL2 := e3 ▸ hL2
                  have hfs := setF_fst w n k (jn + 1) (joinG (G jn) (pu n k) (pl n k)) (joinW (G jn) (Wt jn) (pu n k) (pl n k) (logW w (pu n k) (pl n k))) hp sz (fw, lh)
                  refine xk_goto 208 dX2_settle_181 (by decide) ?_
                  refine xk_aload_n dX2_settle_208 rfl ?_
                  refine xk_aload_n dX2_settle_209 rfl ?_
                  refine xk_iload_n dX2_settle_210 rfl ?_
                  refine xk_iconst (1) dX2_settle_211 (by decide) ?_
                  refine xk_isub dX2_settle_212 ?_
                  refine xk_iload_n dX2_settle_213 rfl ?_
                  refine xk_iload dX2_settle_214 rfl ?_
                  refine xk_iconst (1) dX2_settle_216 (by decide) ?_
                  refine xk_iload_n dX2_settle_217 rfl ?_
                  refine xk_ishl dX2_settle_218 ?_
                  refine xk_ior dX2_settle_219 ?_
                  rw [hor]
                  refine xk_iload dX2_settle_220 rfl ?_
                  refine xk_iconst (1) dX2_settle_222 (by decide) ?_
                  refine xk_iadd dX2_settle_223 ?_
                  rw [nI_1]
                  refine xk_callV5 (M' := mX2_settle) (ci := 1) (r0 := (RX2, TX2, 8)) dX2_settle_224 wm_X2_37 cv_X2_settle wi_X2_settle wl_X2_settle (by omega) (Nat.le_refl _) (Nat.le_refl _) rfl rfl hL2.1 (Nat.le_of_ble_eq_true rfl) (ih jn (hp ||| 2 ^ k) (sz + 1) G3 W3 _ _ _ hT2 hL2 hG2 (by omega) (by omega) (or_lt15 hhp (by omega)) (by omega) (by dsimp only at hfs; omega)) (fun _ _ z => z.2.2.1) (fun r0 hz z => ?_)
                  obtain ⟨rfl, ⟨G4, W4, z1, z2, z3⟩, z4⟩ := z
                  refine xk_vret rfl dX2_settle_227 (Nat.le_refl _) (Nat.le_refl _) ⟨rfl, ⟨G4, W4, ?_, z2, fun x y hx hy => ?_⟩, (hf1.tr hf2).tr z4⟩
                  · rw [setF_2 (b := (fw, lh)) c7 c51 c99 c152]
                    rw [setF_congr w n (by omega) h2 k jn (G3 jn) (G jn) (W3 jn) (Wt jn) (hp ||| 2 ^ k) (sz + 1) _ (by omega) (fun x hx => by have := (hS2 jn x (by omega) hx).1; simpa using this) (fun x hx => by have := (hS2 jn x (by omega) hx).2; simpa using this)] at z1
                    exact z1
                  · have q1 := z3 x y hx hy
                    have q2 := hS2 x y (by omega) hy
                    dsimp only at q2
                    rw [if_neg (by omega), if_neg (by omega)] at q2
                    exact ⟨q1.1.trans q2.1, q1.2.trans q2.2⟩
            · have c130 : Wt jn (pu n k) - Wt jn (pl n k) = logW w (pu n k) (pl n k) := c130
              refine xk_iconst (1) dX2_settle_133 (by decide) ?_
              refine xk_goto 138 dX2_settle_134 (by decide) ?_
              refine xk_istore dX2_settle_138 (by decide) ?_
              dsimp only [xk_s1, xk_s2, xk_kill]
              refine xk_iload dX2_settle_140 rfl ?_
              refine xk_if_ne 184 dX2_settle_142 (by decide) (fun c142 => ?_) (fun c142 => ?_)
              · exact absurd rfl c142
              · refine xk_iload_n dX2_settle_145 rfl ?_
                refine xk_iconst (1) dX2_settle_146 (by decide) ?_
                refine xk_iadd dX2_settle_147 ?_
                rw [nI_1]
                refine xk_aload_n dX2_settle_148 rfl ?_
                refine xk_get (ci := 1) (r := (RX2, TX2, 8)) 0 dX2_settle_149 rfl inX2 (by decide) wf_X2_7 hL.1 rfl ?_
                refine xk_icmp_ge 184 dX2_settle_152 (by decide) (fun c152 => ?_) (fun c152 => ?_)
                · have c152 : ¬ jn + 1 < n := fun q => absurd c152 (nI_ge q (by omega))
                  refine xk_iload dX2_settle_184 rfl ?_
                  refine xk_if_eq 208 dX2_settle_186 (by decide) (fun c186 => ?_) (fun c186 => ?_)
                  · refine xk_aload_n dX2_settle_208 rfl ?_
                    refine xk_aload_n dX2_settle_209 rfl ?_
                    refine xk_iload_n dX2_settle_210 rfl ?_
                    refine xk_iconst (1) dX2_settle_211 (by decide) ?_
                    refine xk_isub dX2_settle_212 ?_
                    refine xk_iload_n dX2_settle_213 rfl ?_
                    refine xk_iload dX2_settle_214 rfl ?_
                    refine xk_iconst (1) dX2_settle_216 (by decide) ?_
                    refine xk_iload_n dX2_settle_217 rfl ?_
                    refine xk_ishl dX2_settle_218 ?_
                    refine xk_ior dX2_settle_219 ?_
                    rw [hor]
                    refine xk_iload dX2_settle_220 rfl ?_
                    refine xk_iconst (1) dX2_settle_222 (by decide) ?_
                    refine xk_iadd dX2_settle_223 ?_
                    rw [nI_1]
                    refine xk_callV5 (M' := mX2_settle) (ci := 1) (r0 := (RX2, TX2, 8)) dX2_settle_224 wm_X2_37 cv_X2_settle wi_X2_settle wl_X2_settle (by omega) (Nat.le_refl _) (Nat.le_refl _) rfl rfl hL.1 (Nat.le_of_ble_eq_true rfl) (ih jn (hp ||| 2 ^ k) (sz + 1) G Wt fw lh hs hT hL hG (by omega) (by omega) (or_lt15 hhp (by omega)) (by omega) hfw) (fun _ _ z => z.2.2.1) (fun r0 hz z => ?_)
                    obtain ⟨rfl, ⟨G3, W3, z1, z2, z3⟩, z4⟩ := z
                    refine xk_vret rfl dX2_settle_227 (Nat.le_refl _) (Nat.le_refl _) ⟨rfl, ⟨G3, W3, ?_, z2, z3⟩, z4⟩
                    first
                    | (rw [setF_4 (b := (fw, lh)) c7 c51 (fun q => c152 q.2) (fun q => c99 q.1)]; exact z1)
                    | (rw [setF_4 (b := (fw, lh)) c7 c51 (fun q => q.1 c99) (fun q => c130 q.2)]; exact z1)
                  · exact absurd rfl c186
                · have c152 : jn + 1 < n := by
                    rcases Nat.lt_or_ge (jn + 1) n with q | q
                    · exact q
                    · exact absurd (nI_le q (by omega)) c152
                  refine xk_aload_n dX2_settle_155 rfl ?_
                  refine xk_iload_n dX2_settle_156 rfl ?_
                  refine xk_iload dX2_settle_157 rfl ?_
                  refine xk_iload dX2_settle_159 rfl ?_
                  refine xk_iload dX2_settle_161 rfl ?_
                  refine xk_callV4 (M' := mX2_join) (ci := 1) (r0 := (RX2, TX2, 8)) dX2_settle_163 wm_X2_55 cv_X2_join wi_X2_join wl_X2_join (by omega) (Nat.le_refl _) (Nat.le_refl _) rfl rfl hL.1 (Nat.le_of_ble_eq_true rfl) (y_X2_join d hn hL c152 (by omega) (by omega) hG) (fun _ _ z => z.2.2.1) (fun r0 hz z => ?_)
                  obtain ⟨rfl, hL1, hf1⟩ := z
                  have hT1 := hT.kept hf1 hdj
                  refine xk_aload_n dX2_settle_166 rfl ?_
                  refine xk_aload_n dX2_settle_167 rfl ?_
                  refine xk_iload_n dX2_settle_168 rfl ?_
                  refine xk_iconst (1) dX2_settle_169 (by decide) ?_
                  refine xk_isub dX2_settle_170 ?_
                  refine xk_iload_n dX2_settle_171 rfl ?_
                  refine xk_iconst (1) dX2_settle_172 (by decide) ?_
                  refine xk_iadd dX2_settle_173 ?_
                  rw [nI_1]
                  refine xk_iload dX2_settle_174 rfl ?_
                  refine xk_iload dX2_settle_176 rfl ?_
                  refine xk_callV5 (M' := mX2_settle) (ci := 1) (r0 := (RX2, TX2, 8)) dX2_settle_178 wm_X2_37 cv_X2_settle wi_X2_settle wl_X2_settle (by omega) (Nat.le_refl _) (Nat.le_refl _) rfl rfl hL1.1 (Nat.le_of_ble_eq_true rfl) (ih (jn + 1) hp sz _ _ fw lh _ hT1 hL1 (fun x y => joinA_lt hG jn _ _ x y) (by omega) (by omega) hhp (by omega) hfw) (fun _ _ z => z.2.2.1) (fun r0 h2z z => ?_)
                  obtain ⟨rfl, ⟨G3, W3, hL2, hG2, hS2⟩, hf2⟩ := z
                  have hT2 := hT1.kept hf2 hdj
                  have e3 : (setF w n k (jn + 1) (fun b => if jn + 1 = jn + 1 then joinG (G jn) (pu n k) (pl n k) b else G (jn + 1) b) (fun b => if jn + 1 = jn + 1 then joinW (G jn) (Wt jn) (pu n k) (pl n k) (logW w (pu n k) (pl n k)) b else Wt (jn + 1) b) hp sz (fw, lh)) = setF w n k (jn + 1) (joinG (G jn) (pu n k) (pl n k)) (joinW (G jn) (Wt jn) (pu n k) (pl n k) (logW w (pu n k) (pl n k))) hp sz (fw, lh) := by simp
                  have hL2 := e3 ▸ hL2
                  have hfs := setF_fst w n k (jn + 1) (joinG (G jn) (pu n k) (pl n k)) (joinW (G jn) (Wt jn) (pu n k) (pl n k) (logW w (pu n k) (pl n k))) hp sz (fw, lh)
                  refine xk_goto 208 dX2_settle_181 (by decide) ?_
                  refine xk_aload_n dX2_settle_208 rfl ?_
                  refine xk_aload_n dX2_settle_209 rfl ?_
                  refine xk_iload_n dX2_settle_210 rfl ?_
                  refine xk_iconst (1) dX2_settle_211 (by decide) ?_
                  refine xk_isub dX2_settle_212 ?_
                  refine xk_iload_n dX2_settle_213 rfl ?_
                  refine xk_iload dX2_settle_214 rfl ?_
                  refine xk_iconst (1) dX2_settle_216 (by decide) ?_
                  refine xk_iload_n dX2_settle_217 rfl ?_
                  refine xk_ishl dX2_settle_218 ?_
                  refine xk_ior dX2_settle_219 ?_
                  rw [hor]
                  refine xk_iload dX2_settle_220 rfl ?_
                  refine xk_iconst (1) dX2_settle_222 (by decide) ?_
                  refine xk_iadd dX2_settle_223 ?_
                  rw [nI_1]
                  refine xk_callV5 (M' := mX2_settle) (ci := 1) (r0 := (RX2, TX2, 8)) dX2_settle_224 wm_X2_37 cv_X2_settle wi_X2_settle wl_X2_settle (by omega) (Nat.le_refl _) (Nat.le_refl _) rfl rfl hL2.1 (Nat.le_of_ble_eq_true rfl) (ih jn (hp ||| 2 ^ k) (sz + 1) G3 W3 _ _ _ hT2 hL2 hG2 (by omega) (by omega) (or_lt15 hhp (by omega)) (by omega) (by dsimp only at hfs; omega)) (fun _ _ z => z.2.2.1) (fun r0 hz z => ?_)
                  obtain ⟨rfl, ⟨G4, W4, z1, z2, z3⟩, z4⟩ := z
                  refine xk_vret rfl dX2_settle_227 (Nat.le_refl _) (Nat.le_refl _) ⟨rfl, ⟨G4, W4, ?_, z2, fun x y hx hy => ?_⟩, (hf1.tr hf2).tr z4⟩
                  · rw [setF_2 (b := (fw, lh)) c7 c51 c99 c152]
                    rw [setF_congr w n (by omega) h2 k jn (G3 jn) (G jn) (W3 jn) (Wt jn) (hp ||| 2 ^ k) (sz + 1) _ (by omega) (fun x hx => by have := (hS2 jn x (by omega) hx).1; simpa using this) (fun x hx => by have := (hS2 jn x (by omega) hx).2; simpa using this)] at z1
                    exact z1
                  · have q1 := z3 x y hx hy
                    have q2 := hS2 x y (by omega) hy
                    dsimp only at q2
                    rw [if_neg (by omega), if_neg (by omega)] at q2
                    exact ⟨q1.1.trans q2.1, q1.2.trans q2.2⟩
          · have c99 := hc.mp c99
            refine xk_iconst (1) dX2_settle_102 (by decide) ?_
            refine xk_goto 107 dX2_settle_103 (by decide) ?_
            refine xk_istore dX2_settle_107 (by decide) ?_
            dsimp only [xk_s1, xk_s2, xk_kill]
            refine xk_aload_n dX2_settle_109 rfl ?_
            refine xk_get (ci := 1) (r := (RX2, TX2, 8)) 5 dX2_settle_110 rfl inX2 (by decide) wf_X2_28 hL.1 rfl ?_
            refine xk_iload_n dX2_settle_113 rfl ?_
            refine xk_aaldI dX2_settle_114 hL.2.2.2.2.1 b1 g2 ?_
            refine xk_iload dX2_settle_115 rfl ?_
            refine xk_iald dX2_settle_117 wf1 b2 ?_
            try rw [a2]
            rw [wf2 _ (by omega)]
            refine xk_aload_n dX2_settle_118 rfl ?_
            refine xk_get (ci := 1) (r := (RX2, TX2, 8)) 5 dX2_settle_119 rfl inX2 (by decide) wf_X2_28 hL.1 rfl ?_
            refine xk_iload_n dX2_settle_122 rfl ?_
            refine xk_aaldI dX2_settle_123 hL.2.2.2.2.1 b1 g2 ?_
            refine xk_iload dX2_settle_124 rfl ?_
            refine xk_iald dX2_settle_126 wf1 b3 ?_
            try rw [a3]
            rw [wf2 _ (by omega)]
            refine xk_isub dX2_settle_127 ?_
            refine xk_iload dX2_settle_128 rfl ?_
            refine xk_icmp_ne 137 dX2_settle_130 (by decide) (fun c130 => ?_) (fun c130 => ?_)
            · have c130 : ¬ Wt jn (pu n k) - Wt jn (pl n k) = logW w (pu n k) (pl n k) := c130
              refine xk_iconst (0) dX2_settle_137 (by decide) ?_
              refine xk_istore dX2_settle_138 (by decide) ?_
              dsimp only [xk_s1, xk_s2, xk_kill]
              refine xk_iload dX2_settle_140 rfl ?_
              refine xk_if_ne 184 dX2_settle_142 (by decide) (fun c142 => ?_) (fun c142 => ?_)
              · refine xk_iload dX2_settle_184 rfl ?_
                refine xk_if_eq 208 dX2_settle_186 (by decide) (fun c186 => ?_) (fun c186 => ?_)
                · exact absurd c186 (by decide)
                · refine xk_iload dX2_settle_189 rfl ?_
                  refine xk_if_eq 208 dX2_settle_191 (by decide) (fun c191 => ?_) (fun c191 => ?_)
                  · refine xk_aload_n dX2_settle_208 rfl ?_
                    refine xk_aload_n dX2_settle_209 rfl ?_
                    refine xk_iload_n dX2_settle_210 rfl ?_
                    refine xk_iconst (1) dX2_settle_211 (by decide) ?_
                    refine xk_isub dX2_settle_212 ?_
                    refine xk_iload_n dX2_settle_213 rfl ?_
                    refine xk_iload dX2_settle_214 rfl ?_
                    refine xk_iconst (1) dX2_settle_216 (by decide) ?_
                    refine xk_iload_n dX2_settle_217 rfl ?_
                    refine xk_ishl dX2_settle_218 ?_
                    refine xk_ior dX2_settle_219 ?_
                    rw [hor]
                    refine xk_iload dX2_settle_220 rfl ?_
                    refine xk_iconst (1) dX2_settle_222 (by decide) ?_
                    refine xk_iadd dX2_settle_223 ?_
                    rw [nI_1]
                    refine xk_callV5 (M' := mX2_settle) (ci := 1) (r0 := (RX2, TX2, 8)) dX2_settle_224 wm_X2_37 cv_X2_settle wi_X2_settle wl_X2_settle (by omega) (Nat.le_refl _) (Nat.le_refl _) rfl rfl hL.1 (Nat.le_of_ble_eq_true rfl) (ih jn (hp ||| 2 ^ k) (sz + 1) G Wt fw lh hs hT hL hG (by omega) (by omega) (or_lt15 hhp (by omega)) (by omega) hfw) (fun _ _ z => z.2.2.1) (fun r0 hz z => ?_)
                    obtain ⟨rfl, ⟨G3, W3, z1, z2, z3⟩, z4⟩ := z
                    refine xk_vret rfl dX2_settle_227 (Nat.le_refl _) (Nat.le_refl _) ⟨rfl, ⟨G3, W3, ?_, z2, z3⟩, z4⟩
                    first
                    | (rw [setF_4 (b := (fw, lh)) c7 c51 (fun q => c152 q.2) (fun q => c99 q.1)]; exact z1)
                    | (rw [setF_4 (b := (fw, lh)) c7 c51 (fun q => q.1 c99) (fun q => c130 q.2)]; exact z1)
                  · exact absurd rfl c191
              · exact absurd c142 (by decide)
            · have c130 : Wt jn (pu n k) - Wt jn (pl n k) = logW w (pu n k) (pl n k) := c130
              refine xk_iconst (1) dX2_settle_133 (by decide) ?_
              refine xk_goto 138 dX2_settle_134 (by decide) ?_
              refine xk_istore dX2_settle_138 (by decide) ?_
              dsimp only [xk_s1, xk_s2, xk_kill]
              refine xk_iload dX2_settle_140 rfl ?_
              refine xk_if_ne 184 dX2_settle_142 (by decide) (fun c142 => ?_) (fun c142 => ?_)
              · refine xk_iload dX2_settle_184 rfl ?_
                refine xk_if_eq 208 dX2_settle_186 (by decide) (fun c186 => ?_) (fun c186 => ?_)
                · exact absurd c186 (by decide)
                · refine xk_iload dX2_settle_189 rfl ?_
                  refine xk_if_eq 208 dX2_settle_191 (by decide) (fun c191 => ?_) (fun c191 => ?_)
                  · exact absurd c191 (by decide)
                  · refine xk_aload_n dX2_settle_194 rfl ?_
                    refine xk_aload_n dX2_settle_195 rfl ?_
                    refine xk_iload_n dX2_settle_196 rfl ?_
                    refine xk_iconst (1) dX2_settle_197 (by decide) ?_
                    refine xk_isub dX2_settle_198 ?_
                    refine xk_iload_n dX2_settle_199 rfl ?_
                    refine xk_iload dX2_settle_200 rfl ?_
                    refine xk_iload dX2_settle_202 rfl ?_
                    refine xk_callV5 (M' := mX2_settle) (ci := 1) (r0 := (RX2, TX2, 8)) dX2_settle_204 wm_X2_37 cv_X2_settle wi_X2_settle wl_X2_settle (by omega) (Nat.le_refl _) (Nat.le_refl _) rfl rfl hL.1 (Nat.le_of_ble_eq_true rfl) (ih jn hp sz G Wt fw lh hs hT hL hG (by omega) (by omega) hhp (by omega) hfw) (fun _ _ z => z.2.2.1) (fun r0 hz z => ?_)
                    obtain ⟨rfl, ⟨G3, W3, z1, z2, z3⟩, z4⟩ := z
                    exact xk_vret rfl dX2_settle_207 (Nat.le_refl _) (Nat.le_refl _) ⟨rfl, ⟨G3, W3, by rw [setF_3 (b := (fw, lh)) c7 c51 c99 c130]; exact z1, z2, z3⟩, z4⟩
              · exact absurd c142 (by decide)
        · rw [eH] at c51
          refine xk_aload_n dX2_settle_54 rfl ?_
          refine xk_aload_n dX2_settle_55 rfl ?_
          refine xk_iload_n dX2_settle_56 rfl ?_
          refine xk_iconst (1) dX2_settle_57 (by decide) ?_
          refine xk_isub dX2_settle_58 ?_
          refine xk_iload_n dX2_settle_59 rfl ?_
          refine xk_iload dX2_settle_60 rfl ?_
          refine xk_iload dX2_settle_62 rfl ?_
          refine xk_callV5 (M' := mX2_settle) (ci := 1) (r0 := (RX2, TX2, 8)) dX2_settle_64 wm_X2_37 cv_X2_settle wi_X2_settle wl_X2_settle (by omega) (Nat.le_refl _) (Nat.le_refl _) rfl rfl hL.1 (Nat.le_of_ble_eq_true rfl) (ih jn hp sz G Wt fw lh hs hT hL hG (by omega) (by omega) hhp (by omega) hfw) (fun _ _ z => z.2.2.1) (fun r0 hz z => ?_)
          obtain ⟨rfl, ⟨G3, W3, z1, z2, z3⟩, z4⟩ := z
          exact xk_vret rfl dX2_settle_67 (Nat.le_refl _) (Nat.le_refl _) ⟨rfl, ⟨G3, W3, by rw [setF_1 (b := (fw, lh)) c7 c51]; exact z1, z2, z3⟩, z4⟩
      · exact absurd (nI_pos' (by omega)) c11
    · have c7 : fw ≤ sz := by
        rcases Nat.lt_or_ge sz fw with q | q
        · exact absurd (nI_lt q (by omega)) c6
        · exact q
      exact xk_vret rfl dX2_settle_9 (Nat.le_refl _) (Nat.le_refl _) ⟨rfl, ⟨G, Wt, by rw [setF_done (b := (fw, lh)) c7]; exact hL, hG, fun x y _ _ => ⟨rfl, rfl⟩⟩, xfr.rf⟩

set_option maxHeartbeats 4000000 in
set_option maxRecDepth 100000 in
/-- search -/
theorem y_X2_search (d : Nat) {hs : xk_H} {t n fl v fw lh : Nat} {w : tbW} {G : Nat → Nat → Nat} {Wt : Nat → Nat → Int32} (hn : n ≤ 6) (h2 : 2 ≤ n) (ho : tbOK n w) (hdj : ∀ k, tbS t n k → ¬ lvS v n k) (hT : tbA hs t n w fl) (hL : lvA hs v n G Wt fw lh) (hG : ∀ x y, G x y < 6) (h0 : ∀ x, x < n → G 0 x = x ∧ Wt 0 x = 0) : xk_Y (d + 19) 0 0 mX2_search false [.ref v, .ref t] hs (fun r' h => r' = none ∧ (∃ (G' : Nat → Nat → Nat) (W' : Nat → Nat → Int32), lvA h v n G' W' (leaveF w n).1 (leaveF w n).2 ∧ (∀ x y, G' x y < 6) ∧ ∀ x, x < n → G' 0 x = x ∧ W' 0 x = 0) ∧ xfr (lvS v n) hs h) := by
  have hnp := np_ok n (by omega)
  have hL1 : lvA _ v n G Wt (n * (n - 1) / 2 + 1) lh := hL.obj (fw' := n * (n - 1) / 2 + 1) (lh' := lh)
  have hL2 : lvA _ v n G Wt (n * (n - 1) / 2 + 1) 0 := hL.obj (fw' := n * (n - 1) / 2 + 1) (lh' := 0)
  have hT2 := hT.set1 (e := .inr (1, [.int (nI n), .int (nI (n * (n - 1) / 2)), .ref (v + 1), .ref (v + 2), .ref (v + 3), .ref (v + 4 + n), .int (nI (n * (n - 1) / 2 + 1)), .int (nI 0)])) (a := v) (fun q => hdj v q ⟨by omega, by omega⟩)
  refine xk_Y.ofX (k := 0) (ls := [some (.ref v), some (.ref t)]) (by decide) rfl rfl ?_
  refine xk_aload_n dX2_search_0 rfl ?_
  refine xk_aload_n dX2_search_1 rfl ?_
  refine xk_get (ci := 1) (r := (RX2, TX2, 8)) 1 dX2_search_2 rfl inX2 (by decide) wf_X2_13 hL.1 rfl ?_
  refine xk_iconst (1) dX2_search_5 (by decide) ?_
  refine xk_iadd dX2_search_6 ?_
  rw [nI_1]
  refine xk_put (ci := 1) (r := (RX2, TX2, 8)) 6 tyX2 dX2_search_7 rfl inX2 tyX2_ok nmX2 (by decide) wf_X2_31 rfl (fun _ => rfl) (fun _ => rfl) hL.1 (Nat.le_of_ble_eq_true rfl) ?_
  dsimp only [List.set]
  refine xk_aload_n dX2_search_10 rfl ?_
  refine xk_iconst (0) dX2_search_11 (by decide) ?_
  refine xk_put (ci := 1) (r := (RX2, TX2, 8)) 7 tyX2 dX2_search_12 rfl inX2 tyX2_ok nmX2 (by decide) wf_X2_34 rfl (fun _ => rfl) (fun _ => rfl) hL1.1 (Nat.le_of_ble_eq_true rfl) ?_
  dsimp only [List.set]
  rw [List.set_set]
  refine xk_aload_n dX2_search_15 rfl ?_
  refine xk_aload_n dX2_search_16 rfl ?_
  refine xk_aload_n dX2_search_17 rfl ?_
  refine xk_get (ci := 1) (r := (RX2, TX2, 8)) 1 dX2_search_18 rfl inX2 (by decide) wf_X2_13 hL2.1 rfl ?_
  refine xk_iconst (1) dX2_search_21 (by decide) ?_
  refine xk_isub dX2_search_22 ?_
  refine xk_iconst (0) dX2_search_23 (by decide) ?_
  refine xk_iconst (0) dX2_search_24 (by decide) ?_
  refine xk_iconst (0) dX2_search_25 (by decide) ?_
  refine xk_callV5 (M' := mX2_settle) (ci := 1) (r0 := (RX2, TX2, 8)) dX2_search_26 wm_X2_37 cv_X2_settle wi_X2_settle wl_X2_settle (by omega) (Nat.le_refl _) (Nat.le_refl _) rfl rfl hL2.1 (Nat.le_of_ble_eq_true rfl) (y_X2_settle d hn h2 ho hdj (n * (n - 1) / 2) 0 0 0 G Wt (n * (n - 1) / 2 + 1) 0 _ hT2 hL2 hG (by omega) (by omega) (by decide) (by omega) (by omega)) (fun _ _ z => z.2.2.1) (fun r0 hz z => ?_)
  obtain ⟨rfl, ⟨G3, W3, z1, z2, z3⟩, z4⟩ := z
  refine xk_vret rfl dX2_search_29 (Nat.le_refl _) (Nat.le_refl _) ⟨rfl, ⟨G3, W3, ?_, z2, fun x hx => ?_⟩, (xfr.rf.set ⟨by omega, by omega⟩).tr z4⟩
  · rw [setF_congr w n (by omega) h2 _ 0 (G 0) id (Wt 0) (fun _ => 0) 0 0 _ (by omega) (fun x hx => (h0 x hx).1) (fun x hx => (h0 x hx).2)] at z1
    exact z1
  · have q := z3 0 x (by omega) hx
    exact ⟨q.1.trans (h0 x hx).1, q.2.trans (h0 x hx).2⟩

