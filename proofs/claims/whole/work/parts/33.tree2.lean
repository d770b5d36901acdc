/-! TreeCount: eliminate, of. Laid by a program of our own. -/
set_option maxHeartbeats 4000000 in
set_option maxRecDepth 100000 in
/-- eliminate -/
theorem y_X6_eliminate (d : Nat) {hs : xk_H} {u s st : Nat} {pv bf : Int32} {M : mtM} (hs6 : s ≤ 6) (hst : st < s) (hM : mtA hs u s M) (hbf : ¬ bf = 0) : xk_Y d 0 0 mX6_eliminate false [.ref u, .int (nI st), .int pv, .int bf] hs (fun r' h => r' = none ∧ mtA h u s (elimM M st pv bf) ∧ xfr (mtS u s) hs h) := by
  have l24 : ∀ (r j i : Nat) (M1 : mtM) (h : xk_H) (o : Option Value), j + r = s → st < j → st < i → i < s → mtA h u s M1 → xfr (mtS u s) hs h → (∀ a b, a < s → b < s → M1 a b = if st < a ∧ st < b ∧ (a < i ∨ (a = i ∧ b < j)) then elV M st pv bf a b else M a b) →
      (∀ (M2 : mtM) (h2 : xk_H) (o5 o6 : Option Value), mtA h2 u s M2 → xfr (mtS u s) hs h2 → (∀ a b, a < s → b < s → M2 a b = if st < a ∧ st < b ∧ a < i + 1 then elV M st pv bf a b else M a b) → xk_X d 0 0 mX6_eliminate (xk_fx false hs) (fun r' h => r' = none ∧ mtA h u s (elimM M st pv bf) ∧ xfr (mtS u s) hs h) 0 0 87 [some (.ref u), some (.int (nI st)), some (.int pv), some (.int bf), some (.int (nI i)), o5, o6] [] h2) → xk_X d 0 0 mX6_eliminate (xk_fx false hs) (fun r' h => r' = none ∧ mtA h u s (elimM M st pv bf) ∧ xfr (mtS u s) hs h) 0 0 24 [some (.ref u), some (.int (nI st)), some (.int pv), some (.int bf), some (.int (nI i)), some (.int (nI j)), o] [] h := by
    intro r
    induction r with
    | zero =>
      intro j i M1 h o h1 hj hi his hm hf p K
      obtain rfl : j = s := by omega
      refine xk_iload dX6_eliminate_24 rfl ?_
      refine xk_aload_n dX6_eliminate_26 rfl ?_
      refine xk_get (ci := 5) (r := (RX6, TX6, 2)) 0 dX6_eliminate_27 rfl inX6 (by decide) wf_X6_7 hm.1 rfl ?_
      refine xk_icmp_ge 87 dX6_eliminate_30 (by decide) (fun c30 => ?_) (fun c30 => ?_)
      · refine K M1 h _ _ hm hf (fun a b ha hb => ?_)
        rw [p a b ha hb]
        by_cases c : st < a ∧ st < b ∧ a < i + 1
        · rw [if_pos c, if_pos (by omega)]
        · rw [if_neg c, if_neg (by omega)]
      · exact absurd (nI_le (Nat.le_refl j) (by omega)) c30
    | succ r ih =>
      intro j i M1 h o h1 hj hi his hm hf p K
      obtain ⟨fi, hfi, hfi2⟩ := hm.2.2 i his
      obtain ⟨fs, hfs, hfs2⟩ := hm.2.2 st hst
      have q1 : vp_in (nI i) s := vp_in_nI his (by omega)
      have q2 : vp_in (nI j) s := vp_in_nI (by omega) (by omega)
      have q7 : vp_in (nI st) s := vp_in_nI hst (by omega)
      have q3 : (nI i).toNatClampNeg = i := nI_clamp (by omega)
      have q4 : (nI j).toNatClampNeg = j := nI_clamp (by omega)
      have q8 : (nI st).toNatClampNeg = st := nI_clamp (by omega)
      have q5 : (if (nI i).toNatClampNeg < s then some (u + 2 + (nI i).toNatClampNeg) else none) = some (u + 2 + i) := by rw [q3, if_pos his]
      have q6 : (if (nI st).toNatClampNeg < s then some (u + 2 + (nI st).toNatClampNeg) else none) = some (u + 2 + st) := by rw [q8, if_pos hst]
      have e1 : fi j = M i j := by rw [hfi2 j (by omega), p i j his (by omega), if_neg (by omega)]
      have e2 : fi st = M i st := by rw [hfi2 st hst, p i st his hst, if_neg (by omega)]
      have e3 : fs j = M st j := by rw [hfs2 j (by omega), p st j hst (by omega), if_neg (by omega)]
      refine xk_iload dX6_eliminate_24 rfl ?_
      refine xk_aload_n dX6_eliminate_26 rfl ?_
      refine xk_get (ci := 5) (r := (RX6, TX6, 2)) 0 dX6_eliminate_27 rfl inX6 (by decide) wf_X6_7 hm.1 rfl ?_
      refine xk_icmp_ge 87 dX6_eliminate_30 (by decide) (fun c30 => ?_) (fun c30 => ?_)
      · exact absurd c30 (nI_ge (by omega) (by omega))
      · refine xk_aload_n dX6_eliminate_33 rfl ?_
        refine xk_get (ci := 5) (r := (RX6, TX6, 2)) 1 dX6_eliminate_34 rfl inX6 (by decide) wf_X6_15 hm.1 rfl ?_
        refine xk_iload dX6_eliminate_37 rfl ?_
        refine xk_aaldI dX6_eliminate_39 hm.2.1 q1 q5 ?_
        refine xk_iload dX6_eliminate_40 rfl ?_
        refine xk_iald dX6_eliminate_42 hfi q2 ?_
        rw [q4, e1]
        refine xk_iload_n dX6_eliminate_43 rfl ?_
        refine xk_imul dX6_eliminate_44 ?_
        refine xk_aload_n dX6_eliminate_45 rfl ?_
        refine xk_get (ci := 5) (r := (RX6, TX6, 2)) 1 dX6_eliminate_46 rfl inX6 (by decide) wf_X6_15 hm.1 rfl ?_
        refine xk_iload dX6_eliminate_49 rfl ?_
        refine xk_aaldI dX6_eliminate_51 hm.2.1 q1 q5 ?_
        refine xk_iload_n dX6_eliminate_52 rfl ?_
        refine xk_iald dX6_eliminate_53 hfi q7 ?_
        rw [q8, e2]
        refine xk_aload_n dX6_eliminate_54 rfl ?_
        refine xk_get (ci := 5) (r := (RX6, TX6, 2)) 1 dX6_eliminate_55 rfl inX6 (by decide) wf_X6_15 hm.1 rfl ?_
        refine xk_iload_n dX6_eliminate_58 rfl ?_
        refine xk_aaldI dX6_eliminate_59 hm.2.1 q7 q6 ?_
        refine xk_iload dX6_eliminate_60 rfl ?_
        refine xk_iald dX6_eliminate_62 hfs q2 ?_
        try rw [q4]
        rw [e3]
        refine xk_imul dX6_eliminate_63 ?_
        refine xk_isub dX6_eliminate_64 ?_
        refine xk_istore dX6_eliminate_65 (by decide) ?_
        dsimp only [xk_s1, xk_s2, xk_kill]
        refine xk_aload_n dX6_eliminate_67 rfl ?_
        refine xk_get (ci := 5) (r := (RX6, TX6, 2)) 1 dX6_eliminate_68 rfl inX6 (by decide) wf_X6_15 hm.1 rfl ?_
        refine xk_iload dX6_eliminate_71 rfl ?_
        refine xk_aaldI dX6_eliminate_73 hm.2.1 q1 q5 ?_
        refine xk_iload dX6_eliminate_74 rfl ?_
        refine xk_iload dX6_eliminate_76 rfl ?_
        refine xk_iload_n dX6_eliminate_78 rfl ?_
        refine xk_idiv dX6_eliminate_79 hbf ?_
        refine xk_iast dX6_eliminate_80 hfi q2 ?_
        try rw [q4]
        refine xk_iinc (nI (j + 1)) dX6_eliminate_81 rfl (nI_1 j) (by decide) ?_
        dsimp only [xk_s1, xk_s2, xk_kill]
        refine xk_goto 24 dX6_eliminate_84 (by decide) ?_
        refine ih (j + 1) i _ _ _ (by omega) (by omega) hi his (hm.put (j := j) (x := elV M st pv bf i j) his hfi) (hf.set ⟨by omega, by omega⟩) (fun a b ha hb => ?_) K
        by_cases c : a = i ∧ b = j
        · obtain ⟨rfl, rfl⟩ := c
          rw [if_pos ⟨rfl, rfl⟩, if_pos (by omega)]
        · rw [if_neg c, p a b ha hb]
          by_cases c2 : st < a ∧ st < b ∧ (a < i ∨ (a = i ∧ b < j))
          · rw [if_pos c2, if_pos (by omega)]
          · rw [if_neg c2, if_neg (by omega)]
  have l10 : ∀ (r i : Nat) (M1 : mtM) (h : xk_H) (o5 o6 : Option Value), i + r = s → st < i → mtA h u s M1 → xfr (mtS u s) hs h → (∀ a b, a < s → b < s → M1 a b = if st < a ∧ st < b ∧ a < i then elV M st pv bf a b else M a b) → xk_X d 0 0 mX6_eliminate (xk_fx false hs) (fun r' h => r' = none ∧ mtA h u s (elimM M st pv bf) ∧ xfr (mtS u s) hs h) 0 0 10 [some (.ref u), some (.int (nI st)), some (.int pv), some (.int bf), some (.int (nI i)), o5, o6] [] h := by
    intro r
    induction r with
    | zero =>
      intro i M1 h o5 o6 h1 hi hm hf p
      obtain rfl : i = s := by omega
      have hE : ∀ a b, a < i → b < i → (∀ a b, a < i → b < i → M1 a b = if st < a ∧ st < b ∧ a < i then elV M st pv bf a b else M a b) → M1 a b = elimM M st pv bf a b := by
        intro a b ha hb p
        rw [p a b ha hb]
        unfold elimM
        by_cases c : st < a ∧ st < b
        · rw [if_pos c, if_pos (by omega)]
        · rw [if_neg c, if_neg (by omega)]
      refine xk_iload dX6_eliminate_10 rfl ?_
      refine xk_aload_n dX6_eliminate_12 rfl ?_
      refine xk_get (ci := 5) (r := (RX6, TX6, 2)) 0 dX6_eliminate_13 rfl inX6 (by decide) wf_X6_7 hm.1 rfl ?_
      refine xk_icmp_ge 93 dX6_eliminate_16 (by decide) (fun c16 => ?_) (fun c16 => ?_)
      · exact xk_vret rfl dX6_eliminate_93 (Nat.le_refl _) (Nat.le_refl _) ⟨rfl, hm.to (fun a b ha hb => hE a b ha hb p), hf⟩
      · exact absurd (nI_le (Nat.le_refl i) (by omega)) c16
    | succ r ih =>
      intro i M1 h o5 o6 h1 hi hm hf p
      refine xk_iload dX6_eliminate_10 rfl ?_
      refine xk_aload_n dX6_eliminate_12 rfl ?_
      refine xk_get (ci := 5) (r := (RX6, TX6, 2)) 0 dX6_eliminate_13 rfl inX6 (by decide) wf_X6_7 hm.1 rfl ?_
      refine xk_icmp_ge 93 dX6_eliminate_16 (by decide) (fun c16 => ?_) (fun c16 => ?_)
      · exact absurd c16 (nI_ge (by omega) (by omega))
      · refine xk_iload_n dX6_eliminate_19 rfl ?_
        refine xk_iconst (1) dX6_eliminate_20 (by decide) ?_
        refine xk_iadd dX6_eliminate_21 ?_
        rw [nI_1]
        refine xk_istore dX6_eliminate_22 (by decide) ?_
        dsimp only [xk_s1, xk_s2, xk_kill]
        refine l24 (s - (st + 1)) (st + 1) i M1 h _ (by omega) (by omega) hi (by omega) hm hf (fun a b ha hb => ?_) (fun M2 h2 o5 o6 hm2 hf2 p2 => ?_)
        · rw [p a b ha hb]
          by_cases c : st < a ∧ st < b ∧ a < i
          · rw [if_pos c, if_pos (by omega)]
          · rw [if_neg c, if_neg (by omega)]
        · refine xk_iinc (nI (i + 1)) dX6_eliminate_87 rfl (nI_1 i) (by decide) ?_
          dsimp only [xk_s1, xk_s2, xk_kill]
          refine xk_goto 10 dX6_eliminate_90 (by decide) ?_
          exact ih (i + 1) M2 h2 _ _ (by omega) (by omega) hm2 hf2 p2
  refine xk_Y.ofX (k := 3) (ls := [some (.ref u), some (.int (nI st)), some (.int pv), some (.int bf), none, none, none]) (by decide) rfl rfl ?_
  refine xk_iload_n dX6_eliminate_0 rfl ?_
  refine xk_if_ne 5 dX6_eliminate_1 (by decide) (fun c1 => ?_) (fun c1 => ?_)
  · refine xk_iload_n dX6_eliminate_5 rfl ?_
    refine xk_iconst (1) dX6_eliminate_6 (by decide) ?_
    refine xk_iadd dX6_eliminate_7 ?_
    rw [nI_1]
    refine xk_istore dX6_eliminate_8 (by decide) ?_
    dsimp only [xk_s1, xk_s2, xk_kill]
    exact l10 (s - (st + 1)) (st + 1) M hs _ _ (by omega) (by omega) hM xfr.rf (fun a b ha hb => by rw [if_neg (by omega)])
  · exact absurd c1 hbf

set_option maxHeartbeats 4000000 in
set_option maxRecDepth 100000 in
/-- of: how many trees -/
theorem y_X6_of (d : Nat) {hs : xk_H} {t n fl u s : Nat} {w : tbW} {M : mtM} (hn : n ≤ 6) (hns : n = s + 1) (hs1 : 1 ≤ s) (hT : tbA hs t n w fl) (ho : tbOK n w) (hM : mtA hs u s M) (hd : ∀ k, tbS t n k → ¬ mtS u s k) : xk_Y (d + 4) 0 0 mX6_of false [.ref u, .ref t] hs (fun r' h => r' = some (.int (ofM s (s - 1) 0 1 (lapM w s))) ∧ (∃ M2, mtA h u s M2) ∧ xfr (mtS u s) hs h) := by
  have e0 : nI s - 1 = nI (s - 1) := pk_sub (a := s) (b := 1) hs1
  have l9 : ∀ (r st : Nat) (bf : Int32) (M1 : mtM) (h : xk_H) (o : Option Value), st + r + 1 = s → ¬ bf = 0 → mtA h u s M1 → xfr (mtS u s) hs h → ofM s r st bf M1 = ofM s (s - 1) 0 1 (lapM w s) → xk_X (d + 4) 0 0 mX6_of (xk_fx false hs) (fun r' h => r' = some (.int (ofM s (s - 1) 0 1 (lapM w s))) ∧ (∃ M2, mtA h u s M2) ∧ xfr (mtS u s) hs h) 0 0 9 [some (.ref u), some (.ref t), some (.int bf), some (.int (nI st)), o] [] h := by
    intro r
    induction r with
    | zero =>
      intro st bf M1 h o h1 hbf hm hf hE
      obtain rfl : st = s - 1 := by omega
      obtain ⟨f, hf1, hf2⟩ := hm.2.2 (s - 1) (by omega)
      have q3 : (nI (s - 1)).toNatClampNeg = s - 1 := nI_clamp (by omega)
      have q1 : vp_in (nI (s - 1)) s := vp_in_nI (by omega) (by omega)
      have q5 : (if (nI (s - 1)).toNatClampNeg < s then some (u + 2 + (nI (s - 1)).toNatClampNeg) else none) = some (u + 2 + (s - 1)) := by rw [q3, if_pos (by omega)]
      refine xk_iload_n dX6_of_9 rfl ?_
      refine xk_aload_n dX6_of_10 rfl ?_
      refine xk_get (ci := 5) (r := (RX6, TX6, 2)) 0 dX6_of_11 rfl inX6 (by decide) wf_X6_7 hm.1 rfl ?_
      refine xk_iconst (1) dX6_of_14 (by decide) ?_
      refine xk_isub dX6_of_15 ?_
      rw [e0]
      refine xk_icmp_ge 53 dX6_of_16 (by decide) (fun c16 => ?_) (fun c16 => ?_)
      · refine xk_aload_n dX6_of_53 rfl ?_
        refine xk_get (ci := 5) (r := (RX6, TX6, 2)) 1 dX6_of_54 rfl inX6 (by decide) wf_X6_15 hm.1 rfl ?_
        refine xk_aload_n dX6_of_57 rfl ?_
        refine xk_get (ci := 5) (r := (RX6, TX6, 2)) 0 dX6_of_58 rfl inX6 (by decide) wf_X6_7 hm.1 rfl ?_
        refine xk_iconst (1) dX6_of_61 (by decide) ?_
        refine xk_isub dX6_of_62 ?_
        rw [e0]
        refine xk_aaldI dX6_of_63 hm.2.1 q1 q5 ?_
        refine xk_aload_n dX6_of_64 rfl ?_
        refine xk_get (ci := 5) (r := (RX6, TX6, 2)) 0 dX6_of_65 rfl inX6 (by decide) wf_X6_7 hm.1 rfl ?_
        refine xk_iconst (1) dX6_of_68 (by decide) ?_
        refine xk_isub dX6_of_69 ?_
        rw [e0]
        refine xk_iald dX6_of_70 hf1 q1 ?_
        rw [q3]
        exact xk_iret rfl dX6_of_71 (Nat.le_refl _) (Nat.le_refl _) ⟨by rw [← hE, hf2 (s - 1) (by omega)]; rfl, ⟨M1, hm⟩, hf⟩
      · exact absurd (nI_le (Nat.le_refl (s - 1)) (by omega)) c16
    | succ r ih =>
      intro st bf M1 h o h1 hbf hm hf hE
      obtain ⟨f, hf1, hf2⟩ := hm.2.2 st (by omega)
      have q3 : (nI st).toNatClampNeg = st := nI_clamp (by omega)
      have q1 : vp_in (nI st) s := vp_in_nI (by omega) (by omega)
      have q5 : (if (nI st).toNatClampNeg < s then some (u + 2 + (nI st).toNatClampNeg) else none) = some (u + 2 + st) := by rw [q3, if_pos (by omega)]
      have e1 : f st = M1 st st := hf2 st (by omega)
      refine xk_iload_n dX6_of_9 rfl ?_
      refine xk_aload_n dX6_of_10 rfl ?_
      refine xk_get (ci := 5) (r := (RX6, TX6, 2)) 0 dX6_of_11 rfl inX6 (by decide) wf_X6_7 hm.1 rfl ?_
      refine xk_iconst (1) dX6_of_14 (by decide) ?_
      refine xk_isub dX6_of_15 ?_
      rw [e0]
      refine xk_icmp_ge 53 dX6_of_16 (by decide) (fun c16 => ?_) (fun c16 => ?_)
      · exact absurd c16 (nI_ge (by omega) (by omega))
      · refine xk_aload_n dX6_of_19 rfl ?_
        refine xk_get (ci := 5) (r := (RX6, TX6, 2)) 1 dX6_of_20 rfl inX6 (by decide) wf_X6_15 hm.1 rfl ?_
        refine xk_iload_n dX6_of_23 rfl ?_
        refine xk_aaldI dX6_of_24 hm.2.1 q1 q5 ?_
        refine xk_iload_n dX6_of_25 rfl ?_
        refine xk_iald dX6_of_26 hf1 q1 ?_
        rw [q3, e1]
        refine xk_istore dX6_of_27 (by decide) ?_
        dsimp only [xk_s1, xk_s2, xk_kill]
        refine xk_iload dX6_of_29 rfl ?_
        refine xk_if_ne 36 dX6_of_31 (by decide) (fun c31 => ?_) (fun c31 => ?_)
        · refine xk_aload_n dX6_of_36 rfl ?_
          refine xk_iload_n dX6_of_37 rfl ?_
          refine xk_iload dX6_of_38 rfl ?_
          refine xk_iload_n dX6_of_40 rfl ?_
          refine xk_callV3 (M' := mX6_eliminate) (d' := d) (ci := 5) (r0 := (RX6, TX6, 2)) dX6_of_41 wm_X6_22 cv_X6_eliminate wi_X6_eliminate wl_X6_eliminate (by omega) (Nat.le_refl _) (Nat.le_refl _) rfl rfl hm.1 (Nat.le_of_ble_eq_true rfl) (y_X6_eliminate d (by omega) (by omega) hm hbf) (fun _ _ z => z.2.2.1) (fun r0 h2 z => ?_)
          obtain ⟨rfl, hm2, hf2⟩ := z
          refine xk_iload dX6_of_44 rfl ?_
          refine xk_istore_n dX6_of_46 (by decide) ?_
          dsimp only [xk_s1, xk_s2, xk_kill]
          refine xk_iinc (nI (st + 1)) dX6_of_47 rfl (nI_1 st) (by decide) ?_
          dsimp only [xk_s1, xk_s2, xk_kill]
          refine xk_goto 9 dX6_of_50 (by decide) ?_
          refine ih (st + 1) (M1 st st) _ h2 _ (by omega) c31 hm2 (hf.tr hf2) ?_
          rw [← hE, ofM, if_neg c31]
        · refine xk_iconst (0) dX6_of_34 (by decide) ?_
          exact xk_iret rfl dX6_of_35 (Nat.le_refl _) (Nat.le_refl _) ⟨by rw [← hE, ofM, if_pos c31], ⟨M1, hm⟩, hf⟩
  refine xk_Y.ofX (k := 3) (ls := [some (.ref u), some (.ref t), none, none, none]) (by decide) rfl rfl ?_
  refine xk_aload_n dX6_of_0 rfl ?_
  refine xk_aload_n dX6_of_1 rfl ?_
  refine xk_callV1 (M' := mX6_fill) (d' := d + 3) (ci := 5) (r0 := (RX6, TX6, 2)) dX6_of_2 wm_X6_18 cv_X6_fill wi_X6_fill wl_X6_fill (by omega) (Nat.le_refl _) (Nat.le_refl _) rfl rfl hM.1 (Nat.le_of_ble_eq_true rfl) (y_X6_fill d hn hns hT ho hM hd) (fun _ _ z => z.2.2.1) (fun r0 h2 z => ?_)
  obtain ⟨rfl, hm2, hf2⟩ := z
  refine xk_iconst (1) dX6_of_5 (by decide) ?_
  refine xk_istore_n dX6_of_6 (by decide) ?_
  dsimp only [xk_s1, xk_s2, xk_kill]
  refine xk_iconst (0) dX6_of_7 (by decide) ?_
  refine xk_istore_n dX6_of_8 (by decide) ?_
  dsimp only [xk_s1, xk_s2, xk_kill]
  exact l9 (s - 1) 0 1 _ h2 _ (by omega) (by decide) hm2 hf2 rfl

