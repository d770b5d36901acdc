/-! The reference: rings, least. Laid by a program of our own. -/
set_option maxHeartbeats 4000000 in
set_option maxRecDepth 100000 in
/-- rings, by how many things are free still -/
theorem y_X9_rings (d : Nat) {m n : Nat} {T : mdT} (hn : n ≤ 6) (h2 : 2 ≤ n) (hK : mdOK T) : ∀ (f b : Nat) (q : List Nat) (p : Nat × Nat) (s : lS) (W : Nat → Int32) (hs : xk_H), mdC hs m n T → rgA hs hs m n s W → wayR W (b :: q) → (∀ x, x ∈ b :: q → x < n) → (b :: q).Nodup → q.length + 1 + f = n → pB (q.length + 1) p → 1 ≤ p.1 → 1 ≤ p.2 → lB s →
    xk_Y (d + 3 + f) 0 0 mX9_rings false [.ref m, .int (nI (q.length + 1)), .long (lN p.1), .long (lN p.2)] hs (fun r' h => r' = none ∧ ∃ W', rgA hs h m n (rgF n T f b q p s) W' ∧ wayR W' (b :: q)) := by
  intro f
  induction f with
  | zero =>
    intro b q p s W hs hC hR hw hx hd hz hp hp1 hp2 hB
    have hb : b < n := hx b List.mem_cons_self
    have ha : lastN (b :: q) < n := hx _ (lastN_mem b q)
    have hp6 := pB_6 (show (q.length + 1) ≤ 6 by omega) hp
    have h96 := p9 (show (q.length + 1) ≤ 6 by omega)
    have e0 : W 0 = nI (lastN (b :: q)) := wayR_0 b q hw
    have el : W q.length = nI b := hw.1
    have q9 : (nI q.length).toNatClampNeg = q.length := nI_clamp (by omega)
    have q8 : (0 : Int32).toNatClampNeg = 0 := rfl
    have j66 : ∀ (h : xk_H) (s1 : lS) (W1 : Nat → Int32), rgA hs h m n s1 W1 → wayR W1 (b :: q) → lB s1 → rgC n T b q p s = s1 → xk_X (d + 3 + 0) 0 0 mX9_rings (xk_fx false hs) (fun r' h => r' = none ∧ ∃ W', rgA hs h m n (rgF n T 0 b q p s) W' ∧ wayR W' (b :: q)) 0 0 66 [some (.ref m), some (.int (nI (q.length + 1))), some (.long (lN p.1)), none, some (.long (lN p.2)), none, some (.int (nI b)), none, none, none] [] h := by
      intro h s1 W1 hR1 hw1 hB1 hE
      obtain ⟨⟨c, e, hO⟩, -, -, hw5, -⟩ := id hR1
      refine xk_iload_n dX9_rings_66 rfl ?_
      refine xk_aload_n dX9_rings_67 rfl ?_
      refine xk_get (ci := 8) (r := (RX9, TX9, 25)) 0 dX9_rings_68 rfl inX9 (by decide) wf_X9_66 hO rfl ?_
      refine xk_icmp_ne 75 dX9_rings_71 (by decide) (fun c71 => ?_) (fun c71 => ?_)
      · exact absurd (by rw [show q.length + 1 = n by omega]) c71
      · exact xk_vret rfl dX9_rings_74 (Nat.le_refl _) (Nat.le_refl _) ⟨rfl, W1, by rw [rgF, hE]; exact hR1, hw1⟩
    obtain ⟨⟨c, e, hO⟩, -, -, hw5, -⟩ := id hR
    refine xk_Y.ofX (k := 4) (ls := [some (.ref m), some (.int (nI (q.length + 1))), some (.long (lN p.1)), none, some (.long (lN p.2)), none, none, none, none, none]) (by decide) rfl rfl ?_
    refine xk_aload_n dX9_rings_0 rfl ?_
    refine xk_get (ci := 8) (r := (RX9, TX9, 25)) 20 dX9_rings_1 rfl inX9 (by decide) wf_X9_54 hO rfl ?_
    refine xk_iload_n dX9_rings_4 rfl ?_
    refine xk_iconst (1) dX9_rings_5 (by decide) ?_
    refine xk_isub dX9_rings_6 ?_
    rw [show (1 : Int32) = nI 1 from rfl, pk_sub (by omega), Nat.add_sub_cancel]
    refine xk_iald dX9_rings_7 hw5 (vp_in_nI (by omega) (by decide)) ?_
    rw [q9, el]
    refine xk_istore dX9_rings_8 (by decide) ?_
    dsimp only [xk_s1, xk_s2, xk_kill]
    refine xk_iload_n dX9_rings_10 rfl ?_
    refine xk_iconst (2) dX9_rings_11 (by decide) ?_
    refine xk_icmp_le 66 dX9_rings_12 (by decide) (fun c12 => ?_) (fun c12 => ?_)
    · have c13 : ¬ 3 ≤ q.length + 1 := fun z => absurd c12 (nI_ge (a := 2) (by omega) (by omega))
      first | exact j66 hs s W hR hw hB (by unfold rgC; rw [if_neg (fun z => c13 z.1)]) | exact j66 hs s W hR hw hB (by unfold rgC; rw [if_neg (fun z => c28 z.2)]) | exact j66 z63 _ W hR3 hw hB3 (by unfold rgC; rw [if_pos ⟨c13, c28⟩])
    · have c13 : 3 ≤ q.length + 1 := by
        rcases Nat.lt_or_ge 2 (q.length + 1) with z | z
        · exact z
        · exact absurd (nI_le (b := 2) z (by decide)) c12
      have hab := nod_last hd (by omega)
      refine xk_aload_n dX9_rings_15 rfl ?_
      refine xk_iload dX9_rings_16 rfl ?_
      refine xk_aload_n dX9_rings_18 rfl ?_
      refine xk_get (ci := 8) (r := (RX9, TX9, 25)) 20 dX9_rings_19 rfl inX9 (by decide) wf_X9_54 hO rfl ?_
      refine xk_iconst (0) dX9_rings_22 (by decide) ?_
      refine xk_iald dX9_rings_23 hw5 (vp_in_nI (n := 0) (by decide) (by decide)) ?_
      rw [q8, e0]
      refine xk_v2 (M' := mX9_isSaid)  (ci := 8) (r0 := (RX9, TX9, 25)) dX9_rings_24 wm_X9_88 cv_X9_isSaid wi_X9_isSaid wl_X9_isSaid (by omega) (Nat.le_refl _) (Nat.le_refl _) rfl rfl hO (Nat.le_of_ble_eq_true rfl) (y_X9_isSaid (d + 0) hn h2 hO hC hb ha hab (by have := hK (pidx n b (lastN (b :: q))); omega)) rfl ?_
      refine xk_ifb_eq 66 dX9_rings_27 (by decide) (fun c27 => ?_) (fun c27 => ?_)
      · have c28 : ¬ 0 < T.1 (pidx n b (lastN (b :: q))) := of_decide_eq_false c27
        first | exact j66 hs s W hR hw hB (by unfold rgC; rw [if_neg (fun z => c13 z.1)]) | exact j66 hs s W hR hw hB (by unfold rgC; rw [if_neg (fun z => c28 z.2)]) | exact j66 z63 _ W hR3 hw hB3 (by unfold rgC; rw [if_pos ⟨c13, c28⟩])
      · have c28 : 0 < T.1 (pidx n b (lastN (b :: q))) := of_decide_eq_true c27
        have hdg := mdS_said (n := n) hK c28
        have hpm := pB_mul hp hdg.1.2 hdg.2.2
        have hR3b := rgS_b (z := q.length + 1) (s := s) (Nat.le_trans hpm.1 h96) (Nat.le_trans hpm.2 h96) (by omega) hB
        refine xk_aload_n dX9_rings_30 rfl ?_
        refine xk_lload_n dX9_rings_31 rfl ?_
        refine xk_aload_n dX9_rings_32 rfl ?_
        refine xk_iload dX9_rings_33 rfl ?_
        refine xk_aload_n dX9_rings_35 rfl ?_
        refine xk_get (ci := 8) (r := (RX9, TX9, 25)) 20 dX9_rings_36 rfl inX9 (by decide) wf_X9_54 hO rfl ?_
        refine xk_iconst (0) dX9_rings_39 (by decide) ?_
        refine xk_iald dX9_rings_40 hw5 (vp_in_nI (n := 0) (by decide) (by decide)) ?_
        try rw [q8]
        try rw [e0]
        refine xk_v2 (M' := mX9_topOf)  (ci := 8) (r0 := (RX9, TX9, 25)) dX9_rings_41 wm_X9_91 cv_X9_topOf wi_X9_topOf wl_X9_topOf (by omega) (Nat.le_refl _) (Nat.le_refl _) rfl rfl hO (Nat.le_of_ble_eq_true rfl) (y_X9_topOf (d + 0) hn h2 hO hC hb ha hab) rfl ?_
        refine xk_i2l dX9_rings_44 ?_
        rw [nI_l (by omega)]
        refine xk_lmul dX9_rings_45 ?_
        rw [lN_mul]
        refine xk_lload dX9_rings_46 rfl ?_
        refine xk_aload_n dX9_rings_48 rfl ?_
        refine xk_iload dX9_rings_49 rfl ?_
        refine xk_aload_n dX9_rings_51 rfl ?_
        refine xk_get (ci := 8) (r := (RX9, TX9, 25)) 20 dX9_rings_52 rfl inX9 (by decide) wf_X9_54 hO rfl ?_
        refine xk_iconst (0) dX9_rings_55 (by decide) ?_
        refine xk_iald dX9_rings_56 hw5 (vp_in_nI (n := 0) (by decide) (by decide)) ?_
        try rw [q8]
        try rw [e0]
        refine xk_v2 (M' := mX9_bottomOf)  (ci := 8) (r0 := (RX9, TX9, 25)) dX9_rings_57 wm_X9_94 cv_X9_bottomOf wi_X9_bottomOf wl_X9_bottomOf (by omega) (Nat.le_refl _) (Nat.le_refl _) rfl rfl hO (Nat.le_of_ble_eq_true rfl) (y_X9_bottomOf (d + 0) hn h2 hO hC hb ha hab) rfl ?_
        refine xk_i2l dX9_rings_60 ?_
        rw [nI_l (by omega)]
        refine xk_lmul dX9_rings_61 ?_
        rw [lN_mul]
        refine xk_iload_n dX9_rings_62 rfl ?_
        refine xk_callV3 (M' := mX9_ring)  (ci := 8) (r0 := (RX9, TX9, 25)) dX9_rings_63 wm_X9_156 cv_X9_ring wi_X9_ring wl_X9_ring (by omega) (Nat.le_refl _) (Nat.le_refl _) rfl rfl hO (Nat.le_of_ble_eq_true rfl) (y_X9_ring (d + 0) (p := mul2 p (mdS n T.1 T.2.1 b (lastN (b :: q)))) hR (Nat.mul_pos hp1 hdg.1.1) (Nat.mul_pos hp2 hdg.2.1) (Nat.le_trans hpm.1 h96) (Nat.le_trans hpm.2 h96) (by omega) hB) (fun _ _ z => z.2.2.2.2.2.1) (fun r63 z63 h63 => ?_)
        obtain ⟨rfl, hR3⟩ := h63
        have hB3 := hR3b
        first | exact j66 hs s W hR hw hB (by unfold rgC; rw [if_neg (fun z => c13 z.1)]) | exact j66 hs s W hR hw hB (by unfold rgC; rw [if_neg (fun z => c28 z.2)]) | exact j66 z63 _ W hR3 hw hB3 (by unfold rgC; rw [if_pos ⟨c13, c28⟩])
  | succ f ih =>
    intro b q p s W hs hC hR hw hx hd hz hp hp1 hp2 hB
    have hb : b < n := hx b List.mem_cons_self
    have ha : lastN (b :: q) < n := hx _ (lastN_mem b q)
    have hp6 := pB_6 (show (q.length + 1) ≤ 6 by omega) hp
    have h96 := p9 (show (q.length + 1) ≤ 6 by omega)
    have e0 : W 0 = nI (lastN (b :: q)) := wayR_0 b q hw
    have el : W q.length = nI b := hw.1
    have q9 : (nI q.length).toNatClampNeg = q.length := nI_clamp (by omega)
    have q8 : (0 : Int32).toNatClampNeg = 0 := rfl
    have l115z : ∀ (i : Nat) (h : xk_H) (s1 : lS) (W1 : Nat → Int32) (k : Nat), k < 100 → rgA hs h m n s1 W1 → (∀ o9, xk_X (d + 3 + (f + 1)) 0 0 mX9_rings (xk_fx false hs) (fun r' h => r' = none ∧ ∃ W', rgA hs h m n (rgF n T (f + 1) b q p s) W' ∧ wayR W' (b :: q)) 0 0 151 [some (.ref m), some (.int (nI (q.length + 1))), some (.long (lN p.1)), none, some (.long (lN p.2)), none, some (.int (nI b)), some (.int (nI i)), some (.int (xk_b false)), o9] [] h) → xk_X (d + 3 + (f + 1)) 0 0 mX9_rings (xk_fx false hs) (fun r' h => r' = none ∧ ∃ W', rgA hs h m n (rgF n T (f + 1) b q p s) W' ∧ wayR W' (b :: q)) 0 0 115 [some (.ref m), some (.int (nI (q.length + 1))), some (.long (lN p.1)), none, some (.long (lN p.2)), none, some (.int (nI b)), some (.int (nI i)), some (.int (xk_b false)), some (.int (nI k))] [] h := by
      intro i h s1 W1 k hk hR1 K0
      obtain ⟨⟨c, e, hO⟩, -, -, hw5, -⟩ := id hR1
      refine xk_iload dX9_rings_115 rfl ?_
      refine xk_iload_n dX9_rings_117 rfl ?_
      refine xk_icmp_ge 151 dX9_rings_118 (by decide) (fun c118 => ?_) (fun c118 => ?_)
      · exact K0 _
      · refine xk_iload dX9_rings_121 rfl ?_
        refine xk_ifb_eq 151 dX9_rings_123 (by decide) (fun c123 => ?_) (fun c123 => ?_)
        · exact K0 _
        · exact absurd c123 (by decide)
    have l115 : ∀ (i : Nat) (h : xk_H) (s1 : lS) (W1 : Nat → Int32), i < n → rgA hs h m n s1 W1 → wayR W1 (b :: q) → (∀ o9, ¬ i ∈ b :: q → xk_X (d + 3 + (f + 1)) 0 0 mX9_rings (xk_fx false hs) (fun r' h => r' = none ∧ ∃ W', rgA hs h m n (rgF n T (f + 1) b q p s) W' ∧ wayR W' (b :: q)) 0 0 151 [some (.ref m), some (.int (nI (q.length + 1))), some (.long (lN p.1)), none, some (.long (lN p.2)), none, some (.int (nI b)), some (.int (nI i)), some (.int (xk_b true)), o9] [] h) → (∀ o9, i ∈ b :: q → xk_X (d + 3 + (f + 1)) 0 0 mX9_rings (xk_fx false hs) (fun r' h => r' = none ∧ ∃ W', rgA hs h m n (rgF n T (f + 1) b q p s) W' ∧ wayR W' (b :: q)) 0 0 151 [some (.ref m), some (.int (nI (q.length + 1))), some (.long (lN p.1)), none, some (.long (lN p.2)), none, some (.int (nI b)), some (.int (nI i)), some (.int (xk_b false)), o9] [] h) → ∀ (r k : Nat), k + r = q.length + 1 → (∀ j, j < k → W1 j ≠ nI i) → xk_X (d + 3 + (f + 1)) 0 0 mX9_rings (xk_fx false hs) (fun r' h => r' = none ∧ ∃ W', rgA hs h m n (rgF n T (f + 1) b q p s) W' ∧ wayR W' (b :: q)) 0 0 115 [some (.ref m), some (.int (nI (q.length + 1))), some (.long (lN p.1)), none, some (.long (lN p.2)), none, some (.int (nI b)), some (.int (nI i)), some (.int (xk_b true)), some (.int (nI k))] [] h := by
      intro i h s1 W1 hi hR1 hw1 K1 K0 r
      obtain ⟨⟨c, e, hO⟩, -, -, hw5, -⟩ := id hR1
      have K0b : ∀ k, k < 100 → i ∈ b :: q → xk_X (d + 3 + (f + 1)) 0 0 mX9_rings (xk_fx false hs) (fun r' h => r' = none ∧ ∃ W', rgA hs h m n (rgF n T (f + 1) b q p s) W' ∧ wayR W' (b :: q)) 0 0 115 [some (.ref m), some (.int (nI (q.length + 1))), some (.long (lN p.1)), none, some (.long (lN p.2)), none, some (.int (nI b)), some (.int (nI i)), some (.int (xk_b false)), some (.int (nI k))] [] h := fun k hk hin => l115z i h s1 W1 k hk hR1 (fun o9 => K0 o9 hin)
      induction r with
      | zero =>
        intro k hk hj
        have hni : ¬ i ∈ b :: q := fun z => by
          obtain ⟨j, h1, h3⟩ := wayR_mem _ hw1 i z
          rw [List.length_cons] at h1
          exact hj j (by omega) h3
        refine xk_iload dX9_rings_115 rfl ?_
        refine xk_iload_n dX9_rings_117 rfl ?_
        refine xk_icmp_ge 151 dX9_rings_118 (by decide) (fun c118 => ?_) (fun c118 => ?_)
        · exact K1 _ hni
        · exact absurd (nI_le (by omega) (by omega)) c118
      | succ r ihr =>
        intro k hk hj
        have q7 : (nI k).toNatClampNeg = k := nI_clamp (by omega)
        refine xk_iload dX9_rings_115 rfl ?_
        refine xk_iload_n dX9_rings_117 rfl ?_
        refine xk_icmp_ge 151 dX9_rings_118 (by decide) (fun c118 => ?_) (fun c118 => ?_)
        · exact absurd c118 (nI_ge (by omega) (by omega))
        · refine xk_iload dX9_rings_121 rfl ?_
          refine xk_ifb_eq 151 dX9_rings_123 (by decide) (fun c123 => ?_) (fun c123 => ?_)
          · exact absurd c123 (by decide)
          · refine xk_aload_n dX9_rings_126 rfl ?_
            refine xk_get (ci := 8) (r := (RX9, TX9, 25)) 20 dX9_rings_127 rfl inX9 (by decide) wf_X9_54 hO rfl ?_
            refine xk_iload dX9_rings_130 rfl ?_
            refine xk_iald dX9_rings_132 hw5 (vp_in_nI (by omega) (by decide)) ?_
            rw [q7]
            refine xk_iload dX9_rings_133 rfl ?_
            refine xk_icmp_eq 142 dX9_rings_135 (by decide) (fun c135 => ?_) (fun c135 => ?_)
            · have hin : i ∈ b :: q := by
                obtain ⟨x, h1, h3⟩ := wayR_at _ hw1 k (by rw [List.length_cons]; omega)
                rw [c135] at h3
                rw [(nI_eq (by omega) (by have := hx x h1; omega)).mp h3]
                exact h1
              refine xk_iconst (0) dX9_rings_142 (by decide) ?_
              refine xk_istore dX9_rings_143 (by decide) ?_
              dsimp only [xk_s1, xk_s2, xk_kill]
              refine xk_iinc (nI (k + 1)) dX9_rings_145 rfl (nI_1 k) (by decide) ?_
              dsimp only [xk_s1, xk_s2, xk_kill]
              refine xk_goto 115 dX9_rings_148 (by decide) ?_
              first | exact ihr (k + 1) (by omega) (fun j h1 => by rcases Nat.lt_or_ge j k with z | z; (exact hj j z); (obtain rfl : j = k := by omega); exact c135) | exact K0b (k + 1) (by omega) hin
            · refine xk_iconst (1) dX9_rings_138 (by decide) ?_
              refine xk_goto 143 dX9_rings_139 (by decide) ?_
              refine xk_istore dX9_rings_143 (by decide) ?_
              dsimp only [xk_s1, xk_s2, xk_kill]
              refine xk_iinc (nI (k + 1)) dX9_rings_145 rfl (nI_1 k) (by decide) ?_
              dsimp only [xk_s1, xk_s2, xk_kill]
              refine xk_goto 115 dX9_rings_148 (by decide) ?_
              first | exact ihr (k + 1) (by omega) (fun j h1 => by rcases Nat.lt_or_ge j k with z | z; (exact hj j z); (obtain rfl : j = k := by omega); exact c135) | exact K0b (k + 1) (by omega) hin
    have l78 : ∀ (r i : Nat) (s1 : lS) (W1 : Nat → Int32) (h : xk_H) (o8 o9 : Option Value), i + r = n → rgA hs h m n s1 W1 → wayR W1 (b :: q) → lB s1 → itr (fun i s => if ¬ i ∈ b :: q ∧ 0 < T.1 (pidx n b i) then rgF n T f i (b :: q) (mul2 p (mdS n T.1 T.2.1 b i)) s else s) r i s1 = rgF n T (f + 1) b q p s → xk_X (d + 3 + (f + 1)) 0 0 mX9_rings (xk_fx false hs) (fun r' h => r' = none ∧ ∃ W', rgA hs h m n (rgF n T (f + 1) b q p s) W' ∧ wayR W' (b :: q)) 0 0 78 [some (.ref m), some (.int (nI (q.length + 1))), some (.long (lN p.1)), none, some (.long (lN p.2)), none, some (.int (nI b)), some (.int (nI i)), o8, o9] [] h := by
      intro r
      induction r with
      | zero =>
        intro i s1 W1 h o8 o9 h1 hR1 hw1 hB1 hE
        obtain ⟨⟨c, e, hO⟩, -, -, hw5, -⟩ := id hR1
        refine xk_iload dX9_rings_78 rfl ?_
        refine xk_aload_n dX9_rings_80 rfl ?_
        refine xk_get (ci := 8) (r := (RX9, TX9, 25)) 0 dX9_rings_81 rfl inX9 (by decide) wf_X9_66 hO rfl ?_
        refine xk_icmp_ge 203 dX9_rings_84 (by decide) (fun c84 => ?_) (fun c84 => ?_)
        · exact xk_vret rfl dX9_rings_203 (Nat.le_refl _) (Nat.le_refl _) ⟨rfl, W1, by rw [← hE]; exact hR1, hw1⟩
        · exact absurd (nI_le (by omega) (by omega)) c84
      | succ r ihr =>
        intro i s1 W1 h o8 o9 h1 hR1 hw1 hB1 hE
        obtain ⟨⟨c, e, hO⟩, -, -, hw5, -⟩ := id hR1
        have hi : i < n := by omega
        have hC1 := hR1.C hC
        have k1 : ∀ o9, 0 < T.1 (pidx n b i) → ¬ i ∈ b :: q → xk_X (d + 3 + (f + 1)) 0 0 mX9_rings (xk_fx false hs) (fun r' h => r' = none ∧ ∃ W', rgA hs h m n (rgF n T (f + 1) b q p s) W' ∧ wayR W' (b :: q)) 0 0 151 [some (.ref m), some (.int (nI (q.length + 1))), some (.long (lN p.1)), none, some (.long (lN p.2)), none, some (.int (nI b)), some (.int (nI i)), some (.int (xk_b true)), o9] [] h := by
          intro o9 hsd hni
          have hbi : b ≠ i := fun z => hni (by rw [z]; exact List.mem_cons_self)
          have hdg := mdS_said (n := n) hK hsd
          have hpm := pB_mul hp hdg.1.2 hdg.2.2
          have hpm1 : p.1 * (mdS n T.1 T.2.1 b i).1 ≤ 531441 := Nat.le_trans hpm.1 h96
          have hpm2 : p.2 * (mdS n T.1 T.2.1 b i).2 ≤ 531441 := Nat.le_trans hpm.2 h96
          have q7 : (nI (q.length + 1)).toNatClampNeg = (q.length + 1) := nI_clamp (by omega)
          have hR2 := hR1.w (upd W1 (q.length + 1) (nI i))
          have hw2 : wayR (upd W1 (q.length + 1) (nI i)) (i :: b :: q) := ⟨by simp [upd], wayR_upd _ hw1 (by rw [List.length_cons]; omega)⟩
          have hO2 : (h.set (m + 15) (wrow (upd W1 (q.length + 1) (nI i))))[m]? = some (mdO n m (c, lN s1.1, lN s1.2.1, nI s1.2.2, e)) := (xs_ne (by omega)).trans hO
          have hC2 := hR2.C hC
          refine xk_iload dX9_rings_151 rfl ?_
          refine xk_ifb_ne 159 dX9_rings_153 (by decide) (fun c153 => ?_) (fun c153 => ?_)
          · refine xk_aload_n dX9_rings_159 rfl ?_
            refine xk_get (ci := 8) (r := (RX9, TX9, 25)) 20 dX9_rings_160 rfl inX9 (by decide) wf_X9_54 hO rfl ?_
            refine xk_iload_n dX9_rings_163 rfl ?_
            refine xk_iload dX9_rings_164 rfl ?_
            refine xk_iast dX9_rings_166 hw5 (vp_in_nI (by omega) (by decide)) ?_
            rw [q7]
            change xk_X _ _ _ _ _ _ _ _ _ _ _ (h.set (m + 15) (wrow (upd W1 (q.length + 1) (nI i))))
            refine xk_aload_n dX9_rings_167 rfl ?_
            refine xk_iload_n dX9_rings_168 rfl ?_
            refine xk_iconst (1) dX9_rings_169 (by decide) ?_
            refine xk_iadd dX9_rings_170 ?_
            rw [nI_1]
            refine xk_lload_n dX9_rings_171 rfl ?_
            refine xk_aload_n dX9_rings_172 rfl ?_
            refine xk_iload dX9_rings_173 rfl ?_
            refine xk_iload dX9_rings_175 rfl ?_
            refine xk_v2 (M' := mX9_topOf)  (ci := 8) (r0 := (RX9, TX9, 25)) dX9_rings_177 wm_X9_91 cv_X9_topOf wi_X9_topOf wl_X9_topOf (by omega) (Nat.le_refl _) (Nat.le_refl _) rfl rfl hO2 (Nat.le_of_ble_eq_true rfl) (y_X9_topOf (d + f + 1) hn h2 hO2 hC2 hb hi hbi) rfl ?_
            refine xk_i2l dX9_rings_180 ?_
            rw [nI_l (by omega)]
            refine xk_lmul dX9_rings_181 ?_
            rw [lN_mul]
            refine xk_lload dX9_rings_182 rfl ?_
            refine xk_aload_n dX9_rings_184 rfl ?_
            refine xk_iload dX9_rings_185 rfl ?_
            refine xk_iload dX9_rings_187 rfl ?_
            refine xk_v2 (M' := mX9_bottomOf)  (ci := 8) (r0 := (RX9, TX9, 25)) dX9_rings_189 wm_X9_94 cv_X9_bottomOf wi_X9_bottomOf wl_X9_bottomOf (by omega) (Nat.le_refl _) (Nat.le_refl _) rfl rfl hO2 (Nat.le_of_ble_eq_true rfl) (y_X9_bottomOf (d + f + 1) hn h2 hO2 hC2 hb hi hbi) rfl ?_
            refine xk_i2l dX9_rings_192 ?_
            rw [nI_l (by omega)]
            refine xk_lmul dX9_rings_193 ?_
            rw [lN_mul]
            refine xk_callV3 (M' := mX9_rings)  (ci := 8) (r0 := (RX9, TX9, 25)) dX9_rings_194 wm_X9_160 cv_X9_rings wi_X9_rings wl_X9_rings (by omega) (Nat.le_refl _) (Nat.le_refl _) rfl rfl hO2 (Nat.le_of_ble_eq_true rfl) (ih i (b :: q) (mul2 p (mdS n T.1 T.2.1 b i)) s1 _ _ hC2 hR2.rf hw2 (fun x hx2 => (List.mem_cons.mp hx2).elim (fun z => by rw [z]; exact hi) (hx x)) (List.nodup_cons.mpr ⟨hni, hd⟩) (by rw [List.length_cons]; omega) (by rw [List.length_cons]; exact pB_s hp hdg.1.2 hdg.2.2) (Nat.mul_pos hp1 hdg.1.1) (Nat.mul_pos hp2 hdg.2.1) hB1) (fun _ _ z => z.2.choose_spec.1.2.2.2.2.1) (fun r194 z194 h194 => ?_)
            obtain ⟨rfl, W4, hR4, hw4⟩ := h194
            refine xk_iinc (nI (i + 1)) dX9_rings_197 rfl (nI_1 i) (by decide) ?_
            dsimp only [xk_s1, xk_s2, xk_kill]
            refine xk_goto 78 dX9_rings_200 (by decide) ?_
            exact ihr (i + 1) _ W4 z194 _ _ (by omega) (hR2.tr hR4) hw4.2 (rgF_b hn hK f i (b :: q) _ s1 (by rw [List.length_cons]; omega) (by rw [List.length_cons]; exact pB_s hp hdg.1.2 hdg.2.2) hB1) (by rw [← hE, itr, if_pos ⟨hni, hsd⟩])
          · exact absurd c153 (by decide)
        have k0 : ∀ o9, (i ∈ b :: q ∨ ¬ 0 < T.1 (pidx n b i)) → xk_X (d + 3 + (f + 1)) 0 0 mX9_rings (xk_fx false hs) (fun r' h => r' = none ∧ ∃ W', rgA hs h m n (rgF n T (f + 1) b q p s) W' ∧ wayR W' (b :: q)) 0 0 151 [some (.ref m), some (.int (nI (q.length + 1))), some (.long (lN p.1)), none, some (.long (lN p.2)), none, some (.int (nI b)), some (.int (nI i)), some (.int (xk_b false)), o9] [] h := by
          intro o9 hno
          refine xk_iload dX9_rings_151 rfl ?_
          refine xk_ifb_ne 159 dX9_rings_153 (by decide) (fun c153 => ?_) (fun c153 => ?_)
          · exact absurd c153 (by decide)
          · refine xk_goto 197 dX9_rings_156 (by decide) ?_
            refine xk_iinc (nI (i + 1)) dX9_rings_197 rfl (nI_1 i) (by decide) ?_
            dsimp only [xk_s1, xk_s2, xk_kill]
            refine xk_goto 78 dX9_rings_200 (by decide) ?_
            exact ihr (i + 1) s1 W1 h _ _ (by omega) hR1 hw1 hB1 (by rw [← hE, itr, if_neg (fun z => hno.elim z.1 (fun y => y z.2))])
        refine xk_iload dX9_rings_78 rfl ?_
        refine xk_aload_n dX9_rings_80 rfl ?_
        refine xk_get (ci := 8) (r := (RX9, TX9, 25)) 0 dX9_rings_81 rfl inX9 (by decide) wf_X9_66 hO rfl ?_
        refine xk_icmp_ge 203 dX9_rings_84 (by decide) (fun c84 => ?_) (fun c84 => ?_)
        · exact absurd c84 (nI_ge (by omega) (by omega))
        · refine xk_iload dX9_rings_87 rfl ?_
          refine xk_iload dX9_rings_89 rfl ?_
          refine xk_icmp_eq 109 dX9_rings_91 (by decide) (fun c91 => ?_) (fun c91 => ?_)
          · have hno : i ∈ b :: q ∨ ¬ 0 < T.1 (pidx n b i) := Or.inl (by rw [(nI_eq (by omega) (by omega)).mp c91]; exact List.mem_cons_self)
            refine xk_iconst (0) dX9_rings_109 (by decide) ?_
            refine xk_istore dX9_rings_110 (by decide) ?_
            dsimp only [xk_s1, xk_s2, xk_kill]
            refine xk_iconst (0) dX9_rings_112 (by decide) ?_
            refine xk_istore dX9_rings_113 (by decide) ?_
            dsimp only [xk_s1, xk_s2, xk_kill]
            first | exact l115 i h s1 W1 hi hR1 hw1 (fun o9 => k1 o9 hsd) (fun o9 z => k0 o9 (Or.inl z)) (q.length + 1) 0 (by omega) (fun j hj => by omega) | exact l115z i h s1 W1 0 (by decide) hR1 (fun o9 => k0 o9 hno)
          · have hbi : b ≠ i := fun z => c91 (by rw [z])
            refine xk_aload_n dX9_rings_94 rfl ?_
            refine xk_iload dX9_rings_95 rfl ?_
            refine xk_iload dX9_rings_97 rfl ?_
            refine xk_v2 (M' := mX9_isSaid)  (ci := 8) (r0 := (RX9, TX9, 25)) dX9_rings_99 wm_X9_88 cv_X9_isSaid wi_X9_isSaid wl_X9_isSaid (by omega) (Nat.le_refl _) (Nat.le_refl _) rfl rfl hO (Nat.le_of_ble_eq_true rfl) (y_X9_isSaid (d + f + 1) hn h2 hO hC1 hb hi hbi (by have := hK (pidx n b i); omega)) rfl ?_
            refine xk_ifb_eq 109 dX9_rings_102 (by decide) (fun c102 => ?_) (fun c102 => ?_)
            · have hno : i ∈ b :: q ∨ ¬ 0 < T.1 (pidx n b i) := Or.inr (of_decide_eq_false c102)
              refine xk_iconst (0) dX9_rings_109 (by decide) ?_
              refine xk_istore dX9_rings_110 (by decide) ?_
              dsimp only [xk_s1, xk_s2, xk_kill]
              refine xk_iconst (0) dX9_rings_112 (by decide) ?_
              refine xk_istore dX9_rings_113 (by decide) ?_
              dsimp only [xk_s1, xk_s2, xk_kill]
              first | exact l115 i h s1 W1 hi hR1 hw1 (fun o9 => k1 o9 hsd) (fun o9 z => k0 o9 (Or.inl z)) (q.length + 1) 0 (by omega) (fun j hj => by omega) | exact l115z i h s1 W1 0 (by decide) hR1 (fun o9 => k0 o9 hno)
            · have hsd : 0 < T.1 (pidx n b i) := of_decide_eq_true c102
              refine xk_iconst (1) dX9_rings_105 (by decide) ?_
              refine xk_goto 110 dX9_rings_106 (by decide) ?_
              refine xk_istore dX9_rings_110 (by decide) ?_
              dsimp only [xk_s1, xk_s2, xk_kill]
              refine xk_iconst (0) dX9_rings_112 (by decide) ?_
              refine xk_istore dX9_rings_113 (by decide) ?_
              dsimp only [xk_s1, xk_s2, xk_kill]
              first | exact l115 i h s1 W1 hi hR1 hw1 (fun o9 => k1 o9 hsd) (fun o9 z => k0 o9 (Or.inl z)) (q.length + 1) 0 (by omega) (fun j hj => by omega) | exact l115z i h s1 W1 0 (by decide) hR1 (fun o9 => k0 o9 hno)
    have j66 : ∀ (h : xk_H) (s1 : lS) (W1 : Nat → Int32), rgA hs h m n s1 W1 → wayR W1 (b :: q) → lB s1 → rgC n T b q p s = s1 → xk_X (d + 3 + (f + 1)) 0 0 mX9_rings (xk_fx false hs) (fun r' h => r' = none ∧ ∃ W', rgA hs h m n (rgF n T (f + 1) b q p s) W' ∧ wayR W' (b :: q)) 0 0 66 [some (.ref m), some (.int (nI (q.length + 1))), some (.long (lN p.1)), none, some (.long (lN p.2)), none, some (.int (nI b)), none, none, none] [] h := by
      intro h s1 W1 hR1 hw1 hB1 hE
      obtain ⟨⟨c, e, hO⟩, -, -, hw5, -⟩ := id hR1
      refine xk_iload_n dX9_rings_66 rfl ?_
      refine xk_aload_n dX9_rings_67 rfl ?_
      refine xk_get (ci := 8) (r := (RX9, TX9, 25)) 0 dX9_rings_68 rfl inX9 (by decide) wf_X9_66 hO rfl ?_
      refine xk_icmp_ne 75 dX9_rings_71 (by decide) (fun c71 => ?_) (fun c71 => ?_)
      · refine xk_iconst (0) dX9_rings_75 (by decide) ?_
        refine xk_istore dX9_rings_76 (by decide) ?_
        dsimp only [xk_s1, xk_s2, xk_kill]
        exact l78 n 0 s1 W1 h _ _ (by omega) hR1 hw1 hB1 (by rw [rgF, hE])
      · exact absurd ((nI_eq (by omega) (by omega)).mp c71) (by omega)
    obtain ⟨⟨c, e, hO⟩, -, -, hw5, -⟩ := id hR
    refine xk_Y.ofX (k := 4) (ls := [some (.ref m), some (.int (nI (q.length + 1))), some (.long (lN p.1)), none, some (.long (lN p.2)), none, none, none, none, none]) (by decide) rfl rfl ?_
    refine xk_aload_n dX9_rings_0 rfl ?_
    refine xk_get (ci := 8) (r := (RX9, TX9, 25)) 20 dX9_rings_1 rfl inX9 (by decide) wf_X9_54 hO rfl ?_
    refine xk_iload_n dX9_rings_4 rfl ?_
    refine xk_iconst (1) dX9_rings_5 (by decide) ?_
    refine xk_isub dX9_rings_6 ?_
    rw [show (1 : Int32) = nI 1 from rfl, pk_sub (by omega), Nat.add_sub_cancel]
    refine xk_iald dX9_rings_7 hw5 (vp_in_nI (by omega) (by decide)) ?_
    rw [q9, el]
    refine xk_istore dX9_rings_8 (by decide) ?_
    dsimp only [xk_s1, xk_s2, xk_kill]
    refine xk_iload_n dX9_rings_10 rfl ?_
    refine xk_iconst (2) dX9_rings_11 (by decide) ?_
    refine xk_icmp_le 66 dX9_rings_12 (by decide) (fun c12 => ?_) (fun c12 => ?_)
    · have c13 : ¬ 3 ≤ q.length + 1 := fun z => absurd c12 (nI_ge (a := 2) (by omega) (by omega))
      first | exact j66 hs s W hR hw hB (by unfold rgC; rw [if_neg (fun z => c13 z.1)]) | exact j66 hs s W hR hw hB (by unfold rgC; rw [if_neg (fun z => c28 z.2)]) | exact j66 z63 _ W hR3 hw hB3 (by unfold rgC; rw [if_pos ⟨c13, c28⟩])
    · have c13 : 3 ≤ q.length + 1 := by
        rcases Nat.lt_or_ge 2 (q.length + 1) with z | z
        · exact z
        · exact absurd (nI_le (b := 2) z (by decide)) c12
      have hab := nod_last hd (by omega)
      refine xk_aload_n dX9_rings_15 rfl ?_
      refine xk_iload dX9_rings_16 rfl ?_
      refine xk_aload_n dX9_rings_18 rfl ?_
      refine xk_get (ci := 8) (r := (RX9, TX9, 25)) 20 dX9_rings_19 rfl inX9 (by decide) wf_X9_54 hO rfl ?_
      refine xk_iconst (0) dX9_rings_22 (by decide) ?_
      refine xk_iald dX9_rings_23 hw5 (vp_in_nI (n := 0) (by decide) (by decide)) ?_
      rw [q8, e0]
      refine xk_v2 (M' := mX9_isSaid)  (ci := 8) (r0 := (RX9, TX9, 25)) dX9_rings_24 wm_X9_88 cv_X9_isSaid wi_X9_isSaid wl_X9_isSaid (by omega) (Nat.le_refl _) (Nat.le_refl _) rfl rfl hO (Nat.le_of_ble_eq_true rfl) (y_X9_isSaid (d + (f + 1)) hn h2 hO hC hb ha hab (by have := hK (pidx n b (lastN (b :: q))); omega)) rfl ?_
      refine xk_ifb_eq 66 dX9_rings_27 (by decide) (fun c27 => ?_) (fun c27 => ?_)
      · have c28 : ¬ 0 < T.1 (pidx n b (lastN (b :: q))) := of_decide_eq_false c27
        first | exact j66 hs s W hR hw hB (by unfold rgC; rw [if_neg (fun z => c13 z.1)]) | exact j66 hs s W hR hw hB (by unfold rgC; rw [if_neg (fun z => c28 z.2)]) | exact j66 z63 _ W hR3 hw hB3 (by unfold rgC; rw [if_pos ⟨c13, c28⟩])
      · have c28 : 0 < T.1 (pidx n b (lastN (b :: q))) := of_decide_eq_true c27
        have hdg := mdS_said (n := n) hK c28
        have hpm := pB_mul hp hdg.1.2 hdg.2.2
        have hR3b := rgS_b (z := q.length + 1) (s := s) (Nat.le_trans hpm.1 h96) (Nat.le_trans hpm.2 h96) (by omega) hB
        refine xk_aload_n dX9_rings_30 rfl ?_
        refine xk_lload_n dX9_rings_31 rfl ?_
        refine xk_aload_n dX9_rings_32 rfl ?_
        refine xk_iload dX9_rings_33 rfl ?_
        refine xk_aload_n dX9_rings_35 rfl ?_
        refine xk_get (ci := 8) (r := (RX9, TX9, 25)) 20 dX9_rings_36 rfl inX9 (by decide) wf_X9_54 hO rfl ?_
        refine xk_iconst (0) dX9_rings_39 (by decide) ?_
        refine xk_iald dX9_rings_40 hw5 (vp_in_nI (n := 0) (by decide) (by decide)) ?_
        try rw [q8]
        try rw [e0]
        refine xk_v2 (M' := mX9_topOf)  (ci := 8) (r0 := (RX9, TX9, 25)) dX9_rings_41 wm_X9_91 cv_X9_topOf wi_X9_topOf wl_X9_topOf (by omega) (Nat.le_refl _) (Nat.le_refl _) rfl rfl hO (Nat.le_of_ble_eq_true rfl) (y_X9_topOf (d + (f + 1)) hn h2 hO hC hb ha hab) rfl ?_
        refine xk_i2l dX9_rings_44 ?_
        rw [nI_l (by omega)]
        refine xk_lmul dX9_rings_45 ?_
        rw [lN_mul]
        refine xk_lload dX9_rings_46 rfl ?_
        refine xk_aload_n dX9_rings_48 rfl ?_
        refine xk_iload dX9_rings_49 rfl ?_
        refine xk_aload_n dX9_rings_51 rfl ?_
        refine xk_get (ci := 8) (r := (RX9, TX9, 25)) 20 dX9_rings_52 rfl inX9 (by decide) wf_X9_54 hO rfl ?_
        refine xk_iconst (0) dX9_rings_55 (by decide) ?_
        refine xk_iald dX9_rings_56 hw5 (vp_in_nI (n := 0) (by decide) (by decide)) ?_
        try rw [q8]
        try rw [e0]
        refine xk_v2 (M' := mX9_bottomOf)  (ci := 8) (r0 := (RX9, TX9, 25)) dX9_rings_57 wm_X9_94 cv_X9_bottomOf wi_X9_bottomOf wl_X9_bottomOf (by omega) (Nat.le_refl _) (Nat.le_refl _) rfl rfl hO (Nat.le_of_ble_eq_true rfl) (y_X9_bottomOf (d + (f + 1)) hn h2 hO hC hb ha hab) rfl ?_
        refine xk_i2l dX9_rings_60 ?_
        rw [nI_l (by omega)]
        refine xk_lmul dX9_rings_61 ?_
        rw [lN_mul]
        refine xk_iload_n dX9_rings_62 rfl ?_
        refine xk_callV3 (M' := mX9_ring)  (ci := 8) (r0 := (RX9, TX9, 25)) dX9_rings_63 wm_X9_156 cv_X9_ring wi_X9_ring wl_X9_ring (by omega) (Nat.le_refl _) (Nat.le_refl _) rfl rfl hO (Nat.le_of_ble_eq_true rfl) (y_X9_ring (d + (f + 1)) (p := mul2 p (mdS n T.1 T.2.1 b (lastN (b :: q)))) hR (Nat.mul_pos hp1 hdg.1.1) (Nat.mul_pos hp2 hdg.2.1) (Nat.le_trans hpm.1 h96) (Nat.le_trans hpm.2 h96) (by omega) hB) (fun _ _ z => z.2.2.2.2.2.1) (fun r63 z63 h63 => ?_)
        obtain ⟨rfl, hR3⟩ := h63
        have hB3 := hR3b
        first | exact j66 hs s W hR hw hB (by unfold rgC; rw [if_neg (fun z => c13 z.1)]) | exact j66 hs s W hR hw hB (by unfold rgC; rw [if_neg (fun z => c28 z.2)]) | exact j66 z63 _ W hR3 hw hB3 (by unfold rgC; rw [if_pos ⟨c13, c28⟩])

set_option maxHeartbeats 4000000 in
set_option maxRecDepth 100000 in
/-- least -/
theorem y_X9_least (d : Nat) {hs : xk_H} {m n : Nat} {T : mdT} (hn : n ≤ 6) (h2 : 2 ≤ n) (hA : mdA hs m n T) (hK : mdOK T) {qq : Int32} : xk_Y (d + 9) 0 0 mX9_least false [.ref m, .int qq] hs (fun r' h => r' = some (.int (mLea n T qq)) ∧ mdA h m n T ∧ xfr (mdR m) hs h) := by
  have l28 : ∀ (r i : Nat) (s1 : lS) (W1 : Nat → Int32) (h : xk_H), inB qq 0 2 = true → i + r = n → rgA hs h m n s1 W1 → lB s1 → itr (fun i s => rgF n T (n - 1) i [] (1, 1) s) r i s1 = rgL n T → xk_X (d + 9) 0 0 mX9_least (xk_fx false hs) (fun r' h => r' = some (.int (mLea n T qq)) ∧ mdA h m n T ∧ xfr (mdR m) hs h) 0 0 28 [some (.ref m), some (.int qq), some (.int (nI i))] [] h := by
    intro r
    induction r with
    | zero =>
      intro i s1 W1 h hq h1 hR1 hB1 hE
      obtain ⟨⟨c, e, hO⟩, -, -, hw5, -⟩ := id hR1
      obtain rfl : s1 = rgL n T := hE
      refine xk_iload_n dX9_least_28 rfl ?_
      refine xk_aload_n dX9_least_29 rfl ?_
      refine xk_get (ci := 8) (r := (RX9, TX9, 25)) 0 dX9_least_30 rfl inX9 (by decide) wf_X9_66 hO rfl ?_
      refine xk_icmp_ge 56 dX9_least_33 (by decide) (fun c33 => ?_) (fun c33 => ?_)
      · refine xk_iload_n dX9_least_56 rfl ?_
        refine xk_if_ne 68 dX9_least_57 (by decide) (fun c57 => ?_) (fun c57 => ?_)
        · refine xk_iload_n dX9_least_68 rfl ?_
          refine xk_iconst (1) dX9_least_69 (by decide) ?_
          refine xk_icmp_ne 81 dX9_least_70 (by decide) (fun c70 => ?_) (fun c70 => ?_)
          · refine xk_aload_n dX9_least_81 rfl ?_
            refine xk_get (ci := 8) (r := (RX9, TX9, 25)) 19 dX9_least_82 rfl inX9 (by decide) wf_X9_134 hO rfl ?_
            exact xk_iret rfl dX9_least_85 (Nat.le_refl _) (Nat.le_refl _) ⟨by unfold mLea; rw [if_pos hq]; first | rw [if_pos c57] | rw [if_neg c57, if_pos c70] | rw [if_neg c57, if_neg c70], hR1.toA hA, hR1.fr⟩
          · refine xk_aload_n dX9_least_73 rfl ?_
            refine xk_get (ci := 8) (r := (RX9, TX9, 25)) 18 dX9_least_74 rfl inX9 (by decide) wf_X9_141 hO rfl ?_
            refine xk_l2i dX9_least_77 ?_
            rw [lN_i]
            refine xk_goto 85 dX9_least_78 (by decide) ?_
            exact xk_iret rfl dX9_least_85 (Nat.le_refl _) (Nat.le_refl _) ⟨by unfold mLea; rw [if_pos hq]; first | rw [if_pos c57] | rw [if_neg c57, if_pos c70] | rw [if_neg c57, if_neg c70], hR1.toA hA, hR1.fr⟩
        · refine xk_aload_n dX9_least_60 rfl ?_
          refine xk_get (ci := 8) (r := (RX9, TX9, 25)) 17 dX9_least_61 rfl inX9 (by decide) wf_X9_145 hO rfl ?_
          refine xk_l2i dX9_least_64 ?_
          rw [lN_i]
          refine xk_goto 85 dX9_least_65 (by decide) ?_
          exact xk_iret rfl dX9_least_85 (Nat.le_refl _) (Nat.le_refl _) ⟨by unfold mLea; rw [if_pos hq]; first | rw [if_pos c57] | rw [if_neg c57, if_pos c70] | rw [if_neg c57, if_neg c70], hR1.toA hA, hR1.fr⟩
      · exact absurd (nI_le (by omega) (by omega)) c33
    | succ r ih =>
      intro i s1 W1 h hq h1 hR1 hB1 hE
      obtain ⟨⟨c, e, hO⟩, -, -, hw5, -⟩ := id hR1
      have hR2 := hR1.w (upd W1 0 (nI i))
      have hC2 := hR2.C hA.2.1
      have hO2 : (h.set (m + 15) (wrow (upd W1 0 (nI i))))[m]? = some (mdO n m (c, lN s1.1, lN s1.2.1, nI s1.2.2, e)) := (xs_ne (by omega)).trans hO
      refine xk_iload_n dX9_least_28 rfl ?_
      refine xk_aload_n dX9_least_29 rfl ?_
      refine xk_get (ci := 8) (r := (RX9, TX9, 25)) 0 dX9_least_30 rfl inX9 (by decide) wf_X9_66 hO rfl ?_
      refine xk_icmp_ge 56 dX9_least_33 (by decide) (fun c33 => ?_) (fun c33 => ?_)
      · exact absurd c33 (nI_ge (by omega) (by omega))
      · refine xk_aload_n dX9_least_36 rfl ?_
        refine xk_get (ci := 8) (r := (RX9, TX9, 25)) 20 dX9_least_37 rfl inX9 (by decide) wf_X9_54 hO rfl ?_
        refine xk_iconst (0) dX9_least_40 (by decide) ?_
        refine xk_iload_n dX9_least_41 rfl ?_
        refine xk_iast dX9_least_42 hw5 (vp_in_nI (n := 0) (by decide) (by decide)) ?_
        change xk_X _ _ _ _ _ _ _ _ _ _ _ (h.set (m + 15) (wrow (upd W1 0 (nI i))))
        refine xk_aload_n dX9_least_43 rfl ?_
        refine xk_iconst (1) dX9_least_44 (by decide) ?_
        rw [show (1 : Int32) = nI (([] : List Nat).length + 1) from rfl]
        refine xk_lconst (1) dX9_least_45 (by decide) ?_
        rw [show (1 : Int64) = lN ((1, 1) : Nat × Nat).1 from rfl]
        refine xk_lconst (1) dX9_least_46 (by decide) ?_
        rw [show (1 : Int64) = lN ((1, 1) : Nat × Nat).2 from rfl]
        refine xk_callV3 (M' := mX9_rings)  (ci := 8) (r0 := (RX9, TX9, 25)) dX9_least_47 wm_X9_160 cv_X9_rings wi_X9_rings wl_X9_rings (by omega) (Nat.le_refl _) (Nat.le_refl _) rfl rfl hO2 (Nat.le_of_ble_eq_true rfl) (y_X9_rings d hn h2 hK (n - 1) i [] (1, 1) s1 _ _ hC2 hR2.rf ⟨by simp [upd], trivial⟩ (fun x hx => by rw [List.mem_singleton.mp hx]; omega) (List.nodup_cons.mpr ⟨List.not_mem_nil, List.nodup_nil⟩) (by simp only [List.length_nil]; omega) ⟨by decide, by decide⟩ (by decide) (by decide) hB1) (fun _ _ z => z.2.choose_spec.1.2.2.2.2.1) (fun r47 z47 h47 => ?_)
        obtain ⟨rfl, W4, hR4, hw4⟩ := h47
        refine xk_iinc (nI (i + 1)) dX9_least_50 rfl (nI_1 i) (by decide) ?_
        dsimp only [xk_s1, xk_s2, xk_kill]
        refine xk_goto 28 dX9_least_53 (by decide) ?_
        exact ih (i + 1) _ W4 z47 hq (by omega) (hR2.tr hR4) (rgF_b hn hK (n - 1) i [] (1, 1) s1 (by simp only [List.length_nil]; omega) ⟨by decide, by decide⟩ hB1) (by rw [← hE, itr])
  obtain ⟨⟨s, hO⟩, hC, hW⟩ := id hA
  obtain ⟨-, -, -, -, ⟨f5, h5⟩, ⟨f6, h6⟩, f7, h7⟩ := id hW
  obtain ⟨s0, s1, s2, s3, s4⟩ := s
  refine xk_Y.ofX (k := 1) (ls := [some (.ref m), some (.int qq), none]) (by decide) rfl rfl ?_
  refine xk_iload_n dX9_least_0 rfl ?_
  refine xk_iconst (0) dX9_least_1 (by decide) ?_
  refine xk_iconst (2) dX9_least_2 (by decide) ?_
  refine xk_s3c (M' := mX9_in)  dX9_least_3 wm_X9_73 cv_X9_in wt_X9_in (by omega) (Nat.le_refl _) (Nat.le_refl _) (Nat.le_of_ble_eq_true rfl) (y_X9_in (d + 1)) rfl ?_
  refine xk_ifb_ne 11 dX9_least_6 (by decide) (fun c6 => ?_) (fun c6 => ?_)
  · refine xk_aload_n dX9_least_11 rfl ?_
    refine xk_lconst (1) dX9_least_12 (by decide) ?_
    refine xk_put (ci := 8) (r := (RX9, TX9, 25)) 17 tyX9 dX9_least_13 rfl inX9 tyX9_ok nmX9 (by decide) wf_X9_145 rfl (fun _ => rfl) (fun _ => rfl) hO (Nat.le_of_ble_eq_true rfl) ?_
    dsimp only [List.set]
    refine xk_aload_n dX9_least_16 rfl ?_
    refine xk_lconst (1) dX9_least_17 (by decide) ?_
    refine xk_put (ci := 8) (r := (RX9, TX9, 25)) 18 tyX9 dX9_least_18 rfl inX9 tyX9_ok nmX9 (by decide) wf_X9_141 rfl (fun _ => rfl) (fun _ => rfl) (xs_at hO) (Nat.le_of_ble_eq_true rfl) ?_
    dsimp only [List.set]
    refine xk_aload_n dX9_least_21 rfl ?_
    refine xk_iconst (0) dX9_least_22 (by decide) ?_
    refine xk_put (ci := 8) (r := (RX9, TX9, 25)) 19 tyX9 dX9_least_23 rfl inX9 tyX9_ok nmX9 (by decide) wf_X9_134 rfl (fun _ => rfl) (fun _ => rfl) (xs_at (xs_at hO)) (Nat.le_of_ble_eq_true rfl) ?_
    dsimp only [List.set]
    refine xk_iconst (0) dX9_least_26 (by decide) ?_
    refine xk_istore_n dX9_least_27 (by decide) ?_
    dsimp only [xk_s1, xk_s2, xk_kill]
    rw [List.set_set, List.set_set]
    have hR0 : rgA hs (hs.set m (mdO n m (s0, lN 1, lN 1, nI 0, s4))) m n (1, 1, 0) f7 := ⟨⟨s0, s4, xs_at hO⟩, ⟨f5, (xs_ne (by omega)).trans h5⟩, ⟨f6, (xs_ne (by omega)).trans h6⟩, (xs_ne (by omega)).trans h7, xfr.rf.set (Or.inl rfl)⟩
    exact l28 n 0 (1, 1, 0) f7 _ c6 (by omega) hR0 ⟨by decide, by decide, by decide⟩ rfl
  · refine xk_iconst (-1) dX9_least_9 (by decide) ?_
    exact xk_iret rfl dX9_least_10 (Nat.le_refl _) (Nat.le_refl _) ⟨by unfold mLea; rw [if_neg (by rw [c6]; decide)], hA, xfr.rf⟩

