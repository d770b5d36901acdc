/-! The reference: even, trees, few, left. Laid by a program of our own. -/
set_option maxHeartbeats 4000000 in
set_option maxRecDepth 100000 in
theorem y_X9_even (d : Nat) {hs : xk_H} {m n : Nat} {T : mdT} (hn : n ≤ 6) (h2 : 2 ≤ n) (hA : mdA hs m n T) (hK : mdOK T) : xk_Y (d + 2) 0 0 mX9_even false [.ref m] hs (fun r' h => r' = some (.int (xk_b (fitB n T (mAll n T)))) ∧ mdA h m n T ∧ xfr (mdR m) hs h) := by
  obtain ⟨⟨s, hO⟩, hC, hW⟩ := id hA
  refine xk_Y.ofX (k := 0) (ls := [some (.ref m)]) (by decide) rfl rfl ?_
  refine xk_aload_n dX9_even_0 rfl ?_
  refine xk_aload_n dX9_even_1 rfl ?_
  refine xk_v0 (M' := mX9_all) (d' := (d + 1)) (ci := 8) (r0 := (RX9, TX9, 25)) dX9_even_2 wm_X9_100 cv_X9_all wi_X9_all wl_X9_all (by omega) (Nat.le_refl _) (Nat.le_refl _) rfl rfl hO (Nat.le_of_ble_eq_true rfl) (y_X9_all (d + 1) hn h2 hO hC hK) rfl ?_
  refine xk_callV1 (M' := mX9_fits) (d' := d + 1) (ci := 8) (r0 := (RX9, TX9, 25)) dX9_even_5 wm_X9_104 cv_X9_fits wi_X9_fits wl_X9_fits (by omega) (Nat.le_refl _) (Nat.le_refl _) rfl rfl hO (Nat.le_of_ble_eq_true rfl) (y_X9_fits d hn h2 hA hK (hp := mAll n T) (mAll_lt hn T) (fun k hk => mAll_sub hk.2)) (fun _ _ z => z.2.2.2.1) (fun r5 z5 h5 => ?_)
  obtain ⟨rfl, -, hA2, hf⟩ := h5
  exact xk_zret rfl (xk_b_nar _) dX9_even_8 (Nat.le_refl _) (Nat.le_refl _) ⟨rfl, hA2, hf⟩

set_option maxHeartbeats 4000000 in
set_option maxRecDepth 100000 in
/-- trees -/
theorem y_X9_trees (d : Nat) {hs : xk_H} {m n : Nat} {T : mdT} (hn : n ≤ 6) (h2 : 2 ≤ n) (hA : mdA hs m n T) (hK : mdOK T) : xk_Y (d + 2) 0 0 mX9_trees false [.ref m] hs (fun r' h => r' = some (.int (nI (trF n T))) ∧ mdA h m n T ∧ xfr (mdR m) hs h) := by
  have hnp := np_ok n (by omega)
  have h15 : 2 ^ (n * (n - 1) / 2) ≤ 32768 := Nat.pow_le_pow_right (n := 2) (j := 15) (by decide) hnp
  have hal := mAll_lt hn T
  have l9 : ∀ (r g c : Nat) (h : xk_H) (o4 : Option Value), g + r = 2 ^ (n * (n - 1) / 2) → mdA h m n T → xfr (mdR m) hs h → itr (fun h c => trS n (mAll n T) h c) r g c = trF n T → xk_X (d + 2) 0 0 mX9_trees (xk_fx false hs) (fun r' h => r' = some (.int (nI (trF n T))) ∧ mdA h m n T ∧ xfr (mdR m) hs h) 0 0 9 [some (.ref m), some (.int (nI (mAll n T))), some (.int (nI c)), some (.int (nI g)), o4] [] h := by
    intro r
    induction r with
    | zero =>
      intro g c h o4 h1 hA hf hE
      obtain ⟨⟨s, hO⟩, hC, hW⟩ := id hA
      obtain rfl : c = trF n T := hE
      obtain rfl : g = 2 ^ (n * (n - 1) / 2) := by omega
      refine xk_iload_n dX9_trees_9 rfl ?_
      refine xk_iconst (1) dX9_trees_10 (by decide) ?_
      refine xk_aload_n dX9_trees_11 rfl ?_
      refine xk_get (ci := 8) (r := (RX9, TX9, 25)) 1 dX9_trees_12 rfl inX9 (by decide) wf_X9_70 hO rfl ?_
      refine xk_ishl dX9_trees_15 ?_
      rw [nI_pow (n * (n - 1) / 2) (by omega)]
      refine xk_icmp_ge 72 dX9_trees_16 (by decide) (fun c16 => ?_) (fun c16 => ?_)
      · refine xk_iload_n dX9_trees_72 rfl ?_
        exact xk_iret rfl dX9_trees_73 (Nat.le_refl _) (Nat.le_refl _) ⟨rfl, hA, hf⟩
      · exact absurd (nI_le (Nat.le_refl _) (by omega)) c16
    | succ r ih =>
      intro g c h o4 h1 hA hf hE
      obtain ⟨⟨s, hO⟩, hC, hW⟩ := id hA
      have hgl : g < 32768 := by omega
      have hpl := popc_le 15 g
      refine xk_iload_n dX9_trees_9 rfl ?_
      refine xk_iconst (1) dX9_trees_10 (by decide) ?_
      refine xk_aload_n dX9_trees_11 rfl ?_
      refine xk_get (ci := 8) (r := (RX9, TX9, 25)) 1 dX9_trees_12 rfl inX9 (by decide) wf_X9_70 hO rfl ?_
      refine xk_ishl dX9_trees_15 ?_
      rw [nI_pow (n * (n - 1) / 2) (by omega)]
      refine xk_icmp_ge 72 dX9_trees_16 (by decide) (fun c16 => ?_) (fun c16 => ?_)
      · exact absurd c16 (nI_ge (by omega) (by omega))
      · refine xk_iload_n dX9_trees_19 rfl ?_
        refine xk_iload_n dX9_trees_20 rfl ?_
        refine xk_iconst (-1) dX9_trees_21 (by decide) ?_
        refine xk_ixor dX9_trees_22 ?_
        refine xk_iand dX9_trees_23 ?_
        rw [nI_andn hgl hal]
        refine xk_if_ne 66 dX9_trees_24 (by decide) (fun c24 => ?_) (fun c24 => ?_)
        · have hX : ¬ (andn g (mAll n T) = 0 ∧ popc 15 g = n - 1 ∧ hConn n g) := fun z => c24 (by rw [z.1]; rfl)
          refine xk_iinc (nI (g + 1)) dX9_trees_66 rfl (nI_1 g) (by decide) ?_
          dsimp only [xk_s1, xk_s2, xk_kill]
          refine xk_goto 9 dX9_trees_69 (by decide) ?_
          first
          | exact ih (g + 1) c h _ (by omega) hA hf (by rw [← hE, itr, trS_n hX])
          | (rw [show nI c + 1 = nI (c + 1) from nI_1 c]; exact ih (g + 1) (c + 1) z45 _ (by omega) hA2 (hf.tr hf2) (by rw [← hE, itr, trS_y hY]))
          | (rw [show nI c + 0 = nI c from Int32.add_zero _]; exact ih (g + 1) c z45 _ (by omega) hA2 (hf.tr hf2) (by rw [← hE, itr, trS_n hY]))
        · have c25 := (nI_eq (b := 0) (Nat.lt_trans (andn_lt hgl) (by decide)) (by decide)).mp c24
          refine xk_iload_n dX9_trees_27 rfl ?_
          refine xk_s1c (M' := mJ6_bitCount_0f7a4) (d' := (d + 1)) dX9_trees_28 wm_X9_108 cv_J6_bitCount_0f7a4 wt_J6_bitCount_0f7a4 (by omega) (Nat.le_refl _) (Nat.le_refl _) (Nat.le_of_ble_eq_true rfl) (y_J6_bitCount (d + 1)) rfl ?_
          rw [bitc_eq hgl]
          refine xk_aload_n dX9_trees_31 rfl ?_
          refine xk_get (ci := 8) (r := (RX9, TX9, 25)) 0 dX9_trees_32 rfl inX9 (by decide) wf_X9_66 hO rfl ?_
          refine xk_iconst (1) dX9_trees_35 (by decide) ?_
          refine xk_isub dX9_trees_36 ?_
          rw [show (1 : Int32) = nI 1 from rfl, pk_sub (by omega)]
          refine xk_icmp_eq 43 dX9_trees_37 (by decide) (fun c37 => ?_) (fun c37 => ?_)
          · have c38 := (nI_eq (by omega) (by omega)).mp c37
            refine xk_aload_n dX9_trees_43 rfl ?_
            refine xk_iload_n dX9_trees_44 rfl ?_
            refine xk_callV1 (M' := mX9_fits) (d' := d + 1) (ci := 8) (r0 := (RX9, TX9, 25)) dX9_trees_45 wm_X9_104 cv_X9_fits wi_X9_fits wl_X9_fits (by omega) (Nat.le_refl _) (Nat.le_refl _) rfl rfl hO (Nat.le_of_ble_eq_true rfl) (y_X9_fits d hn h2 hA hK (hp := g) hgl (fun k hk => mAll_sub ((andn_0 hgl).mp c25 k hk.2))) (fun _ _ z => z.2.2.2.1) (fun r45 z45 h45 => ?_)
            obtain ⟨rfl, ⟨s2, c2, hO2, hc, hc6, hcc⟩, hA2, hf2⟩ := h45
            refine xk_istore dX9_trees_48 (by decide) ?_
            dsimp only [xk_s1, xk_s2, xk_kill]
            refine xk_iload_n dX9_trees_50 rfl ?_
            refine xk_aload_n dX9_trees_51 rfl ?_
            refine xk_get (ci := 8) (r := (RX9, TX9, 25)) 13 dX9_trees_52 rfl inX9 (by decide) wf_X9_97 hO2 rfl ?_
            rw [hc]
            refine xk_iconst (1) dX9_trees_55 (by decide) ?_
            refine xk_icmp_ne 63 dX9_trees_56 (by decide) (fun c56 => ?_) (fun c56 => ?_)
            · have hY : ¬ (andn g (mAll n T) = 0 ∧ popc 15 g = n - 1 ∧ hConn n g) := fun z => c56 (by rw [hcc.mpr z.2.2]; rfl)
              refine xk_iconst (0) dX9_trees_63 (by decide) ?_
              refine xk_iadd dX9_trees_64 ?_
              refine xk_istore_n dX9_trees_65 (by decide) ?_
              dsimp only [xk_s1, xk_s2, xk_kill]
              refine xk_iinc (nI (g + 1)) dX9_trees_66 rfl (nI_1 g) (by decide) ?_
              dsimp only [xk_s1, xk_s2, xk_kill]
              refine xk_goto 9 dX9_trees_69 (by decide) ?_
              first
              | exact ih (g + 1) c h _ (by omega) hA hf (by rw [← hE, itr, trS_n hX])
              | (rw [show nI c + 1 = nI (c + 1) from nI_1 c]; exact ih (g + 1) (c + 1) z45 _ (by omega) hA2 (hf.tr hf2) (by rw [← hE, itr, trS_y hY]))
              | (rw [show nI c + 0 = nI c from Int32.add_zero _]; exact ih (g + 1) c z45 _ (by omega) hA2 (hf.tr hf2) (by rw [← hE, itr, trS_n hY]))
            · have hY : andn g (mAll n T) = 0 ∧ popc 15 g = n - 1 ∧ hConn n g := ⟨c25, c38, hcc.mp ((nI_eq (b := 1) (by omega) (by decide)).mp c56)⟩
              refine xk_iconst (1) dX9_trees_59 (by decide) ?_
              refine xk_goto 64 dX9_trees_60 (by decide) ?_
              refine xk_iadd dX9_trees_64 ?_
              refine xk_istore_n dX9_trees_65 (by decide) ?_
              dsimp only [xk_s1, xk_s2, xk_kill]
              refine xk_iinc (nI (g + 1)) dX9_trees_66 rfl (nI_1 g) (by decide) ?_
              dsimp only [xk_s1, xk_s2, xk_kill]
              refine xk_goto 9 dX9_trees_69 (by decide) ?_
              first
              | exact ih (g + 1) c h _ (by omega) hA hf (by rw [← hE, itr, trS_n hX])
              | (rw [show nI c + 1 = nI (c + 1) from nI_1 c]; exact ih (g + 1) (c + 1) z45 _ (by omega) hA2 (hf.tr hf2) (by rw [← hE, itr, trS_y hY]))
              | (rw [show nI c + 0 = nI c from Int32.add_zero _]; exact ih (g + 1) c z45 _ (by omega) hA2 (hf.tr hf2) (by rw [← hE, itr, trS_n hY]))
          · have hX : ¬ (andn g (mAll n T) = 0 ∧ popc 15 g = n - 1 ∧ hConn n g) := fun z => c37 (by rw [z.2.1])
            refine xk_goto 66 dX9_trees_40 (by decide) ?_
            refine xk_iinc (nI (g + 1)) dX9_trees_66 rfl (nI_1 g) (by decide) ?_
            dsimp only [xk_s1, xk_s2, xk_kill]
            refine xk_goto 9 dX9_trees_69 (by decide) ?_
            first
            | exact ih (g + 1) c h _ (by omega) hA hf (by rw [← hE, itr, trS_n hX])
            | (rw [show nI c + 1 = nI (c + 1) from nI_1 c]; exact ih (g + 1) (c + 1) z45 _ (by omega) hA2 (hf.tr hf2) (by rw [← hE, itr, trS_y hY]))
            | (rw [show nI c + 0 = nI c from Int32.add_zero _]; exact ih (g + 1) c z45 _ (by omega) hA2 (hf.tr hf2) (by rw [← hE, itr, trS_n hY]))
  obtain ⟨⟨s, hO⟩, hC, hW⟩ := id hA
  refine xk_Y.ofX (k := 4) (ls := [some (.ref m), none, none, none, none]) (by decide) rfl rfl ?_
  refine xk_aload_n dX9_trees_0 rfl ?_
  refine xk_v0 (M' := mX9_all) (d' := (d + 1)) (ci := 8) (r0 := (RX9, TX9, 25)) dX9_trees_1 wm_X9_100 cv_X9_all wi_X9_all wl_X9_all (by omega) (Nat.le_refl _) (Nat.le_refl _) rfl rfl hO (Nat.le_of_ble_eq_true rfl) (y_X9_all (d + 1) hn h2 hO hC hK) rfl ?_
  refine xk_istore_n dX9_trees_4 (by decide) ?_
  dsimp only [xk_s1, xk_s2, xk_kill]
  refine xk_iconst (0) dX9_trees_5 (by decide) ?_
  refine xk_istore_n dX9_trees_6 (by decide) ?_
  dsimp only [xk_s1, xk_s2, xk_kill]
  refine xk_iconst (0) dX9_trees_7 (by decide) ?_
  refine xk_istore_n dX9_trees_8 (by decide) ?_
  dsimp only [xk_s1, xk_s2, xk_kill]
  exact l9 (2 ^ (n * (n - 1) / 2)) 0 0 hs none (by omega) hA xfr.rf rfl

set_option maxHeartbeats 4000000 in
set_option maxRecDepth 100000 in
/-- leastHeap -/
theorem y_X9_leastHeap (d : Nat) {hs : xk_H} {m n : Nat} {T : mdT} (hn : n ≤ 6) (h2 : 2 ≤ n) (hA : mdA hs m n T) (hK : mdOK T) : xk_Y (d + 2) 0 0 mX9_leastHeap false [.ref m] hs (fun r' h => r' = some (.int (nI (lhF n T))) ∧ mdA h m n T ∧ xfr (mdR m) hs h) := by
  have hnp := np_ok n (by omega)
  have h15 : 2 ^ (n * (n - 1) / 2) ≤ 32768 := Nat.pow_le_pow_right (n := 2) (j := 15) (by decide) hnp
  have hal := mAll_lt hn T
  have l9 : ∀ (r g b : Nat) (h : xk_H), g + r = 2 ^ (n * (n - 1) / 2) → b < 32768 → mdA h m n T → xfr (mdR m) hs h → itr (fun h b => lhS n T h b) r g b = lhF n T → xk_X (d + 2) 0 0 mX9_leastHeap (xk_fx false hs) (fun r' h => r' = some (.int (nI (lhF n T))) ∧ mdA h m n T ∧ xfr (mdR m) hs h) 0 0 9 [some (.ref m), some (.int (nI (mAll n T))), some (.int (nI b)), some (.int (nI g))] [] h := by
    intro r
    induction r with
    | zero =>
      intro g b h h1 hb hA hf hE
      obtain ⟨⟨s, hO⟩, hC, hW⟩ := id hA
      obtain rfl : b = lhF n T := hE
      obtain rfl : g = 2 ^ (n * (n - 1) / 2) := by omega
      refine xk_iload_n dX9_leastHeap_9 rfl ?_
      refine xk_iconst (1) dX9_leastHeap_10 (by decide) ?_
      refine xk_aload_n dX9_leastHeap_11 rfl ?_
      refine xk_get (ci := 8) (r := (RX9, TX9, 25)) 1 dX9_leastHeap_12 rfl inX9 (by decide) wf_X9_70 hO rfl ?_
      refine xk_ishl dX9_leastHeap_15 ?_
      rw [nI_pow (n * (n - 1) / 2) (by omega)]
      refine xk_icmp_ge 77 dX9_leastHeap_16 (by decide) (fun c16 => ?_) (fun c16 => ?_)
      · refine xk_iload_n dX9_leastHeap_77 rfl ?_
        exact xk_iret rfl dX9_leastHeap_78 (Nat.le_refl _) (Nat.le_refl _) ⟨rfl, hA, hf⟩
      · exact absurd (nI_le (Nat.le_refl _) (by omega)) c16
    | succ r ih =>
      intro g b h h1 hb hA hf hE
      obtain ⟨⟨s, hO⟩, hC, hW⟩ := id hA
      have hgl : g < 32768 := by omega
      have hpl := popc_le 15 g
      have hpb := popc_le 15 b
      refine xk_iload_n dX9_leastHeap_9 rfl ?_
      refine xk_iconst (1) dX9_leastHeap_10 (by decide) ?_
      refine xk_aload_n dX9_leastHeap_11 rfl ?_
      refine xk_get (ci := 8) (r := (RX9, TX9, 25)) 1 dX9_leastHeap_12 rfl inX9 (by decide) wf_X9_70 hO rfl ?_
      refine xk_ishl dX9_leastHeap_15 ?_
      rw [nI_pow (n * (n - 1) / 2) (by omega)]
      refine xk_icmp_ge 77 dX9_leastHeap_16 (by decide) (fun c16 => ?_) (fun c16 => ?_)
      · exact absurd c16 (nI_ge (by omega) (by omega))
      · refine xk_iload_n dX9_leastHeap_19 rfl ?_
        refine xk_iload_n dX9_leastHeap_20 rfl ?_
        refine xk_iconst (-1) dX9_leastHeap_21 (by decide) ?_
        refine xk_ixor dX9_leastHeap_22 ?_
        refine xk_iand dX9_leastHeap_23 ?_
        rw [nI_andn hgl hal]
        refine xk_if_ne 71 dX9_leastHeap_24 (by decide) (fun c24 => ?_) (fun c24 => ?_)
        · have hX : ¬ (andn g (mAll n T) = 0 ∧ ¬ popc 15 b < popc 15 g ∧ ¬ (popc 15 g = popc 15 b ∧ b ≤ g) ∧ fitB n T (andn (mAll n T) g) = true) := fun z => c24 (by rw [z.1]; rfl)
          refine xk_iinc (nI (g + 1)) dX9_leastHeap_71 rfl (nI_1 g) (by decide) ?_
          dsimp only [xk_s1, xk_s2, xk_kill]
          refine xk_goto 9 dX9_leastHeap_74 (by decide) ?_
          first
          | exact ih (g + 1) b h (by omega) hb hA hf (by rw [← hE, itr, lhS_n hX])
          | exact ih (g + 1) g z63 (by omega) hgl hA2 (hf.tr hf2) (by rw [← hE, itr, lhS_y hY])
          | exact ih (g + 1) b z63 (by omega) hb hA2 (hf.tr hf2) (by rw [← hE, itr, lhS_n hY])
        · have c25 := (nI_eq (b := 0) (Nat.lt_trans (andn_lt hgl) (by decide)) (by decide)).mp c24
          refine xk_iload_n dX9_leastHeap_27 rfl ?_
          refine xk_s1c (M' := mJ6_bitCount_0f7a4) (d' := (d + 1)) dX9_leastHeap_28 wm_X9_108 cv_J6_bitCount_0f7a4 wt_J6_bitCount_0f7a4 (by omega) (Nat.le_refl _) (Nat.le_refl _) (Nat.le_of_ble_eq_true rfl) (y_J6_bitCount (d + 1)) rfl ?_
          rw [bitc_eq hgl]
          refine xk_iload_n dX9_leastHeap_31 rfl ?_
          refine xk_s1c (M' := mJ6_bitCount_0f7a4) (d' := (d + 1)) dX9_leastHeap_32 wm_X9_108 cv_J6_bitCount_0f7a4 wt_J6_bitCount_0f7a4 (by omega) (Nat.le_refl _) (Nat.le_refl _) (Nat.le_of_ble_eq_true rfl) (y_J6_bitCount (d + 1)) rfl ?_
          rw [bitc_eq hb]
          refine xk_icmp_gt 71 dX9_leastHeap_35 (by decide) (fun c35 => ?_) (fun c35 => ?_)
          · have hX : ¬ (andn g (mAll n T) = 0 ∧ ¬ popc 15 b < popc 15 g ∧ ¬ (popc 15 g = popc 15 b ∧ b ≤ g) ∧ fitB n T (andn (mAll n T) g) = true) := fun z => z.2.1 ((nI_ltI (by omega) (by omega)).mp c35)
            refine xk_iinc (nI (g + 1)) dX9_leastHeap_71 rfl (nI_1 g) (by decide) ?_
            dsimp only [xk_s1, xk_s2, xk_kill]
            refine xk_goto 9 dX9_leastHeap_74 (by decide) ?_
            first
            | exact ih (g + 1) b h (by omega) hb hA hf (by rw [← hE, itr, lhS_n hX])
            | exact ih (g + 1) g z63 (by omega) hgl hA2 (hf.tr hf2) (by rw [← hE, itr, lhS_y hY])
            | exact ih (g + 1) b z63 (by omega) hb hA2 (hf.tr hf2) (by rw [← hE, itr, lhS_n hY])
          · have c36 : ¬ popc 15 b < popc 15 g := fun z => c35 (nI_lt z (by omega))
            refine xk_iload_n dX9_leastHeap_38 rfl ?_
            refine xk_s1c (M' := mJ6_bitCount_0f7a4) (d' := (d + 1)) dX9_leastHeap_39 wm_X9_108 cv_J6_bitCount_0f7a4 wt_J6_bitCount_0f7a4 (by omega) (Nat.le_refl _) (Nat.le_refl _) (Nat.le_of_ble_eq_true rfl) (y_J6_bitCount (d + 1)) rfl ?_
            rw [bitc_eq hgl]
            refine xk_iload_n dX9_leastHeap_42 rfl ?_
            refine xk_s1c (M' := mJ6_bitCount_0f7a4) (d' := (d + 1)) dX9_leastHeap_43 wm_X9_108 cv_J6_bitCount_0f7a4 wt_J6_bitCount_0f7a4 (by omega) (Nat.le_refl _) (Nat.le_refl _) (Nat.le_of_ble_eq_true rfl) (y_J6_bitCount (d + 1)) rfl ?_
            rw [bitc_eq hb]
            refine xk_icmp_ne 57 dX9_leastHeap_46 (by decide) (fun c46 => ?_) (fun c46 => ?_)
            · have c47 : ¬ (popc 15 g = popc 15 b ∧ b ≤ g) := fun z => c46 (by rw [z.1])
              refine xk_aload_n dX9_leastHeap_57 rfl ?_
              refine xk_iload_n dX9_leastHeap_58 rfl ?_
              refine xk_iload_n dX9_leastHeap_59 rfl ?_
              refine xk_iconst (-1) dX9_leastHeap_60 (by decide) ?_
              refine xk_ixor dX9_leastHeap_61 ?_
              refine xk_iand dX9_leastHeap_62 ?_
              rw [nI_andn hal hgl]
              refine xk_callV1 (M' := mX9_fits) (d' := d + 1) (ci := 8) (r0 := (RX9, TX9, 25)) dX9_leastHeap_63 wm_X9_104 cv_X9_fits wi_X9_fits wl_X9_fits (by omega) (Nat.le_refl _) (Nat.le_refl _) rfl rfl hO (Nat.le_of_ble_eq_true rfl) (y_X9_fits d hn h2 hA hK (hp := andn (mAll n T) g) (andn_lt hal) (fun k hk => mAll_sub (by have := hk.2; rw [andn_bit hal] at this; simp only [Bool.and_eq_true] at this; exact this.1))) (fun _ _ z => z.2.2.2.1) (fun r63 z63 h63 => ?_)
              obtain ⟨rfl, -, hA2, hf2⟩ := h63
              refine xk_ifb_eq 71 dX9_leastHeap_66 (by decide) (fun c66 => ?_) (fun c66 => ?_)
              · have hY : ¬ (andn g (mAll n T) = 0 ∧ ¬ popc 15 b < popc 15 g ∧ ¬ (popc 15 g = popc 15 b ∧ b ≤ g) ∧ fitB n T (andn (mAll n T) g) = true) := fun z => by rw [z.2.2.2] at c66; exact absurd c66 (by decide)
                refine xk_iinc (nI (g + 1)) dX9_leastHeap_71 rfl (nI_1 g) (by decide) ?_
                dsimp only [xk_s1, xk_s2, xk_kill]
                refine xk_goto 9 dX9_leastHeap_74 (by decide) ?_
                first
                | exact ih (g + 1) b h (by omega) hb hA hf (by rw [← hE, itr, lhS_n hX])
                | exact ih (g + 1) g z63 (by omega) hgl hA2 (hf.tr hf2) (by rw [← hE, itr, lhS_y hY])
                | exact ih (g + 1) b z63 (by omega) hb hA2 (hf.tr hf2) (by rw [← hE, itr, lhS_n hY])
              · have hY : (andn g (mAll n T) = 0 ∧ ¬ popc 15 b < popc 15 g ∧ ¬ (popc 15 g = popc 15 b ∧ b ≤ g) ∧ fitB n T (andn (mAll n T) g) = true) := ⟨c25, c36, c47, c66⟩
                refine xk_iload_n dX9_leastHeap_69 rfl ?_
                refine xk_istore_n dX9_leastHeap_70 (by decide) ?_
                dsimp only [xk_s1, xk_s2, xk_kill]
                refine xk_iinc (nI (g + 1)) dX9_leastHeap_71 rfl (nI_1 g) (by decide) ?_
                dsimp only [xk_s1, xk_s2, xk_kill]
                refine xk_goto 9 dX9_leastHeap_74 (by decide) ?_
                first
                | exact ih (g + 1) b h (by omega) hb hA hf (by rw [← hE, itr, lhS_n hX])
                | exact ih (g + 1) g z63 (by omega) hgl hA2 (hf.tr hf2) (by rw [← hE, itr, lhS_y hY])
                | exact ih (g + 1) b z63 (by omega) hb hA2 (hf.tr hf2) (by rw [← hE, itr, lhS_n hY])
            · refine xk_iload_n dX9_leastHeap_49 rfl ?_
              refine xk_iload_n dX9_leastHeap_50 rfl ?_
              refine xk_icmp_lt 57 dX9_leastHeap_51 (by decide) (fun c51 => ?_) (fun c51 => ?_)
              · have c47 : ¬ (popc 15 g = popc 15 b ∧ b ≤ g) := fun z => absurd ((nI_ltI (by omega) (by omega)).mp c51) (by omega)
                refine xk_aload_n dX9_leastHeap_57 rfl ?_
                refine xk_iload_n dX9_leastHeap_58 rfl ?_
                refine xk_iload_n dX9_leastHeap_59 rfl ?_
                refine xk_iconst (-1) dX9_leastHeap_60 (by decide) ?_
                refine xk_ixor dX9_leastHeap_61 ?_
                refine xk_iand dX9_leastHeap_62 ?_
                rw [nI_andn hal hgl]
                refine xk_callV1 (M' := mX9_fits) (d' := d + 1) (ci := 8) (r0 := (RX9, TX9, 25)) dX9_leastHeap_63 wm_X9_104 cv_X9_fits wi_X9_fits wl_X9_fits (by omega) (Nat.le_refl _) (Nat.le_refl _) rfl rfl hO (Nat.le_of_ble_eq_true rfl) (y_X9_fits d hn h2 hA hK (hp := andn (mAll n T) g) (andn_lt hal) (fun k hk => mAll_sub (by have := hk.2; rw [andn_bit hal] at this; simp only [Bool.and_eq_true] at this; exact this.1))) (fun _ _ z => z.2.2.2.1) (fun r63 z63 h63 => ?_)
                obtain ⟨rfl, -, hA2, hf2⟩ := h63
                refine xk_ifb_eq 71 dX9_leastHeap_66 (by decide) (fun c66 => ?_) (fun c66 => ?_)
                · have hY : ¬ (andn g (mAll n T) = 0 ∧ ¬ popc 15 b < popc 15 g ∧ ¬ (popc 15 g = popc 15 b ∧ b ≤ g) ∧ fitB n T (andn (mAll n T) g) = true) := fun z => by rw [z.2.2.2] at c66; exact absurd c66 (by decide)
                  refine xk_iinc (nI (g + 1)) dX9_leastHeap_71 rfl (nI_1 g) (by decide) ?_
                  dsimp only [xk_s1, xk_s2, xk_kill]
                  refine xk_goto 9 dX9_leastHeap_74 (by decide) ?_
                  first
                  | exact ih (g + 1) b h (by omega) hb hA hf (by rw [← hE, itr, lhS_n hX])
                  | exact ih (g + 1) g z63 (by omega) hgl hA2 (hf.tr hf2) (by rw [← hE, itr, lhS_y hY])
                  | exact ih (g + 1) b z63 (by omega) hb hA2 (hf.tr hf2) (by rw [← hE, itr, lhS_n hY])
                · have hY : (andn g (mAll n T) = 0 ∧ ¬ popc 15 b < popc 15 g ∧ ¬ (popc 15 g = popc 15 b ∧ b ≤ g) ∧ fitB n T (andn (mAll n T) g) = true) := ⟨c25, c36, c47, c66⟩
                  refine xk_iload_n dX9_leastHeap_69 rfl ?_
                  refine xk_istore_n dX9_leastHeap_70 (by decide) ?_
                  dsimp only [xk_s1, xk_s2, xk_kill]
                  refine xk_iinc (nI (g + 1)) dX9_leastHeap_71 rfl (nI_1 g) (by decide) ?_
                  dsimp only [xk_s1, xk_s2, xk_kill]
                  refine xk_goto 9 dX9_leastHeap_74 (by decide) ?_
                  first
                  | exact ih (g + 1) b h (by omega) hb hA hf (by rw [← hE, itr, lhS_n hX])
                  | exact ih (g + 1) g z63 (by omega) hgl hA2 (hf.tr hf2) (by rw [← hE, itr, lhS_y hY])
                  | exact ih (g + 1) b z63 (by omega) hb hA2 (hf.tr hf2) (by rw [← hE, itr, lhS_n hY])
              · have c48 : b ≤ g := by
                  rcases Nat.lt_or_ge g b with z | z
                  · exact absurd (nI_lt z (by omega)) c51
                  · exact z
                have hX : ¬ (andn g (mAll n T) = 0 ∧ ¬ popc 15 b < popc 15 g ∧ ¬ (popc 15 g = popc 15 b ∧ b ≤ g) ∧ fitB n T (andn (mAll n T) g) = true) := fun z => z.2.2.1 ⟨(nI_eq (by omega) (by omega)).mp c46, c48⟩
                refine xk_goto 71 dX9_leastHeap_54 (by decide) ?_
                refine xk_iinc (nI (g + 1)) dX9_leastHeap_71 rfl (nI_1 g) (by decide) ?_
                dsimp only [xk_s1, xk_s2, xk_kill]
                refine xk_goto 9 dX9_leastHeap_74 (by decide) ?_
                first
                | exact ih (g + 1) b h (by omega) hb hA hf (by rw [← hE, itr, lhS_n hX])
                | exact ih (g + 1) g z63 (by omega) hgl hA2 (hf.tr hf2) (by rw [← hE, itr, lhS_y hY])
                | exact ih (g + 1) b z63 (by omega) hb hA2 (hf.tr hf2) (by rw [← hE, itr, lhS_n hY])
  obtain ⟨⟨s, hO⟩, hC, hW⟩ := id hA
  refine xk_Y.ofX (k := 3) (ls := [some (.ref m), none, none, none]) (by decide) rfl rfl ?_
  refine xk_aload_n dX9_leastHeap_0 rfl ?_
  refine xk_v0 (M' := mX9_all) (d' := (d + 1)) (ci := 8) (r0 := (RX9, TX9, 25)) dX9_leastHeap_1 wm_X9_100 cv_X9_all wi_X9_all wl_X9_all (by omega) (Nat.le_refl _) (Nat.le_refl _) rfl rfl hO (Nat.le_of_ble_eq_true rfl) (y_X9_all (d + 1) hn h2 hO hC hK) rfl ?_
  refine xk_istore_n dX9_leastHeap_4 (by decide) ?_
  dsimp only [xk_s1, xk_s2, xk_kill]
  refine xk_iload_n dX9_leastHeap_5 rfl ?_
  refine xk_istore_n dX9_leastHeap_6 (by decide) ?_
  dsimp only [xk_s1, xk_s2, xk_kill]
  refine xk_iconst (0) dX9_leastHeap_7 (by decide) ?_
  refine xk_istore_n dX9_leastHeap_8 (by decide) ?_
  dsimp only [xk_s1, xk_s2, xk_kill]
  exact l9 (2 ^ (n * (n - 1) / 2)) 0 (mAll n T) hs (by omega) hal hA xfr.rf rfl

set_option maxHeartbeats 4000000 in
set_option maxRecDepth 100000 in
theorem y_X9_few (d : Nat) {hs : xk_H} {m n : Nat} {T : mdT} (hn : n ≤ 6) (h2 : 2 ≤ n) (hA : mdA hs m n T) (hK : mdOK T) : xk_Y (d + 3) 0 0 mX9_few false [.ref m] hs (fun r' h => r' = some (.int (nI (popc 15 (lhF n T)))) ∧ mdA h m n T ∧ xfr (mdR m) hs h) := by
  obtain ⟨⟨s, hO⟩, hC, hW⟩ := id hA
  refine xk_Y.ofX (k := 0) (ls := [some (.ref m)]) (by decide) rfl rfl ?_
  refine xk_aload_n dX9_few_0 rfl ?_
  refine xk_callV0 (M' := mX9_leastHeap) (d' := d + 2) (ci := 8) (r0 := (RX9, TX9, 25)) dX9_few_1 wm_X9_114 cv_X9_leastHeap wi_X9_leastHeap wl_X9_leastHeap (by omega) (Nat.le_refl _) (Nat.le_refl _) rfl rfl hO (Nat.le_of_ble_eq_true rfl) (y_X9_leastHeap d hn h2 hA hK) (fun _ _ z => z.2.2.1) (fun r1 z1 h1 => ?_)
  obtain ⟨rfl, hA2, hf2⟩ := h1
  refine xk_s1c (M' := mJ6_bitCount_0f7a4) (d' := (d + 2)) dX9_few_4 wm_X9_108 cv_J6_bitCount_0f7a4 wt_J6_bitCount_0f7a4 (by omega) (Nat.le_refl _) (Nat.le_refl _) (Nat.le_of_ble_eq_true rfl) (y_J6_bitCount (d + 2)) rfl ?_
  rw [bitc_eq (lhF_lt hn)]
  exact xk_iret rfl dX9_few_7 (Nat.le_refl _) (Nat.le_refl _) ⟨rfl, hA2, hf2⟩

set_option maxHeartbeats 4000000 in
set_option maxRecDepth 100000 in
theorem y_X9_left (d : Nat) {hs : xk_H} {m n : Nat} {T : mdT} (hn : n ≤ 6) (h2 : 2 ≤ n) (hA : mdA hs m n T) (hK : mdOK T) : xk_Y (d + 3) 0 0 mX9_left false [.ref m] hs (fun r' h => r' = some (.int (nI (lhF n T))) ∧ mdA h m n T ∧ xfr (mdR m) hs h) := by
  obtain ⟨⟨s, hO⟩, hC, hW⟩ := id hA
  refine xk_Y.ofX (k := 0) (ls := [some (.ref m)]) (by decide) rfl rfl ?_
  refine xk_aload_n dX9_left_0 rfl ?_
  refine xk_callV0 (M' := mX9_leastHeap) (d' := d + 2) (ci := 8) (r0 := (RX9, TX9, 25)) dX9_left_1 wm_X9_114 cv_X9_leastHeap wi_X9_leastHeap wl_X9_leastHeap (by omega) (Nat.le_refl _) (Nat.le_refl _) rfl rfl hO (Nat.le_of_ble_eq_true rfl) (y_X9_leastHeap d hn h2 hA hK) (fun _ _ z => z.2.2.1) (fun r1 z1 h1 => ?_)
  obtain ⟨rfl, hA2, hf2⟩ := h1
  exact xk_iret rfl dX9_left_4 (Nat.le_refl _) (Nat.le_refl _) ⟨rfl, hA2, hf2⟩

