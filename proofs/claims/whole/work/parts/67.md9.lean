/-! The reference: ways, goes, can, bound. Laid by a program of our own. -/
set_option maxHeartbeats 4000000 in
set_option maxRecDepth 100000 in
/-- ways, by how many things are free still -/
theorem y_X9_ways (d : Nat) {m n : Nat} {T : mdT} {to : Int32} (hn : n ≤ 6) (h2 : 2 ≤ n) (hK : mdOK T) : ∀ (f b : Nat) (q : List Nat) (p : Nat × Nat) (s : wS) (W : Nat → Int32) (hs : xk_H), mdC hs m n T → wyA hs hs m n s W → wayR W (b :: q) → (∀ x, x ∈ b :: q → x < n) → (b :: q).Nodup → q.length + 1 + f = n → pB (q.length + 1) p → 1 ≤ p.1 → 1 ≤ p.2 → wB s →
    xk_Y (d + 3 + f) 0 0 mX9_ways false [.ref m, .int (nI (q.length + 1)), .int to, .long (lN p.1), .long (lN p.2)] hs (fun r' h => r' = none ∧ ∃ W', wyA hs h m n (wyF n T to f b q p s) W' ∧ wayR W' (b :: q)) := by
  intro f
  induction f with
  | zero =>
    intro b q p s W hs hC hR hw hx hd hz hp hp1 hp2 hB
    have hb : b < n := hx b List.mem_cons_self
    have ha : lastN (b :: q) < n := hx _ (lastN_mem b q)
    have hp6 := pB_6 (show (q.length + 1) ≤ 6 by omega) hp
    have h96 := p9 (show (q.length + 1) ≤ 6 by omega)
    have e0 : W 0 = nI (lastN (b :: q)) := wayR_0 b q hw
    have el : W q.length = nI b := hw.1
    have q9 : (nI q.length).toNatClampNeg = q.length := nI_clamp (by omega)
    have q8 : (0 : Int32).toNatClampNeg = 0 := rfl
    have hm1 : p.1 * s.2.2.1 ≤ 531441 * 531441 := Nat.mul_le_mul hp6.1 hB.2
    have hm2 : s.2.1 * p.2 ≤ 531441 * 531441 := Nat.mul_le_mul hB.1 hp6.2
    have hg1 : 0 < Nat.gcd p.1 p.2 := Nat.gcd_pos_of_pos_left _ hp1
    have hg2 : Nat.gcd p.1 p.2 ≤ p.1 := Nat.gcd_le_left _ hp1
    have l176z : ∀ (i : Nat) (h : xk_H) (s1 : wS) (W1 : Nat → Int32) (k : Nat), k < 100 → wyA hs h m n s1 W1 → (∀ o9, xk_X (d + 3 + 0) 0 0 mX9_ways (xk_fx false hs) (fun r' h => r' = none ∧ ∃ W', wyA hs h m n (wyF n T to 0 b q p s) W' ∧ wayR W' (b :: q)) 0 0 212 [some (.ref m), some (.int (nI (q.length + 1))), some (.int to), some (.long (lN p.1)), none, some (.long (lN p.2)), none, some (.int (nI b)), some (.int (nI i)), some (.int (xk_b false)), o9] [] h) → xk_X (d + 3 + 0) 0 0 mX9_ways (xk_fx false hs) (fun r' h => r' = none ∧ ∃ W', wyA hs h m n (wyF n T to 0 b q p s) W' ∧ wayR W' (b :: q)) 0 0 176 [some (.ref m), some (.int (nI (q.length + 1))), some (.int to), some (.long (lN p.1)), none, some (.long (lN p.2)), none, some (.int (nI b)), some (.int (nI i)), some (.int (xk_b false)), some (.int (nI k))] [] h := by
      intro i h s1 W1 k hk hR1 K0
      obtain ⟨⟨c, e1, e2, e3, hO⟩, hw5, -⟩ := id hR1
      refine xk_iload dX9_ways_176 rfl ?_
      refine xk_iload_n dX9_ways_178 rfl ?_
      refine xk_icmp_ge 212 dX9_ways_179 (by decide) (fun c179 => ?_) (fun c179 => ?_)
      · exact K0 _
      · refine xk_iload dX9_ways_182 rfl ?_
        refine xk_ifb_eq 212 dX9_ways_184 (by decide) (fun c184 => ?_) (fun c184 => ?_)
        · exact K0 _
        · exact absurd c184 (by decide)
    have l176 : ∀ (i : Nat) (h : xk_H) (s1 : wS) (W1 : Nat → Int32), i < n → wyA hs h m n s1 W1 → wayR W1 (b :: q) → (∀ o9, ¬ i ∈ b :: q → xk_X (d + 3 + 0) 0 0 mX9_ways (xk_fx false hs) (fun r' h => r' = none ∧ ∃ W', wyA hs h m n (wyF n T to 0 b q p s) W' ∧ wayR W' (b :: q)) 0 0 212 [some (.ref m), some (.int (nI (q.length + 1))), some (.int to), some (.long (lN p.1)), none, some (.long (lN p.2)), none, some (.int (nI b)), some (.int (nI i)), some (.int (xk_b true)), o9] [] h) → (∀ o9, i ∈ b :: q → xk_X (d + 3 + 0) 0 0 mX9_ways (xk_fx false hs) (fun r' h => r' = none ∧ ∃ W', wyA hs h m n (wyF n T to 0 b q p s) W' ∧ wayR W' (b :: q)) 0 0 212 [some (.ref m), some (.int (nI (q.length + 1))), some (.int to), some (.long (lN p.1)), none, some (.long (lN p.2)), none, some (.int (nI b)), some (.int (nI i)), some (.int (xk_b false)), o9] [] h) → ∀ (r k : Nat), k + r = q.length + 1 → (∀ j, j < k → W1 j ≠ nI i) → xk_X (d + 3 + 0) 0 0 mX9_ways (xk_fx false hs) (fun r' h => r' = none ∧ ∃ W', wyA hs h m n (wyF n T to 0 b q p s) W' ∧ wayR W' (b :: q)) 0 0 176 [some (.ref m), some (.int (nI (q.length + 1))), some (.int to), some (.long (lN p.1)), none, some (.long (lN p.2)), none, some (.int (nI b)), some (.int (nI i)), some (.int (xk_b true)), some (.int (nI k))] [] h := by
      intro i h s1 W1 hi hR1 hw1 K1 K0 r
      obtain ⟨⟨c, e1, e2, e3, hO⟩, hw5, -⟩ := id hR1
      have K0b : ∀ k, k < 100 → i ∈ b :: q → xk_X (d + 3 + 0) 0 0 mX9_ways (xk_fx false hs) (fun r' h => r' = none ∧ ∃ W', wyA hs h m n (wyF n T to 0 b q p s) W' ∧ wayR W' (b :: q)) 0 0 176 [some (.ref m), some (.int (nI (q.length + 1))), some (.int to), some (.long (lN p.1)), none, some (.long (lN p.2)), none, some (.int (nI b)), some (.int (nI i)), some (.int (xk_b false)), some (.int (nI k))] [] h := fun k hk hin => l176z i h s1 W1 k hk hR1 (fun o9 => K0 o9 hin)
      induction r with
      | zero =>
        intro k hk hj
        have hni : ¬ i ∈ b :: q := fun z => by
          obtain ⟨j, h1, h3⟩ := wayR_mem _ hw1 i z
          rw [List.length_cons] at h1
          exact hj j (by omega) h3
        refine xk_iload dX9_ways_176 rfl ?_
        refine xk_iload_n dX9_ways_178 rfl ?_
        refine xk_icmp_ge 212 dX9_ways_179 (by decide) (fun c179 => ?_) (fun c179 => ?_)
        · exact K1 _ hni
        · exact absurd (nI_le (by omega) (by omega)) c179
      | succ r ihr =>
        intro k hk hj
        have q7 : (nI k).toNatClampNeg = k := nI_clamp (by omega)
        refine xk_iload dX9_ways_176 rfl ?_
        refine xk_iload_n dX9_ways_178 rfl ?_
        refine xk_icmp_ge 212 dX9_ways_179 (by decide) (fun c179 => ?_) (fun c179 => ?_)
        · exact absurd c179 (nI_ge (by omega) (by omega))
        · refine xk_iload dX9_ways_182 rfl ?_
          refine xk_ifb_eq 212 dX9_ways_184 (by decide) (fun c184 => ?_) (fun c184 => ?_)
          · exact absurd c184 (by decide)
          · refine xk_aload_n dX9_ways_187 rfl ?_
            refine xk_get (ci := 8) (r := (RX9, TX9, 25)) 20 dX9_ways_188 rfl inX9 (by decide) wf_X9_54 hO rfl ?_
            refine xk_iload dX9_ways_191 rfl ?_
            refine xk_iald dX9_ways_193 hw5 (vp_in_nI (by omega) (by decide)) ?_
            rw [q7]
            refine xk_iload dX9_ways_194 rfl ?_
            refine xk_icmp_eq 203 dX9_ways_196 (by decide) (fun c196 => ?_) (fun c196 => ?_)
            · have hin : i ∈ b :: q := by
                obtain ⟨x, h1, h3⟩ := wayR_at _ hw1 k (by rw [List.length_cons]; omega)
                rw [c196] at h3
                rw [(nI_eq (by omega) (by have := hx x h1; omega)).mp h3]
                exact h1
              refine xk_iconst (0) dX9_ways_203 (by decide) ?_
              refine xk_istore dX9_ways_204 (by decide) ?_
              dsimp only [xk_s1, xk_s2, xk_kill]
              refine xk_iinc (nI (k + 1)) dX9_ways_206 rfl (nI_1 k) (by decide) ?_
              dsimp only [xk_s1, xk_s2, xk_kill]
              refine xk_goto 176 dX9_ways_209 (by decide) ?_
              first | exact ihr (k + 1) (by omega) (fun j h1 => by rcases Nat.lt_or_ge j k with z | z; (exact hj j z); (obtain rfl : j = k := by omega); exact c196) | exact K0b (k + 1) (by omega) hin
            · refine xk_iconst (1) dX9_ways_199 (by decide) ?_
              refine xk_goto 204 dX9_ways_200 (by decide) ?_
              refine xk_istore dX9_ways_204 (by decide) ?_
              dsimp only [xk_s1, xk_s2, xk_kill]
              refine xk_iinc (nI (k + 1)) dX9_ways_206 rfl (nI_1 k) (by decide) ?_
              dsimp only [xk_s1, xk_s2, xk_kill]
              refine xk_goto 176 dX9_ways_209 (by decide) ?_
              first | exact ihr (k + 1) (by omega) (fun j h1 => by rcases Nat.lt_or_ge j k with z | z; (exact hj j z); (obtain rfl : j = k := by omega); exact c196) | exact K0b (k + 1) (by omega) hin
    have l139 : ∀ (r i : Nat) (s1 : wS) (W1 : Nat → Int32) (h : xk_H) (o8 o9 : Option Value), i + r = n → wyA hs h m n s1 W1 → wayR W1 (b :: q) → wB s1 → s1 = wyF n T to 0 b q p s → xk_X (d + 3 + 0) 0 0 mX9_ways (xk_fx false hs) (fun r' h => r' = none ∧ ∃ W', wyA hs h m n (wyF n T to 0 b q p s) W' ∧ wayR W' (b :: q)) 0 0 139 [some (.ref m), some (.int (nI (q.length + 1))), some (.int to), some (.long (lN p.1)), none, some (.long (lN p.2)), none, some (.int (nI b)), some (.int (nI i)), o8, o9] [] h := by
      intro r
      induction r with
      | zero =>
        intro i s1 W1 h o8 o9 h1 hR1 hw1 hB1 hE
        obtain ⟨⟨c, e1, e2, e3, hO⟩, hw5, -⟩ := id hR1
        refine xk_iload dX9_ways_139 rfl ?_
        refine xk_aload_n dX9_ways_141 rfl ?_
        refine xk_get (ci := 8) (r := (RX9, TX9, 25)) 0 dX9_ways_142 rfl inX9 (by decide) wf_X9_66 hO rfl ?_
        refine xk_icmp_ge 265 dX9_ways_145 (by decide) (fun c145 => ?_) (fun c145 => ?_)
        · exact xk_vret rfl dX9_ways_265 (Nat.le_refl _) (Nat.le_refl _) ⟨rfl, W1, by rw [← hE]; exact hR1, hw1⟩
        · exact absurd (nI_le (by omega) (by omega)) c145
      | succ r ihr =>
        intro i s1 W1 h o8 o9 h1 hR1 hw1 hB1 hE
        obtain ⟨⟨c, e1, e2, e3, hO⟩, hw5, -⟩ := id hR1
        have hi : i < n := by omega
        have hC1 := hR1.C hC
        have hal : i ∈ b :: q := nod_all hd hx (by rw [List.length_cons]; omega) hi
        have k0 : ∀ o9, (i ∈ b :: q ∨ ¬ 0 < T.2.2.1 (pidx n b i)) → xk_X (d + 3 + 0) 0 0 mX9_ways (xk_fx false hs) (fun r' h => r' = none ∧ ∃ W', wyA hs h m n (wyF n T to 0 b q p s) W' ∧ wayR W' (b :: q)) 0 0 212 [some (.ref m), some (.int (nI (q.length + 1))), some (.int to), some (.long (lN p.1)), none, some (.long (lN p.2)), none, some (.int (nI b)), some (.int (nI i)), some (.int (xk_b false)), o9] [] h := by
          intro o9 hno
          refine xk_iload dX9_ways_212 rfl ?_
          refine xk_ifb_ne 220 dX9_ways_214 (by decide) (fun c214 => ?_) (fun c214 => ?_)
          · exact absurd c214 (by decide)
          · refine xk_goto 259 dX9_ways_217 (by decide) ?_
            refine xk_iinc (nI (i + 1)) dX9_ways_259 rfl (nI_1 i) (by decide) ?_
            dsimp only [xk_s1, xk_s2, xk_kill]
            refine xk_goto 139 dX9_ways_262 (by decide) ?_
            exact ihr (i + 1) s1 W1 h _ _ (by omega) hR1 hw1 hB1 hE
        refine xk_iload dX9_ways_139 rfl ?_
        refine xk_aload_n dX9_ways_141 rfl ?_
        refine xk_get (ci := 8) (r := (RX9, TX9, 25)) 0 dX9_ways_142 rfl inX9 (by decide) wf_X9_66 hO rfl ?_
        refine xk_icmp_ge 265 dX9_ways_145 (by decide) (fun c145 => ?_) (fun c145 => ?_)
        · exact absurd c145 (nI_ge (by omega) (by omega))
        · refine xk_iload dX9_ways_148 rfl ?_
          refine xk_iload dX9_ways_150 rfl ?_
          refine xk_icmp_eq 170 dX9_ways_152 (by decide) (fun c152 => ?_) (fun c152 => ?_)
          · have hno : i ∈ b :: q ∨ ¬ 0 < T.2.2.1 (pidx n b i) := Or.inl (by rw [(nI_eq (by omega) (by omega)).mp c152]; exact List.mem_cons_self)
            refine xk_iconst (0) dX9_ways_170 (by decide) ?_
            refine xk_istore dX9_ways_171 (by decide) ?_
            dsimp only [xk_s1, xk_s2, xk_kill]
            refine xk_iconst (0) dX9_ways_173 (by decide) ?_
            refine xk_istore dX9_ways_174 (by decide) ?_
            dsimp only [xk_s1, xk_s2, xk_kill]
            first | exact l176 i h s1 W1 hi hR1 hw1 (fun o9 z => absurd hal z) (fun o9 z => k0 o9 (Or.inl z)) (q.length + 1) 0 (by omega) (fun j hj => by omega) | exact l176z i h s1 W1 0 (by decide) hR1 (fun o9 => k0 o9 hno)
          · have hbi : b ≠ i := fun z => c152 (by rw [z])
            refine xk_aload_n dX9_ways_155 rfl ?_
            refine xk_iload dX9_ways_156 rfl ?_
            refine xk_iload dX9_ways_158 rfl ?_
            refine xk_v2 (M' := mX9_isSpan)  (ci := 8) (r0 := (RX9, TX9, 25)) dX9_ways_160 wm_X9_174 cv_X9_isSpan wi_X9_isSpan wl_X9_isSpan (by omega) (Nat.le_refl _) (Nat.le_refl _) rfl rfl hO (Nat.le_of_ble_eq_true rfl) (y_X9_isSpan (d + 0) hn h2 hO hC1 hb hi hbi (by have := hK (pidx n b i); omega)) rfl ?_
            refine xk_ifb_eq 170 dX9_ways_163 (by decide) (fun c163 => ?_) (fun c163 => ?_)
            · have hno : i ∈ b :: q ∨ ¬ 0 < T.2.2.1 (pidx n b i) := Or.inr (of_decide_eq_false c163)
              refine xk_iconst (0) dX9_ways_170 (by decide) ?_
              refine xk_istore dX9_ways_171 (by decide) ?_
              dsimp only [xk_s1, xk_s2, xk_kill]
              refine xk_iconst (0) dX9_ways_173 (by decide) ?_
              refine xk_istore dX9_ways_174 (by decide) ?_
              dsimp only [xk_s1, xk_s2, xk_kill]
              first | exact l176 i h s1 W1 hi hR1 hw1 (fun o9 z => absurd hal z) (fun o9 z => k0 o9 (Or.inl z)) (q.length + 1) 0 (by omega) (fun j hj => by omega) | exact l176z i h s1 W1 0 (by decide) hR1 (fun o9 => k0 o9 hno)
            · have hsd : 0 < T.2.2.1 (pidx n b i) := of_decide_eq_true c163
              refine xk_iconst (1) dX9_ways_166 (by decide) ?_
              refine xk_goto 171 dX9_ways_167 (by decide) ?_
              refine xk_istore dX9_ways_171 (by decide) ?_
              dsimp only [xk_s1, xk_s2, xk_kill]
              refine xk_iconst (0) dX9_ways_173 (by decide) ?_
              refine xk_istore dX9_ways_174 (by decide) ?_
              dsimp only [xk_s1, xk_s2, xk_kill]
              first | exact l176 i h s1 W1 hi hR1 hw1 (fun o9 z => absurd hal z) (fun o9 z => k0 o9 (Or.inl z)) (q.length + 1) 0 (by omega) (fun j hj => by omega) | exact l176z i h s1 W1 0 (by decide) hR1 (fun o9 => k0 o9 hno)
    have j136 : ∀ (h : xk_H) (s1 : wS) (W1 : Nat → Int32), wyA hs h m n s1 W1 → wayR W1 (b :: q) → wB s1 → ¬ (nI b = to ∧ 2 ≤ q.length + 1) → wyC n T b q p s = s1 → xk_X (d + 3 + 0) 0 0 mX9_ways (xk_fx false hs) (fun r' h => r' = none ∧ ∃ W', wyA hs h m n (wyF n T to 0 b q p s) W' ∧ wayR W' (b :: q)) 0 0 136 [some (.ref m), some (.int (nI (q.length + 1))), some (.int to), some (.long (lN p.1)), none, some (.long (lN p.2)), none, some (.int (nI b)), none, none, none] [] h := by
      intro h s1 W1 hR1 hw1 hB1 hno hE
      obtain ⟨⟨c, e1, e2, e3, hO⟩, hw5, -⟩ := id hR1
      refine xk_iconst (0) dX9_ways_136 (by decide) ?_
      refine xk_istore dX9_ways_137 (by decide) ?_
      dsimp only [xk_s1, xk_s2, xk_kill]
      exact l139 n 0 s1 W1 h _ _ (by omega) hR1 hw1 hB1 (by rw [wyF, if_neg hno, hE])
    obtain ⟨⟨c, e1, e2, e3, hO⟩, hw5, -⟩ := id hR
    refine xk_Y.ofX (k := 4) (ls := [some (.ref m), some (.int (nI (q.length + 1))), some (.int to), some (.long (lN p.1)), none, some (.long (lN p.2)), none, none, none, none, none]) (by decide) rfl rfl ?_
    refine xk_aload_n dX9_ways_0 rfl ?_
    refine xk_get (ci := 8) (r := (RX9, TX9, 25)) 20 dX9_ways_1 rfl inX9 (by decide) wf_X9_54 hO rfl ?_
    refine xk_iload_n dX9_ways_4 rfl ?_
    refine xk_iconst (1) dX9_ways_5 (by decide) ?_
    refine xk_isub dX9_ways_6 ?_
    rw [show (1 : Int32) = nI 1 from rfl, pk_sub (by omega), Nat.add_sub_cancel]
    refine xk_iald dX9_ways_7 hw5 (vp_in_nI (by omega) (by decide)) ?_
    rw [q9, el]
    refine xk_istore dX9_ways_8 (by decide) ?_
    dsimp only [xk_s1, xk_s2, xk_kill]
    refine xk_iload dX9_ways_10 rfl ?_
    refine xk_iload_n dX9_ways_12 rfl ?_
    refine xk_icmp_ne 76 dX9_ways_13 (by decide) (fun c13 => ?_) (fun c13 => ?_)
    · have c19 : ¬ (nI b = to ∧ 2 ≤ q.length + 1) := fun z => c13 z.1
      refine xk_iload_n dX9_ways_76 rfl ?_
      refine xk_iconst (1) dX9_ways_77 (by decide) ?_
      refine xk_icmp_le 136 dX9_ways_78 (by decide) (fun c78 => ?_) (fun c78 => ?_)
      · have c79 : ¬ 2 ≤ q.length + 1 := fun z => absurd c78 (nI_ge (a := 1) (by omega) (by omega))
        first | exact j136 hs s W hR hw hB c19 (by unfold wyC; rw [if_neg (fun z => c79 z.1)]) | exact j136 hs s W hR hw hB c19 (by unfold wyC; rw [if_neg (fun z => c94 z.2.1)]) | exact j136 hs s W hR hw hB c19 (by unfold wyC; rw [if_neg (fun z => c129 z.2.2)]) | exact j136 _ _ W (hR.o c e1 e2 e3 (s.1, s.2.1, s.2.2.1, false)) hw hB c19 (by unfold wyC; rw [if_pos ⟨c79, c94, c129⟩])
      · have c79 : 2 ≤ q.length + 1 := by
          rcases Nat.lt_or_ge 1 (q.length + 1) with z | z
          · exact z
          · exact absurd (nI_le (b := 1) z (by decide)) c78
        have hab := nod_last hd (by omega)
        refine xk_aload_n dX9_ways_81 rfl ?_
        refine xk_iload dX9_ways_82 rfl ?_
        refine xk_aload_n dX9_ways_84 rfl ?_
        refine xk_get (ci := 8) (r := (RX9, TX9, 25)) 20 dX9_ways_85 rfl inX9 (by decide) wf_X9_54 hO rfl ?_
        refine xk_iconst (0) dX9_ways_88 (by decide) ?_
        refine xk_iald dX9_ways_89 hw5 (vp_in_nI (n := 0) (by decide) (by decide)) ?_
        rw [q8, e0]
        refine xk_v2 (M' := mX9_isSpan)  (ci := 8) (r0 := (RX9, TX9, 25)) dX9_ways_90 wm_X9_174 cv_X9_isSpan wi_X9_isSpan wl_X9_isSpan (by omega) (Nat.le_refl _) (Nat.le_refl _) rfl rfl hO (Nat.le_of_ble_eq_true rfl) (y_X9_isSpan (d + 0) hn h2 hO hC hb ha hab (by have := hK (pidx n b (lastN (b :: q))); omega)) rfl ?_
        refine xk_ifb_eq 136 dX9_ways_93 (by decide) (fun c93 => ?_) (fun c93 => ?_)
        · have c94 : ¬ 0 < T.2.2.1 (pidx n b (lastN (b :: q))) := of_decide_eq_false c93
          first | exact j136 hs s W hR hw hB c19 (by unfold wyC; rw [if_neg (fun z => c79 z.1)]) | exact j136 hs s W hR hw hB c19 (by unfold wyC; rw [if_neg (fun z => c94 z.2.1)]) | exact j136 hs s W hR hw hB c19 (by unfold wyC; rw [if_neg (fun z => c129 z.2.2)]) | exact j136 _ _ W (hR.o c e1 e2 e3 (s.1, s.2.1, s.2.2.1, false)) hw hB c19 (by unfold wyC; rw [if_pos ⟨c79, c94, c129⟩])
        · have c94 : 0 < T.2.2.1 (pidx n b (lastN (b :: q))) := of_decide_eq_true c93
          have hdg := mdL_b (n := n) hK c94
          have hpm := pB_mul hp hdg.1.2 hdg.2.2
          have hpm1 : p.1 * (mdL n T b (lastN (b :: q))).1 ≤ 531441 := Nat.le_trans hpm.1 h96
          have hpm2 : p.2 * (mdL n T b (lastN (b :: q))).2 ≤ 531441 := Nat.le_trans hpm.2 h96
          refine xk_lload_n dX9_ways_96 rfl ?_
          refine xk_aload_n dX9_ways_97 rfl ?_
          refine xk_iload dX9_ways_98 rfl ?_
          refine xk_aload_n dX9_ways_100 rfl ?_
          refine xk_get (ci := 8) (r := (RX9, TX9, 25)) 20 dX9_ways_101 rfl inX9 (by decide) wf_X9_54 hO rfl ?_
          refine xk_iconst (0) dX9_ways_104 (by decide) ?_
          refine xk_iald dX9_ways_105 hw5 (vp_in_nI (n := 0) (by decide) (by decide)) ?_
          try rw [q8]
          try rw [e0]
          refine xk_v2 (M' := mX9_lowOver)  (ci := 8) (r0 := (RX9, TX9, 25)) dX9_ways_106 wm_X9_177 cv_X9_lowOver wi_X9_lowOver wl_X9_lowOver (by omega) (Nat.le_refl _) (Nat.le_refl _) rfl rfl hO (Nat.le_of_ble_eq_true rfl) (y_X9_lowOver (d + 0) hn h2 hO hC hb ha hab) rfl ?_
          refine xk_i2l dX9_ways_109 ?_
          rw [nI_l (by omega)]
          refine xk_lmul dX9_ways_110 ?_
          rw [lN_mul]
          refine xk_lload dX9_ways_111 rfl ?_
          refine xk_aload_n dX9_ways_113 rfl ?_
          refine xk_iload dX9_ways_114 rfl ?_
          refine xk_aload_n dX9_ways_116 rfl ?_
          refine xk_get (ci := 8) (r := (RX9, TX9, 25)) 20 dX9_ways_117 rfl inX9 (by decide) wf_X9_54 hO rfl ?_
          refine xk_iconst (0) dX9_ways_120 (by decide) ?_
          refine xk_iald dX9_ways_121 hw5 (vp_in_nI (n := 0) (by decide) (by decide)) ?_
          try rw [q8]
          try rw [e0]
          refine xk_v2 (M' := mX9_lowUnder)  (ci := 8) (r0 := (RX9, TX9, 25)) dX9_ways_122 wm_X9_180 cv_X9_lowUnder wi_X9_lowUnder wl_X9_lowUnder (by omega) (Nat.le_refl _) (Nat.le_refl _) rfl rfl hO (Nat.le_of_ble_eq_true rfl) (y_X9_lowUnder (d + 0) hn h2 hO hC hb ha hab) rfl ?_
          refine xk_i2l dX9_ways_125 ?_
          rw [nI_l (by omega)]
          refine xk_lmul dX9_ways_126 ?_
          rw [lN_mul]
          refine xk_lcmp dX9_ways_127 ?_
          refine xk_if_le 136 dX9_ways_128 (by decide) (fun c128 => ?_) (fun c128 => ?_)
          · have c129 : ¬ p.2 * (mdL n T b (lastN (b :: q))).2 < p.1 * (mdL n T b (lastN (b :: q))).1 := by
              have := (lc_le (by omega) (by omega)).mp c128
              omega
            first | exact j136 hs s W hR hw hB c19 (by unfold wyC; rw [if_neg (fun z => c79 z.1)]) | exact j136 hs s W hR hw hB c19 (by unfold wyC; rw [if_neg (fun z => c94 z.2.1)]) | exact j136 hs s W hR hw hB c19 (by unfold wyC; rw [if_neg (fun z => c129 z.2.2)]) | exact j136 _ _ W (hR.o c e1 e2 e3 (s.1, s.2.1, s.2.2.1, false)) hw hB c19 (by unfold wyC; rw [if_pos ⟨c79, c94, c129⟩])
          · have c129 : p.2 * (mdL n T b (lastN (b :: q))).2 < p.1 * (mdL n T b (lastN (b :: q))).1 := by
              rcases Nat.lt_or_ge (p.2 * (mdL n T b (lastN (b :: q))).2) (p.1 * (mdL n T b (lastN (b :: q))).1) with z | z
              · exact z
              · exact absurd ((lc_le (by omega) (by omega)).mpr z) c128
            refine xk_aload_n dX9_ways_131 rfl ?_
            refine xk_iconst (0) dX9_ways_132 (by decide) ?_
            refine xk_put (ci := 8) (r := (RX9, TX9, 25)) 24 tyX9 dX9_ways_133 rfl inX9 tyX9_ok nmX9 (by decide) wf_X9_183 rfl (fun _ => rfl) (fun _ => rfl) hO (Nat.le_of_ble_eq_true rfl) ?_
            dsimp only [List.set]
            first | exact j136 hs s W hR hw hB c19 (by unfold wyC; rw [if_neg (fun z => c79 z.1)]) | exact j136 hs s W hR hw hB c19 (by unfold wyC; rw [if_neg (fun z => c94 z.2.1)]) | exact j136 hs s W hR hw hB c19 (by unfold wyC; rw [if_neg (fun z => c129 z.2.2)]) | exact j136 _ _ W (hR.o c e1 e2 e3 (s.1, s.2.1, s.2.2.1, false)) hw hB c19 (by unfold wyC; rw [if_pos ⟨c79, c94, c129⟩])
    · have c14 : nI b = to := c13
      refine xk_iload_n dX9_ways_16 rfl ?_
      refine xk_iconst (1) dX9_ways_17 (by decide) ?_
      refine xk_icmp_le 76 dX9_ways_18 (by decide) (fun c18 => ?_) (fun c18 => ?_)
      · have c19 : ¬ (nI b = to ∧ 2 ≤ q.length + 1) := fun z => absurd c18 (nI_ge (a := 1) (by omega) (by omega))
        refine xk_iload_n dX9_ways_76 rfl ?_
        refine xk_iconst (1) dX9_ways_77 (by decide) ?_
        refine xk_icmp_le 136 dX9_ways_78 (by decide) (fun c78 => ?_) (fun c78 => ?_)
        · have c79 : ¬ 2 ≤ q.length + 1 := fun z => absurd c78 (nI_ge (a := 1) (by omega) (by omega))
          first | exact j136 hs s W hR hw hB c19 (by unfold wyC; rw [if_neg (fun z => c79 z.1)]) | exact j136 hs s W hR hw hB c19 (by unfold wyC; rw [if_neg (fun z => c94 z.2.1)]) | exact j136 hs s W hR hw hB c19 (by unfold wyC; rw [if_neg (fun z => c129 z.2.2)]) | exact j136 _ _ W (hR.o c e1 e2 e3 (s.1, s.2.1, s.2.2.1, false)) hw hB c19 (by unfold wyC; rw [if_pos ⟨c79, c94, c129⟩])
        · have c79 : 2 ≤ q.length + 1 := by
            rcases Nat.lt_or_ge 1 (q.length + 1) with z | z
            · exact z
            · exact absurd (nI_le (b := 1) z (by decide)) c78
          have hab := nod_last hd (by omega)
          refine xk_aload_n dX9_ways_81 rfl ?_
          refine xk_iload dX9_ways_82 rfl ?_
          refine xk_aload_n dX9_ways_84 rfl ?_
          refine xk_get (ci := 8) (r := (RX9, TX9, 25)) 20 dX9_ways_85 rfl inX9 (by decide) wf_X9_54 hO rfl ?_
          refine xk_iconst (0) dX9_ways_88 (by decide) ?_
          refine xk_iald dX9_ways_89 hw5 (vp_in_nI (n := 0) (by decide) (by decide)) ?_
          rw [q8, e0]
          refine xk_v2 (M' := mX9_isSpan)  (ci := 8) (r0 := (RX9, TX9, 25)) dX9_ways_90 wm_X9_174 cv_X9_isSpan wi_X9_isSpan wl_X9_isSpan (by omega) (Nat.le_refl _) (Nat.le_refl _) rfl rfl hO (Nat.le_of_ble_eq_true rfl) (y_X9_isSpan (d + 0) hn h2 hO hC hb ha hab (by have := hK (pidx n b (lastN (b :: q))); omega)) rfl ?_
          refine xk_ifb_eq 136 dX9_ways_93 (by decide) (fun c93 => ?_) (fun c93 => ?_)
          · have c94 : ¬ 0 < T.2.2.1 (pidx n b (lastN (b :: q))) := of_decide_eq_false c93
            first | exact j136 hs s W hR hw hB c19 (by unfold wyC; rw [if_neg (fun z => c79 z.1)]) | exact j136 hs s W hR hw hB c19 (by unfold wyC; rw [if_neg (fun z => c94 z.2.1)]) | exact j136 hs s W hR hw hB c19 (by unfold wyC; rw [if_neg (fun z => c129 z.2.2)]) | exact j136 _ _ W (hR.o c e1 e2 e3 (s.1, s.2.1, s.2.2.1, false)) hw hB c19 (by unfold wyC; rw [if_pos ⟨c79, c94, c129⟩])
          · have c94 : 0 < T.2.2.1 (pidx n b (lastN (b :: q))) := of_decide_eq_true c93
            have hdg := mdL_b (n := n) hK c94
            have hpm := pB_mul hp hdg.1.2 hdg.2.2
            have hpm1 : p.1 * (mdL n T b (lastN (b :: q))).1 ≤ 531441 := Nat.le_trans hpm.1 h96
            have hpm2 : p.2 * (mdL n T b (lastN (b :: q))).2 ≤ 531441 := Nat.le_trans hpm.2 h96
            refine xk_lload_n dX9_ways_96 rfl ?_
            refine xk_aload_n dX9_ways_97 rfl ?_
            refine xk_iload dX9_ways_98 rfl ?_
            refine xk_aload_n dX9_ways_100 rfl ?_
            refine xk_get (ci := 8) (r := (RX9, TX9, 25)) 20 dX9_ways_101 rfl inX9 (by decide) wf_X9_54 hO rfl ?_
            refine xk_iconst (0) dX9_ways_104 (by decide) ?_
            refine xk_iald dX9_ways_105 hw5 (vp_in_nI (n := 0) (by decide) (by decide)) ?_
            try rw [q8]
            try rw [e0]
            refine xk_v2 (M' := mX9_lowOver)  (ci := 8) (r0 := (RX9, TX9, 25)) dX9_ways_106 wm_X9_177 cv_X9_lowOver wi_X9_lowOver wl_X9_lowOver (by omega) (Nat.le_refl _) (Nat.le_refl _) rfl rfl hO (Nat.le_of_ble_eq_true rfl) (y_X9_lowOver (d + 0) hn h2 hO hC hb ha hab) rfl ?_
            refine xk_i2l dX9_ways_109 ?_
            rw [nI_l (by omega)]
            refine xk_lmul dX9_ways_110 ?_
            rw [lN_mul]
            refine xk_lload dX9_ways_111 rfl ?_
            refine xk_aload_n dX9_ways_113 rfl ?_
            refine xk_iload dX9_ways_114 rfl ?_
            refine xk_aload_n dX9_ways_116 rfl ?_
            refine xk_get (ci := 8) (r := (RX9, TX9, 25)) 20 dX9_ways_117 rfl inX9 (by decide) wf_X9_54 hO rfl ?_
            refine xk_iconst (0) dX9_ways_120 (by decide) ?_
            refine xk_iald dX9_ways_121 hw5 (vp_in_nI (n := 0) (by decide) (by decide)) ?_
            try rw [q8]
            try rw [e0]
            refine xk_v2 (M' := mX9_lowUnder)  (ci := 8) (r0 := (RX9, TX9, 25)) dX9_ways_122 wm_X9_180 cv_X9_lowUnder wi_X9_lowUnder wl_X9_lowUnder (by omega) (Nat.le_refl _) (Nat.le_refl _) rfl rfl hO (Nat.le_of_ble_eq_true rfl) (y_X9_lowUnder (d + 0) hn h2 hO hC hb ha hab) rfl ?_
            refine xk_i2l dX9_ways_125 ?_
            rw [nI_l (by omega)]
            refine xk_lmul dX9_ways_126 ?_
            rw [lN_mul]
            refine xk_lcmp dX9_ways_127 ?_
            refine xk_if_le 136 dX9_ways_128 (by decide) (fun c128 => ?_) (fun c128 => ?_)
            · have c129 : ¬ p.2 * (mdL n T b (lastN (b :: q))).2 < p.1 * (mdL n T b (lastN (b :: q))).1 := by
                have := (lc_le (by omega) (by omega)).mp c128
                omega
              first | exact j136 hs s W hR hw hB c19 (by unfold wyC; rw [if_neg (fun z => c79 z.1)]) | exact j136 hs s W hR hw hB c19 (by unfold wyC; rw [if_neg (fun z => c94 z.2.1)]) | exact j136 hs s W hR hw hB c19 (by unfold wyC; rw [if_neg (fun z => c129 z.2.2)]) | exact j136 _ _ W (hR.o c e1 e2 e3 (s.1, s.2.1, s.2.2.1, false)) hw hB c19 (by unfold wyC; rw [if_pos ⟨c79, c94, c129⟩])
            · have c129 : p.2 * (mdL n T b (lastN (b :: q))).2 < p.1 * (mdL n T b (lastN (b :: q))).1 := by
                rcases Nat.lt_or_ge (p.2 * (mdL n T b (lastN (b :: q))).2) (p.1 * (mdL n T b (lastN (b :: q))).1) with z | z
                · exact z
                · exact absurd ((lc_le (by omega) (by omega)).mpr z) c128
              refine xk_aload_n dX9_ways_131 rfl ?_
              refine xk_iconst (0) dX9_ways_132 (by decide) ?_
              refine xk_put (ci := 8) (r := (RX9, TX9, 25)) 24 tyX9 dX9_ways_133 rfl inX9 tyX9_ok nmX9 (by decide) wf_X9_183 rfl (fun _ => rfl) (fun _ => rfl) hO (Nat.le_of_ble_eq_true rfl) ?_
              dsimp only [List.set]
              first | exact j136 hs s W hR hw hB c19 (by unfold wyC; rw [if_neg (fun z => c79 z.1)]) | exact j136 hs s W hR hw hB c19 (by unfold wyC; rw [if_neg (fun z => c94 z.2.1)]) | exact j136 hs s W hR hw hB c19 (by unfold wyC; rw [if_neg (fun z => c129 z.2.2)]) | exact j136 _ _ W (hR.o c e1 e2 e3 (s.1, s.2.1, s.2.2.1, false)) hw hB c19 (by unfold wyC; rw [if_pos ⟨c79, c94, c129⟩])
      · have c20 : 2 ≤ q.length + 1 := by
          rcases Nat.lt_or_ge 1 (q.length + 1) with z | z
          · exact z
          · exact absurd (nI_le (b := 1) z (by decide)) c18
        refine xk_aload_n dX9_ways_21 rfl ?_
        refine xk_get (ci := 8) (r := (RX9, TX9, 25)) 23 dX9_ways_22 rfl inX9 (by decide) wf_X9_164 hO rfl ?_
        refine xk_ifb_eq 45 dX9_ways_25 (by decide) (fun c25 => ?_) (fun c25 => ?_)
        · have hcc : ¬ (s.1 = true ∧ p.1 * s.2.2.1 ≤ s.2.1 * p.2) := fun z => by rw [z.1] at c25; exact absurd c25 (by decide)
          refine xk_lload_n dX9_ways_45 rfl ?_
          refine xk_lload dX9_ways_46 rfl ?_
          refine xk_s2c (M' := mX9_divisor)  dX9_ways_48 wm_X9_81 cv_X9_divisor wt_X9_divisor (by omega) (Nat.le_refl _) (Nat.le_refl _) (Nat.le_of_ble_eq_true rfl) (y_X9_divisor (d + 0) (by omega) (by omega)) rfl ?_
          refine xk_lstore dX9_ways_51 (by decide) ?_
          dsimp only [xk_s1, xk_s2, xk_kill]
          refine xk_aload_n dX9_ways_53 rfl ?_
          refine xk_lload_n dX9_ways_54 rfl ?_
          refine xk_lload dX9_ways_55 rfl ?_
          refine xk_ldiv dX9_ways_57 (fun z => absurd ((pk_lEQ (b := 0) (by omega) (by decide)).mp z) (by omega)) ?_
          rw [pk_lDiv (by omega) hg1 (by omega)]
          refine xk_put (ci := 8) (r := (RX9, TX9, 25)) 21 tyX9 dX9_ways_58 rfl inX9 tyX9_ok nmX9 (by decide) wf_X9_171 rfl (fun _ => rfl) (fun _ => rfl) hO (Nat.le_of_ble_eq_true rfl) ?_
          dsimp only [List.set]
          refine xk_aload_n dX9_ways_61 rfl ?_
          refine xk_lload dX9_ways_62 rfl ?_
          refine xk_lload dX9_ways_64 rfl ?_
          refine xk_ldiv dX9_ways_66 (fun z => absurd ((pk_lEQ (b := 0) (by omega) (by decide)).mp z) (by omega)) ?_
          rw [pk_lDiv (by omega) hg1 (by omega)]
          refine xk_put (ci := 8) (r := (RX9, TX9, 25)) 22 tyX9 dX9_ways_67 rfl inX9 tyX9_ok nmX9 (by decide) wf_X9_168 rfl (fun _ => rfl) (fun _ => rfl) (xs_at hO) (Nat.le_of_ble_eq_true rfl) ?_
          dsimp only [List.set]
          refine xk_aload_n dX9_ways_70 rfl ?_
          refine xk_iconst (1) dX9_ways_71 (by decide) ?_
          refine xk_put (ci := 8) (r := (RX9, TX9, 25)) 23 tyX9 dX9_ways_72 rfl inX9 tyX9_ok nmX9 (by decide) wf_X9_164 rfl (fun _ => rfl) (fun _ => rfl) (by first | exact hO | exact xs_at (xs_at hO)) (Nat.le_of_ble_eq_true rfl) ?_
          dsimp only [List.set]
          exact xk_vret rfl dX9_ways_75 (Nat.le_refl _) (Nat.le_refl _) ⟨rfl, W, by rw [wyF, if_pos ⟨c14, c20⟩]; first | (unfold wyB; rw [if_pos ⟨c25, c43⟩]; exact hR.o c e1 e2 e3 (true, s.2.1, s.2.2.1, s.2.2.2)) | (rw [List.set_set, List.set_set]; unfold wyB; rw [if_neg hcc]; exact hR.o c e1 e2 e3 (true, p.1 / Nat.gcd p.1 p.2, p.2 / Nat.gcd p.1 p.2, s.2.2.2)), hw⟩
        · refine xk_lload_n dX9_ways_28 rfl ?_
          refine xk_aload_n dX9_ways_29 rfl ?_
          refine xk_get (ci := 8) (r := (RX9, TX9, 25)) 22 dX9_ways_30 rfl inX9 (by decide) wf_X9_168 hO rfl ?_
          refine xk_lmul dX9_ways_33 ?_
          rw [lN_mul]
          refine xk_aload_n dX9_ways_34 rfl ?_
          refine xk_get (ci := 8) (r := (RX9, TX9, 25)) 21 dX9_ways_35 rfl inX9 (by decide) wf_X9_171 hO rfl ?_
          refine xk_lload dX9_ways_38 rfl ?_
          refine xk_lmul dX9_ways_40 ?_
          rw [lN_mul]
          refine xk_lcmp dX9_ways_41 ?_
          refine xk_if_le 70 dX9_ways_42 (by decide) (fun c42 => ?_) (fun c42 => ?_)
          · have c43 : p.1 * s.2.2.1 ≤ s.2.1 * p.2 := (lc_le (by omega) (by omega)).mp c42
            refine xk_aload_n dX9_ways_70 rfl ?_
            refine xk_iconst (1) dX9_ways_71 (by decide) ?_
            refine xk_put (ci := 8) (r := (RX9, TX9, 25)) 23 tyX9 dX9_ways_72 rfl inX9 tyX9_ok nmX9 (by decide) wf_X9_164 rfl (fun _ => rfl) (fun _ => rfl) (by first | exact hO | exact xs_at (xs_at hO)) (Nat.le_of_ble_eq_true rfl) ?_
            dsimp only [List.set]
            exact xk_vret rfl dX9_ways_75 (Nat.le_refl _) (Nat.le_refl _) ⟨rfl, W, by rw [wyF, if_pos ⟨c14, c20⟩]; first | (unfold wyB; rw [if_pos ⟨c25, c43⟩]; exact hR.o c e1 e2 e3 (true, s.2.1, s.2.2.1, s.2.2.2)) | (rw [List.set_set, List.set_set]; unfold wyB; rw [if_neg hcc]; exact hR.o c e1 e2 e3 (true, p.1 / Nat.gcd p.1 p.2, p.2 / Nat.gcd p.1 p.2, s.2.2.2)), hw⟩
          · have hcc : ¬ (s.1 = true ∧ p.1 * s.2.2.1 ≤ s.2.1 * p.2) := fun z => c42 ((lc_le (by omega) (by omega)).mpr z.2)
            refine xk_lload_n dX9_ways_45 rfl ?_
            refine xk_lload dX9_ways_46 rfl ?_
            refine xk_s2c (M' := mX9_divisor)  dX9_ways_48 wm_X9_81 cv_X9_divisor wt_X9_divisor (by omega) (Nat.le_refl _) (Nat.le_refl _) (Nat.le_of_ble_eq_true rfl) (y_X9_divisor (d + 0) (by omega) (by omega)) rfl ?_
            refine xk_lstore dX9_ways_51 (by decide) ?_
            dsimp only [xk_s1, xk_s2, xk_kill]
            refine xk_aload_n dX9_ways_53 rfl ?_
            refine xk_lload_n dX9_ways_54 rfl ?_
            refine xk_lload dX9_ways_55 rfl ?_
            refine xk_ldiv dX9_ways_57 (fun z => absurd ((pk_lEQ (b := 0) (by omega) (by decide)).mp z) (by omega)) ?_
            rw [pk_lDiv (by omega) hg1 (by omega)]
            refine xk_put (ci := 8) (r := (RX9, TX9, 25)) 21 tyX9 dX9_ways_58 rfl inX9 tyX9_ok nmX9 (by decide) wf_X9_171 rfl (fun _ => rfl) (fun _ => rfl) hO (Nat.le_of_ble_eq_true rfl) ?_
            dsimp only [List.set]
            refine xk_aload_n dX9_ways_61 rfl ?_
            refine xk_lload dX9_ways_62 rfl ?_
            refine xk_lload dX9_ways_64 rfl ?_
            refine xk_ldiv dX9_ways_66 (fun z => absurd ((pk_lEQ (b := 0) (by omega) (by decide)).mp z) (by omega)) ?_
            rw [pk_lDiv (by omega) hg1 (by omega)]
            refine xk_put (ci := 8) (r := (RX9, TX9, 25)) 22 tyX9 dX9_ways_67 rfl inX9 tyX9_ok nmX9 (by decide) wf_X9_168 rfl (fun _ => rfl) (fun _ => rfl) (xs_at hO) (Nat.le_of_ble_eq_true rfl) ?_
            dsimp only [List.set]
            refine xk_aload_n dX9_ways_70 rfl ?_
            refine xk_iconst (1) dX9_ways_71 (by decide) ?_
            refine xk_put (ci := 8) (r := (RX9, TX9, 25)) 23 tyX9 dX9_ways_72 rfl inX9 tyX9_ok nmX9 (by decide) wf_X9_164 rfl (fun _ => rfl) (fun _ => rfl) (by first | exact hO | exact xs_at (xs_at hO)) (Nat.le_of_ble_eq_true rfl) ?_
            dsimp only [List.set]
            exact xk_vret rfl dX9_ways_75 (Nat.le_refl _) (Nat.le_refl _) ⟨rfl, W, by rw [wyF, if_pos ⟨c14, c20⟩]; first | (unfold wyB; rw [if_pos ⟨c25, c43⟩]; exact hR.o c e1 e2 e3 (true, s.2.1, s.2.2.1, s.2.2.2)) | (rw [List.set_set, List.set_set]; unfold wyB; rw [if_neg hcc]; exact hR.o c e1 e2 e3 (true, p.1 / Nat.gcd p.1 p.2, p.2 / Nat.gcd p.1 p.2, s.2.2.2)), hw⟩
  | succ f ih =>
    intro b q p s W hs hC hR hw hx hd hz hp hp1 hp2 hB
    have hb : b < n := hx b List.mem_cons_self
    have ha : lastN (b :: q) < n := hx _ (lastN_mem b q)
    have hp6 := pB_6 (show (q.length + 1) ≤ 6 by omega) hp
    have h96 := p9 (show (q.length + 1) ≤ 6 by omega)
    have e0 : W 0 = nI (lastN (b :: q)) := wayR_0 b q hw
    have el : W q.length = nI b := hw.1
    have q9 : (nI q.length).toNatClampNeg = q.length := nI_clamp (by omega)
    have q8 : (0 : Int32).toNatClampNeg = 0 := rfl
    have hm1 : p.1 * s.2.2.1 ≤ 531441 * 531441 := Nat.mul_le_mul hp6.1 hB.2
    have hm2 : s.2.1 * p.2 ≤ 531441 * 531441 := Nat.mul_le_mul hB.1 hp6.2
    have hg1 : 0 < Nat.gcd p.1 p.2 := Nat.gcd_pos_of_pos_left _ hp1
    have hg2 : Nat.gcd p.1 p.2 ≤ p.1 := Nat.gcd_le_left _ hp1
    have l176z : ∀ (i : Nat) (h : xk_H) (s1 : wS) (W1 : Nat → Int32) (k : Nat), k < 100 → wyA hs h m n s1 W1 → (∀ o9, xk_X (d + 3 + (f + 1)) 0 0 mX9_ways (xk_fx false hs) (fun r' h => r' = none ∧ ∃ W', wyA hs h m n (wyF n T to (f + 1) b q p s) W' ∧ wayR W' (b :: q)) 0 0 212 [some (.ref m), some (.int (nI (q.length + 1))), some (.int to), some (.long (lN p.1)), none, some (.long (lN p.2)), none, some (.int (nI b)), some (.int (nI i)), some (.int (xk_b false)), o9] [] h) → xk_X (d + 3 + (f + 1)) 0 0 mX9_ways (xk_fx false hs) (fun r' h => r' = none ∧ ∃ W', wyA hs h m n (wyF n T to (f + 1) b q p s) W' ∧ wayR W' (b :: q)) 0 0 176 [some (.ref m), some (.int (nI (q.length + 1))), some (.int to), some (.long (lN p.1)), none, some (.long (lN p.2)), none, some (.int (nI b)), some (.int (nI i)), some (.int (xk_b false)), some (.int (nI k))] [] h := by
      intro i h s1 W1 k hk hR1 K0
      obtain ⟨⟨c, e1, e2, e3, hO⟩, hw5, -⟩ := id hR1
      refine xk_iload dX9_ways_176 rfl ?_
      refine xk_iload_n dX9_ways_178 rfl ?_
      refine xk_icmp_ge 212 dX9_ways_179 (by decide) (fun c179 => ?_) (fun c179 => ?_)
      · exact K0 _
      · refine xk_iload dX9_ways_182 rfl ?_
        refine xk_ifb_eq 212 dX9_ways_184 (by decide) (fun c184 => ?_) (fun c184 => ?_)
        · exact K0 _
        · exact absurd c184 (by decide)
    have l176 : ∀ (i : Nat) (h : xk_H) (s1 : wS) (W1 : Nat → Int32), i < n → wyA hs h m n s1 W1 → wayR W1 (b :: q) → (∀ o9, ¬ i ∈ b :: q → xk_X (d + 3 + (f + 1)) 0 0 mX9_ways (xk_fx false hs) (fun r' h => r' = none ∧ ∃ W', wyA hs h m n (wyF n T to (f + 1) b q p s) W' ∧ wayR W' (b :: q)) 0 0 212 [some (.ref m), some (.int (nI (q.length + 1))), some (.int to), some (.long (lN p.1)), none, some (.long (lN p.2)), none, some (.int (nI b)), some (.int (nI i)), some (.int (xk_b true)), o9] [] h) → (∀ o9, i ∈ b :: q → xk_X (d + 3 + (f + 1)) 0 0 mX9_ways (xk_fx false hs) (fun r' h => r' = none ∧ ∃ W', wyA hs h m n (wyF n T to (f + 1) b q p s) W' ∧ wayR W' (b :: q)) 0 0 212 [some (.ref m), some (.int (nI (q.length + 1))), some (.int to), some (.long (lN p.1)), none, some (.long (lN p.2)), none, some (.int (nI b)), some (.int (nI i)), some (.int (xk_b false)), o9] [] h) → ∀ (r k : Nat), k + r = q.length + 1 → (∀ j, j < k → W1 j ≠ nI i) → xk_X (d + 3 + (f + 1)) 0 0 mX9_ways (xk_fx false hs) (fun r' h => r' = none ∧ ∃ W', wyA hs h m n (wyF n T to (f + 1) b q p s) W' ∧ wayR W' (b :: q)) 0 0 176 [some (.ref m), some (.int (nI (q.length + 1))), some (.int to), some (.long (lN p.1)), none, some (.long (lN p.2)), none, some (.int (nI b)), some (.int (nI i)), some (.int (xk_b true)), some (.int (nI k))] [] h := by
      intro i h s1 W1 hi hR1 hw1 K1 K0 r
      obtain ⟨⟨c, e1, e2, e3, hO⟩, hw5, -⟩ := id hR1
      have K0b : ∀ k, k < 100 → i ∈ b :: q → xk_X (d + 3 + (f + 1)) 0 0 mX9_ways (xk_fx false hs) (fun r' h => r' = none ∧ ∃ W', wyA hs h m n (wyF n T to (f + 1) b q p s) W' ∧ wayR W' (b :: q)) 0 0 176 [some (.ref m), some (.int (nI (q.length + 1))), some (.int to), some (.long (lN p.1)), none, some (.long (lN p.2)), none, some (.int (nI b)), some (.int (nI i)), some (.int (xk_b false)), some (.int (nI k))] [] h := fun k hk hin => l176z i h s1 W1 k hk hR1 (fun o9 => K0 o9 hin)
      induction r with
      | zero =>
        intro k hk hj
        have hni : ¬ i ∈ b :: q := fun z => by
          obtain ⟨j, h1, h3⟩ := wayR_mem _ hw1 i z
          rw [List.length_cons] at h1
          exact hj j (by omega) h3
        refine xk_iload dX9_ways_176 rfl ?_
        refine xk_iload_n dX9_ways_178 rfl ?_
        refine xk_icmp_ge 212 dX9_ways_179 (by decide) (fun c179 => ?_) (fun c179 => ?_)
        · exact K1 _ hni
        · exact absurd (nI_le (by omega) (by omega)) c179
      | succ r ihr =>
        intro k hk hj
        have q7 : (nI k).toNatClampNeg = k := nI_clamp (by omega)
        refine xk_iload dX9_ways_176 rfl ?_
        refine xk_iload_n dX9_ways_178 rfl ?_
        refine xk_icmp_ge 212 dX9_ways_179 (by decide) (fun c179 => ?_) (fun c179 => ?_)
        · exact absurd c179 (nI_ge (by omega) (by omega))
        · refine xk_iload dX9_ways_182 rfl ?_
          refine xk_ifb_eq 212 dX9_ways_184 (by decide) (fun c184 => ?_) (fun c184 => ?_)
          · exact absurd c184 (by decide)
          · refine xk_aload_n dX9_ways_187 rfl ?_
            refine xk_get (ci := 8) (r := (RX9, TX9, 25)) 20 dX9_ways_188 rfl inX9 (by decide) wf_X9_54 hO rfl ?_
            refine xk_iload dX9_ways_191 rfl ?_
            refine xk_iald dX9_ways_193 hw5 (vp_in_nI (by omega) (by decide)) ?_
            rw [q7]
            refine xk_iload dX9_ways_194 rfl ?_
            refine xk_icmp_eq 203 dX9_ways_196 (by decide) (fun c196 => ?_) (fun c196 => ?_)
            · have hin : i ∈ b :: q := by
                obtain ⟨x, h1, h3⟩ := wayR_at _ hw1 k (by rw [List.length_cons]; omega)
                rw [c196] at h3
                rw [(nI_eq (by omega) (by have := hx x h1; omega)).mp h3]
                exact h1
              refine xk_iconst (0) dX9_ways_203 (by decide) ?_
              refine xk_istore dX9_ways_204 (by decide) ?_
              dsimp only [xk_s1, xk_s2, xk_kill]
              refine xk_iinc (nI (k + 1)) dX9_ways_206 rfl (nI_1 k) (by decide) ?_
              dsimp only [xk_s1, xk_s2, xk_kill]
              refine xk_goto 176 dX9_ways_209 (by decide) ?_
              first | exact ihr (k + 1) (by omega) (fun j h1 => by rcases Nat.lt_or_ge j k with z | z; (exact hj j z); (obtain rfl : j = k := by omega); exact c196) | exact K0b (k + 1) (by omega) hin
            · refine xk_iconst (1) dX9_ways_199 (by decide) ?_
              refine xk_goto 204 dX9_ways_200 (by decide) ?_
              refine xk_istore dX9_ways_204 (by decide) ?_
              dsimp only [xk_s1, xk_s2, xk_kill]
              refine xk_iinc (nI (k + 1)) dX9_ways_206 rfl (nI_1 k) (by decide) ?_
              dsimp only [xk_s1, xk_s2, xk_kill]
              refine xk_goto 176 dX9_ways_209 (by decide) ?_
              first | exact ihr (k + 1) (by omega) (fun j h1 => by rcases Nat.lt_or_ge j k with z | z; (exact hj j z); (obtain rfl : j = k := by omega); exact c196) | exact K0b (k + 1) (by omega) hin
    have l139 : ∀ (r i : Nat) (s1 : wS) (W1 : Nat → Int32) (h : xk_H) (o8 o9 : Option Value), i + r = n → wyA hs h m n s1 W1 → wayR W1 (b :: q) → wB s1 → itr (fun i s => if ¬ i ∈ b :: q ∧ 0 < T.2.2.1 (pidx n b i) then wyF n T to f i (b :: q) (mul2 p (mdL n T b i)) s else s) r i s1 = wyF n T to (f + 1) b q p s → xk_X (d + 3 + (f + 1)) 0 0 mX9_ways (xk_fx false hs) (fun r' h => r' = none ∧ ∃ W', wyA hs h m n (wyF n T to (f + 1) b q p s) W' ∧ wayR W' (b :: q)) 0 0 139 [some (.ref m), some (.int (nI (q.length + 1))), some (.int to), some (.long (lN p.1)), none, some (.long (lN p.2)), none, some (.int (nI b)), some (.int (nI i)), o8, o9] [] h := by
      intro r
      induction r with
      | zero =>
        intro i s1 W1 h o8 o9 h1 hR1 hw1 hB1 hE
        obtain ⟨⟨c, e1, e2, e3, hO⟩, hw5, -⟩ := id hR1
        refine xk_iload dX9_ways_139 rfl ?_
        refine xk_aload_n dX9_ways_141 rfl ?_
        refine xk_get (ci := 8) (r := (RX9, TX9, 25)) 0 dX9_ways_142 rfl inX9 (by decide) wf_X9_66 hO rfl ?_
        refine xk_icmp_ge 265 dX9_ways_145 (by decide) (fun c145 => ?_) (fun c145 => ?_)
        · exact xk_vret rfl dX9_ways_265 (Nat.le_refl _) (Nat.le_refl _) ⟨rfl, W1, by rw [← hE]; exact hR1, hw1⟩
        · exact absurd (nI_le (by omega) (by omega)) c145
      | succ r ihr =>
        intro i s1 W1 h o8 o9 h1 hR1 hw1 hB1 hE
        obtain ⟨⟨c, e1, e2, e3, hO⟩, hw5, -⟩ := id hR1
        have hi : i < n := by omega
        have hC1 := hR1.C hC
        have k1 : ∀ o9, 0 < T.2.2.1 (pidx n b i) → ¬ i ∈ b :: q → xk_X (d + 3 + (f + 1)) 0 0 mX9_ways (xk_fx false hs) (fun r' h => r' = none ∧ ∃ W', wyA hs h m n (wyF n T to (f + 1) b q p s) W' ∧ wayR W' (b :: q)) 0 0 212 [some (.ref m), some (.int (nI (q.length + 1))), some (.int to), some (.long (lN p.1)), none, some (.long (lN p.2)), none, some (.int (nI b)), some (.int (nI i)), some (.int (xk_b true)), o9] [] h := by
          intro o9 hsd hni
          have hbi : b ≠ i := fun z => hni (by rw [z]; exact List.mem_cons_self)
          have hdg := mdL_b (n := n) hK hsd
          have hpm := pB_mul hp hdg.1.2 hdg.2.2
          have hpm1 : p.1 * (mdL n T b i).1 ≤ 531441 := Nat.le_trans hpm.1 h96
          have hpm2 : p.2 * (mdL n T b i).2 ≤ 531441 := Nat.le_trans hpm.2 h96
          have q7 : (nI (q.length + 1)).toNatClampNeg = (q.length + 1) := nI_clamp (by omega)
          have hR2 := hR1.w (upd W1 (q.length + 1) (nI i))
          have hw2 : wayR (upd W1 (q.length + 1) (nI i)) (i :: b :: q) := ⟨by simp [upd], wayR_upd _ hw1 (by rw [List.length_cons]; omega)⟩
          have hO2 : (h.set (m + 15) (wrow (upd W1 (q.length + 1) (nI i))))[m]? = some (mdO n m (c, e1, e2, e3, lN s1.2.1, lN s1.2.2.1, xk_b s1.1, xk_b s1.2.2.2)) := (xs_ne (by omega)).trans hO
          have hC2 := hR2.C hC
          refine xk_iload dX9_ways_212 rfl ?_
          refine xk_ifb_ne 220 dX9_ways_214 (by decide) (fun c214 => ?_) (fun c214 => ?_)
          · refine xk_aload_n dX9_ways_220 rfl ?_
            refine xk_get (ci := 8) (r := (RX9, TX9, 25)) 20 dX9_ways_221 rfl inX9 (by decide) wf_X9_54 hO rfl ?_
            refine xk_iload_n dX9_ways_224 rfl ?_
            refine xk_iload dX9_ways_225 rfl ?_
            refine xk_iast dX9_ways_227 hw5 (vp_in_nI (by omega) (by decide)) ?_
            rw [q7]
            change xk_X _ _ _ _ _ _ _ _ _ _ _ (h.set (m + 15) (wrow (upd W1 (q.length + 1) (nI i))))
            refine xk_aload_n dX9_ways_228 rfl ?_
            refine xk_iload_n dX9_ways_229 rfl ?_
            refine xk_iconst (1) dX9_ways_230 (by decide) ?_
            refine xk_iadd dX9_ways_231 ?_
            rw [nI_1]
            refine xk_iload_n dX9_ways_232 rfl ?_
            refine xk_lload_n dX9_ways_233 rfl ?_
            refine xk_aload_n dX9_ways_234 rfl ?_
            refine xk_iload dX9_ways_235 rfl ?_
            refine xk_iload dX9_ways_237 rfl ?_
            refine xk_v2 (M' := mX9_lowOver)  (ci := 8) (r0 := (RX9, TX9, 25)) dX9_ways_239 wm_X9_177 cv_X9_lowOver wi_X9_lowOver wl_X9_lowOver (by omega) (Nat.le_refl _) (Nat.le_refl _) rfl rfl hO2 (Nat.le_of_ble_eq_true rfl) (y_X9_lowOver (d + f + 1) hn h2 hO2 hC2 hb hi hbi) rfl ?_
            refine xk_i2l dX9_ways_242 ?_
            rw [nI_l (by omega)]
            refine xk_lmul dX9_ways_243 ?_
            rw [lN_mul]
            refine xk_lload dX9_ways_244 rfl ?_
            refine xk_aload_n dX9_ways_246 rfl ?_
            refine xk_iload dX9_ways_247 rfl ?_
            refine xk_iload dX9_ways_249 rfl ?_
            refine xk_v2 (M' := mX9_lowUnder)  (ci := 8) (r0 := (RX9, TX9, 25)) dX9_ways_251 wm_X9_180 cv_X9_lowUnder wi_X9_lowUnder wl_X9_lowUnder (by omega) (Nat.le_refl _) (Nat.le_refl _) rfl rfl hO2 (Nat.le_of_ble_eq_true rfl) (y_X9_lowUnder (d + f + 1) hn h2 hO2 hC2 hb hi hbi) rfl ?_
            refine xk_i2l dX9_ways_254 ?_
            rw [nI_l (by omega)]
            refine xk_lmul dX9_ways_255 ?_
            rw [lN_mul]
            refine xk_callV4 (M' := mX9_ways)  (ci := 8) (r0 := (RX9, TX9, 25)) dX9_ways_256 wm_X9_186 cv_X9_ways wi_X9_ways wl_X9_ways (by omega) (Nat.le_refl _) (Nat.le_refl _) rfl rfl hO2 (Nat.le_of_ble_eq_true rfl) (ih i (b :: q) (mul2 p (mdL n T b i)) s1 _ _ hC2 hR2.rf hw2 (fun x hx2 => (List.mem_cons.mp hx2).elim (fun z => by rw [z]; exact hi) (hx x)) (List.nodup_cons.mpr ⟨hni, hd⟩) (by rw [List.length_cons]; omega) (by rw [List.length_cons]; exact pB_s hp hdg.1.2 hdg.2.2) (Nat.mul_pos hp1 hdg.1.1) (Nat.mul_pos hp2 hdg.2.1) hB1) (fun _ _ z => z.2.choose_spec.1.2.2.1) (fun r256 z256 h256 => ?_)
            obtain ⟨rfl, W4, hR4, hw4⟩ := h256
            refine xk_iinc (nI (i + 1)) dX9_ways_259 rfl (nI_1 i) (by decide) ?_
            dsimp only [xk_s1, xk_s2, xk_kill]
            refine xk_goto 139 dX9_ways_262 (by decide) ?_
            exact ihr (i + 1) _ W4 z256 _ _ (by omega) (hR2.tr hR4) hw4.2 (wyF_b hn hK f i (b :: q) _ s1 (by rw [List.length_cons]; omega) (by rw [List.length_cons]; exact pB_s hp hdg.1.2 hdg.2.2) hB1) (by rw [← hE, itr, if_pos ⟨hni, hsd⟩])
          · exact absurd c214 (by decide)
        have k0 : ∀ o9, (i ∈ b :: q ∨ ¬ 0 < T.2.2.1 (pidx n b i)) → xk_X (d + 3 + (f + 1)) 0 0 mX9_ways (xk_fx false hs) (fun r' h => r' = none ∧ ∃ W', wyA hs h m n (wyF n T to (f + 1) b q p s) W' ∧ wayR W' (b :: q)) 0 0 212 [some (.ref m), some (.int (nI (q.length + 1))), some (.int to), some (.long (lN p.1)), none, some (.long (lN p.2)), none, some (.int (nI b)), some (.int (nI i)), some (.int (xk_b false)), o9] [] h := by
          intro o9 hno
          refine xk_iload dX9_ways_212 rfl ?_
          refine xk_ifb_ne 220 dX9_ways_214 (by decide) (fun c214 => ?_) (fun c214 => ?_)
          · exact absurd c214 (by decide)
          · refine xk_goto 259 dX9_ways_217 (by decide) ?_
            refine xk_iinc (nI (i + 1)) dX9_ways_259 rfl (nI_1 i) (by decide) ?_
            dsimp only [xk_s1, xk_s2, xk_kill]
            refine xk_goto 139 dX9_ways_262 (by decide) ?_
            exact ihr (i + 1) s1 W1 h _ _ (by omega) hR1 hw1 hB1 (by rw [← hE, itr, if_neg (fun z => hno.elim z.1 (fun y => y z.2))])
        refine xk_iload dX9_ways_139 rfl ?_
        refine xk_aload_n dX9_ways_141 rfl ?_
        refine xk_get (ci := 8) (r := (RX9, TX9, 25)) 0 dX9_ways_142 rfl inX9 (by decide) wf_X9_66 hO rfl ?_
        refine xk_icmp_ge 265 dX9_ways_145 (by decide) (fun c145 => ?_) (fun c145 => ?_)
        · exact absurd c145 (nI_ge (by omega) (by omega))
        · refine xk_iload dX9_ways_148 rfl ?_
          refine xk_iload dX9_ways_150 rfl ?_
          refine xk_icmp_eq 170 dX9_ways_152 (by decide) (fun c152 => ?_) (fun c152 => ?_)
          · have hno : i ∈ b :: q ∨ ¬ 0 < T.2.2.1 (pidx n b i) := Or.inl (by rw [(nI_eq (by omega) (by omega)).mp c152]; exact List.mem_cons_self)
            refine xk_iconst (0) dX9_ways_170 (by decide) ?_
            refine xk_istore dX9_ways_171 (by decide) ?_
            dsimp only [xk_s1, xk_s2, xk_kill]
            refine xk_iconst (0) dX9_ways_173 (by decide) ?_
            refine xk_istore dX9_ways_174 (by decide) ?_
            dsimp only [xk_s1, xk_s2, xk_kill]
            first | exact l176 i h s1 W1 hi hR1 hw1 (fun o9 => k1 o9 hsd) (fun o9 z => k0 o9 (Or.inl z)) (q.length + 1) 0 (by omega) (fun j hj => by omega) | exact l176z i h s1 W1 0 (by decide) hR1 (fun o9 => k0 o9 hno)
          · have hbi : b ≠ i := fun z => c152 (by rw [z])
            refine xk_aload_n dX9_ways_155 rfl ?_
            refine xk_iload dX9_ways_156 rfl ?_
            refine xk_iload dX9_ways_158 rfl ?_
            refine xk_v2 (M' := mX9_isSpan)  (ci := 8) (r0 := (RX9, TX9, 25)) dX9_ways_160 wm_X9_174 cv_X9_isSpan wi_X9_isSpan wl_X9_isSpan (by omega) (Nat.le_refl _) (Nat.le_refl _) rfl rfl hO (Nat.le_of_ble_eq_true rfl) (y_X9_isSpan (d + (f + 1)) hn h2 hO hC1 hb hi hbi (by have := hK (pidx n b i); omega)) rfl ?_
            refine xk_ifb_eq 170 dX9_ways_163 (by decide) (fun c163 => ?_) (fun c163 => ?_)
            · have hno : i ∈ b :: q ∨ ¬ 0 < T.2.2.1 (pidx n b i) := Or.inr (of_decide_eq_false c163)
              refine xk_iconst (0) dX9_ways_170 (by decide) ?_
              refine xk_istore dX9_ways_171 (by decide) ?_
              dsimp only [xk_s1, xk_s2, xk_kill]
              refine xk_iconst (0) dX9_ways_173 (by decide) ?_
              refine xk_istore dX9_ways_174 (by decide) ?_
              dsimp only [xk_s1, xk_s2, xk_kill]
              first | exact l176 i h s1 W1 hi hR1 hw1 (fun o9 => k1 o9 hsd) (fun o9 z => k0 o9 (Or.inl z)) (q.length + 1) 0 (by omega) (fun j hj => by omega) | exact l176z i h s1 W1 0 (by decide) hR1 (fun o9 => k0 o9 hno)
            · have hsd : 0 < T.2.2.1 (pidx n b i) := of_decide_eq_true c163
              refine xk_iconst (1) dX9_ways_166 (by decide) ?_
              refine xk_goto 171 dX9_ways_167 (by decide) ?_
              refine xk_istore dX9_ways_171 (by decide) ?_
              dsimp only [xk_s1, xk_s2, xk_kill]
              refine xk_iconst (0) dX9_ways_173 (by decide) ?_
              refine xk_istore dX9_ways_174 (by decide) ?_
              dsimp only [xk_s1, xk_s2, xk_kill]
              first | exact l176 i h s1 W1 hi hR1 hw1 (fun o9 => k1 o9 hsd) (fun o9 z => k0 o9 (Or.inl z)) (q.length + 1) 0 (by omega) (fun j hj => by omega) | exact l176z i h s1 W1 0 (by decide) hR1 (fun o9 => k0 o9 hno)
    have j136 : ∀ (h : xk_H) (s1 : wS) (W1 : Nat → Int32), wyA hs h m n s1 W1 → wayR W1 (b :: q) → wB s1 → ¬ (nI b = to ∧ 2 ≤ q.length + 1) → wyC n T b q p s = s1 → xk_X (d + 3 + (f + 1)) 0 0 mX9_ways (xk_fx false hs) (fun r' h => r' = none ∧ ∃ W', wyA hs h m n (wyF n T to (f + 1) b q p s) W' ∧ wayR W' (b :: q)) 0 0 136 [some (.ref m), some (.int (nI (q.length + 1))), some (.int to), some (.long (lN p.1)), none, some (.long (lN p.2)), none, some (.int (nI b)), none, none, none] [] h := by
      intro h s1 W1 hR1 hw1 hB1 hno hE
      obtain ⟨⟨c, e1, e2, e3, hO⟩, hw5, -⟩ := id hR1
      refine xk_iconst (0) dX9_ways_136 (by decide) ?_
      refine xk_istore dX9_ways_137 (by decide) ?_
      dsimp only [xk_s1, xk_s2, xk_kill]
      exact l139 n 0 s1 W1 h _ _ (by omega) hR1 hw1 hB1 (by rw [wyF, if_neg hno, hE])
    obtain ⟨⟨c, e1, e2, e3, hO⟩, hw5, -⟩ := id hR
    refine xk_Y.ofX (k := 4) (ls := [some (.ref m), some (.int (nI (q.length + 1))), some (.int to), some (.long (lN p.1)), none, some (.long (lN p.2)), none, none, none, none, none]) (by decide) rfl rfl ?_
    refine xk_aload_n dX9_ways_0 rfl ?_
    refine xk_get (ci := 8) (r := (RX9, TX9, 25)) 20 dX9_ways_1 rfl inX9 (by decide) wf_X9_54 hO rfl ?_
    refine xk_iload_n dX9_ways_4 rfl ?_
    refine xk_iconst (1) dX9_ways_5 (by decide) ?_
    refine xk_isub dX9_ways_6 ?_
    rw [show (1 : Int32) = nI 1 from rfl, pk_sub (by omega), Nat.add_sub_cancel]
    refine xk_iald dX9_ways_7 hw5 (vp_in_nI (by omega) (by decide)) ?_
    rw [q9, el]
    refine xk_istore dX9_ways_8 (by decide) ?_
    dsimp only [xk_s1, xk_s2, xk_kill]
    refine xk_iload dX9_ways_10 rfl ?_
    refine xk_iload_n dX9_ways_12 rfl ?_
    refine xk_icmp_ne 76 dX9_ways_13 (by decide) (fun c13 => ?_) (fun c13 => ?_)
    · have c19 : ¬ (nI b = to ∧ 2 ≤ q.length + 1) := fun z => c13 z.1
      refine xk_iload_n dX9_ways_76 rfl ?_
      refine xk_iconst (1) dX9_ways_77 (by decide) ?_
      refine xk_icmp_le 136 dX9_ways_78 (by decide) (fun c78 => ?_) (fun c78 => ?_)
      · have c79 : ¬ 2 ≤ q.length + 1 := fun z => absurd c78 (nI_ge (a := 1) (by omega) (by omega))
        first | exact j136 hs s W hR hw hB c19 (by unfold wyC; rw [if_neg (fun z => c79 z.1)]) | exact j136 hs s W hR hw hB c19 (by unfold wyC; rw [if_neg (fun z => c94 z.2.1)]) | exact j136 hs s W hR hw hB c19 (by unfold wyC; rw [if_neg (fun z => c129 z.2.2)]) | exact j136 _ _ W (hR.o c e1 e2 e3 (s.1, s.2.1, s.2.2.1, false)) hw hB c19 (by unfold wyC; rw [if_pos ⟨c79, c94, c129⟩])
      · have c79 : 2 ≤ q.length + 1 := by
          rcases Nat.lt_or_ge 1 (q.length + 1) with z | z
          · exact z
          · exact absurd (nI_le (b := 1) z (by decide)) c78
        have hab := nod_last hd (by omega)
        refine xk_aload_n dX9_ways_81 rfl ?_
        refine xk_iload dX9_ways_82 rfl ?_
        refine xk_aload_n dX9_ways_84 rfl ?_
        refine xk_get (ci := 8) (r := (RX9, TX9, 25)) 20 dX9_ways_85 rfl inX9 (by decide) wf_X9_54 hO rfl ?_
        refine xk_iconst (0) dX9_ways_88 (by decide) ?_
        refine xk_iald dX9_ways_89 hw5 (vp_in_nI (n := 0) (by decide) (by decide)) ?_
        rw [q8, e0]
        refine xk_v2 (M' := mX9_isSpan)  (ci := 8) (r0 := (RX9, TX9, 25)) dX9_ways_90 wm_X9_174 cv_X9_isSpan wi_X9_isSpan wl_X9_isSpan (by omega) (Nat.le_refl _) (Nat.le_refl _) rfl rfl hO (Nat.le_of_ble_eq_true rfl) (y_X9_isSpan (d + (f + 1)) hn h2 hO hC hb ha hab (by have := hK (pidx n b (lastN (b :: q))); omega)) rfl ?_
        refine xk_ifb_eq 136 dX9_ways_93 (by decide) (fun c93 => ?_) (fun c93 => ?_)
        · have c94 : ¬ 0 < T.2.2.1 (pidx n b (lastN (b :: q))) := of_decide_eq_false c93
          first | exact j136 hs s W hR hw hB c19 (by unfold wyC; rw [if_neg (fun z => c79 z.1)]) | exact j136 hs s W hR hw hB c19 (by unfold wyC; rw [if_neg (fun z => c94 z.2.1)]) | exact j136 hs s W hR hw hB c19 (by unfold wyC; rw [if_neg (fun z => c129 z.2.2)]) | exact j136 _ _ W (hR.o c e1 e2 e3 (s.1, s.2.1, s.2.2.1, false)) hw hB c19 (by unfold wyC; rw [if_pos ⟨c79, c94, c129⟩])
        · have c94 : 0 < T.2.2.1 (pidx n b (lastN (b :: q))) := of_decide_eq_true c93
          have hdg := mdL_b (n := n) hK c94
          have hpm := pB_mul hp hdg.1.2 hdg.2.2
          have hpm1 : p.1 * (mdL n T b (lastN (b :: q))).1 ≤ 531441 := Nat.le_trans hpm.1 h96
          have hpm2 : p.2 * (mdL n T b (lastN (b :: q))).2 ≤ 531441 := Nat.le_trans hpm.2 h96
          refine xk_lload_n dX9_ways_96 rfl ?_
          refine xk_aload_n dX9_ways_97 rfl ?_
          refine xk_iload dX9_ways_98 rfl ?_
          refine xk_aload_n dX9_ways_100 rfl ?_
          refine xk_get (ci := 8) (r := (RX9, TX9, 25)) 20 dX9_ways_101 rfl inX9 (by decide) wf_X9_54 hO rfl ?_
          refine xk_iconst (0) dX9_ways_104 (by decide) ?_
          refine xk_iald dX9_ways_105 hw5 (vp_in_nI (n := 0) (by decide) (by decide)) ?_
          try rw [q8]
          try rw [e0]
          refine xk_v2 (M' := mX9_lowOver)  (ci := 8) (r0 := (RX9, TX9, 25)) dX9_ways_106 wm_X9_177 cv_X9_lowOver wi_X9_lowOver wl_X9_lowOver (by omega) (Nat.le_refl _) (Nat.le_refl _) rfl rfl hO (Nat.le_of_ble_eq_true rfl) (y_X9_lowOver (d + (f + 1)) hn h2 hO hC hb ha hab) rfl ?_
          refine xk_i2l dX9_ways_109 ?_
          rw [nI_l (by omega)]
          refine xk_lmul dX9_ways_110 ?_
          rw [lN_mul]
          refine xk_lload dX9_ways_111 rfl ?_
          refine xk_aload_n dX9_ways_113 rfl ?_
          refine xk_iload dX9_ways_114 rfl ?_
          refine xk_aload_n dX9_ways_116 rfl ?_
          refine xk_get (ci := 8) (r := (RX9, TX9, 25)) 20 dX9_ways_117 rfl inX9 (by decide) wf_X9_54 hO rfl ?_
          refine xk_iconst (0) dX9_ways_120 (by decide) ?_
          refine xk_iald dX9_ways_121 hw5 (vp_in_nI (n := 0) (by decide) (by decide)) ?_
          try rw [q8]
          try rw [e0]
          refine xk_v2 (M' := mX9_lowUnder)  (ci := 8) (r0 := (RX9, TX9, 25)) dX9_ways_122 wm_X9_180 cv_X9_lowUnder wi_X9_lowUnder wl_X9_lowUnder (by omega) (Nat.le_refl _) (Nat.le_refl _) rfl rfl hO (Nat.le_of_ble_eq_true rfl) (y_X9_lowUnder (d + (f + 1)) hn h2 hO hC hb ha hab) rfl ?_
          refine xk_i2l dX9_ways_125 ?_
          rw [nI_l (by omega)]
          refine xk_lmul dX9_ways_126 ?_
          rw [lN_mul]
          refine xk_lcmp dX9_ways_127 ?_
          refine xk_if_le 136 dX9_ways_128 (by decide) (fun c128 => ?_) (fun c128 => ?_)
          · have c129 : ¬ p.2 * (mdL n T b (lastN (b :: q))).2 < p.1 * (mdL n T b (lastN (b :: q))).1 := by
              have := (lc_le (by omega) (by omega)).mp c128
              omega
            first | exact j136 hs s W hR hw hB c19 (by unfold wyC; rw [if_neg (fun z => c79 z.1)]) | exact j136 hs s W hR hw hB c19 (by unfold wyC; rw [if_neg (fun z => c94 z.2.1)]) | exact j136 hs s W hR hw hB c19 (by unfold wyC; rw [if_neg (fun z => c129 z.2.2)]) | exact j136 _ _ W (hR.o c e1 e2 e3 (s.1, s.2.1, s.2.2.1, false)) hw hB c19 (by unfold wyC; rw [if_pos ⟨c79, c94, c129⟩])
          · have c129 : p.2 * (mdL n T b (lastN (b :: q))).2 < p.1 * (mdL n T b (lastN (b :: q))).1 := by
              rcases Nat.lt_or_ge (p.2 * (mdL n T b (lastN (b :: q))).2) (p.1 * (mdL n T b (lastN (b :: q))).1) with z | z
              · exact z
              · exact absurd ((lc_le (by omega) (by omega)).mpr z) c128
            refine xk_aload_n dX9_ways_131 rfl ?_
            refine xk_iconst (0) dX9_ways_132 (by decide) ?_
            refine xk_put (ci := 8) (r := (RX9, TX9, 25)) 24 tyX9 dX9_ways_133 rfl inX9 tyX9_ok nmX9 (by decide) wf_X9_183 rfl (fun _ => rfl) (fun _ => rfl) hO (Nat.le_of_ble_eq_true rfl) ?_
            dsimp only [List.set]
            first | exact j136 hs s W hR hw hB c19 (by unfold wyC; rw [if_neg (fun z => c79 z.1)]) | exact j136 hs s W hR hw hB c19 (by unfold wyC; rw [if_neg (fun z => c94 z.2.1)]) | exact j136 hs s W hR hw hB c19 (by unfold wyC; rw [if_neg (fun z => c129 z.2.2)]) | exact j136 _ _ W (hR.o c e1 e2 e3 (s.1, s.2.1, s.2.2.1, false)) hw hB c19 (by unfold wyC; rw [if_pos ⟨c79, c94, c129⟩])
    · have c14 : nI b = to := c13
      refine xk_iload_n dX9_ways_16 rfl ?_
      refine xk_iconst (1) dX9_ways_17 (by decide) ?_
      refine xk_icmp_le 76 dX9_ways_18 (by decide) (fun c18 => ?_) (fun c18 => ?_)
      · have c19 : ¬ (nI b = to ∧ 2 ≤ q.length + 1) := fun z => absurd c18 (nI_ge (a := 1) (by omega) (by omega))
        refine xk_iload_n dX9_ways_76 rfl ?_
        refine xk_iconst (1) dX9_ways_77 (by decide) ?_
        refine xk_icmp_le 136 dX9_ways_78 (by decide) (fun c78 => ?_) (fun c78 => ?_)
        · have c79 : ¬ 2 ≤ q.length + 1 := fun z => absurd c78 (nI_ge (a := 1) (by omega) (by omega))
          first | exact j136 hs s W hR hw hB c19 (by unfold wyC; rw [if_neg (fun z => c79 z.1)]) | exact j136 hs s W hR hw hB c19 (by unfold wyC; rw [if_neg (fun z => c94 z.2.1)]) | exact j136 hs s W hR hw hB c19 (by unfold wyC; rw [if_neg (fun z => c129 z.2.2)]) | exact j136 _ _ W (hR.o c e1 e2 e3 (s.1, s.2.1, s.2.2.1, false)) hw hB c19 (by unfold wyC; rw [if_pos ⟨c79, c94, c129⟩])
        · have c79 : 2 ≤ q.length + 1 := by
            rcases Nat.lt_or_ge 1 (q.length + 1) with z | z
            · exact z
            · exact absurd (nI_le (b := 1) z (by decide)) c78
          have hab := nod_last hd (by omega)
          refine xk_aload_n dX9_ways_81 rfl ?_
          refine xk_iload dX9_ways_82 rfl ?_
          refine xk_aload_n dX9_ways_84 rfl ?_
          refine xk_get (ci := 8) (r := (RX9, TX9, 25)) 20 dX9_ways_85 rfl inX9 (by decide) wf_X9_54 hO rfl ?_
          refine xk_iconst (0) dX9_ways_88 (by decide) ?_
          refine xk_iald dX9_ways_89 hw5 (vp_in_nI (n := 0) (by decide) (by decide)) ?_
          rw [q8, e0]
          refine xk_v2 (M' := mX9_isSpan)  (ci := 8) (r0 := (RX9, TX9, 25)) dX9_ways_90 wm_X9_174 cv_X9_isSpan wi_X9_isSpan wl_X9_isSpan (by omega) (Nat.le_refl _) (Nat.le_refl _) rfl rfl hO (Nat.le_of_ble_eq_true rfl) (y_X9_isSpan (d + (f + 1)) hn h2 hO hC hb ha hab (by have := hK (pidx n b (lastN (b :: q))); omega)) rfl ?_
          refine xk_ifb_eq 136 dX9_ways_93 (by decide) (fun c93 => ?_) (fun c93 => ?_)
          · have c94 : ¬ 0 < T.2.2.1 (pidx n b (lastN (b :: q))) := of_decide_eq_false c93
            first | exact j136 hs s W hR hw hB c19 (by unfold wyC; rw [if_neg (fun z => c79 z.1)]) | exact j136 hs s W hR hw hB c19 (by unfold wyC; rw [if_neg (fun z => c94 z.2.1)]) | exact j136 hs s W hR hw hB c19 (by unfold wyC; rw [if_neg (fun z => c129 z.2.2)]) | exact j136 _ _ W (hR.o c e1 e2 e3 (s.1, s.2.1, s.2.2.1, false)) hw hB c19 (by unfold wyC; rw [if_pos ⟨c79, c94, c129⟩])
          · have c94 : 0 < T.2.2.1 (pidx n b (lastN (b :: q))) := of_decide_eq_true c93
            have hdg := mdL_b (n := n) hK c94
            have hpm := pB_mul hp hdg.1.2 hdg.2.2
            have hpm1 : p.1 * (mdL n T b (lastN (b :: q))).1 ≤ 531441 := Nat.le_trans hpm.1 h96
            have hpm2 : p.2 * (mdL n T b (lastN (b :: q))).2 ≤ 531441 := Nat.le_trans hpm.2 h96
            refine xk_lload_n dX9_ways_96 rfl ?_
            refine xk_aload_n dX9_ways_97 rfl ?_
            refine xk_iload dX9_ways_98 rfl ?_
            refine xk_aload_n dX9_ways_100 rfl ?_
            refine xk_get (ci := 8) (r := (RX9, TX9, 25)) 20 dX9_ways_101 rfl inX9 (by decide) wf_X9_54 hO rfl ?_
            refine xk_iconst (0) dX9_ways_104 (by decide) ?_
            refine xk_iald dX9_ways_105 hw5 (vp_in_nI (n := 0) (by decide) (by decide)) ?_
            try rw [q8]
            try rw [e0]
            refine xk_v2 (M' := mX9_lowOver)  (ci := 8) (r0 := (RX9, TX9, 25)) dX9_ways_106 wm_X9_177 cv_X9_lowOver wi_X9_lowOver wl_X9_lowOver (by omega) (Nat.le_refl _) (Nat.le_refl _) rfl rfl hO (Nat.le_of_ble_eq_true rfl) (y_X9_lowOver (d + (f + 1)) hn h2 hO hC hb ha hab) rfl ?_
            refine xk_i2l dX9_ways_109 ?_
            rw [nI_l (by omega)]
            refine xk_lmul dX9_ways_110 ?_
            rw [lN_mul]
            refine xk_lload dX9_ways_111 rfl ?_
            refine xk_aload_n dX9_ways_113 rfl ?_
            refine xk_iload dX9_ways_114 rfl ?_
            refine xk_aload_n dX9_ways_116 rfl ?_
            refine xk_get (ci := 8) (r := (RX9, TX9, 25)) 20 dX9_ways_117 rfl inX9 (by decide) wf_X9_54 hO rfl ?_
            refine xk_iconst (0) dX9_ways_120 (by decide) ?_
            refine xk_iald dX9_ways_121 hw5 (vp_in_nI (n := 0) (by decide) (by decide)) ?_
            try rw [q8]
            try rw [e0]
            refine xk_v2 (M' := mX9_lowUnder)  (ci := 8) (r0 := (RX9, TX9, 25)) dX9_ways_122 wm_X9_180 cv_X9_lowUnder wi_X9_lowUnder wl_X9_lowUnder (by omega) (Nat.le_refl _) (Nat.le_refl _) rfl rfl hO (Nat.le_of_ble_eq_true rfl) (y_X9_lowUnder (d + (f + 1)) hn h2 hO hC hb ha hab) rfl ?_
            refine xk_i2l dX9_ways_125 ?_
            rw [nI_l (by omega)]
            refine xk_lmul dX9_ways_126 ?_
            rw [lN_mul]
            refine xk_lcmp dX9_ways_127 ?_
            refine xk_if_le 136 dX9_ways_128 (by decide) (fun c128 => ?_) (fun c128 => ?_)
            · have c129 : ¬ p.2 * (mdL n T b (lastN (b :: q))).2 < p.1 * (mdL n T b (lastN (b :: q))).1 := by
                have := (lc_le (by omega) (by omega)).mp c128
                omega
              first | exact j136 hs s W hR hw hB c19 (by unfold wyC; rw [if_neg (fun z => c79 z.1)]) | exact j136 hs s W hR hw hB c19 (by unfold wyC; rw [if_neg (fun z => c94 z.2.1)]) | exact j136 hs s W hR hw hB c19 (by unfold wyC; rw [if_neg (fun z => c129 z.2.2)]) | exact j136 _ _ W (hR.o c e1 e2 e3 (s.1, s.2.1, s.2.2.1, false)) hw hB c19 (by unfold wyC; rw [if_pos ⟨c79, c94, c129⟩])
            · have c129 : p.2 * (mdL n T b (lastN (b :: q))).2 < p.1 * (mdL n T b (lastN (b :: q))).1 := by
                rcases Nat.lt_or_ge (p.2 * (mdL n T b (lastN (b :: q))).2) (p.1 * (mdL n T b (lastN (b :: q))).1) with z | z
                · exact z
                · exact absurd ((lc_le (by omega) (by omega)).mpr z) c128
              refine xk_aload_n dX9_ways_131 rfl ?_
              refine xk_iconst (0) dX9_ways_132 (by decide) ?_
              refine xk_put (ci := 8) (r := (RX9, TX9, 25)) 24 tyX9 dX9_ways_133 rfl inX9 tyX9_ok nmX9 (by decide) wf_X9_183 rfl (fun _ => rfl) (fun _ => rfl) hO (Nat.le_of_ble_eq_true rfl) ?_
              dsimp only [List.set]
              first | exact j136 hs s W hR hw hB c19 (by unfold wyC; rw [if_neg (fun z => c79 z.1)]) | exact j136 hs s W hR hw hB c19 (by unfold wyC; rw [if_neg (fun z => c94 z.2.1)]) | exact j136 hs s W hR hw hB c19 (by unfold wyC; rw [if_neg (fun z => c129 z.2.2)]) | exact j136 _ _ W (hR.o c e1 e2 e3 (s.1, s.2.1, s.2.2.1, false)) hw hB c19 (by unfold wyC; rw [if_pos ⟨c79, c94, c129⟩])
      · have c20 : 2 ≤ q.length + 1 := by
          rcases Nat.lt_or_ge 1 (q.length + 1) with z | z
          · exact z
          · exact absurd (nI_le (b := 1) z (by decide)) c18
        refine xk_aload_n dX9_ways_21 rfl ?_
        refine xk_get (ci := 8) (r := (RX9, TX9, 25)) 23 dX9_ways_22 rfl inX9 (by decide) wf_X9_164 hO rfl ?_
        refine xk_ifb_eq 45 dX9_ways_25 (by decide) (fun c25 => ?_) (fun c25 => ?_)
        · have hcc : ¬ (s.1 = true ∧ p.1 * s.2.2.1 ≤ s.2.1 * p.2) := fun z => by rw [z.1] at c25; exact absurd c25 (by decide)
          refine xk_lload_n dX9_ways_45 rfl ?_
          refine xk_lload dX9_ways_46 rfl ?_
          refine xk_s2c (M' := mX9_divisor)  dX9_ways_48 wm_X9_81 cv_X9_divisor wt_X9_divisor (by omega) (Nat.le_refl _) (Nat.le_refl _) (Nat.le_of_ble_eq_true rfl) (y_X9_divisor (d + (f + 1)) (by omega) (by omega)) rfl ?_
          refine xk_lstore dX9_ways_51 (by decide) ?_
          dsimp only [xk_s1, xk_s2, xk_kill]
          refine xk_aload_n dX9_ways_53 rfl ?_
          refine xk_lload_n dX9_ways_54 rfl ?_
          refine xk_lload dX9_ways_55 rfl ?_
          refine xk_ldiv dX9_ways_57 (fun z => absurd ((pk_lEQ (b := 0) (by omega) (by decide)).mp z) (by omega)) ?_
          rw [pk_lDiv (by omega) hg1 (by omega)]
          refine xk_put (ci := 8) (r := (RX9, TX9, 25)) 21 tyX9 dX9_ways_58 rfl inX9 tyX9_ok nmX9 (by decide) wf_X9_171 rfl (fun _ => rfl) (fun _ => rfl) hO (Nat.le_of_ble_eq_true rfl) ?_
          dsimp only [List.set]
          refine xk_aload_n dX9_ways_61 rfl ?_
          refine xk_lload dX9_ways_62 rfl ?_
          refine xk_lload dX9_ways_64 rfl ?_
          refine xk_ldiv dX9_ways_66 (fun z => absurd ((pk_lEQ (b := 0) (by omega) (by decide)).mp z) (by omega)) ?_
          rw [pk_lDiv (by omega) hg1 (by omega)]
          refine xk_put (ci := 8) (r := (RX9, TX9, 25)) 22 tyX9 dX9_ways_67 rfl inX9 tyX9_ok nmX9 (by decide) wf_X9_168 rfl (fun _ => rfl) (fun _ => rfl) (xs_at hO) (Nat.le_of_ble_eq_true rfl) ?_
          dsimp only [List.set]
          refine xk_aload_n dX9_ways_70 rfl ?_
          refine xk_iconst (1) dX9_ways_71 (by decide) ?_
          refine xk_put (ci := 8) (r := (RX9, TX9, 25)) 23 tyX9 dX9_ways_72 rfl inX9 tyX9_ok nmX9 (by decide) wf_X9_164 rfl (fun _ => rfl) (fun _ => rfl) (by first | exact hO | exact xs_at (xs_at hO)) (Nat.le_of_ble_eq_true rfl) ?_
          dsimp only [List.set]
          exact xk_vret rfl dX9_ways_75 (Nat.le_refl _) (Nat.le_refl _) ⟨rfl, W, by rw [wyF, if_pos ⟨c14, c20⟩]; first | (unfold wyB; rw [if_pos ⟨c25, c43⟩]; exact hR.o c e1 e2 e3 (true, s.2.1, s.2.2.1, s.2.2.2)) | (rw [List.set_set, List.set_set]; unfold wyB; rw [if_neg hcc]; exact hR.o c e1 e2 e3 (true, p.1 / Nat.gcd p.1 p.2, p.2 / Nat.gcd p.1 p.2, s.2.2.2)), hw⟩
        · refine xk_lload_n dX9_ways_28 rfl ?_
          refine xk_aload_n dX9_ways_29 rfl ?_
          refine xk_get (ci := 8) (r := (RX9, TX9, 25)) 22 dX9_ways_30 rfl inX9 (by decide) wf_X9_168 hO rfl ?_
          refine xk_lmul dX9_ways_33 ?_
          rw [lN_mul]
          refine xk_aload_n dX9_ways_34 rfl ?_
          refine xk_get (ci := 8) (r := (RX9, TX9, 25)) 21 dX9_ways_35 rfl inX9 (by decide) wf_X9_171 hO rfl ?_
          refine xk_lload dX9_ways_38 rfl ?_
          refine xk_lmul dX9_ways_40 ?_
          rw [lN_mul]
          refine xk_lcmp dX9_ways_41 ?_
          refine xk_if_le 70 dX9_ways_42 (by decide) (fun c42 => ?_) (fun c42 => ?_)
          · have c43 : p.1 * s.2.2.1 ≤ s.2.1 * p.2 := (lc_le (by omega) (by omega)).mp c42
            refine xk_aload_n dX9_ways_70 rfl ?_
            refine xk_iconst (1) dX9_ways_71 (by decide) ?_
            refine xk_put (ci := 8) (r := (RX9, TX9, 25)) 23 tyX9 dX9_ways_72 rfl inX9 tyX9_ok nmX9 (by decide) wf_X9_164 rfl (fun _ => rfl) (fun _ => rfl) (by first | exact hO | exact xs_at (xs_at hO)) (Nat.le_of_ble_eq_true rfl) ?_
            dsimp only [List.set]
            exact xk_vret rfl dX9_ways_75 (Nat.le_refl _) (Nat.le_refl _) ⟨rfl, W, by rw [wyF, if_pos ⟨c14, c20⟩]; first | (unfold wyB; rw [if_pos ⟨c25, c43⟩]; exact hR.o c e1 e2 e3 (true, s.2.1, s.2.2.1, s.2.2.2)) | (rw [List.set_set, List.set_set]; unfold wyB; rw [if_neg hcc]; exact hR.o c e1 e2 e3 (true, p.1 / Nat.gcd p.1 p.2, p.2 / Nat.gcd p.1 p.2, s.2.2.2)), hw⟩
          · have hcc : ¬ (s.1 = true ∧ p.1 * s.2.2.1 ≤ s.2.1 * p.2) := fun z => c42 ((lc_le (by omega) (by omega)).mpr z.2)
            refine xk_lload_n dX9_ways_45 rfl ?_
            refine xk_lload dX9_ways_46 rfl ?_
            refine xk_s2c (M' := mX9_divisor)  dX9_ways_48 wm_X9_81 cv_X9_divisor wt_X9_divisor (by omega) (Nat.le_refl _) (Nat.le_refl _) (Nat.le_of_ble_eq_true rfl) (y_X9_divisor (d + (f + 1)) (by omega) (by omega)) rfl ?_
            refine xk_lstore dX9_ways_51 (by decide) ?_
            dsimp only [xk_s1, xk_s2, xk_kill]
            refine xk_aload_n dX9_ways_53 rfl ?_
            refine xk_lload_n dX9_ways_54 rfl ?_
            refine xk_lload dX9_ways_55 rfl ?_
            refine xk_ldiv dX9_ways_57 (fun z => absurd ((pk_lEQ (b := 0) (by omega) (by decide)).mp z) (by omega)) ?_
            rw [pk_lDiv (by omega) hg1 (by omega)]
            refine xk_put (ci := 8) (r := (RX9, TX9, 25)) 21 tyX9 dX9_ways_58 rfl inX9 tyX9_ok nmX9 (by decide) wf_X9_171 rfl (fun _ => rfl) (fun _ => rfl) hO (Nat.le_of_ble_eq_true rfl) ?_
            dsimp only [List.set]
            refine xk_aload_n dX9_ways_61 rfl ?_
            refine xk_lload dX9_ways_62 rfl ?_
            refine xk_lload dX9_ways_64 rfl ?_
            refine xk_ldiv dX9_ways_66 (fun z => absurd ((pk_lEQ (b := 0) (by omega) (by decide)).mp z) (by omega)) ?_
            rw [pk_lDiv (by omega) hg1 (by omega)]
            refine xk_put (ci := 8) (r := (RX9, TX9, 25)) 22 tyX9 dX9_ways_67 rfl inX9 tyX9_ok nmX9 (by decide) wf_X9_168 rfl (fun _ => rfl) (fun _ => rfl) (xs_at hO) (Nat.le_of_ble_eq_true rfl) ?_
            dsimp only [List.set]
            refine xk_aload_n dX9_ways_70 rfl ?_
            refine xk_iconst (1) dX9_ways_71 (by decide) ?_
            refine xk_put (ci := 8) (r := (RX9, TX9, 25)) 23 tyX9 dX9_ways_72 rfl inX9 tyX9_ok nmX9 (by decide) wf_X9_164 rfl (fun _ => rfl) (fun _ => rfl) (by first | exact hO | exact xs_at (xs_at hO)) (Nat.le_of_ble_eq_true rfl) ?_
            dsimp only [List.set]
            exact xk_vret rfl dX9_ways_75 (Nat.le_refl _) (Nat.le_refl _) ⟨rfl, W, by rw [wyF, if_pos ⟨c14, c20⟩]; first | (unfold wyB; rw [if_pos ⟨c25, c43⟩]; exact hR.o c e1 e2 e3 (true, s.2.1, s.2.2.1, s.2.2.2)) | (rw [List.set_set, List.set_set]; unfold wyB; rw [if_neg hcc]; exact hR.o c e1 e2 e3 (true, p.1 / Nat.gcd p.1 p.2, p.2 / Nat.gcd p.1 p.2, s.2.2.2)), hw⟩

set_option maxHeartbeats 4000000 in
set_option maxRecDepth 100000 in
/-- goes -/
theorem y_X9_goes (d : Nat) {hs : xk_H} {m n i : Nat} {T : mdT} {to : Int32} {cb : Bool} (hn : n ≤ 6) (h2 : 2 ≤ n) (hC : mdC hs m n T) (hK : mdOK T) (hi : i < n) (hN : cnA hs hs m n cb) : xk_Y (d + 9) 0 0 mX9_goes false [.ref m, .int (nI i), .int to] hs (fun r' h => r' = none ∧ ∃ W', wyA hs h m n (wyG n T i to cb) W') := by
  obtain ⟨⟨c, e1, e2, e3, b1, b2, i1, hO⟩, ⟨W, hw⟩, -⟩ := hN
  have hR0 : wyA hs ((hs.set m (mdO n m (c, e1, e2, e3, lN 1, lN 1, xk_b false, xk_b cb))).set (m + 15) (wrow (upd W 0 (nI i)))) m n (false, 1, 1, cb) (upd W 0 (nI i)) := ⟨⟨c, e1, e2, e3, (xs_ne (by omega)).trans (xs_at hO)⟩, xs_at ((xs_ne (by omega)).trans hw), (xfr.rf.set (Or.inl rfl)).set (Or.inr rfl)⟩
  have hC0 := hR0.C hC
  refine xk_Y.ofX (k := 0) (ls := [some (.ref m), some (.int (nI i)), some (.int to)]) (by decide) rfl rfl ?_
  refine xk_aload_n dX9_goes_0 rfl ?_
  refine xk_iconst (0) dX9_goes_1 (by decide) ?_
  refine xk_put (ci := 8) (r := (RX9, TX9, 25)) 23 tyX9 dX9_goes_2 rfl inX9 tyX9_ok nmX9 (by decide) wf_X9_164 rfl (fun _ => rfl) (fun _ => rfl) hO (Nat.le_of_ble_eq_true rfl) ?_
  dsimp only [List.set]
  refine xk_aload_n dX9_goes_5 rfl ?_
  refine xk_lconst (1) dX9_goes_6 (by decide) ?_
  refine xk_put (ci := 8) (r := (RX9, TX9, 25)) 21 tyX9 dX9_goes_7 rfl inX9 tyX9_ok nmX9 (by decide) wf_X9_171 rfl (fun _ => rfl) (fun _ => rfl) (xs_at hO) (Nat.le_of_ble_eq_true rfl) ?_
  dsimp only [List.set]
  refine xk_aload_n dX9_goes_10 rfl ?_
  refine xk_lconst (1) dX9_goes_11 (by decide) ?_
  refine xk_put (ci := 8) (r := (RX9, TX9, 25)) 22 tyX9 dX9_goes_12 rfl inX9 tyX9_ok nmX9 (by decide) wf_X9_168 rfl (fun _ => rfl) (fun _ => rfl) (xs_at (xs_at hO)) (Nat.le_of_ble_eq_true rfl) ?_
  dsimp only [List.set]
  rw [List.set_set, List.set_set]
  change xk_X _ _ _ _ _ _ _ _ _ _ _ (hs.set m (mdO n m (c, e1, e2, e3, lN 1, lN 1, xk_b false, xk_b cb)))
  refine xk_aload_n dX9_goes_15 rfl ?_
  refine xk_get (ci := 8) (r := (RX9, TX9, 25)) 20 dX9_goes_16 rfl inX9 (by decide) wf_X9_54 (xs_at hO) rfl ?_
  refine xk_iconst (0) dX9_goes_19 (by decide) ?_
  refine xk_iload_n dX9_goes_20 rfl ?_
  refine xk_iast dX9_goes_21 ((xs_ne (by omega)).trans hw) (vp_in_nI (n := 0) (by decide) (by decide)) ?_
  change xk_X _ _ _ _ _ _ _ _ _ _ _ ((hs.set m (mdO n m (c, e1, e2, e3, lN 1, lN 1, xk_b false, xk_b cb))).set (m + 15) (wrow (upd W 0 (nI i))))
  refine xk_aload_n dX9_goes_22 rfl ?_
  refine xk_iconst (1) dX9_goes_23 (by decide) ?_
  rw [show (1 : Int32) = nI (([] : List Nat).length + 1) from rfl]
  refine xk_iload_n dX9_goes_24 rfl ?_
  refine xk_lconst (1) dX9_goes_25 (by decide) ?_
  rw [show (1 : Int64) = lN ((1, 1) : Nat × Nat).1 from rfl]
  refine xk_lconst (1) dX9_goes_26 (by decide) ?_
  rw [show (1 : Int64) = lN ((1, 1) : Nat × Nat).2 from rfl]
  refine xk_callV4 (M' := mX9_ways)  (ci := 8) (r0 := (RX9, TX9, 25)) dX9_goes_27 wm_X9_186 cv_X9_ways wi_X9_ways wl_X9_ways (by omega) (Nat.le_refl _) (Nat.le_refl _) rfl rfl ((xs_ne (by omega)).trans (xs_at hO)) (Nat.le_of_ble_eq_true rfl) (y_X9_ways d (to := to) hn h2 hK (n - 1) i [] (1, 1) (false, 1, 1, cb) _ _ hC0 hR0.rf ⟨by simp [upd], trivial⟩ (fun x hx => by rw [List.mem_singleton.mp hx]; omega) (List.nodup_cons.mpr ⟨List.not_mem_nil, List.nodup_nil⟩) (by simp only [List.length_nil]; omega) ⟨by decide, by decide⟩ (by decide) (by decide) ⟨Nat.le_of_ble_eq_true rfl, Nat.le_of_ble_eq_true rfl⟩) (fun _ _ z => z.2.choose_spec.1.2.2.1) (fun r27 z27 h27 => ?_)
  obtain ⟨rfl, W4, hR4, hw4⟩ := h27
  exact xk_vret rfl dX9_goes_30 (Nat.le_refl _) (Nat.le_refl _) ⟨rfl, W4, hR0.tr hR4⟩

set_option maxHeartbeats 4000000 in
set_option maxRecDepth 100000 in
/-- can -/
theorem y_X9_can (d : Nat) {hs : xk_H} {m n : Nat} {T : mdT} (hn : n ≤ 6) (h2 : 2 ≤ n) (hA : mdA hs m n T) (hK : mdOK T) : xk_Y (d + 10) 0 0 mX9_can false [.ref m] hs (fun r' h => r' = some (.int (xk_b (mCan n T))) ∧ cnA hs h m n (mCan n T)) := by
  have l7 : ∀ (r i : Nat) (cb : Bool) (h : xk_H), i + r = n → cnA hs h m n cb → itr (fun i c => (wyG n T i (-1) c).2.2.2) r i cb = mCan n T → xk_X (d + 10) 0 0 mX9_can (xk_fx false hs) (fun r' h => r' = some (.int (xk_b (mCan n T))) ∧ cnA hs h m n (mCan n T)) 0 0 7 [some (.ref m), some (.int (nI i))] [] h := by
    intro r
    induction r with
    | zero =>
      intro i cb h h1 hN hE
      obtain ⟨⟨c, e1, e2, e3, b1, b2, i1, hO⟩, ⟨W, hw⟩, hf⟩ := id hN
      obtain rfl : cb = mCan n T := hE
      refine xk_iload_n dX9_can_7 rfl ?_
      refine xk_aload_n dX9_can_8 rfl ?_
      refine xk_get (ci := 8) (r := (RX9, TX9, 25)) 0 dX9_can_9 rfl inX9 (by decide) wf_X9_66 hO rfl ?_
      refine xk_icmp_ge 27 dX9_can_12 (by decide) (fun c12 => ?_) (fun c12 => ?_)
      · refine xk_aload_n dX9_can_27 rfl ?_
        refine xk_get (ci := 8) (r := (RX9, TX9, 25)) 24 dX9_can_28 rfl inX9 (by decide) wf_X9_183 hO rfl ?_
        exact xk_zret rfl (xk_b_nar _) dX9_can_31 (Nat.le_refl _) (Nat.le_refl _) ⟨rfl, hN⟩
      · exact absurd (nI_le (by omega) (by omega)) c12
    | succ r ih =>
      intro i cb h h1 hN hE
      obtain ⟨⟨c, e1, e2, e3, b1, b2, i1, hO⟩, ⟨W, hw⟩, hf⟩ := id hN
      have hC1 := hN.C hA.2.1
      refine xk_iload_n dX9_can_7 rfl ?_
      refine xk_aload_n dX9_can_8 rfl ?_
      refine xk_get (ci := 8) (r := (RX9, TX9, 25)) 0 dX9_can_9 rfl inX9 (by decide) wf_X9_66 hO rfl ?_
      refine xk_icmp_ge 27 dX9_can_12 (by decide) (fun c12 => ?_) (fun c12 => ?_)
      · exact absurd c12 (nI_ge (by omega) (by omega))
      · refine xk_aload_n dX9_can_15 rfl ?_
        refine xk_iload_n dX9_can_16 rfl ?_
        refine xk_iconst (-1) dX9_can_17 (by decide) ?_
        refine xk_callV2 (M' := mX9_goes) (d' := d + 9) (ci := 8) (r0 := (RX9, TX9, 25)) dX9_can_18 wm_X9_190 cv_X9_goes wi_X9_goes wl_X9_goes (by omega) (Nat.le_refl _) (Nat.le_refl _) rfl rfl hO (Nat.le_of_ble_eq_true rfl) (y_X9_goes d (i := i) (to := -1) hn h2 hC1 hK (by omega) ⟨hN.1, hN.2.1, xfr.rf⟩) (fun _ _ z => z.2.choose_spec.2.2.1) (fun r18 z18 h18 => ?_)
        obtain ⟨rfl, W4, hR4⟩ := h18
        refine xk_iinc (nI (i + 1)) dX9_can_21 rfl (nI_1 i) (by decide) ?_
        dsimp only [xk_s1, xk_s2, xk_kill]
        refine xk_goto 7 dX9_can_24 (by decide) ?_
        exact ih (i + 1) _ z18 (by omega) (hN.tr hR4).cn (by rw [← hE, itr])
  obtain ⟨⟨s, hO⟩, hC, hW⟩ := id hA
  obtain ⟨-, -, -, -, -, -, f7, h7⟩ := id hW
  obtain ⟨s0, s1, s2, s3, s4, s5, s6, s7⟩ := s
  refine xk_Y.ofX (k := 1) (ls := [some (.ref m), none]) (by decide) rfl rfl ?_
  refine xk_aload_n dX9_can_0 rfl ?_
  refine xk_iconst (1) dX9_can_1 (by decide) ?_
  refine xk_put (ci := 8) (r := (RX9, TX9, 25)) 24 tyX9 dX9_can_2 rfl inX9 tyX9_ok nmX9 (by decide) wf_X9_183 rfl (fun _ => rfl) (fun _ => rfl) hO (Nat.le_of_ble_eq_true rfl) ?_
  dsimp only [List.set]
  refine xk_iconst (0) dX9_can_5 (by decide) ?_
  refine xk_istore_n dX9_can_6 (by decide) ?_
  dsimp only [xk_s1, xk_s2, xk_kill]
  exact l7 n 0 true _ (by omega) ⟨⟨s0, s1, s2, s3, s4, s5, s6, xs_at hO⟩, ⟨f7, (xs_ne (by omega)).trans h7⟩, xfr.rf.set (Or.inl rfl)⟩ rfl

set_option maxHeartbeats 4000000 in
set_option maxRecDepth 100000 in
theorem y_X9_bound (d : Nat) {hs : xk_H} {m n : Nat} {T : mdT} (hn : n ≤ 6) (h2 : 2 ≤ n) (hA : mdA hs m n T) (hK : mdOK T) {i j qq : Int32} : xk_Y (d + 11) 0 0 mX9_bound false [.ref m, .int i, .int j, .int qq] hs (fun r' h => r' = some (.int (mBnd n T i j qq)) ∧ mdA h m n T ∧ xfr (mdR m) hs h) := by
  obtain ⟨⟨s, hO⟩, hC, hW⟩ := id hA
  have cF : (tPair n i j && isPt qq && mCan n T) = false → mBnd n T i j qq = -1 := fun q => by unfold mBnd; rw [if_neg (by rw [q]; decide)]
  refine xk_Y.ofX (k := 0) (ls := [some (.ref m), some (.int i), some (.int j), some (.int qq)]) (by decide) rfl rfl ?_
  refine xk_aload_n dX9_bound_0 rfl ?_
  refine xk_iload_n dX9_bound_1 rfl ?_
  refine xk_iload_n dX9_bound_2 rfl ?_
  refine xk_v2 (M' := mX9_areTwo) (d' := (d + 9) + 1) (ci := 8) (r0 := (RX9, TX9, 25)) dX9_bound_3 wm_X9_77 cv_X9_areTwo wi_X9_areTwo wl_X9_areTwo (by omega) (Nat.le_refl _) (Nat.le_refl _) rfl rfl hO (Nat.le_of_ble_eq_true rfl) (y_X9_areTwo (d + 9) hn h2 hO) rfl ?_
  refine xk_ifb_eq 25 dX9_bound_6 (by decide) (fun c6 => ?_) (fun c6 => ?_)
  · refine xk_iconst (-1) dX9_bound_25 (by decide) ?_
    exact xk_iret rfl dX9_bound_26 (Nat.le_refl _) (Nat.le_refl _) ⟨by rw [cF (by simp [*])], by first | exact hA | exact hN.toA hA, by first | exact xfr.rf | exact hN.fr⟩
  · obtain ⟨a, b, ha, hb, hab, rfl, rfl⟩ := tPair_of hn c6
    have e1 : (nI a).toNatClampNeg = a := nI_clamp (by omega)
    refine xk_iload_n dX9_bound_9 rfl ?_
    refine xk_iconst (0) dX9_bound_10 (by decide) ?_
    refine xk_iconst (1) dX9_bound_11 (by decide) ?_
    refine xk_s3c (M' := mX9_in) (d' := (d + 10)) dX9_bound_12 wm_X9_73 cv_X9_in wt_X9_in (by omega) (Nat.le_refl _) (Nat.le_refl _) (Nat.le_of_ble_eq_true rfl) (y_X9_in (d + 10)) rfl ?_
    refine xk_ifb_eq 25 dX9_bound_15 (by decide) (fun c15 => ?_) (fun c15 => ?_)
    · rw [inB_01] at c15
      refine xk_iconst (-1) dX9_bound_25 (by decide) ?_
      exact xk_iret rfl dX9_bound_26 (Nat.le_refl _) (Nat.le_refl _) ⟨by rw [cF (by simp [*])], by first | exact hA | exact hN.toA hA, by first | exact xfr.rf | exact hN.fr⟩
    · rw [inB_01] at c15
      refine xk_aload_n dX9_bound_18 rfl ?_
      refine xk_callV0 (M' := mX9_can) (d' := d + 10) (ci := 8) (r0 := (RX9, TX9, 25)) dX9_bound_19 wm_X9_194 cv_X9_can wi_X9_can wl_X9_can (by omega) (Nat.le_refl _) (Nat.le_refl _) rfl rfl hO (Nat.le_of_ble_eq_true rfl) (y_X9_can d hn h2 hA hK) (fun _ _ z => z.2.2.2.1) (fun r19 z19 h19 => ?_)
      obtain ⟨rfl, hN⟩ := h19
      obtain ⟨⟨c, k1, k2, k3, k4, k5, k6, hO9⟩, ⟨W9, hw9⟩, hf9⟩ := id hN
      refine xk_ifb_ne 27 dX9_bound_22 (by decide) (fun c22 => ?_) (fun c22 => ?_)
      · refine xk_aload_n dX9_bound_27 rfl ?_
        refine xk_iload_n dX9_bound_28 rfl ?_
        refine xk_iload_n dX9_bound_29 rfl ?_
        refine xk_callV2 (M' := mX9_goes) (d' := (d + 1) + 9) (ci := 8) (r0 := (RX9, TX9, 25)) dX9_bound_30 wm_X9_190 cv_X9_goes wi_X9_goes wl_X9_goes (by omega) (Nat.le_refl _) (Nat.le_refl _) rfl rfl hO9 (Nat.le_of_ble_eq_true rfl) (y_X9_goes (d + 1) (to := nI b) hn h2 (hN.C hC) hK ha ⟨hN.1, hN.2.1, xfr.rf⟩) (fun _ _ z => z.2.choose_spec.2.2.1) (fun r30 z30 h30 => ?_)
        obtain ⟨rfl, W4, hR4⟩ := h30
        have hR5 := hN.tr hR4
        rw [c22] at hR5
        obtain ⟨⟨c0, g1, g2, g3, hO4⟩, hw4, hf4⟩ := id hR5
        refine xk_aload_n dX9_bound_33 rfl ?_
        refine xk_get (ci := 8) (r := (RX9, TX9, 25)) 23 dX9_bound_34 rfl inX9 (by decide) wf_X9_164 hO4 rfl ?_
        refine xk_ifb_ne 42 dX9_bound_37 (by decide) (fun c37 => ?_) (fun c37 => ?_)
        · refine xk_iload_n dX9_bound_42 rfl ?_
          refine xk_if_ne 53 dX9_bound_43 (by decide) (fun c43 => ?_) (fun c43 => ?_)
          · refine xk_aload_n dX9_bound_53 rfl ?_
            refine xk_get (ci := 8) (r := (RX9, TX9, 25)) 22 dX9_bound_54 rfl inX9 (by decide) wf_X9_168 hO4 rfl ?_
            refine xk_l2i dX9_bound_57 ?_
            rw [lN_i]
            exact xk_iret rfl dX9_bound_58 (Nat.le_refl _) (Nat.le_refl _) ⟨by unfold mBnd; rw [if_pos (by rw [c6, c15, c22]; rfl), e1, if_pos c37]; first | rw [if_pos c43] | rw [if_neg c43], hR5.toA hA, hR5.fr⟩
          · refine xk_aload_n dX9_bound_46 rfl ?_
            refine xk_get (ci := 8) (r := (RX9, TX9, 25)) 21 dX9_bound_47 rfl inX9 (by decide) wf_X9_171 hO4 rfl ?_
            refine xk_goto 57 dX9_bound_50 (by decide) ?_
            refine xk_l2i dX9_bound_57 ?_
            rw [lN_i]
            exact xk_iret rfl dX9_bound_58 (Nat.le_refl _) (Nat.le_refl _) ⟨by unfold mBnd; rw [if_pos (by rw [c6, c15, c22]; rfl), e1, if_pos c37]; first | rw [if_pos c43] | rw [if_neg c43], hR5.toA hA, hR5.fr⟩
        · refine xk_iconst (-1) dX9_bound_40 (by decide) ?_
          exact xk_iret rfl dX9_bound_41 (Nat.le_refl _) (Nat.le_refl _) ⟨by unfold mBnd; rw [if_pos (by rw [c6, c15, c22]; rfl), e1, if_neg (by rw [c37]; decide)], hR5.toA hA, hR5.fr⟩
      · refine xk_iconst (-1) dX9_bound_25 (by decide) ?_
        exact xk_iret rfl dX9_bound_26 (Nat.le_refl _) (Nat.le_refl _) ⟨by rw [cF (by simp [*])], by first | exact hA | exact hN.toA hA, by first | exact xfr.rf | exact hN.fr⟩

