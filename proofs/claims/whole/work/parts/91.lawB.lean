/-! The law over the abstract heap. Own text. -/
theorem mdA.ext {hs h : xk_H} {m n : Nat} {T : mdT} (H : mdA hs m n T) (hS : ∀ k, mdR m k → h[k]? = hs[k]?) : mdA h m n T := by
  obtain ⟨⟨s, h0⟩, ⟨a1, a2, a3, a4, a5, a6, a7, a8⟩, ⟨f1, b1⟩, ⟨f2, b2⟩, ⟨f3, b3⟩, ⟨f4, b4⟩, ⟨f5, b5⟩, ⟨f6, b6⟩, f7, b7⟩ := H
  have k : ∀ j, m ≤ j → j < m + 16 → h[j]? = hs[j]? := fun j h1 h2 => hS j ⟨h1, h2⟩
  exact ⟨⟨s, (k _ (by omega) (by omega)).trans h0⟩, ⟨(k _ (by omega) (by omega)).trans a1, (k _ (by omega) (by omega)).trans a2, (k _ (by omega) (by omega)).trans a3, (k _ (by omega) (by omega)).trans a4, (k _ (by omega) (by omega)).trans a5, (k _ (by omega) (by omega)).trans a6, (k _ (by omega) (by omega)).trans a7, (k _ (by omega) (by omega)).trans a8⟩, ⟨f1, (k _ (by omega) (by omega)).trans b1⟩, ⟨f2, (k _ (by omega) (by omega)).trans b2⟩, ⟨f3, (k _ (by omega) (by omega)).trans b3⟩, ⟨f4, (k _ (by omega) (by omega)).trans b4⟩, ⟨f5, (k _ (by omega) (by omega)).trans b5⟩, ⟨f6, (k _ (by omega) (by omega)).trans b6⟩, f7, (k _ (by omega) (by omega)).trans b7⟩
theorem xsA.ext {hs h : xk_H} {x n fl fv : Nat} {w v : tbW} (H : xsA hs x n w fl v fv) (h2 : 2 ≤ n) (hS : ∀ k, xsS x n k → h[k]? = hs[k]?) : xsA h x n w fl v fv := by
  obtain ⟨h1, t1, t2, ⟨s, h4, h4b⟩, ⟨h5, g, h5b, h5c⟩, ⟨M, h6⟩, ⟨G, Wt, fw, lh, h7, h7b⟩, h8⟩ := H
  have k : ∀ j, x ≤ j → j < x + 5 * n + 19 → h[j]? = hs[j]? := fun j h1 h2 => hS j ⟨h1, h2⟩
  exact ⟨(k _ (by omega) (by omega)).trans h1, t1.ext (fun j hj => k j (by have := hj.1; omega) (by have := hj.2; omega)), t2.ext (fun j hj => k j (by have := hj.1; omega) (by have := hj.2; omega)), ⟨s, (k _ (by omega) (by omega)).trans h4, h4b⟩, ⟨(k _ (by omega) (by omega)).trans h5, g, (k _ (by omega) (by omega)).trans h5b, h5c⟩, ⟨M, h6.ext (fun j hj => k j (by have := hj.1; omega) (by have := hj.2; omega))⟩, ⟨G, Wt, fw, lh, h7.ext (fun j hj => k j (by have := hj.1; omega) (by have := hj.2; omega)), h7b⟩, h8.ext (fun j hj => k j (by have := hj.1; omega) (by have := hj.2; omega))⟩
abbrev xl_A (s : State) : Nat → Prop := fun q => s.heap.size ≤ q
/-- within the law's loop: x, m0 the two objects, i the counter -/
def xl_X (b L : Nat) (xs : Nat → Int32) (x m0 i cs ss pc : Nat) (st : List Value) (hs : xk_H) : Prop :=
  ∀ (G : xk_G) (ad : Nat → Nat) (p : Program) (l : Launch) (e : Env) (s : State) (m : MethodId) (below : List Frame) (meth : Method) (c : Code) (H : Heap) (locs : List Loc) (la : Array Slot),
    lw_At p s m meth c b L xs → xk_K G (xl_A s) s s.heap → va_P G.1 vwCl (xk_w G.2.1 ad hs) H → va_D (xl_A s) (xk_w G.2.1 ad hs) → va_S (xl_A s) s.heap H locs → lv_has la 4 [(3, .int (nI i)), (2, .ref (ad m0)), (1, .ref (ad x)), (0, .ref b)] → xk_OK [] (.ref x :: .ref m0 :: st) hs →
    W p l e room_1 s m #[Value.ref b] below meth c H locs cs ss (lw_Z below #[Value.ref b] s) (F0 m pc la (st.map (xk_v ad)))
theorem xl_cs {x m0 : Nat} {v : Value} {st : List Value} {hs : xk_H} (O : xk_OK [] (.ref x :: .ref m0 :: st) hs) (hv : xk_ok hs.length v) : xk_OK [] (.ref x :: .ref m0 :: v :: st) hs := ⟨O.1, xk_cs (xk_hd O.2.1) (xk_cs (xk_hd (xk_tl O.2.1)) (xk_cs hv (xk_tl (xk_tl O.2.1)))), O.2.2⟩
theorem xl_tl {x m0 : Nat} {v : Value} {st : List Value} {hs : xk_H} (O : xk_OK [] (.ref x :: .ref m0 :: v :: st) hs) : xk_OK [] (.ref x :: .ref m0 :: st) hs := ⟨O.1, xk_cs (xk_hd O.2.1) (xk_cs (xk_hd (xk_tl O.2.1)) (xk_tl (xk_tl (xk_tl O.2.1)))), O.2.2⟩
section XL
variable {b L : Nat} {xs : Nat → Int32} {x m0 i cs ss pc : Nat} {st : List Value} {hs : xk_H}
theorem xl_a1 (hd : decode code pc = .ok (.aload_n 1, 1)) (kk : xl_X b L xs x m0 i cs ss (pc + 1) (.ref x :: st) hs) : xl_X b L xs x m0 i cs ss pc st hs :=
  fun G ad p l e s m below meth c H locs la C0 hK hP hD hS hl O => lv_aload_n C0.1 C0.2.1 hd rfl (lv_at hl 2 rfl) (kk G ad p l e s m below meth c H locs la C0 hK hP hD hS hl (xl_cs O (xk_hd O.2.1)))
theorem xl_a2 (hd : decode code pc = .ok (.aload_n 2, 1)) (kk : xl_X b L xs x m0 i cs ss (pc + 1) (.ref m0 :: st) hs) : xl_X b L xs x m0 i cs ss pc st hs :=
  fun G ad p l e s m below meth c H locs la C0 hK hP hD hS hl O => lv_aload_n C0.1 C0.2.1 hd rfl (lv_at hl 1 rfl) (kk G ad p l e s m below meth c H locs la C0 hK hP hD hS hl (xl_cs O (xk_hd (xk_tl O.2.1))))
theorem xl_rd {kI : Int} (k : Nat) (hv : Int32.ofInt kI = nI k) (h0 : decode code pc = .ok (.aload_n 0, 1)) (h1 : decode code (pc + 1) = .ok (.iload_n 3, 1)) (h2 : decode code (pc + 1 + 1) = .ok (.iconst kI, 1)) (h3 : decode code (pc + 1 + 1 + 1) = .ok (.iadd, 1)) (h4 : decode code (pc + 1 + 1 + 1 + 1) = .ok (.iaload, 1)) (hi : i + k < L) (hL : L ≤ 2561) (kk : xl_X b L xs x m0 i cs ss (pc + 1 + 1 + 1 + 1 + 1) (.int (xs (i + k)) :: st) hs) : xl_X b L xs x m0 i cs ss pc st hs := by
  intro G ad p l e s m below meth c H locs la C0 hK hP hD hS hl O
  obtain ⟨hx, hb, hr, hml, hown, hts, hX, hbl, hlocks, hgv⟩ := id C0
  refine lv_aload_n hx hb h0 rfl (lv_at hl 3 rfl) ?_
  refine lv_iload_n hx hb h1 rfl (lv_at hl 0 rfl) ?_
  refine lv_iconst hx hb h2 hv ?_
  refine lv_iadd hx hb h3 ?_
  rw [nI_add]
  refine va_sld hx hb hX hbl (Nat.not_le.mpr hbl) hS (vp_in_nI hi (by omega)) h4 ?_
  rw [nI_clamp (by omega)]
  exact kk G ad p l e s m below meth c H locs la C0 hK hP hD hS hl (xl_cs O trivial)
theorem xl_eq {y z : Int32} {off : Int} (tgt : Nat) (hd : decode code pc = .ok (.if_icmp .eq off, 3)) (ht : (pc : Int) + off = (tgt : Int)) (hyz : y = z) (kk : xl_X b L xs x m0 i cs ss tgt st hs) : xl_X b L xs x m0 i cs ss pc (.int z :: .int y :: st) hs := by
  intro G ad p l e s m below meth c H locs la C0 hK hP hD hS hl O
  refine lv_icmp_eq (tgt := tgt) C0.1 C0.2.1 hd ht (fun c9 => ?_) (fun c9 => absurd hyz c9)
  exact kk G ad p l e s m below meth c H locs la C0 hK hP hD hS hl (xl_tl (xl_tl O))
theorem xl_call {M' : xk_M} {d' n index b0 ci : Nat} {fs : List Value} {r0 : vw_C} {out' : Option Value → xk_H → Prop} (As rest : List Value) (hd : decode code pc = .ok (.invokevirtual index, 3)) (hlk : Cond.methodLink RL index M'.1 ∈ xk_WS) (hcv : xk_CV M' n) (hin : Cond.instanceMethod M'.1 ∈ xk_WS) (hse : Cond.selects M'.1.cls M'.1 M'.1 ∈ xk_WS) (hdd : d' ≤ 1000) (hcs : cs ≤ 600000) (hss : ss ≤ 7302250) (he : hs[b0]? = some (.inr (ci, fs))) (hc : vwCl[ci]? = some r0) (hcn : r0.1 = M'.1.cls) (hn : As.length = n) (hcat : (rest.map fun v => v.category).sum ≤ 8) (hY : xk_Y d' 0 0 M' false (.ref b0 :: As) hs out')
    (hlen : ∀ (r : Option Value) (hs' : xk_H), out' r hs' → hs'.length = hs.length) (kk : ∀ (r : Option Value) (hs' : xk_H), out' r hs' → xl_X b L xs x m0 i cs ss (pc + 3) (r.toList ++ rest) hs') : xl_X b L xs x m0 i cs ss pc (As.reverse ++ .ref b0 :: rest) hs := by
  intro G ad p l e s m below meth c H locs la C0 hK hP hD hS hl O
  obtain ⟨hx, hb, hr, hml, hown, hts, hX, hbl, hlocks, hgv⟩ := id C0
  have hts2 : ∀ w ∈ xk_WS, w.before #[Value.ref b] s = true := fun w hw => hts w (xk_good w hw).1
  have hO1 : xk_OK [] (.ref b0 :: As) hs := ⟨fun _ h => absurd h List.not_mem_nil, fun v hv => O.2.1 v (by
    rcases List.mem_cons.mp hv with rfl | hv
    · simp
    · simp [hv]), O.2.2⟩
  have hA : ∀ q, va_A (xk_w G.2.1 ad hs) H.size q → xl_A s q := by
    intro q h
    rcases h with ⟨k, e, h⟩ | h
    · exact hD.2 k (q, e) h
    · exact Nat.le_trans hS.1 h
  have hcat' : ((rest.map (xk_v ad)).map fun v => v.category).sum ≤ 8 := by
    rw [List.map_map]
    have : ((fun v : Value => v.category) ∘ xk_v ad) = fun v => v.category := funext fun v => xk_cat ad v
    rw [this]
    exact hcat
  have hB : CallB room_1 s #[Value.ref b] RL index M'.1 M'.2.1 M'.2.2.1 M'.2.2.2 (xk_ws M') (xk_rm d' 0 0) 0 0 n := by
    obtain ⟨h1, h2, h3, h4, h5⟩ := hcv
    refine ⟨rfl, rfl, ?_, ?_, ?_, List.mem_cons_self, hts2 _ h1, hts2 _ h2, h3, ?_, hts2 _ hlk⟩
    · show d' + 1 ≤ 2048; omega
    · show 8 + (M'.2.2.1 + 11) + 40 * d' ≤ 84000; omega
    · intro w hw a' U hW
      rcases List.mem_cons.mp hw with rfl | hw
      · exact word_at hW (xk_good _ h1).2 (hts2 _ h1)
      · exact word_at hW (xk_good w hw).2 (hts2 w hw)
    · intro sig h
      rw [h] at h4
      exact (Option.some.inj h4).symm
  have hpre : ∀ U : State, U.heap = H → s.WarmedH U.vm → va_Pc ((Value.ref b0 :: As).map (xk_v ad)) (fun U => U.heap.size = H.size ∧ va_P G.1 vwCl (xk_w G.2.1 ad hs) U.heap ∧ va_D (fun _ => True) (xk_w G.2.1 ad hs) ∧ xk_K G (va_A (xk_w G.2.1 ad hs) H.size) U U.heap) ((Value.ref b0 :: As).map (xk_v ad)).toArray U := by
    intro U hU hW
    refine ⟨rfl, by rw [hU], by rw [hU]; exact hP, hD.weaken (fun _ _ _ _ => trivial), ?_⟩
    rw [hU]
    exact ((hK.kept hS.2.1).narrow hA).warm hW
  refine xk_go (va_runV (cc := code) (Ts := xk_WS) (own := RL) (As := As.map (xk_v ad)) (rest := rest.map (xk_v ad)) (C := M'.1.cls) (b := ad b0) (n := n) ⟨hx, hb, hml, hown, hts2⟩ (hY hO1 l G ad H.size) ⟨hB, hts2 _ hin, hts2 _ hse⟩ ⟨xk_blind, ?_, hpre⟩ rfl (by rw [List.length_map]; exact hn) hl.1 ?_ (lv_room hcat') hd ⟨hcs, hss⟩) hS (fun q _ h => hA q h) hA (fun r hs' ad' H1 locs1 ho hok hfx hP1 hD1 hS1 => ?_)
  · rw [← hcn]
    exact va_recv hK.1 hP hc (xk_w_get he)
  · show List.map (xk_v ad) (As.reverse ++ .ref b0 :: rest) = _
    rw [List.map_append, List.map_reverse]
    rfl
  · have hadd : ad' = ad := funext fun k => hfx k (fun h => by cases h)
    subst hadd
    have hl2 := hlen r hs' ho
    have h := kk r hs' ho G ad' p l e s m below meth c H1 locs1 la C0 hK hP1 (hD1.weaken fun _ q _ z => hA q.1 z) hS1 hl ⟨fun _ h => absurd h List.not_mem_nil, fun v hv => by
      rcases List.mem_cons.mp hv with rfl | hv
      · rw [hl2]; exact xk_hd O.2.1
      · rcases List.mem_cons.mp hv with rfl | hv
        · rw [hl2]; exact xk_hd (xk_tl O.2.1)
        · rcases List.mem_append.mp hv with h | h
          · exact hok.2.1 v h
          · rw [hl2]
            exact O.2.1 v (by simp [h]), hok.2.2⟩
    rw [List.map_append] at h
    cases r <;> exact h
/-- the counter goes on -/
theorem xl_next (hi : i + 5 < 100000) (kk : xl_X b L xs x m0 (i + 5) cs ss 28 [] hs) : xl_X b L xs x m0 i cs ss 568 [] hs := by
  intro G ad p l e s m below meth c H locs la C0 hK hP hD hS hl O
  refine lv_iinc (v := nI (i + 5)) (lv' := [(3, .int (nI (i + 5))), (2, .ref (ad m0)), (1, .ref (ad x)), (0, .ref b)]) C0.1 C0.2.1 dL_law_568 hl (k := 0) rfl (nI_add i 5) (by decide) rfl (fun la hl => ?_)
  refine lv_goto (tgt := 28) C0.1 C0.2.1 dL_law_571 (by decide) ?_
  exact kk G ad p l e s m below meth c H locs la C0 hK hP hD hS hl O
/-- the loop's head: the end, or the next call -/
theorem xl_head (hL : L ≤ 2561) (hi : i ≤ 10000) (hcs : cs ≤ 600000) (hss : ss ≤ 7302250) (kk : i + 5 ≤ L → xl_X b L xs x m0 i cs ss 36 [] hs) : xl_X b L xs x m0 i cs ss 28 [] hs := by
  intro G ad p l e s m below meth c H locs la C0 hK hP hD hS hl O
  obtain ⟨hx, hb, hr, hml, hown, hts, hX, hbl, hlocks, hgv⟩ := id C0
  refine lv_iload_n hx hb dL_law_28 rfl (lv_at hl 0 rfl) ?_
  refine lv_aload_n hx hb dL_law_29 rfl (lv_at hl 3 rfl) ?_
  refine va_slen hx hb hX hbl (Nat.not_le.mpr hbl) hS dL_law_30 ?_
  refine lv_iconst (v := nI 5) hx hb dL_law_31 rfl ?_
  refine lv_isub hx hb dL_law_32 ?_
  have e1 : (nI L - nI 5).toInt = (L : Int) - 5 := pk_sub_toInt (by omega) (by decide)
  have e2 : (nI i).toInt = (i : Int) := nI_toInt (by omega)
  refine lv_icmp_gt (tgt := 574) hx hb dL_law_33 (by decide) (fun c9 => ?_) (fun c9 => ?_)
  · refine lv_iconst (v := 1) hx hb dL_law_574 rfl ?_
    refine va_forget (fun q hq => hS.2.2 q hq) ?_
    refine W.widen (k := 600000) (n := 7302250) hcs hss ?_
    exact lw_ret hx hb hr hlocks dL_law_575
  · refine kk ?_ G ad p l e s m below meth c H locs la C0 hK hP hD hS hl O
    have h3 : ¬ (nI L - nI 5 < nI i) := c9
    rw [Int32.lt_iff_toInt_lt, e1, e2] at h3
    omega
theorem and15 (a : Int32) : ∃ k, k < 16 ∧ a &&& 15 = nI k := by
  obtain ⟨q, e⟩ : ∃ q : Nat, a = nI q := ⟨a.toBitVec.toNat, Int32.toBitVec_inj.mp (by
    show a.toBitVec = BitVec.ofNat 32 a.toBitVec.toNat
    rw [BitVec.ofNat_toNat, BitVec.setWidth_eq])⟩
  subst e
  refine ⟨q % 16, Nat.mod_lt _ (by decide), ?_⟩
  rw [show (15 : Int32) = nI 15 from rfl, nx_and]
  congr 1
  exact Nat.and_two_pow_sub_one_eq_mod q 4
/-- the switch -/
theorem xl_switch (hL : L ≤ 2561) (hi : i < L) (kk : ∀ (k : Nat) (off : Int) (tgt : Nat), k < 16 → (#[78, 131, 164, 207, 220, 243, 256, 269, 282, 315, 348, 371, 414, 447, 460, 503] : Array Int)[k]? = some off → (42 : Int) + off = (tgt : Int) → xl_X b L xs x m0 i cs ss tgt [] hs) : xl_X b L xs x m0 i cs ss 36 [] hs := by
  intro G ad p l e s m below meth c H locs la C0 hK hP hD hS hl O
  obtain ⟨hx, hb, hr, hml, hown, hts, hX, hbl, hlocks, hgv⟩ := id C0
  refine lv_aload_n hx hb dL_law_36 rfl (lv_at hl 3 rfl) ?_
  refine lv_iload_n hx hb dL_law_37 rfl (lv_at hl 0 rfl) ?_
  refine va_sld hx hb hX hbl (Nat.not_le.mpr hbl) hS (vp_in_nI hi (by omega)) dL_law_38 ?_
  refine lv_bipush (v := 15) hx hb dL_law_39 (by decide) ?_
  refine lv_iand hx hb dL_law_41 ?_
  obtain ⟨k, hk, ek⟩ := and15 (xs (nI i).toNatClampNeg)
  rw [ek]
  have e2 : (nI k).toInt = (k : Int) := nI_toInt (by omega)
  have ho : ∃ off : Int, (#[78, 131, 164, 207, 220, 243, 256, 269, 282, 315, 348, 371, 414, 447, 460, 503] : Array Int)[k]? = some off ∧ ∃ tgt : Nat, (42 : Int) + off = (tgt : Int) := by
    have : ∀ k, k < 16 → ∃ off : Int, (#[78, 131, 164, 207, 220, 243, 256, 269, 282, 315, 348, 371, 414, 447, 460, 503] : Array Int)[k]? = some off ∧ ∃ tgt : Nat, (42 : Int) + off = (tgt : Int) := by
      intro k hk
      match k, hk with
      | 0, _ => exact ⟨_, rfl, 120, by decide⟩
      | 1, _ => exact ⟨_, rfl, 173, by decide⟩
      | 2, _ => exact ⟨_, rfl, 206, by decide⟩
      | 3, _ => exact ⟨_, rfl, 249, by decide⟩
      | 4, _ => exact ⟨_, rfl, 262, by decide⟩
      | 5, _ => exact ⟨_, rfl, 285, by decide⟩
      | 6, _ => exact ⟨_, rfl, 298, by decide⟩
      | 7, _ => exact ⟨_, rfl, 311, by decide⟩
      | 8, _ => exact ⟨_, rfl, 324, by decide⟩
      | 9, _ => exact ⟨_, rfl, 357, by decide⟩
      | 10, _ => exact ⟨_, rfl, 390, by decide⟩
      | 11, _ => exact ⟨_, rfl, 413, by decide⟩
      | 12, _ => exact ⟨_, rfl, 456, by decide⟩
      | 13, _ => exact ⟨_, rfl, 489, by decide⟩
      | 14, _ => exact ⟨_, rfl, 502, by decide⟩
      | 15, _ => exact ⟨_, rfl, 545, by decide⟩
      | k + 16, h => exact absurd h (by omega)
    exact this k hk
  obtain ⟨off, h1, tgt, h2⟩ := ho
  refine lv_tableIn (tgt := tgt) (off := off) hx hb dL_law_42 (by rw [e2]; omega) (by rw [e2]; omega) (by rw [e2, Int.sub_zero, Int.toNat_natCast]; exact h1) h2 ?_
  exact kk k off tgt hk h1 h2 G ad p l e s m below meth c H locs la C0 hK hP hD hS hl O
end XL
