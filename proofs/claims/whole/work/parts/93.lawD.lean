/-! The law: its entry. Own text. -/
/-- what the tables say at the start -/
theorem lw_known {p : Program} {s : State} {m : MethodId} {meth : Method} {c : Code} {b L : Nat} {xs : Nat → Int32} (C0 : lw_At p s m meth c b L xs) : ∃ G : xk_G, xk_K G (fun q => s.heap.size ≤ q) s s.heap := by
  obtain ⟨hx, hb, hr, hml, hown, hts, hX, hbl, hlocks, hgv⟩ := C0
  have hts2 : ∀ w ∈ xk_WS, w.before #[Value.ref b] s = true := fun w hw => hts w (xk_good w hw).1
  have hA : ∀ a : Nat, a < s.heap.size → ¬ (fun q : Nat => s.heap.size ≤ q) a := fun a h1 h2 => absurd h1 (Nat.not_lt.mpr h2)
  obtain ⟨c0, i0, k0⟩ := u_known (C := RX0) (T := TX0) (N := 1) (n := 1) hts2 inX0 (hts2 _ wz_X0)
  obtain ⟨c1, i1, k1⟩ := u_known (C := RX2) (T := TX2) (N := 8) (n := 8) hts2 inX2 (hts2 _ wz_X2)
  obtain ⟨c2, i2, k2⟩ := u_known (C := RX3) (T := TX3) (N := 2) (n := 2) hts2 inX3 (hts2 _ wz_X3)
  obtain ⟨c3, i3, k3⟩ := u_known (C := RX4) (T := TX4) (N := 2) (n := 2) hts2 inX4 (hts2 _ wz_X4)
  obtain ⟨c4, i4, k4⟩ := u_known (C := RX5) (T := TX5) (N := 3) (n := 3) hts2 inX5 (hts2 _ wz_X5)
  obtain ⟨c5, i5, k5⟩ := u_known (C := RX6) (T := TX6) (N := 2) (n := 2) hts2 inX6 (hts2 _ wz_X6)
  obtain ⟨c6, i6, k6⟩ := u_known (C := RX7) (T := TX7) (N := 5) (n := 5) hts2 inX7 (hts2 _ wz_X7)
  obtain ⟨c7, i7, k7⟩ := u_known (C := RX8) (T := TX8) (N := 8) (n := 8) hts2 inX8 (hts2 _ wz_X8)
  obtain ⟨c8, i8, k8⟩ := u_known (C := RX9) (T := TX9) (N := 25) (n := 25) hts2 inX9 (hts2 _ wz_X9)
  have arr : ∀ ty : FieldType, (Cond.arrayClass ty).before #[Value.ref b] s = true → ∃ cA, ArrOfT s cA ty ∧ s.vm.findClass ("[" ++ ty.toString) = some cA := by
    intro ty h
    obtain ⟨cA, kA, comp, f1, f2, f3⟩ := Cond.arrayClass_spec h
    exact ⟨cA, fun n z => ⟨fun k h => (by cases h), kA, f2, comp, f3⟩, f1⟩
  obtain ⟨a0, b0, d0⟩ := arr .int (hts2 _ wa_int)
  obtain ⟨a1, b1, d1⟩ := arr .long (hts2 _ wa_long)
  obtain ⟨a2, b2, d2⟩ := arr .boolean (hts2 _ wa_boolean)
  have aoJ : va_AOA .long s := hts (.arrayOver (.array .long)) (by decide +kernel)
  have aoI : va_AOA .int s := hts (.arrayOver (.array .int)) (by decide +kernel)
  have arr2 : ∀ ty : FieldType, va_AOA ty s → ∃ cA, ArrOfT s cA (.array ty) ∧ s.vm.findClass ("[" ++ (FieldType.array ty).toString) = some cA := by
    intro ty h
    obtain ⟨comp, cA, kA, f1, f2, f3, f4, f5⟩ := arrayOverA_spec h
    exact ⟨cA, fun n z => ⟨fun k h => (by cases h), kA, f3, comp, f4⟩, f5⟩
  obtain ⟨a3, b3, d3⟩ := arr2 .int aoI
  obtain ⟨a4, b4, d4⟩ := arr2 .long aoJ
  have hq := flat_of_before _ hgv
  have hel : ∀ j : Nat, j < 10 → (Term.elem (Term.static "PairScales$Leaving" "LOGS" "[I") (.int (Int32.ofNat j))).eval #[Value.ref b] s none [] s = some (xk_logs j) := by
    intro j hj
    match j, hj with
    | 0, _ => exact va_eqt (hq (.eq (.elem (.static "PairScales$Leaving" "LOGS" "[I") (.int 0)) (.int 0)) (by decide +kernel))
    | 1, _ => exact va_eqt (hq (.eq (.elem (.static "PairScales$Leaving" "LOGS" "[I") (.int 1)) (.int 0)) (by decide +kernel))
    | 2, _ => exact va_eqt (hq (.eq (.elem (.static "PairScales$Leaving" "LOGS" "[I") (.int 2)) (.int 1)) (by decide +kernel))
    | 3, _ => exact va_eqt (hq (.eq (.elem (.static "PairScales$Leaving" "LOGS" "[I") (.int 3)) (.int 64)) (by decide +kernel))
    | 4, _ => exact va_eqt (hq (.eq (.elem (.static "PairScales$Leaving" "LOGS" "[I") (.int 4)) (.int 2)) (by decide +kernel))
    | 5, _ => exact va_eqt (hq (.eq (.elem (.static "PairScales$Leaving" "LOGS" "[I") (.int 5)) (.int 4096)) (by decide +kernel))
    | 6, _ => exact va_eqt (hq (.eq (.elem (.static "PairScales$Leaving" "LOGS" "[I") (.int 6)) (.int 65)) (by decide +kernel))
    | 7, _ => exact va_eqt (hq (.eq (.elem (.static "PairScales$Leaving" "LOGS" "[I") (.int 7)) (.int 262144)) (by decide +kernel))
    | 8, _ => exact va_eqt (hq (.eq (.elem (.static "PairScales$Leaving" "LOGS" "[I") (.int 8)) (.int 3)) (by decide +kernel))
    | 9, _ => exact va_eqt (hq (.eq (.elem (.static "PairScales$Leaving" "LOGS" "[I") (.int 9)) (.int 128)) (by decide +kernel))
    | k + 10, h => exact absurd h (by omega)
  obtain ⟨t, ht, hT⟩ := va_Tof (ty := .int) (N := 10) (f := xk_logs) (A := fun q : Nat => s.heap.size ≤ q) (by decide) (hq (.arrayOf (.static "PairScales$Leaving" "LOGS" "[I") .int) (by decide +kernel)) (va_eqt (hq (.eq (.length (.static "PairScales$Leaving" "LOGS" "[I")) (.int 10)) (by decide +kernel))) hel hA
  have hZ := va_Zof (A := fun q : Nat => s.heap.size ≤ q) (hts (.laysStatic "PairScales$Leaving" "LOGS" "[I") (by decide +kernel)) (hts2 _ wn_X2) ht hA
  have hN : ∀ w ∈ xk_nest, w ∈ lw_tbl := by
    intro w hw
    simp only [xk_nest, List.mem_cons, List.not_mem_nil, or_false] at hw
    rcases hw with rfl | rfl | rfl | rfl | rfl | rfl | rfl | rfl | rfl | rfl <;> decide +kernel
  refine ⟨((fun k => if k = 0 then c0 else if k = 1 then c1 else if k = 2 then c2 else if k = 3 then c3 else if k = 4 then c4 else if k = 5 then c5 else if k = 6 then c6 else if k = 7 then c7 else c8, fun k => if k = 0 then i0 else if k = 1 then i1 else if k = 2 then i2 else if k = 3 then i3 else if k = 4 then i4 else if k = 5 then i5 else if k = 6 then i6 else if k = 7 then i7 else i8), fun k => if k = 0 then a0 else if k = 1 then a1 else if k = 2 then a2 else if k = 3 then a3 else a4, t), ⟨fun k q hk => ?_, fun k q hk => ?_⟩, fun w hw => va_Nw.of (xk_nest_on w hw) (hts w (hN w hw)), hZ, hT, aoJ, aoI⟩
  · match k, hk with
    | 0, hk => cases hk; exact k0
    | 1, hk => cases hk; exact k1
    | 2, hk => cases hk; exact k2
    | 3, hk => cases hk; exact k3
    | 4, hk => cases hk; exact k4
    | 5, hk => cases hk; exact k5
    | 6, hk => cases hk; exact k6
    | 7, hk => cases hk; exact k7
    | 8, hk => cases hk; exact k8
    | k + 9, hk => simp [vwCl] at hk
  · match k, hk with
    | 0, hk => cases hk; exact ⟨b0, d0⟩
    | 1, hk => cases hk; exact ⟨b1, d1⟩
    | 2, hk => cases hk; exact ⟨b2, d2⟩
    | 3, hk => cases hk; exact ⟨b3, d3⟩
    | 4, hk => cases hk; exact ⟨b4, d4⟩
    | k + 5, hk => simp [xk_t] at hk
/-- the script's first int, or 0 -/
def cell0 (L : Nat) (xs : Nat → Int32) : Int32 := if 0 < L then xs 0 else 0
set_option maxHeartbeats 4000000 in
set_option maxRecDepth 100000 in
theorem y_L_cell (l : Launch) (G : xk_G) (ad : Nat → Nat) (sz b L : Nat) (xs : Nat → Int32) (hs : xk_H) (hL : L ≤ 2561) (O : xk_okH hs) : Met l mL_cell.1 (xk_ws mL_cell) (xk_rm 0 0 0) (va_Pc [.ref b, .int 0] (fun U => U.heap.size = sz ∧ va_P G.1 vwCl (xk_w G.2.1 ad hs) U.heap ∧ va_D (fun _ => True) (xk_w G.2.1 ad hs) ∧ va_X b L xs U U.heap ∧ b < sz ∧ ¬ va_A (xk_w G.2.1 ad hs) sz b)) (xk_Q G (xk_fx false hs) ad (fun r h => r = some (.int (cell0 L xs)) ∧ h = hs) (va_A (xk_w G.2.1 ad hs) sz)) 0 0 (va_A (xk_w G.2.1 ad hs) sz) := by
  refine Met.ofW (cc := mL_cell.2.1) (maxL := mL_cell.2.2.1) (ret := mL_cell.2.2.2) (by decide) rfl ?_
  intro p e s m args below meth c s₁ B hml hv
  obtain ⟨rfl, hsz, hP, hD0, hX, hbl, hbA⟩ := hv
  subst hsz
  have hD := hD0.self (sz := s.heap.size)
  have hl := lv_entry ([.ref b, .int 0]) (n := 2) (Nat.le_of_ble_eq_true rfl)
  rw [lg_entry_eq]
  generalize (lg_sl ([.ref b, .int 0]) ++ List.replicate (2 - (lg_sl ([.ref b, .int 0])).length) Slot.unset).toArray = ls at hl ⊢
  have hl : lv_has ls 2 [(0, .ref b), (1, .int 0)] := hl
  have hS : va_S (va_A (xk_w G.2.1 ad hs) s.heap.size) s.heap s.heap [] := va_S.rf
  have fin : ∀ v : Int32, v = cell0 L xs → W p l e (xk_rm 0 0 0) s m #[.ref b, .int 0] below meth c s.heap [] 0 0 (MQ below (xk_Q G (xk_fx false hs) ad (fun r h => r = some (.int (cell0 L xs)) ∧ h = hs) (va_A (xk_w G.2.1 ad hs) s.heap.size)) #[.ref b, .int 0] s 0 0 (va_A (xk_w G.2.1 ad hs) s.heap.size)) (F0 m 13 ls [.int v]) := by
    intro v hv
    exact W.iret B.exec B.bytes B.returns (fun t ht hW => ⟨⟨some (.int v), hs, ad, rfl, ⟨by rw [hv], rfl⟩, ⟨fun _ h => absurd h List.not_mem_nil, fun w hw => by rw [List.mem_singleton.mp hw]; trivial, O⟩, fun _ _ => rfl, by rw [ht]; exact hP, hD⟩, hS.F ht⟩) hS.2.2 dL_cell_13 B.notSynchronized
  refine lv_iload_n B.exec B.bytes dL_cell_0 rfl (lv_at hl 1 rfl) ?_
  refine lv_aload_n B.exec B.bytes dL_cell_1 rfl (lv_at hl 0 rfl) ?_
  refine va_slen B.exec B.bytes hX hbl hbA hS dL_cell_2 ?_
  refine lv_icmp_ge (tgt := 12) B.exec B.bytes dL_cell_3 (by decide) (fun c3 => ?_) (fun c3 => ?_)
  · refine lv_iconst (v := 0) B.exec B.bytes dL_cell_12 rfl ?_
    refine fin 0 ?_
    have : ¬ 0 < L := fun z => nI_ge (a := 0) z (by omega) c3
    unfold cell0
    rw [if_neg this]
  · have h0 : 0 < L := by
      rcases Nat.eq_zero_or_pos L with z | z
      · exact absurd (by rw [z]; exact nI_le (a := 0) (b := 0) (Nat.le_refl _) (by decide)) c3
      · exact z
    refine lv_aload_n B.exec B.bytes dL_cell_6 rfl (lv_at hl 0 rfl) ?_
    refine lv_iload_n B.exec B.bytes dL_cell_7 rfl (lv_at hl 1 rfl) ?_
    refine va_sld B.exec B.bytes hX hbl hbA hS (vp_in_nI (n := 0) h0 (by omega)) dL_cell_8 ?_
    refine lv_goto (tgt := 13) B.exec B.bytes dL_cell_9 (by decide) ?_
    exact fin _ (by unfold cell0; rw [if_pos h0]; rfl)
/-- at the law's entry: locals 1 to 3 as far as they are known -/
def xe_X (b L : Nat) (xs : Nat → Int32) (cs ss pc : Nat) (ls : List (Option Value)) (st : List Value) (hs : xk_H) : Prop :=
  ∀ (G : xk_G) (ad : Nat → Nat) (p : Program) (l : Launch) (e : Env) (s : State) (m : MethodId) (below : List Frame) (meth : Method) (c : Code) (H : Heap) (locs : List Loc) (la : Array Slot),
    lw_At p s m meth c b L xs → xk_K G (xl_A s) s s.heap → va_P G.1 vwCl (xk_w G.2.1 ad hs) H → va_D (xl_A s) (xk_w G.2.1 ad hs) → va_S (xl_A s) s.heap H locs → lv_has la 4 ((0, .ref b) :: xk_l ad 1 ls) → xk_OK ls st hs →
    W p l e room_1 s m #[Value.ref b] below meth c H locs cs ss (lw_Z below #[Value.ref b] s) (F0 m pc la (st.map (xk_v ad)))
section XE
variable {b L : Nat} {xs : Nat → Int32} {cs ss pc : Nat} {ls : List (Option Value)} {st : List Value} {hs : xk_H}
theorem xe_new {index ci : Nat} {r : vw_C} {fs : List Value} (ty0 : Nat → FieldType) (hd : decode code pc = .ok (.new index, 3)) (hc : vwCl[ci]? = some r) (hin : ∀ w ∈ u_ws r.1 r.2.1 r.2.2, w ∈ xk_WS) (hty : ∀ k, k < r.2.2 → parseFieldDescriptor (r.2.1 k).2.2.1 = some (ty0 k)) (hlk : Cond.classLink RL index r.1 ∈ xk_WS) (hinst : Cond.instantiable r.1 r.2.2 ∈ xk_WS) (hini : Cond.initialized r.1 ∈ xk_WS) (hfs : ∀ j, j < r.2.2 → defaultValue (ty0 j) = vp_V fs j) (hfs0 : ∀ v ∈ fs, xk_ok 0 v) (hcs : cs + 1 ≤ 600000) (hss : ss + r.2.2 ≤ 7302250)
    (kk : xe_X b L xs (cs + 1) (ss + r.2.2) (pc + 3) ls (.ref hs.length :: st) (hs ++ [.inr (ci, fs)])) : xe_X b L xs cs ss pc ls st hs := by
  intro G ad p l e s m below meth c H locs la C0 hK hP hD hS hl O
  obtain ⟨hx, hb, hr, hml, hown, hts0, hX, hbl, hlocks, hgv⟩ := id C0
  have hts : ∀ w ∈ xk_WS, w.before #[Value.ref b] s = true := fun w hw => hts0 w (xk_good w hw).1
  obtain ⟨rC, rT, rN⟩ := r
  refine va_new (own := RL) (ci := ci) (fs := fs) (C := rC) (T := rT) (N := rN) hx hb hts hin ty0 hty hown (hts _ hlk) (hts _ hinst) (hts _ hini) hK.1 hP hD hS (fun _ h => h) hc hfs hcs hss hd (fun q H1 hP1 hD1 hS1 => ?_)
  have hadd : ∀ k, k < hs.length → xk_ad ad hs.length q k = ad k := fun k hk => xk_ad_lt hk
  have ew : xk_w G.2.1 (xk_ad ad hs.length q) (hs ++ [.inr (ci, fs)]) = xk_w G.2.1 ad hs ++ [(q, .inr (ci, fs))] := by
    rw [xk_w_app, xk_w_congr hadd O.2.2, xk_ad_eq]
    show xk_w G.2.1 ad hs ++ [(q, (Sum.inr (ci, fs.map (xk_v (xk_ad ad hs.length q))) : va_E))] = _
    rw [xk_vs_0 _ hfs0]
  have O2 := O.app (es := [.inr (ci, fs)]) (fun e he => by
    rw [List.mem_singleton.mp he]
    exact fun v hv => xk_ok_le (Nat.zero_le _) v (hfs0 v hv))
  have h := kk G (xk_ad ad hs.length q) p l e s m below meth c H1 locs la C0 hK (by rw [ew]; exact hP1) (by rw [ew]; exact hD1) hS1 (by rw [xk_l_congr hadd ls 1 O.1]; exact hl) ⟨O2.1, xk_cs (show hs.length < (hs ++ [(Sum.inr (ci, fs) : xk_C)]).length by simp) O2.2.1, O2.2.2⟩
  rw [List.map_cons, xk_vs_congr hadd O.2.1, show xk_v (xk_ad ad hs.length q) (.ref hs.length) = .ref q from by show Value.ref (xk_ad ad hs.length q hs.length) = _; rw [xk_ad_eq]] at h
  exact h
theorem xe_dup {a : Nat} (hd : decode code pc = .ok (.dup, 1)) (kk : xe_X b L xs cs ss (pc + 1) ls (.ref a :: .ref a :: st) hs) : xe_X b L xs cs ss pc ls (.ref a :: st) hs :=
  fun G ad p l e s m below meth c H locs la C0 hK hP hD hS hl O => lv_dup C0.1 C0.2.1 hd rfl (kk G ad p l e s m below meth c H locs la C0 hK hP hD hS hl ⟨O.1, xk_cs (xk_hd O.2.1) O.2.1, O.2.2⟩)
theorem xe_cell (hL : L ≤ 2561) (h0 : decode code pc = .ok (.aload_n 0, 1)) (h1 : decode code (pc + 1) = .ok (.iconst 0, 1)) (h2 : decode code (pc + 1 + 1) = .ok (.invokestatic 9, 3)) (hcs : cs ≤ 600000) (hss : ss ≤ 7302250) (hcat : (st.map fun v => v.category).sum ≤ 8) (kk : xe_X b L xs cs ss (pc + 1 + 1 + 3) ls (.int (cell0 L xs) :: st) hs) : xe_X b L xs cs ss pc ls st hs := by
  intro G ad p l e s m below meth c H locs la C0 hK hP hD hS hl O
  obtain ⟨hx, hb, hr, hml, hown, hts0, hX, hbl, hlocks, hgv⟩ := id C0
  have hts2 : ∀ w ∈ xk_WS, w.before #[Value.ref b] s = true := fun w hw => hts0 w (xk_good w hw).1
  refine lv_aload_n hx hb h0 rfl (hl.2.2 (0, .ref b) List.mem_cons_self) ?_
  refine lv_iconst (v := 0) hx hb h1 rfl ?_
  have hA : ∀ q, va_A (xk_w G.2.1 ad hs) H.size q → xl_A s q := by
    intro q h
    rcases h with ⟨k, e, h⟩ | h
    · exact hD.2 k (q, e) h
    · exact Nat.le_trans hS.1 h
  have hcat' : ((st.map (xk_v ad)).map fun v => v.category).sum ≤ 8 := by
    rw [List.map_map]
    have : ((fun v : Value => v.category) ∘ xk_v ad) = fun v => v.category := funext fun v => xk_cat ad v
    rw [this]
    exact hcat
  have hB : CallB room_1 s #[Value.ref b] RL 9 mL_cell.1 mL_cell.2.1 mL_cell.2.2.1 mL_cell.2.2.2 (xk_ws mL_cell) (xk_rm 0 0 0) 0 0 2 := by
    obtain ⟨h1, h2, h3, h4, h5⟩ := cv_L_cell
    refine ⟨rfl, rfl, by show 0 + 1 ≤ 2048; omega, by show 8 + (2 + 11) + 40 * 0 ≤ 84000; omega, ?_, List.mem_cons_self, hts2 _ h1, hts2 _ h2, h3, ?_, hts2 _ wm_L_9⟩
    · intro w hw a' U hW
      rcases List.mem_cons.mp hw with rfl | hw
      · exact word_at hW (xk_good _ h1).2 (hts2 _ h1)
      · exact word_at hW (xk_good w hw).2 (hts2 w hw)
    · intro sig h
      rw [h] at h4
      exact (Option.some.inj h4).symm
  have hX1 : va_X b L xs s H := hX.kept (hS.2.1 b hbl (Nat.not_le.mpr hbl))
  have hbl1 : b < H.size := Nat.lt_of_lt_of_le hbl hS.1
  refine xk_go (va_runS (cc := code) (Ts := xk_WS) (own := RL) (As := [.ref b, .int 0]) (rest := st.map (xk_v ad)) (n := 2) ⟨hx, hb, hml, hown, hts2⟩ (y_L_cell l G ad H.size b L xs hs hL O.2.2) ⟨hB, hts2 _ wt_L_cell⟩ ⟨fun a U g mk q => ⟨q.1, q.2.1, q.2.2.1, q.2.2.2.1, va_X.moved (u := U) (U := U.calling g mk a) (Vm.Alike.refl U.vm) q.2.2.2.2.1, q.2.2.2.2.2⟩, fun U hU hW => ⟨rfl, by rw [hU], by rw [hU]; exact hP, hD.weaken (fun _ _ _ _ => trivial), by rw [hU]; exact va_X.moved hW.alike hX1, hbl1, fun z => absurd hbl (Nat.not_lt.mpr (hA b z))⟩⟩ rfl rfl hl.1 rfl (lv_room hcat') h2 ⟨hcs, hss⟩) hS (fun q _ h => hA q h) hA (fun r hs' ad' H1 locs1 ho hok hfx hP1 hD1 hS1 => ?_)
  obtain ⟨rfl, rfl⟩ := ho
  have hadd : ad' = ad := funext fun k => hfx k (fun h => by cases h)
  subst hadd
  exact kk G ad' p l e s m below meth c H1 locs1 la C0 hK hP1 (hD1.weaken fun _ q _ z => hA q.1 z) hS1 hl ⟨O.1, xk_cs trivial O.2.1, O.2.2⟩
theorem xe_callI {M' : xk_M} {d' index b0 mc' ms' : Nat} {out' : Option Value → xk_H → Prop} {v0 : Value} {rest : List Value} (hd : decode code pc = .ok (.invokespecial index, 3)) (hlk : Cond.methodLink RL index M'.1 ∈ xk_WS) (hcv : xk_CV M' 1) (hin : Cond.instanceMethod M'.1 ∈ xk_WS) (hnm : M'.1.name = "<init>") (hrt : M'.2.2.2 = none) (hdd : d' ≤ 1000) (hcs : cs + mc' ≤ 600000) (hss : ss + ms' ≤ 7302250) (hcat : (rest.map fun v => v.category).sum ≤ 8) (hY : xk_Y d' mc' ms' M' true (.ref b0 :: [v0]) hs out')
    (hlen : ∀ (r : Option Value) (hs' : xk_H), out' r hs' → hs.length ≤ hs'.length) (kk : ∀ (r : Option Value) (hs' : xk_H), out' r hs' → xe_X b L xs (cs + mc') (ss + ms') (pc + 3) ls (r.toList ++ rest) hs') : xe_X b L xs cs ss pc ls (v0 :: .ref b0 :: rest) hs := by
  intro G ad p l e s m below meth c H locs la C0 hK hP hD hS hl O
  obtain ⟨hx, hb, hr, hml, hown, hts0, hX, hbl, hlocks, hgv⟩ := id C0
  have hts2 : ∀ w ∈ xk_WS, w.before #[Value.ref b] s = true := fun w hw => hts0 w (xk_good w hw).1
  have hO1 : xk_OK [] (.ref b0 :: [v0]) hs := ⟨fun _ h => absurd h List.not_mem_nil, fun v hv => O.2.1 v (by
    rcases List.mem_cons.mp hv with rfl | hv
    · simp
    · rw [List.mem_singleton.mp hv]; simp), O.2.2⟩
  have hA : ∀ q, va_A (xk_w G.2.1 ad hs) H.size q → xl_A s q := by
    intro q h
    rcases h with ⟨k, e, h⟩ | h
    · exact hD.2 k (q, e) h
    · exact Nat.le_trans hS.1 h
  have hcat' : ((rest.map (xk_v ad)).map fun v => v.category).sum ≤ 8 := by
    rw [List.map_map]
    have : ((fun v : Value => v.category) ∘ xk_v ad) = fun v => v.category := funext fun v => xk_cat ad v
    rw [this]
    exact hcat
  have hB : CallB room_1 s #[Value.ref b] RL index M'.1 M'.2.1 M'.2.2.1 M'.2.2.2 (xk_ws M') (xk_rm d' mc' ms') mc' ms' 1 := by
    obtain ⟨h1, h2, h3, h4, h5⟩ := hcv
    refine ⟨rfl, rfl, ?_, ?_, ?_, List.mem_cons_self, hts2 _ h1, hts2 _ h2, h3, ?_, hts2 _ hlk⟩
    · show d' + 1 ≤ 2048; omega
    · show 8 + (M'.2.2.1 + 11) + 40 * d' ≤ 84000; omega
    · intro w hw a' U hW
      rcases List.mem_cons.mp hw with rfl | hw
      · exact word_at hW (xk_good _ h1).2 (hts2 _ h1)
      · exact word_at hW (xk_good w hw).2 (hts2 w hw)
    · intro sig h
      rw [h] at h4
      exact (Option.some.inj h4).symm
  rw [hrt] at hB
  have hpre : ∀ U : State, U.heap = H → s.WarmedH U.vm → va_Pc ((Value.ref b0 :: [v0]).map (xk_v ad)) (fun U => U.heap.size = H.size ∧ va_P G.1 vwCl (xk_w G.2.1 ad hs) U.heap ∧ va_D (fun _ => True) (xk_w G.2.1 ad hs) ∧ xk_K G (va_A (xk_w G.2.1 ad hs) H.size) U U.heap) ((Value.ref b0 :: [v0]).map (xk_v ad)).toArray U := by
    intro U hU hW
    refine ⟨rfl, by rw [hU], by rw [hU]; exact hP, hD.weaken (fun _ _ _ _ => trivial), ?_⟩
    rw [hU]
    exact ((hK.kept hS.2.1).narrow hA).warm hW
  refine xk_go (va_runI (cc := code) (Ts := xk_WS) (own := RL) (As := [v0].map (xk_v ad)) (rest := rest.map (xk_v ad)) (b := ad b0) (n := 1) ⟨hx, hb, hml, hown, hts2⟩ (hY hO1 l G ad H.size) ⟨hB, hnm, hts2 _ hin⟩ ⟨xk_blind, hpre⟩ rfl rfl hl.1 rfl (lv_room hcat') hd ⟨hcs, hss⟩) hS (fun q _ h => hA q h) hA (fun r hs' ad' H1 locs1 ho hok hfx hP1 hD1 hS1 => ?_)
  have hadd : ∀ k, k < hs.length → ad' k = ad k := fun k hk => hfx k (fun _ => hk)
  have hl2 := hlen r hs' ho
  have hrest : xk_okS hs.length rest := fun v hv => O.2.1 v (by simp [hv])
  have h := kk r hs' ho G ad' p l e s m below meth c H1 locs1 la C0 hK hP1 (hD1.weaken fun _ q _ z => hA q.1 z) hS1 (by rw [xk_l_congr hadd ls 1 O.1]; exact hl) ⟨fun v hv => xk_ok_le hl2 v (O.1 v hv), fun v hv => by
    rcases List.mem_append.mp hv with h | h
    · exact hok.2.1 v h
    · exact xk_ok_le hl2 v (hrest v h), hok.2.2⟩
  rw [List.map_append, xk_vs_congr hadd hrest] at h
  cases r <;> exact h
theorem xe_a1 {a : Nat} (hd : decode code pc = .ok (.astore_n 1, 1)) (kk : xe_X b L xs cs ss (pc + 1) [some (.ref a), none, none] [] hs) : xe_X b L xs cs ss pc [none, none, none] [.ref a] hs := by
  intro G ad p l e s m below meth c H locs la C0 hK hP hD hS hl O
  refine lv_astore_n (lv' := [(1, .ref (ad a)), (0, .ref b)]) C0.1 C0.2.1 hd rfl hl (by decide) rfl (fun la hl => ?_)
  exact kk G ad p l e s m below meth c H locs la C0 hK hP hD hS ⟨hl.1, hl.2.1, fun q hq => hl.2.2 q (by
    rcases List.mem_cons.mp hq with rfl | hq
    · simp
    · rw [show xk_l ad 1 [some (.ref a), none, none] = [(1, .ref (ad a))] from rfl] at hq
      rw [List.mem_singleton.mp hq]; simp)⟩ ⟨fun v hv => by
        simp only [List.mem_cons, Option.some.injEq, reduceCtorEq, List.not_mem_nil, or_false] at hv
        rw [hv]
        exact xk_hd O.2.1, fun v hv => absurd hv List.not_mem_nil, O.2.2⟩
theorem xe_a2 {a a2 : Nat} (hd : decode code pc = .ok (.astore_n 2, 1)) (kk : xe_X b L xs cs ss (pc + 1) [some (.ref a), some (.ref a2), none] [] hs) : xe_X b L xs cs ss pc [some (.ref a), none, none] [.ref a2] hs := by
  intro G ad p l e s m below meth c H locs la C0 hK hP hD hS hl O
  refine lv_astore_n (lv' := [(2, .ref (ad a2)), (0, .ref b), (1, .ref (ad a))]) C0.1 C0.2.1 hd rfl hl (by decide) rfl (fun la hl => ?_)
  exact kk G ad p l e s m below meth c H locs la C0 hK hP hD hS ⟨hl.1, hl.2.1, fun q hq => hl.2.2 q (by
    rcases List.mem_cons.mp hq with rfl | hq
    · simp
    · rw [show xk_l ad 1 [some (.ref a), some (.ref a2), none] = [(1, .ref (ad a)), (2, .ref (ad a2))] from rfl] at hq
      rcases List.mem_cons.mp hq with rfl | hq
      · simp
      · rw [List.mem_singleton.mp hq]; simp)⟩ ⟨fun v hv => by
        simp only [List.mem_cons, Option.some.injEq, reduceCtorEq, List.not_mem_nil, or_false] at hv
        rcases hv with rfl | rfl
        · exact O.1 _ (by simp)
        · exact xk_hd O.2.1, fun v hv => absurd hv List.not_mem_nil, O.2.2⟩
theorem xe_loop {a a2 : Nat} (kk : xl_X b L xs a a2 1 cs ss 28 [] hs) : xe_X b L xs cs ss 26 [some (.ref a), some (.ref a2), none] [] hs := by
  intro G ad p l e s m below meth c H locs la C0 hK hP hD hS hl O
  refine lv_iconst (v := 1) C0.1 C0.2.1 dL_law_26 rfl ?_
  refine lv_istore_n (lv' := [(3, .int 1), (0, .ref b), (1, .ref (ad a)), (2, .ref (ad a2))]) C0.1 C0.2.1 dL_law_27 rfl hl (by decide) rfl (fun la hl => ?_)
  exact kk G ad p l e s m below meth c H locs la C0 hK hP hD hS ⟨hl.1, hl.2.1, fun q hq => hl.2.2 q (by
    simp only [List.mem_cons, List.not_mem_nil, or_false] at hq ⊢
    rcases hq with rfl | rfl | rfl | rfl
    · exact Or.inl rfl
    · simp
    · simp
    · simp)⟩ ⟨fun _ h => absurd h List.not_mem_nil, xk_cs (O.1 _ (by simp)) (xk_cs (O.1 _ (by simp)) (fun v hv => absurd hv List.not_mem_nil)), O.2.2⟩
end XE
