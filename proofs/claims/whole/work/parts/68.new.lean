/-! New cells over the abstract heap. Own text. -/
theorem xk_w_app (K : Nat → ClassId) (ad : Nat → Nat) (hs : xk_H) (e : xk_C) : xk_w K ad (hs ++ [e]) = xk_w K ad hs ++ [(ad hs.length, xk_e K ad e)] := by
  unfold xk_w
  rw [List.mapIdx_concat]
theorem xk_w_rep (K : Nat → ClassId) (ad : Nat → Nat) (hs : xk_H) (e : xk_C) : ∀ N : Nat, xk_w K ad (hs ++ List.replicate N e) = xk_w K ad hs ++ (List.range N).map (fun i => (ad (hs.length + i), xk_e K ad e))
  | 0 => by simp
  | N + 1 => by
    rw [List.replicate_succ', ← List.append_assoc, xk_w_app, xk_w_rep K ad hs e N, List.range_succ, List.map_append, List.append_assoc, List.length_append, List.length_replicate]
    rfl
def xk_ad (ad : Nat → Nat) (n q : Nat) : Nat → Nat := fun k => if k = n then q else ad k
theorem xk_ad_lt {ad : Nat → Nat} {n q k : Nat} (h : k < n) : xk_ad ad n q k = ad k := if_neg (by omega)
theorem xk_ad_eq {ad : Nat → Nat} {n q : Nat} : xk_ad ad n q n = q := if_pos rfl
theorem xk_v_0 (ad : Nat → Nat) : ∀ v : Value, xk_ok 0 v → xk_v ad v = v
  | .ref k, h => absurd h (Nat.not_lt_zero k)
  | .int _, _ => rfl
  | .long _, _ => rfl
  | .float _, _ => rfl
  | .double _, _ => rfl
  | .null, _ => rfl
  | .retAddr _, _ => rfl
theorem xk_vs_0 (ad : Nat → Nat) {fs : List Value} (h : ∀ v ∈ fs, xk_ok 0 v) : fs.map (xk_v ad) = fs :=
  (List.map_congr_left (g := id) (fun v hv => xk_v_0 ad v (h v hv))).trans (List.map_id fs)
theorem xa_old {hs es : xk_H} {k : Nat} (h : k < hs.length) : (hs ++ es)[k]? = hs[k]? := List.getElem?_append_left h
theorem xa_at {hs es : xk_H} {e : xk_C} {k : Nat} (h : k = hs.length) : (hs ++ e :: es)[k]? = some e := by
  subst h
  rw [List.getElem?_append_right (Nat.le_refl _), Nat.sub_self]
  rfl
theorem xa_rep {hs : xk_H} {e x : xk_C} {N i k : Nat} (hk : k = hs.length + 1 + i) (h : i < N) : (hs ++ e :: List.replicate N x)[k]? = some x := by
  subst hk
  rw [List.getElem?_append_right (by omega), show hs.length + 1 + i - hs.length = i + 1 by omega, List.getElem?_cons_succ, List.getElem?_replicate, if_pos h]
section XKN
variable {d mc ms : Nat} {M : xk_M} {fx : Nat → Prop} {out : Option Value → xk_H → Prop} {cs ss pc : Nat} {ls : List (Option Value)} {st : List Value} {hs : xk_H}
/-- a new object -/
theorem xk_new {index ci : Nat} {r : vw_C} {fs : List Value} (ty0 : Nat → FieldType) (hd : decode M.2.1 pc = .ok (.new index, 3)) (hc : vwCl[ci]? = some r) (hin : ∀ w ∈ u_ws r.1 r.2.1 r.2.2, w ∈ xk_WS) (hty : ∀ k, k < r.2.2 → parseFieldDescriptor (r.2.1 k).2.2.1 = some (ty0 k)) (hlk : Cond.classLink M.1.cls index r.1 ∈ xk_WS) (hinst : Cond.instantiable r.1 r.2.2 ∈ xk_WS) (hini : Cond.initialized r.1 ∈ xk_WS) (hfs : ∀ j, j < r.2.2 → defaultValue (ty0 j) = vp_V fs j) (hfs0 : ∀ v ∈ fs, xk_ok 0 v) (hcs : cs + 1 ≤ mc) (hss : ss + r.2.2 ≤ ms) (hfx0 : ∀ k, fx k → k < hs.length)
    (kk : xk_X d mc ms M fx out (cs + 1) (ss + r.2.2) (pc + 3) ls (.ref hs.length :: st) (hs ++ [.inr (ci, fs)])) : xk_X d mc ms M fx out cs ss pc ls st hs := by
  intro G ad0 ad p l e s m args below meth c A H locs la C hf hP hD hS hl O
  have hts := C.2.2.2.2.1
  obtain ⟨rC, rT, rN⟩ := r
  refine va_new (ci := ci) (fs := fs) (C := rC) (T := rT) (N := rN) C.1 C.2.1 hts hin ty0 hty C.2.2.2.2.2.1 (hts _ hlk) (hts _ hinst) (hts _ hini) C.2.2.2.2.2.2.2.2.2.1 hP hD hS C.2.2.2.2.2.2.2.2.1 hc hfs hcs hss hd (fun q H1 hP1 hD1 hS1 => ?_)
  have hadd : ∀ k, k < hs.length → xk_ad ad hs.length q k = ad k := fun k hk => xk_ad_lt hk
  have ew : xk_w G.2.1 (xk_ad ad hs.length q) (hs ++ [.inr (ci, fs)]) = xk_w G.2.1 ad hs ++ [(q, .inr (ci, fs))] := by
    rw [xk_w_app, xk_w_congr hadd O.2.2, xk_ad_eq]
    show xk_w G.2.1 ad hs ++ [(q, (Sum.inr (ci, fs.map (xk_v (xk_ad ad hs.length q))) : va_E))] = _
    rw [xk_vs_0 _ hfs0]
  have O2 := O.app (es := [.inr (ci, fs)]) (fun e he => by
    rw [List.mem_singleton.mp he]
    exact fun v hv => xk_ok_le (Nat.zero_le _) v (hfs0 v hv))
  have h := kk G ad0 (xk_ad ad hs.length q) p l e s m args below meth c A H1 locs la C (fun k hk => (hadd k (hfx0 k hk)).trans (hf k hk)) (by rw [ew]; exact hP1) (by rw [ew]; exact hD1) hS1 (by rw [xk_l_congr hadd ls 0 O.1]; exact hl) ⟨O2.1, xk_cs (show hs.length < (hs ++ [(Sum.inr (ci, fs) : xk_C)]).length by simp) O2.2.1, O2.2.2⟩
  rw [List.map_cons, xk_vs_congr hadd O.2.1, show xk_v (xk_ad ad hs.length q) (.ref hs.length) = .ref q from by show Value.ref (xk_ad ad hs.length q hs.length) = _; rw [xk_ad_eq]] at h
  exact h
/-- a new array, whose cell is e -/
theorem xk_newX {at_ : ArrayType} {ty : FieldType} {t0 N B : Nat} {a0 : vp_A} (hty : newarray.typeOf at_ = ty) (ha0 : ∀ ad : Nat → Nat, xk_a ad a0 = a0) (ha1 : ∀ n, xk_okC n (.inl (t0, a0))) (ht : ∀ K : Nat → ClassId, (xk_t K)[t0]? = some (K t0, ty)) (hra : ∀ (U : State) (c1 c2 : ClassId), va_RA U c1 ty → va_RA U c2 ty → c1 = c2) (hw : Cond.arrayClass (newarray.typeOf at_) ∈ xk_WS) (ha : ∀ cA : ClassId, vp_cell cA a0 = arrV cA N (fun _ => defaultValue ty)) (hbt : N * componentBytes ty ≤ 536870912) (hd : decode M.2.1 pc = .ok (.newarray at_, 2)) (hN : N < 2147483648) (hB : N ≤ B) (hcs : cs + 1 ≤ mc) (hss : ss + B ≤ ms) (hfx0 : ∀ k, fx k → k < hs.length)
    (kk : xk_X d mc ms M fx out (cs + 1) (ss + B) (pc + 2) ls (.ref hs.length :: st) (hs ++ [.inl (t0, a0)])) : xk_X d mc ms M fx out cs ss pc ls (.int (nI N) :: st) hs := by
  intro G ad0 ad p l e s m args below meth c A H locs la C hf hP hD hS hl O
  have hts := C.2.2.2.2.1
  have hK := C.2.2.2.2.2.2.2.2.2.1
  refine va_newa (a0 := a0) (N' := N) C.1 C.2.1 (hts _ hw) hty hK hP hD hS C.2.2.2.2.2.2.2.2.1 ha (nI_pos hN) (nI_clamp hN) hbt hcs (Nat.le_trans (Nat.add_le_add_left hB _) hss) hd (fun q cA H1 hK1 hP1 hD1 hS1 => ?_)
  have ec : cA = G.2.1 t0 := hra s _ _ (hK1.2 5 (cA, ty) rfl).2 (hK.2 t0 _ (ht G.2.1)).2
  subst ec
  refine W.widen (Nat.le_refl _) (Nat.add_le_add_left hB _) ?_
  have hadd : ∀ k, k < hs.length → xk_ad ad hs.length q k = ad k := fun k hk => xk_ad_lt hk
  have ew : xk_w G.2.1 (xk_ad ad hs.length q) (hs ++ [.inl (t0, a0)]) = xk_w G.2.1 ad hs ++ [(q, .inl (G.2.1 t0, a0))] := by
    rw [xk_w_app, xk_w_congr hadd O.2.2, xk_ad_eq]
    show xk_w G.2.1 ad hs ++ [(q, (Sum.inl (G.2.1 t0, xk_a (xk_ad ad hs.length q) a0) : va_E))] = _
    rw [ha0]
  have Ot : xk_OK ls st hs := ⟨O.1, xk_tl O.2.1, O.2.2⟩
  have O2 := Ot.app (es := [.inl (t0, a0)]) (fun e he => by
    rw [List.mem_singleton.mp he]
    exact ha1 _)
  have h := kk G ad0 (xk_ad ad hs.length q) p l e s m args below meth c A H1 locs la C (fun k hk => (hadd k (hfx0 k hk)).trans (hf k hk)) (by rw [ew]; exact hP1) (by rw [ew]; exact hD1) hS1 (by rw [xk_l_congr hadd ls 0 O.1]; exact hl) ⟨O2.1, xk_cs (show hs.length < (hs ++ [(Sum.inl (t0, a0) : xk_C)]).length by simp) O2.2.1, O2.2.2⟩
  rw [List.map_cons, xk_vs_congr hadd Ot.2.1, show xk_v (xk_ad ad hs.length q) (.ref hs.length) = .ref q from by show Value.ref (xk_ad ad hs.length q hs.length) = _; rw [xk_ad_eq]] at h
  exact h
theorem xk_newI {N B : Nat} (hd : decode M.2.1 pc = .ok (.newarray .int, 2)) (hN : N < 100) (hB : N ≤ B) (hcs : cs + 1 ≤ mc) (hss : ss + B ≤ ms) (hfx0 : ∀ k, fx k → k < hs.length)
    (kk : xk_X d mc ms M fx out (cs + 1) (ss + B) (pc + 2) ls (.ref hs.length :: st) (hs ++ [.inl (0, N, .inl (fun _ => 0))])) : xk_X d mc ms M fx out cs ss pc ls (.int (nI N) :: st) hs :=
  xk_newX (at_ := .int) (t0 := 0) (ty := .int) (a0 := (N, .inl (fun _ => 0))) rfl (fun _ => rfl) (fun _ => trivial) (fun _ => rfl) (fun U c1 c2 h1 h2 => Option.some.inj (h1.symm.trans h2)) wa_int (fun _ => rfl) (show N * 4 ≤ _ by omega) hd (by omega) hB hcs hss hfx0 kk
theorem xk_newJ {N B : Nat} (hd : decode M.2.1 pc = .ok (.newarray .long, 2)) (hN : N < 100) (hB : N ≤ B) (hcs : cs + 1 ≤ mc) (hss : ss + B ≤ ms) (hfx0 : ∀ k, fx k → k < hs.length)
    (kk : xk_X d mc ms M fx out (cs + 1) (ss + B) (pc + 2) ls (.ref hs.length :: st) (hs ++ [.inl (1, N, .inr (.inl (fun _ => 0)))])) : xk_X d mc ms M fx out cs ss pc ls (.int (nI N) :: st) hs :=
  xk_newX (at_ := .long) (t0 := 1) (ty := .long) (a0 := (N, .inr (.inl (fun _ => 0)))) rfl (fun _ => rfl) (fun _ => trivial) (fun _ => rfl) (fun U c1 c2 h1 h2 => Option.some.inj (h1.symm.trans h2)) wa_long (fun _ => rfl) (show N * 8 ≤ _ by omega) hd (by omega) hB hcs hss hfx0 kk
theorem xk_newZ {N B : Nat} (hd : decode M.2.1 pc = .ok (.newarray .boolean, 2)) (hN : N < 100) (hB : N ≤ B) (hcs : cs + 1 ≤ mc) (hss : ss + B ≤ ms) (hfx0 : ∀ k, fx k → k < hs.length)
    (kk : xk_X d mc ms M fx out (cs + 1) (ss + B) (pc + 2) ls (.ref hs.length :: st) (hs ++ [.inl (2, N, .inl (fun _ => 0))])) : xk_X d mc ms M fx out cs ss pc ls (.int (nI N) :: st) hs :=
  xk_newX (at_ := .boolean) (t0 := 2) (ty := .boolean) (a0 := (N, .inl (fun _ => 0))) rfl (fun _ => rfl) (fun _ => trivial) (fun _ => rfl) (fun U c1 c2 h1 h2 => Option.some.inj (h1.symm.trans h2)) wa_boolean (fun _ => rfl) (show N * 1 ≤ _ by omega) hd (by omega) hB hcs hss hfx0 kk
/-- an array of N rows of K places each -/
theorem xk_mnaX {ty : FieldType} {t0 t1 N K index : Nat} {z : vp_A} {nm : String} (hz0 : ∀ ad : Nat → Nat, xk_a ad z = z) (hz1 : ∀ n, xk_okC n (.inl (t1, z))) (ht0 : ∀ K : Nat → ClassId, (xk_t K)[t0]? = some (K t0, .array ty)) (ht1 : ∀ (G : xk_G) (A : Nat → Prop) (U : State) (H : Heap), xk_K G A U H → U.vm.findClass (FieldType.array ty).toString = some (G.2.1 t1)) (hao : ∀ U : State, xk_O U → va_AOA ty U) (hnm : nm = "[" ++ (FieldType.array ty).toString) (hw : Cond.arrayClass ty ∈ xk_WS) (hlk : Cond.classLink M.1.cls index nm ∈ xk_WS) (hz : ∀ c : ClassId, Jvm.Free.Multi.innerC c K (defaultValue ty) = vp_cell c z) (hb2 : K * componentBytes ty ≤ 536870912) (hdf : fits ty (defaultValue ty) = true) (hdd : (defaultValue ty).isDefault = true) (hd : decode M.2.1 pc = .ok (.multianewarray index 2, 4)) (hN : N ≤ 6) (hK6 : K ≤ 6) (hcs : cs + 7 ≤ mc) (hss : ss + 42 ≤ ms) (hfx0 : ∀ k, fx k → k < hs.length)
    (kk : xk_X d mc ms M fx out (cs + 7) (ss + 42) (pc + 4) ls (.ref hs.length :: st) (hs ++ .inl (t0, N, .inr (.inr (.inr (.inr (fun i => if i < N then some (hs.length + 1 + i) else none))))) :: List.replicate N (.inl (t1, z)))) : xk_X d mc ms M fx out cs ss pc ls (.int (nI K) :: .int (nI N) :: st) hs := by
  intro G ad0 ad p l e s m args below meth c A H locs la C hf hP hD hS hl O
  have hts := C.2.2.2.2.1
  have hKK := C.2.2.2.2.2.2.2.2.2
  have hK := hKK.1
  subst hnm
  have hNK : N * K ≤ 6 * 6 := Nat.mul_le_mul hN hK6
  have hcy := ht1 G A s s.heap hKK
  refine va_mna (X := xk_w G.2.1 ad hs) (L := []) (f := fun _ => .inl (G.2.1 t1, z)) (ty := ty) (cy := G.2.1 t1) (N' := N) (K' := K) (z := z) C.1 C.2.1 C.2.2.2.2.2.1 (hts _ hlk) (hao s hKK.2.2.2.2) (hts _ hw) hcy hK (by rw [show va_pl [] (fun _ => (.inl (G.2.1 t1, z) : va_E)) = [] from rfl, List.append_nil]; exact hP) (by rw [show va_pl [] (fun _ => (.inl (G.2.1 t1, z) : va_E)) = [] from rfl, List.append_nil]; exact hD) hS C.2.2.2.2.2.2.2.2.1 (nI_pos (by omega)) (nI_pos (by omega)) (nI_clamp (by omega)) (nI_clamp (by omega)) (by omega) hb2 (by omega) hdf hdd (by show cs + (1 + N) ≤ mc; omega) (by show ss + (N + N * K) ≤ ms; omega) hz hd (fun q r cA H1 hij hnl hK1 hP1 hD1 hS1 => ?_)
  have hra : ∀ (U : State) (c1 c2 : ClassId), va_RA U c1 (.array ty) → va_RA U c2 (.array ty) → c1 = c2 := fun U c1 c2 h1 h2 => Option.some.inj (h1.symm.trans h2)
  have ec : cA = G.2.1 t0 := hra s _ _ (hK1.2 5 (cA, .array ty) rfl).2 (hK.2 t0 _ (ht0 G.2.1)).2
  subst ec
  refine W.widen (k := cs + 7) (n := ss + 42) (by omega) (by omega) ?_
  have ht : xk_X d mc ms M fx out (cs + 7) (ss + 42) (pc + 4) ls (.ref hs.length :: st) (hs ++ .inl (t0, N, .inr (.inr (.inr (.inr (fun i => if i < N then some (hs.length + 1 + i) else none))))) :: List.replicate N (.inl (t1, z))) := kk
  obtain ⟨ad', had⟩ : ∃ ad' : Nat → Nat, ad' = fun k => if k < hs.length then ad k else if k = hs.length then q else r (k - hs.length - 1) := ⟨_, rfl⟩
  have hadd : ∀ k, k < hs.length → ad' k = ad k := fun k hk => by rw [had]; exact if_pos hk
  have hq : ad' hs.length = q := by rw [had]; dsimp only; rw [if_neg (Nat.lt_irrefl _), if_pos rfl]
  have hr : ∀ i, ad' (hs.length + 1 + i) = r i := fun i => by
    rw [had]
    dsimp only
    rw [if_neg (by omega), if_neg (by omega), show hs.length + 1 + i - hs.length - 1 = i by omega]
  have epl : va_pl ([] ++ (List.range N).map r) (vr_up (fun _ => (.inl (G.2.1 t1, z) : va_E)) ((List.range N).map r) (.inl (G.2.1 t1, z))) = (List.range N).map (fun i => ((r i, .inl (G.2.1 t1, z)) : Nat × va_E)) := by
    rw [List.nil_append]
    unfold va_pl
    rw [List.map_map]
    apply List.map_congr_left
    intro i hi
    show (r i, vr_up _ _ _ (r i)) = _
    rw [vr_up_in (List.mem_map.mpr ⟨i, hi, rfl⟩)]
  have eo : (fun j => (if j < N then some (hs.length + 1 + j) else none : Option Nat).map ad') = fun i => if i < N then some (r i) else none := funext fun j => by
    by_cases hj : j < N
    · rw [if_pos hj, if_pos hj, Option.map_some, hr]
    · rw [if_neg hj, if_neg hj]; rfl
  have ew : xk_w G.2.1 ad' (hs ++ .inl (t0, N, .inr (.inr (.inr (.inr (fun i => if i < N then some (hs.length + 1 + i) else none))))) :: List.replicate N (.inl (t1, z))) = (xk_w G.2.1 ad hs ++ [(q, .inl (G.2.1 t0, N, .inr (.inr (.inr (.inr (fun i => if i < N then some (r i) else none))))))]) ++ va_pl ([] ++ (List.range N).map r) (vr_up (fun _ => (.inl (G.2.1 t1, z) : va_E)) ((List.range N).map r) (.inl (G.2.1 t1, z))) := by
    rw [epl, List.append_cons, xk_w_rep, xk_w_app, xk_w_congr hadd O.2.2, hq]
    show (xk_w G.2.1 ad hs ++ [(q, (Sum.inl (G.2.1 t0, N, Sum.inr (Sum.inr (Sum.inr (Sum.inr (fun j => (if j < N then some (hs.length + 1 + j) else none : Option Nat).map ad'))))) : va_E))]) ++ _ = _
    rw [eo]
    congr 1
    apply List.map_congr_left
    intro i hi
    rw [List.length_append, List.length_singleton, hr]
    show (r i, (Sum.inl (G.2.1 t1, xk_a ad' z) : va_E)) = _
    rw [hz0]
  have Ot : xk_OK ls st hs := ⟨O.1, xk_tl (xk_tl O.2.1), O.2.2⟩
  have O2 := Ot.app (es := .inl (t0, N, .inr (.inr (.inr (.inr (fun i => if i < N then some (hs.length + 1 + i) else none))))) :: List.replicate N (.inl (t1, z))) (fun e he => by
    rcases List.mem_cons.mp he with rfl | he
    · intro j k hk
      dsimp only at hk
      split at hk
      · cases hk
        rw [List.length_append, List.length_cons, List.length_replicate]
        omega
      · cases hk
    · rw [List.eq_of_mem_replicate he]
      exact hz1 _)
  have h := ht G ad0 ad' p l e s m args below meth c A H1 locs la C (fun k hk => (hadd k (hfx0 k hk)).trans (hf k hk)) (by rw [ew]; exact hP1) (by rw [ew]; exact hD1) hS1 (by rw [xk_l_congr hadd ls 0 O.1]; exact hl) ⟨O2.1, xk_cs (show hs.length < (hs ++ _ :: List.replicate N _).length by rw [List.length_append, List.length_cons]; omega) O2.2.1, O2.2.2⟩
  rw [List.map_cons, xk_vs_congr hadd Ot.2.1, show xk_v ad' (.ref hs.length) = .ref q from by show Value.ref (ad' hs.length) = _; rw [hq]] at h
  exact h
theorem xk_mnaI {N K index : Nat} (hlk : Cond.classLink M.1.cls index "[[I" ∈ xk_WS) (hd : decode M.2.1 pc = .ok (.multianewarray index 2, 4)) (hN : N ≤ 6) (hK6 : K ≤ 6) (hcs : cs + 7 ≤ mc) (hss : ss + 42 ≤ ms) (hfx0 : ∀ k, fx k → k < hs.length)
    (kk : xk_X d mc ms M fx out (cs + 7) (ss + 42) (pc + 4) ls (.ref hs.length :: st) (hs ++ .inl (3, N, .inr (.inr (.inr (.inr (fun i => if i < N then some (hs.length + 1 + i) else none))))) :: List.replicate N (.inl (0, K, .inl (fun _ => 0))))) : xk_X d mc ms M fx out cs ss pc ls (.int (nI K) :: .int (nI N) :: st) hs :=
  xk_mnaX (ty := .int) (t0 := 3) (t1 := 0) (z := (K, .inl (fun _ => 0))) (nm := "[[I") (fun _ => rfl) (fun _ => trivial) (fun _ => rfl) (fun G A U H h => (h.1.2 0 _ rfl).2) (fun U h => h.2) (by decide) wa_int hlk (fun c => arrV_new c K (.int 0)) (show K * 4 ≤ _ by omega) rfl rfl hd hN hK6 hcs hss hfx0 kk
theorem xk_mnaJ {N K index : Nat} (hlk : Cond.classLink M.1.cls index "[[J" ∈ xk_WS) (hd : decode M.2.1 pc = .ok (.multianewarray index 2, 4)) (hN : N ≤ 6) (hK6 : K ≤ 6) (hcs : cs + 7 ≤ mc) (hss : ss + 42 ≤ ms) (hfx0 : ∀ k, fx k → k < hs.length)
    (kk : xk_X d mc ms M fx out (cs + 7) (ss + 42) (pc + 4) ls (.ref hs.length :: st) (hs ++ .inl (4, N, .inr (.inr (.inr (.inr (fun i => if i < N then some (hs.length + 1 + i) else none))))) :: List.replicate N (.inl (1, K, .inr (.inl (fun _ => 0)))))) : xk_X d mc ms M fx out cs ss pc ls (.int (nI K) :: .int (nI N) :: st) hs :=
  xk_mnaX (ty := .long) (t0 := 4) (t1 := 1) (z := (K, .inr (.inl (fun _ => 0)))) (nm := "[[J") (fun _ => rfl) (fun _ => trivial) (fun _ => rfl) (fun G A U H h => (h.1.2 1 _ rfl).2) (fun U h => h.1) (by decide) wa_long hlk (fun c => arrV_new c K (.long 0)) (show K * 8 ≤ _ by omega) rfl rfl hd hN hK6 hcs hss hfx0 kk
end XKN
