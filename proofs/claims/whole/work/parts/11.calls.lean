/-! CALLS over the abstract heap. Own text. -/
theorem xk_nest_on : ∀ w ∈ xk_nest, w.onTables = true := by
  intro w hw
  simp only [xk_nest, List.mem_cons, List.not_mem_nil, or_false] at hw
  rcases hw with rfl | rfl | rfl | rfl | rfl | rfl | rfl | rfl | rfl | rfl <;> rfl
theorem xk_nest_warm {s U : State} (hW : s.WarmedH U.vm) : ∀ w ∈ xk_nest, va_Nw w s → va_Nw w U := by
  intro w hw h
  simp only [xk_nest, List.mem_cons, List.not_mem_nil, or_false] at hw
  rcases hw with rfl | rfl | rfl | rfl | rfl | rfl | rfl | rfl | rfl | rfl
  · exact va_Nw.warmF hW h
  · exact va_Nw.warmF hW h
  · exact va_Nw.warmF hW h
  · exact va_Nw.warmF hW h
  · exact va_Nw.warmF hW h
  · exact va_Nw.warmF hW h
  · exact va_Nw.warmF hW h
  · exact va_Nw.warmF hW h
  · exact va_Nw.warmM hW h
  · exact va_Nw.warmM hW h
theorem xk_O.moved {u U : State} (ha : u.vm.Alike U.vm) (h : xk_O u) : xk_O U := by
  have key : ∀ ty : FieldType, va_AOA ty u → va_AOA ty U := fun ty h => by
    have h1 := Cond.arrayOver_setVmC (args := #[]) (s := u) (vm' := U.vm) ha (.array ty)
    have h2 : (Cond.arrayOver (.array ty)).before #[] (u.setVm U.vm) = true := h1.trans h
    exact h2
  exact ⟨key _ h.1, key _ h.2⟩
theorem xk_K.same {G : xk_G} {A : Nat → Prop} {u U : State} {H : Heap} (hv : u.vm = U.vm) (h : xk_K G A u H) : xk_K G A U H :=
  have ha : u.vm.Alike U.vm := by rw [hv]; exact Vm.Alike.refl _
  ⟨va_K.moved ha h.1, fun w hw => va_Nw.same (xk_nest_on w hw) hv (h.2.1 w hw), va_Z.moved ha h.2.2.1, va_T.moved ha h.2.2.2.1, h.2.2.2.2.moved ha⟩
theorem xk_K.warm {G : xk_G} {A : Nat → Prop} {u U : State} {H : Heap} (hW : u.WarmedH U.vm) (h : xk_K G A u H) : xk_K G A U H :=
  ⟨va_K.moved hW.alike h.1, fun w hw => xk_nest_warm hW w hw (h.2.1 w hw), va_Z.moved hW.alike h.2.2.1, va_T.moved hW.alike h.2.2.2.1, h.2.2.2.2.moved hW.alike⟩
theorem xk_K.kept {G : xk_G} {A : Nat → Prop} {U : State} {H H1 : Heap} (h : xk_K G A U H) (hq : ∀ a : Nat, a < H.size → ¬ A a → H1[a]? = H[a]?) : xk_K G A U H1 :=
  ⟨h.1, h.2.1, va_Z.kept h.2.2.1 hq, va_T.kept h.2.2.2.1 hq, h.2.2.2.2⟩
theorem xk_K.narrow {G : xk_G} {A B : Nat → Prop} {U : State} {H : Heap} (h : xk_K G A U H) (hAB : ∀ q, B q → A q) : xk_K G B U H :=
  ⟨h.1, h.2.1, va_Z.narrow h.2.2.1 hAB, va_T.narrow h.2.2.2.1 hAB, h.2.2.2.2⟩
/-- what a callee's words and room must be -/
def xk_CV (M' : xk_M) (n : Nat) : Prop := Cond.code M'.1 M'.2.1 M'.2.2.1 M'.2.2.2 ∈ xk_WS ∧ Cond.initialized M'.1.cls ∈ xk_WS ∧ (M'.1.cls ≠ "java/lang/invoke/MethodHandle" ∧ M'.1.cls ≠ "java/lang/invoke/VarHandle") ∧ (parseMethodDescriptor M'.1.desc).map (fun d => d.parameters.length) = some n ∧ M'.2.2.1 ≤ 20
section XKC
variable {p : Program} {l : Launch} {e : Env} {R : Room} {s : State} {m : MethodId} {args : Array Value} {below : List Frame} {meth : Method} {c : Code} {H : Heap} {locs : List Loc} {cells slots : Nat} {Q : State → Prop}
theorem xk_go {pc : Nat} {la : Array Slot} {rest st0 : List Value} {a : Array Value} {A0 A1 : Nat → Prop} {H0 : Heap} {mc' ms' : Nat} {free : Addr → Prop} {G : xk_G} {fx' : Nat → Prop} {ad : Nat → Nat} {out' : Option Value → xk_H → Prop}
    (hr : va_Run p l e R s m args below meth c H locs cells slots mc' ms' (F0 m pc la st0) rest (xk_Q G fx' ad out' A1 a) free) (hS : va_S A0 H0 H locs) (hA : ∀ q, q < H.size → A1 q → A0 q) (hf : ∀ q, free q → A0 q)
    (kk : ∀ (r : Option Value) (hs' : xk_H) (ad' : Nat → Nat) (H1 : Heap) (locs1 : List Loc), out' r hs' → xk_OK [] r.toList hs' → (∀ k, fx' k → ad' k = ad k) → va_P G.1 vwCl (xk_w G.2.1 ad' hs') H1 → va_D A1 (xk_w G.2.1 ad' hs') → va_S A0 H0 H1 locs1 → W p l e R s m args below meth c H1 locs1 (cells + mc') (slots + ms') Q (F0 m (pc + 3) la ((r.map (xk_v ad')).toList ++ rest))) : W p l e R s m args below meth c H locs cells slots Q (F0 m pc la st0) := by
  intro T hT X
  obtain ⟨v, st₀, t, T', L, h0, X', hL, e1, e2, ⟨⟨r, hs', ad', hv, ho, hok, hf', hP, hD⟩, hz, hk⟩, st⟩ := hr T hT X
  cases hv
  rw [h0] at hz hk
  obtain ⟨t2, a1, b1⟩ := kk r hs' ad' T'.heap (locs ++ L) ho hok hf' (by rw [e1]; exact hP) hD
    ⟨Nat.le_trans hS.1 (by rw [e1]; exact hz), fun q h1 h2 => by rw [e1, hk q (Nat.lt_of_lt_of_le h1 hS.1) (fun z => h2 (hA q (Nat.lt_of_lt_of_le h1 hS.1) z))]; exact hS.2.1 q h1 h2, fun q hq => by
      rcases List.mem_append.mp hq with h | h
      · exact hS.2.2 q h
      · exact hf _ (hL q h)⟩ T' rfl X'
  exact ⟨t2, st t2 a1, b1⟩
theorem xk_callB {M M' : xk_M} {G : xk_G} {A : Nat → Prop} {d d' mc ms mc' ms' n index : Nat} (C : xk_Cx M G p s m args meth c A) (hlk : Cond.methodLink M.1.cls index M'.1 ∈ xk_WS) (hcv : xk_CV M' n) (hdd : d' < d) : CallB (xk_rm d mc ms) s args M.1.cls index M'.1 M'.2.1 M'.2.2.1 M'.2.2.2 (xk_ws M') (xk_rm d' mc' ms') mc' ms' n := by
  have hts := C.2.2.2.2.1
  obtain ⟨h1, h2, h3, h4, h5⟩ := hcv
  refine ⟨rfl, rfl, ?_, ?_, ?_, List.mem_cons_self, hts _ h1, hts _ h2, h3, ?_, hts _ hlk⟩
  · show d' + 1 ≤ d; exact hdd
  · show 8 + (M'.2.2.1 + 11) + 40 * d' ≤ 40 * d; omega
  · intro w hw a' U hW
    rcases List.mem_cons.mp hw with rfl | hw
    · exact word_at hW (xk_good _ h1).2 (hts _ h1)
    · exact word_at hW (xk_good w hw).2 (hts w hw)
  · intro sig h
    rw [h] at h4
    exact (Option.some.inj h4).symm
theorem xk_callN {M M' : xk_M} {G : xk_G} {A : Nat → Prop} {d d' mc ms mc' ms' n index : Nat} {host : String} (C : xk_Cx M G p s m args meth c A) (hlk : Cond.methodLinkNest M.1.cls index M'.1 host ∈ xk_nest) (hcv : xk_CV M' n) (hdd : d' < d) : va_CN (xk_rm d mc ms) s args M.1.cls index M'.1 host M'.2.1 M'.2.2.1 M'.2.2.2 (xk_ws M') (xk_rm d' mc' ms') mc' ms' n := by
  have hts := C.2.2.2.2.1
  obtain ⟨h1, h2, h3, h4, h5⟩ := hcv
  refine ⟨⟨rfl, rfl, ?_, ?_, ?_, List.mem_cons_self⟩, hts _ h1, hts _ h2, h3, ?_, va_Nw.use rfl (C.2.2.2.2.2.2.2.2.2.2.1 _ hlk)⟩
  · show d' + 1 ≤ d; exact hdd
  · show 8 + (M'.2.2.1 + 11) + 40 * d' ≤ 40 * d; omega
  · intro w hw a' U hW
    rcases List.mem_cons.mp hw with rfl | hw
    · exact word_at hW (xk_good _ h1).2 (hts _ h1)
    · exact word_at hW (xk_good w hw).2 (hts w hw)
  · intro sig h
    rw [h] at h4
    exact (Option.some.inj h4).symm
theorem xk_blind {G : xk_G} {ad : Nat → Nat} {av : List Value} {hs : xk_H} {sz : Nat} : FrameBlind (va_Pc (av.map (xk_v ad)) (fun U => U.heap.size = sz ∧ va_P G.1 vwCl (xk_w G.2.1 ad hs) U.heap ∧ va_D (fun _ => True) (xk_w G.2.1 ad hs) ∧ xk_K G (va_A (xk_w G.2.1 ad hs) sz) U U.heap)) :=
  fun a U g mk q => ⟨q.1, q.2.1, q.2.2.1, q.2.2.2.1, xk_K.same (u := U) (U := U.calling g mk a) rfl q.2.2.2.2⟩
theorem xk_allA {M : xk_M} {G : xk_G} {A : Nat → Prop} {ad : Nat → Nat} {hs : xk_H} (C : xk_Cx M G p s m args meth c A) (hD : va_D A (xk_w G.2.1 ad hs)) (hS : va_S A s.heap H locs) : ∀ q, va_A (xk_w G.2.1 ad hs) H.size q → A q := by
  intro q h
  rcases h with ⟨k, e, h⟩ | h
  · exact hD.2 k (q, e) h
  · exact C.2.2.2.2.2.2.2.2.1 q (Nat.le_trans hS.1 h)
theorem xk_preK {M : xk_M} {G : xk_G} {A : Nat → Prop} {ad : Nat → Nat} {hs : xk_H} (C : xk_Cx M G p s m args meth c A) (hP : va_P G.1 vwCl (xk_w G.2.1 ad hs) H) (hD : va_D A (xk_w G.2.1 ad hs)) (hS : va_S A s.heap H locs) (av : List Value) (U : State) (hU : U.heap = H) (hW : s.WarmedH U.vm) : va_Pc (av.map (xk_v ad)) (fun U => U.heap.size = H.size ∧ va_P G.1 vwCl (xk_w G.2.1 ad hs) U.heap ∧ va_D (fun _ => True) (xk_w G.2.1 ad hs) ∧ xk_K G (va_A (xk_w G.2.1 ad hs) H.size) U U.heap) (av.map (xk_v ad)).toArray U := by
  refine ⟨rfl, by rw [hU], by rw [hU]; exact hP, hD.weaken (fun _ _ _ _ => trivial), ?_⟩
  rw [hU]
  exact ((C.2.2.2.2.2.2.2.2.2.kept hS.2.1).narrow (xk_allA C hD hS)).warm hW
end XKC
theorem xk_v_congr {n : Nat} {ad ad' : Nat → Nat} (h : ∀ k, k < n → ad' k = ad k) : ∀ v : Value, xk_ok n v → xk_v ad' v = xk_v ad v
  | .ref k, hv => by show Value.ref (ad' k) = Value.ref (ad k); rw [h k hv]
  | .int _, _ => rfl
  | .long _, _ => rfl
  | .float _, _ => rfl
  | .double _, _ => rfl
  | .null, _ => rfl
  | .retAddr _, _ => rfl
theorem xk_vs_congr {n : Nat} {ad ad' : Nat → Nat} (h : ∀ k, k < n → ad' k = ad k) {st : List Value} (hs : xk_okS n st) : st.map (xk_v ad') = st.map (xk_v ad) := List.map_congr_left fun v hv => xk_v_congr h v (hs v hv)
theorem xk_l_congr {n : Nat} {ad ad' : Nat → Nat} (h : ∀ k, k < n → ad' k = ad k) : ∀ (ls : List (Option Value)) (i : Nat), xk_okL n ls → xk_l ad' i ls = xk_l ad i ls
  | [], _, _ => rfl
  | some v :: ls, i, ho => by
    rw [xk_l, xk_l, xk_v_congr h v (ho v List.mem_cons_self), xk_l_congr h ls (i + 1) (fun w hw => ho w (List.mem_cons_of_mem _ hw))]
  | none :: ls, i, ho => by
    rw [xk_l, xk_l, xk_l_congr h ls (i + 1) (fun w hw => ho w (List.mem_cons_of_mem _ hw))]
theorem xk_e_congr {n : Nat} {K : Nat → ClassId} {ad ad' : Nat → Nat} (h : ∀ k, k < n → ad' k = ad k) : ∀ e : xk_C, xk_okC n e → xk_e K ad' e = xk_e K ad e
  | .inl (t, m, .inl f), _ => rfl
  | .inl (t, m, .inr (.inl f)), _ => rfl
  | .inl (t, m, .inr (.inr (.inl f))), _ => rfl
  | .inl (t, m, .inr (.inr (.inr (.inl f)))), _ => rfl
  | .inl (t, m, .inr (.inr (.inr (.inr f)))), ho => by
    have e1 : (fun j => (f j).map ad') = fun j => (f j).map ad := funext fun j => by
      cases hf : f j with
      | none => rfl
      | some k => show some (ad' k) = some (ad k); rw [h k (ho j k hf)]
    show (Sum.inl (K t, m, Sum.inr (Sum.inr (Sum.inr (Sum.inr (fun j => (f j).map ad'))))) : va_E) = Sum.inl (K t, m, Sum.inr (Sum.inr (Sum.inr (Sum.inr (fun j => (f j).map ad)))))
    rw [e1]
  | .inr (ci, fs), ho => by
    show (Sum.inr (ci, fs.map (xk_v ad')) : va_E) = Sum.inr (ci, fs.map (xk_v ad))
    rw [xk_vs_congr h ho]
theorem xk_w_congr {K : Nat → ClassId} {ad ad' : Nat → Nat} {hs : xk_H} (h : ∀ k, k < hs.length → ad' k = ad k) (ho : xk_okH hs) : xk_w K ad' hs = xk_w K ad hs := by
  apply List.ext_getElem?
  intro j
  rw [xk_w_at, xk_w_at]
  cases hj : hs[j]? with
  | none => rfl
  | some e =>
    have hl : j < hs.length := (List.getElem?_eq_some_iff.mp hj).1
    show some (ad' j, xk_e K ad' e) = some (ad j, xk_e K ad e)
    rw [h j hl, xk_e_congr h e (ho e (List.mem_of_getElem? hj))]
theorem xk_ok_le {n n' : Nat} (h : n ≤ n') : ∀ v : Value, xk_ok n v → xk_ok n' v
  | .ref k, hv => Nat.lt_of_lt_of_le hv h
  | .int _, _ => trivial
  | .long _, _ => trivial
  | .float _, _ => trivial
  | .double _, _ => trivial
  | .null, _ => trivial
  | .retAddr _, _ => trivial
theorem xk_okC_le {n n' : Nat} (h : n ≤ n') : ∀ e : xk_C, xk_okC n e → xk_okC n' e
  | .inl (t, m, .inl f), _ => trivial
  | .inl (t, m, .inr (.inl f)), _ => trivial
  | .inl (t, m, .inr (.inr (.inl f))), _ => trivial
  | .inl (t, m, .inr (.inr (.inr (.inl f)))), _ => trivial
  | .inl (t, m, .inr (.inr (.inr (.inr f)))), ho => fun j k hf => Nat.lt_of_lt_of_le (ho j k hf) h
  | .inr (ci, fs), ho => fun v hv => xk_ok_le h v (ho v hv)
theorem xk_OK.app {ls : List (Option Value)} {st : List Value} {hs es : xk_H} (O : xk_OK ls st hs) (he : ∀ e ∈ es, xk_okC (hs ++ es).length e) : xk_OK ls st (hs ++ es) := by
  have hle : hs.length ≤ (hs ++ es).length := by rw [List.length_append]; omega
  refine ⟨fun v hv => xk_ok_le hle v (O.1 v hv), fun v hv => xk_ok_le hle v (O.2.1 v hv), fun e hx => ?_⟩
  rcases List.mem_append.mp hx with h | h
  · exact xk_okC_le hle e (O.2.2 e h)
  · exact he e h
section XKD
variable {d mc ms : Nat} {M : xk_M} {fx : Nat → Prop} {out : Option Value → xk_H → Prop} {cs ss pc : Nat} {ls : List (Option Value)} {hs : xk_H}
/-- a call of a method of an object, which makes no cell -/
theorem xk_callV {M' : xk_M} {d' n index b ci : Nat} {fs : List Value} {r0 : vw_C} {out' : Option Value → xk_H → Prop} (As rest : List Value) (hd : decode M.2.1 pc = .ok (.invokevirtual index, 3)) (hlk : Cond.methodLink M.1.cls index M'.1 ∈ xk_WS) (hcv : xk_CV M' n) (hin : Cond.instanceMethod M'.1 ∈ xk_WS) (hse : Cond.selects M'.1.cls M'.1 M'.1 ∈ xk_WS) (hdd : d' < d) (hcs : cs ≤ mc) (hss : ss ≤ ms) (he : hs[b]? = some (.inr (ci, fs))) (hc : vwCl[ci]? = some r0) (hcn : r0.1 = M'.1.cls) (hn : As.length = n) (hcat : (rest.map fun v => v.category).sum ≤ 8) (hY : xk_Y d' 0 0 M' false (.ref b :: As) hs out')
    (kk : ∀ (r : Option Value) (hs' : xk_H), out' r hs' → hs.length ≤ hs'.length → xk_X d mc ms M fx out cs ss (pc + 3) ls (r.toList ++ rest) hs') (hlen : ∀ (r : Option Value) (hs' : xk_H), out' r hs' → hs'.length = hs.length) : xk_X d mc ms M fx out cs ss pc ls (As.reverse ++ .ref b :: rest) hs := by
  intro G ad0 ad p l e s m args below meth c A H locs la C hf hP hD hS hl O
  have hO1 : xk_OK [] (.ref b :: As) hs := ⟨fun _ h => absurd h List.not_mem_nil, fun v hv => O.2.1 v (by
    rcases List.mem_cons.mp hv with rfl | hv
    · simp
    · simp [hv]), O.2.2⟩
  have hA := xk_allA C hD hS
  have hcat' : ((rest.map (xk_v ad)).map fun v => v.category).sum ≤ 8 := by
    rw [List.map_map]
    have : ((fun v : Value => v.category) ∘ xk_v ad) = fun v => v.category := funext fun v => xk_cat ad v
    rw [this]
    exact hcat
  refine xk_go (va_runV (As := As.map (xk_v ad)) (rest := rest.map (xk_v ad)) (C := M'.1.cls) (b := ad b) (n := n) ⟨C.1, C.2.1, C.2.2.1, C.2.2.2.2.2.1, C.2.2.2.2.1⟩ (hY hO1 l G ad H.size) ⟨xk_callB C hlk hcv hdd, C.2.2.2.2.1 _ hin, C.2.2.2.2.1 _ hse⟩ ⟨xk_blind, ?_, fun U hU hW => xk_preK C hP hD hS (.ref b :: As) U hU hW⟩ rfl (by rw [List.length_map]; exact hn) hl.1 ?_ (lv_room hcat') hd ⟨hcs, hss⟩) hS (fun q _ h => hA q h) hA (fun r hs' ad' H1 locs1 ho hok hfx hP1 hD1 hS1 => ?_)
  · rw [← hcn]
    exact va_recv C.2.2.2.2.2.2.2.2.2.1 hP hc (xk_w_get he)
  · show List.map (xk_v ad) (As.reverse ++ .ref b :: rest) = _
    rw [List.map_append, List.map_reverse]
    rfl
  · have hadd : ad' = ad := funext fun k => hfx k (fun h => by cases h)
    subst hadd
    have hl2 := hlen r hs' ho
    have h := kk r hs' ho (Nat.le_of_eq hl2.symm) G ad0 ad' p l e s m args below meth c A H1 locs1 la C hf hP1 (hD1.weaken fun _ q _ z => hA q.1 z) hS1 hl ⟨by rw [hl2]; exact O.1, fun v hv => by
      rcases List.mem_append.mp hv with h | h
      · exact hok.2.1 v h
      · rw [hl2]
        exact O.2.1 v (by simp [h]), hok.2.2⟩
    rw [List.map_append] at h
    cases r <;> exact h
/-- a call of a static method, which makes no cell -/
theorem xk_callS {M' : xk_M} {d' n index : Nat} {out' : Option Value → xk_H → Prop} (As rest : List Value) (hd : decode M.2.1 pc = .ok (.invokestatic index, 3)) (hlk : Cond.methodLink M.1.cls index M'.1 ∈ xk_WS) (hcv : xk_CV M' n) (hst : Cond.static M'.1 ∈ xk_WS) (hdd : d' < d) (hcs : cs ≤ mc) (hss : ss ≤ ms) (hn : As.length = n) (hcat : (rest.map fun v => v.category).sum ≤ 8) (hY : xk_Y d' 0 0 M' false As hs out')
    (kk : ∀ (r : Option Value) (hs' : xk_H), out' r hs' → hs.length ≤ hs'.length → xk_X d mc ms M fx out cs ss (pc + 3) ls (r.toList ++ rest) hs') (hlen : ∀ (r : Option Value) (hs' : xk_H), out' r hs' → hs'.length = hs.length) : xk_X d mc ms M fx out cs ss pc ls (As.reverse ++ rest) hs := by
  intro G ad0 ad p l e s m args below meth c A H locs la C hf hP hD hS hl O
  have hO1 : xk_OK [] As hs := ⟨fun _ h => absurd h List.not_mem_nil, fun v hv => O.2.1 v (by simp [hv]), O.2.2⟩
  have hA := xk_allA C hD hS
  have hcat' : ((rest.map (xk_v ad)).map fun v => v.category).sum ≤ 8 := by
    rw [List.map_map]
    have : ((fun v : Value => v.category) ∘ xk_v ad) = fun v => v.category := funext fun v => xk_cat ad v
    rw [this]
    exact hcat
  refine xk_go (va_runS (As := As.map (xk_v ad)) (rest := rest.map (xk_v ad)) (n := n) ⟨C.1, C.2.1, C.2.2.1, C.2.2.2.2.2.1, C.2.2.2.2.1⟩ (hY hO1 l G ad H.size) ⟨xk_callB C hlk hcv hdd, C.2.2.2.2.1 _ hst⟩ ⟨xk_blind, fun U hU hW => xk_preK C hP hD hS As U hU hW⟩ rfl (by rw [List.length_map]; exact hn) hl.1 ?_ (lv_room hcat') hd ⟨hcs, hss⟩) hS (fun q _ h => hA q h) hA (fun r hs' ad' H1 locs1 ho hok hfx hP1 hD1 hS1 => ?_)
  · show List.map (xk_v ad) (As.reverse ++ rest) = _
    rw [List.map_append, List.map_reverse]
  · have hadd : ad' = ad := funext fun k => hfx k (fun h => by cases h)
    subst hadd
    have hl2 := hlen r hs' ho
    have h := kk r hs' ho (Nat.le_of_eq hl2.symm) G ad0 ad' p l e s m args below meth c A H1 locs1 la C hf hP1 (hD1.weaken fun _ q _ z => hA q.1 z) hS1 hl ⟨by rw [hl2]; exact O.1, fun v hv => by
      rcases List.mem_append.mp hv with h | h
      · exact hok.2.1 v h
      · rw [hl2]
        exact O.2.1 v (by simp [h]), hok.2.2⟩
    rw [List.map_append] at h
    cases r <;> exact h
/-- a constructor's call, which may make cells -/
theorem xk_callI {M' : xk_M} {d' n index b mc' ms' : Nat} {out' : Option Value → xk_H → Prop} (As rest : List Value) (hd : decode M.2.1 pc = .ok (.invokespecial index, 3)) (hlk : Cond.methodLink M.1.cls index M'.1 ∈ xk_WS) (hcv : xk_CV M' n) (hin : Cond.instanceMethod M'.1 ∈ xk_WS) (hnm : M'.1.name = "<init>") (hrt : M'.2.2.2 = none) (hdd : d' < d) (hcs : cs + mc' ≤ mc) (hss : ss + ms' ≤ ms) (hn : As.length = n) (hcat : (rest.map fun v => v.category).sum ≤ 8) (hfx0 : ∀ k, fx k → k < hs.length) (hY : xk_Y d' mc' ms' M' true (.ref b :: As) hs out')
    (hlen : ∀ (r : Option Value) (hs' : xk_H), out' r hs' → hs.length ≤ hs'.length) (kk : ∀ (r : Option Value) (hs' : xk_H), out' r hs' → xk_X d mc ms M fx out (cs + mc') (ss + ms') (pc + 3) ls (r.toList ++ rest) hs') : xk_X d mc ms M fx out cs ss pc ls (As.reverse ++ .ref b :: rest) hs := by
  intro G ad0 ad p l e s m args below meth c A H locs la C hf hP hD hS hl O
  have hO1 : xk_OK [] (.ref b :: As) hs := ⟨fun _ h => absurd h List.not_mem_nil, fun v hv => O.2.1 v (by
    rcases List.mem_cons.mp hv with rfl | hv
    · simp
    · simp [hv]), O.2.2⟩
  have hA := xk_allA C hD hS
  have hcat' : ((rest.map (xk_v ad)).map fun v => v.category).sum ≤ 8 := by
    rw [List.map_map]
    have : ((fun v : Value => v.category) ∘ xk_v ad) = fun v => v.category := funext fun v => xk_cat ad v
    rw [this]
    exact hcat
  have hB := xk_callB (M' := M') (mc' := mc') (ms' := ms') (mc := mc) (ms := ms) C hlk hcv hdd
  rw [hrt] at hB
  refine xk_go (va_runI (As := As.map (xk_v ad)) (rest := rest.map (xk_v ad)) (b := ad b) (n := n) ⟨C.1, C.2.1, C.2.2.1, C.2.2.2.2.2.1, C.2.2.2.2.1⟩ (hY hO1 l G ad H.size) ⟨hB, hnm, C.2.2.2.2.1 _ hin⟩ ⟨xk_blind, fun U hU hW => xk_preK C hP hD hS (.ref b :: As) U hU hW⟩ rfl (by rw [List.length_map]; exact hn) hl.1 ?_ (lv_room hcat') hd ⟨hcs, hss⟩) hS (fun q _ h => hA q h) hA (fun r hs' ad' H1 locs1 ho hok hfx hP1 hD1 hS1 => ?_)
  · show List.map (xk_v ad) (As.reverse ++ .ref b :: rest) = _
    rw [List.map_append, List.map_reverse]
    rfl
  · have hadd : ∀ k, k < hs.length → ad' k = ad k := fun k hk => hfx k (fun _ => hk)
    have hl2 := hlen r hs' ho
    have hrest : xk_okS hs.length rest := fun v hv => O.2.1 v (by simp [hv])
    have h := kk r hs' ho G ad0 ad' p l e s m args below meth c A H1 locs1 la C (fun k hk => (hadd k (hfx0 k hk)).trans (hf k hk)) hP1 (hD1.weaken fun _ q _ z => hA q.1 z) hS1 (by rw [xk_l_congr hadd ls 0 O.1]; exact hl) ⟨fun v hv => xk_ok_le hl2 v (O.1 v hv), fun v hv => by
      rcases List.mem_append.mp hv with h | h
      · exact hok.2.1 v h
      · exact xk_ok_le hl2 v (hrest v h), hok.2.2⟩
    rw [List.map_append, xk_vs_congr hadd hrest] at h
    cases r <;> exact h
/-- the same, of a nest mate's private constructor -/
theorem xk_callIN {M' : xk_M} {d' n index b mc' ms' : Nat} {host : String} {out' : Option Value → xk_H → Prop} (As rest : List Value) (hd : decode M.2.1 pc = .ok (.invokespecial index, 3)) (hlk : Cond.methodLinkNest M.1.cls index M'.1 host ∈ xk_nest) (hcv : xk_CV M' n) (hin : Cond.instanceMethod M'.1 ∈ xk_WS) (hnm : M'.1.name = "<init>") (hrt : M'.2.2.2 = none) (hdd : d' < d) (hcs : cs + mc' ≤ mc) (hss : ss + ms' ≤ ms) (hn : As.length = n) (hcat : (rest.map fun v => v.category).sum ≤ 8) (hfx0 : ∀ k, fx k → k < hs.length) (hY : xk_Y d' mc' ms' M' true (.ref b :: As) hs out')
    (hlen : ∀ (r : Option Value) (hs' : xk_H), out' r hs' → hs.length ≤ hs'.length) (kk : ∀ (r : Option Value) (hs' : xk_H), out' r hs' → xk_X d mc ms M fx out (cs + mc') (ss + ms') (pc + 3) ls (r.toList ++ rest) hs') : xk_X d mc ms M fx out cs ss pc ls (As.reverse ++ .ref b :: rest) hs := by
  intro G ad0 ad p l e s m args below meth c A H locs la C hf hP hD hS hl O
  have hO1 : xk_OK [] (.ref b :: As) hs := ⟨fun _ h => absurd h List.not_mem_nil, fun v hv => O.2.1 v (by
    rcases List.mem_cons.mp hv with rfl | hv
    · simp
    · simp [hv]), O.2.2⟩
  have hA := xk_allA C hD hS
  have hcat' : ((rest.map (xk_v ad)).map fun v => v.category).sum ≤ 8 := by
    rw [List.map_map]
    have : ((fun v : Value => v.category) ∘ xk_v ad) = fun v => v.category := funext fun v => xk_cat ad v
    rw [this]
    exact hcat
  have hB := xk_callN (M' := M') (mc' := mc') (ms' := ms') (mc := mc) (ms := ms) C hlk hcv hdd
  rw [hrt] at hB
  refine xk_go (va_runIN (As := As.map (xk_v ad)) (rest := rest.map (xk_v ad)) (b := ad b) (n := n) ⟨C.1, C.2.1, C.2.2.1, C.2.2.2.2.2.1, C.2.2.2.2.1⟩ (hY hO1 l G ad H.size) ⟨hB, hnm, C.2.2.2.2.1 _ hin⟩ ⟨xk_blind, fun U hU hW => xk_preK C hP hD hS (.ref b :: As) U hU hW⟩ rfl (by rw [List.length_map]; exact hn) hl.1 ?_ (lv_room hcat') hd ⟨hcs, hss⟩) hS (fun q _ h => hA q h) hA (fun r hs' ad' H1 locs1 ho hok hfx hP1 hD1 hS1 => ?_)
  · show List.map (xk_v ad) (As.reverse ++ .ref b :: rest) = _
    rw [List.map_append, List.map_reverse]
    rfl
  · have hadd : ∀ k, k < hs.length → ad' k = ad k := fun k hk => hfx k (fun _ => hk)
    have hl2 := hlen r hs' ho
    have hrest : xk_okS hs.length rest := fun v hv => O.2.1 v (by simp [hv])
    have h := kk r hs' ho G ad0 ad' p l e s m args below meth c A H1 locs1 la C (fun k hk => (hadd k (hfx0 k hk)).trans (hf k hk)) hP1 (hD1.weaken fun _ q _ z => hA q.1 z) hS1 (by rw [xk_l_congr hadd ls 0 O.1]; exact hl) ⟨fun v hv => xk_ok_le hl2 v (O.1 v hv), fun v hv => by
      rcases List.mem_append.mp hv with h | h
      · exact hok.2.1 v h
      · exact xk_ok_le hl2 v (hrest v h), hok.2.2⟩
    rw [List.map_append, xk_vs_congr hadd hrest] at h
    cases r <;> exact h
/-- Object's own constructor -/
theorem xk_objInit {idx a : Nat} {st : List Value} (hd : decode M.2.1 pc = .ok (.invokespecial idx, 3)) (hlk : Cond.methodLink M.1.cls idx objectInit ∈ xk_WS) (h1 : 1 ≤ d) (hcat : (st.map fun v => v.category).sum ≤ 8) (kk : xk_X d mc ms M fx out cs ss (pc + 3) ls st hs) : xk_X d mc ms M fx out cs ss pc ls (.ref a :: st) hs := by
  intro G ad0 ad p l e s m args below meth c A H locs la C hf hP hD hS hl O
  have hcat' : ((st.map (xk_v ad)).map fun v => v.category).sum ≤ 8 := by
    rw [List.map_map]
    have : ((fun v : Value => v.category) ∘ xk_v ad) = fun v => v.category := funext fun v => xk_cat ad v
    rw [this]
    exact hcat
  have hts := C.2.2.2.2.1
  refine W.objInit C.1 C.2.1 C.2.2.2.2.2.1 (hts _ hlk) (hts _ wo_instanceMethod_objectInit) (hts _ wo_code_objectInit_0xb1_1_none) rfl (by rw [C.2.2.1]; exact hl.1) rfl hd h1 ?_ (kk G ad0 ad p l e s m args below meth c A H locs la C hf hP hD hS hl ⟨O.1, xk_tl O.2.1, O.2.2⟩)
  have h2 := lv_room (m := m) (pc := pc) (ls := la) (rest := (Value.ref (ad a)) :: st.map (xk_v ad)) hcat'
  show _ + 12 ≤ 40 * d
  have h3 : 2 * (F0 m pc la (List.map (xk_v ad) (Value.ref a :: st))).monitorRoom + (List.map (fun v => v.category) (List.map (xk_v ad) st)).sum ≤ 8 := h2
  omega
end XKD
section XKE
variable {d mc ms : Nat} {M : xk_M} {fx : Nat → Prop} {out : Option Value → xk_H → Prop} {cs ss pc : Nat} {ls : List (Option Value)} {hs : xk_H}
theorem xk_callV0 {M' : xk_M} {d' index b ci : Nat} {fs : List Value} {r0 : vw_C} {out' : Option Value → xk_H → Prop} {rest : List Value} (hd : decode M.2.1 pc = .ok (.invokevirtual index, 3)) (hlk : Cond.methodLink M.1.cls index M'.1 ∈ xk_WS) (hcv : xk_CV M' 0) (hin : Cond.instanceMethod M'.1 ∈ xk_WS) (hse : Cond.selects M'.1.cls M'.1 M'.1 ∈ xk_WS) (hdd : d' < d) (hcs : cs ≤ mc) (hss : ss ≤ ms) (hc : vwCl[ci]? = some r0) (hcn : r0.1 = M'.1.cls) (he : hs[b]? = some (.inr (ci, fs))) (hcat : (rest.map fun v => v.category).sum ≤ 8) (hY : xk_Y d' 0 0 M' false (.ref b :: []) hs out')
    (hlen : ∀ (r : Option Value) (hs' : xk_H), out' r hs' → hs'.length = hs.length) (kk : ∀ (r : Option Value) (hs' : xk_H), out' r hs' → xk_X d mc ms M fx out cs ss (pc + 3) ls (r.toList ++ rest) hs') : xk_X d mc ms M fx out cs ss pc ls (.ref b :: rest) hs :=
  xk_callV [] rest hd hlk hcv hin hse hdd hcs hss he hc hcn rfl hcat hY (fun r hs' ho _ => kk r hs' ho) hlen
theorem xk_callV1 {M' : xk_M} {d' index b ci : Nat} {fs : List Value} {r0 : vw_C} {out' : Option Value → xk_H → Prop} {v0 : Value} {rest : List Value} (hd : decode M.2.1 pc = .ok (.invokevirtual index, 3)) (hlk : Cond.methodLink M.1.cls index M'.1 ∈ xk_WS) (hcv : xk_CV M' 1) (hin : Cond.instanceMethod M'.1 ∈ xk_WS) (hse : Cond.selects M'.1.cls M'.1 M'.1 ∈ xk_WS) (hdd : d' < d) (hcs : cs ≤ mc) (hss : ss ≤ ms) (hc : vwCl[ci]? = some r0) (hcn : r0.1 = M'.1.cls) (he : hs[b]? = some (.inr (ci, fs))) (hcat : (rest.map fun v => v.category).sum ≤ 8) (hY : xk_Y d' 0 0 M' false (.ref b :: [v0]) hs out')
    (hlen : ∀ (r : Option Value) (hs' : xk_H), out' r hs' → hs'.length = hs.length) (kk : ∀ (r : Option Value) (hs' : xk_H), out' r hs' → xk_X d mc ms M fx out cs ss (pc + 3) ls (r.toList ++ rest) hs') : xk_X d mc ms M fx out cs ss pc ls (v0 :: .ref b :: rest) hs :=
  xk_callV [v0] rest hd hlk hcv hin hse hdd hcs hss he hc hcn rfl hcat hY (fun r hs' ho _ => kk r hs' ho) hlen
theorem xk_callV2 {M' : xk_M} {d' index b ci : Nat} {fs : List Value} {r0 : vw_C} {out' : Option Value → xk_H → Prop} {v0 v1 : Value} {rest : List Value} (hd : decode M.2.1 pc = .ok (.invokevirtual index, 3)) (hlk : Cond.methodLink M.1.cls index M'.1 ∈ xk_WS) (hcv : xk_CV M' 2) (hin : Cond.instanceMethod M'.1 ∈ xk_WS) (hse : Cond.selects M'.1.cls M'.1 M'.1 ∈ xk_WS) (hdd : d' < d) (hcs : cs ≤ mc) (hss : ss ≤ ms) (hc : vwCl[ci]? = some r0) (hcn : r0.1 = M'.1.cls) (he : hs[b]? = some (.inr (ci, fs))) (hcat : (rest.map fun v => v.category).sum ≤ 8) (hY : xk_Y d' 0 0 M' false (.ref b :: [v0, v1]) hs out')
    (hlen : ∀ (r : Option Value) (hs' : xk_H), out' r hs' → hs'.length = hs.length) (kk : ∀ (r : Option Value) (hs' : xk_H), out' r hs' → xk_X d mc ms M fx out cs ss (pc + 3) ls (r.toList ++ rest) hs') : xk_X d mc ms M fx out cs ss pc ls (v1 :: v0 :: .ref b :: rest) hs :=
  xk_callV [v0, v1] rest hd hlk hcv hin hse hdd hcs hss he hc hcn rfl hcat hY (fun r hs' ho _ => kk r hs' ho) hlen
theorem xk_callV3 {M' : xk_M} {d' index b ci : Nat} {fs : List Value} {r0 : vw_C} {out' : Option Value → xk_H → Prop} {v0 v1 v2 : Value} {rest : List Value} (hd : decode M.2.1 pc = .ok (.invokevirtual index, 3)) (hlk : Cond.methodLink M.1.cls index M'.1 ∈ xk_WS) (hcv : xk_CV M' 3) (hin : Cond.instanceMethod M'.1 ∈ xk_WS) (hse : Cond.selects M'.1.cls M'.1 M'.1 ∈ xk_WS) (hdd : d' < d) (hcs : cs ≤ mc) (hss : ss ≤ ms) (hc : vwCl[ci]? = some r0) (hcn : r0.1 = M'.1.cls) (he : hs[b]? = some (.inr (ci, fs))) (hcat : (rest.map fun v => v.category).sum ≤ 8) (hY : xk_Y d' 0 0 M' false (.ref b :: [v0, v1, v2]) hs out')
    (hlen : ∀ (r : Option Value) (hs' : xk_H), out' r hs' → hs'.length = hs.length) (kk : ∀ (r : Option Value) (hs' : xk_H), out' r hs' → xk_X d mc ms M fx out cs ss (pc + 3) ls (r.toList ++ rest) hs') : xk_X d mc ms M fx out cs ss pc ls (v2 :: v1 :: v0 :: .ref b :: rest) hs :=
  xk_callV [v0, v1, v2] rest hd hlk hcv hin hse hdd hcs hss he hc hcn rfl hcat hY (fun r hs' ho _ => kk r hs' ho) hlen
theorem xk_callV4 {M' : xk_M} {d' index b ci : Nat} {fs : List Value} {r0 : vw_C} {out' : Option Value → xk_H → Prop} {v0 v1 v2 v3 : Value} {rest : List Value} (hd : decode M.2.1 pc = .ok (.invokevirtual index, 3)) (hlk : Cond.methodLink M.1.cls index M'.1 ∈ xk_WS) (hcv : xk_CV M' 4) (hin : Cond.instanceMethod M'.1 ∈ xk_WS) (hse : Cond.selects M'.1.cls M'.1 M'.1 ∈ xk_WS) (hdd : d' < d) (hcs : cs ≤ mc) (hss : ss ≤ ms) (hc : vwCl[ci]? = some r0) (hcn : r0.1 = M'.1.cls) (he : hs[b]? = some (.inr (ci, fs))) (hcat : (rest.map fun v => v.category).sum ≤ 8) (hY : xk_Y d' 0 0 M' false (.ref b :: [v0, v1, v2, v3]) hs out')
    (hlen : ∀ (r : Option Value) (hs' : xk_H), out' r hs' → hs'.length = hs.length) (kk : ∀ (r : Option Value) (hs' : xk_H), out' r hs' → xk_X d mc ms M fx out cs ss (pc + 3) ls (r.toList ++ rest) hs') : xk_X d mc ms M fx out cs ss pc ls (v3 :: v2 :: v1 :: v0 :: .ref b :: rest) hs :=
  xk_callV [v0, v1, v2, v3] rest hd hlk hcv hin hse hdd hcs hss he hc hcn rfl hcat hY (fun r hs' ho _ => kk r hs' ho) hlen
theorem xk_callV5 {M' : xk_M} {d' index b ci : Nat} {fs : List Value} {r0 : vw_C} {out' : Option Value → xk_H → Prop} {v0 v1 v2 v3 v4 : Value} {rest : List Value} (hd : decode M.2.1 pc = .ok (.invokevirtual index, 3)) (hlk : Cond.methodLink M.1.cls index M'.1 ∈ xk_WS) (hcv : xk_CV M' 5) (hin : Cond.instanceMethod M'.1 ∈ xk_WS) (hse : Cond.selects M'.1.cls M'.1 M'.1 ∈ xk_WS) (hdd : d' < d) (hcs : cs ≤ mc) (hss : ss ≤ ms) (hc : vwCl[ci]? = some r0) (hcn : r0.1 = M'.1.cls) (he : hs[b]? = some (.inr (ci, fs))) (hcat : (rest.map fun v => v.category).sum ≤ 8) (hY : xk_Y d' 0 0 M' false (.ref b :: [v0, v1, v2, v3, v4]) hs out')
    (hlen : ∀ (r : Option Value) (hs' : xk_H), out' r hs' → hs'.length = hs.length) (kk : ∀ (r : Option Value) (hs' : xk_H), out' r hs' → xk_X d mc ms M fx out cs ss (pc + 3) ls (r.toList ++ rest) hs') : xk_X d mc ms M fx out cs ss pc ls (v4 :: v3 :: v2 :: v1 :: v0 :: .ref b :: rest) hs :=
  xk_callV [v0, v1, v2, v3, v4] rest hd hlk hcv hin hse hdd hcs hss he hc hcn rfl hcat hY (fun r hs' ho _ => kk r hs' ho) hlen
theorem xk_callV6 {M' : xk_M} {d' index b ci : Nat} {fs : List Value} {r0 : vw_C} {out' : Option Value → xk_H → Prop} {v0 v1 v2 v3 v4 v5 : Value} {rest : List Value} (hd : decode M.2.1 pc = .ok (.invokevirtual index, 3)) (hlk : Cond.methodLink M.1.cls index M'.1 ∈ xk_WS) (hcv : xk_CV M' 6) (hin : Cond.instanceMethod M'.1 ∈ xk_WS) (hse : Cond.selects M'.1.cls M'.1 M'.1 ∈ xk_WS) (hdd : d' < d) (hcs : cs ≤ mc) (hss : ss ≤ ms) (hc : vwCl[ci]? = some r0) (hcn : r0.1 = M'.1.cls) (he : hs[b]? = some (.inr (ci, fs))) (hcat : (rest.map fun v => v.category).sum ≤ 8) (hY : xk_Y d' 0 0 M' false (.ref b :: [v0, v1, v2, v3, v4, v5]) hs out')
    (hlen : ∀ (r : Option Value) (hs' : xk_H), out' r hs' → hs'.length = hs.length) (kk : ∀ (r : Option Value) (hs' : xk_H), out' r hs' → xk_X d mc ms M fx out cs ss (pc + 3) ls (r.toList ++ rest) hs') : xk_X d mc ms M fx out cs ss pc ls (v5 :: v4 :: v3 :: v2 :: v1 :: v0 :: .ref b :: rest) hs :=
  xk_callV [v0, v1, v2, v3, v4, v5] rest hd hlk hcv hin hse hdd hcs hss he hc hcn rfl hcat hY (fun r hs' ho _ => kk r hs' ho) hlen
theorem xk_callS0 {M' : xk_M} {d' index : Nat} {out' : Option Value → xk_H → Prop} {rest : List Value} (hd : decode M.2.1 pc = .ok (.invokestatic index, 3)) (hlk : Cond.methodLink M.1.cls index M'.1 ∈ xk_WS) (hcv : xk_CV M' 0) (hst : Cond.static M'.1 ∈ xk_WS) (hdd : d' < d) (hcs : cs ≤ mc) (hss : ss ≤ ms) (hcat : (rest.map fun v => v.category).sum ≤ 8) (hY : xk_Y d' 0 0 M' false [] hs out')
    (hlen : ∀ (r : Option Value) (hs' : xk_H), out' r hs' → hs'.length = hs.length) (kk : ∀ (r : Option Value) (hs' : xk_H), out' r hs' → xk_X d mc ms M fx out cs ss (pc + 3) ls (r.toList ++ rest) hs') : xk_X d mc ms M fx out cs ss pc ls (rest) hs :=
  xk_callS [] rest hd hlk hcv hst hdd hcs hss rfl hcat hY (fun r hs' ho _ => kk r hs' ho) hlen
theorem xk_callS1 {M' : xk_M} {d' index : Nat} {out' : Option Value → xk_H → Prop} {v0 : Value} {rest : List Value} (hd : decode M.2.1 pc = .ok (.invokestatic index, 3)) (hlk : Cond.methodLink M.1.cls index M'.1 ∈ xk_WS) (hcv : xk_CV M' 1) (hst : Cond.static M'.1 ∈ xk_WS) (hdd : d' < d) (hcs : cs ≤ mc) (hss : ss ≤ ms) (hcat : (rest.map fun v => v.category).sum ≤ 8) (hY : xk_Y d' 0 0 M' false [v0] hs out')
    (hlen : ∀ (r : Option Value) (hs' : xk_H), out' r hs' → hs'.length = hs.length) (kk : ∀ (r : Option Value) (hs' : xk_H), out' r hs' → xk_X d mc ms M fx out cs ss (pc + 3) ls (r.toList ++ rest) hs') : xk_X d mc ms M fx out cs ss pc ls (v0 :: rest) hs :=
  xk_callS [v0] rest hd hlk hcv hst hdd hcs hss rfl hcat hY (fun r hs' ho _ => kk r hs' ho) hlen
theorem xk_callS2 {M' : xk_M} {d' index : Nat} {out' : Option Value → xk_H → Prop} {v0 v1 : Value} {rest : List Value} (hd : decode M.2.1 pc = .ok (.invokestatic index, 3)) (hlk : Cond.methodLink M.1.cls index M'.1 ∈ xk_WS) (hcv : xk_CV M' 2) (hst : Cond.static M'.1 ∈ xk_WS) (hdd : d' < d) (hcs : cs ≤ mc) (hss : ss ≤ ms) (hcat : (rest.map fun v => v.category).sum ≤ 8) (hY : xk_Y d' 0 0 M' false [v0, v1] hs out')
    (hlen : ∀ (r : Option Value) (hs' : xk_H), out' r hs' → hs'.length = hs.length) (kk : ∀ (r : Option Value) (hs' : xk_H), out' r hs' → xk_X d mc ms M fx out cs ss (pc + 3) ls (r.toList ++ rest) hs') : xk_X d mc ms M fx out cs ss pc ls (v1 :: v0 :: rest) hs :=
  xk_callS [v0, v1] rest hd hlk hcv hst hdd hcs hss rfl hcat hY (fun r hs' ho _ => kk r hs' ho) hlen
theorem xk_callS3 {M' : xk_M} {d' index : Nat} {out' : Option Value → xk_H → Prop} {v0 v1 v2 : Value} {rest : List Value} (hd : decode M.2.1 pc = .ok (.invokestatic index, 3)) (hlk : Cond.methodLink M.1.cls index M'.1 ∈ xk_WS) (hcv : xk_CV M' 3) (hst : Cond.static M'.1 ∈ xk_WS) (hdd : d' < d) (hcs : cs ≤ mc) (hss : ss ≤ ms) (hcat : (rest.map fun v => v.category).sum ≤ 8) (hY : xk_Y d' 0 0 M' false [v0, v1, v2] hs out')
    (hlen : ∀ (r : Option Value) (hs' : xk_H), out' r hs' → hs'.length = hs.length) (kk : ∀ (r : Option Value) (hs' : xk_H), out' r hs' → xk_X d mc ms M fx out cs ss (pc + 3) ls (r.toList ++ rest) hs') : xk_X d mc ms M fx out cs ss pc ls (v2 :: v1 :: v0 :: rest) hs :=
  xk_callS [v0, v1, v2] rest hd hlk hcv hst hdd hcs hss rfl hcat hY (fun r hs' ho _ => kk r hs' ho) hlen
theorem xk_callS4 {M' : xk_M} {d' index : Nat} {out' : Option Value → xk_H → Prop} {v0 v1 v2 v3 : Value} {rest : List Value} (hd : decode M.2.1 pc = .ok (.invokestatic index, 3)) (hlk : Cond.methodLink M.1.cls index M'.1 ∈ xk_WS) (hcv : xk_CV M' 4) (hst : Cond.static M'.1 ∈ xk_WS) (hdd : d' < d) (hcs : cs ≤ mc) (hss : ss ≤ ms) (hcat : (rest.map fun v => v.category).sum ≤ 8) (hY : xk_Y d' 0 0 M' false [v0, v1, v2, v3] hs out')
    (hlen : ∀ (r : Option Value) (hs' : xk_H), out' r hs' → hs'.length = hs.length) (kk : ∀ (r : Option Value) (hs' : xk_H), out' r hs' → xk_X d mc ms M fx out cs ss (pc + 3) ls (r.toList ++ rest) hs') : xk_X d mc ms M fx out cs ss pc ls (v3 :: v2 :: v1 :: v0 :: rest) hs :=
  xk_callS [v0, v1, v2, v3] rest hd hlk hcv hst hdd hcs hss rfl hcat hY (fun r hs' ho _ => kk r hs' ho) hlen
theorem xk_callI0 {M' : xk_M} {d' index b mc' ms' : Nat} {out' : Option Value → xk_H → Prop} {rest : List Value} (hd : decode M.2.1 pc = .ok (.invokespecial index, 3)) (hlk : Cond.methodLink M.1.cls index M'.1 ∈ xk_WS) (hcv : xk_CV M' 0) (hin : Cond.instanceMethod M'.1 ∈ xk_WS) (hnm : M'.1.name = "<init>") (hrt : M'.2.2.2 = none) (hdd : d' < d) (hcs : cs + mc' ≤ mc) (hss : ss + ms' ≤ ms) (hcat : (rest.map fun v => v.category).sum ≤ 8) (hfx0 : ∀ k, fx k → k < hs.length) (hY : xk_Y d' mc' ms' M' true (.ref b :: []) hs out')
    (hlen : ∀ (r : Option Value) (hs' : xk_H), out' r hs' → hs.length ≤ hs'.length) (kk : ∀ (r : Option Value) (hs' : xk_H), out' r hs' → xk_X d mc ms M fx out (cs + mc') (ss + ms') (pc + 3) ls (r.toList ++ rest) hs') : xk_X d mc ms M fx out cs ss pc ls (.ref b :: rest) hs :=
  xk_callI [] rest hd hlk hcv hin hnm hrt hdd hcs hss rfl hcat hfx0 hY hlen kk
theorem xk_callI1 {M' : xk_M} {d' index b mc' ms' : Nat} {out' : Option Value → xk_H → Prop} {v0 : Value} {rest : List Value} (hd : decode M.2.1 pc = .ok (.invokespecial index, 3)) (hlk : Cond.methodLink M.1.cls index M'.1 ∈ xk_WS) (hcv : xk_CV M' 1) (hin : Cond.instanceMethod M'.1 ∈ xk_WS) (hnm : M'.1.name = "<init>") (hrt : M'.2.2.2 = none) (hdd : d' < d) (hcs : cs + mc' ≤ mc) (hss : ss + ms' ≤ ms) (hcat : (rest.map fun v => v.category).sum ≤ 8) (hfx0 : ∀ k, fx k → k < hs.length) (hY : xk_Y d' mc' ms' M' true (.ref b :: [v0]) hs out')
    (hlen : ∀ (r : Option Value) (hs' : xk_H), out' r hs' → hs.length ≤ hs'.length) (kk : ∀ (r : Option Value) (hs' : xk_H), out' r hs' → xk_X d mc ms M fx out (cs + mc') (ss + ms') (pc + 3) ls (r.toList ++ rest) hs') : xk_X d mc ms M fx out cs ss pc ls (v0 :: .ref b :: rest) hs :=
  xk_callI [v0] rest hd hlk hcv hin hnm hrt hdd hcs hss rfl hcat hfx0 hY hlen kk
theorem xk_callIN0 {M' : xk_M} {d' index b mc' ms' : Nat} {host : String} {out' : Option Value → xk_H → Prop} {rest : List Value} (hd : decode M.2.1 pc = .ok (.invokespecial index, 3)) (hlk : Cond.methodLinkNest M.1.cls index M'.1 host ∈ xk_nest) (hcv : xk_CV M' 0) (hin : Cond.instanceMethod M'.1 ∈ xk_WS) (hnm : M'.1.name = "<init>") (hrt : M'.2.2.2 = none) (hdd : d' < d) (hcs : cs + mc' ≤ mc) (hss : ss + ms' ≤ ms) (hcat : (rest.map fun v => v.category).sum ≤ 8) (hfx0 : ∀ k, fx k → k < hs.length) (hY : xk_Y d' mc' ms' M' true (.ref b :: []) hs out')
    (hlen : ∀ (r : Option Value) (hs' : xk_H), out' r hs' → hs.length ≤ hs'.length) (kk : ∀ (r : Option Value) (hs' : xk_H), out' r hs' → xk_X d mc ms M fx out (cs + mc') (ss + ms') (pc + 3) ls (r.toList ++ rest) hs') : xk_X d mc ms M fx out cs ss pc ls (.ref b :: rest) hs :=
  xk_callIN [] rest hd hlk hcv hin hnm hrt hdd hcs hss rfl hcat hfx0 hY hlen kk
theorem xk_callIN1 {M' : xk_M} {d' index b mc' ms' : Nat} {host : String} {out' : Option Value → xk_H → Prop} {v0 : Value} {rest : List Value} (hd : decode M.2.1 pc = .ok (.invokespecial index, 3)) (hlk : Cond.methodLinkNest M.1.cls index M'.1 host ∈ xk_nest) (hcv : xk_CV M' 1) (hin : Cond.instanceMethod M'.1 ∈ xk_WS) (hnm : M'.1.name = "<init>") (hrt : M'.2.2.2 = none) (hdd : d' < d) (hcs : cs + mc' ≤ mc) (hss : ss + ms' ≤ ms) (hcat : (rest.map fun v => v.category).sum ≤ 8) (hfx0 : ∀ k, fx k → k < hs.length) (hY : xk_Y d' mc' ms' M' true (.ref b :: [v0]) hs out')
    (hlen : ∀ (r : Option Value) (hs' : xk_H), out' r hs' → hs.length ≤ hs'.length) (kk : ∀ (r : Option Value) (hs' : xk_H), out' r hs' → xk_X d mc ms M fx out (cs + mc') (ss + ms') (pc + 3) ls (r.toList ++ rest) hs') : xk_X d mc ms M fx out cs ss pc ls (v0 :: .ref b :: rest) hs :=
  xk_callIN [v0] rest hd hlk hcv hin hnm hrt hdd hcs hss rfl hcat hfx0 hY hlen kk
end XKE
