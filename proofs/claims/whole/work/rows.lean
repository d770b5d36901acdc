section
-- ===== PART A: goes FIRST, ahead of the names: the tables' words, and 'selects' of the private methods out of them =====
/-- a private method of a class that the tables say can be made, by its rows of tables_1 -/
def lw_okq (q : MethodName × Nat) : Prop := (q.1.cls ≠ "java/lang/invoke/MethodHandle" ∧ q.1.cls ≠ "java/lang/invoke/VarHandle") ∧ Cond.instantiable q.1.cls q.2 ∈ tables_1 ∧ Cond.privateMethod q.1 ∈ tables_1 ∧ Cond.instanceMethod q.1 ∈ tables_1
theorem lw_p0 : lw_okq (⟨"PairScales$Rings", "extend", "(LPairScales$Table;IIIIJ)V"⟩, 2) := ⟨⟨by decide +kernel, by decide +kernel⟩, List.mem_of_getElem? (i := 78) (by decide +kernel), List.mem_of_getElem? (i := 268) (by decide +kernel), List.mem_of_getElem? (i := 269) (by decide +kernel)⟩
theorem lw_p1 : lw_okq (⟨"PairScales$Rings", "close", "(IJ)V"⟩, 2) := ⟨⟨by decide +kernel, by decide +kernel⟩, List.mem_of_getElem? (i := 78) (by decide +kernel), List.mem_of_getElem? (i := 277) (by decide +kernel), List.mem_of_getElem? (i := 278) (by decide +kernel)⟩
theorem lw_p2 : lw_okq (⟨"PairScales$WorstThree", "compare", "(LPairScales$Table;III)V"⟩, 5) := ⟨⟨by decide +kernel, by decide +kernel⟩, List.mem_of_getElem? (i := 52) (by decide +kernel), List.mem_of_getElem? (i := 292) (by decide +kernel), List.mem_of_getElem? (i := 293) (by decide +kernel)⟩
theorem lw_p3 : lw_okq (⟨"PairScales$TreeCount", "fill", "(LPairScales$Table;)V"⟩, 2) := ⟨⟨by decide +kernel, by decide +kernel⟩, List.mem_of_getElem? (i := 92) (by decide +kernel), List.mem_of_getElem? (i := 313) (by decide +kernel), List.mem_of_getElem? (i := 314) (by decide +kernel)⟩
theorem lw_p4 : lw_okq (⟨"PairScales$TreeCount", "eliminate", "(III)V"⟩, 2) := ⟨⟨by decide +kernel, by decide +kernel⟩, List.mem_of_getElem? (i := 92) (by decide +kernel), List.mem_of_getElem? (i := 318) (by decide +kernel), List.mem_of_getElem? (i := 319) (by decide +kernel)⟩
theorem lw_p5 : lw_okq (⟨"PairScales$Leaving", "settle", "(LPairScales$Table;IIII)V"⟩, 8) := ⟨⟨by decide +kernel, by decide +kernel⟩, List.mem_of_getElem? (i := 108) (by decide +kernel), List.mem_of_getElem? (i := 330) (by decide +kernel), List.mem_of_getElem? (i := 331) (by decide +kernel)⟩
theorem lw_p6 : lw_okq (⟨"PairScales$Leaving", "join", "(IIII)V"⟩, 8) := ⟨⟨by decide +kernel, by decide +kernel⟩, List.mem_of_getElem? (i := 108) (by decide +kernel), List.mem_of_getElem? (i := 346) (by decide +kernel), List.mem_of_getElem? (i := 347) (by decide +kernel)⟩
theorem lw_p7 : lw_okq (⟨"PairScales", "productOfRow", "(I)J"⟩, 8) := ⟨⟨by decide +kernel, by decide +kernel⟩, List.mem_of_getElem? (i := 15) (by decide +kernel), List.mem_of_getElem? (i := 363) (by decide +kernel), List.mem_of_getElem? (i := 364) (by decide +kernel)⟩
theorem lw_p8 : lw_okq (⟨"PairScales", "sizeOfGreatestRoot", "()I"⟩, 8) := ⟨⟨by decide +kernel, by decide +kernel⟩, List.mem_of_getElem? (i := 15) (by decide +kernel), List.mem_of_getElem? (i := 378) (by decide +kernel), List.mem_of_getElem? (i := 379) (by decide +kernel)⟩
theorem lw_p9 : lw_okq (⟨"PairScales", "greatestWay", "(IIIIJ)J"⟩, 8) := ⟨⟨by decide +kernel, by decide +kernel⟩, List.mem_of_getElem? (i := 15) (by decide +kernel), List.mem_of_getElem? (i := 419) (by decide +kernel), List.mem_of_getElem? (i := 420) (by decide +kernel)⟩
theorem lw_p10 : lw_okq (⟨"PairScalesModel", "areTwo", "(II)Z"⟩, 25) := ⟨⟨by decide +kernel, by decide +kernel⟩, List.mem_of_getElem? (i := 430) (by decide +kernel), List.mem_of_getElem? (i := 519) (by decide +kernel), List.mem_of_getElem? (i := 520) (by decide +kernel)⟩
theorem lw_p11 : lw_okq (⟨"PairScalesModel", "pair", "(II)I"⟩, 25) := ⟨⟨by decide +kernel, by decide +kernel⟩, List.mem_of_getElem? (i := 430) (by decide +kernel), List.mem_of_getElem? (i := 529) (by decide +kernel), List.mem_of_getElem? (i := 530) (by decide +kernel)⟩
theorem lw_p12 : lw_okq (⟨"PairScalesModel", "isSaid", "(II)Z"⟩, 25) := ⟨⟨by decide +kernel, by decide +kernel⟩, List.mem_of_getElem? (i := 430) (by decide +kernel), List.mem_of_getElem? (i := 541) (by decide +kernel), List.mem_of_getElem? (i := 542) (by decide +kernel)⟩
theorem lw_p13 : lw_okq (⟨"PairScalesModel", "topOf", "(II)I"⟩, 25) := ⟨⟨by decide +kernel, by decide +kernel⟩, List.mem_of_getElem? (i := 430) (by decide +kernel), List.mem_of_getElem? (i := 545) (by decide +kernel), List.mem_of_getElem? (i := 546) (by decide +kernel)⟩
theorem lw_p14 : lw_okq (⟨"PairScalesModel", "bottomOf", "(II)I"⟩, 25) := ⟨⟨by decide +kernel, by decide +kernel⟩, List.mem_of_getElem? (i := 430) (by decide +kernel), List.mem_of_getElem? (i := 549) (by decide +kernel), List.mem_of_getElem? (i := 550) (by decide +kernel)⟩
theorem lw_p15 : lw_okq (⟨"PairScalesModel", "all", "()I"⟩, 25) := ⟨⟨by decide +kernel, by decide +kernel⟩, List.mem_of_getElem? (i := 430) (by decide +kernel), List.mem_of_getElem? (i := 557) (by decide +kernel), List.mem_of_getElem? (i := 558) (by decide +kernel)⟩
def lw_privs_1 : List (MethodName × Nat) := [(⟨"PairScales$Rings", "extend", "(LPairScales$Table;IIIIJ)V"⟩, 2), (⟨"PairScales$Rings", "close", "(IJ)V"⟩, 2), (⟨"PairScales$WorstThree", "compare", "(LPairScales$Table;III)V"⟩, 5), (⟨"PairScales$TreeCount", "fill", "(LPairScales$Table;)V"⟩, 2), (⟨"PairScales$TreeCount", "eliminate", "(III)V"⟩, 2), (⟨"PairScales$Leaving", "settle", "(LPairScales$Table;IIII)V"⟩, 8), (⟨"PairScales$Leaving", "join", "(IIII)V"⟩, 8), (⟨"PairScales", "productOfRow", "(I)J"⟩, 8), (⟨"PairScales", "sizeOfGreatestRoot", "()I"⟩, 8), (⟨"PairScales", "greatestWay", "(IIIIJ)J"⟩, 8), (⟨"PairScalesModel", "areTwo", "(II)Z"⟩, 25), (⟨"PairScalesModel", "pair", "(II)I"⟩, 25), (⟨"PairScalesModel", "isSaid", "(II)Z"⟩, 25), (⟨"PairScalesModel", "topOf", "(II)I"⟩, 25), (⟨"PairScalesModel", "bottomOf", "(II)I"⟩, 25), (⟨"PairScalesModel", "all", "()I"⟩, 25)]
theorem lw_r1 : ∀ q ∈ lw_privs_1, lw_okq q := List.forall_mem_cons.mpr ⟨lw_p0, List.forall_mem_cons.mpr ⟨lw_p1, List.forall_mem_cons.mpr ⟨lw_p2, List.forall_mem_cons.mpr ⟨lw_p3, List.forall_mem_cons.mpr ⟨lw_p4, List.forall_mem_cons.mpr ⟨lw_p5, List.forall_mem_cons.mpr ⟨lw_p6, List.forall_mem_cons.mpr ⟨lw_p7, List.forall_mem_cons.mpr ⟨lw_p8, List.forall_mem_cons.mpr ⟨lw_p9, List.forall_mem_cons.mpr ⟨lw_p10, List.forall_mem_cons.mpr ⟨lw_p11, List.forall_mem_cons.mpr ⟨lw_p12, List.forall_mem_cons.mpr ⟨lw_p13, List.forall_mem_cons.mpr ⟨lw_p14, List.forall_mem_cons.mpr ⟨lw_p15, fun _ h => absurd h List.not_mem_nil⟩⟩⟩⟩⟩⟩⟩⟩⟩⟩⟩⟩⟩⟩⟩⟩
theorem lw_p16 : lw_okq (⟨"PairScalesModel", "fits", "(I)Z"⟩, 25) := ⟨⟨by decide +kernel, by decide +kernel⟩, List.mem_of_getElem? (i := 430) (by decide +kernel), List.mem_of_getElem? (i := 561) (by decide +kernel), List.mem_of_getElem? (i := 562) (by decide +kernel)⟩
theorem lw_p17 : lw_okq (⟨"PairScalesModel", "leastHeap", "()I"⟩, 25) := ⟨⟨by decide +kernel, by decide +kernel⟩, List.mem_of_getElem? (i := 430) (by decide +kernel), List.mem_of_getElem? (i := 579) (by decide +kernel), List.mem_of_getElem? (i := 580) (by decide +kernel)⟩
theorem lw_p18 : lw_okq (⟨"PairScalesModel", "findsWorst", "()Z"⟩, 25) := ⟨⟨by decide +kernel, by decide +kernel⟩, List.mem_of_getElem? (i := 430) (by decide +kernel), List.mem_of_getElem? (i := 591) (by decide +kernel), List.mem_of_getElem? (i := 592) (by decide +kernel)⟩
theorem lw_p19 : lw_okq (⟨"PairScalesModel", "areAllSaid", "()Z"⟩, 25) := ⟨⟨by decide +kernel, by decide +kernel⟩, List.mem_of_getElem? (i := 430) (by decide +kernel), List.mem_of_getElem? (i := 599) (by decide +kernel), List.mem_of_getElem? (i := 600) (by decide +kernel)⟩
theorem lw_p20 : lw_okq (⟨"PairScalesModel", "rowPart", "(IZ)J"⟩, 25) := ⟨⟨by decide +kernel, by decide +kernel⟩, List.mem_of_getElem? (i := 430) (by decide +kernel), List.mem_of_getElem? (i := 603) (by decide +kernel), List.mem_of_getElem? (i := 604) (by decide +kernel)⟩
theorem lw_p21 : lw_okq (⟨"PairScalesModel", "rings", "(IJJ)V"⟩, 25) := ⟨⟨by decide +kernel, by decide +kernel⟩, List.mem_of_getElem? (i := 430) (by decide +kernel), List.mem_of_getElem? (i := 615) (by decide +kernel), List.mem_of_getElem? (i := 616) (by decide +kernel)⟩
theorem lw_p22 : lw_okq (⟨"PairScalesModel", "ring", "(JJI)V"⟩, 25) := ⟨⟨by decide +kernel, by decide +kernel⟩, List.mem_of_getElem? (i := 430) (by decide +kernel), List.mem_of_getElem? (i := 619) (by decide +kernel), List.mem_of_getElem? (i := 620) (by decide +kernel)⟩
theorem lw_p23 : lw_okq (⟨"PairScalesModel", "compare", "(JJI)I"⟩, 25) := ⟨⟨by decide +kernel, by decide +kernel⟩, List.mem_of_getElem? (i := 430) (by decide +kernel), List.mem_of_getElem? (i := 629) (by decide +kernel), List.mem_of_getElem? (i := 630) (by decide +kernel)⟩
theorem lw_p24 : lw_okq (⟨"PairScalesModel", "goes", "(II)V"⟩, 25) := ⟨⟨by decide +kernel, by decide +kernel⟩, List.mem_of_getElem? (i := 430) (by decide +kernel), List.mem_of_getElem? (i := 652) (by decide +kernel), List.mem_of_getElem? (i := 653) (by decide +kernel)⟩
theorem lw_p25 : lw_okq (⟨"PairScalesModel", "ways", "(IIJJ)V"⟩, 25) := ⟨⟨by decide +kernel, by decide +kernel⟩, List.mem_of_getElem? (i := 430) (by decide +kernel), List.mem_of_getElem? (i := 656) (by decide +kernel), List.mem_of_getElem? (i := 657) (by decide +kernel)⟩
theorem lw_p26 : lw_okq (⟨"PairScalesModel", "isSpan", "(II)Z"⟩, 25) := ⟨⟨by decide +kernel, by decide +kernel⟩, List.mem_of_getElem? (i := 430) (by decide +kernel), List.mem_of_getElem? (i := 660) (by decide +kernel), List.mem_of_getElem? (i := 661) (by decide +kernel)⟩
theorem lw_p27 : lw_okq (⟨"PairScalesModel", "lowOver", "(II)I"⟩, 25) := ⟨⟨by decide +kernel, by decide +kernel⟩, List.mem_of_getElem? (i := 430) (by decide +kernel), List.mem_of_getElem? (i := 664) (by decide +kernel), List.mem_of_getElem? (i := 665) (by decide +kernel)⟩
theorem lw_p28 : lw_okq (⟨"PairScalesModel", "lowUnder", "(II)I"⟩, 25) := ⟨⟨by decide +kernel, by decide +kernel⟩, List.mem_of_getElem? (i := 430) (by decide +kernel), List.mem_of_getElem? (i := 668) (by decide +kernel), List.mem_of_getElem? (i := 669) (by decide +kernel)⟩
def lw_privs_2 : List (MethodName × Nat) := [(⟨"PairScalesModel", "fits", "(I)Z"⟩, 25), (⟨"PairScalesModel", "leastHeap", "()I"⟩, 25), (⟨"PairScalesModel", "findsWorst", "()Z"⟩, 25), (⟨"PairScalesModel", "areAllSaid", "()Z"⟩, 25), (⟨"PairScalesModel", "rowPart", "(IZ)J"⟩, 25), (⟨"PairScalesModel", "rings", "(IJJ)V"⟩, 25), (⟨"PairScalesModel", "ring", "(JJI)V"⟩, 25), (⟨"PairScalesModel", "compare", "(JJI)I"⟩, 25), (⟨"PairScalesModel", "goes", "(II)V"⟩, 25), (⟨"PairScalesModel", "ways", "(IIJJ)V"⟩, 25), (⟨"PairScalesModel", "isSpan", "(II)Z"⟩, 25), (⟨"PairScalesModel", "lowOver", "(II)I"⟩, 25), (⟨"PairScalesModel", "lowUnder", "(II)I"⟩, 25)]
theorem lw_r2 : ∀ q ∈ lw_privs_2, lw_okq q := List.forall_mem_cons.mpr ⟨lw_p16, List.forall_mem_cons.mpr ⟨lw_p17, List.forall_mem_cons.mpr ⟨lw_p18, List.forall_mem_cons.mpr ⟨lw_p19, List.forall_mem_cons.mpr ⟨lw_p20, List.forall_mem_cons.mpr ⟨lw_p21, List.forall_mem_cons.mpr ⟨lw_p22, List.forall_mem_cons.mpr ⟨lw_p23, List.forall_mem_cons.mpr ⟨lw_p24, List.forall_mem_cons.mpr ⟨lw_p25, List.forall_mem_cons.mpr ⟨lw_p26, List.forall_mem_cons.mpr ⟨lw_p27, List.forall_mem_cons.mpr ⟨lw_p28, fun _ h => absurd h List.not_mem_nil⟩⟩⟩⟩⟩⟩⟩⟩⟩⟩⟩⟩⟩
def lw_privs : List (MethodName × Nat) := lw_privs_1 ++ (lw_privs_2)
def lw_tbl : List Cond := k2_sels lw_privs ++ tables_1
theorem lw_privs_ok : ∀ q ∈ lw_privs, lw_okq q := by
  show ∀ q ∈ lw_privs_1 ++ (lw_privs_2), lw_okq q
  exact List.forall_mem_append.mpr ⟨lw_r1, lw_r2⟩
end
section
/-- the printed row va_mna names this word, which the kit lacks -/
def va_AOA (ty : FieldType) (U : State) : Prop := (Cond.arrayOver (.array ty)).before #[] U = true
theorem va_AOA.use {ty : FieldType} {A : Array Value} {U : State} (h : va_AOA ty U) : (Cond.arrayOver (.array ty)).before A U = true := h
/-! ===== BEGIN new T[n][m]: the outer array a place, the inner ones among the pooled ===== -/
/-- f, but v at every address of l -/
def vr_up {α : Type} (f : Nat → α) (l : List Nat) (v : α) : Nat → α := fun a => if a ∈ l then v else f a
theorem vr_up_in {α : Type} {f : Nat → α} {l : List Nat} {v : α} {a : Nat} (h : a ∈ l) : vr_up f l v a = v := if_pos h
theorem vr_up_ne {α : Type} {f : Nat → α} {l : List Nat} {v : α} {a : Nat} (h : a ∉ l) : vr_up f l v a = f a := if_neg h
theorem vr_rows {L l : List Nat} {f : Nat → va_E} {e : va_E} (h : ∀ a, a ∈ l → a ∉ L) : va_pl L f ++ l.map (fun a => (a, e)) = va_pl (L ++ l) (vr_up f l e) := by
  unfold va_pl
  rw [List.map_append]
  congr 1
  · apply List.map_congr_left
    intro a ha
    rw [vr_up_ne (fun q => h a q ha)]
  · apply List.map_congr_left
    intro a ha
    rw [vr_up_in ha]
theorem vr_lay {X rows : va_W} {x : Nat × va_E} {pl : va_W} {D : va_G} {cl : List vw_C} {H : Heap} (hP : va_P D cl (((X ++ pl) ++ [x]) ++ rows) H) : va_P D cl ((X ++ [x]) ++ (pl ++ rows)) H := by
  rw [List.append_assoc (X ++ pl)] at hP
  have h := va_P.swap hP
  rw [← List.append_assoc X] at h
  have h2 := va_P.swap h
  rw [List.append_assoc (X ++ [x])] at h2
  exact h2
theorem vr_layD {X rows : va_W} {x : Nat × va_E} {pl : va_W} {A : Nat → Prop} (hD : va_D A (((X ++ pl) ++ [x]) ++ rows)) : va_D A ((X ++ [x]) ++ (pl ++ rows)) := by
  rw [List.append_assoc (X ++ pl)] at hD
  have h := va_D.swap hD
  rw [← List.append_assoc X] at h
  have h2 := va_D.swap h
  rw [List.append_assoc (X ++ [x])] at h2
  exact h2
theorem vr_outer (c : ClassId) (N h0 : Nat) : ∀ i : Nat, Jvm.Free.Multi.outerC c N h0 i = arrV c N (fun j => va_rf (if j < i then some (h0 + 1 + j) else none))
  | 0 => by
    show ({ cls := c, slots := Array.replicate N .null, vm := .none } : Cell) = _
    rw [arrV_new]
    refine congrArg (arrV c N) (funext fun j => ?_)
    simp [va_rf]
  | i + 1 => by
    show (Jvm.Free.Multi.outerC c N h0 i).setSlot i (.ref (h0 + 1 + i)) = _
    rw [vr_outer c N h0 i, arrV_store]
    refine congrArg (arrV c N) (funext fun j => ?_)
    by_cases e : j = i
    · subst e
      simp [updV, va_rf]
    · by_cases h : j < i
      · simp [updV, e, h, Nat.lt_succ_of_lt h]
      · simp [updV, e, h, show ¬ j < i + 1 by omega]
section VGM
variable {p : Program} {l : Launch} {e : Env} {R : Room} {s : State} {m : MethodId} {args : Array Value} {below : List Frame} {meth : Method} {c : Code} {H : Heap} {locs : List Loc} {cells slots : Nat} {Q : State → Prop}
variable {cc : ByteArray} {pc : Nat} {ls : Array Slot} {rest : List Value} {D : va_G} {cl : List vw_C} {A : Nat → Prop} {a : Nat} {tys : List (ClassId × FieldType)} {ws : va_W} {H0 : Heap}
theorem va_mna {X : va_W} {L : List Nat} {f : Nat → va_E} {cc : ByteArray} (hexec : p.tables.exec = Jvm.exec) (hb : c.code = cc) {own : String} {index : Nat} {ty : FieldType} {cy : ClassId} (hown : s.vm.findClass own = some m.cls) (hclink : (Cond.classLink own index ("[" ++ (FieldType.array ty).toString)).before args s = true) (hover : va_AOA ty s) (harr : (Cond.arrayClass ty).before args s = true) (hcy : s.vm.findClass (FieldType.array ty).toString = some cy)
    (hK : va_K D cl tys s) (hP : va_P D cl (X ++ va_pl L f) H) (hD : va_D A (X ++ va_pl L f)) (hS : va_S A H0 H locs) (hA : ∀ q, H0.size ≤ q → A q) {n k : Int32} {N' K' : Nat} {z : vp_A} (hn : ¬ n < 0) (hk : ¬ k < 0) (hN : n.toNatClampNeg = N') (hM : k.toNatClampNeg = K')
    (hb1 : N' * 4 ≤ 536870912) (hb2 : K' * componentBytes ty ≤ 536870912) (hb3 : K' ≤ 536870912) (hdf : fits ty (defaultValue ty) = true) (hdd : (defaultValue ty).isDefault = true) (hcells : cells + (1 + N') ≤ R.cells) (hslots : slots + (N' + N' * K') ≤ R.slots) (hz : ∀ c : ClassId, Jvm.Free.Multi.innerC c K' (defaultValue ty) = vp_cell c z) (hdg : decode cc pc = .ok (.multianewarray index 2, 4))
    (kk : ∀ (q : Nat) (r : Nat → Nat) (cA : ClassId) (H1 : Heap), (∀ i j : Nat, i < N' → j < N' → r i = r j → i = j) → (∀ i : Nat, i < N' → r i ∉ L) → va_K D cl (tys ++ [(cA, .array ty)]) s →
      va_P D cl ((X ++ [(q, .inl (cA, N', .inr (.inr (.inr (.inr (fun i => if i < N' then some (r i) else none))))))]) ++ va_pl (L ++ (List.range N').map r) (vr_up f ((List.range N').map r) (.inl (cy, z)))) H1 → va_D A ((X ++ [(q, .inl (cA, N', .inr (.inr (.inr (.inr (fun i => if i < N' then some (r i) else none))))))]) ++ va_pl (L ++ (List.range N').map r) (vr_up f ((List.range N').map r) (.inl (cy, z)))) → va_S A H0 H1 locs →
      W p l e R s m args below meth c H1 locs (cells + 1 + N') (slots + N' + N' * K') Q (F0 m (pc + 4) ls (.ref q :: rest))) : W p l e R s m args below meth c H locs cells slots Q (F0 m pc ls (.int k :: .int n :: rest)) := by
  subst hN
  subst hM
  intro T hT Xs
  obtain ⟨vm₁, cA, comp, -, fA, fC, hO, -, X', step⟩ := Xs.multianewarray2F hexec hown hclink (va_AOA.use hover) harr (g := F0 m pc ls (.int k :: .int n :: rest)) rfl (by rw [hb]; exact hdg) rfl hn hk hb1 hb2 hb3 hdf hdd hcells hslots
  have ec : some cy = some comp := hcy.symm.trans fC
  cases ec
  generalize hF : Jvm.Free.Multi.fill (T.setVm vm₁) cA cy n.toNatClampNeg k.toNatClampNeg (defaultValue ty) n.toNatClampNeg = F at X' step
  have hTh : (T.setVm vm₁).heap = H := hT
  obtain ⟨f1, f2, -, -⟩ := Jvm.Free.Multi.fill_facts (T.setVm vm₁) cA cy n.toNatClampNeg k.toNatClampNeg (defaultValue ty) n.toNatClampNeg
  rw [hF, hTh] at f1 f2
  have hold : ∀ x : Nat, x < H.size → F.heap[x]? = H[x]? := fun x hx => by
    have := Jvm.Free.Multi.fill_old (T.setVm vm₁) cA cy n.toNatClampNeg k.toNatClampNeg (defaultValue ty) (a := x) (by rw [hTh]; exact hx) n.toNatClampNeg
    rw [hF, hTh] at this
    exact this
  have hrow : ∀ j : Nat, j < n.toNatClampNeg → F.heap[H.size + 1 + j]? = some (vp_cell cy z) := fun j hj => by
    have := Jvm.Free.Multi.fill_inner (T.setVm vm₁) cA cy n.toNatClampNeg k.toNatClampNeg (defaultValue ty) n.toNatClampNeg j hj
    rw [hF, hTh, hz] at this
    exact this
  have hout : Jvm.Free.Multi.outerC cA n.toNatClampNeg H.size n.toNatClampNeg = vp_cell cA (n.toNatClampNeg, .inr (.inr (.inr (.inr (fun i => if i < n.toNatClampNeg then some (H.size + 1 + i) else none))))) := by
    rw [vp_cell_q]
    exact vr_outer cA n.toNatClampNeg H.size n.toNatClampNeg
  rw [hout] at f2
  have hlt : ∀ a, a ∈ L → a < H.size := fun a ha => by
    obtain ⟨k9, hk9⟩ := va_pl_get (X := X) (f := f) ha
    exact (hP k9 _ hk9).lt
  have hnl : ∀ i : Nat, i < n.toNatClampNeg → H.size + 1 + i ∉ L := fun i _ h => by
    have := hlt _ h
    omega
  have hnm : ∀ a, a ∈ (List.range n.toNatClampNeg).map (fun i => H.size + 1 + i) → a ∉ L := fun a ha h => by
    obtain ⟨i, -, rfl⟩ := List.mem_map.mp ha
    have := hlt _ h
    omega
  have hP0 : va_P D cl (X ++ va_pl L f) F.heap := hP.kept (fun k9 x hx => hold x.1 ((hP k9 x hx).lt))
  have hP1 : va_P D cl ((X ++ va_pl L f) ++ [(H.size, .inl (cA, n.toNatClampNeg, .inr (.inr (.inr (.inr (fun i => if i < n.toNatClampNeg then some (H.size + 1 + i) else none))))))]) F.heap := hP0.app (fun k9 x hx => by
    have h0 : k9 < 1 := (List.getElem?_eq_some_iff.mp hx).1
    rw [show k9 = 0 by omega] at hx
    cases hx
    exact f2)
  have hP2 : va_P D cl (((X ++ va_pl L f) ++ [(H.size, .inl (cA, n.toNatClampNeg, .inr (.inr (.inr (.inr (fun i => if i < n.toNatClampNeg then some (H.size + 1 + i) else none))))))]) ++ ((List.range n.toNatClampNeg).map (fun i => H.size + 1 + i)).map (fun a => (a, .inl (cy, z)))) F.heap := hP1.app (fun k9 x hx => by
    obtain ⟨a, ha, rfl⟩ := List.mem_map.mp (List.mem_of_getElem? hx)
    obtain ⟨i, hi, rfl⟩ := List.mem_map.mp ha
    exact hrow i (List.mem_range.mp hi))
  have hD2 : va_D A (((X ++ va_pl L f) ++ [(H.size, .inl (cA, n.toNatClampNeg, .inr (.inr (.inr (.inr (fun i => if i < n.toNatClampNeg then some (H.size + 1 + i) else none))))))]) ++ ((List.range n.toNatClampNeg).map (fun i => H.size + 1 + i)).map (fun a => (a, .inl (cy, z)))) := by
    have hD1 := hD.push (e := .inl (cA, n.toNatClampNeg, .inr (.inr (.inr (.inr (fun i => if i < n.toNatClampNeg then some (H.size + 1 + i) else none)))))) hP rfl (hA _ hS.1)
    generalize hW1 : (X ++ va_pl L f) ++ [(H.size, .inl (cA, n.toNatClampNeg, .inr (.inr (.inr (.inr (fun i => if i < n.toNatClampNeg then some (H.size + 1 + i) else none))))))] = W1 at hD1 hP1 ⊢
    have hle : ∀ (k9 : Nat) (x : Nat × va_E), W1[k9]? = some x → x.1 ≤ H.size := fun k9 x hx => by
      rw [← hW1] at hx
      by_cases hl : k9 < (X ++ va_pl L f).length
      · rw [List.getElem?_append_left hl] at hx
        exact Nat.le_of_lt ((hP k9 x hx).lt)
      · rw [List.getElem?_append_right (by omega)] at hx
        have h0 : k9 - (X ++ va_pl L f).length < 1 := (List.getElem?_eq_some_iff.mp hx).1
        rw [show k9 - (X ++ va_pl L f).length = 0 by omega] at hx
        cases hx
        exact Nat.le_refl _
    have hr : ∀ (k9 : Nat) (x : Nat × va_E), (((List.range n.toNatClampNeg).map (fun i => H.size + 1 + i)).map (fun a => ((a, .inl (cy, z)) : Nat × va_E)))[k9]? = some x → x.1 = H.size + 1 + k9 := fun k9 x hx => by
      rw [List.getElem?_map, List.getElem?_map] at hx
      by_cases h9 : k9 < n.toNatClampNeg
      · rw [List.getElem?_range h9] at hx
        cases hx
        rfl
      · have hn0 : (List.range n.toNatClampNeg)[k9]? = none := List.getElem?_eq_none (by rw [List.length_range]; omega)
        rw [hn0] at hx
        cases hx
    refine ⟨fun i j x y hi hj hxy => ?_, fun k9 x hx => ?_⟩
    · by_cases h1 : i < W1.length <;> by_cases h2 : j < W1.length
      · rw [List.getElem?_append_left h1] at hi
        rw [List.getElem?_append_left h2] at hj
        exact hD1.1 i j x y hi hj hxy
      · rw [List.getElem?_append_left h1] at hi
        rw [List.getElem?_append_right (by omega)] at hj
        have := hle _ _ hi
        have := hr _ _ hj
        omega
      · rw [List.getElem?_append_right (by omega)] at hi
        rw [List.getElem?_append_left h2] at hj
        have := hle _ _ hj
        have := hr _ _ hi
        omega
      · rw [List.getElem?_append_right (by omega)] at hi hj
        have := hr _ _ hi
        have := hr _ _ hj
        omega
    · by_cases h1 : k9 < W1.length
      · rw [List.getElem?_append_left h1] at hx
        exact hD1.2 k9 x hx
      · rw [List.getElem?_append_right (by omega)] at hx
        have := hr _ _ hx
        exact hA _ (by have := hS.1; omega)
  have hAr : ArrOfT s cA (.array ty) := fun N9 z9 => by
    obtain ⟨-, k9, hk9, cm9, hkk9⟩ := (hO 0 0 0).1
    exact ⟨(fun q hq => by cases hq), k9, hk9, cm9, hkk9⟩
  have hK2 : va_K D cl (tys ++ [(cA, .array ty)]) s := ⟨hK.1, fun k9 x hx => by
    by_cases hl : k9 < tys.length
    · rw [List.getElem?_append_left hl] at hx
      exact hK.2 k9 x hx
    · rw [List.getElem?_append_right (by omega)] at hx
      have h0 : k9 - tys.length < 1 := (List.getElem?_eq_some_iff.mp hx).1
      rw [show k9 - tys.length = 0 by omega] at hx
      cases hx
      exact ⟨hAr, fA⟩⟩
  obtain ⟨t, a1, b1⟩ := kk H.size (fun i => H.size + 1 + i) cA F.heap (fun i j _ _ h => by have h9 : H.size + 1 + i = H.size + 1 + j := h; omega) hnl hK2 (by rw [← vr_rows hnm]; exact vr_lay hP2) (by rw [← vr_rows hnm]; exact vr_layD hD2) ⟨by rw [f1]; have := hS.1; omega, fun x h1 h2 => (hold x (Nat.lt_of_lt_of_le h1 hS.1)).trans (hS.2.1 x h1 h2), hS.2.2⟩ F rfl X'
  refine ⟨t, step t ?_, b1⟩
  have e : T.heap.size = H.size := by rw [hT]
  rw [e]
  exact a1
end VGM
/-! ===== END ===== -/

/-! ===== BEGIN printed: names, fields, word lists, decode rows ===== -/
def RX0 : String := "PairScales$Big"
def TX0 : u_T := fun k => match k with
  | _ => ("PairScales$Big", "limbs", "[J", true)
def tyX0 : Nat → FieldType := fun k => match k with
  | _ => .array .long
abbrev wsX00 : List Cond := u_ws RX0 TX0 1
theorem nmX0 : ∀ a, a < 1 → ∀ b, b < 1 → a ≠ b → (TX0 a).2.1 ≠ (TX0 b).2.1 := by decide +kernel
theorem tyX0_ok : ∀ k, k < 1 → parseFieldDescriptor (TX0 k).2.2.1 = some (tyX0 k) := by decide +kernel
abbrev cX0_init : ByteArray := prog_2_method_1_code
def yX0_init : MethodName := ⟨RX0, "<init>", "()V"⟩
abbrev cX0_reset : ByteArray := prog_2_method_2_code
def yX0_reset : MethodName := ⟨RX0, "reset", "()V"⟩
abbrev cX0_multiply : ByteArray := prog_2_method_3_code
def yX0_multiply : MethodName := ⟨RX0, "multiply", "(JI)V"⟩
abbrev cX0_isAbove : ByteArray := prog_2_method_4_code
def yX0_isAbove : MethodName := ⟨RX0, "isAbove", "(LPairScales$Big;)Z"⟩
def RX1 : String := "PairScales$Fraction"
def TX1 : u_T := fun k => match k with
  | _ => ("", "", "", false)
def tyX1 : Nat → FieldType := fun k => match k with
  | _ => .int
abbrev wsX10 : List Cond := u_ws RX1 TX1 0
theorem nmX1 : ∀ a, a < 0 → ∀ b, b < 0 → a ≠ b → (TX1 a).2.1 ≠ (TX1 b).2.1 := by decide +kernel
theorem tyX1_ok : ∀ k, k < 0 → parseFieldDescriptor (TX1 k).2.2.1 = some (tyX1 k) := by decide +kernel
abbrev cX1_of : ByteArray := prog_3_method_2_code
def yX1_of : MethodName := ⟨RX1, "of", "(JJ)J"⟩
abbrev cX1_top : ByteArray := prog_3_method_3_code
def yX1_top : MethodName := ⟨RX1, "top", "(J)J"⟩
abbrev cX1_bottom : ByteArray := prog_3_method_4_code
def yX1_bottom : MethodName := ⟨RX1, "bottom", "(J)J"⟩
abbrev cX1_times : ByteArray := prog_3_method_5_code
def yX1_times : MethodName := ⟨RX1, "times", "(JJ)J"⟩
abbrev cX1_inverse : ByteArray := prog_3_method_6_code
def yX1_inverse : MethodName := ⟨RX1, "inverse", "(J)J"⟩
abbrev cX1_isAbove : ByteArray := prog_3_method_7_code
def yX1_isAbove : MethodName := ⟨RX1, "isAbove", "(JJ)Z"⟩
abbrev cX1_part : ByteArray := prog_3_method_8_code
def yX1_part : MethodName := ⟨RX1, "part", "(JI)I"⟩
abbrev cX1_commonDivisor : ByteArray := prog_3_method_9_code
def yX1_commonDivisor : MethodName := ⟨RX1, "commonDivisor", "(JJ)J"⟩
def RX2 : String := "PairScales$Leaving"
def TX2 : u_T := fun k => match k with
  | 0 => ("PairScales$Leaving", "things", "I", true)
  | 1 => ("PairScales$Leaving", "pairs", "I", true)
  | 2 => ("PairScales$Leaving", "upper", "[I", true)
  | 3 => ("PairScales$Leaving", "lower", "[I", true)
  | 4 => ("PairScales$Leaving", "groups", "[[I", true)
  | 5 => ("PairScales$Leaving", "worths", "[[I", true)
  | 6 => ("PairScales$Leaving", "fewest", "I", false)
  | _ => ("PairScales$Leaving", "leastHeap", "I", false)
def tyX2 : Nat → FieldType := fun k => match k with
  | 0 => .int
  | 1 => .int
  | 2 => .array .int
  | 3 => .array .int
  | 4 => .array (.array .int)
  | 5 => .array (.array .int)
  | 6 => .int
  | _ => .int
abbrev wsX20 : List Cond := u_ws RX2 TX2 8
theorem nmX2 : ∀ a, a < 8 → ∀ b, b < 8 → a ≠ b → (TX2 a).2.1 ≠ (TX2 b).2.1 := by decide +kernel
theorem tyX2_ok : ∀ k, k < 8 → parseFieldDescriptor (TX2 k).2.2.1 = some (tyX2 k) := by decide +kernel
abbrev cX2_init : ByteArray := prog_4_method_1_code
def yX2_init : MethodName := ⟨RX2, "<init>", "(I)V"⟩
abbrev cX2_search : ByteArray := prog_4_method_2_code
def yX2_search : MethodName := ⟨RX2, "search", "(LPairScales$Table;)V"⟩
abbrev cX2_settle : ByteArray := prog_4_method_3_code
def yX2_settle : MethodName := ⟨RX2, "settle", "(LPairScales$Table;IIII)V"⟩
abbrev cX2_join : ByteArray := prog_4_method_4_code
def yX2_join : MethodName := ⟨RX2, "join", "(IIII)V"⟩
abbrev cX2_logOf : ByteArray := prog_4_method_5_code
def yX2_logOf : MethodName := ⟨RX2, "logOf", "(J)I"⟩
abbrev cX2_logOfDigit : ByteArray := prog_4_method_6_code
def yX2_logOfDigit : MethodName := ⟨RX2, "logOfDigit", "(J)I"⟩
def RX3 : String := "PairScales$Rings"
def TX3 : u_T := fun k => match k with
  | 0 => ("PairScales$Rings", "things", "I", true)
  | _ => ("PairScales$Rings", "greatest", "[J", true)
def tyX3 : Nat → FieldType := fun k => match k with
  | 0 => .int
  | _ => .array .long
abbrev wsX30 : List Cond := u_ws RX3 TX3 2
theorem nmX3 : ∀ a, a < 2 → ∀ b, b < 2 → a ≠ b → (TX3 a).2.1 ≠ (TX3 b).2.1 := by decide +kernel
theorem tyX3_ok : ∀ k, k < 2 → parseFieldDescriptor (TX3 k).2.2.1 = some (tyX3 k) := by decide +kernel
abbrev cX3_init : ByteArray := prog_5_method_1_code
def yX3_init : MethodName := ⟨RX3, "<init>", "(I)V"⟩
abbrev cX3_noneAboveOne : ByteArray := prog_5_method_2_code
def yX3_noneAboveOne : MethodName := ⟨RX3, "noneAboveOne", "(LPairScales$Table;)Z"⟩
abbrev cX3_measure : ByteArray := prog_5_method_3_code
def yX3_measure : MethodName := ⟨RX3, "measure", "(LPairScales$Table;)V"⟩
abbrev cX3_extend : ByteArray := prog_5_method_4_code
def yX3_extend : MethodName := ⟨RX3, "extend", "(LPairScales$Table;IIIIJ)V"⟩
abbrev cX3_close : ByteArray := prog_5_method_5_code
def yX3_close : MethodName := ⟨RX3, "close", "(IJ)V"⟩
def RX4 : String := "PairScales$Roots"
def TX4 : u_T := fun k => match k with
  | 0 => ("PairScales$Roots", "one", "LPairScales$Big;", true)
  | _ => ("PairScales$Roots", "other", "LPairScales$Big;", true)
def tyX4 : Nat → FieldType := fun k => match k with
  | 0 => .object "PairScales$Big"
  | _ => .object "PairScales$Big"
abbrev wsX40 : List Cond := u_ws RX4 TX4 2
theorem nmX4 : ∀ a, a < 2 → ∀ b, b < 2 → a ≠ b → (TX4 a).2.1 ≠ (TX4 b).2.1 := by decide +kernel
theorem tyX4_ok : ∀ k, k < 2 → parseFieldDescriptor (TX4 k).2.2.1 = some (tyX4 k) := by decide +kernel
abbrev cX4_init : ByteArray := prog_6_method_1_code
def yX4_init : MethodName := ⟨RX4, "<init>", "()V"⟩
abbrev cX4_isAbove : ByteArray := prog_6_method_2_code
def yX4_isAbove : MethodName := ⟨RX4, "isAbove", "(JIJI)Z"⟩
def RX5 : String := "PairScales$Table"
def TX5 : u_T := fun k => match k with
  | 0 => ("PairScales$Table", "things", "I", true)
  | 1 => ("PairScales$Table", "lows", "[[J", true)
  | _ => ("PairScales$Table", "filled", "I", false)
def tyX5 : Nat → FieldType := fun k => match k with
  | 0 => .int
  | 1 => .array (.array .long)
  | _ => .int
abbrev wsX50 : List Cond := u_ws RX5 TX5 3
theorem nmX5 : ∀ a, a < 3 → ∀ b, b < 3 → a ≠ b → (TX5 a).2.1 ≠ (TX5 b).2.1 := by decide +kernel
theorem tyX5_ok : ∀ k, k < 3 → parseFieldDescriptor (TX5 k).2.2.1 = some (tyX5 k) := by decide +kernel
abbrev cX5_init : ByteArray := prog_7_method_1_code
def yX5_init : MethodName := ⟨RX5, "<init>", "(I)V"⟩
abbrev cX5_isThing : ByteArray := prog_7_method_2_code
def yX5_isThing : MethodName := ⟨RX5, "isThing", "(I)Z"⟩
abbrev cX5_isPair : ByteArray := prog_7_method_3_code
def yX5_isPair : MethodName := ⟨RX5, "isPair", "(II)Z"⟩
abbrev cX5_holds : ByteArray := prog_7_method_4_code
def yX5_holds : MethodName := ⟨RX5, "holds", "(II)Z"⟩
abbrev cX5_isFull : ByteArray := prog_7_method_5_code
def yX5_isFull : MethodName := ⟨RX5, "isFull", "()Z"⟩
abbrev cX5_low : ByteArray := prog_7_method_6_code
def yX5_low : MethodName := ⟨RX5, "low", "(II)J"⟩
abbrev cX5_put : ByteArray := prog_7_method_7_code
def yX5_put : MethodName := ⟨RX5, "put", "(IIJJ)V"⟩
abbrev cX5_drop : ByteArray := prog_7_method_8_code
def yX5_drop : MethodName := ⟨RX5, "drop", "(II)Z"⟩
def RX6 : String := "PairScales$TreeCount"
def TX6 : u_T := fun k => match k with
  | 0 => ("PairScales$TreeCount", "size", "I", true)
  | _ => ("PairScales$TreeCount", "matrix", "[[I", true)
def tyX6 : Nat → FieldType := fun k => match k with
  | 0 => .int
  | _ => .array (.array .int)
abbrev wsX60 : List Cond := u_ws RX6 TX6 2
theorem nmX6 : ∀ a, a < 2 → ∀ b, b < 2 → a ≠ b → (TX6 a).2.1 ≠ (TX6 b).2.1 := by decide +kernel
theorem tyX6_ok : ∀ k, k < 2 → parseFieldDescriptor (TX6 k).2.2.1 = some (tyX6 k) := by decide +kernel
abbrev cX6_init : ByteArray := prog_8_method_1_code
def yX6_init : MethodName := ⟨RX6, "<init>", "(I)V"⟩
abbrev cX6_of : ByteArray := prog_8_method_2_code
def yX6_of : MethodName := ⟨RX6, "of", "(LPairScales$Table;)I"⟩
abbrev cX6_fill : ByteArray := prog_8_method_3_code
def yX6_fill : MethodName := ⟨RX6, "fill", "(LPairScales$Table;)V"⟩
abbrev cX6_eliminate : ByteArray := prog_8_method_4_code
def yX6_eliminate : MethodName := ⟨RX6, "eliminate", "(III)V"⟩
def RX7 : String := "PairScales$WorstThree"
def TX7 : u_T := fun k => match k with
  | 0 => ("PairScales$WorstThree", "things", "I", true)
  | 1 => ("PairScales$WorstThree", "i", "I", false)
  | 2 => ("PairScales$WorstThree", "j", "I", false)
  | 3 => ("PairScales$WorstThree", "k", "I", false)
  | _ => ("PairScales$WorstThree", "off", "J", false)
def tyX7 : Nat → FieldType := fun k => match k with
  | 0 => .int
  | 1 => .int
  | 2 => .int
  | 3 => .int
  | _ => .long
abbrev wsX70 : List Cond := u_ws RX7 TX7 5
theorem nmX7 : ∀ a, a < 5 → ∀ b, b < 5 → a ≠ b → (TX7 a).2.1 ≠ (TX7 b).2.1 := by decide +kernel
theorem tyX7_ok : ∀ k, k < 5 → parseFieldDescriptor (TX7 k).2.2.1 = some (tyX7 k) := by decide +kernel
abbrev cX7_init : ByteArray := prog_9_method_1_code
def yX7_init : MethodName := ⟨RX7, "<init>", "(I)V"⟩
abbrev cX7_find : ByteArray := prog_9_method_2_code
def yX7_find : MethodName := ⟨RX7, "find", "(LPairScales$Table;)V"⟩
abbrev cX7_compare : ByteArray := prog_9_method_3_code
def yX7_compare : MethodName := ⟨RX7, "compare", "(LPairScales$Table;III)V"⟩
abbrev cX7_offOf : ByteArray := prog_9_method_4_code
def yX7_offOf : MethodName := ⟨RX7, "offOf", "(LPairScales$Table;III)J"⟩
def RX8 : String := "PairScales"
def TX8 : u_T := fun k => match k with
  | 0 => ("PairScales", "things", "I", true)
  | 1 => ("PairScales", "sayings", "LPairScales$Table;", true)
  | 2 => ("PairScales", "spans", "LPairScales$Table;", true)
  | 3 => ("PairScales", "worstThree", "LPairScales$WorstThree;", true)
  | 4 => ("PairScales", "rings", "LPairScales$Rings;", true)
  | 5 => ("PairScales", "treeCount", "LPairScales$TreeCount;", true)
  | 6 => ("PairScales", "leaving", "LPairScales$Leaving;", true)
  | _ => ("PairScales", "roots", "LPairScales$Roots;", true)
def tyX8 : Nat → FieldType := fun k => match k with
  | 0 => .int
  | 1 => .object "PairScales$Table"
  | 2 => .object "PairScales$Table"
  | 3 => .object "PairScales$WorstThree"
  | 4 => .object "PairScales$Rings"
  | 5 => .object "PairScales$TreeCount"
  | 6 => .object "PairScales$Leaving"
  | _ => .object "PairScales$Roots"
abbrev wsX80 : List Cond := u_ws RX8 TX8 8
theorem nmX8 : ∀ a, a < 8 → ∀ b, b < 8 → a ≠ b → (TX8 a).2.1 ≠ (TX8 b).2.1 := by decide +kernel
theorem tyX8_ok : ∀ k, k < 8 → parseFieldDescriptor (TX8 k).2.2.1 = some (tyX8 k) := by decide +kernel
abbrev cX8_init : ByteArray := prog_1_method_1_code
def yX8_init : MethodName := ⟨RX8, "<init>", "(I)V"⟩
abbrev cX8_say : ByteArray := prog_1_method_2_code
def yX8_say : MethodName := ⟨RX8, "say", "(IIII)Z"⟩
abbrev cX8_unsay : ByteArray := prog_1_method_3_code
def yX8_unsay : MethodName := ⟨RX8, "unsay", "(II)Z"⟩
abbrev cX8_said : ByteArray := prog_1_method_4_code
def yX8_said : MethodName := ⟨RX8, "said", "(III)I"⟩
abbrev cX8_even : ByteArray := prog_1_method_5_code
def yX8_even : MethodName := ⟨RX8, "even", "()Z"⟩
abbrev cX8_worst : ByteArray := prog_1_method_6_code
def yX8_worst : MethodName := ⟨RX8, "worst", "(I)I"⟩
abbrev cX8_trees : ByteArray := prog_1_method_7_code
def yX8_trees : MethodName := ⟨RX8, "trees", "()I"⟩
abbrev cX8_few : ByteArray := prog_1_method_8_code
def yX8_few : MethodName := ⟨RX8, "few", "()I"⟩
abbrev cX8_left : ByteArray := prog_1_method_9_code
def yX8_left : MethodName := ⟨RX8, "left", "()I"⟩
abbrev cX8_row : ByteArray := prog_1_method_10_code
def yX8_row : MethodName := ⟨RX8, "row", "(II)I"⟩
abbrev cX8_order : ByteArray := prog_1_method_11_code
def yX8_order : MethodName := ⟨RX8, "order", "(II)I"⟩
abbrev cX8_least : ByteArray := prog_1_method_12_code
def yX8_least : MethodName := ⟨RX8, "least", "(I)I"⟩
abbrev cX8_span : ByteArray := prog_1_method_13_code
def yX8_span : MethodName := ⟨RX8, "span", "(III)Z"⟩
abbrev cX8_unspan : ByteArray := prog_1_method_14_code
def yX8_unspan : MethodName := ⟨RX8, "unspan", "(II)Z"⟩
abbrev cX8_can : ByteArray := prog_1_method_15_code
def yX8_can : MethodName := ⟨RX8, "can", "()Z"⟩
abbrev cX8_bound : ByteArray := prog_1_method_16_code
def yX8_bound : MethodName := ⟨RX8, "bound", "(III)I"⟩
abbrev cX8_count : ByteArray := prog_1_method_17_code
def yX8_count : MethodName := ⟨RX8, "count", "(I)I"⟩
abbrev cX8_isDigit : ByteArray := prog_1_method_18_code
def yX8_isDigit : MethodName := ⟨RX8, "isDigit", "(I)Z"⟩
abbrev cX8_isPart : ByteArray := prog_1_method_19_code
def yX8_isPart : MethodName := ⟨RX8, "isPart", "(I)Z"⟩
abbrev cX8_productOfRow : ByteArray := prog_1_method_20_code
def yX8_productOfRow : MethodName := ⟨RX8, "productOfRow", "(I)J"⟩
abbrev cX8_sizeOfGreatestRoot : ByteArray := prog_1_method_21_code
def yX8_sizeOfGreatestRoot : MethodName := ⟨RX8, "sizeOfGreatestRoot", "()I"⟩
abbrev cX8_greatestWay : ByteArray := prog_1_method_22_code
def yX8_greatestWay : MethodName := ⟨RX8, "greatestWay", "(IIIIJ)J"⟩
def RX9 : String := "PairScalesModel"
def TX9 : u_T := fun k => match k with
  | 0 => ("PairScalesModel", "n", "I", true)
  | 1 => ("PairScalesModel", "pairs", "I", true)
  | 2 => ("PairScalesModel", "top", "[I", true)
  | 3 => ("PairScalesModel", "bottom", "[I", true)
  | 4 => ("PairScalesModel", "lowTop", "[I", true)
  | 5 => ("PairScalesModel", "lowBottom", "[I", true)
  | 6 => ("PairScalesModel", "highTop", "[I", true)
  | 7 => ("PairScalesModel", "highBottom", "[I", true)
  | 8 => ("PairScalesModel", "first", "[I", true)
  | 9 => ("PairScalesModel", "second", "[I", true)
  | 10 => ("PairScalesModel", "weightTop", "[J", true)
  | 11 => ("PairScalesModel", "weightBottom", "[J", true)
  | 12 => ("PairScalesModel", "isReached", "[Z", true)
  | 13 => ("PairScalesModel", "parts", "I", false)
  | 14 => ("PairScalesModel", "worstOf", "[I", true)
  | 15 => ("PairScalesModel", "left", "[J", true)
  | 16 => ("PairScalesModel", "right", "[J", true)
  | 17 => ("PairScalesModel", "leastTop", "J", false)
  | 18 => ("PairScalesModel", "leastBottom", "J", false)
  | 19 => ("PairScalesModel", "leastMany", "I", false)
  | 20 => ("PairScalesModel", "way", "[I", true)
  | 21 => ("PairScalesModel", "bestTop", "J", false)
  | 22 => ("PairScalesModel", "bestBottom", "J", false)
  | 23 => ("PairScalesModel", "isSome", "Z", false)
  | _ => ("PairScalesModel", "canBe", "Z", false)
def tyX9 : Nat → FieldType := fun k => match k with
  | 0 => .int
  | 1 => .int
  | 2 => .array .int
  | 3 => .array .int
  | 4 => .array .int
  | 5 => .array .int
  | 6 => .array .int
  | 7 => .array .int
  | 8 => .array .int
  | 9 => .array .int
  | 10 => .array .long
  | 11 => .array .long
  | 12 => .array .boolean
  | 13 => .int
  | 14 => .array .int
  | 15 => .array .long
  | 16 => .array .long
  | 17 => .long
  | 18 => .long
  | 19 => .int
  | 20 => .array .int
  | 21 => .long
  | 22 => .long
  | 23 => .boolean
  | _ => .boolean
abbrev wsX90 : List Cond := u_ws RX9 TX9 25
theorem nmX9 : ∀ a, a < 25 → ∀ b, b < 25 → a ≠ b → (TX9 a).2.1 ≠ (TX9 b).2.1 := by decide +kernel
theorem tyX9_ok : ∀ k, k < 25 → parseFieldDescriptor (TX9 k).2.2.1 = some (tyX9 k) := by decide +kernel
abbrev cX9_init : ByteArray := prog_11_method_1_code
def yX9_init : MethodName := ⟨RX9, "<init>", "(I)V"⟩
abbrev cX9_in : ByteArray := prog_11_method_2_code
def yX9_in : MethodName := ⟨RX9, "in", "(III)Z"⟩
abbrev cX9_areTwo : ByteArray := prog_11_method_3_code
def yX9_areTwo : MethodName := ⟨RX9, "areTwo", "(II)Z"⟩
abbrev cX9_pair : ByteArray := prog_11_method_4_code
def yX9_pair : MethodName := ⟨RX9, "pair", "(II)I"⟩
abbrev cX9_divisor : ByteArray := prog_11_method_5_code
def yX9_divisor : MethodName := ⟨RX9, "divisor", "(JJ)J"⟩
abbrev cX9_say : ByteArray := prog_11_method_6_code
def yX9_say : MethodName := ⟨RX9, "say", "(IIII)Z"⟩
abbrev cX9_unsay : ByteArray := prog_11_method_7_code
def yX9_unsay : MethodName := ⟨RX9, "unsay", "(II)Z"⟩
abbrev cX9_isSaid : ByteArray := prog_11_method_8_code
def yX9_isSaid : MethodName := ⟨RX9, "isSaid", "(II)Z"⟩
abbrev cX9_topOf : ByteArray := prog_11_method_9_code
def yX9_topOf : MethodName := ⟨RX9, "topOf", "(II)I"⟩
abbrev cX9_bottomOf : ByteArray := prog_11_method_10_code
def yX9_bottomOf : MethodName := ⟨RX9, "bottomOf", "(II)I"⟩
abbrev cX9_said : ByteArray := prog_11_method_11_code
def yX9_said : MethodName := ⟨RX9, "said", "(III)I"⟩
abbrev cX9_fits : ByteArray := prog_11_method_12_code
def yX9_fits : MethodName := ⟨RX9, "fits", "(I)Z"⟩
abbrev cX9_all : ByteArray := prog_11_method_13_code
def yX9_all : MethodName := ⟨RX9, "all", "()I"⟩
abbrev cX9_even : ByteArray := prog_11_method_14_code
def yX9_even : MethodName := ⟨RX9, "even", "()Z"⟩
abbrev cX9_trees : ByteArray := prog_11_method_15_code
def yX9_trees : MethodName := ⟨RX9, "trees", "()I"⟩
abbrev cX9_leastHeap : ByteArray := prog_11_method_16_code
def yX9_leastHeap : MethodName := ⟨RX9, "leastHeap", "()I"⟩
abbrev cX9_few : ByteArray := prog_11_method_17_code
def yX9_few : MethodName := ⟨RX9, "few", "()I"⟩
abbrev cX9_left : ByteArray := prog_11_method_18_code
def yX9_left : MethodName := ⟨RX9, "left", "()I"⟩
abbrev cX9_findsWorst : ByteArray := prog_11_method_19_code
def yX9_findsWorst : MethodName := ⟨RX9, "findsWorst", "()Z"⟩
abbrev cX9_worst : ByteArray := prog_11_method_20_code
def yX9_worst : MethodName := ⟨RX9, "worst", "(I)I"⟩
abbrev cX9_areAllSaid : ByteArray := prog_11_method_21_code
def yX9_areAllSaid : MethodName := ⟨RX9, "areAllSaid", "()Z"⟩
abbrev cX9_rowPart : ByteArray := prog_11_method_22_code
def yX9_rowPart : MethodName := ⟨RX9, "rowPart", "(IZ)J"⟩
abbrev cX9_row : ByteArray := prog_11_method_23_code
def yX9_row : MethodName := ⟨RX9, "row", "(II)I"⟩
abbrev cX9_order : ByteArray := prog_11_method_24_code
def yX9_order : MethodName := ⟨RX9, "order", "(II)I"⟩
abbrev cX9_one : ByteArray := prog_11_method_25_code
def yX9_one : MethodName := ⟨RX9, "one", "([J)V"⟩
abbrev cX9_times : ByteArray := prog_11_method_26_code
def yX9_times : MethodName := ⟨RX9, "times", "([JJI)V"⟩
abbrev cX9_compare : ByteArray := prog_11_method_27_code
def yX9_compare : MethodName := ⟨RX9, "compare", "(JJI)I"⟩
abbrev cX9_ring : ByteArray := prog_11_method_28_code
def yX9_ring : MethodName := ⟨RX9, "ring", "(JJI)V"⟩
abbrev cX9_rings : ByteArray := prog_11_method_29_code
def yX9_rings : MethodName := ⟨RX9, "rings", "(IJJ)V"⟩
abbrev cX9_least : ByteArray := prog_11_method_30_code
def yX9_least : MethodName := ⟨RX9, "least", "(I)I"⟩
abbrev cX9_span : ByteArray := prog_11_method_31_code
def yX9_span : MethodName := ⟨RX9, "span", "(III)Z"⟩
abbrev cX9_unspan : ByteArray := prog_11_method_32_code
def yX9_unspan : MethodName := ⟨RX9, "unspan", "(II)Z"⟩
abbrev cX9_isSpan : ByteArray := prog_11_method_33_code
def yX9_isSpan : MethodName := ⟨RX9, "isSpan", "(II)Z"⟩
abbrev cX9_lowOver : ByteArray := prog_11_method_34_code
def yX9_lowOver : MethodName := ⟨RX9, "lowOver", "(II)I"⟩
abbrev cX9_lowUnder : ByteArray := prog_11_method_35_code
def yX9_lowUnder : MethodName := ⟨RX9, "lowUnder", "(II)I"⟩
abbrev cX9_ways : ByteArray := prog_11_method_36_code
def yX9_ways : MethodName := ⟨RX9, "ways", "(IIJJ)V"⟩
abbrev cX9_goes : ByteArray := prog_11_method_37_code
def yX9_goes : MethodName := ⟨RX9, "goes", "(II)V"⟩
abbrev cX9_can : ByteArray := prog_11_method_38_code
def yX9_can : MethodName := ⟨RX9, "can", "()Z"⟩
abbrev cX9_bound : ByteArray := prog_11_method_39_code
def yX9_bound : MethodName := ⟨RX9, "bound", "(III)I"⟩
abbrev cX9_count : ByteArray := prog_11_method_40_code
def yX9_count : MethodName := ⟨RX9, "count", "(I)I"⟩
def RJ6 : String := "java/lang/Integer"
def TJ6 : u_T := fun k => match k with
  | _ => ("", "", "", false)
def tyJ6 : Nat → FieldType := fun k => match k with
  | _ => .int
abbrev wsJ60 : List Cond := u_ws RJ6 TJ6 0
theorem nmJ6 : ∀ a, a < 0 → ∀ b, b < 0 → a ≠ b → (TJ6 a).2.1 ≠ (TJ6 b).2.1 := by decide +kernel
theorem tyJ6_ok : ∀ k, k < 0 → parseFieldDescriptor (TJ6 k).2.2.1 = some (tyJ6 k) := by decide +kernel
abbrev cJ6_bitCount_0f7a4 : ByteArray := prog_12_method_49_code
def yJ6_bitCount_0f7a4 : MethodName := ⟨RJ6, "bitCount", "(I)I"⟩
def RJ9 : String := "java/lang/Math"
def TJ9 : u_T := fun k => match k with
  | _ => ("", "", "", false)
def tyJ9 : Nat → FieldType := fun k => match k with
  | _ => .int
abbrev wsJ90 : List Cond := u_ws RJ9 TJ9 0
theorem nmJ9 : ∀ a, a < 0 → ∀ b, b < 0 → a ≠ b → (TJ9 a).2.1 ≠ (TJ9 b).2.1 := by decide +kernel
theorem tyJ9_ok : ∀ k, k < 0 → parseFieldDescriptor (TJ9 k).2.2.1 = some (tyJ9 k) := by decide +kernel
abbrev cJ9_max_7cf53 : ByteArray := prog_13_method_65_code
def yJ9_max_7cf53 : MethodName := ⟨RJ9, "max", "(II)I"⟩
abbrev cJ9_max_f86c9 : ByteArray := prog_13_method_66_code
def yJ9_max_f86c9 : MethodName := ⟨RJ9, "max", "(JJ)J"⟩
abbrev cJ9_min_7cf53 : ByteArray := prog_13_method_69_code
def yJ9_min_7cf53 : MethodName := ⟨RJ9, "min", "(II)I"⟩
abbrev cJ9_min_f86c9 : ByteArray := prog_13_method_70_code
def yJ9_min_f86c9 : MethodName := ⟨RJ9, "min", "(JJ)J"⟩
def RJ7 : String := "java/util/Arrays"
def TJ7 : u_T := fun k => match k with
  | _ => ("", "", "", false)
def tyJ7 : Nat → FieldType := fun k => match k with
  | _ => .int
abbrev wsJ70 : List Cond := u_ws RJ7 TJ7 0
theorem nmJ7 : ∀ a, a < 0 → ∀ b, b < 0 → a ≠ b → (TJ7 a).2.1 ≠ (TJ7 b).2.1 := by decide +kernel
theorem tyJ7_ok : ∀ k, k < 0 → parseFieldDescriptor (TJ7 k).2.2.1 = some (tyJ7 k) := by decide +kernel
abbrev cJ7_fill_d0a16 : ByteArray := prog_14_method_101_code
def yJ7_fill_d0a16 : MethodName := ⟨RJ7, "fill", "([JJ)V"⟩
def RL : String := "PairScalesLaw"
abbrev cL_cell : ByteArray := method_2_code
def yL_cell : MethodName := ⟨RL, "cell", "([II)I"⟩
abbrev cL_law : ByteArray := code
def yL_law : MethodName := ⟨RL, "law", "([I)Z"⟩
abbrev vwCl : List vw_C := [(RX0, TX0, 1), (RX2, TX2, 8), (RX3, TX3, 2), (RX4, TX4, 2), (RX5, TX5, 3), (RX6, TX6, 2), (RX7, TX7, 5), (RX8, TX8, 8), (RX9, TX9, 25)]
end
section
/-- the words that a call may hand on: those of lw_tbl that are good -/
def xk_WS : List Cond := lw_tbl.filter goodWord
theorem xk_in (i : Nat) {w : Cond} (h : lw_tbl[i]? = some w) (g : goodWord w = true) : w ∈ xk_WS := List.mem_filter.mpr ⟨List.mem_of_getElem? h, g⟩
theorem xk_ins (ws : List Cond) (ps : List Nat) (hp : ws = ps.filterMap (fun i => lw_tbl[i]?)) (g : ws.all goodWord = true) : ∀ w ∈ ws, w ∈ xk_WS := by
  intro w hw
  have h1 := List.all_eq_true.mp g w hw
  rw [hp] at hw
  obtain ⟨i, -, hi⟩ := List.mem_filterMap.mp hw
  exact xk_in i hi h1
theorem xk_good : ∀ w ∈ xk_WS, w ∈ lw_tbl ∧ ((w.onTables && w.keeps) = true ∨ ∃ ty, w = .arrayClass ty) := fun w h => ⟨(List.mem_filter.mp h).1, good_of_word (List.mem_filter.mp h).2⟩
theorem wq_L_7 : Cond.classLink RL 7 RX8 ∈ xk_WS := xk_in 43 (by decide +kernel) (by decide +kernel)
theorem wz_X8 : Cond.instantiable RX8 8 ∈ xk_WS := xk_in 44 (by decide +kernel) (by decide +kernel)
theorem wn_X8 : Cond.initialized RX8 ∈ xk_WS := xk_in 30 (by decide +kernel) (by decide +kernel)
theorem wq_L_18 : Cond.classLink RL 18 RX9 ∈ xk_WS := xk_in 458 (by decide +kernel) (by decide +kernel)
theorem wz_X9 : Cond.instantiable RX9 25 ∈ xk_WS := xk_in 459 (by decide +kernel) (by decide +kernel)
theorem wn_X9 : Cond.initialized RX9 ∈ xk_WS := xk_in 40 (by decide +kernel) (by decide +kernel)
theorem wm_L_9 : Cond.methodLink RL 9 yL_cell ∈ xk_WS := xk_in 455 (by decide +kernel) (by decide +kernel)
theorem wt_L_cell : Cond.static yL_cell ∈ xk_WS := xk_in 456 (by decide +kernel) (by decide +kernel)
theorem wn_L : Cond.initialized RL ∈ xk_WS := xk_in 29 (by decide +kernel) (by decide +kernel)
theorem wc_L_cell : Cond.code yL_cell cL_cell 2 (some .int) ∈ xk_WS := xk_in 457 (by decide +kernel) (by decide +kernel)
theorem wm_L_15 : Cond.methodLink RL 15 yX8_init ∈ xk_WS := xk_in 45 (by decide +kernel) (by decide +kernel)
theorem wi_X8_init : Cond.instanceMethod yX8_init ∈ xk_WS := xk_in 46 (by decide +kernel) (by decide +kernel)
theorem wc_X8_init : Cond.code yX8_init cX8_init 2 none ∈ xk_WS := xk_in 47 (by decide +kernel) (by decide +kernel)
theorem wm_X8_1 : Cond.methodLink RX8 1 objectInit ∈ xk_WS := xk_in 48 (by decide +kernel) (by decide +kernel)
theorem wo_instanceMethod_objectInit : Cond.instanceMethod objectInit ∈ xk_WS := xk_in 49 (by decide +kernel) (by decide +kernel)
theorem wo_code_objectInit_0xb1_1_none : Cond.code objectInit ⟨#[0xb1]⟩ 1 none ∈ xk_WS := xk_in 50 (by decide +kernel) (by decide +kernel)
theorem wm_X8_9 : Cond.methodLink RX8 9 Lib.Math.min.name ∈ xk_WS := xk_in 51 (by decide +kernel) (by decide +kernel)
theorem wo_static_Lib_Math_min_name : Cond.static Lib.Math.min.name ∈ xk_WS := xk_in 52 (by decide +kernel) (by decide +kernel)
theorem wo_initialized_java_lang_Math_ : Cond.initialized "java/lang/Math" ∈ xk_WS := xk_in 31 (by decide +kernel) (by decide +kernel)
theorem wo_code_Lib_Math_min_name_Lib_Math_min_code_2_some_int_ : Cond.code Lib.Math.min.name Lib.Math.min.code 2 (some .int) ∈ xk_WS := xk_in 53 (by decide +kernel) (by decide +kernel)
theorem wm_X8_15 : Cond.methodLink RX8 15 Lib.Math.max.name ∈ xk_WS := xk_in 54 (by decide +kernel) (by decide +kernel)
theorem wo_static_Lib_Math_max_name : Cond.static Lib.Math.max.name ∈ xk_WS := xk_in 55 (by decide +kernel) (by decide +kernel)
theorem wo_code_Lib_Math_max_name_Lib_Math_max_code_2_some_int_ : Cond.code Lib.Math.max.name Lib.Math.max.code 2 (some .int) ∈ xk_WS := xk_in 56 (by decide +kernel) (by decide +kernel)
theorem wf_X8_18 : Cond.fieldLink RX8 18 "PairScales" "things" "I" ∈ xk_WS := xk_in 193 (by decide +kernel) (by decide +kernel)
theorem wq_X8_22 : Cond.classLink RX8 22 RX5 ∈ xk_WS := xk_in 57 (by decide +kernel) (by decide +kernel)
theorem wz_X5 : Cond.instantiable RX5 3 ∈ xk_WS := xk_in 58 (by decide +kernel) (by decide +kernel)
theorem wn_X5 : Cond.initialized RX5 ∈ xk_WS := xk_in 32 (by decide +kernel) (by decide +kernel)
theorem wf_X8_27 : Cond.fieldLink RX8 27 "PairScales" "sayings" "LPairScales$Table;" ∈ xk_WS := xk_in 194 (by decide +kernel) (by decide +kernel)
theorem wf_X8_31 : Cond.fieldLink RX8 31 "PairScales" "spans" "LPairScales$Table;" ∈ xk_WS := xk_in 195 (by decide +kernel) (by decide +kernel)
theorem wq_X8_34 : Cond.classLink RX8 34 RX7 ∈ xk_WS := xk_in 80 (by decide +kernel) (by decide +kernel)
theorem wz_X7 : Cond.instantiable RX7 5 ∈ xk_WS := xk_in 81 (by decide +kernel) (by decide +kernel)
theorem wn_X7 : Cond.initialized RX7 ∈ xk_WS := xk_in 34 (by decide +kernel) (by decide +kernel)
theorem wf_X8_37 : Cond.fieldLink RX8 37 "PairScales" "worstThree" "LPairScales$WorstThree;" ∈ xk_WS := xk_in 196 (by decide +kernel) (by decide +kernel)
theorem wq_X8_41 : Cond.classLink RX8 41 RX3 ∈ xk_WS := xk_in 106 (by decide +kernel) (by decide +kernel)
theorem wz_X3 : Cond.instantiable RX3 2 ∈ xk_WS := xk_in 107 (by decide +kernel) (by decide +kernel)
theorem wn_X3 : Cond.initialized RX3 ∈ xk_WS := xk_in 35 (by decide +kernel) (by decide +kernel)
theorem wf_X8_44 : Cond.fieldLink RX8 44 "PairScales" "rings" "LPairScales$Rings;" ∈ xk_WS := xk_in 197 (by decide +kernel) (by decide +kernel)
theorem wq_X8_48 : Cond.classLink RX8 48 RX6 ∈ xk_WS := xk_in 120 (by decide +kernel) (by decide +kernel)
theorem wz_X6 : Cond.instantiable RX6 2 ∈ xk_WS := xk_in 121 (by decide +kernel) (by decide +kernel)
theorem wn_X6 : Cond.initialized RX6 ∈ xk_WS := xk_in 36 (by decide +kernel) (by decide +kernel)
theorem wf_X8_51 : Cond.fieldLink RX8 51 "PairScales" "treeCount" "LPairScales$TreeCount;" ∈ xk_WS := xk_in 198 (by decide +kernel) (by decide +kernel)
theorem wq_X8_55 : Cond.classLink RX8 55 RX2 ∈ xk_WS := xk_in 136 (by decide +kernel) (by decide +kernel)
theorem wz_X2 : Cond.instantiable RX2 8 ∈ xk_WS := xk_in 137 (by decide +kernel) (by decide +kernel)
theorem wn_X2 : Cond.initialized RX2 ∈ xk_WS := xk_in 37 (by decide +kernel) (by decide +kernel)
theorem wf_X8_58 : Cond.fieldLink RX8 58 "PairScales" "leaving" "LPairScales$Leaving;" ∈ xk_WS := xk_in 199 (by decide +kernel) (by decide +kernel)
theorem wq_X8_62 : Cond.classLink RX8 62 RX4 ∈ xk_WS := xk_in 170 (by decide +kernel) (by decide +kernel)
theorem wz_X4 : Cond.instantiable RX4 2 ∈ xk_WS := xk_in 171 (by decide +kernel) (by decide +kernel)
theorem wn_X4 : Cond.initialized RX4 ∈ xk_WS := xk_in 38 (by decide +kernel) (by decide +kernel)
theorem wf_X8_65 : Cond.fieldLink RX8 65 "PairScales" "roots" "LPairScales$Roots;" ∈ xk_WS := xk_in 200 (by decide +kernel) (by decide +kernel)
theorem wm_X8_24 : Cond.methodLink RX8 24 yX5_init ∈ xk_WS := xk_in 59 (by decide +kernel) (by decide +kernel)
theorem wi_X5_init : Cond.instanceMethod yX5_init ∈ xk_WS := xk_in 60 (by decide +kernel) (by decide +kernel)
theorem wc_X5_init : Cond.code yX5_init cX5_init 3 none ∈ xk_WS := xk_in 61 (by decide +kernel) (by decide +kernel)
theorem wm_X5_1 : Cond.methodLink RX5 1 objectInit ∈ xk_WS := xk_in 62 (by decide +kernel) (by decide +kernel)
theorem wf_X5_7 : Cond.fieldLink RX5 7 "PairScales$Table" "things" "I" ∈ xk_WS := xk_in 68 (by decide +kernel) (by decide +kernel)
theorem wq_X5_13 : Cond.classLink RX5 13 "[[J" ∈ xk_WS := xk_in 63 (by decide +kernel) (by decide +kernel)
theorem wa_long : Cond.arrayClass .long ∈ xk_WS := xk_in 79 (by decide +kernel) (by decide +kernel)
theorem wf_X5_15 : Cond.fieldLink RX5 15 "PairScales$Table" "lows" "[[J" ∈ xk_WS := xk_in 69 (by decide +kernel) (by decide +kernel)
theorem wm_X5_20 : Cond.methodLink RX5 20 yJ7_fill_d0a16 ∈ xk_WS := xk_in 65 (by decide +kernel) (by decide +kernel)
theorem wt_J7_fill_d0a16 : Cond.static yJ7_fill_d0a16 ∈ xk_WS := xk_in 66 (by decide +kernel) (by decide +kernel)
theorem wn_J7 : Cond.initialized RJ7 ∈ xk_WS := xk_in 33 (by decide +kernel) (by decide +kernel)
theorem wc_J7_fill_d0a16 : Cond.code yJ7_fill_d0a16 cJ7_fill_d0a16 5 none ∈ xk_WS := xk_in 67 (by decide +kernel) (by decide +kernel)
theorem wm_X8_36 : Cond.methodLink RX8 36 yX7_init ∈ xk_WS := xk_in 82 (by decide +kernel) (by decide +kernel)
theorem wi_X7_init : Cond.instanceMethod yX7_init ∈ xk_WS := xk_in 83 (by decide +kernel) (by decide +kernel)
theorem wc_X7_init : Cond.code yX7_init cX7_init 2 none ∈ xk_WS := xk_in 84 (by decide +kernel) (by decide +kernel)
theorem wm_X7_1 : Cond.methodLink RX7 1 objectInit ∈ xk_WS := xk_in 85 (by decide +kernel) (by decide +kernel)
theorem wf_X7_7 : Cond.fieldLink RX7 7 "PairScales$WorstThree" "things" "I" ∈ xk_WS := xk_in 86 (by decide +kernel) (by decide +kernel)
theorem wm_X8_43 : Cond.methodLink RX8 43 yX3_init ∈ xk_WS := xk_in 108 (by decide +kernel) (by decide +kernel)
theorem wi_X3_init : Cond.instanceMethod yX3_init ∈ xk_WS := xk_in 109 (by decide +kernel) (by decide +kernel)
theorem wc_X3_init : Cond.code yX3_init cX3_init 2 none ∈ xk_WS := xk_in 110 (by decide +kernel) (by decide +kernel)
theorem wm_X3_3 : Cond.methodLink RX3 3 objectInit ∈ xk_WS := xk_in 111 (by decide +kernel) (by decide +kernel)
theorem wf_X3_9 : Cond.fieldLink RX3 9 "PairScales$Rings" "things" "I" ∈ xk_WS := xk_in 112 (by decide +kernel) (by decide +kernel)
theorem wf_X3_15 : Cond.fieldLink RX3 15 "PairScales$Rings" "greatest" "[J" ∈ xk_WS := xk_in 113 (by decide +kernel) (by decide +kernel)
theorem wm_X8_50 : Cond.methodLink RX8 50 yX6_init ∈ xk_WS := xk_in 122 (by decide +kernel) (by decide +kernel)
theorem wi_X6_init : Cond.instanceMethod yX6_init ∈ xk_WS := xk_in 123 (by decide +kernel) (by decide +kernel)
theorem wc_X6_init : Cond.code yX6_init cX6_init 2 none ∈ xk_WS := xk_in 124 (by decide +kernel) (by decide +kernel)
theorem wm_X6_1 : Cond.methodLink RX6 1 objectInit ∈ xk_WS := xk_in 125 (by decide +kernel) (by decide +kernel)
theorem wf_X6_7 : Cond.fieldLink RX6 7 "PairScales$TreeCount" "size" "I" ∈ xk_WS := xk_in 128 (by decide +kernel) (by decide +kernel)
theorem wq_X6_13 : Cond.classLink RX6 13 "[[I" ∈ xk_WS := xk_in 126 (by decide +kernel) (by decide +kernel)
theorem wa_int : Cond.arrayClass .int ∈ xk_WS := xk_in 135 (by decide +kernel) (by decide +kernel)
theorem wf_X6_15 : Cond.fieldLink RX6 15 "PairScales$TreeCount" "matrix" "[[I" ∈ xk_WS := xk_in 129 (by decide +kernel) (by decide +kernel)
theorem wm_X8_57 : Cond.methodLink RX8 57 yX2_init ∈ xk_WS := xk_in 138 (by decide +kernel) (by decide +kernel)
theorem wi_X2_init : Cond.instanceMethod yX2_init ∈ xk_WS := xk_in 139 (by decide +kernel) (by decide +kernel)
theorem wc_X2_init : Cond.code yX2_init cX2_init 5 none ∈ xk_WS := xk_in 140 (by decide +kernel) (by decide +kernel)
theorem wm_X2_1 : Cond.methodLink RX2 1 objectInit ∈ xk_WS := xk_in 141 (by decide +kernel) (by decide +kernel)
theorem wf_X2_7 : Cond.fieldLink RX2 7 "PairScales$Leaving" "things" "I" ∈ xk_WS := xk_in 143 (by decide +kernel) (by decide +kernel)
theorem wf_X2_13 : Cond.fieldLink RX2 13 "PairScales$Leaving" "pairs" "I" ∈ xk_WS := xk_in 144 (by decide +kernel) (by decide +kernel)
theorem wf_X2_16 : Cond.fieldLink RX2 16 "PairScales$Leaving" "upper" "[I" ∈ xk_WS := xk_in 145 (by decide +kernel) (by decide +kernel)
theorem wf_X2_20 : Cond.fieldLink RX2 20 "PairScales$Leaving" "lower" "[I" ∈ xk_WS := xk_in 146 (by decide +kernel) (by decide +kernel)
theorem wq_X2_23 : Cond.classLink RX2 23 "[[I" ∈ xk_WS := xk_in 142 (by decide +kernel) (by decide +kernel)
theorem wf_X2_25 : Cond.fieldLink RX2 25 "PairScales$Leaving" "groups" "[[I" ∈ xk_WS := xk_in 147 (by decide +kernel) (by decide +kernel)
theorem wf_X2_28 : Cond.fieldLink RX2 28 "PairScales$Leaving" "worths" "[[I" ∈ xk_WS := xk_in 148 (by decide +kernel) (by decide +kernel)
theorem wi_X4_init : Cond.instanceMethod yX4_init ∈ xk_WS := xk_in 173 (by decide +kernel) (by decide +kernel)
theorem wc_X4_init : Cond.code yX4_init cX4_init 1 none ∈ xk_WS := xk_in 174 (by decide +kernel) (by decide +kernel)
theorem wm_X4_1 : Cond.methodLink RX4 1 objectInit ∈ xk_WS := xk_in 175 (by decide +kernel) (by decide +kernel)
theorem wq_X4_7 : Cond.classLink RX4 7 RX0 ∈ xk_WS := xk_in 176 (by decide +kernel) (by decide +kernel)
theorem wz_X0 : Cond.instantiable RX0 1 ∈ xk_WS := xk_in 177 (by decide +kernel) (by decide +kernel)
theorem wn_X0 : Cond.initialized RX0 ∈ xk_WS := xk_in 39 (by decide +kernel) (by decide +kernel)
theorem wf_X4_10 : Cond.fieldLink RX4 10 "PairScales$Roots" "one" "LPairScales$Big;" ∈ xk_WS := xk_in 186 (by decide +kernel) (by decide +kernel)
theorem wf_X4_16 : Cond.fieldLink RX4 16 "PairScales$Roots" "other" "LPairScales$Big;" ∈ xk_WS := xk_in 187 (by decide +kernel) (by decide +kernel)
theorem wi_X0_init : Cond.instanceMethod yX0_init ∈ xk_WS := xk_in 179 (by decide +kernel) (by decide +kernel)
theorem wc_X0_init : Cond.code yX0_init cX0_init 1 none ∈ xk_WS := xk_in 180 (by decide +kernel) (by decide +kernel)
theorem wm_X0_3 : Cond.methodLink RX0 3 objectInit ∈ xk_WS := xk_in 181 (by decide +kernel) (by decide +kernel)
theorem wf_X0_9 : Cond.fieldLink RX0 9 "PairScales$Big" "limbs" "[J" ∈ xk_WS := xk_in 182 (by decide +kernel) (by decide +kernel)
theorem wm_L_20 : Cond.methodLink RL 20 yX9_init ∈ xk_WS := xk_in 460 (by decide +kernel) (by decide +kernel)
theorem wi_X9_init : Cond.instanceMethod yX9_init ∈ xk_WS := xk_in 461 (by decide +kernel) (by decide +kernel)
theorem wc_X9_init : Cond.code yX9_init cX9_init 5 none ∈ xk_WS := xk_in 462 (by decide +kernel) (by decide +kernel)
theorem wm_X9_1 : Cond.methodLink RX9 1 objectInit ∈ xk_WS := xk_in 463 (by decide +kernel) (by decide +kernel)
theorem wf_X9_9 : Cond.fieldLink RX9 9 "PairScalesModel" "top" "[I" ∈ xk_WS := xk_in 468 (by decide +kernel) (by decide +kernel)
theorem wf_X9_13 : Cond.fieldLink RX9 13 "PairScalesModel" "bottom" "[I" ∈ xk_WS := xk_in 469 (by decide +kernel) (by decide +kernel)
theorem wf_X9_16 : Cond.fieldLink RX9 16 "PairScalesModel" "lowTop" "[I" ∈ xk_WS := xk_in 470 (by decide +kernel) (by decide +kernel)
theorem wf_X9_19 : Cond.fieldLink RX9 19 "PairScalesModel" "lowBottom" "[I" ∈ xk_WS := xk_in 471 (by decide +kernel) (by decide +kernel)
theorem wf_X9_22 : Cond.fieldLink RX9 22 "PairScalesModel" "highTop" "[I" ∈ xk_WS := xk_in 472 (by decide +kernel) (by decide +kernel)
theorem wf_X9_25 : Cond.fieldLink RX9 25 "PairScalesModel" "highBottom" "[I" ∈ xk_WS := xk_in 473 (by decide +kernel) (by decide +kernel)
theorem wf_X9_28 : Cond.fieldLink RX9 28 "PairScalesModel" "first" "[I" ∈ xk_WS := xk_in 474 (by decide +kernel) (by decide +kernel)
theorem wf_X9_31 : Cond.fieldLink RX9 31 "PairScalesModel" "second" "[I" ∈ xk_WS := xk_in 475 (by decide +kernel) (by decide +kernel)
theorem wf_X9_34 : Cond.fieldLink RX9 34 "PairScalesModel" "weightTop" "[J" ∈ xk_WS := xk_in 476 (by decide +kernel) (by decide +kernel)
theorem wf_X9_38 : Cond.fieldLink RX9 38 "PairScalesModel" "weightBottom" "[J" ∈ xk_WS := xk_in 477 (by decide +kernel) (by decide +kernel)
theorem wa_boolean : Cond.arrayClass .boolean ∈ xk_WS := xk_in 542 (by decide +kernel) (by decide +kernel)
theorem wf_X9_41 : Cond.fieldLink RX9 41 "PairScalesModel" "isReached" "[Z" ∈ xk_WS := xk_in 478 (by decide +kernel) (by decide +kernel)
theorem wf_X9_45 : Cond.fieldLink RX9 45 "PairScalesModel" "worstOf" "[I" ∈ xk_WS := xk_in 480 (by decide +kernel) (by decide +kernel)
theorem wf_X9_48 : Cond.fieldLink RX9 48 "PairScalesModel" "left" "[J" ∈ xk_WS := xk_in 481 (by decide +kernel) (by decide +kernel)
theorem wf_X9_51 : Cond.fieldLink RX9 51 "PairScalesModel" "right" "[J" ∈ xk_WS := xk_in 482 (by decide +kernel) (by decide +kernel)
theorem wf_X9_54 : Cond.fieldLink RX9 54 "PairScalesModel" "way" "[I" ∈ xk_WS := xk_in 486 (by decide +kernel) (by decide +kernel)
theorem wm_X9_57 : Cond.methodLink RX9 57 Lib.Math.min.name ∈ xk_WS := xk_in 464 (by decide +kernel) (by decide +kernel)
theorem wm_X9_63 : Cond.methodLink RX9 63 Lib.Math.max.name ∈ xk_WS := xk_in 465 (by decide +kernel) (by decide +kernel)
theorem wf_X9_66 : Cond.fieldLink RX9 66 "PairScalesModel" "n" "I" ∈ xk_WS := xk_in 466 (by decide +kernel) (by decide +kernel)
theorem wf_X9_70 : Cond.fieldLink RX9 70 "PairScalesModel" "pairs" "I" ∈ xk_WS := xk_in 467 (by decide +kernel) (by decide +kernel)
theorem wm_L_21 : Cond.methodLink RL 21 yX8_say ∈ xk_WS := xk_in 218 (by decide +kernel) (by decide +kernel)
theorem wi_X8_say : Cond.instanceMethod yX8_say ∈ xk_WS := xk_in 219 (by decide +kernel) (by decide +kernel)
theorem wl_X8_say : Cond.selects RX8 yX8_say yX8_say ∈ xk_WS := xk_in 220 (by decide +kernel) (by decide +kernel)
theorem wc_X8_say : Cond.code yX8_say cX8_say 7 (some .boolean) ∈ xk_WS := xk_in 221 (by decide +kernel) (by decide +kernel)
theorem wm_X8_69 : Cond.methodLink RX8 69 yX5_isPair ∈ xk_WS := xk_in 222 (by decide +kernel) (by decide +kernel)
theorem wi_X5_isPair : Cond.instanceMethod yX5_isPair ∈ xk_WS := xk_in 223 (by decide +kernel) (by decide +kernel)
theorem wl_X5_isPair : Cond.selects RX5 yX5_isPair yX5_isPair ∈ xk_WS := xk_in 224 (by decide +kernel) (by decide +kernel)
theorem wc_X5_isPair : Cond.code yX5_isPair cX5_isPair 3 (some .boolean) ∈ xk_WS := xk_in 225 (by decide +kernel) (by decide +kernel)
theorem wm_X5_26 : Cond.methodLink RX5 26 yX5_isThing ∈ xk_WS := xk_in 226 (by decide +kernel) (by decide +kernel)
theorem wi_X5_isThing : Cond.instanceMethod yX5_isThing ∈ xk_WS := xk_in 227 (by decide +kernel) (by decide +kernel)
theorem wl_X5_isThing : Cond.selects RX5 yX5_isThing yX5_isThing ∈ xk_WS := xk_in 228 (by decide +kernel) (by decide +kernel)
theorem wc_X5_isThing : Cond.code yX5_isThing cX5_isThing 2 (some .boolean) ∈ xk_WS := xk_in 229 (by decide +kernel) (by decide +kernel)
theorem wm_X8_73 : Cond.methodLink RX8 73 yX8_isDigit ∈ xk_WS := xk_in 230 (by decide +kernel) (by decide +kernel)
theorem wt_X8_isDigit : Cond.static yX8_isDigit ∈ xk_WS := xk_in 231 (by decide +kernel) (by decide +kernel)
theorem wc_X8_isDigit : Cond.code yX8_isDigit cX8_isDigit 1 (some .boolean) ∈ xk_WS := xk_in 232 (by decide +kernel) (by decide +kernel)
theorem wm_X8_77 : Cond.methodLink RX8 77 yX1_of ∈ xk_WS := xk_in 233 (by decide +kernel) (by decide +kernel)
theorem wt_X1_of : Cond.static yX1_of ∈ xk_WS := xk_in 234 (by decide +kernel) (by decide +kernel)
theorem wn_X1 : Cond.initialized RX1 ∈ xk_WS := xk_in 41 (by decide +kernel) (by decide +kernel)
theorem wc_X1_of : Cond.code yX1_of cX1_of 4 (some .long) ∈ xk_WS := xk_in 235 (by decide +kernel) (by decide +kernel)
theorem wm_X8_83 : Cond.methodLink RX8 83 yX5_put ∈ xk_WS := xk_in 236 (by decide +kernel) (by decide +kernel)
theorem wi_X5_put : Cond.instanceMethod yX5_put ∈ xk_WS := xk_in 237 (by decide +kernel) (by decide +kernel)
theorem wl_X5_put : Cond.selects RX5 yX5_put yX5_put ∈ xk_WS := xk_in 238 (by decide +kernel) (by decide +kernel)
theorem wc_X5_put : Cond.code yX5_put cX5_put 7 none ∈ xk_WS := xk_in 239 (by decide +kernel) (by decide +kernel)
theorem wf_X5_34 : Cond.fieldLink RX5 34 "PairScales$Table" "filled" "I" ∈ xk_WS := xk_in 70 (by decide +kernel) (by decide +kernel)
theorem wm_X5_30 : Cond.methodLink RX5 30 yX5_isPair ∈ xk_WS := xk_in 240 (by decide +kernel) (by decide +kernel)
theorem wm_X5_37 : Cond.methodLink RX5 37 yX5_holds ∈ xk_WS := xk_in 241 (by decide +kernel) (by decide +kernel)
theorem wi_X5_holds : Cond.instanceMethod yX5_holds ∈ xk_WS := xk_in 242 (by decide +kernel) (by decide +kernel)
theorem wl_X5_holds : Cond.selects RX5 yX5_holds yX5_holds ∈ xk_WS := xk_in 243 (by decide +kernel) (by decide +kernel)
theorem wc_X5_holds : Cond.code yX5_holds cX5_holds 3 (some .boolean) ∈ xk_WS := xk_in 244 (by decide +kernel) (by decide +kernel)
theorem wm_X5_40 : Cond.methodLink RX5 40 yX1_inverse ∈ xk_WS := xk_in 245 (by decide +kernel) (by decide +kernel)
theorem wt_X1_inverse : Cond.static yX1_inverse ∈ xk_WS := xk_in 246 (by decide +kernel) (by decide +kernel)
theorem wc_X1_inverse : Cond.code yX1_inverse cX1_inverse 2 (some .long) ∈ xk_WS := xk_in 247 (by decide +kernel) (by decide +kernel)
theorem wm_X1_15 : Cond.methodLink RX1 15 yX1_bottom ∈ xk_WS := xk_in 248 (by decide +kernel) (by decide +kernel)
theorem wt_X1_bottom : Cond.static yX1_bottom ∈ xk_WS := xk_in 249 (by decide +kernel) (by decide +kernel)
theorem wc_X1_bottom : Cond.code yX1_bottom cX1_bottom 2 (some .long) ∈ xk_WS := xk_in 250 (by decide +kernel) (by decide +kernel)
theorem wk_X1_7 : Cond.constantLong RX1 7 (4294967295) ∈ xk_WS := xk_in 251 (by decide +kernel) (by decide +kernel)
theorem wm_X1_9 : Cond.methodLink RX1 9 yX1_top ∈ xk_WS := xk_in 252 (by decide +kernel) (by decide +kernel)
theorem wt_X1_top : Cond.static yX1_top ∈ xk_WS := xk_in 253 (by decide +kernel) (by decide +kernel)
theorem wc_X1_top : Cond.code yX1_top cX1_top 2 (some .long) ∈ xk_WS := xk_in 254 (by decide +kernel) (by decide +kernel)
theorem wm_X1_18 : Cond.methodLink RX1 18 yX1_of ∈ xk_WS := xk_in 255 (by decide +kernel) (by decide +kernel)
theorem wm_L_25 : Cond.methodLink RL 25 yX9_say ∈ xk_WS := xk_in 543 (by decide +kernel) (by decide +kernel)
theorem wi_X9_say : Cond.instanceMethod yX9_say ∈ xk_WS := xk_in 544 (by decide +kernel) (by decide +kernel)
theorem wl_X9_say : Cond.selects RX9 yX9_say yX9_say ∈ xk_WS := xk_in 545 (by decide +kernel) (by decide +kernel)
theorem wc_X9_say : Cond.code yX9_say cX9_say 7 (some .boolean) ∈ xk_WS := xk_in 546 (by decide +kernel) (by decide +kernel)
theorem wm_X9_77 : Cond.methodLink RX9 77 yX9_areTwo ∈ xk_WS := xk_in 547 (by decide +kernel) (by decide +kernel)
theorem wi_X9_areTwo : Cond.instanceMethod yX9_areTwo ∈ xk_WS := xk_in 549 (by decide +kernel) (by decide +kernel)
theorem wl_X9_areTwo : Cond.selects RX9 yX9_areTwo yX9_areTwo ∈ xk_WS := xk_in 10 (by decide +kernel) (by decide +kernel)
theorem wc_X9_areTwo : Cond.code yX9_areTwo cX9_areTwo 3 (some .boolean) ∈ xk_WS := xk_in 550 (by decide +kernel) (by decide +kernel)
theorem wm_X9_73 : Cond.methodLink RX9 73 yX9_in ∈ xk_WS := xk_in 551 (by decide +kernel) (by decide +kernel)
theorem wt_X9_in : Cond.static yX9_in ∈ xk_WS := xk_in 552 (by decide +kernel) (by decide +kernel)
theorem wc_X9_in : Cond.code yX9_in cX9_in 3 (some .boolean) ∈ xk_WS := xk_in 553 (by decide +kernel) (by decide +kernel)
theorem wm_X9_81 : Cond.methodLink RX9 81 yX9_divisor ∈ xk_WS := xk_in 554 (by decide +kernel) (by decide +kernel)
theorem wt_X9_divisor : Cond.static yX9_divisor ∈ xk_WS := xk_in 555 (by decide +kernel) (by decide +kernel)
theorem wc_X9_divisor : Cond.code yX9_divisor cX9_divisor 10 (some .long) ∈ xk_WS := xk_in 556 (by decide +kernel) (by decide +kernel)
theorem wm_X9_85 : Cond.methodLink RX9 85 yX9_pair ∈ xk_WS := xk_in 557 (by decide +kernel) (by decide +kernel)
theorem wi_X9_pair : Cond.instanceMethod yX9_pair ∈ xk_WS := xk_in 559 (by decide +kernel) (by decide +kernel)
theorem wl_X9_pair : Cond.selects RX9 yX9_pair yX9_pair ∈ xk_WS := xk_in 11 (by decide +kernel) (by decide +kernel)
theorem wc_X9_pair : Cond.code yX9_pair cX9_pair 6 (some .int) ∈ xk_WS := xk_in 560 (by decide +kernel) (by decide +kernel)
theorem wm_L_26 : Cond.methodLink RL 26 yX8_unsay ∈ xk_WS := xk_in 256 (by decide +kernel) (by decide +kernel)
theorem wi_X8_unsay : Cond.instanceMethod yX8_unsay ∈ xk_WS := xk_in 257 (by decide +kernel) (by decide +kernel)
theorem wl_X8_unsay : Cond.selects RX8 yX8_unsay yX8_unsay ∈ xk_WS := xk_in 258 (by decide +kernel) (by decide +kernel)
theorem wc_X8_unsay : Cond.code yX8_unsay cX8_unsay 3 (some .boolean) ∈ xk_WS := xk_in 259 (by decide +kernel) (by decide +kernel)
theorem wm_X8_87 : Cond.methodLink RX8 87 yX5_drop ∈ xk_WS := xk_in 260 (by decide +kernel) (by decide +kernel)
theorem wi_X5_drop : Cond.instanceMethod yX5_drop ∈ xk_WS := xk_in 261 (by decide +kernel) (by decide +kernel)
theorem wl_X5_drop : Cond.selects RX5 yX5_drop yX5_drop ∈ xk_WS := xk_in 262 (by decide +kernel) (by decide +kernel)
theorem wc_X5_drop : Cond.code yX5_drop cX5_drop 3 (some .boolean) ∈ xk_WS := xk_in 263 (by decide +kernel) (by decide +kernel)
theorem wm_L_30 : Cond.methodLink RL 30 yX9_unsay ∈ xk_WS := xk_in 561 (by decide +kernel) (by decide +kernel)
theorem wi_X9_unsay : Cond.instanceMethod yX9_unsay ∈ xk_WS := xk_in 562 (by decide +kernel) (by decide +kernel)
theorem wl_X9_unsay : Cond.selects RX9 yX9_unsay yX9_unsay ∈ xk_WS := xk_in 563 (by decide +kernel) (by decide +kernel)
theorem wc_X9_unsay : Cond.code yX9_unsay cX9_unsay 3 (some .boolean) ∈ xk_WS := xk_in 564 (by decide +kernel) (by decide +kernel)
theorem wm_L_31 : Cond.methodLink RL 31 yX8_said ∈ xk_WS := xk_in 264 (by decide +kernel) (by decide +kernel)
theorem wi_X8_said : Cond.instanceMethod yX8_said ∈ xk_WS := xk_in 265 (by decide +kernel) (by decide +kernel)
theorem wl_X8_said : Cond.selects RX8 yX8_said yX8_said ∈ xk_WS := xk_in 266 (by decide +kernel) (by decide +kernel)
theorem wc_X8_said : Cond.code yX8_said cX8_said 4 (some .int) ∈ xk_WS := xk_in 267 (by decide +kernel) (by decide +kernel)
theorem wm_X8_90 : Cond.methodLink RX8 90 yX8_isPart ∈ xk_WS := xk_in 268 (by decide +kernel) (by decide +kernel)
theorem wt_X8_isPart : Cond.static yX8_isPart ∈ xk_WS := xk_in 269 (by decide +kernel) (by decide +kernel)
theorem wc_X8_isPart : Cond.code yX8_isPart cX8_isPart 1 (some .boolean) ∈ xk_WS := xk_in 270 (by decide +kernel) (by decide +kernel)
theorem wm_X8_93 : Cond.methodLink RX8 93 yX5_holds ∈ xk_WS := xk_in 271 (by decide +kernel) (by decide +kernel)
theorem wm_X8_96 : Cond.methodLink RX8 96 yX5_low ∈ xk_WS := xk_in 272 (by decide +kernel) (by decide +kernel)
theorem wi_X5_low : Cond.instanceMethod yX5_low ∈ xk_WS := xk_in 273 (by decide +kernel) (by decide +kernel)
theorem wl_X5_low : Cond.selects RX5 yX5_low yX5_low ∈ xk_WS := xk_in 274 (by decide +kernel) (by decide +kernel)
theorem wc_X5_low : Cond.code yX5_low cX5_low 3 (some .long) ∈ xk_WS := xk_in 275 (by decide +kernel) (by decide +kernel)
theorem wm_X8_100 : Cond.methodLink RX8 100 yX1_part ∈ xk_WS := xk_in 276 (by decide +kernel) (by decide +kernel)
theorem wt_X1_part : Cond.static yX1_part ∈ xk_WS := xk_in 277 (by decide +kernel) (by decide +kernel)
theorem wc_X1_part : Cond.code yX1_part cX1_part 7 (some .int) ∈ xk_WS := xk_in 278 (by decide +kernel) (by decide +kernel)
theorem wm_X1_22 : Cond.methodLink RX1 22 yX1_commonDivisor ∈ xk_WS := xk_in 279 (by decide +kernel) (by decide +kernel)
theorem wt_X1_commonDivisor : Cond.static yX1_commonDivisor ∈ xk_WS := xk_in 280 (by decide +kernel) (by decide +kernel)
theorem wc_X1_commonDivisor : Cond.code yX1_commonDivisor cX1_commonDivisor 11 (some .long) ∈ xk_WS := xk_in 281 (by decide +kernel) (by decide +kernel)
theorem wm_L_35 : Cond.methodLink RL 35 yX9_said ∈ xk_WS := xk_in 565 (by decide +kernel) (by decide +kernel)
theorem wi_X9_said : Cond.instanceMethod yX9_said ∈ xk_WS := xk_in 566 (by decide +kernel) (by decide +kernel)
theorem wl_X9_said : Cond.selects RX9 yX9_said yX9_said ∈ xk_WS := xk_in 567 (by decide +kernel) (by decide +kernel)
theorem wc_X9_said : Cond.code yX9_said cX9_said 4 (some .int) ∈ xk_WS := xk_in 568 (by decide +kernel) (by decide +kernel)
theorem wm_X9_88 : Cond.methodLink RX9 88 yX9_isSaid ∈ xk_WS := xk_in 569 (by decide +kernel) (by decide +kernel)
theorem wi_X9_isSaid : Cond.instanceMethod yX9_isSaid ∈ xk_WS := xk_in 571 (by decide +kernel) (by decide +kernel)
theorem wl_X9_isSaid : Cond.selects RX9 yX9_isSaid yX9_isSaid ∈ xk_WS := xk_in 12 (by decide +kernel) (by decide +kernel)
theorem wc_X9_isSaid : Cond.code yX9_isSaid cX9_isSaid 3 (some .boolean) ∈ xk_WS := xk_in 572 (by decide +kernel) (by decide +kernel)
theorem wm_X9_91 : Cond.methodLink RX9 91 yX9_topOf ∈ xk_WS := xk_in 573 (by decide +kernel) (by decide +kernel)
theorem wi_X9_topOf : Cond.instanceMethod yX9_topOf ∈ xk_WS := xk_in 575 (by decide +kernel) (by decide +kernel)
theorem wl_X9_topOf : Cond.selects RX9 yX9_topOf yX9_topOf ∈ xk_WS := xk_in 13 (by decide +kernel) (by decide +kernel)
theorem wc_X9_topOf : Cond.code yX9_topOf cX9_topOf 3 (some .int) ∈ xk_WS := xk_in 576 (by decide +kernel) (by decide +kernel)
theorem wm_X9_94 : Cond.methodLink RX9 94 yX9_bottomOf ∈ xk_WS := xk_in 577 (by decide +kernel) (by decide +kernel)
theorem wi_X9_bottomOf : Cond.instanceMethod yX9_bottomOf ∈ xk_WS := xk_in 579 (by decide +kernel) (by decide +kernel)
theorem wl_X9_bottomOf : Cond.selects RX9 yX9_bottomOf yX9_bottomOf ∈ xk_WS := xk_in 14 (by decide +kernel) (by decide +kernel)
theorem wc_X9_bottomOf : Cond.code yX9_bottomOf cX9_bottomOf 3 (some .int) ∈ xk_WS := xk_in 580 (by decide +kernel) (by decide +kernel)
theorem wm_L_36 : Cond.methodLink RL 36 yX8_even ∈ xk_WS := xk_in 282 (by decide +kernel) (by decide +kernel)
theorem wi_X8_even : Cond.instanceMethod yX8_even ∈ xk_WS := xk_in 283 (by decide +kernel) (by decide +kernel)
theorem wl_X8_even : Cond.selects RX8 yX8_even yX8_even ∈ xk_WS := xk_in 284 (by decide +kernel) (by decide +kernel)
theorem wc_X8_even : Cond.code yX8_even cX8_even 1 (some .boolean) ∈ xk_WS := xk_in 285 (by decide +kernel) (by decide +kernel)
theorem wm_X8_104 : Cond.methodLink RX8 104 yX3_noneAboveOne ∈ xk_WS := xk_in 286 (by decide +kernel) (by decide +kernel)
theorem wi_X3_noneAboveOne : Cond.instanceMethod yX3_noneAboveOne ∈ xk_WS := xk_in 287 (by decide +kernel) (by decide +kernel)
theorem wl_X3_noneAboveOne : Cond.selects RX3 yX3_noneAboveOne yX3_noneAboveOne ∈ xk_WS := xk_in 288 (by decide +kernel) (by decide +kernel)
theorem wc_X3_noneAboveOne : Cond.code yX3_noneAboveOne cX3_noneAboveOne 3 (some .boolean) ∈ xk_WS := xk_in 289 (by decide +kernel) (by decide +kernel)
theorem wk_X3_25 : Cond.constantLong RX3 25 (4294967297) ∈ xk_WS := xk_in 295 (by decide +kernel) (by decide +kernel)
theorem wm_X3_19 : Cond.methodLink RX3 19 yX3_measure ∈ xk_WS := xk_in 290 (by decide +kernel) (by decide +kernel)
theorem wi_X3_measure : Cond.instanceMethod yX3_measure ∈ xk_WS := xk_in 291 (by decide +kernel) (by decide +kernel)
theorem wl_X3_measure : Cond.selects RX3 yX3_measure yX3_measure ∈ xk_WS := xk_in 292 (by decide +kernel) (by decide +kernel)
theorem wc_X3_measure : Cond.code yX3_measure cX3_measure 3 none ∈ xk_WS := xk_in 293 (by decide +kernel) (by decide +kernel)
theorem wm_X3_31 : Cond.methodLink RX3 31 yJ7_fill_d0a16 ∈ xk_WS := xk_in 294 (by decide +kernel) (by decide +kernel)
theorem wm_X3_37 : Cond.methodLink RX3 37 yX3_extend ∈ xk_WS := xk_in 296 (by decide +kernel) (by decide +kernel)
theorem wi_X3_extend : Cond.instanceMethod yX3_extend ∈ xk_WS := xk_in 298 (by decide +kernel) (by decide +kernel)
theorem wl_X3_extend : Cond.selects RX3 yX3_extend yX3_extend ∈ xk_WS := xk_in 0 (by decide +kernel) (by decide +kernel)
theorem wc_X3_extend : Cond.code yX3_extend cX3_extend 11 none ∈ xk_WS := xk_in 299 (by decide +kernel) (by decide +kernel)
theorem wm_X3_41 : Cond.methodLink RX3 41 yX5_holds ∈ xk_WS := xk_in 300 (by decide +kernel) (by decide +kernel)
theorem wm_X3_47 : Cond.methodLink RX3 47 yX5_low ∈ xk_WS := xk_in 301 (by decide +kernel) (by decide +kernel)
theorem wm_X3_51 : Cond.methodLink RX3 51 yX1_times ∈ xk_WS := xk_in 302 (by decide +kernel) (by decide +kernel)
theorem wt_X1_times : Cond.static yX1_times ∈ xk_WS := xk_in 303 (by decide +kernel) (by decide +kernel)
theorem wc_X1_times : Cond.code yX1_times cX1_times 4 (some .long) ∈ xk_WS := xk_in 304 (by decide +kernel) (by decide +kernel)
theorem wm_X3_55 : Cond.methodLink RX3 55 yX3_close ∈ xk_WS := xk_in 305 (by decide +kernel) (by decide +kernel)
theorem wi_X3_close : Cond.instanceMethod yX3_close ∈ xk_WS := xk_in 307 (by decide +kernel) (by decide +kernel)
theorem wl_X3_close : Cond.selects RX3 yX3_close yX3_close ∈ xk_WS := xk_in 1 (by decide +kernel) (by decide +kernel)
theorem wc_X3_close : Cond.code yX3_close cX3_close 4 none ∈ xk_WS := xk_in 308 (by decide +kernel) (by decide +kernel)
theorem wm_X3_27 : Cond.methodLink RX3 27 yX1_isAbove ∈ xk_WS := xk_in 309 (by decide +kernel) (by decide +kernel)
theorem wt_X1_isAbove : Cond.static yX1_isAbove ∈ xk_WS := xk_in 310 (by decide +kernel) (by decide +kernel)
theorem wc_X1_isAbove : Cond.code yX1_isAbove cX1_isAbove 4 (some .boolean) ∈ xk_WS := xk_in 311 (by decide +kernel) (by decide +kernel)
theorem wm_L_40 : Cond.methodLink RL 40 yX9_even ∈ xk_WS := xk_in 581 (by decide +kernel) (by decide +kernel)
theorem wi_X9_even : Cond.instanceMethod yX9_even ∈ xk_WS := xk_in 582 (by decide +kernel) (by decide +kernel)
theorem wl_X9_even : Cond.selects RX9 yX9_even yX9_even ∈ xk_WS := xk_in 583 (by decide +kernel) (by decide +kernel)
theorem wc_X9_even : Cond.code yX9_even cX9_even 1 (some .boolean) ∈ xk_WS := xk_in 584 (by decide +kernel) (by decide +kernel)
theorem wm_X9_100 : Cond.methodLink RX9 100 yX9_all ∈ xk_WS := xk_in 585 (by decide +kernel) (by decide +kernel)
theorem wi_X9_all : Cond.instanceMethod yX9_all ∈ xk_WS := xk_in 587 (by decide +kernel) (by decide +kernel)
theorem wl_X9_all : Cond.selects RX9 yX9_all yX9_all ∈ xk_WS := xk_in 15 (by decide +kernel) (by decide +kernel)
theorem wc_X9_all : Cond.code yX9_all cX9_all 3 (some .int) ∈ xk_WS := xk_in 588 (by decide +kernel) (by decide +kernel)
theorem wm_X9_104 : Cond.methodLink RX9 104 yX9_fits ∈ xk_WS := xk_in 589 (by decide +kernel) (by decide +kernel)
theorem wi_X9_fits : Cond.instanceMethod yX9_fits ∈ xk_WS := xk_in 591 (by decide +kernel) (by decide +kernel)
theorem wl_X9_fits : Cond.selects RX9 yX9_fits yX9_fits ∈ xk_WS := xk_in 16 (by decide +kernel) (by decide +kernel)
theorem wc_X9_fits : Cond.code yX9_fits cX9_fits 14 (some .boolean) ∈ xk_WS := xk_in 592 (by decide +kernel) (by decide +kernel)
theorem wf_X9_97 : Cond.fieldLink RX9 97 "PairScalesModel" "parts" "I" ∈ xk_WS := xk_in 479 (by decide +kernel) (by decide +kernel)
theorem wm_L_41 : Cond.methodLink RL 41 yX8_worst ∈ xk_WS := xk_in 312 (by decide +kernel) (by decide +kernel)
theorem wi_X8_worst : Cond.instanceMethod yX8_worst ∈ xk_WS := xk_in 313 (by decide +kernel) (by decide +kernel)
theorem wl_X8_worst : Cond.selects RX8 yX8_worst yX8_worst ∈ xk_WS := xk_in 314 (by decide +kernel) (by decide +kernel)
theorem wc_X8_worst : Cond.code yX8_worst cX8_worst 2 (some .int) ∈ xk_WS := xk_in 315 (by decide +kernel) (by decide +kernel)
theorem wm_X8_108 : Cond.methodLink RX8 108 yX7_find ∈ xk_WS := xk_in 316 (by decide +kernel) (by decide +kernel)
theorem wi_X7_find : Cond.instanceMethod yX7_find ∈ xk_WS := xk_in 317 (by decide +kernel) (by decide +kernel)
theorem wl_X7_find : Cond.selects RX7 yX7_find yX7_find ∈ xk_WS := xk_in 318 (by decide +kernel) (by decide +kernel)
theorem wc_X7_find : Cond.code yX7_find cX7_find 5 none ∈ xk_WS := xk_in 319 (by decide +kernel) (by decide +kernel)
theorem wf_X7_15 : Cond.fieldLink RX7 15 "PairScales$WorstThree" "off" "J" ∈ xk_WS := xk_in 93 (by decide +kernel) (by decide +kernel)
theorem wm_X7_19 : Cond.methodLink RX7 19 yX7_compare ∈ xk_WS := xk_in 320 (by decide +kernel) (by decide +kernel)
theorem wi_X7_compare : Cond.instanceMethod yX7_compare ∈ xk_WS := xk_in 322 (by decide +kernel) (by decide +kernel)
theorem wl_X7_compare : Cond.selects RX7 yX7_compare yX7_compare ∈ xk_WS := xk_in 2 (by decide +kernel) (by decide +kernel)
theorem wc_X7_compare : Cond.code yX7_compare cX7_compare 7 none ∈ xk_WS := xk_in 323 (by decide +kernel) (by decide +kernel)
theorem wf_X7_31 : Cond.fieldLink RX7 31 "PairScales$WorstThree" "i" "I" ∈ xk_WS := xk_in 87 (by decide +kernel) (by decide +kernel)
theorem wf_X7_34 : Cond.fieldLink RX7 34 "PairScales$WorstThree" "j" "I" ∈ xk_WS := xk_in 89 (by decide +kernel) (by decide +kernel)
theorem wf_X7_37 : Cond.fieldLink RX7 37 "PairScales$WorstThree" "k" "I" ∈ xk_WS := xk_in 91 (by decide +kernel) (by decide +kernel)
theorem wm_X7_23 : Cond.methodLink RX7 23 yX7_offOf ∈ xk_WS := xk_in 324 (by decide +kernel) (by decide +kernel)
theorem wt_X7_offOf : Cond.static yX7_offOf ∈ xk_WS := xk_in 325 (by decide +kernel) (by decide +kernel)
theorem wc_X7_offOf : Cond.code yX7_offOf cX7_offOf 6 (some .long) ∈ xk_WS := xk_in 326 (by decide +kernel) (by decide +kernel)
theorem wk_X7_54 : Cond.constantLong RX7 54 (4294967297) ∈ xk_WS := xk_in 330 (by decide +kernel) (by decide +kernel)
theorem wm_X7_40 : Cond.methodLink RX7 40 yX5_holds ∈ xk_WS := xk_in 327 (by decide +kernel) (by decide +kernel)
theorem wm_X7_46 : Cond.methodLink RX7 46 yX5_low ∈ xk_WS := xk_in 328 (by decide +kernel) (by decide +kernel)
theorem wm_X7_50 : Cond.methodLink RX7 50 yX1_times ∈ xk_WS := xk_in 329 (by decide +kernel) (by decide +kernel)
theorem wm_X7_27 : Cond.methodLink RX7 27 yX1_isAbove ∈ xk_WS := xk_in 331 (by decide +kernel) (by decide +kernel)
theorem wm_X7_56 : Cond.methodLink RX7 56 yX1_inverse ∈ xk_WS := xk_in 332 (by decide +kernel) (by decide +kernel)
theorem wm_L_45 : Cond.methodLink RL 45 yX9_worst ∈ xk_WS := xk_in 615 (by decide +kernel) (by decide +kernel)
theorem wi_X9_worst : Cond.instanceMethod yX9_worst ∈ xk_WS := xk_in 616 (by decide +kernel) (by decide +kernel)
theorem wl_X9_worst : Cond.selects RX9 yX9_worst yX9_worst ∈ xk_WS := xk_in 617 (by decide +kernel) (by decide +kernel)
theorem wc_X9_worst : Cond.code yX9_worst cX9_worst 2 (some .int) ∈ xk_WS := xk_in 618 (by decide +kernel) (by decide +kernel)
theorem wm_X9_117 : Cond.methodLink RX9 117 yX9_findsWorst ∈ xk_WS := xk_in 619 (by decide +kernel) (by decide +kernel)
theorem wi_X9_findsWorst : Cond.instanceMethod yX9_findsWorst ∈ xk_WS := xk_in 621 (by decide +kernel) (by decide +kernel)
theorem wl_X9_findsWorst : Cond.selects RX9 yX9_findsWorst yX9_findsWorst ∈ xk_WS := xk_in 18 (by decide +kernel) (by decide +kernel)
theorem wc_X9_findsWorst : Cond.code yX9_findsWorst cX9_findsWorst 10 (some .boolean) ∈ xk_WS := xk_in 622 (by decide +kernel) (by decide +kernel)
theorem wm_L_46 : Cond.methodLink RL 46 yX8_trees ∈ xk_WS := xk_in 333 (by decide +kernel) (by decide +kernel)
theorem wi_X8_trees : Cond.instanceMethod yX8_trees ∈ xk_WS := xk_in 334 (by decide +kernel) (by decide +kernel)
theorem wl_X8_trees : Cond.selects RX8 yX8_trees yX8_trees ∈ xk_WS := xk_in 335 (by decide +kernel) (by decide +kernel)
theorem wc_X8_trees : Cond.code yX8_trees cX8_trees 1 (some .int) ∈ xk_WS := xk_in 336 (by decide +kernel) (by decide +kernel)
theorem wm_X8_125 : Cond.methodLink RX8 125 yX6_of ∈ xk_WS := xk_in 337 (by decide +kernel) (by decide +kernel)
theorem wi_X6_of : Cond.instanceMethod yX6_of ∈ xk_WS := xk_in 338 (by decide +kernel) (by decide +kernel)
theorem wl_X6_of : Cond.selects RX6 yX6_of yX6_of ∈ xk_WS := xk_in 339 (by decide +kernel) (by decide +kernel)
theorem wc_X6_of : Cond.code yX6_of cX6_of 5 (some .int) ∈ xk_WS := xk_in 340 (by decide +kernel) (by decide +kernel)
theorem wm_X6_18 : Cond.methodLink RX6 18 yX6_fill ∈ xk_WS := xk_in 341 (by decide +kernel) (by decide +kernel)
theorem wi_X6_fill : Cond.instanceMethod yX6_fill ∈ xk_WS := xk_in 343 (by decide +kernel) (by decide +kernel)
theorem wl_X6_fill : Cond.selects RX6 yX6_fill yX6_fill ∈ xk_WS := xk_in 3 (by decide +kernel) (by decide +kernel)
theorem wc_X6_fill : Cond.code yX6_fill cX6_fill 6 none ∈ xk_WS := xk_in 344 (by decide +kernel) (by decide +kernel)
theorem wm_X6_26 : Cond.methodLink RX6 26 yX5_holds ∈ xk_WS := xk_in 345 (by decide +kernel) (by decide +kernel)
theorem wm_X6_22 : Cond.methodLink RX6 22 yX6_eliminate ∈ xk_WS := xk_in 346 (by decide +kernel) (by decide +kernel)
theorem wi_X6_eliminate : Cond.instanceMethod yX6_eliminate ∈ xk_WS := xk_in 348 (by decide +kernel) (by decide +kernel)
theorem wl_X6_eliminate : Cond.selects RX6 yX6_eliminate yX6_eliminate ∈ xk_WS := xk_in 4 (by decide +kernel) (by decide +kernel)
theorem wc_X6_eliminate : Cond.code yX6_eliminate cX6_eliminate 7 none ∈ xk_WS := xk_in 349 (by decide +kernel) (by decide +kernel)
theorem wm_L_50 : Cond.methodLink RL 50 yX9_trees ∈ xk_WS := xk_in 593 (by decide +kernel) (by decide +kernel)
theorem wi_X9_trees : Cond.instanceMethod yX9_trees ∈ xk_WS := xk_in 594 (by decide +kernel) (by decide +kernel)
theorem wl_X9_trees : Cond.selects RX9 yX9_trees yX9_trees ∈ xk_WS := xk_in 595 (by decide +kernel) (by decide +kernel)
theorem wc_X9_trees : Cond.code yX9_trees cX9_trees 5 (some .int) ∈ xk_WS := xk_in 596 (by decide +kernel) (by decide +kernel)
theorem wm_X9_108 : Cond.methodLink RX9 108 yJ6_bitCount_0f7a4 ∈ xk_WS := xk_in 597 (by decide +kernel) (by decide +kernel)
theorem wt_J6_bitCount_0f7a4 : Cond.static yJ6_bitCount_0f7a4 ∈ xk_WS := xk_in 598 (by decide +kernel) (by decide +kernel)
theorem wn_J6 : Cond.initialized RJ6 ∈ xk_WS := xk_in 42 (by decide +kernel) (by decide +kernel)
theorem wc_J6_bitCount_0f7a4 : Cond.code yJ6_bitCount_0f7a4 cJ6_bitCount_0f7a4 1 (some .int) ∈ xk_WS := xk_in 599 (by decide +kernel) (by decide +kernel)
theorem wk_J6_265 : Cond.constant RJ6 265 (1431655765) ∈ xk_WS := xk_in 600 (by decide +kernel) (by decide +kernel)
theorem wk_J6_266 : Cond.constant RJ6 266 (858993459) ∈ xk_WS := xk_in 601 (by decide +kernel) (by decide +kernel)
theorem wk_J6_267 : Cond.constant RJ6 267 (252645135) ∈ xk_WS := xk_in 602 (by decide +kernel) (by decide +kernel)
theorem wm_L_51 : Cond.methodLink RL 51 yX8_few ∈ xk_WS := xk_in 350 (by decide +kernel) (by decide +kernel)
theorem wi_X8_few : Cond.instanceMethod yX8_few ∈ xk_WS := xk_in 351 (by decide +kernel) (by decide +kernel)
theorem wl_X8_few : Cond.selects RX8 yX8_few yX8_few ∈ xk_WS := xk_in 352 (by decide +kernel) (by decide +kernel)
theorem wc_X8_few : Cond.code yX8_few cX8_few 1 (some .int) ∈ xk_WS := xk_in 353 (by decide +kernel) (by decide +kernel)
theorem wm_X8_128 : Cond.methodLink RX8 128 yX2_search ∈ xk_WS := xk_in 354 (by decide +kernel) (by decide +kernel)
theorem wi_X2_search : Cond.instanceMethod yX2_search ∈ xk_WS := xk_in 355 (by decide +kernel) (by decide +kernel)
theorem wl_X2_search : Cond.selects RX2 yX2_search yX2_search ∈ xk_WS := xk_in 356 (by decide +kernel) (by decide +kernel)
theorem wc_X2_search : Cond.code yX2_search cX2_search 2 none ∈ xk_WS := xk_in 357 (by decide +kernel) (by decide +kernel)
theorem wf_X2_31 : Cond.fieldLink RX2 31 "PairScales$Leaving" "fewest" "I" ∈ xk_WS := xk_in 149 (by decide +kernel) (by decide +kernel)
theorem wf_X2_34 : Cond.fieldLink RX2 34 "PairScales$Leaving" "leastHeap" "I" ∈ xk_WS := xk_in 151 (by decide +kernel) (by decide +kernel)
theorem wm_X2_37 : Cond.methodLink RX2 37 yX2_settle ∈ xk_WS := xk_in 358 (by decide +kernel) (by decide +kernel)
theorem wi_X2_settle : Cond.instanceMethod yX2_settle ∈ xk_WS := xk_in 360 (by decide +kernel) (by decide +kernel)
theorem wl_X2_settle : Cond.selects RX2 yX2_settle yX2_settle ∈ xk_WS := xk_in 5 (by decide +kernel) (by decide +kernel)
theorem wc_X2_settle : Cond.code yX2_settle cX2_settle 11 none ∈ xk_WS := xk_in 361 (by decide +kernel) (by decide +kernel)
theorem wm_X2_41 : Cond.methodLink RX2 41 yX5_holds ∈ xk_WS := xk_in 362 (by decide +kernel) (by decide +kernel)
theorem wm_X2_47 : Cond.methodLink RX2 47 yX5_low ∈ xk_WS := xk_in 363 (by decide +kernel) (by decide +kernel)
theorem wm_X2_51 : Cond.methodLink RX2 51 yX2_logOf ∈ xk_WS := xk_in 364 (by decide +kernel) (by decide +kernel)
theorem wt_X2_logOf : Cond.static yX2_logOf ∈ xk_WS := xk_in 365 (by decide +kernel) (by decide +kernel)
theorem wc_X2_logOf : Cond.code yX2_logOf cX2_logOf 2 (some .int) ∈ xk_WS := xk_in 366 (by decide +kernel) (by decide +kernel)
theorem wm_X2_59 : Cond.methodLink RX2 59 yX1_top ∈ xk_WS := xk_in 367 (by decide +kernel) (by decide +kernel)
theorem wm_X2_65 : Cond.methodLink RX2 65 yX2_logOfDigit ∈ xk_WS := xk_in 368 (by decide +kernel) (by decide +kernel)
theorem wt_X2_logOfDigit : Cond.static yX2_logOfDigit ∈ xk_WS := xk_in 369 (by decide +kernel) (by decide +kernel)
theorem wc_X2_logOfDigit : Cond.code yX2_logOfDigit cX2_logOfDigit 2 (some .int) ∈ xk_WS := xk_in 370 (by decide +kernel) (by decide +kernel)
theorem wf_X2_71 : Cond.fieldLink RX2 71 "PairScales$Leaving" "LOGS" "[I" ∈ xk_WS := xk_in 371 (by decide +kernel) (by decide +kernel)
theorem wm_X2_68 : Cond.methodLink RX2 68 yX1_bottom ∈ xk_WS := xk_in 373 (by decide +kernel) (by decide +kernel)
theorem wm_X2_55 : Cond.methodLink RX2 55 yX2_join ∈ xk_WS := xk_in 374 (by decide +kernel) (by decide +kernel)
theorem wi_X2_join : Cond.instanceMethod yX2_join ∈ xk_WS := xk_in 376 (by decide +kernel) (by decide +kernel)
theorem wl_X2_join : Cond.selects RX2 yX2_join yX2_join ∈ xk_WS := xk_in 6 (by decide +kernel) (by decide +kernel)
theorem wc_X2_join : Cond.code yX2_join cX2_join 10 none ∈ xk_WS := xk_in 377 (by decide +kernel) (by decide +kernel)
theorem wm_L_54 : Cond.methodLink RL 54 yX9_few ∈ xk_WS := xk_in 603 (by decide +kernel) (by decide +kernel)
theorem wi_X9_few : Cond.instanceMethod yX9_few ∈ xk_WS := xk_in 604 (by decide +kernel) (by decide +kernel)
theorem wl_X9_few : Cond.selects RX9 yX9_few yX9_few ∈ xk_WS := xk_in 605 (by decide +kernel) (by decide +kernel)
theorem wc_X9_few : Cond.code yX9_few cX9_few 1 (some .int) ∈ xk_WS := xk_in 606 (by decide +kernel) (by decide +kernel)
theorem wm_X9_114 : Cond.methodLink RX9 114 yX9_leastHeap ∈ xk_WS := xk_in 607 (by decide +kernel) (by decide +kernel)
theorem wi_X9_leastHeap : Cond.instanceMethod yX9_leastHeap ∈ xk_WS := xk_in 609 (by decide +kernel) (by decide +kernel)
theorem wl_X9_leastHeap : Cond.selects RX9 yX9_leastHeap yX9_leastHeap ∈ xk_WS := xk_in 17 (by decide +kernel) (by decide +kernel)
theorem wc_X9_leastHeap : Cond.code yX9_leastHeap cX9_leastHeap 4 (some .int) ∈ xk_WS := xk_in 610 (by decide +kernel) (by decide +kernel)
theorem wm_L_55 : Cond.methodLink RL 55 yX8_left ∈ xk_WS := xk_in 378 (by decide +kernel) (by decide +kernel)
theorem wi_X8_left : Cond.instanceMethod yX8_left ∈ xk_WS := xk_in 379 (by decide +kernel) (by decide +kernel)
theorem wl_X8_left : Cond.selects RX8 yX8_left yX8_left ∈ xk_WS := xk_in 380 (by decide +kernel) (by decide +kernel)
theorem wc_X8_left : Cond.code yX8_left cX8_left 1 (some .int) ∈ xk_WS := xk_in 381 (by decide +kernel) (by decide +kernel)
theorem wm_L_58 : Cond.methodLink RL 58 yX9_left ∈ xk_WS := xk_in 611 (by decide +kernel) (by decide +kernel)
theorem wi_X9_left : Cond.instanceMethod yX9_left ∈ xk_WS := xk_in 612 (by decide +kernel) (by decide +kernel)
theorem wl_X9_left : Cond.selects RX9 yX9_left yX9_left ∈ xk_WS := xk_in 613 (by decide +kernel) (by decide +kernel)
theorem wc_X9_left : Cond.code yX9_left cX9_left 1 (some .int) ∈ xk_WS := xk_in 614 (by decide +kernel) (by decide +kernel)
theorem wm_L_59 : Cond.methodLink RL 59 yX8_row ∈ xk_WS := xk_in 382 (by decide +kernel) (by decide +kernel)
theorem wi_X8_row : Cond.instanceMethod yX8_row ∈ xk_WS := xk_in 383 (by decide +kernel) (by decide +kernel)
theorem wl_X8_row : Cond.selects RX8 yX8_row yX8_row ∈ xk_WS := xk_in 384 (by decide +kernel) (by decide +kernel)
theorem wc_X8_row : Cond.code yX8_row cX8_row 3 (some .int) ∈ xk_WS := xk_in 385 (by decide +kernel) (by decide +kernel)
theorem wm_X8_137 : Cond.methodLink RX8 137 yX5_isThing ∈ xk_WS := xk_in 386 (by decide +kernel) (by decide +kernel)
theorem wm_X8_140 : Cond.methodLink RX8 140 yX5_isFull ∈ xk_WS := xk_in 387 (by decide +kernel) (by decide +kernel)
theorem wi_X5_isFull : Cond.instanceMethod yX5_isFull ∈ xk_WS := xk_in 388 (by decide +kernel) (by decide +kernel)
theorem wl_X5_isFull : Cond.selects RX5 yX5_isFull yX5_isFull ∈ xk_WS := xk_in 389 (by decide +kernel) (by decide +kernel)
theorem wc_X5_isFull : Cond.code yX5_isFull cX5_isFull 1 (some .boolean) ∈ xk_WS := xk_in 390 (by decide +kernel) (by decide +kernel)
theorem wm_X8_144 : Cond.methodLink RX8 144 yX8_productOfRow ∈ xk_WS := xk_in 391 (by decide +kernel) (by decide +kernel)
theorem wi_X8_productOfRow : Cond.instanceMethod yX8_productOfRow ∈ xk_WS := xk_in 393 (by decide +kernel) (by decide +kernel)
theorem wl_X8_productOfRow : Cond.selects RX8 yX8_productOfRow yX8_productOfRow ∈ xk_WS := xk_in 7 (by decide +kernel) (by decide +kernel)
theorem wc_X8_productOfRow : Cond.code yX8_productOfRow cX8_productOfRow 5 (some .long) ∈ xk_WS := xk_in 394 (by decide +kernel) (by decide +kernel)
theorem wk_X8_160 : Cond.constantLong RX8 160 (4294967297) ∈ xk_WS := xk_in 395 (by decide +kernel) (by decide +kernel)
theorem wm_X8_169 : Cond.methodLink RX8 169 yX1_times ∈ xk_WS := xk_in 396 (by decide +kernel) (by decide +kernel)
theorem wm_L_63 : Cond.methodLink RL 63 yX9_row ∈ xk_WS := xk_in 623 (by decide +kernel) (by decide +kernel)
theorem wi_X9_row : Cond.instanceMethod yX9_row ∈ xk_WS := xk_in 624 (by decide +kernel) (by decide +kernel)
theorem wl_X9_row : Cond.selects RX9 yX9_row yX9_row ∈ xk_WS := xk_in 625 (by decide +kernel) (by decide +kernel)
theorem wc_X9_row : Cond.code yX9_row cX9_row 3 (some .int) ∈ xk_WS := xk_in 626 (by decide +kernel) (by decide +kernel)
theorem wm_X9_121 : Cond.methodLink RX9 121 yX9_areAllSaid ∈ xk_WS := xk_in 627 (by decide +kernel) (by decide +kernel)
theorem wi_X9_areAllSaid : Cond.instanceMethod yX9_areAllSaid ∈ xk_WS := xk_in 629 (by decide +kernel) (by decide +kernel)
theorem wl_X9_areAllSaid : Cond.selects RX9 yX9_areAllSaid yX9_areAllSaid ∈ xk_WS := xk_in 19 (by decide +kernel) (by decide +kernel)
theorem wc_X9_areAllSaid : Cond.code yX9_areAllSaid cX9_areAllSaid 1 (some .boolean) ∈ xk_WS := xk_in 630 (by decide +kernel) (by decide +kernel)
theorem wm_X9_124 : Cond.methodLink RX9 124 yX9_rowPart ∈ xk_WS := xk_in 631 (by decide +kernel) (by decide +kernel)
theorem wi_X9_rowPart : Cond.instanceMethod yX9_rowPart ∈ xk_WS := xk_in 633 (by decide +kernel) (by decide +kernel)
theorem wl_X9_rowPart : Cond.selects RX9 yX9_rowPart yX9_rowPart ∈ xk_WS := xk_in 20 (by decide +kernel) (by decide +kernel)
theorem wc_X9_rowPart : Cond.code yX9_rowPart cX9_rowPart 9 (some .long) ∈ xk_WS := xk_in 634 (by decide +kernel) (by decide +kernel)
theorem wm_L_64 : Cond.methodLink RL 64 yX8_order ∈ xk_WS := xk_in 397 (by decide +kernel) (by decide +kernel)
theorem wi_X8_order : Cond.instanceMethod yX8_order ∈ xk_WS := xk_in 398 (by decide +kernel) (by decide +kernel)
theorem wl_X8_order : Cond.selects RX8 yX8_order yX8_order ∈ xk_WS := xk_in 399 (by decide +kernel) (by decide +kernel)
theorem wc_X8_order : Cond.code yX8_order cX8_order 7 (some .int) ∈ xk_WS := xk_in 400 (by decide +kernel) (by decide +kernel)
theorem wm_X8_148 : Cond.methodLink RX8 148 yX1_isAbove ∈ xk_WS := xk_in 401 (by decide +kernel) (by decide +kernel)
theorem wm_L_67 : Cond.methodLink RL 67 yX9_order ∈ xk_WS := xk_in 635 (by decide +kernel) (by decide +kernel)
theorem wi_X9_order : Cond.instanceMethod yX9_order ∈ xk_WS := xk_in 636 (by decide +kernel) (by decide +kernel)
theorem wl_X9_order : Cond.selects RX9 yX9_order yX9_order ∈ xk_WS := xk_in 637 (by decide +kernel) (by decide +kernel)
theorem wc_X9_order : Cond.code yX9_order cX9_order 7 (some .int) ∈ xk_WS := xk_in 638 (by decide +kernel) (by decide +kernel)
theorem wm_L_68 : Cond.methodLink RL 68 yX8_least ∈ xk_WS := xk_in 402 (by decide +kernel) (by decide +kernel)
theorem wi_X8_least : Cond.instanceMethod yX8_least ∈ xk_WS := xk_in 403 (by decide +kernel) (by decide +kernel)
theorem wl_X8_least : Cond.selects RX8 yX8_least yX8_least ∈ xk_WS := xk_in 404 (by decide +kernel) (by decide +kernel)
theorem wc_X8_least : Cond.code yX8_least cX8_least 3 (some .int) ∈ xk_WS := xk_in 405 (by decide +kernel) (by decide +kernel)
theorem wm_X8_152 : Cond.methodLink RX8 152 yX8_sizeOfGreatestRoot ∈ xk_WS := xk_in 406 (by decide +kernel) (by decide +kernel)
theorem wi_X8_sizeOfGreatestRoot : Cond.instanceMethod yX8_sizeOfGreatestRoot ∈ xk_WS := xk_in 408 (by decide +kernel) (by decide +kernel)
theorem wl_X8_sizeOfGreatestRoot : Cond.selects RX8 yX8_sizeOfGreatestRoot yX8_sizeOfGreatestRoot ∈ xk_WS := xk_in 8 (by decide +kernel) (by decide +kernel)
theorem wc_X8_sizeOfGreatestRoot : Cond.code yX8_sizeOfGreatestRoot cX8_sizeOfGreatestRoot 5 (some .int) ∈ xk_WS := xk_in 409 (by decide +kernel) (by decide +kernel)
theorem wm_X8_172 : Cond.methodLink RX8 172 yX3_measure ∈ xk_WS := xk_in 410 (by decide +kernel) (by decide +kernel)
theorem wm_X8_175 : Cond.methodLink RX8 175 yX4_isAbove ∈ xk_WS := xk_in 411 (by decide +kernel) (by decide +kernel)
theorem wi_X4_isAbove : Cond.instanceMethod yX4_isAbove ∈ xk_WS := xk_in 412 (by decide +kernel) (by decide +kernel)
theorem wl_X4_isAbove : Cond.selects RX4 yX4_isAbove yX4_isAbove ∈ xk_WS := xk_in 413 (by decide +kernel) (by decide +kernel)
theorem wc_X4_isAbove : Cond.code yX4_isAbove cX4_isAbove 7 (some .boolean) ∈ xk_WS := xk_in 414 (by decide +kernel) (by decide +kernel)
theorem wm_X4_19 : Cond.methodLink RX4 19 yX0_reset ∈ xk_WS := xk_in 415 (by decide +kernel) (by decide +kernel)
theorem wi_X0_reset : Cond.instanceMethod yX0_reset ∈ xk_WS := xk_in 416 (by decide +kernel) (by decide +kernel)
theorem wl_X0_reset : Cond.selects RX0 yX0_reset yX0_reset ∈ xk_WS := xk_in 417 (by decide +kernel) (by decide +kernel)
theorem wc_X0_reset : Cond.code yX0_reset cX0_reset 1 none ∈ xk_WS := xk_in 418 (by decide +kernel) (by decide +kernel)
theorem wm_X0_13 : Cond.methodLink RX0 13 yJ7_fill_d0a16 ∈ xk_WS := xk_in 419 (by decide +kernel) (by decide +kernel)
theorem wm_X4_22 : Cond.methodLink RX4 22 yX1_top ∈ xk_WS := xk_in 420 (by decide +kernel) (by decide +kernel)
theorem wm_X4_28 : Cond.methodLink RX4 28 yX0_multiply ∈ xk_WS := xk_in 421 (by decide +kernel) (by decide +kernel)
theorem wi_X0_multiply : Cond.instanceMethod yX0_multiply ∈ xk_WS := xk_in 422 (by decide +kernel) (by decide +kernel)
theorem wl_X0_multiply : Cond.selects RX0 yX0_multiply yX0_multiply ∈ xk_WS := xk_in 423 (by decide +kernel) (by decide +kernel)
theorem wc_X0_multiply : Cond.code yX0_multiply cX0_multiply 10 none ∈ xk_WS := xk_in 424 (by decide +kernel) (by decide +kernel)
theorem wk_X0_19 : Cond.constantLong RX0 19 (1073741823) ∈ xk_WS := xk_in 425 (by decide +kernel) (by decide +kernel)
theorem wm_X4_32 : Cond.methodLink RX4 32 yX1_bottom ∈ xk_WS := xk_in 426 (by decide +kernel) (by decide +kernel)
theorem wm_X4_35 : Cond.methodLink RX4 35 yX0_isAbove ∈ xk_WS := xk_in 427 (by decide +kernel) (by decide +kernel)
theorem wi_X0_isAbove : Cond.instanceMethod yX0_isAbove ∈ xk_WS := xk_in 428 (by decide +kernel) (by decide +kernel)
theorem wl_X0_isAbove : Cond.selects RX0 yX0_isAbove yX0_isAbove ∈ xk_WS := xk_in 429 (by decide +kernel) (by decide +kernel)
theorem wc_X0_isAbove : Cond.code yX0_isAbove cX0_isAbove 3 (some .boolean) ∈ xk_WS := xk_in 430 (by decide +kernel) (by decide +kernel)
theorem wm_L_71 : Cond.methodLink RL 71 yX9_least ∈ xk_WS := xk_in 639 (by decide +kernel) (by decide +kernel)
theorem wi_X9_least : Cond.instanceMethod yX9_least ∈ xk_WS := xk_in 640 (by decide +kernel) (by decide +kernel)
theorem wl_X9_least : Cond.selects RX9 yX9_least yX9_least ∈ xk_WS := xk_in 641 (by decide +kernel) (by decide +kernel)
theorem wc_X9_least : Cond.code yX9_least cX9_least 3 (some .int) ∈ xk_WS := xk_in 642 (by decide +kernel) (by decide +kernel)
theorem wf_X9_145 : Cond.fieldLink RX9 145 "PairScalesModel" "leastTop" "J" ∈ xk_WS := xk_in 483 (by decide +kernel) (by decide +kernel)
theorem wf_X9_141 : Cond.fieldLink RX9 141 "PairScalesModel" "leastBottom" "J" ∈ xk_WS := xk_in 484 (by decide +kernel) (by decide +kernel)
theorem wf_X9_134 : Cond.fieldLink RX9 134 "PairScalesModel" "leastMany" "I" ∈ xk_WS := xk_in 485 (by decide +kernel) (by decide +kernel)
theorem wm_X9_160 : Cond.methodLink RX9 160 yX9_rings ∈ xk_WS := xk_in 643 (by decide +kernel) (by decide +kernel)
theorem wi_X9_rings : Cond.instanceMethod yX9_rings ∈ xk_WS := xk_in 645 (by decide +kernel) (by decide +kernel)
theorem wl_X9_rings : Cond.selects RX9 yX9_rings yX9_rings ∈ xk_WS := xk_in 21 (by decide +kernel) (by decide +kernel)
theorem wc_X9_rings : Cond.code yX9_rings cX9_rings 10 none ∈ xk_WS := xk_in 646 (by decide +kernel) (by decide +kernel)
theorem wm_X9_156 : Cond.methodLink RX9 156 yX9_ring ∈ xk_WS := xk_in 647 (by decide +kernel) (by decide +kernel)
theorem wi_X9_ring : Cond.instanceMethod yX9_ring ∈ xk_WS := xk_in 649 (by decide +kernel) (by decide +kernel)
theorem wl_X9_ring : Cond.selects RX9 yX9_ring yX9_ring ∈ xk_WS := xk_in 22 (by decide +kernel) (by decide +kernel)
theorem wc_X9_ring : Cond.code yX9_ring cX9_ring 13 none ∈ xk_WS := xk_in 650 (by decide +kernel) (by decide +kernel)
theorem wm_X9_148 : Cond.methodLink RX9 148 Lib.MathLoose.max_long.x ∈ xk_WS := xk_in 651 (by decide +kernel) (by decide +kernel)
theorem wo_static_Lib_MathLoose_max_long_x : Cond.static Lib.MathLoose.max_long.x ∈ xk_WS := xk_in 652 (by decide +kernel) (by decide +kernel)
theorem wo_code_Lib_MathLoose_max_long_x_Lib_MathLoose_max_long_code_4_ : Cond.code Lib.MathLoose.max_long.x Lib.MathLoose.max_long.code 4 (some .long) ∈ xk_WS := xk_in 653 (by decide +kernel) (by decide +kernel)
theorem wm_X9_150 : Cond.methodLink RX9 150 Lib.MathLoose.min_long.x ∈ xk_WS := xk_in 654 (by decide +kernel) (by decide +kernel)
theorem wo_static_Lib_MathLoose_min_long_x : Cond.static Lib.MathLoose.min_long.x ∈ xk_WS := xk_in 655 (by decide +kernel) (by decide +kernel)
theorem wo_code_Lib_MathLoose_min_long_x_Lib_MathLoose_min_long_code_4_ : Cond.code Lib.MathLoose.min_long.x Lib.MathLoose.min_long.code 4 (some .long) ∈ xk_WS := xk_in 656 (by decide +kernel) (by decide +kernel)
theorem wm_X9_152 : Cond.methodLink RX9 152 yX9_compare ∈ xk_WS := xk_in 657 (by decide +kernel) (by decide +kernel)
theorem wi_X9_compare : Cond.instanceMethod yX9_compare ∈ xk_WS := xk_in 659 (by decide +kernel) (by decide +kernel)
theorem wl_X9_compare : Cond.selects RX9 yX9_compare yX9_compare ∈ xk_WS := xk_in 23 (by decide +kernel) (by decide +kernel)
theorem wc_X9_compare : Cond.code yX9_compare cX9_compare 7 (some .int) ∈ xk_WS := xk_in 660 (by decide +kernel) (by decide +kernel)
theorem wm_X9_130 : Cond.methodLink RX9 130 yX9_one ∈ xk_WS := xk_in 661 (by decide +kernel) (by decide +kernel)
theorem wt_X9_one : Cond.static yX9_one ∈ xk_WS := xk_in 662 (by decide +kernel) (by decide +kernel)
theorem wc_X9_one : Cond.code yX9_one cX9_one 2 none ∈ xk_WS := xk_in 663 (by decide +kernel) (by decide +kernel)
theorem wm_X9_137 : Cond.methodLink RX9 137 yX9_times ∈ xk_WS := xk_in 664 (by decide +kernel) (by decide +kernel)
theorem wt_X9_times : Cond.static yX9_times ∈ xk_WS := xk_in 665 (by decide +kernel) (by decide +kernel)
theorem wc_X9_times : Cond.code yX9_times cX9_times 10 none ∈ xk_WS := xk_in 666 (by decide +kernel) (by decide +kernel)
theorem wk_X9_128 : Cond.constantLong RX9 128 (1000000000) ∈ xk_WS := xk_in 667 (by decide +kernel) (by decide +kernel)
theorem wm_L_72 : Cond.methodLink RL 72 yX8_span ∈ xk_WS := xk_in 431 (by decide +kernel) (by decide +kernel)
theorem wi_X8_span : Cond.instanceMethod yX8_span ∈ xk_WS := xk_in 432 (by decide +kernel) (by decide +kernel)
theorem wl_X8_span : Cond.selects RX8 yX8_span yX8_span ∈ xk_WS := xk_in 433 (by decide +kernel) (by decide +kernel)
theorem wc_X8_span : Cond.code yX8_span cX8_span 12 (some .boolean) ∈ xk_WS := xk_in 434 (by decide +kernel) (by decide +kernel)
theorem wm_L_76 : Cond.methodLink RL 76 yX9_span ∈ xk_WS := xk_in 668 (by decide +kernel) (by decide +kernel)
theorem wi_X9_span : Cond.instanceMethod yX9_span ∈ xk_WS := xk_in 669 (by decide +kernel) (by decide +kernel)
theorem wl_X9_span : Cond.selects RX9 yX9_span yX9_span ∈ xk_WS := xk_in 670 (by decide +kernel) (by decide +kernel)
theorem wc_X9_span : Cond.code yX9_span cX9_span 9 (some .boolean) ∈ xk_WS := xk_in 671 (by decide +kernel) (by decide +kernel)
theorem wm_L_77 : Cond.methodLink RL 77 yX8_unspan ∈ xk_WS := xk_in 435 (by decide +kernel) (by decide +kernel)
theorem wi_X8_unspan : Cond.instanceMethod yX8_unspan ∈ xk_WS := xk_in 436 (by decide +kernel) (by decide +kernel)
theorem wl_X8_unspan : Cond.selects RX8 yX8_unspan yX8_unspan ∈ xk_WS := xk_in 437 (by decide +kernel) (by decide +kernel)
theorem wc_X8_unspan : Cond.code yX8_unspan cX8_unspan 3 (some .boolean) ∈ xk_WS := xk_in 438 (by decide +kernel) (by decide +kernel)
theorem wm_L_80 : Cond.methodLink RL 80 yX9_unspan ∈ xk_WS := xk_in 672 (by decide +kernel) (by decide +kernel)
theorem wi_X9_unspan : Cond.instanceMethod yX9_unspan ∈ xk_WS := xk_in 673 (by decide +kernel) (by decide +kernel)
theorem wl_X9_unspan : Cond.selects RX9 yX9_unspan yX9_unspan ∈ xk_WS := xk_in 674 (by decide +kernel) (by decide +kernel)
theorem wc_X9_unspan : Cond.code yX9_unspan cX9_unspan 3 (some .boolean) ∈ xk_WS := xk_in 675 (by decide +kernel) (by decide +kernel)
theorem wm_L_81 : Cond.methodLink RL 81 yX8_can ∈ xk_WS := xk_in 439 (by decide +kernel) (by decide +kernel)
theorem wi_X8_can : Cond.instanceMethod yX8_can ∈ xk_WS := xk_in 440 (by decide +kernel) (by decide +kernel)
theorem wl_X8_can : Cond.selects RX8 yX8_can yX8_can ∈ xk_WS := xk_in 441 (by decide +kernel) (by decide +kernel)
theorem wc_X8_can : Cond.code yX8_can cX8_can 1 (some .boolean) ∈ xk_WS := xk_in 442 (by decide +kernel) (by decide +kernel)
theorem wm_L_84 : Cond.methodLink RL 84 yX9_can ∈ xk_WS := xk_in 676 (by decide +kernel) (by decide +kernel)
theorem wi_X9_can : Cond.instanceMethod yX9_can ∈ xk_WS := xk_in 677 (by decide +kernel) (by decide +kernel)
theorem wl_X9_can : Cond.selects RX9 yX9_can yX9_can ∈ xk_WS := xk_in 678 (by decide +kernel) (by decide +kernel)
theorem wc_X9_can : Cond.code yX9_can cX9_can 2 (some .boolean) ∈ xk_WS := xk_in 679 (by decide +kernel) (by decide +kernel)
theorem wf_X9_183 : Cond.fieldLink RX9 183 "PairScalesModel" "canBe" "Z" ∈ xk_WS := xk_in 490 (by decide +kernel) (by decide +kernel)
theorem wm_X9_190 : Cond.methodLink RX9 190 yX9_goes ∈ xk_WS := xk_in 680 (by decide +kernel) (by decide +kernel)
theorem wi_X9_goes : Cond.instanceMethod yX9_goes ∈ xk_WS := xk_in 682 (by decide +kernel) (by decide +kernel)
theorem wl_X9_goes : Cond.selects RX9 yX9_goes yX9_goes ∈ xk_WS := xk_in 24 (by decide +kernel) (by decide +kernel)
theorem wc_X9_goes : Cond.code yX9_goes cX9_goes 3 none ∈ xk_WS := xk_in 683 (by decide +kernel) (by decide +kernel)
theorem wf_X9_164 : Cond.fieldLink RX9 164 "PairScalesModel" "isSome" "Z" ∈ xk_WS := xk_in 489 (by decide +kernel) (by decide +kernel)
theorem wf_X9_171 : Cond.fieldLink RX9 171 "PairScalesModel" "bestTop" "J" ∈ xk_WS := xk_in 487 (by decide +kernel) (by decide +kernel)
theorem wf_X9_168 : Cond.fieldLink RX9 168 "PairScalesModel" "bestBottom" "J" ∈ xk_WS := xk_in 488 (by decide +kernel) (by decide +kernel)
theorem wm_X9_186 : Cond.methodLink RX9 186 yX9_ways ∈ xk_WS := xk_in 684 (by decide +kernel) (by decide +kernel)
theorem wi_X9_ways : Cond.instanceMethod yX9_ways ∈ xk_WS := xk_in 686 (by decide +kernel) (by decide +kernel)
theorem wl_X9_ways : Cond.selects RX9 yX9_ways yX9_ways ∈ xk_WS := xk_in 25 (by decide +kernel) (by decide +kernel)
theorem wc_X9_ways : Cond.code yX9_ways cX9_ways 11 none ∈ xk_WS := xk_in 687 (by decide +kernel) (by decide +kernel)
theorem wm_X9_174 : Cond.methodLink RX9 174 yX9_isSpan ∈ xk_WS := xk_in 688 (by decide +kernel) (by decide +kernel)
theorem wi_X9_isSpan : Cond.instanceMethod yX9_isSpan ∈ xk_WS := xk_in 690 (by decide +kernel) (by decide +kernel)
theorem wl_X9_isSpan : Cond.selects RX9 yX9_isSpan yX9_isSpan ∈ xk_WS := xk_in 26 (by decide +kernel) (by decide +kernel)
theorem wc_X9_isSpan : Cond.code yX9_isSpan cX9_isSpan 3 (some .boolean) ∈ xk_WS := xk_in 691 (by decide +kernel) (by decide +kernel)
theorem wm_X9_177 : Cond.methodLink RX9 177 yX9_lowOver ∈ xk_WS := xk_in 692 (by decide +kernel) (by decide +kernel)
theorem wi_X9_lowOver : Cond.instanceMethod yX9_lowOver ∈ xk_WS := xk_in 694 (by decide +kernel) (by decide +kernel)
theorem wl_X9_lowOver : Cond.selects RX9 yX9_lowOver yX9_lowOver ∈ xk_WS := xk_in 27 (by decide +kernel) (by decide +kernel)
theorem wc_X9_lowOver : Cond.code yX9_lowOver cX9_lowOver 3 (some .int) ∈ xk_WS := xk_in 695 (by decide +kernel) (by decide +kernel)
theorem wm_X9_180 : Cond.methodLink RX9 180 yX9_lowUnder ∈ xk_WS := xk_in 696 (by decide +kernel) (by decide +kernel)
theorem wi_X9_lowUnder : Cond.instanceMethod yX9_lowUnder ∈ xk_WS := xk_in 698 (by decide +kernel) (by decide +kernel)
theorem wl_X9_lowUnder : Cond.selects RX9 yX9_lowUnder yX9_lowUnder ∈ xk_WS := xk_in 28 (by decide +kernel) (by decide +kernel)
theorem wc_X9_lowUnder : Cond.code yX9_lowUnder cX9_lowUnder 3 (some .int) ∈ xk_WS := xk_in 699 (by decide +kernel) (by decide +kernel)
theorem wm_L_85 : Cond.methodLink RL 85 yX8_bound ∈ xk_WS := xk_in 443 (by decide +kernel) (by decide +kernel)
theorem wi_X8_bound : Cond.instanceMethod yX8_bound ∈ xk_WS := xk_in 444 (by decide +kernel) (by decide +kernel)
theorem wl_X8_bound : Cond.selects RX8 yX8_bound yX8_bound ∈ xk_WS := xk_in 445 (by decide +kernel) (by decide +kernel)
theorem wc_X8_bound : Cond.code yX8_bound cX8_bound 6 (some .int) ∈ xk_WS := xk_in 446 (by decide +kernel) (by decide +kernel)
theorem wm_X8_162 : Cond.methodLink RX8 162 yX8_greatestWay ∈ xk_WS := xk_in 447 (by decide +kernel) (by decide +kernel)
theorem wi_X8_greatestWay : Cond.instanceMethod yX8_greatestWay ∈ xk_WS := xk_in 449 (by decide +kernel) (by decide +kernel)
theorem wl_X8_greatestWay : Cond.selects RX8 yX8_greatestWay yX8_greatestWay ∈ xk_WS := xk_in 9 (by decide +kernel) (by decide +kernel)
theorem wc_X8_greatestWay : Cond.code yX8_greatestWay cX8_greatestWay 14 (some .long) ∈ xk_WS := xk_in 450 (by decide +kernel) (by decide +kernel)
theorem wm_L_88 : Cond.methodLink RL 88 yX9_bound ∈ xk_WS := xk_in 700 (by decide +kernel) (by decide +kernel)
theorem wi_X9_bound : Cond.instanceMethod yX9_bound ∈ xk_WS := xk_in 701 (by decide +kernel) (by decide +kernel)
theorem wl_X9_bound : Cond.selects RX9 yX9_bound yX9_bound ∈ xk_WS := xk_in 702 (by decide +kernel) (by decide +kernel)
theorem wc_X9_bound : Cond.code yX9_bound cX9_bound 4 (some .int) ∈ xk_WS := xk_in 703 (by decide +kernel) (by decide +kernel)
theorem wm_X9_194 : Cond.methodLink RX9 194 yX9_can ∈ xk_WS := xk_in 704 (by decide +kernel) (by decide +kernel)
theorem wm_L_89 : Cond.methodLink RL 89 yX8_count ∈ xk_WS := xk_in 451 (by decide +kernel) (by decide +kernel)
theorem wi_X8_count : Cond.instanceMethod yX8_count ∈ xk_WS := xk_in 452 (by decide +kernel) (by decide +kernel)
theorem wl_X8_count : Cond.selects RX8 yX8_count yX8_count ∈ xk_WS := xk_in 453 (by decide +kernel) (by decide +kernel)
theorem wc_X8_count : Cond.code yX8_count cX8_count 2 (some .int) ∈ xk_WS := xk_in 454 (by decide +kernel) (by decide +kernel)
theorem wm_L_92 : Cond.methodLink RL 92 yX9_count ∈ xk_WS := xk_in 705 (by decide +kernel) (by decide +kernel)
theorem wi_X9_count : Cond.instanceMethod yX9_count ∈ xk_WS := xk_in 706 (by decide +kernel) (by decide +kernel)
theorem wl_X9_count : Cond.selects RX9 yX9_count yX9_count ∈ xk_WS := xk_in 707 (by decide +kernel) (by decide +kernel)
theorem wc_X9_count : Cond.code yX9_count cX9_count 4 (some .int) ∈ xk_WS := xk_in 708 (by decide +kernel) (by decide +kernel)
theorem inX8 : ∀ w ∈ u_ws RX8 TX8 8, w ∈ xk_WS := xk_ins _ [201, 203, 205, 207, 209, 211, 213, 215] (by decide +kernel) (by decide +kernel)
theorem inX9 : ∀ w ∈ u_ws RX9 TX9 25, w ∈ xk_WS := xk_ins _ [491, 493, 495, 497, 499, 501, 503, 505, 507, 509, 511, 513, 515, 517, 519, 521, 523, 525, 527, 529, 531, 533, 535, 537, 539] (by decide +kernel) (by decide +kernel)
theorem inX5 : ∀ w ∈ u_ws RX5 TX5 3, w ∈ xk_WS := xk_ins _ [72, 74, 76] (by decide +kernel) (by decide +kernel)
theorem inX7 : ∀ w ∈ u_ws RX7 TX7 5, w ∈ xk_WS := xk_ins _ [95, 97, 99, 101, 103] (by decide +kernel) (by decide +kernel)
theorem inX3 : ∀ w ∈ u_ws RX3 TX3 2, w ∈ xk_WS := xk_ins _ [115, 117] (by decide +kernel) (by decide +kernel)
theorem inX6 : ∀ w ∈ u_ws RX6 TX6 2, w ∈ xk_WS := xk_ins _ [130, 132] (by decide +kernel) (by decide +kernel)
theorem inX2 : ∀ w ∈ u_ws RX2 TX2 8, w ∈ xk_WS := xk_ins _ [153, 155, 157, 159, 161, 163, 165, 167] (by decide +kernel) (by decide +kernel)
theorem inX4 : ∀ w ∈ u_ws RX4 TX4 2, w ∈ xk_WS := xk_ins _ [188, 190] (by decide +kernel) (by decide +kernel)
theorem inX0 : ∀ w ∈ u_ws RX0 TX0 1, w ∈ xk_WS := xk_ins _ [183] (by decide +kernel) (by decide +kernel)
end
section
/-! THE MACHINE UNDER AN ABSTRACT HEAP. Own text. An abstract heap is a list of cells; references are places in it. xk_X: from here on the method comes to its end, with an answer and a heap of which 'out' holds. xk_Y: a method's contract over abstract heaps. -/
abbrev xk_M : Type := MethodName × ByteArray × Nat × Option FieldType
abbrev xk_C : Type := (Nat × vp_A) ⊕ (Nat × List Value)
abbrev xk_H : Type := List xk_C
abbrev xk_G : Type := va_G × (Nat → ClassId) × Nat
def xk_v (ad : Nat → Nat) : Value → Value
  | .ref k => .ref (ad k)
  | .int x => .int x
  | .long x => .long x
  | .float x => .float x
  | .double x => .double x
  | .null => .null
  | .retAddr x => .retAddr x
def xk_a (ad : Nat → Nat) : vp_A → vp_A
  | (n, .inl f) => (n, .inl f)
  | (n, .inr (.inl f)) => (n, .inr (.inl f))
  | (n, .inr (.inr (.inl f))) => (n, .inr (.inr (.inl f)))
  | (n, .inr (.inr (.inr (.inl f)))) => (n, .inr (.inr (.inr (.inl f))))
  | (n, .inr (.inr (.inr (.inr f)))) => (n, .inr (.inr (.inr (.inr (fun j => (f j).map ad)))))
def xk_e (K : Nat → ClassId) (ad : Nat → Nat) : xk_C → va_E
  | .inl q => .inl (K q.1, xk_a ad q.2)
  | .inr o => .inr (o.1, o.2.map (xk_v ad))
def xk_w (K : Nat → ClassId) (ad : Nat → Nat) (hs : xk_H) : va_W := hs.mapIdx fun k e => (ad k, xk_e K ad e)
theorem xk_w_at (K : Nat → ClassId) (ad : Nat → Nat) (hs : xk_H) (k : Nat) : (xk_w K ad hs)[k]? = (hs[k]?).map fun e => (ad k, xk_e K ad e) := by
  unfold xk_w
  rw [List.getElem?_mapIdx]
theorem xk_w_get {K : Nat → ClassId} {ad : Nat → Nat} {hs : xk_H} {k : Nat} {e : xk_C} (h : hs[k]? = some e) : (xk_w K ad hs)[k]? = some (ad k, xk_e K ad e) := by
  rw [xk_w_at, h]
  rfl
theorem xk_w_set (K : Nat → ClassId) (ad : Nat → Nat) (hs : xk_H) (k : Nat) (e : xk_C) : (xk_w K ad hs).set k (ad k, xk_e K ad e) = xk_w K ad (hs.set k e) := by
  apply List.ext_getElem?
  intro j
  rw [xk_w_at, List.getElem?_set, List.getElem?_set, xk_w_at]
  have hlen : (xk_w K ad hs).length = hs.length := by unfold xk_w; exact List.length_mapIdx
  rw [hlen]
  by_cases hj : k = j
  · subst hj
    by_cases hk : k < hs.length
    · simp [hk]
    · simp [hk]
  · simp [hj]
/-- the array classes: ints, longs, booleans, arrays of ints, arrays of longs -/
def xk_t (K : Nat → ClassId) : List (ClassId × FieldType) := [(K 0, .int), (K 1, .long), (K 2, .boolean), (K 3, .array .int), (K 4, .array .long)]
/-- the words by which nest mates are reached -/
def xk_nest : List Cond := [(Jvm.Cond.fieldLinkNest "PairScales" (166 : Nat) "PairScales$Table" "filled" "I" "PairScales"), (Jvm.Cond.fieldLinkNest "PairScales" (116 : Nat) "PairScales$WorstThree" "i" "I" "PairScales"), (Jvm.Cond.fieldLinkNest "PairScales" (119 : Nat) "PairScales$WorstThree" "j" "I" "PairScales"), (Jvm.Cond.fieldLinkNest "PairScales" (122 : Nat) "PairScales$WorstThree" "k" "I" "PairScales"), (Jvm.Cond.fieldLinkNest "PairScales" (112 : Nat) "PairScales$WorstThree" "off" "J" "PairScales"), (Jvm.Cond.fieldLinkNest "PairScales" (156 : Nat) "PairScales$Rings" "greatest" "[J" "PairScales"), (Jvm.Cond.fieldLinkNest "PairScales" (131 : Nat) "PairScales$Leaving" "fewest" "I" "PairScales"), (Jvm.Cond.fieldLinkNest "PairScales" (134 : Nat) "PairScales$Leaving" "leastHeap" "I" "PairScales"), (Jvm.Cond.methodLinkNest "PairScales" (64 : Nat) ({ cls := "PairScales$Roots", name := "<init>", desc := "()V" } : Jvm.MethodName) "PairScales"), (Jvm.Cond.methodLinkNest "PairScales$Roots" (9 : Nat) ({ cls := "PairScales$Big", name := "<init>", desc := "()V" } : Jvm.MethodName) "PairScales")]
def xk_logs : Nat → Value := fun j => .int (([0, 0, 1, 64, 2, 4096, 65, 262144, 3, 128] : List Int32).getD j 0)
/-- what is known of the tables and the static array at a state -/
def xk_K (G : xk_G) (A : Nat → Prop) (U : State) (H : Heap) : Prop := va_K G.1 vwCl (xk_t G.2.1) U ∧ (∀ w ∈ xk_nest, va_Nw w U) ∧ va_Z "PairScales$Leaving" "LOGS" "[I" (.ref G.2.2) A U H ∧ va_T .int G.2.2 10 xk_logs A U H
def xk_ws (M : xk_M) : List Cond := Cond.code M.1 M.2.1 M.2.2.1 M.2.2.2 :: xk_WS
def xk_rm (d mc ms : Nat) : Room := { frames := d, cells := mc, slots := ms, locals := 40 * d }
/-- what stays through a method: machine, code, words, tables -/
def xk_Cx (M : xk_M) (G : xk_G) (p : Program) (s : State) (m : MethodId) (args : Array Value) (meth : Method) (c : Code) (A : Nat → Prop) : Prop :=
  p.tables.exec = Jvm.exec ∧ c.code = M.2.1 ∧ c.maxLocals = M.2.2.1 ∧ meth.sig.returnType = M.2.2.2 ∧ (∀ w ∈ xk_WS, w.before args s = true) ∧ s.vm.findClass M.1.cls = some m.cls ∧ meth.locks = false ∧ meth.name = M.1.name ∧ (∀ q : Nat, s.heap.size ≤ q → A q) ∧ xk_K G A s s.heap
/-- the locals, by their places -/
def xk_l (ad : Nat → Nat) : Nat → List (Option Value) → List (Nat × Value)
  | _, [] => []
  | i, some v :: ls => (i, xk_v ad v) :: xk_l ad (i + 1) ls
  | i, none :: ls => xk_l ad (i + 1) ls
def xk_two : Option Value → Bool
  | some (.long _) => true
  | some (.double _) => true
  | _ => false
/-- a value of one word is stored -/
def xk_s1 : List (Option Value) → Nat → Value → List (Option Value)
  | [], _, _ => []
  | _ :: ls, 0, v => some v :: ls
  | o :: ls, 1, v => (if xk_two o then none else o) :: xk_s1 ls 0 v
  | o :: ls, i + 2, v => o :: xk_s1 ls (i + 1) v
/-- a value of two words is stored -/
def xk_s2 : List (Option Value) → Nat → Value → List (Option Value)
  | [], _, _ => []
  | [_], 0, v => [some v]
  | _ :: _ :: ls, 0, v => some v :: none :: ls
  | o :: ls, 1, v => (if xk_two o then none else o) :: xk_s2 ls 0 v
  | o :: ls, i + 2, v => o :: xk_s2 ls (i + 1) v
theorem xk_l_mem (ad : Nat → Nat) : ∀ (ls : List (Option Value)) (i : Nat) (q : Nat × Value), q ∈ xk_l ad i ls ↔ ∃ (k : Nat) (v : Value), ls[k]? = some (some v) ∧ q = (i + k, xk_v ad v)
  | [], i, q => by simp [xk_l]
  | some w :: ls, i, q => by
    rw [xk_l, List.mem_cons, xk_l_mem ad ls (i + 1) q]
    constructor
    · rintro (rfl | ⟨k, v, h1, rfl⟩)
      · exact ⟨0, w, rfl, rfl⟩
      · exact ⟨k + 1, v, by simpa using h1, by rw [Nat.add_assoc, Nat.add_comm 1 k]⟩
    · rintro ⟨k, v, h1, rfl⟩
      cases k with
      | zero => left; simp at h1; rw [h1]; rfl
      | succ k => right; exact ⟨k, v, by simpa using h1, by rw [Nat.add_assoc, Nat.add_comm 1 k]⟩
  | none :: ls, i, q => by
    rw [xk_l, xk_l_mem ad ls (i + 1) q]
    constructor
    · rintro ⟨k, v, h1, rfl⟩
      exact ⟨k + 1, v, by simpa using h1, by rw [Nat.add_assoc, Nat.add_comm 1 k]⟩
    · rintro ⟨k, v, h1, rfl⟩
      cases k with
      | zero => simp at h1
      | succ k => exact ⟨k, v, by simpa using h1, by rw [Nat.add_assoc, Nat.add_comm 1 k]⟩
theorem xk_cat (ad : Nat → Nat) (v : Value) : (xk_v ad v).category = v.category := by cases v <;> rfl
theorem xk_two_cat (v : Value) : xk_two (some v) = (v.category == 2) := by cases v <;> rfl
theorem xk_s1_at (v : Value) : ∀ (ls : List (Option Value)) (i k : Nat) (w : Value), (xk_s1 ls i v)[k]? = some (some w) → (k = i ∧ w = v) ∨ (ls[k]? = some (some w) ∧ k ≠ i ∧ ¬ (k + 1 = i ∧ w.category = 2))
  | [], i, k, w, h => by simp [xk_s1] at h
  | o :: ls, 0, k, w, h => by
    cases k with
    | zero => left; simp [xk_s1] at h; exact ⟨rfl, h.symm⟩
    | succ k => right; simp [xk_s1] at h; exact ⟨by simpa using h, by omega, by omega⟩
  | o :: ls, 1, k, w, h => by
    cases k with
    | zero =>
      right
      simp only [xk_s1, List.getElem?_cons_zero] at h
      by_cases ho : xk_two o = true
      · simp [ho] at h
      · simp only [ho] at h
        have h' : o = some w := by simpa using h
        subst h'
        refine ⟨by simp, by omega, fun q => ho ?_⟩
        rw [xk_two_cat]
        simp [q.2]
    | succ k =>
      simp only [xk_s1, List.getElem?_cons_succ] at h
      rcases xk_s1_at v ls 0 k w h with ⟨h1, h2⟩ | ⟨h1, h2, h3⟩
      · exact Or.inl ⟨by omega, h2⟩
      · exact Or.inr ⟨by simpa using h1, by omega, by omega⟩
  | o :: ls, i + 2, k, w, h => by
    cases k with
    | zero => right; simp [xk_s1] at h; exact ⟨by simp [h], by omega, by omega⟩
    | succ k =>
      simp only [xk_s1, List.getElem?_cons_succ] at h
      rcases xk_s1_at v ls (i + 1) k w h with ⟨h1, h2⟩ | ⟨h1, h2, h3⟩
      · exact Or.inl ⟨by omega, h2⟩
      · exact Or.inr ⟨by simpa using h1, by omega, fun q => h3 ⟨by omega, q.2⟩⟩
theorem xk_s2_at (v : Value) : ∀ (ls : List (Option Value)) (i k : Nat) (w : Value), (xk_s2 ls i v)[k]? = some (some w) → (k = i ∧ w = v) ∨ (ls[k]? = some (some w) ∧ k ≠ i ∧ k ≠ i + 1 ∧ ¬ (k + 1 = i ∧ w.category = 2))
  | [], i, k, w, h => by simp [xk_s2] at h
  | [o], 0, k, w, h => by
    cases k with
    | zero => left; simp [xk_s2] at h; exact ⟨rfl, h.symm⟩
    | succ k => simp [xk_s2] at h
  | o :: o2 :: ls, 0, k, w, h => by
    cases k with
    | zero => left; simp [xk_s2] at h; exact ⟨rfl, h.symm⟩
    | succ k =>
      cases k with
      | zero => simp [xk_s2] at h
      | succ k => right; simp [xk_s2] at h; exact ⟨by simpa using h, by omega, by omega, by omega⟩
  | o :: ls, 1, k, w, h => by
    cases k with
    | zero =>
      right
      simp only [xk_s2, List.getElem?_cons_zero] at h
      by_cases ho : xk_two o = true
      · simp [ho] at h
      · simp only [ho] at h
        have h' : o = some w := by simpa using h
        subst h'
        refine ⟨by simp, by omega, by omega, fun q => ho ?_⟩
        rw [xk_two_cat]
        simp [q.2]
    | succ k =>
      simp only [xk_s2, List.getElem?_cons_succ] at h
      rcases xk_s2_at v ls 0 k w h with ⟨h1, h2⟩ | ⟨h1, h2, h3, h4⟩
      · exact Or.inl ⟨by omega, h2⟩
      · exact Or.inr ⟨by simpa using h1, by omega, by omega, by omega⟩
  | o :: ls, i + 2, k, w, h => by
    cases k with
    | zero => right; simp [xk_s2] at h; exact ⟨by simp [h], by omega, by omega, by omega⟩
    | succ k =>
      simp only [xk_s2, List.getElem?_cons_succ] at h
      rcases xk_s2_at v ls (i + 1) k w h with ⟨h1, h2⟩ | ⟨h1, h2, h3, h4⟩
      · exact Or.inl ⟨by omega, h2⟩
      · exact Or.inr ⟨by simpa using h1, by omega, by omega, fun q => h4 ⟨by omega, q.2⟩⟩
theorem xk_l_at {ad : Nat → Nat} {la : Array Slot} {nL : Nat} {ls : List (Option Value)} (h : lv_has la nL (xk_l ad 0 ls)) {i : Nat} {v : Value} (hv : ls[i]? = some (some v)) : la[i]? = some (.val (xk_v ad v)) :=
  h.2.2 (i, xk_v ad v) ((xk_l_mem ad ls 0 _).mpr ⟨i, v, hv, by rw [Nat.zero_add]⟩)
theorem xk_l_s1 {ad : Nat → Nat} {la : Array Slot} {nL i : Nat} {ls : List (Option Value)} {v : Value} (h : lv_has la nL ((i, xk_v ad v) :: (xk_l ad 0 ls).filter (fun q => !(q.1 == i) && !(q.1 + 1 == i && q.2.category == 2)))) : lv_has la nL (xk_l ad 0 (xk_s1 ls i v)) := by
  refine ⟨h.1, h.2.1, fun q hq => h.2.2 q ?_⟩
  obtain ⟨k, w, h1, rfl⟩ := (xk_l_mem ad _ 0 q).mp hq
  rw [Nat.zero_add]
  rcases xk_s1_at v ls i k w h1 with ⟨rfl, rfl⟩ | ⟨h2, h3, h4⟩
  · exact List.mem_cons_self
  · refine List.mem_cons_of_mem _ (List.mem_filter.mpr ⟨(xk_l_mem ad ls 0 _).mpr ⟨k, w, h2, by rw [Nat.zero_add]⟩, ?_⟩)
    rw [xk_cat]
    by_cases h5 : k + 1 = i
    · have h6 : ¬ w.category = 2 := fun z => h4 ⟨h5, z⟩
      simp [h3, h6]
    · simp [h3, h5]
theorem xk_l_s2 {ad : Nat → Nat} {la : Array Slot} {nL i : Nat} {ls : List (Option Value)} {v : Value} (h : lv_has la nL ((i, xk_v ad v) :: (xk_l ad 0 ls).filter (fun q => !(q.1 == i) && (!(q.1 == i + 1) && !(q.1 + 1 == i && q.2.category == 2))))) : lv_has la nL (xk_l ad 0 (xk_s2 ls i v)) := by
  refine ⟨h.1, h.2.1, fun q hq => h.2.2 q ?_⟩
  obtain ⟨k, w, h1, rfl⟩ := (xk_l_mem ad _ 0 q).mp hq
  rw [Nat.zero_add]
  rcases xk_s2_at v ls i k w h1 with ⟨rfl, rfl⟩ | ⟨h2, h3, h4, h5⟩
  · exact List.mem_cons_self
  · refine List.mem_cons_of_mem _ (List.mem_filter.mpr ⟨(xk_l_mem ad ls 0 _).mpr ⟨k, w, h2, by rw [Nat.zero_add]⟩, ?_⟩)
    rw [xk_cat]
    by_cases h6 : k + 1 = i
    · have h7 : ¬ w.category = 2 := fun z => h5 ⟨h6, z⟩
      simp [h3, h4, h7]
    · simp [h3, h4, h6]
/-- fewer locals are known -/
def xk_le : List (Option Value) → List (Option Value) → Prop
  | [], _ => True
  | none :: a, _ :: b => xk_le a b
  | some v :: a, some w :: b => v = w ∧ xk_le a b
  | none :: a, [] => xk_le a []
  | some _ :: _, none :: _ => False
  | some _ :: _, [] => False
theorem xk_le_at : ∀ (a b : List (Option Value)), xk_le a b → ∀ (k : Nat) (v : Value), a[k]? = some (some v) → b[k]? = some (some v)
  | [], b, _, k, v, hv => by simp at hv
  | none :: a, x :: b, h, k, v, hv => by
    cases k with
    | zero => simp at hv
    | succ k => simpa using xk_le_at a b h k v (by simpa using hv)
  | none :: a, [], h, k, v, hv => by
    cases k with
    | zero => simp at hv
    | succ k => have := xk_le_at a [] h k v (by simpa using hv); simp at this
  | some y :: a, some w :: b, h, k, v, hv => by
    cases k with
    | zero => rw [← h.1]; simpa using hv
    | succ k => simpa using xk_le_at a b h.2 k v (by simpa using hv)
  | some y :: a, none :: b, h, k, v, hv => h.elim
  | some y :: a, [], h, k, v, hv => h.elim
/-- references lie within -/
def xk_ok (n : Nat) : Value → Prop
  | .ref k => k < n
  | .int _ => True
  | .long _ => True
  | .float _ => True
  | .double _ => True
  | .null => True
  | .retAddr _ => True
def xk_okC (n : Nat) : xk_C → Prop
  | .inl (_, _, .inr (.inr (.inr (.inr f)))) => ∀ (j k : Nat), f j = some k → k < n
  | .inl (_, _, .inl _) => True
  | .inl (_, _, .inr (.inl _)) => True
  | .inl (_, _, .inr (.inr (.inl _))) => True
  | .inl (_, _, .inr (.inr (.inr (.inl _)))) => True
  | .inr (_, fs) => ∀ v ∈ fs, xk_ok n v
def xk_okS (n : Nat) (st : List Value) : Prop := ∀ v ∈ st, xk_ok n v
def xk_okL (n : Nat) (ls : List (Option Value)) : Prop := ∀ v : Value, some v ∈ ls → xk_ok n v
def xk_okH (hs : xk_H) : Prop := ∀ e ∈ hs, xk_okC hs.length e
def xk_OK (ls : List (Option Value)) (st : List Value) (hs : xk_H) : Prop := xk_okL hs.length ls ∧ xk_okS hs.length st ∧ xk_okH hs
theorem xk_tl {n : Nat} {v : Value} {st : List Value} (h : xk_okS n (v :: st)) : xk_okS n st := fun w hw => h w (List.mem_cons_of_mem _ hw)
theorem xk_hd {n : Nat} {v : Value} {st : List Value} (h : xk_okS n (v :: st)) : xk_ok n v := h v List.mem_cons_self
theorem xk_cs {n : Nat} {v : Value} {st : List Value} (hv : xk_ok n v) (h : xk_okS n st) : xk_okS n (v :: st) := fun w hw => (List.mem_cons.mp hw).elim (fun e => e ▸ hv) (h w)
theorem xk_okL_at {n i : Nat} {ls : List (Option Value)} {v : Value} (h : xk_okL n ls) (hv : ls[i]? = some (some v)) : xk_ok n v := h v (List.mem_of_getElem? hv)
theorem xk_okL_s1 {n i : Nat} {ls : List (Option Value)} {v : Value} (h : xk_okL n ls) (hv : xk_ok n v) : xk_okL n (xk_s1 ls i v) := fun w hw => by
  obtain ⟨k, hk⟩ := List.getElem?_of_mem hw
  rcases xk_s1_at v ls i k w hk with ⟨-, rfl⟩ | ⟨h1, -⟩
  · exact hv
  · exact xk_okL_at h h1
theorem xk_okL_s2 {n i : Nat} {ls : List (Option Value)} {v : Value} (h : xk_okL n ls) (hv : xk_ok n v) : xk_okL n (xk_s2 ls i v) := fun w hw => by
  obtain ⟨k, hk⟩ := List.getElem?_of_mem hw
  rcases xk_s2_at v ls i k w hk with ⟨-, rfl⟩ | ⟨h1, -⟩
  · exact hv
  · exact xk_okL_at h h1
theorem xk_okH_set {hs : xk_H} {a : Nat} {e : xk_C} (h : xk_okH hs) (he : xk_okC hs.length e) : xk_okH (hs.set a e) := fun x hx => by
  rw [List.length_set]
  rcases List.mem_or_eq_of_mem_set hx with h1 | rfl
  · exact h x h1
  · exact he
theorem xk_OK.set {ls : List (Option Value)} {st st' : List Value} {hs : xk_H} {a : Nat} {e : xk_C} (O : xk_OK ls st' hs) (h1 : xk_okS hs.length st) (he : xk_okC hs.length e) : xk_OK ls st (hs.set a e) := by
  refine ⟨?_, ?_, xk_okH_set O.2.2 he⟩
  · rw [List.length_set]; exact O.1
  · rw [List.length_set]; exact h1
theorem xk_okF {hs : xk_H} {a ci : Nat} {fs : List Value} (h : xk_okH hs) (he : hs[a]? = some (.inr (ci, fs))) : ∀ v ∈ fs, xk_ok hs.length v := h _ (List.mem_of_getElem? he)
theorem xk_okR {hs : xk_H} {a t n j k : Nat} {f : Nat → Option Nat} (h : xk_okH hs) (he : hs[a]? = some (.inl (t, n, .inr (.inr (.inr (.inr f)))))) (hf : f j = some k) : k < hs.length := h _ (List.mem_of_getElem? he) j k hf
def xk_Q (G : xk_G) (fx : Nat → Prop) (ad : Nat → Nat) (out : Option Value → xk_H → Prop) (A : Nat → Prop) : Array Value → State → Outcome → State → Prop := fun _ st oc t =>
  (∃ (r : Option Value) (hs' : xk_H) (ad' : Nat → Nat), oc = .returned (r.map (xk_v ad')) ∧ out r hs' ∧ xk_OK [] r.toList hs' ∧ (∀ k, fx k → ad' k = ad k) ∧ va_P G.1 vwCl (xk_w G.2.1 ad' hs') t.heap ∧ va_D A (xk_w G.2.1 ad' hs')) ∧ va_F A st t
/-- THE JUDGEMENT -/
def xk_X (d mc ms : Nat) (M : xk_M) (fx : Nat → Prop) (out : Option Value → xk_H → Prop) (cs ss pc : Nat) (ls : List (Option Value)) (st : List Value) (hs : xk_H) : Prop :=
  ∀ (G : xk_G) (ad0 ad : Nat → Nat) (p : Program) (l : Launch) (e : Env) (s : State) (m : MethodId) (args : Array Value) (below : List Frame) (meth : Method) (c : Code) (A : Nat → Prop) (H : Heap) (locs : List Loc) (la : Array Slot),
    xk_Cx M G p s m args meth c A → (∀ k, fx k → ad k = ad0 k) → va_P G.1 vwCl (xk_w G.2.1 ad hs) H → va_D A (xk_w G.2.1 ad hs) → va_S A s.heap H locs → lv_has la M.2.2.1 (xk_l ad 0 ls) → xk_OK ls st hs →
    W p l e (xk_rm d mc ms) s m args below meth c H locs cs ss (MQ below (xk_Q G fx ad0 out A) args s mc ms A) (F0 m pc la (st.map (xk_v ad)))
/-- which addresses a method leaves as they are: all, or (where it makes cells) those of the cells that were there -/
def xk_fx (al : Bool) (hs : xk_H) (k : Nat) : Prop := al = true → k < hs.length
/-- A CONTRACT -/
def xk_Y (d mc ms : Nat) (M : xk_M) (al : Bool) (av : List Value) (hs : xk_H) (out : Option Value → xk_H → Prop) : Prop :=
  xk_OK [] av hs → ∀ (l : Launch) (G : xk_G) (ad : Nat → Nat) (sz : Nat), Met l M.1 (xk_ws M) (xk_rm d mc ms) (va_Pc (av.map (xk_v ad)) (fun U => U.heap.size = sz ∧ va_P G.1 vwCl (xk_w G.2.1 ad hs) U.heap ∧ va_D (fun _ => True) (xk_w G.2.1 ad hs) ∧ xk_K G (va_A (xk_w G.2.1 ad hs) sz) U U.heap)) (xk_Q G (xk_fx al hs) ad out (va_A (xk_w G.2.1 ad hs) sz)) mc ms (va_A (xk_w G.2.1 ad hs) sz)
/-- the locals at a method's entry -/
def xk_ent : List Value → List (Option Value)
  | [] => []
  | v :: vs => if v.category = 2 then some v :: none :: xk_ent vs else some v :: xk_ent vs
theorem xk_ent_mem (ad : Nat → Nat) (k : Nat) : ∀ (vs : List Value) (i : Nat) (q : Nat × Value), q ∈ xk_l ad i (xk_ent vs ++ List.replicate k none) → q ∈ lv_args i (vs.map (xk_v ad))
  | [], i, q, h => by
    obtain ⟨j, v, h1, -⟩ := (xk_l_mem ad _ i q).mp h
    simp [xk_ent, List.getElem?_replicate] at h1
  | v :: vs, i, q, h => by
    rw [List.map_cons, lv_args, xk_cat]
    by_cases hc : v.category = 2
    · rw [xk_ent, if_pos hc] at h
      rw [if_pos hc]
      simp only [List.cons_append, xk_l] at h
      rcases List.mem_cons.mp h with h | h
      · exact List.mem_cons.mpr (Or.inl h)
      · exact List.mem_cons_of_mem _ (xk_ent_mem ad k vs (i + 2) q h)
    · rw [xk_ent, if_neg hc] at h
      rw [if_neg hc]
      simp only [List.cons_append, xk_l] at h
      rcases List.mem_cons.mp h with h | h
      · exact List.mem_cons.mpr (Or.inl h)
      · exact List.mem_cons_of_mem _ (xk_ent_mem ad k vs (i + 1) q h)
theorem xk_ent_len (ad : Nat → Nat) : ∀ vs : List Value, (lg_sl (vs.map (xk_v ad))).length = (xk_ent vs).length
  | [] => rfl
  | v :: vs => by
    have ih := xk_ent_len ad vs
    by_cases hc : v.category = 2
    · simp [lg_sl, xk_ent, xk_cat, hc] at ih ⊢
      omega
    · simp [lg_sl, xk_ent, xk_cat, hc] at ih ⊢
      omega
theorem xk_ent_ok (n k : Nat) : ∀ vs : List Value, xk_okS n vs → xk_okL n (xk_ent vs ++ List.replicate k none)
  | [], _ => fun v hv => by simp [xk_ent] at hv
  | v :: vs, h => by
    have ih := xk_ent_ok n k vs (xk_tl h)
    intro w hw
    by_cases hc : v.category = 2
    · rw [xk_ent, if_pos hc] at hw
      simp only [List.cons_append, List.mem_cons, reduceCtorEq, false_or, Option.some.injEq] at hw
      rcases hw with rfl | hw
      · exact xk_hd h
      · exact ih w hw
    · rw [xk_ent, if_neg hc] at hw
      simp only [List.cons_append, List.mem_cons, Option.some.injEq] at hw
      rcases hw with rfl | hw
      · exact xk_hd h
      · exact ih w hw
theorem xk_Y.ofX {d mc ms : Nat} {M : xk_M} {al : Bool} {av : List Value} {hs : xk_H} {out : Option Value → xk_H → Prop} {k : Nat} {ls : List (Option Value)} (hy : plainName M.1.cls = true) (hl : xk_ent av ++ List.replicate k none = ls) (hn : (xk_ent av).length + k = M.2.2.1) (h : xk_X d mc ms M (xk_fx al hs) out 0 0 0 ls [] hs) : xk_Y d mc ms M al av hs out := by
  intro O l G ad sz
  refine Met.ofW (cc := M.2.1) (maxL := M.2.2.1) (ret := M.2.2.2) hy rfl ?_
  intro p e s m args below meth c s₁ B hml hv
  obtain ⟨rfl, hsz, hP, hD0, hK⟩ := hv
  subst hsz
  have hts := atoms_spec (ws := xk_ws M) B.pre
  have hD := hD0.self (sz := s.heap.size)
  have h0 : (lg_sl (av.map (xk_v ad))).length ≤ M.2.2.1 := by rw [xk_ent_len]; omega
  have hle := lv_entry (av.map (xk_v ad)) (n := M.2.2.1) h0
  rw [lg_entry_eq]
  refine h G ad ad p l e s m _ below meth c _ s.heap [] _ ⟨B.exec, B.bytes, hml, B.returns, fun w hw => hts w (List.mem_cons_of_mem _ hw), findClass_of_methodNamed B.named, B.notSynchronized, (name_of_methodNamed B.named B.method).1, fun q hq => Or.inr hq, hK⟩ (fun _ _ => rfl) hP hD va_S.rf ⟨hle.1, hle.2.1, fun q hq => hle.2.2 q ?_⟩ ⟨by rw [← hl]; exact xk_ent_ok _ k av O.2.1, fun v hv => absurd hv List.not_mem_nil, O.2.2⟩
  rw [← hl] at hq
  exact xk_ent_mem ad k av 0 q hq
section XKR
variable {d mc ms : Nat} {M : xk_M} {fx : Nat → Prop} {out : Option Value → xk_H → Prop} {cs ss pc : Nat} {ls : List (Option Value)} {st : List Value} {hs : xk_H}
/-- with fewer known locals -/
theorem xk_sub {ls' : List (Option Value)} (k : xk_X d mc ms M fx out cs ss pc ls' st hs) (h : xk_le ls' ls) : xk_X d mc ms M fx out cs ss pc ls st hs :=
  fun G ad0 ad p l e s m args below meth c A H locs la C hf hP hD hS hl O => k G ad0 ad p l e s m args below meth c A H locs la C hf hP hD hS ⟨hl.1, hl.2.1, fun q hq => by
    obtain ⟨j, v, h1, rfl⟩ := (xk_l_mem ad _ 0 q).mp hq
    rw [Nat.zero_add]
    exact xk_l_at hl (xk_le_at _ _ h j v h1)⟩ ⟨fun v hv => by
    obtain ⟨j, hj⟩ := List.getElem?_of_mem hv
    exact xk_okL_at O.1 (xk_le_at _ _ h j v hj), O.2⟩
theorem xk_pc {pc' : Nat} (h : pc' = pc) (k : xk_X d mc ms M fx out cs ss pc' ls st hs) : xk_X d mc ms M fx out cs ss pc ls st hs := h ▸ k
theorem xk_iconst {n : Int} (v : Int32) (hd : decode M.2.1 pc = .ok (.iconst n, 1)) (hv : Int32.ofInt n = v) (k : xk_X d mc ms M fx out cs ss (pc + 1) ls (.int v :: st) hs) : xk_X d mc ms M fx out cs ss pc ls st hs :=
  fun G ad0 ad p l e s m args below meth c A H locs la C hf hP hD hS hl O => lv_iconst C.1 C.2.1 hd hv (k G ad0 ad p l e s m args below meth c A H locs la C hf hP hD hS hl ⟨O.1, (xk_cs trivial O.2.1), O.2.2⟩)
theorem xk_bipush {n : Int} (v : Int32) (hd : decode M.2.1 pc = .ok (.bipush n, 2)) (hv : (Int8.ofInt n).toInt32 = v) (k : xk_X d mc ms M fx out cs ss (pc + 2) ls (.int v :: st) hs) : xk_X d mc ms M fx out cs ss pc ls st hs :=
  fun G ad0 ad p l e s m args below meth c A H locs la C hf hP hD hS hl O => lv_bipush C.1 C.2.1 hd hv (k G ad0 ad p l e s m args below meth c A H locs la C hf hP hD hS hl ⟨O.1, (xk_cs trivial O.2.1), O.2.2⟩)
theorem xk_sipush {n : Int} (v : Int32) (hd : decode M.2.1 pc = .ok (.sipush n, 3)) (hv : (Int16.ofInt n).toInt32 = v) (k : xk_X d mc ms M fx out cs ss (pc + 3) ls (.int v :: st) hs) : xk_X d mc ms M fx out cs ss pc ls st hs :=
  fun G ad0 ad p l e s m args below meth c A H locs la C hf hP hD hS hl O => lv_sipush C.1 C.2.1 hd hv (k G ad0 ad p l e s m args below meth c A H locs la C hf hP hD hS hl ⟨O.1, (xk_cs trivial O.2.1), O.2.2⟩)
theorem xk_lconst {n : Fin 2} (v : Int64) (hd : decode M.2.1 pc = .ok (.lconst n, 1)) (hv : Int64.ofNat (n : Nat) = v) (k : xk_X d mc ms M fx out cs ss (pc + 1) ls (.long v :: st) hs) : xk_X d mc ms M fx out cs ss pc ls st hs :=
  fun G ad0 ad p l e s m args below meth c A H locs la C hf hP hD hS hl O => lv_lconst C.1 C.2.1 hd hv (k G ad0 ad p l e s m args below meth c A H locs la C hf hP hD hS hl ⟨O.1, (xk_cs trivial O.2.1), O.2.2⟩)
theorem xk_ldc2 {i : Nat} {v : Int64} (hd : decode M.2.1 pc = .ok (.ldc2_w i, 3)) (hw : Cond.constantLong M.1.cls i v ∈ xk_WS) (k : xk_X d mc ms M fx out cs ss (pc + 3) ls (.long v :: st) hs) : xk_X d mc ms M fx out cs ss pc ls st hs :=
  fun G ad0 ad p l e s m args below meth c A H locs la C hf hP hD hS hl O => lv_ldc2 C.1 C.2.1 C.2.2.2.2.2.1 (C.2.2.2.2.1 _ hw) hd (k G ad0 ad p l e s m args below meth c A H locs la C hf hP hD hS hl ⟨O.1, (xk_cs trivial O.2.1), O.2.2⟩)
theorem xk_iload_n {k : Fin 4} {x : Int32} (hd : decode M.2.1 pc = .ok (.iload_n k, 1)) (hv : ls[(k : Nat)]? = some (some (.int x))) (kk : xk_X d mc ms M fx out cs ss (pc + 1) ls (.int x :: st) hs) : xk_X d mc ms M fx out cs ss pc ls st hs :=
  fun G ad0 ad p l e s m args below meth c A H locs la C hf hP hD hS hl O => lv_iload_n C.1 C.2.1 hd rfl (xk_l_at hl hv) (kk G ad0 ad p l e s m args below meth c A H locs la C hf hP hD hS hl ⟨O.1, (xk_cs trivial O.2.1), O.2.2⟩)
theorem xk_iload {i : Nat} {x : Int32} (hd : decode M.2.1 pc = .ok (.iload i, 2)) (hv : ls[i]? = some (some (.int x))) (k : xk_X d mc ms M fx out cs ss (pc + 2) ls (.int x :: st) hs) : xk_X d mc ms M fx out cs ss pc ls st hs :=
  fun G ad0 ad p l e s m args below meth c A H locs la C hf hP hD hS hl O => lv_iload C.1 C.2.1 hd (xk_l_at hl hv) (k G ad0 ad p l e s m args below meth c A H locs la C hf hP hD hS hl ⟨O.1, (xk_cs trivial O.2.1), O.2.2⟩)
theorem xk_lload_n {k : Fin 4} {x : Int64} (hd : decode M.2.1 pc = .ok (.lload_n k, 1)) (hv : ls[(k : Nat)]? = some (some (.long x))) (kk : xk_X d mc ms M fx out cs ss (pc + 1) ls (.long x :: st) hs) : xk_X d mc ms M fx out cs ss pc ls st hs :=
  fun G ad0 ad p l e s m args below meth c A H locs la C hf hP hD hS hl O => lv_lload_n C.1 C.2.1 hd rfl (xk_l_at hl hv) (kk G ad0 ad p l e s m args below meth c A H locs la C hf hP hD hS hl ⟨O.1, (xk_cs trivial O.2.1), O.2.2⟩)
theorem xk_lload {i : Nat} {x : Int64} (hd : decode M.2.1 pc = .ok (.lload i, 2)) (hv : ls[i]? = some (some (.long x))) (k : xk_X d mc ms M fx out cs ss (pc + 2) ls (.long x :: st) hs) : xk_X d mc ms M fx out cs ss pc ls st hs :=
  fun G ad0 ad p l e s m args below meth c A H locs la C hf hP hD hS hl O => lv_lload C.1 C.2.1 hd (xk_l_at hl hv) (k G ad0 ad p l e s m args below meth c A H locs la C hf hP hD hS hl ⟨O.1, (xk_cs trivial O.2.1), O.2.2⟩)
theorem xk_aload_n {k : Fin 4} {a : Nat} (hd : decode M.2.1 pc = .ok (.aload_n k, 1)) (hv : ls[(k : Nat)]? = some (some (.ref a))) (kk : xk_X d mc ms M fx out cs ss (pc + 1) ls (.ref a :: st) hs) : xk_X d mc ms M fx out cs ss pc ls st hs :=
  fun G ad0 ad p l e s m args below meth c A H locs la C hf hP hD hS hl O => lv_aload_n C.1 C.2.1 hd rfl (xk_l_at hl hv) (kk G ad0 ad p l e s m args below meth c A H locs la C hf hP hD hS hl ⟨O.1, (xk_cs (xk_okL_at O.1 hv) O.2.1), O.2.2⟩)
theorem xk_aload {i : Nat} {a : Nat} (hd : decode M.2.1 pc = .ok (.aload i, 2)) (hv : ls[i]? = some (some (.ref a))) (kk : xk_X d mc ms M fx out cs ss (pc + 2) ls (.ref a :: st) hs) : xk_X d mc ms M fx out cs ss pc ls st hs :=
  fun G ad0 ad p l e s m args below meth c A H locs la C hf hP hD hS hl O => lv_aload C.1 C.2.1 hd (xk_l_at hl hv) (kk G ad0 ad p l e s m args below meth c A H locs la C hf hP hD hS hl ⟨O.1, (xk_cs (xk_okL_at O.1 hv) O.2.1), O.2.2⟩)
theorem xk_istore_n {k : Fin 4} {x : Int32} (hd : decode M.2.1 pc = .ok (.istore_n k, 1)) (hn : (k : Nat) < M.2.2.1) (kk : xk_X d mc ms M fx out cs ss (pc + 1) (xk_s1 ls (k : Nat) (.int x)) st hs) : xk_X d mc ms M fx out cs ss pc ls (.int x :: st) hs :=
  fun G ad0 ad p l e s m args below meth c A H locs la C hf hP hD hS hl O => lv_istore_n C.1 C.2.1 hd rfl hl hn rfl (fun la hl => kk G ad0 ad p l e s m args below meth c A H locs la C hf hP hD hS (xk_l_s1 (v := .int x) hl) ⟨xk_okL_s1 O.1 (xk_hd O.2.1), xk_tl O.2.1, O.2.2⟩)
theorem xk_istore {i : Nat} {x : Int32} (hd : decode M.2.1 pc = .ok (.istore i, 2)) (hn : i < M.2.2.1) (kk : xk_X d mc ms M fx out cs ss (pc + 2) (xk_s1 ls i (.int x)) st hs) : xk_X d mc ms M fx out cs ss pc ls (.int x :: st) hs :=
  fun G ad0 ad p l e s m args below meth c A H locs la C hf hP hD hS hl O => lv_istore C.1 C.2.1 hd hl hn rfl (fun la hl => kk G ad0 ad p l e s m args below meth c A H locs la C hf hP hD hS (xk_l_s1 (v := .int x) hl) ⟨xk_okL_s1 O.1 (xk_hd O.2.1), xk_tl O.2.1, O.2.2⟩)
theorem xk_lstore_n {k : Fin 4} {x : Int64} (hd : decode M.2.1 pc = .ok (.lstore_n k, 1)) (hn : (k : Nat) + 1 < M.2.2.1) (kk : xk_X d mc ms M fx out cs ss (pc + 1) (xk_s2 ls (k : Nat) (.long x)) st hs) : xk_X d mc ms M fx out cs ss pc ls (.long x :: st) hs :=
  fun G ad0 ad p l e s m args below meth c A H locs la C hf hP hD hS hl O => lv_lstore_n C.1 C.2.1 hd rfl hl hn rfl (fun la hl => kk G ad0 ad p l e s m args below meth c A H locs la C hf hP hD hS (xk_l_s2 (v := .long x) hl) ⟨xk_okL_s2 O.1 (xk_hd O.2.1), xk_tl O.2.1, O.2.2⟩)
theorem xk_lstore {i : Nat} {x : Int64} (hd : decode M.2.1 pc = .ok (.lstore i, 2)) (hn : i + 1 < M.2.2.1) (kk : xk_X d mc ms M fx out cs ss (pc + 2) (xk_s2 ls i (.long x)) st hs) : xk_X d mc ms M fx out cs ss pc ls (.long x :: st) hs :=
  fun G ad0 ad p l e s m args below meth c A H locs la C hf hP hD hS hl O => lv_lstore C.1 C.2.1 hd hl hn rfl (fun la hl => kk G ad0 ad p l e s m args below meth c A H locs la C hf hP hD hS (xk_l_s2 (v := .long x) hl) ⟨xk_okL_s2 O.1 (xk_hd O.2.1), xk_tl O.2.1, O.2.2⟩)
theorem xk_astore_n {k : Fin 4} {x : Nat} (hd : decode M.2.1 pc = .ok (.astore_n k, 1)) (hn : (k : Nat) < M.2.2.1) (kk : xk_X d mc ms M fx out cs ss (pc + 1) (xk_s1 ls (k : Nat) (.ref x)) st hs) : xk_X d mc ms M fx out cs ss pc ls (.ref x :: st) hs :=
  fun G ad0 ad p l e s m args below meth c A H locs la C hf hP hD hS hl O => lv_astore_n C.1 C.2.1 hd rfl hl hn rfl (fun la hl => kk G ad0 ad p l e s m args below meth c A H locs la C hf hP hD hS (xk_l_s1 (v := .ref x) hl) ⟨xk_okL_s1 O.1 (xk_hd O.2.1), xk_tl O.2.1, O.2.2⟩)
theorem xk_astore {i : Nat} {x : Nat} (hd : decode M.2.1 pc = .ok (.astore i, 2)) (hn : i < M.2.2.1) (kk : xk_X d mc ms M fx out cs ss (pc + 2) (xk_s1 ls i (.ref x)) st hs) : xk_X d mc ms M fx out cs ss pc ls (.ref x :: st) hs :=
  fun G ad0 ad p l e s m args below meth c A H locs la C hf hP hD hS hl O => lv_astore C.1 C.2.1 hd hl hn rfl (fun la hl => kk G ad0 ad p l e s m args below meth c A H locs la C hf hP hD hS (xk_l_s1 (v := .ref x) hl) ⟨xk_okL_s1 O.1 (xk_hd O.2.1), xk_tl O.2.1, O.2.2⟩)
theorem xk_iinc {i : Nat} {n : Int} {x : Int32} (v : Int32) (hd : decode M.2.1 pc = .ok (.iinc i n, 3)) (hx : ls[i]? = some (some (.int x))) (hv : x + Int32.ofInt n = v) (hn : i < M.2.2.1) (kk : xk_X d mc ms M fx out cs ss (pc + 3) (xk_s1 ls i (.int v)) st hs) : xk_X d mc ms M fx out cs ss pc ls st hs :=
  fun G ad0 ad p l e s m args below meth c A H locs la C hf hP hD hS hl O => by
    obtain ⟨j, hj⟩ := List.getElem?_of_mem ((xk_l_mem ad ls 0 (i, .int x)).mpr ⟨i, .int x, hx, by rw [Nat.zero_add]; rfl⟩)
    exact lv_iinc (k := j) C.1 C.2.1 hd hl hj hv hn rfl (fun la hl => kk G ad0 ad p l e s m args below meth c A H locs la C hf hP hD hS (xk_l_s1 (v := .int v) hl) ⟨xk_okL_s1 O.1 trivial, O.2⟩)
theorem xk_iadd {x y : Int32} (hd : decode M.2.1 pc = .ok (.iadd, 1)) (kk : xk_X d mc ms M fx out cs ss (pc + 1) ls (.int (x + y) :: st) hs) : xk_X d mc ms M fx out cs ss pc ls (.int y :: .int x :: st) hs :=
  fun G ad0 ad p l e s m args below meth c A H locs la C hf hP hD hS hl O => lv_iadd C.1 C.2.1 hd (kk G ad0 ad p l e s m args below meth c A H locs la C hf hP hD hS hl ⟨O.1, (xk_cs trivial (xk_tl (xk_tl O.2.1))), O.2.2⟩)
theorem xk_isub {x y : Int32} (hd : decode M.2.1 pc = .ok (.isub, 1)) (kk : xk_X d mc ms M fx out cs ss (pc + 1) ls (.int (x - y) :: st) hs) : xk_X d mc ms M fx out cs ss pc ls (.int y :: .int x :: st) hs :=
  fun G ad0 ad p l e s m args below meth c A H locs la C hf hP hD hS hl O => lv_isub C.1 C.2.1 hd (kk G ad0 ad p l e s m args below meth c A H locs la C hf hP hD hS hl ⟨O.1, (xk_cs trivial (xk_tl (xk_tl O.2.1))), O.2.2⟩)
theorem xk_imul {x y : Int32} (hd : decode M.2.1 pc = .ok (.imul, 1)) (kk : xk_X d mc ms M fx out cs ss (pc + 1) ls (.int (x * y) :: st) hs) : xk_X d mc ms M fx out cs ss pc ls (.int y :: .int x :: st) hs :=
  fun G ad0 ad p l e s m args below meth c A H locs la C hf hP hD hS hl O => lv_imul C.1 C.2.1 hd (kk G ad0 ad p l e s m args below meth c A H locs la C hf hP hD hS hl ⟨O.1, (xk_cs trivial (xk_tl (xk_tl O.2.1))), O.2.2⟩)
theorem xk_iand {x y : Int32} (hd : decode M.2.1 pc = .ok (.iand, 1)) (kk : xk_X d mc ms M fx out cs ss (pc + 1) ls (.int (x &&& y) :: st) hs) : xk_X d mc ms M fx out cs ss pc ls (.int y :: .int x :: st) hs :=
  fun G ad0 ad p l e s m args below meth c A H locs la C hf hP hD hS hl O => lv_iand C.1 C.2.1 hd (kk G ad0 ad p l e s m args below meth c A H locs la C hf hP hD hS hl ⟨O.1, (xk_cs trivial (xk_tl (xk_tl O.2.1))), O.2.2⟩)
theorem xk_ior {x y : Int32} (hd : decode M.2.1 pc = .ok (.ior, 1)) (kk : xk_X d mc ms M fx out cs ss (pc + 1) ls (.int (x ||| y) :: st) hs) : xk_X d mc ms M fx out cs ss pc ls (.int y :: .int x :: st) hs :=
  fun G ad0 ad p l e s m args below meth c A H locs la C hf hP hD hS hl O => lv_ior C.1 C.2.1 hd (kk G ad0 ad p l e s m args below meth c A H locs la C hf hP hD hS hl ⟨O.1, (xk_cs trivial (xk_tl (xk_tl O.2.1))), O.2.2⟩)
theorem xk_ixor {x y : Int32} (hd : decode M.2.1 pc = .ok (.ixor, 1)) (kk : xk_X d mc ms M fx out cs ss (pc + 1) ls (.int (x ^^^ y) :: st) hs) : xk_X d mc ms M fx out cs ss pc ls (.int y :: .int x :: st) hs :=
  fun G ad0 ad p l e s m args below meth c A H locs la C hf hP hD hS hl O => lv_ixor C.1 C.2.1 hd (kk G ad0 ad p l e s m args below meth c A H locs la C hf hP hD hS hl ⟨O.1, (xk_cs trivial (xk_tl (xk_tl O.2.1))), O.2.2⟩)
theorem xk_ladd {x y : Int64} (hd : decode M.2.1 pc = .ok (.ladd, 1)) (kk : xk_X d mc ms M fx out cs ss (pc + 1) ls (.long (x + y) :: st) hs) : xk_X d mc ms M fx out cs ss pc ls (.long y :: .long x :: st) hs :=
  fun G ad0 ad p l e s m args below meth c A H locs la C hf hP hD hS hl O => lv_ladd C.1 C.2.1 hd (kk G ad0 ad p l e s m args below meth c A H locs la C hf hP hD hS hl ⟨O.1, (xk_cs trivial (xk_tl (xk_tl O.2.1))), O.2.2⟩)
theorem xk_lsub {x y : Int64} (hd : decode M.2.1 pc = .ok (.lsub, 1)) (kk : xk_X d mc ms M fx out cs ss (pc + 1) ls (.long (x - y) :: st) hs) : xk_X d mc ms M fx out cs ss pc ls (.long y :: .long x :: st) hs :=
  fun G ad0 ad p l e s m args below meth c A H locs la C hf hP hD hS hl O => lv_lsub C.1 C.2.1 hd (kk G ad0 ad p l e s m args below meth c A H locs la C hf hP hD hS hl ⟨O.1, (xk_cs trivial (xk_tl (xk_tl O.2.1))), O.2.2⟩)
theorem xk_lmul {x y : Int64} (hd : decode M.2.1 pc = .ok (.lmul, 1)) (kk : xk_X d mc ms M fx out cs ss (pc + 1) ls (.long (x * y) :: st) hs) : xk_X d mc ms M fx out cs ss pc ls (.long y :: .long x :: st) hs :=
  fun G ad0 ad p l e s m args below meth c A H locs la C hf hP hD hS hl O => lv_lmul C.1 C.2.1 hd (kk G ad0 ad p l e s m args below meth c A H locs la C hf hP hD hS hl ⟨O.1, (xk_cs trivial (xk_tl (xk_tl O.2.1))), O.2.2⟩)
theorem xk_land {x y : Int64} (hd : decode M.2.1 pc = .ok (.land, 1)) (kk : xk_X d mc ms M fx out cs ss (pc + 1) ls (.long (x &&& y) :: st) hs) : xk_X d mc ms M fx out cs ss pc ls (.long y :: .long x :: st) hs :=
  fun G ad0 ad p l e s m args below meth c A H locs la C hf hP hD hS hl O => lv_land C.1 C.2.1 hd (kk G ad0 ad p l e s m args below meth c A H locs la C hf hP hD hS hl ⟨O.1, (xk_cs trivial (xk_tl (xk_tl O.2.1))), O.2.2⟩)
theorem xk_lor {x y : Int64} (hd : decode M.2.1 pc = .ok (.lor, 1)) (kk : xk_X d mc ms M fx out cs ss (pc + 1) ls (.long (x ||| y) :: st) hs) : xk_X d mc ms M fx out cs ss pc ls (.long y :: .long x :: st) hs :=
  fun G ad0 ad p l e s m args below meth c A H locs la C hf hP hD hS hl O => lv_lor C.1 C.2.1 hd (kk G ad0 ad p l e s m args below meth c A H locs la C hf hP hD hS hl ⟨O.1, (xk_cs trivial (xk_tl (xk_tl O.2.1))), O.2.2⟩)
theorem xk_lxor {x y : Int64} (hd : decode M.2.1 pc = .ok (.lxor, 1)) (kk : xk_X d mc ms M fx out cs ss (pc + 1) ls (.long (x ^^^ y) :: st) hs) : xk_X d mc ms M fx out cs ss pc ls (.long y :: .long x :: st) hs :=
  fun G ad0 ad p l e s m args below meth c A H locs la C hf hP hD hS hl O => lv_lxor C.1 C.2.1 hd (kk G ad0 ad p l e s m args below meth c A H locs la C hf hP hD hS hl ⟨O.1, (xk_cs trivial (xk_tl (xk_tl O.2.1))), O.2.2⟩)
theorem xk_idiv {x y : Int32} (hd : decode M.2.1 pc = .ok (.idiv, 1)) (hne : ¬ y = 0) (kk : xk_X d mc ms M fx out cs ss (pc + 1) ls (.int (x / y) :: st) hs) : xk_X d mc ms M fx out cs ss pc ls (.int y :: .int x :: st) hs :=
  fun G ad0 ad p l e s m args below meth c A H locs la C hf hP hD hS hl O => lv_idiv C.1 C.2.1 hd hne (kk G ad0 ad p l e s m args below meth c A H locs la C hf hP hD hS hl ⟨O.1, (xk_cs trivial (xk_tl (xk_tl O.2.1))), O.2.2⟩)
theorem xk_irem {x y : Int32} (hd : decode M.2.1 pc = .ok (.irem, 1)) (hne : ¬ y = 0) (kk : xk_X d mc ms M fx out cs ss (pc + 1) ls (.int (x - x / y * y) :: st) hs) : xk_X d mc ms M fx out cs ss pc ls (.int y :: .int x :: st) hs :=
  fun G ad0 ad p l e s m args below meth c A H locs la C hf hP hD hS hl O => lv_irem C.1 C.2.1 hd hne (kk G ad0 ad p l e s m args below meth c A H locs la C hf hP hD hS hl ⟨O.1, (xk_cs trivial (xk_tl (xk_tl O.2.1))), O.2.2⟩)
theorem xk_ldiv {x y : Int64} (hd : decode M.2.1 pc = .ok (.ldiv, 1)) (hne : ¬ y = 0) (kk : xk_X d mc ms M fx out cs ss (pc + 1) ls (.long (x / y) :: st) hs) : xk_X d mc ms M fx out cs ss pc ls (.long y :: .long x :: st) hs :=
  fun G ad0 ad p l e s m args below meth c A H locs la C hf hP hD hS hl O => lv_ldiv C.1 C.2.1 hd hne (kk G ad0 ad p l e s m args below meth c A H locs la C hf hP hD hS hl ⟨O.1, (xk_cs trivial (xk_tl (xk_tl O.2.1))), O.2.2⟩)
theorem xk_lrem {x y : Int64} (hd : decode M.2.1 pc = .ok (.lrem, 1)) (hne : ¬ y = 0) (kk : xk_X d mc ms M fx out cs ss (pc + 1) ls (.long (x - x / y * y) :: st) hs) : xk_X d mc ms M fx out cs ss pc ls (.long y :: .long x :: st) hs :=
  fun G ad0 ad p l e s m args below meth c A H locs la C hf hP hD hS hl O => lv_lrem C.1 C.2.1 hd hne (kk G ad0 ad p l e s m args below meth c A H locs la C hf hP hD hS hl ⟨O.1, (xk_cs trivial (xk_tl (xk_tl O.2.1))), O.2.2⟩)
theorem xk_ishl {x y : Int32} (hd : decode M.2.1 pc = .ok (.ishl, 1)) (kk : xk_X d mc ms M fx out cs ss (pc + 1) ls (.int (x <<< (y &&& 31)) :: st) hs) : xk_X d mc ms M fx out cs ss pc ls (.int y :: .int x :: st) hs :=
  fun G ad0 ad p l e s m args below meth c A H locs la C hf hP hD hS hl O => lv_ishl C.1 C.2.1 hd (kk G ad0 ad p l e s m args below meth c A H locs la C hf hP hD hS hl ⟨O.1, (xk_cs trivial (xk_tl (xk_tl O.2.1))), O.2.2⟩)
theorem xk_ishr {x y : Int32} (hd : decode M.2.1 pc = .ok (.ishr, 1)) (kk : xk_X d mc ms M fx out cs ss (pc + 1) ls (.int (x >>> (y &&& 31)) :: st) hs) : xk_X d mc ms M fx out cs ss pc ls (.int y :: .int x :: st) hs :=
  fun G ad0 ad p l e s m args below meth c A H locs la C hf hP hD hS hl O => lv_ishr C.1 C.2.1 hd (kk G ad0 ad p l e s m args below meth c A H locs la C hf hP hD hS hl ⟨O.1, (xk_cs trivial (xk_tl (xk_tl O.2.1))), O.2.2⟩)
theorem xk_iushr {x y : Int32} (hd : decode M.2.1 pc = .ok (.iushr, 1)) (kk : xk_X d mc ms M fx out cs ss (pc + 1) ls (.int ((x.toUInt32 >>> (y.toUInt32 &&& Int32.toUInt32 31)).toInt32) :: st) hs) : xk_X d mc ms M fx out cs ss pc ls (.int y :: .int x :: st) hs :=
  fun G ad0 ad p l e s m args below meth c A H locs la C hf hP hD hS hl O => lv_iushr C.1 C.2.1 hd rfl (kk G ad0 ad p l e s m args below meth c A H locs la C hf hP hD hS hl ⟨O.1, (xk_cs trivial (xk_tl (xk_tl O.2.1))), O.2.2⟩)
theorem xk_lushr {x : Int64} {y : Int32} (hd : decode M.2.1 pc = .ok (.lushr, 1)) (kk : xk_X d mc ms M fx out cs ss (pc + 1) ls (.long ((x.toUInt64 >>> (y.toInt64.toUInt64 &&& Int64.toUInt64 63)).toInt64) :: st) hs) : xk_X d mc ms M fx out cs ss pc ls (.int y :: .long x :: st) hs :=
  fun G ad0 ad p l e s m args below meth c A H locs la C hf hP hD hS hl O => lv_lushr C.1 C.2.1 hd rfl (kk G ad0 ad p l e s m args below meth c A H locs la C hf hP hD hS hl ⟨O.1, (xk_cs trivial (xk_tl (xk_tl O.2.1))), O.2.2⟩)
theorem xk_lshl {x : Int64} {y : Int32} (hd : decode M.2.1 pc = .ok (.lshl, 1)) (kk : xk_X d mc ms M fx out cs ss (pc + 1) ls (.long (x <<< (y.toInt64 &&& 63)) :: st) hs) : xk_X d mc ms M fx out cs ss pc ls (.int y :: .long x :: st) hs :=
  fun G ad0 ad p l e s m args below meth c A H locs la C hf hP hD hS hl O => lv_lshl C.1 C.2.1 hd rfl (kk G ad0 ad p l e s m args below meth c A H locs la C hf hP hD hS hl ⟨O.1, (xk_cs trivial (xk_tl (xk_tl O.2.1))), O.2.2⟩)
theorem xk_i2l {x : Int32} (hd : decode M.2.1 pc = .ok (.i2l, 1)) (kk : xk_X d mc ms M fx out cs ss (pc + 1) ls (.long x.toInt64 :: st) hs) : xk_X d mc ms M fx out cs ss pc ls (.int x :: st) hs :=
  fun G ad0 ad p l e s m args below meth c A H locs la C hf hP hD hS hl O => lv_i2l C.1 C.2.1 hd rfl (kk G ad0 ad p l e s m args below meth c A H locs la C hf hP hD hS hl ⟨O.1, (xk_cs trivial (xk_tl O.2.1)), O.2.2⟩)
theorem xk_l2i {x : Int64} (hd : decode M.2.1 pc = .ok (.l2i, 1)) (kk : xk_X d mc ms M fx out cs ss (pc + 1) ls (.int x.toInt32 :: st) hs) : xk_X d mc ms M fx out cs ss pc ls (.long x :: st) hs :=
  fun G ad0 ad p l e s m args below meth c A H locs la C hf hP hD hS hl O => lv_l2i C.1 C.2.1 hd rfl (kk G ad0 ad p l e s m args below meth c A H locs la C hf hP hD hS hl ⟨O.1, (xk_cs trivial (xk_tl O.2.1)), O.2.2⟩)
theorem xk_lcmp {x y : Int64} (hd : decode M.2.1 pc = .ok (.lcmp, 1)) (kk : xk_X d mc ms M fx out cs ss (pc + 1) ls (.int (lg_cmp x y) :: st) hs) : xk_X d mc ms M fx out cs ss pc ls (.long y :: .long x :: st) hs :=
  fun G ad0 ad p l e s m args below meth c A H locs la C hf hP hD hS hl O => W.lcmp C.1 C.2.1 hd (kk G ad0 ad p l e s m args below meth c A H locs la C hf hP hD hS hl ⟨O.1, (xk_cs trivial (xk_tl (xk_tl O.2.1))), O.2.2⟩)
theorem xk_dup {v : Value} (hd : decode M.2.1 pc = .ok (.dup, 1)) (hc : v.category = 1) (kk : xk_X d mc ms M fx out cs ss (pc + 1) ls (v :: v :: st) hs) : xk_X d mc ms M fx out cs ss pc ls (v :: st) hs :=
  fun G ad0 ad p l e s m args below meth c A H locs la C hf hP hD hS hl O => lv_dup C.1 C.2.1 hd ((xk_cat ad v).trans hc) (kk G ad0 ad p l e s m args below meth c A H locs la C hf hP hD hS hl ⟨O.1, (xk_cs (xk_hd O.2.1) (xk_cs (xk_hd O.2.1) (xk_tl O.2.1))), O.2.2⟩)
theorem xk_if_eq {x : Int32} {off : Int} (tgt : Nat) (hd : decode M.2.1 pc = .ok (.ifCond .eq off, 3)) (ht : (pc : Int) + off = (tgt : Int)) (kt : (x = 0) → xk_X d mc ms M fx out cs ss tgt ls st hs) (kf : (¬ x = 0) → xk_X d mc ms M fx out cs ss (pc + 3) ls st hs) : xk_X d mc ms M fx out cs ss pc ls (.int x :: st) hs :=
  fun G ad0 ad p l e s m args below meth c A H locs la C hf hP hD hS hl O => lv_if_eq C.1 C.2.1 hd ht (fun q => kt q G ad0 ad p l e s m args below meth c A H locs la C hf hP hD hS hl ⟨O.1, xk_tl (O.2.1), O.2.2⟩) (fun q => kf q G ad0 ad p l e s m args below meth c A H locs la C hf hP hD hS hl ⟨O.1, xk_tl (O.2.1), O.2.2⟩)
theorem xk_icmp_eq {x y : Int32} {off : Int} (tgt : Nat) (hd : decode M.2.1 pc = .ok (.if_icmp .eq off, 3)) (ht : (pc : Int) + off = (tgt : Int)) (kt : (x = y) → xk_X d mc ms M fx out cs ss tgt ls st hs) (kf : (¬ x = y) → xk_X d mc ms M fx out cs ss (pc + 3) ls st hs) : xk_X d mc ms M fx out cs ss pc ls (.int y :: .int x :: st) hs :=
  fun G ad0 ad p l e s m args below meth c A H locs la C hf hP hD hS hl O => lv_icmp_eq C.1 C.2.1 hd ht (fun q => kt q G ad0 ad p l e s m args below meth c A H locs la C hf hP hD hS hl ⟨O.1, xk_tl (xk_tl (O.2.1)), O.2.2⟩) (fun q => kf q G ad0 ad p l e s m args below meth c A H locs la C hf hP hD hS hl ⟨O.1, xk_tl (xk_tl (O.2.1)), O.2.2⟩)
theorem xk_if_ne {x : Int32} {off : Int} (tgt : Nat) (hd : decode M.2.1 pc = .ok (.ifCond .ne off, 3)) (ht : (pc : Int) + off = (tgt : Int)) (kt : (¬ x = 0) → xk_X d mc ms M fx out cs ss tgt ls st hs) (kf : (x = 0) → xk_X d mc ms M fx out cs ss (pc + 3) ls st hs) : xk_X d mc ms M fx out cs ss pc ls (.int x :: st) hs :=
  fun G ad0 ad p l e s m args below meth c A H locs la C hf hP hD hS hl O => lv_if_ne C.1 C.2.1 hd ht (fun q => kt q G ad0 ad p l e s m args below meth c A H locs la C hf hP hD hS hl ⟨O.1, xk_tl (O.2.1), O.2.2⟩) (fun q => kf q G ad0 ad p l e s m args below meth c A H locs la C hf hP hD hS hl ⟨O.1, xk_tl (O.2.1), O.2.2⟩)
theorem xk_icmp_ne {x y : Int32} {off : Int} (tgt : Nat) (hd : decode M.2.1 pc = .ok (.if_icmp .ne off, 3)) (ht : (pc : Int) + off = (tgt : Int)) (kt : (¬ x = y) → xk_X d mc ms M fx out cs ss tgt ls st hs) (kf : (x = y) → xk_X d mc ms M fx out cs ss (pc + 3) ls st hs) : xk_X d mc ms M fx out cs ss pc ls (.int y :: .int x :: st) hs :=
  fun G ad0 ad p l e s m args below meth c A H locs la C hf hP hD hS hl O => lv_icmp_ne C.1 C.2.1 hd ht (fun q => kt q G ad0 ad p l e s m args below meth c A H locs la C hf hP hD hS hl ⟨O.1, xk_tl (xk_tl (O.2.1)), O.2.2⟩) (fun q => kf q G ad0 ad p l e s m args below meth c A H locs la C hf hP hD hS hl ⟨O.1, xk_tl (xk_tl (O.2.1)), O.2.2⟩)
theorem xk_if_lt {x : Int32} {off : Int} (tgt : Nat) (hd : decode M.2.1 pc = .ok (.ifCond .lt off, 3)) (ht : (pc : Int) + off = (tgt : Int)) (kt : (x < 0) → xk_X d mc ms M fx out cs ss tgt ls st hs) (kf : (¬ x < 0) → xk_X d mc ms M fx out cs ss (pc + 3) ls st hs) : xk_X d mc ms M fx out cs ss pc ls (.int x :: st) hs :=
  fun G ad0 ad p l e s m args below meth c A H locs la C hf hP hD hS hl O => lv_if_lt C.1 C.2.1 hd ht (fun q => kt q G ad0 ad p l e s m args below meth c A H locs la C hf hP hD hS hl ⟨O.1, xk_tl (O.2.1), O.2.2⟩) (fun q => kf q G ad0 ad p l e s m args below meth c A H locs la C hf hP hD hS hl ⟨O.1, xk_tl (O.2.1), O.2.2⟩)
theorem xk_icmp_lt {x y : Int32} {off : Int} (tgt : Nat) (hd : decode M.2.1 pc = .ok (.if_icmp .lt off, 3)) (ht : (pc : Int) + off = (tgt : Int)) (kt : (x < y) → xk_X d mc ms M fx out cs ss tgt ls st hs) (kf : (¬ x < y) → xk_X d mc ms M fx out cs ss (pc + 3) ls st hs) : xk_X d mc ms M fx out cs ss pc ls (.int y :: .int x :: st) hs :=
  fun G ad0 ad p l e s m args below meth c A H locs la C hf hP hD hS hl O => lv_icmp_lt C.1 C.2.1 hd ht (fun q => kt q G ad0 ad p l e s m args below meth c A H locs la C hf hP hD hS hl ⟨O.1, xk_tl (xk_tl (O.2.1)), O.2.2⟩) (fun q => kf q G ad0 ad p l e s m args below meth c A H locs la C hf hP hD hS hl ⟨O.1, xk_tl (xk_tl (O.2.1)), O.2.2⟩)
theorem xk_if_ge {x : Int32} {off : Int} (tgt : Nat) (hd : decode M.2.1 pc = .ok (.ifCond .ge off, 3)) (ht : (pc : Int) + off = (tgt : Int)) (kt : (0 ≤ x) → xk_X d mc ms M fx out cs ss tgt ls st hs) (kf : (¬ 0 ≤ x) → xk_X d mc ms M fx out cs ss (pc + 3) ls st hs) : xk_X d mc ms M fx out cs ss pc ls (.int x :: st) hs :=
  fun G ad0 ad p l e s m args below meth c A H locs la C hf hP hD hS hl O => lv_if_ge C.1 C.2.1 hd ht (fun q => kt q G ad0 ad p l e s m args below meth c A H locs la C hf hP hD hS hl ⟨O.1, xk_tl (O.2.1), O.2.2⟩) (fun q => kf q G ad0 ad p l e s m args below meth c A H locs la C hf hP hD hS hl ⟨O.1, xk_tl (O.2.1), O.2.2⟩)
theorem xk_icmp_ge {x y : Int32} {off : Int} (tgt : Nat) (hd : decode M.2.1 pc = .ok (.if_icmp .ge off, 3)) (ht : (pc : Int) + off = (tgt : Int)) (kt : (y ≤ x) → xk_X d mc ms M fx out cs ss tgt ls st hs) (kf : (¬ y ≤ x) → xk_X d mc ms M fx out cs ss (pc + 3) ls st hs) : xk_X d mc ms M fx out cs ss pc ls (.int y :: .int x :: st) hs :=
  fun G ad0 ad p l e s m args below meth c A H locs la C hf hP hD hS hl O => lv_icmp_ge C.1 C.2.1 hd ht (fun q => kt q G ad0 ad p l e s m args below meth c A H locs la C hf hP hD hS hl ⟨O.1, xk_tl (xk_tl (O.2.1)), O.2.2⟩) (fun q => kf q G ad0 ad p l e s m args below meth c A H locs la C hf hP hD hS hl ⟨O.1, xk_tl (xk_tl (O.2.1)), O.2.2⟩)
theorem xk_if_gt {x : Int32} {off : Int} (tgt : Nat) (hd : decode M.2.1 pc = .ok (.ifCond .gt off, 3)) (ht : (pc : Int) + off = (tgt : Int)) (kt : (0 < x) → xk_X d mc ms M fx out cs ss tgt ls st hs) (kf : (¬ 0 < x) → xk_X d mc ms M fx out cs ss (pc + 3) ls st hs) : xk_X d mc ms M fx out cs ss pc ls (.int x :: st) hs :=
  fun G ad0 ad p l e s m args below meth c A H locs la C hf hP hD hS hl O => lv_if_gt C.1 C.2.1 hd ht (fun q => kt q G ad0 ad p l e s m args below meth c A H locs la C hf hP hD hS hl ⟨O.1, xk_tl (O.2.1), O.2.2⟩) (fun q => kf q G ad0 ad p l e s m args below meth c A H locs la C hf hP hD hS hl ⟨O.1, xk_tl (O.2.1), O.2.2⟩)
theorem xk_icmp_gt {x y : Int32} {off : Int} (tgt : Nat) (hd : decode M.2.1 pc = .ok (.if_icmp .gt off, 3)) (ht : (pc : Int) + off = (tgt : Int)) (kt : (y < x) → xk_X d mc ms M fx out cs ss tgt ls st hs) (kf : (¬ y < x) → xk_X d mc ms M fx out cs ss (pc + 3) ls st hs) : xk_X d mc ms M fx out cs ss pc ls (.int y :: .int x :: st) hs :=
  fun G ad0 ad p l e s m args below meth c A H locs la C hf hP hD hS hl O => lv_icmp_gt C.1 C.2.1 hd ht (fun q => kt q G ad0 ad p l e s m args below meth c A H locs la C hf hP hD hS hl ⟨O.1, xk_tl (xk_tl (O.2.1)), O.2.2⟩) (fun q => kf q G ad0 ad p l e s m args below meth c A H locs la C hf hP hD hS hl ⟨O.1, xk_tl (xk_tl (O.2.1)), O.2.2⟩)
theorem xk_if_le {x : Int32} {off : Int} (tgt : Nat) (hd : decode M.2.1 pc = .ok (.ifCond .le off, 3)) (ht : (pc : Int) + off = (tgt : Int)) (kt : (x ≤ 0) → xk_X d mc ms M fx out cs ss tgt ls st hs) (kf : (¬ x ≤ 0) → xk_X d mc ms M fx out cs ss (pc + 3) ls st hs) : xk_X d mc ms M fx out cs ss pc ls (.int x :: st) hs :=
  fun G ad0 ad p l e s m args below meth c A H locs la C hf hP hD hS hl O => lv_if_le C.1 C.2.1 hd ht (fun q => kt q G ad0 ad p l e s m args below meth c A H locs la C hf hP hD hS hl ⟨O.1, xk_tl (O.2.1), O.2.2⟩) (fun q => kf q G ad0 ad p l e s m args below meth c A H locs la C hf hP hD hS hl ⟨O.1, xk_tl (O.2.1), O.2.2⟩)
theorem xk_icmp_le {x y : Int32} {off : Int} (tgt : Nat) (hd : decode M.2.1 pc = .ok (.if_icmp .le off, 3)) (ht : (pc : Int) + off = (tgt : Int)) (kt : (x ≤ y) → xk_X d mc ms M fx out cs ss tgt ls st hs) (kf : (¬ x ≤ y) → xk_X d mc ms M fx out cs ss (pc + 3) ls st hs) : xk_X d mc ms M fx out cs ss pc ls (.int y :: .int x :: st) hs :=
  fun G ad0 ad p l e s m args below meth c A H locs la C hf hP hD hS hl O => lv_icmp_le C.1 C.2.1 hd ht (fun q => kt q G ad0 ad p l e s m args below meth c A H locs la C hf hP hD hS hl ⟨O.1, xk_tl (xk_tl (O.2.1)), O.2.2⟩) (fun q => kf q G ad0 ad p l e s m args below meth c A H locs la C hf hP hD hS hl ⟨O.1, xk_tl (xk_tl (O.2.1)), O.2.2⟩)
theorem xk_goto {off : Int} (tgt : Nat) (hd : decode M.2.1 pc = .ok (.goto off, 3)) (ht : (pc : Int) + off = (tgt : Int)) (kk : xk_X d mc ms M fx out cs ss tgt ls st hs) : xk_X d mc ms M fx out cs ss pc ls st hs :=
  fun G ad0 ad p l e s m args below meth c A H locs la C hf hP hD hS hl O => lv_goto C.1 C.2.1 hd ht (kk G ad0 ad p l e s m args below meth c A H locs la C hf hP hD hS hl O)
theorem xk_tabOut {dflt lo hi : Int} {offs : Array Int} {len : Nat} {x : Int32} (tgt : Nat) (hd : decode M.2.1 pc = .ok (.tableswitch dflt lo hi offs, len)) (h : x.toInt < lo ∨ hi < x.toInt) (ht : (pc : Int) + dflt = (tgt : Int)) (kk : xk_X d mc ms M fx out cs ss tgt ls st hs) : xk_X d mc ms M fx out cs ss pc ls (.int x :: st) hs :=
  fun G ad0 ad p l e s m args below meth c A H locs la C hf hP hD hS hl O => lv_tableOut C.1 C.2.1 hd h ht (kk G ad0 ad p l e s m args below meth c A H locs la C hf hP hD hS hl ⟨O.1, xk_tl O.2.1, O.2.2⟩)
theorem xk_tabIn {dflt lo hi : Int} {offs : Array Int} {len : Nat} {x : Int32} {off : Int} (tgt : Nat) (hd : decode M.2.1 pc = .ok (.tableswitch dflt lo hi offs, len)) (h1 : ¬ x.toInt < lo) (h2 : ¬ hi < x.toInt) (ho : offs[(x.toInt - lo).toNat]? = some off) (ht : (pc : Int) + off = (tgt : Int)) (kk : xk_X d mc ms M fx out cs ss tgt ls st hs) : xk_X d mc ms M fx out cs ss pc ls (.int x :: st) hs :=
  fun G ad0 ad p l e s m args below meth c A H locs la C hf hP hD hS hl O => lv_tableIn C.1 C.2.1 hd h1 h2 ho ht (kk G ad0 ad p l e s m args below meth c A H locs la C hf hP hD hS hl ⟨O.1, xk_tl O.2.1, O.2.2⟩)
theorem xk_get {index : Nat} {a ci : Nat} {fs : List Value} {r : vw_C} {v : Value} (k : Nat) (hd : decode M.2.1 pc = .ok (.getfield index, 3)) (hc : vwCl[ci]? = some r) (hin : ∀ w ∈ u_ws r.1 r.2.1 r.2.2, w ∈ xk_WS) (hk : k < r.2.2) (hw : Cond.fieldLink M.1.cls index (r.2.1 k).1 (r.2.1 k).2.1 (r.2.1 k).2.2.1 ∈ xk_WS) (he : hs[a]? = some (.inr (ci, fs))) (hv : fs[k]? = some v) (kk : xk_X d mc ms M fx out cs ss (pc + 3) ls (v :: st) hs) : xk_X d mc ms M fx out cs ss pc ls (.ref a :: st) hs :=
  fun G ad0 ad p l e s m args below meth c A H locs la C hf hP hD hS hl O => va_get C.1 C.2.1 C.2.2.2.2.1 hin C.2.2.2.2.2.1 C.2.2.2.2.2.2.2.2.2.1 hP a (xk_w_get he) hc k hk (C.2.2.2.2.1 _ hw) (fun _ h9 => h9) (v := xk_v ad v) (by rw [List.getElem?_map, hv]; rfl) hd (kk G ad0 ad p l e s m args below meth c A H locs la C hf hP hD hS hl ⟨O.1, xk_cs (xk_okF O.2.2 he _ (List.mem_of_getElem? hv)) (xk_tl O.2.1), O.2.2⟩)
theorem xk_getN {index : Nat} {a ci : Nat} {fs : List Value} {r : vw_C} {v : Value} {host : String} (k : Nat) (hd : decode M.2.1 pc = .ok (.getfield index, 3)) (hc : vwCl[ci]? = some r) (hin : ∀ w ∈ u_ws r.1 r.2.1 r.2.2, w ∈ xk_WS) (hk : k < r.2.2) (hw : Cond.fieldLinkNest M.1.cls index (r.2.1 k).1 (r.2.1 k).2.1 (r.2.1 k).2.2.1 host ∈ xk_nest) (he : hs[a]? = some (.inr (ci, fs))) (hv : fs[k]? = some v) (kk : xk_X d mc ms M fx out cs ss (pc + 3) ls (v :: st) hs) : xk_X d mc ms M fx out cs ss pc ls (.ref a :: st) hs :=
  fun G ad0 ad p l e s m args below meth c A H locs la C hf hP hD hS hl O => va_getN C.1 C.2.1 C.2.2.2.2.1 hin C.2.2.2.2.2.1 C.2.2.2.2.2.2.2.2.2.1 hP a (xk_w_get he) hc k hk (va_Nw.use rfl (C.2.2.2.2.2.2.2.2.2.2.1 _ hw)) (fun _ h9 => h9) (v := xk_v ad v) (by rw [List.getElem?_map, hv]; rfl) hd (kk G ad0 ad p l e s m args below meth c A H locs la C hf hP hD hS hl ⟨O.1, xk_cs (xk_okF O.2.2 he _ (List.mem_of_getElem? hv)) (xk_tl O.2.1), O.2.2⟩)
theorem xk_put {index : Nat} {a ci : Nat} {fs : List Value} {r : vw_C} {v : Value} (k : Nat) (ty0 : Nat → FieldType) (hd : decode M.2.1 pc = .ok (.putfield index, 3)) (hc : vwCl[ci]? = some r) (hin : ∀ w ∈ u_ws r.1 r.2.1 r.2.2, w ∈ xk_WS) (hty : ∀ k, k < r.2.2 → parseFieldDescriptor (r.2.1 k).2.2.1 = some (ty0 k)) (hnm : ∀ a, a < r.2.2 → ∀ b, b < r.2.2 → a ≠ b → (r.2.1 a).2.1 ≠ (r.2.1 b).2.1) (hk : k < r.2.2) (hw : Cond.fieldLink M.1.cls index (r.2.1 k).1 (r.2.1 k).2.1 (r.2.1 k).2.2.1 ∈ xk_WS) (hfin : (r.2.1 k).2.2.2 = false) (hn : ∀ ad, narrow (ty0 k) (xk_v ad v) = xk_v ad v) (hfit : ∀ ad, fits (ty0 k) (xk_v ad v) = true) (he : hs[a]? = some (.inr (ci, fs))) (hl9 : k < fs.length) (kk : xk_X d mc ms M fx out cs ss (pc + 3) ls st (hs.set a (.inr (ci, fs.set k v)))) : xk_X d mc ms M fx out cs ss pc ls (v :: .ref a :: st) hs :=
  fun G ad0 ad p l e s m args below meth c A H locs la C hf hP hD hS hl O => va_put C.1 C.2.1 C.2.2.2.2.1 hin ty0 hty hnm C.2.2.2.2.2.1 C.2.2.2.2.2.2.2.2.2.1 hP hD hS a (xk_w_get he) hc k hk (C.2.2.2.2.1 _ hw) (fun _ h9 => h9) hfin (hty k hk) (hn ad) (hfit ad) (by rw [List.length_map]; exact hl9) hd (fun H locs hP hD hS => kk G ad0 ad p l e s m args below meth c A H locs la C hf (by
    rw [← xk_w_set]
    simpa [xk_e, List.map_set] using hP) (by
    rw [← xk_w_set]
    simpa [xk_e, List.map_set] using hD) hS hl (O.set (xk_tl (xk_tl O.2.1)) (fun w hw => (List.mem_or_eq_of_mem_set hw).elim (xk_okF O.2.2 he w) (fun q => q ▸ xk_hd O.2.1))))
theorem xk_putF {index : Nat} {a ci : Nat} {fs : List Value} {r : vw_C} {v : Value} (k : Nat) (ty0 : Nat → FieldType) (hd : decode M.2.1 pc = .ok (.putfield index, 3)) (hc : vwCl[ci]? = some r) (hin : ∀ w ∈ u_ws r.1 r.2.1 r.2.2, w ∈ xk_WS) (hty : ∀ k, k < r.2.2 → parseFieldDescriptor (r.2.1 k).2.2.1 = some (ty0 k)) (hnm : ∀ a, a < r.2.2 → ∀ b, b < r.2.2 → a ≠ b → (r.2.1 a).2.1 ≠ (r.2.1 b).2.1) (hk : k < r.2.2) (hw : Cond.fieldLink M.1.cls index (r.2.1 k).1 (r.2.1 k).2.1 (r.2.1 k).2.2.1 ∈ xk_WS) (hfin : (r.2.1 k).2.2.2 = true) (hin2 : M.1.name = "<init>") (hdecl : (r.2.1 k).1 = M.1.cls) (hn : ∀ ad, narrow (ty0 k) (xk_v ad v) = xk_v ad v) (hfit : ∀ ad, fits (ty0 k) (xk_v ad v) = true) (he : hs[a]? = some (.inr (ci, fs))) (hl9 : k < fs.length) (kk : xk_X d mc ms M fx out cs ss (pc + 3) ls st (hs.set a (.inr (ci, fs.set k v)))) : xk_X d mc ms M fx out cs ss pc ls (v :: .ref a :: st) hs :=
  fun G ad0 ad p l e s m args below meth c A H locs la C hf hP hD hS hl O => va_putF C.1 C.2.1 C.2.2.2.2.1 hin ty0 hty hnm C.2.2.2.2.2.1 C.2.2.2.2.2.2.2.2.2.1 hP hD hS a (xk_w_get he) hc k hk (C.2.2.2.2.1 _ hw) (fun _ h9 => h9) hfin (C.2.2.2.2.2.2.2.1.trans hin2) hdecl (hty k hk) (hn ad) (hfit ad) (by rw [List.length_map]; exact hl9) hd (fun H locs hP hD hS => kk G ad0 ad p l e s m args below meth c A H locs la C hf (by
    rw [← xk_w_set]
    simpa [xk_e, List.map_set] using hP) (by
    rw [← xk_w_set]
    simpa [xk_e, List.map_set] using hD) hS hl (O.set (xk_tl (xk_tl O.2.1)) (fun w hw => (List.mem_or_eq_of_mem_set hw).elim (xk_okF O.2.2 he w) (fun q => q ▸ xk_hd O.2.1))))
theorem xk_iald {a n : Nat} {f : Nat → Int32} {i : Int32} (hd : decode M.2.1 pc = .ok (.iaload, 1)) (he : hs[a]? = some (.inl (0, n, .inl f))) (hin : vp_in i n) (kk : xk_X d mc ms M fx out cs ss (pc + 1) ls (.int (f i.toNatClampNeg) :: st) hs) : xk_X d mc ms M fx out cs ss pc ls (.int i :: .ref a :: st) hs :=
  fun G ad0 ad p l e s m args below meth c A H locs la C hf hP hD hS hl O => va_iald C.1 C.2.1 C.2.2.2.2.2.2.2.2.2.1 hP a 0 (xk_w_get he) rfl hin hd (kk G ad0 ad p l e s m args below meth c A H locs la C hf hP hD hS hl ⟨O.1, xk_cs trivial (xk_tl (xk_tl O.2.1)), O.2.2⟩)
theorem xk_zald {a n : Nat} {f : Nat → Int32} {i : Int32} (hd : decode M.2.1 pc = .ok (.baload, 1)) (he : hs[a]? = some (.inl (2, n, .inl f))) (hin : vp_in i n) (kk : xk_X d mc ms M fx out cs ss (pc + 1) ls (.int (f i.toNatClampNeg) :: st) hs) : xk_X d mc ms M fx out cs ss pc ls (.int i :: .ref a :: st) hs :=
  fun G ad0 ad p l e s m args below meth c A H locs la C hf hP hD hS hl O => va_zald C.1 C.2.1 C.2.2.2.2.2.2.2.2.2.1 hP a 2 (xk_w_get he) rfl hin hd (kk G ad0 ad p l e s m args below meth c A H locs la C hf hP hD hS hl ⟨O.1, xk_cs trivial (xk_tl (xk_tl O.2.1)), O.2.2⟩)
theorem xk_lald {a n : Nat} {f : Nat → Int64} {i : Int32} (hd : decode M.2.1 pc = .ok (.laload, 1)) (he : hs[a]? = some (.inl (1, n, .inr (.inl f)))) (hin : vp_in i n) (kk : xk_X d mc ms M fx out cs ss (pc + 1) ls (.long (f i.toNatClampNeg) :: st) hs) : xk_X d mc ms M fx out cs ss pc ls (.int i :: .ref a :: st) hs :=
  fun G ad0 ad p l e s m args below meth c A H locs la C hf hP hD hS hl O => va_lald C.1 C.2.1 C.2.2.2.2.2.2.2.2.2.1 hP a 1 (xk_w_get he) rfl hin hd (kk G ad0 ad p l e s m args below meth c A H locs la C hf hP hD hS hl ⟨O.1, xk_cs trivial (xk_tl (xk_tl O.2.1)), O.2.2⟩)
theorem xk_iast {a n : Nat} {f : Nat → Int32} {i : Int32} {x : Int32} (hd : decode M.2.1 pc = .ok (.iastore, 1)) (he : hs[a]? = some (.inl (0, n, .inl f))) (hin : vp_in i n) (kk : xk_X d mc ms M fx out cs ss (pc + 1) ls st (hs.set a (.inl (0, n, .inl (upd f i.toNatClampNeg x))))) : xk_X d mc ms M fx out cs ss pc ls (.int x :: .int i :: .ref a :: st) hs :=
  fun G ad0 ad p l e s m args below meth c A H locs la C hf hP hD hS hl O => va_iast C.1 C.2.1 C.2.2.2.2.2.2.2.2.2.1 hP hD hS a 0 (xk_w_get he) rfl hin hd (fun H locs hP hD hS => kk G ad0 ad p l e s m args below meth c A H locs la C hf (by
    rw [← xk_w_set]
    exact hP) (by
    rw [← xk_w_set]
    exact hD) hS hl (O.set (xk_tl (xk_tl (xk_tl O.2.1))) trivial))
theorem xk_zast {a n : Nat} {f : Nat → Int32} {i : Int32} {x : Int32} (hd : decode M.2.1 pc = .ok (.bastore, 1)) (he : hs[a]? = some (.inl (2, n, .inl f))) (hin : vp_in i n) (kk : xk_X d mc ms M fx out cs ss (pc + 1) ls st (hs.set a (.inl (2, n, .inl (upd f i.toNatClampNeg (vp_nar .boolean x)))))) : xk_X d mc ms M fx out cs ss pc ls (.int x :: .int i :: .ref a :: st) hs :=
  fun G ad0 ad p l e s m args below meth c A H locs la C hf hP hD hS hl O => va_zast C.1 C.2.1 C.2.2.2.2.2.2.2.2.2.1 hP hD hS a 2 (xk_w_get he) rfl hin hd (fun H locs hP hD hS => kk G ad0 ad p l e s m args below meth c A H locs la C hf (by
    rw [← xk_w_set]
    exact hP) (by
    rw [← xk_w_set]
    exact hD) hS hl (O.set (xk_tl (xk_tl (xk_tl O.2.1))) trivial))
theorem xk_last {a n : Nat} {f : Nat → Int64} {i : Int32} {x : Int64} (hd : decode M.2.1 pc = .ok (.lastore, 1)) (he : hs[a]? = some (.inl (1, n, .inr (.inl f)))) (hin : vp_in i n) (kk : xk_X d mc ms M fx out cs ss (pc + 1) ls st (hs.set a (.inl (1, n, .inr (.inl (vp_updL f i.toNatClampNeg x)))))) : xk_X d mc ms M fx out cs ss pc ls (.long x :: .int i :: .ref a :: st) hs :=
  fun G ad0 ad p l e s m args below meth c A H locs la C hf hP hD hS hl O => va_last C.1 C.2.1 C.2.2.2.2.2.2.2.2.2.1 hP hD hS a 1 (xk_w_get he) rfl hin hd (fun H locs hP hD hS => kk G ad0 ad p l e s m args below meth c A H locs la C hf (by
    rw [← xk_w_set]
    exact hP) (by
    rw [← xk_w_set]
    exact hD) hS hl (O.set (xk_tl (xk_tl (xk_tl O.2.1))) trivial))
theorem xk_aaldI {a n b : Nat} {f : Nat → Option Nat} {i : Int32} (hd : decode M.2.1 pc = .ok (.aaload, 1)) (he : hs[a]? = some (.inl (3, n, .inr (.inr (.inr (.inr f)))))) (hin : vp_in i n) (hb : f i.toNatClampNeg = some b) (kk : xk_X d mc ms M fx out cs ss (pc + 1) ls (.ref b :: st) hs) : xk_X d mc ms M fx out cs ss pc ls (.int i :: .ref a :: st) hs :=
  fun G ad0 ad p l e s m args below meth c A H locs la C hf hP hD hS hl O => by
    have hlt : i.toNatClampNeg < n := Nat.not_le.mp fun q => hin (Or.inr q)
    have ha := xk_w_get (K := G.2.1) (ad := ad) he
    refine W.aald (v := .ref (ad b)) (ty := .array .int) C.1 C.2.1 (hP a _ ha) ((C.2.2.2.2.2.2.2.2.2.1.2 3 _ rfl).1 n (fun j => va_rf ((f j).map ad))) rfl (fun q => by cases q) (by show ¬ (i < 0 ∨ (arrV _ _ _).slots.size ≤ _); rw [arrV_size]; exact hin) (by show (arrV _ n _).slots[_]? = _; rw [arrV_read _ _ hlt]; show some (va_rf ((f i.toNatClampNeg).map ad)) = _; rw [hb]; rfl) rfl rfl hd ?_
    exact kk G ad0 ad p l e s m args below meth c A H locs la C hf hP hD hS hl ⟨O.1, xk_cs (xk_okR O.2.2 he hb) (xk_tl (xk_tl O.2.1)), O.2.2⟩
theorem xk_aaldJ {a n b : Nat} {f : Nat → Option Nat} {i : Int32} (hd : decode M.2.1 pc = .ok (.aaload, 1)) (he : hs[a]? = some (.inl (4, n, .inr (.inr (.inr (.inr f)))))) (hin : vp_in i n) (hb : f i.toNatClampNeg = some b) (kk : xk_X d mc ms M fx out cs ss (pc + 1) ls (.ref b :: st) hs) : xk_X d mc ms M fx out cs ss pc ls (.int i :: .ref a :: st) hs :=
  fun G ad0 ad p l e s m args below meth c A H locs la C hf hP hD hS hl O => by
    have hlt : i.toNatClampNeg < n := Nat.not_le.mp fun q => hin (Or.inr q)
    have ha := xk_w_get (K := G.2.1) (ad := ad) he
    refine W.aald (v := .ref (ad b)) (ty := .array .long) C.1 C.2.1 (hP a _ ha) ((C.2.2.2.2.2.2.2.2.2.1.2 4 _ rfl).1 n (fun j => va_rf ((f j).map ad))) rfl (fun q => by cases q) (by show ¬ (i < 0 ∨ (arrV _ _ _).slots.size ≤ _); rw [arrV_size]; exact hin) (by show (arrV _ n _).slots[_]? = _; rw [arrV_read _ _ hlt]; show some (va_rf ((f i.toNatClampNeg).map ad)) = _; rw [hb]; rfl) rfl rfl hd ?_
    exact kk G ad0 ad p l e s m args below meth c A H locs la C hf hP hD hS hl ⟨O.1, xk_cs (xk_okR O.2.2 he hb) (xk_tl (xk_tl O.2.1)), O.2.2⟩
theorem xk_alen {a t0 : Nat} {x : vp_A} {v : Int32} (hd : decode M.2.1 pc = .ok (.arraylength, 1)) (he : hs[a]? = some (.inl (t0, x))) (ht : t0 < 5) (hv : Int32.ofNat x.1 = v) (kk : xk_X d mc ms M fx out cs ss (pc + 1) ls (.int v :: st) hs) : xk_X d mc ms M fx out cs ss pc ls (.ref a :: st) hs :=
  fun G ad0 ad p l e s m args below meth c A H locs la C hf hP hD hS hl O => by
    have h5 : ∃ ty, (xk_t G.2.1)[t0]? = some (G.2.1 t0, ty) := by
      match t0, ht with
      | 0, _ => exact ⟨_, rfl⟩
      | 1, _ => exact ⟨_, rfl⟩
      | 2, _ => exact ⟨_, rfl⟩
      | 3, _ => exact ⟨_, rfl⟩
      | 4, _ => exact ⟨_, rfl⟩
    obtain ⟨ty, h5⟩ := h5
    have h1 : (xk_a ad x).1 = x.1 := by obtain ⟨n, f | f | f | f | f⟩ := x <;> rfl
    exact va_alen C.1 C.2.1 C.2.2.2.2.2.2.2.2.2.1 hP a t0 (xk_w_get he) h5 (by rw [h1]; exact hv) hd (kk G ad0 ad p l e s m args below meth c A H locs la C hf hP hD hS hl ⟨O.1, xk_cs trivial (xk_tl O.2.1), O.2.2⟩)
theorem xk_iret {v : Int32} (hr : M.2.2.2 = some .int) (hd : decode M.2.1 pc = .ok (.ireturn, 1)) (hc : cs ≤ mc) (hs9 : ss ≤ ms) (ho : out (some (.int v)) hs) : xk_X d mc ms M fx out cs ss pc ls [.int v] hs :=
  fun G ad0 ad p l e s m args below meth c A H locs la C hf hP hD hS hl O => W.widen hc hs9 (W.iret C.1 C.2.1 (C.2.2.2.1.trans hr) (fun t ht hW => ⟨⟨(some (.int v)), hs, ad, rfl, ho, ⟨fun _ h => absurd h List.not_mem_nil, O.2.1, O.2.2⟩, hf, by rw [ht]; exact hP, hD⟩, hS.F ht⟩) hS.2.2 hd C.2.2.2.2.2.2.1)
theorem xk_zret {v : Int32} (hr : M.2.2.2 = some .boolean) (hn : narrow .boolean (.int v) = .int v) (hd : decode M.2.1 pc = .ok (.ireturn, 1)) (hc : cs ≤ mc) (hs9 : ss ≤ ms) (ho : out (some (.int v)) hs) : xk_X d mc ms M fx out cs ss pc ls [.int v] hs :=
  fun G ad0 ad p l e s m args below meth c A H locs la C hf hP hD hS hl O => W.widen hc hs9 (W.zret C.1 C.2.1 (C.2.2.2.1.trans hr) hn (fun t ht hW => ⟨⟨(some (.int v)), hs, ad, rfl, ho, ⟨fun _ h => absurd h List.not_mem_nil, O.2.1, O.2.2⟩, hf, by rw [ht]; exact hP, hD⟩, hS.F ht⟩) hS.2.2 hd C.2.2.2.2.2.2.1)
theorem xk_lret {v : Int64} (hr : M.2.2.2 = some .long) (hd : decode M.2.1 pc = .ok (.lreturn, 1)) (hc : cs ≤ mc) (hs9 : ss ≤ ms) (ho : out (some (.long v)) hs) : xk_X d mc ms M fx out cs ss pc ls [.long v] hs :=
  fun G ad0 ad p l e s m args below meth c A H locs la C hf hP hD hS hl O => W.widen hc hs9 (W.lret C.1 C.2.1 (C.2.2.2.1.trans hr) (fun t ht hW => ⟨⟨(some (.long v)), hs, ad, rfl, ho, ⟨fun _ h => absurd h List.not_mem_nil, O.2.1, O.2.2⟩, hf, by rw [ht]; exact hP, hD⟩, hS.F ht⟩) hS.2.2 hd C.2.2.2.2.2.2.1)
theorem xk_vret (hr : M.2.2.2 = none) (hd : decode M.2.1 pc = .ok (.return_, 1)) (hc : cs ≤ mc) (hs9 : ss ≤ ms) (ho : out none hs) : xk_X d mc ms M fx out cs ss pc ls [] hs :=
  fun G ad0 ad p l e s m args below meth c A H locs la C hf hP hD hS hl O => W.widen hc hs9 (W.vret C.1 C.2.1 (C.2.2.2.1.trans hr) (fun t ht hW => ⟨⟨none, hs, ad, rfl, ho, ⟨fun _ h => absurd h List.not_mem_nil, O.2.1, O.2.2⟩, hf, by rw [ht]; exact hP, hD⟩, hS.F ht⟩) hS.2.2 hd C.2.2.2.2.2.2.1)
end XKR
end
section
/-! CALLS over the abstract heap. Own text. -/
theorem xk_nest_on : ∀ w ∈ xk_nest, w.onTables = true := by
  intro w hw
  simp only [xk_nest, List.mem_cons, List.not_mem_nil, or_false] at hw
  rcases hw with rfl | rfl | rfl | rfl | rfl | rfl | rfl | rfl | rfl | rfl <;> rfl
theorem xk_nest_warm {s U : State} (hW : s.WarmedH U.vm) : ∀ w ∈ xk_nest, va_Nw w s → va_Nw w U := by
  intro w hw h
  simp only [xk_nest, List.mem_cons, List.not_mem_nil, or_false] at hw
  rcases hw with rfl | rfl | rfl | rfl | rfl | rfl | rfl | rfl | rfl | rfl
  · exact va_Nw.warmF hW h
  · exact va_Nw.warmF hW h
  · exact va_Nw.warmF hW h
  · exact va_Nw.warmF hW h
  · exact va_Nw.warmF hW h
  · exact va_Nw.warmF hW h
  · exact va_Nw.warmF hW h
  · exact va_Nw.warmF hW h
  · exact va_Nw.warmM hW h
  · exact va_Nw.warmM hW h
theorem xk_K.same {G : xk_G} {A : Nat → Prop} {u U : State} {H : Heap} (hv : u.vm = U.vm) (h : xk_K G A u H) : xk_K G A U H :=
  have ha : u.vm.Alike U.vm := by rw [hv]; exact Vm.Alike.refl _
  ⟨va_K.moved ha h.1, fun w hw => va_Nw.same (xk_nest_on w hw) hv (h.2.1 w hw), va_Z.moved ha h.2.2.1, va_T.moved ha h.2.2.2⟩
theorem xk_K.warm {G : xk_G} {A : Nat → Prop} {u U : State} {H : Heap} (hW : u.WarmedH U.vm) (h : xk_K G A u H) : xk_K G A U H :=
  ⟨va_K.moved hW.alike h.1, fun w hw => xk_nest_warm hW w hw (h.2.1 w hw), va_Z.moved hW.alike h.2.2.1, va_T.moved hW.alike h.2.2.2⟩
theorem xk_K.kept {G : xk_G} {A : Nat → Prop} {U : State} {H H1 : Heap} (h : xk_K G A U H) (hq : ∀ a : Nat, a < H.size → ¬ A a → H1[a]? = H[a]?) : xk_K G A U H1 :=
  ⟨h.1, h.2.1, va_Z.kept h.2.2.1 hq, va_T.kept h.2.2.2 hq⟩
theorem xk_K.narrow {G : xk_G} {A B : Nat → Prop} {U : State} {H : Heap} (h : xk_K G A U H) (hAB : ∀ q, B q → A q) : xk_K G B U H :=
  ⟨h.1, h.2.1, va_Z.narrow h.2.2.1 hAB, va_T.narrow h.2.2.2 hAB⟩
/-- what a callee's words and room must be -/
def xk_CV (M' : xk_M) (n : Nat) : Prop := Cond.code M'.1 M'.2.1 M'.2.2.1 M'.2.2.2 ∈ xk_WS ∧ Cond.initialized M'.1.cls ∈ xk_WS ∧ (M'.1.cls ≠ "java/lang/invoke/MethodHandle" ∧ M'.1.cls ≠ "java/lang/invoke/VarHandle") ∧ (parseMethodDescriptor M'.1.desc).map (fun d => d.parameters.length) = some n ∧ M'.2.2.1 ≤ 20
section XKC
variable {p : Program} {l : Launch} {e : Env} {R : Room} {s : State} {m : MethodId} {args : Array Value} {below : List Frame} {meth : Method} {c : Code} {H : Heap} {locs : List Loc} {cells slots : Nat} {Q : State → Prop}
theorem xk_go {pc : Nat} {la : Array Slot} {rest st0 : List Value} {a : Array Value} {A0 A1 : Nat → Prop} {H0 : Heap} {mc' ms' : Nat} {free : Addr → Prop} {G : xk_G} {fx' : Nat → Prop} {ad : Nat → Nat} {out' : Option Value → xk_H → Prop}
    (hr : va_Run p l e R s m args below meth c H locs cells slots mc' ms' (F0 m pc la st0) rest (xk_Q G fx' ad out' A1 a) free) (hS : va_S A0 H0 H locs) (hA : ∀ q, q < H.size → A1 q → A0 q) (hf : ∀ q, free q → A0 q)
    (kk : ∀ (r : Option Value) (hs' : xk_H) (ad' : Nat → Nat) (H1 : Heap) (locs1 : List Loc), out' r hs' → xk_OK [] r.toList hs' → (∀ k, fx' k → ad' k = ad k) → va_P G.1 vwCl (xk_w G.2.1 ad' hs') H1 → va_D A1 (xk_w G.2.1 ad' hs') → va_S A0 H0 H1 locs1 → W p l e R s m args below meth c H1 locs1 (cells + mc') (slots + ms') Q (F0 m (pc + 3) la ((r.map (xk_v ad')).toList ++ rest))) : W p l e R s m args below meth c H locs cells slots Q (F0 m pc la st0) := by
  intro T hT X
  obtain ⟨v, st₀, t, T', L, h0, X', hL, e1, e2, ⟨⟨r, hs', ad', hv, ho, hok, hf', hP, hD⟩, hz, hk⟩, st⟩ := hr T hT X
  cases hv
  rw [h0] at hz hk
  obtain ⟨t2, a1, b1⟩ := kk r hs' ad' T'.heap (locs ++ L) ho hok hf' (by rw [e1]; exact hP) hD
    ⟨Nat.le_trans hS.1 (by rw [e1]; exact hz), fun q h1 h2 => by rw [e1, hk q (Nat.lt_of_lt_of_le h1 hS.1) (fun z => h2 (hA q (Nat.lt_of_lt_of_le h1 hS.1) z))]; exact hS.2.1 q h1 h2, fun q hq => by
      rcases List.mem_append.mp hq with h | h
      · exact hS.2.2 q h
      · exact hf _ (hL q h)⟩ T' rfl X'
  exact ⟨t2, st t2 a1, b1⟩
theorem xk_callB {M M' : xk_M} {G : xk_G} {A : Nat → Prop} {d d' mc ms mc' ms' n index : Nat} (C : xk_Cx M G p s m args meth c A) (hlk : Cond.methodLink M.1.cls index M'.1 ∈ xk_WS) (hcv : xk_CV M' n) (hdd : d' < d) : CallB (xk_rm d mc ms) s args M.1.cls index M'.1 M'.2.1 M'.2.2.1 M'.2.2.2 (xk_ws M') (xk_rm d' mc' ms') mc' ms' n := by
  have hts := C.2.2.2.2.1
  obtain ⟨h1, h2, h3, h4, h5⟩ := hcv
  refine ⟨rfl, rfl, ?_, ?_, ?_, List.mem_cons_self, hts _ h1, hts _ h2, h3, ?_, hts _ hlk⟩
  · show d' + 1 ≤ d; exact hdd
  · show 8 + (M'.2.2.1 + 11) + 40 * d' ≤ 40 * d; omega
  · intro w hw a' U hW
    rcases List.mem_cons.mp hw with rfl | hw
    · exact word_at hW (xk_good _ h1).2 (hts _ h1)
    · exact word_at hW (xk_good w hw).2 (hts w hw)
  · intro sig h
    rw [h] at h4
    exact (Option.some.inj h4).symm
theorem xk_callN {M M' : xk_M} {G : xk_G} {A : Nat → Prop} {d d' mc ms mc' ms' n index : Nat} {host : String} (C : xk_Cx M G p s m args meth c A) (hlk : Cond.methodLinkNest M.1.cls index M'.1 host ∈ xk_nest) (hcv : xk_CV M' n) (hdd : d' < d) : va_CN (xk_rm d mc ms) s args M.1.cls index M'.1 host M'.2.1 M'.2.2.1 M'.2.2.2 (xk_ws M') (xk_rm d' mc' ms') mc' ms' n := by
  have hts := C.2.2.2.2.1
  obtain ⟨h1, h2, h3, h4, h5⟩ := hcv
  refine ⟨⟨rfl, rfl, ?_, ?_, ?_, List.mem_cons_self⟩, hts _ h1, hts _ h2, h3, ?_, va_Nw.use rfl (C.2.2.2.2.2.2.2.2.2.2.1 _ hlk)⟩
  · show d' + 1 ≤ d; exact hdd
  · show 8 + (M'.2.2.1 + 11) + 40 * d' ≤ 40 * d; omega
  · intro w hw a' U hW
    rcases List.mem_cons.mp hw with rfl | hw
    · exact word_at hW (xk_good _ h1).2 (hts _ h1)
    · exact word_at hW (xk_good w hw).2 (hts w hw)
  · intro sig h
    rw [h] at h4
    exact (Option.some.inj h4).symm
theorem xk_blind {G : xk_G} {ad : Nat → Nat} {av : List Value} {hs : xk_H} {sz : Nat} : FrameBlind (va_Pc (av.map (xk_v ad)) (fun U => U.heap.size = sz ∧ va_P G.1 vwCl (xk_w G.2.1 ad hs) U.heap ∧ va_D (fun _ => True) (xk_w G.2.1 ad hs) ∧ xk_K G (va_A (xk_w G.2.1 ad hs) sz) U U.heap)) :=
  fun a U g mk q => ⟨q.1, q.2.1, q.2.2.1, q.2.2.2.1, xk_K.same (u := U) (U := U.calling g mk a) rfl q.2.2.2.2⟩
theorem xk_allA {M : xk_M} {G : xk_G} {A : Nat → Prop} {ad : Nat → Nat} {hs : xk_H} (C : xk_Cx M G p s m args meth c A) (hD : va_D A (xk_w G.2.1 ad hs)) (hS : va_S A s.heap H locs) : ∀ q, va_A (xk_w G.2.1 ad hs) H.size q → A q := by
  intro q h
  rcases h with ⟨k, e, h⟩ | h
  · exact hD.2 k (q, e) h
  · exact C.2.2.2.2.2.2.2.2.1 q (Nat.le_trans hS.1 h)
theorem xk_preK {M : xk_M} {G : xk_G} {A : Nat → Prop} {ad : Nat → Nat} {hs : xk_H} (C : xk_Cx M G p s m args meth c A) (hP : va_P G.1 vwCl (xk_w G.2.1 ad hs) H) (hD : va_D A (xk_w G.2.1 ad hs)) (hS : va_S A s.heap H locs) (av : List Value) (U : State) (hU : U.heap = H) (hW : s.WarmedH U.vm) : va_Pc (av.map (xk_v ad)) (fun U => U.heap.size = H.size ∧ va_P G.1 vwCl (xk_w G.2.1 ad hs) U.heap ∧ va_D (fun _ => True) (xk_w G.2.1 ad hs) ∧ xk_K G (va_A (xk_w G.2.1 ad hs) H.size) U U.heap) (av.map (xk_v ad)).toArray U := by
  refine ⟨rfl, by rw [hU], by rw [hU]; exact hP, hD.weaken (fun _ _ _ _ => trivial), ?_⟩
  rw [hU]
  exact ((C.2.2.2.2.2.2.2.2.2.kept hS.2.1).narrow (xk_allA C hD hS)).warm hW
end XKC
theorem xk_v_congr {n : Nat} {ad ad' : Nat → Nat} (h : ∀ k, k < n → ad' k = ad k) : ∀ v : Value, xk_ok n v → xk_v ad' v = xk_v ad v
  | .ref k, hv => by show Value.ref (ad' k) = Value.ref (ad k); rw [h k hv]
  | .int _, _ => rfl
  | .long _, _ => rfl
  | .float _, _ => rfl
  | .double _, _ => rfl
  | .null, _ => rfl
  | .retAddr _, _ => rfl
theorem xk_vs_congr {n : Nat} {ad ad' : Nat → Nat} (h : ∀ k, k < n → ad' k = ad k) {st : List Value} (hs : xk_okS n st) : st.map (xk_v ad') = st.map (xk_v ad) := List.map_congr_left fun v hv => xk_v_congr h v (hs v hv)
theorem xk_l_congr {n : Nat} {ad ad' : Nat → Nat} (h : ∀ k, k < n → ad' k = ad k) : ∀ (ls : List (Option Value)) (i : Nat), xk_okL n ls → xk_l ad' i ls = xk_l ad i ls
  | [], _, _ => rfl
  | some v :: ls, i, ho => by
    rw [xk_l, xk_l, xk_v_congr h v (ho v List.mem_cons_self), xk_l_congr h ls (i + 1) (fun w hw => ho w (List.mem_cons_of_mem _ hw))]
  | none :: ls, i, ho => by
    rw [xk_l, xk_l, xk_l_congr h ls (i + 1) (fun w hw => ho w (List.mem_cons_of_mem _ hw))]
theorem xk_e_congr {n : Nat} {K : Nat → ClassId} {ad ad' : Nat → Nat} (h : ∀ k, k < n → ad' k = ad k) : ∀ e : xk_C, xk_okC n e → xk_e K ad' e = xk_e K ad e
  | .inl (t, m, .inl f), _ => rfl
  | .inl (t, m, .inr (.inl f)), _ => rfl
  | .inl (t, m, .inr (.inr (.inl f))), _ => rfl
  | .inl (t, m, .inr (.inr (.inr (.inl f)))), _ => rfl
  | .inl (t, m, .inr (.inr (.inr (.inr f)))), ho => by
    have e1 : (fun j => (f j).map ad') = fun j => (f j).map ad := funext fun j => by
      cases hf : f j with
      | none => rfl
      | some k => show some (ad' k) = some (ad k); rw [h k (ho j k hf)]
    show (Sum.inl (K t, m, Sum.inr (Sum.inr (Sum.inr (Sum.inr (fun j => (f j).map ad'))))) : va_E) = Sum.inl (K t, m, Sum.inr (Sum.inr (Sum.inr (Sum.inr (fun j => (f j).map ad)))))
    rw [e1]
  | .inr (ci, fs), ho => by
    show (Sum.inr (ci, fs.map (xk_v ad')) : va_E) = Sum.inr (ci, fs.map (xk_v ad))
    rw [xk_vs_congr h ho]
theorem xk_w_congr {K : Nat → ClassId} {ad ad' : Nat → Nat} {hs : xk_H} (h : ∀ k, k < hs.length → ad' k = ad k) (ho : xk_okH hs) : xk_w K ad' hs = xk_w K ad hs := by
  apply List.ext_getElem?
  intro j
  rw [xk_w_at, xk_w_at]
  cases hj : hs[j]? with
  | none => rfl
  | some e =>
    have hl : j < hs.length := (List.getElem?_eq_some_iff.mp hj).1
    show some (ad' j, xk_e K ad' e) = some (ad j, xk_e K ad e)
    rw [h j hl, xk_e_congr h e (ho e (List.mem_of_getElem? hj))]
theorem xk_ok_le {n n' : Nat} (h : n ≤ n') : ∀ v : Value, xk_ok n v → xk_ok n' v
  | .ref k, hv => Nat.lt_of_lt_of_le hv h
  | .int _, _ => trivial
  | .long _, _ => trivial
  | .float _, _ => trivial
  | .double _, _ => trivial
  | .null, _ => trivial
  | .retAddr _, _ => trivial
theorem xk_okC_le {n n' : Nat} (h : n ≤ n') : ∀ e : xk_C, xk_okC n e → xk_okC n' e
  | .inl (t, m, .inl f), _ => trivial
  | .inl (t, m, .inr (.inl f)), _ => trivial
  | .inl (t, m, .inr (.inr (.inl f))), _ => trivial
  | .inl (t, m, .inr (.inr (.inr (.inl f)))), _ => trivial
  | .inl (t, m, .inr (.inr (.inr (.inr f)))), ho => fun j k hf => Nat.lt_of_lt_of_le (ho j k hf) h
  | .inr (ci, fs), ho => fun v hv => xk_ok_le h v (ho v hv)
theorem xk_OK.app {ls : List (Option Value)} {st : List Value} {hs es : xk_H} (O : xk_OK ls st hs) (he : ∀ e ∈ es, xk_okC (hs ++ es).length e) : xk_OK ls st (hs ++ es) := by
  have hle : hs.length ≤ (hs ++ es).length := by rw [List.length_append]; omega
  refine ⟨fun v hv => xk_ok_le hle v (O.1 v hv), fun v hv => xk_ok_le hle v (O.2.1 v hv), fun e hx => ?_⟩
  rcases List.mem_append.mp hx with h | h
  · exact xk_okC_le hle e (O.2.2 e h)
  · exact he e h
section XKD
variable {d mc ms : Nat} {M : xk_M} {fx : Nat → Prop} {out : Option Value → xk_H → Prop} {cs ss pc : Nat} {ls : List (Option Value)} {hs : xk_H}
/-- a call of a method of an object, which makes no cell -/
theorem xk_callV {M' : xk_M} {d' n index b ci : Nat} {fs : List Value} {r0 : vw_C} {out' : Option Value → xk_H → Prop} (As rest : List Value) (hd : decode M.2.1 pc = .ok (.invokevirtual index, 3)) (hlk : Cond.methodLink M.1.cls index M'.1 ∈ xk_WS) (hcv : xk_CV M' n) (hin : Cond.instanceMethod M'.1 ∈ xk_WS) (hse : Cond.selects M'.1.cls M'.1 M'.1 ∈ xk_WS) (hdd : d' < d) (hcs : cs ≤ mc) (hss : ss ≤ ms) (he : hs[b]? = some (.inr (ci, fs))) (hc : vwCl[ci]? = some r0) (hcn : r0.1 = M'.1.cls) (hn : As.length = n) (hcat : (rest.map fun v => v.category).sum ≤ 8) (hY : xk_Y d' 0 0 M' false (.ref b :: As) hs out')
    (kk : ∀ (r : Option Value) (hs' : xk_H), out' r hs' → hs.length ≤ hs'.length → xk_X d mc ms M fx out cs ss (pc + 3) ls (r.toList ++ rest) hs') (hlen : ∀ (r : Option Value) (hs' : xk_H), out' r hs' → hs'.length = hs.length) : xk_X d mc ms M fx out cs ss pc ls (As.reverse ++ .ref b :: rest) hs := by
  intro G ad0 ad p l e s m args below meth c A H locs la C hf hP hD hS hl O
  have hO1 : xk_OK [] (.ref b :: As) hs := ⟨fun _ h => absurd h List.not_mem_nil, fun v hv => O.2.1 v (by
    rcases List.mem_cons.mp hv with rfl | hv
    · simp
    · simp [hv]), O.2.2⟩
  have hA := xk_allA C hD hS
  have hcat' : ((rest.map (xk_v ad)).map fun v => v.category).sum ≤ 8 := by
    rw [List.map_map]
    have : ((fun v : Value => v.category) ∘ xk_v ad) = fun v => v.category := funext fun v => xk_cat ad v
    rw [this]
    exact hcat
  refine xk_go (va_runV (As := As.map (xk_v ad)) (rest := rest.map (xk_v ad)) (C := M'.1.cls) (b := ad b) (n := n) ⟨C.1, C.2.1, C.2.2.1, C.2.2.2.2.2.1, C.2.2.2.2.1⟩ (hY hO1 l G ad H.size) ⟨xk_callB C hlk hcv hdd, C.2.2.2.2.1 _ hin, C.2.2.2.2.1 _ hse⟩ ⟨xk_blind, ?_, fun U hU hW => xk_preK C hP hD hS (.ref b :: As) U hU hW⟩ rfl (by rw [List.length_map]; exact hn) hl.1 ?_ (lv_room hcat') hd ⟨hcs, hss⟩) hS (fun q _ h => hA q h) hA (fun r hs' ad' H1 locs1 ho hok hfx hP1 hD1 hS1 => ?_)
  · rw [← hcn]
    exact va_recv C.2.2.2.2.2.2.2.2.2.1 hP hc (xk_w_get he)
  · show List.map (xk_v ad) (As.reverse ++ .ref b :: rest) = _
    rw [List.map_append, List.map_reverse]
    rfl
  · have hadd : ad' = ad := funext fun k => hfx k (fun h => by cases h)
    subst hadd
    have hl2 := hlen r hs' ho
    have h := kk r hs' ho (Nat.le_of_eq hl2.symm) G ad0 ad' p l e s m args below meth c A H1 locs1 la C hf hP1 (hD1.weaken fun _ q _ z => hA q.1 z) hS1 hl ⟨by rw [hl2]; exact O.1, fun v hv => by
      rcases List.mem_append.mp hv with h | h
      · exact hok.2.1 v h
      · rw [hl2]
        exact O.2.1 v (by simp [h]), hok.2.2⟩
    rw [List.map_append] at h
    cases r <;> exact h
/-- a call of a static method, which makes no cell -/
theorem xk_callS {M' : xk_M} {d' n index : Nat} {out' : Option Value → xk_H → Prop} (As rest : List Value) (hd : decode M.2.1 pc = .ok (.invokestatic index, 3)) (hlk : Cond.methodLink M.1.cls index M'.1 ∈ xk_WS) (hcv : xk_CV M' n) (hst : Cond.static M'.1 ∈ xk_WS) (hdd : d' < d) (hcs : cs ≤ mc) (hss : ss ≤ ms) (hn : As.length = n) (hcat : (rest.map fun v => v.category).sum ≤ 8) (hY : xk_Y d' 0 0 M' false As hs out')
    (kk : ∀ (r : Option Value) (hs' : xk_H), out' r hs' → hs.length ≤ hs'.length → xk_X d mc ms M fx out cs ss (pc + 3) ls (r.toList ++ rest) hs') (hlen : ∀ (r : Option Value) (hs' : xk_H), out' r hs' → hs'.length = hs.length) : xk_X d mc ms M fx out cs ss pc ls (As.reverse ++ rest) hs := by
  intro G ad0 ad p l e s m args below meth c A H locs la C hf hP hD hS hl O
  have hO1 : xk_OK [] As hs := ⟨fun _ h => absurd h List.not_mem_nil, fun v hv => O.2.1 v (by simp [hv]), O.2.2⟩
  have hA := xk_allA C hD hS
  have hcat' : ((rest.map (xk_v ad)).map fun v => v.category).sum ≤ 8 := by
    rw [List.map_map]
    have : ((fun v : Value => v.category) ∘ xk_v ad) = fun v => v.category := funext fun v => xk_cat ad v
    rw [this]
    exact hcat
  refine xk_go (va_runS (As := As.map (xk_v ad)) (rest := rest.map (xk_v ad)) (n := n) ⟨C.1, C.2.1, C.2.2.1, C.2.2.2.2.2.1, C.2.2.2.2.1⟩ (hY hO1 l G ad H.size) ⟨xk_callB C hlk hcv hdd, C.2.2.2.2.1 _ hst⟩ ⟨xk_blind, fun U hU hW => xk_preK C hP hD hS As U hU hW⟩ rfl (by rw [List.length_map]; exact hn) hl.1 ?_ (lv_room hcat') hd ⟨hcs, hss⟩) hS (fun q _ h => hA q h) hA (fun r hs' ad' H1 locs1 ho hok hfx hP1 hD1 hS1 => ?_)
  · show List.map (xk_v ad) (As.reverse ++ rest) = _
    rw [List.map_append, List.map_reverse]
  · have hadd : ad' = ad := funext fun k => hfx k (fun h => by cases h)
    subst hadd
    have hl2 := hlen r hs' ho
    have h := kk r hs' ho (Nat.le_of_eq hl2.symm) G ad0 ad' p l e s m args below meth c A H1 locs1 la C hf hP1 (hD1.weaken fun _ q _ z => hA q.1 z) hS1 hl ⟨by rw [hl2]; exact O.1, fun v hv => by
      rcases List.mem_append.mp hv with h | h
      · exact hok.2.1 v h
      · rw [hl2]
        exact O.2.1 v (by simp [h]), hok.2.2⟩
    rw [List.map_append] at h
    cases r <;> exact h
/-- a constructor's call, which may make cells -/
theorem xk_callI {M' : xk_M} {d' n index b mc' ms' : Nat} {out' : Option Value → xk_H → Prop} (As rest : List Value) (hd : decode M.2.1 pc = .ok (.invokespecial index, 3)) (hlk : Cond.methodLink M.1.cls index M'.1 ∈ xk_WS) (hcv : xk_CV M' n) (hin : Cond.instanceMethod M'.1 ∈ xk_WS) (hnm : M'.1.name = "<init>") (hrt : M'.2.2.2 = none) (hdd : d' < d) (hcs : cs + mc' ≤ mc) (hss : ss + ms' ≤ ms) (hn : As.length = n) (hcat : (rest.map fun v => v.category).sum ≤ 8) (hfx0 : ∀ k, fx k → k < hs.length) (hY : xk_Y d' mc' ms' M' true (.ref b :: As) hs out')
    (hlen : ∀ (r : Option Value) (hs' : xk_H), out' r hs' → hs.length ≤ hs'.length) (kk : ∀ (r : Option Value) (hs' : xk_H), out' r hs' → xk_X d mc ms M fx out (cs + mc') (ss + ms') (pc + 3) ls (r.toList ++ rest) hs') : xk_X d mc ms M fx out cs ss pc ls (As.reverse ++ .ref b :: rest) hs := by
  intro G ad0 ad p l e s m args below meth c A H locs la C hf hP hD hS hl O
  have hO1 : xk_OK [] (.ref b :: As) hs := ⟨fun _ h => absurd h List.not_mem_nil, fun v hv => O.2.1 v (by
    rcases List.mem_cons.mp hv with rfl | hv
    · simp
    · simp [hv]), O.2.2⟩
  have hA := xk_allA C hD hS
  have hcat' : ((rest.map (xk_v ad)).map fun v => v.category).sum ≤ 8 := by
    rw [List.map_map]
    have : ((fun v : Value => v.category) ∘ xk_v ad) = fun v => v.category := funext fun v => xk_cat ad v
    rw [this]
    exact hcat
  have hB := xk_callB (M' := M') (mc' := mc') (ms' := ms') (mc := mc) (ms := ms) C hlk hcv hdd
  rw [hrt] at hB
  refine xk_go (va_runI (As := As.map (xk_v ad)) (rest := rest.map (xk_v ad)) (b := ad b) (n := n) ⟨C.1, C.2.1, C.2.2.1, C.2.2.2.2.2.1, C.2.2.2.2.1⟩ (hY hO1 l G ad H.size) ⟨hB, hnm, C.2.2.2.2.1 _ hin⟩ ⟨xk_blind, fun U hU hW => xk_preK C hP hD hS (.ref b :: As) U hU hW⟩ rfl (by rw [List.length_map]; exact hn) hl.1 ?_ (lv_room hcat') hd ⟨hcs, hss⟩) hS (fun q _ h => hA q h) hA (fun r hs' ad' H1 locs1 ho hok hfx hP1 hD1 hS1 => ?_)
  · show List.map (xk_v ad) (As.reverse ++ .ref b :: rest) = _
    rw [List.map_append, List.map_reverse]
    rfl
  · have hadd : ∀ k, k < hs.length → ad' k = ad k := fun k hk => hfx k (fun _ => hk)
    have hl2 := hlen r hs' ho
    have hrest : xk_okS hs.length rest := fun v hv => O.2.1 v (by simp [hv])
    have h := kk r hs' ho G ad0 ad' p l e s m args below meth c A H1 locs1 la C (fun k hk => (hadd k (hfx0 k hk)).trans (hf k hk)) hP1 (hD1.weaken fun _ q _ z => hA q.1 z) hS1 (by rw [xk_l_congr hadd ls 0 O.1]; exact hl) ⟨fun v hv => xk_ok_le hl2 v (O.1 v hv), fun v hv => by
      rcases List.mem_append.mp hv with h | h
      · exact hok.2.1 v h
      · exact xk_ok_le hl2 v (hrest v h), hok.2.2⟩
    rw [List.map_append, xk_vs_congr hadd hrest] at h
    cases r <;> exact h
/-- the same, of a nest mate's private constructor -/
theorem xk_callIN {M' : xk_M} {d' n index b mc' ms' : Nat} {host : String} {out' : Option Value → xk_H → Prop} (As rest : List Value) (hd : decode M.2.1 pc = .ok (.invokespecial index, 3)) (hlk : Cond.methodLinkNest M.1.cls index M'.1 host ∈ xk_nest) (hcv : xk_CV M' n) (hin : Cond.instanceMethod M'.1 ∈ xk_WS) (hnm : M'.1.name = "<init>") (hrt : M'.2.2.2 = none) (hdd : d' < d) (hcs : cs + mc' ≤ mc) (hss : ss + ms' ≤ ms) (hn : As.length = n) (hcat : (rest.map fun v => v.category).sum ≤ 8) (hfx0 : ∀ k, fx k → k < hs.length) (hY : xk_Y d' mc' ms' M' true (.ref b :: As) hs out')
    (hlen : ∀ (r : Option Value) (hs' : xk_H), out' r hs' → hs.length ≤ hs'.length) (kk : ∀ (r : Option Value) (hs' : xk_H), out' r hs' → xk_X d mc ms M fx out (cs + mc') (ss + ms') (pc + 3) ls (r.toList ++ rest) hs') : xk_X d mc ms M fx out cs ss pc ls (As.reverse ++ .ref b :: rest) hs := by
  intro G ad0 ad p l e s m args below meth c A H locs la C hf hP hD hS hl O
  have hO1 : xk_OK [] (.ref b :: As) hs := ⟨fun _ h => absurd h List.not_mem_nil, fun v hv => O.2.1 v (by
    rcases List.mem_cons.mp hv with rfl | hv
    · simp
    · simp [hv]), O.2.2⟩
  have hA := xk_allA C hD hS
  have hcat' : ((rest.map (xk_v ad)).map fun v => v.category).sum ≤ 8 := by
    rw [List.map_map]
    have : ((fun v : Value => v.category) ∘ xk_v ad) = fun v => v.category := funext fun v => xk_cat ad v
    rw [this]
    exact hcat
  have hB := xk_callN (M' := M') (mc' := mc') (ms' := ms') (mc := mc) (ms := ms) C hlk hcv hdd
  rw [hrt] at hB
  refine xk_go (va_runIN (As := As.map (xk_v ad)) (rest := rest.map (xk_v ad)) (b := ad b) (n := n) ⟨C.1, C.2.1, C.2.2.1, C.2.2.2.2.2.1, C.2.2.2.2.1⟩ (hY hO1 l G ad H.size) ⟨hB, hnm, C.2.2.2.2.1 _ hin⟩ ⟨xk_blind, fun U hU hW => xk_preK C hP hD hS (.ref b :: As) U hU hW⟩ rfl (by rw [List.length_map]; exact hn) hl.1 ?_ (lv_room hcat') hd ⟨hcs, hss⟩) hS (fun q _ h => hA q h) hA (fun r hs' ad' H1 locs1 ho hok hfx hP1 hD1 hS1 => ?_)
  · show List.map (xk_v ad) (As.reverse ++ .ref b :: rest) = _
    rw [List.map_append, List.map_reverse]
    rfl
  · have hadd : ∀ k, k < hs.length → ad' k = ad k := fun k hk => hfx k (fun _ => hk)
    have hl2 := hlen r hs' ho
    have hrest : xk_okS hs.length rest := fun v hv => O.2.1 v (by simp [hv])
    have h := kk r hs' ho G ad0 ad' p l e s m args below meth c A H1 locs1 la C (fun k hk => (hadd k (hfx0 k hk)).trans (hf k hk)) hP1 (hD1.weaken fun _ q _ z => hA q.1 z) hS1 (by rw [xk_l_congr hadd ls 0 O.1]; exact hl) ⟨fun v hv => xk_ok_le hl2 v (O.1 v hv), fun v hv => by
      rcases List.mem_append.mp hv with h | h
      · exact hok.2.1 v h
      · exact xk_ok_le hl2 v (hrest v h), hok.2.2⟩
    rw [List.map_append, xk_vs_congr hadd hrest] at h
    cases r <;> exact h
/-- Object's own constructor -/
theorem xk_objInit {idx a : Nat} {st : List Value} (hd : decode M.2.1 pc = .ok (.invokespecial idx, 3)) (hlk : Cond.methodLink M.1.cls idx objectInit ∈ xk_WS) (h1 : 1 ≤ d) (hcat : (st.map fun v => v.category).sum ≤ 8) (kk : xk_X d mc ms M fx out cs ss (pc + 3) ls st hs) : xk_X d mc ms M fx out cs ss pc ls (.ref a :: st) hs := by
  intro G ad0 ad p l e s m args below meth c A H locs la C hf hP hD hS hl O
  have hcat' : ((st.map (xk_v ad)).map fun v => v.category).sum ≤ 8 := by
    rw [List.map_map]
    have : ((fun v : Value => v.category) ∘ xk_v ad) = fun v => v.category := funext fun v => xk_cat ad v
    rw [this]
    exact hcat
  have hts := C.2.2.2.2.1
  refine W.objInit C.1 C.2.1 C.2.2.2.2.2.1 (hts _ hlk) (hts _ wo_instanceMethod_objectInit) (hts _ wo_code_objectInit_0xb1_1_none) rfl (by rw [C.2.2.1]; exact hl.1) rfl hd h1 ?_ (kk G ad0 ad p l e s m args below meth c A H locs la C hf hP hD hS hl ⟨O.1, xk_tl O.2.1, O.2.2⟩)
  have h2 := lv_room (m := m) (pc := pc) (ls := la) (rest := (Value.ref (ad a)) :: st.map (xk_v ad)) hcat'
  show _ + 12 ≤ 40 * d
  have h3 : 2 * (F0 m pc la (List.map (xk_v ad) (Value.ref a :: st))).monitorRoom + (List.map (fun v => v.category) (List.map (xk_v ad) st)).sum ≤ 8 := h2
  omega
end XKD
section XKE
variable {d mc ms : Nat} {M : xk_M} {fx : Nat → Prop} {out : Option Value → xk_H → Prop} {cs ss pc : Nat} {ls : List (Option Value)} {hs : xk_H}
theorem xk_callV0 {M' : xk_M} {d' index b ci : Nat} {fs : List Value} {r0 : vw_C} {out' : Option Value → xk_H → Prop} {rest : List Value} (hd : decode M.2.1 pc = .ok (.invokevirtual index, 3)) (hlk : Cond.methodLink M.1.cls index M'.1 ∈ xk_WS) (hcv : xk_CV M' 0) (hin : Cond.instanceMethod M'.1 ∈ xk_WS) (hse : Cond.selects M'.1.cls M'.1 M'.1 ∈ xk_WS) (hdd : d' < d) (hcs : cs ≤ mc) (hss : ss ≤ ms) (hc : vwCl[ci]? = some r0) (hcn : r0.1 = M'.1.cls) (he : hs[b]? = some (.inr (ci, fs))) (hcat : (rest.map fun v => v.category).sum ≤ 8) (hY : xk_Y d' 0 0 M' false (.ref b :: []) hs out')
    (hlen : ∀ (r : Option Value) (hs' : xk_H), out' r hs' → hs'.length = hs.length) (kk : ∀ (r : Option Value) (hs' : xk_H), out' r hs' → xk_X d mc ms M fx out cs ss (pc + 3) ls (r.toList ++ rest) hs') : xk_X d mc ms M fx out cs ss pc ls (.ref b :: rest) hs :=
  xk_callV [] rest hd hlk hcv hin hse hdd hcs hss he hc hcn rfl hcat hY (fun r hs' ho _ => kk r hs' ho) hlen
theorem xk_callV1 {M' : xk_M} {d' index b ci : Nat} {fs : List Value} {r0 : vw_C} {out' : Option Value → xk_H → Prop} {v0 : Value} {rest : List Value} (hd : decode M.2.1 pc = .ok (.invokevirtual index, 3)) (hlk : Cond.methodLink M.1.cls index M'.1 ∈ xk_WS) (hcv : xk_CV M' 1) (hin : Cond.instanceMethod M'.1 ∈ xk_WS) (hse : Cond.selects M'.1.cls M'.1 M'.1 ∈ xk_WS) (hdd : d' < d) (hcs : cs ≤ mc) (hss : ss ≤ ms) (hc : vwCl[ci]? = some r0) (hcn : r0.1 = M'.1.cls) (he : hs[b]? = some (.inr (ci, fs))) (hcat : (rest.map fun v => v.category).sum ≤ 8) (hY : xk_Y d' 0 0 M' false (.ref b :: [v0]) hs out')
    (hlen : ∀ (r : Option Value) (hs' : xk_H), out' r hs' → hs'.length = hs.length) (kk : ∀ (r : Option Value) (hs' : xk_H), out' r hs' → xk_X d mc ms M fx out cs ss (pc + 3) ls (r.toList ++ rest) hs') : xk_X d mc ms M fx out cs ss pc ls (v0 :: .ref b :: rest) hs :=
  xk_callV [v0] rest hd hlk hcv hin hse hdd hcs hss he hc hcn rfl hcat hY (fun r hs' ho _ => kk r hs' ho) hlen
theorem xk_callV2 {M' : xk_M} {d' index b ci : Nat} {fs : List Value} {r0 : vw_C} {out' : Option Value → xk_H → Prop} {v0 v1 : Value} {rest : List Value} (hd : decode M.2.1 pc = .ok (.invokevirtual index, 3)) (hlk : Cond.methodLink M.1.cls index M'.1 ∈ xk_WS) (hcv : xk_CV M' 2) (hin : Cond.instanceMethod M'.1 ∈ xk_WS) (hse : Cond.selects M'.1.cls M'.1 M'.1 ∈ xk_WS) (hdd : d' < d) (hcs : cs ≤ mc) (hss : ss ≤ ms) (hc : vwCl[ci]? = some r0) (hcn : r0.1 = M'.1.cls) (he : hs[b]? = some (.inr (ci, fs))) (hcat : (rest.map fun v => v.category).sum ≤ 8) (hY : xk_Y d' 0 0 M' false (.ref b :: [v0, v1]) hs out')
    (hlen : ∀ (r : Option Value) (hs' : xk_H), out' r hs' → hs'.length = hs.length) (kk : ∀ (r : Option Value) (hs' : xk_H), out' r hs' → xk_X d mc ms M fx out cs ss (pc + 3) ls (r.toList ++ rest) hs') : xk_X d mc ms M fx out cs ss pc ls (v1 :: v0 :: .ref b :: rest) hs :=
  xk_callV [v0, v1] rest hd hlk hcv hin hse hdd hcs hss he hc hcn rfl hcat hY (fun r hs' ho _ => kk r hs' ho) hlen
theorem xk_callV3 {M' : xk_M} {d' index b ci : Nat} {fs : List Value} {r0 : vw_C} {out' : Option Value → xk_H → Prop} {v0 v1 v2 : Value} {rest : List Value} (hd : decode M.2.1 pc = .ok (.invokevirtual index, 3)) (hlk : Cond.methodLink M.1.cls index M'.1 ∈ xk_WS) (hcv : xk_CV M' 3) (hin : Cond.instanceMethod M'.1 ∈ xk_WS) (hse : Cond.selects M'.1.cls M'.1 M'.1 ∈ xk_WS) (hdd : d' < d) (hcs : cs ≤ mc) (hss : ss ≤ ms) (hc : vwCl[ci]? = some r0) (hcn : r0.1 = M'.1.cls) (he : hs[b]? = some (.inr (ci, fs))) (hcat : (rest.map fun v => v.category).sum ≤ 8) (hY : xk_Y d' 0 0 M' false (.ref b :: [v0, v1, v2]) hs out')
    (hlen : ∀ (r : Option Value) (hs' : xk_H), out' r hs' → hs'.length = hs.length) (kk : ∀ (r : Option Value) (hs' : xk_H), out' r hs' → xk_X d mc ms M fx out cs ss (pc + 3) ls (r.toList ++ rest) hs') : xk_X d mc ms M fx out cs ss pc ls (v2 :: v1 :: v0 :: .ref b :: rest) hs :=
  xk_callV [v0, v1, v2] rest hd hlk hcv hin hse hdd hcs hss he hc hcn rfl hcat hY (fun r hs' ho _ => kk r hs' ho) hlen
theorem xk_callV4 {M' : xk_M} {d' index b ci : Nat} {fs : List Value} {r0 : vw_C} {out' : Option Value → xk_H → Prop} {v0 v1 v2 v3 : Value} {rest : List Value} (hd : decode M.2.1 pc = .ok (.invokevirtual index, 3)) (hlk : Cond.methodLink M.1.cls index M'.1 ∈ xk_WS) (hcv : xk_CV M' 4) (hin : Cond.instanceMethod M'.1 ∈ xk_WS) (hse : Cond.selects M'.1.cls M'.1 M'.1 ∈ xk_WS) (hdd : d' < d) (hcs : cs ≤ mc) (hss : ss ≤ ms) (hc : vwCl[ci]? = some r0) (hcn : r0.1 = M'.1.cls) (he : hs[b]? = some (.inr (ci, fs))) (hcat : (rest.map fun v => v.category).sum ≤ 8) (hY : xk_Y d' 0 0 M' false (.ref b :: [v0, v1, v2, v3]) hs out')
    (hlen : ∀ (r : Option Value) (hs' : xk_H), out' r hs' → hs'.length = hs.length) (kk : ∀ (r : Option Value) (hs' : xk_H), out' r hs' → xk_X d mc ms M fx out cs ss (pc + 3) ls (r.toList ++ rest) hs') : xk_X d mc ms M fx out cs ss pc ls (v3 :: v2 :: v1 :: v0 :: .ref b :: rest) hs :=
  xk_callV [v0, v1, v2, v3] rest hd hlk hcv hin hse hdd hcs hss he hc hcn rfl hcat hY (fun r hs' ho _ => kk r hs' ho) hlen
theorem xk_callV5 {M' : xk_M} {d' index b ci : Nat} {fs : List Value} {r0 : vw_C} {out' : Option Value → xk_H → Prop} {v0 v1 v2 v3 v4 : Value} {rest : List Value} (hd : decode M.2.1 pc = .ok (.invokevirtual index, 3)) (hlk : Cond.methodLink M.1.cls index M'.1 ∈ xk_WS) (hcv : xk_CV M' 5) (hin : Cond.instanceMethod M'.1 ∈ xk_WS) (hse : Cond.selects M'.1.cls M'.1 M'.1 ∈ xk_WS) (hdd : d' < d) (hcs : cs ≤ mc) (hss : ss ≤ ms) (hc : vwCl[ci]? = some r0) (hcn : r0.1 = M'.1.cls) (he : hs[b]? = some (.inr (ci, fs))) (hcat : (rest.map fun v => v.category).sum ≤ 8) (hY : xk_Y d' 0 0 M' false (.ref b :: [v0, v1, v2, v3, v4]) hs out')
    (hlen : ∀ (r : Option Value) (hs' : xk_H), out' r hs' → hs'.length = hs.length) (kk : ∀ (r : Option Value) (hs' : xk_H), out' r hs' → xk_X d mc ms M fx out cs ss (pc + 3) ls (r.toList ++ rest) hs') : xk_X d mc ms M fx out cs ss pc ls (v4 :: v3 :: v2 :: v1 :: v0 :: .ref b :: rest) hs :=
  xk_callV [v0, v1, v2, v3, v4] rest hd hlk hcv hin hse hdd hcs hss he hc hcn rfl hcat hY (fun r hs' ho _ => kk r hs' ho) hlen
theorem xk_callV6 {M' : xk_M} {d' index b ci : Nat} {fs : List Value} {r0 : vw_C} {out' : Option Value → xk_H → Prop} {v0 v1 v2 v3 v4 v5 : Value} {rest : List Value} (hd : decode M.2.1 pc = .ok (.invokevirtual index, 3)) (hlk : Cond.methodLink M.1.cls index M'.1 ∈ xk_WS) (hcv : xk_CV M' 6) (hin : Cond.instanceMethod M'.1 ∈ xk_WS) (hse : Cond.selects M'.1.cls M'.1 M'.1 ∈ xk_WS) (hdd : d' < d) (hcs : cs ≤ mc) (hss : ss ≤ ms) (hc : vwCl[ci]? = some r0) (hcn : r0.1 = M'.1.cls) (he : hs[b]? = some (.inr (ci, fs))) (hcat : (rest.map fun v => v.category).sum ≤ 8) (hY : xk_Y d' 0 0 M' false (.ref b :: [v0, v1, v2, v3, v4, v5]) hs out')
    (hlen : ∀ (r : Option Value) (hs' : xk_H), out' r hs' → hs'.length = hs.length) (kk : ∀ (r : Option Value) (hs' : xk_H), out' r hs' → xk_X d mc ms M fx out cs ss (pc + 3) ls (r.toList ++ rest) hs') : xk_X d mc ms M fx out cs ss pc ls (v5 :: v4 :: v3 :: v2 :: v1 :: v0 :: .ref b :: rest) hs :=
  xk_callV [v0, v1, v2, v3, v4, v5] rest hd hlk hcv hin hse hdd hcs hss he hc hcn rfl hcat hY (fun r hs' ho _ => kk r hs' ho) hlen
theorem xk_callS0 {M' : xk_M} {d' index : Nat} {out' : Option Value → xk_H → Prop} {rest : List Value} (hd : decode M.2.1 pc = .ok (.invokestatic index, 3)) (hlk : Cond.methodLink M.1.cls index M'.1 ∈ xk_WS) (hcv : xk_CV M' 0) (hst : Cond.static M'.1 ∈ xk_WS) (hdd : d' < d) (hcs : cs ≤ mc) (hss : ss ≤ ms) (hcat : (rest.map fun v => v.category).sum ≤ 8) (hY : xk_Y d' 0 0 M' false [] hs out')
    (hlen : ∀ (r : Option Value) (hs' : xk_H), out' r hs' → hs'.length = hs.length) (kk : ∀ (r : Option Value) (hs' : xk_H), out' r hs' → xk_X d mc ms M fx out cs ss (pc + 3) ls (r.toList ++ rest) hs') : xk_X d mc ms M fx out cs ss pc ls (rest) hs :=
  xk_callS [] rest hd hlk hcv hst hdd hcs hss rfl hcat hY (fun r hs' ho _ => kk r hs' ho) hlen
theorem xk_callS1 {M' : xk_M} {d' index : Nat} {out' : Option Value → xk_H → Prop} {v0 : Value} {rest : List Value} (hd : decode M.2.1 pc = .ok (.invokestatic index, 3)) (hlk : Cond.methodLink M.1.cls index M'.1 ∈ xk_WS) (hcv : xk_CV M' 1) (hst : Cond.static M'.1 ∈ xk_WS) (hdd : d' < d) (hcs : cs ≤ mc) (hss : ss ≤ ms) (hcat : (rest.map fun v => v.category).sum ≤ 8) (hY : xk_Y d' 0 0 M' false [v0] hs out')
    (hlen : ∀ (r : Option Value) (hs' : xk_H), out' r hs' → hs'.length = hs.length) (kk : ∀ (r : Option Value) (hs' : xk_H), out' r hs' → xk_X d mc ms M fx out cs ss (pc + 3) ls (r.toList ++ rest) hs') : xk_X d mc ms M fx out cs ss pc ls (v0 :: rest) hs :=
  xk_callS [v0] rest hd hlk hcv hst hdd hcs hss rfl hcat hY (fun r hs' ho _ => kk r hs' ho) hlen
theorem xk_callS2 {M' : xk_M} {d' index : Nat} {out' : Option Value → xk_H → Prop} {v0 v1 : Value} {rest : List Value} (hd : decode M.2.1 pc = .ok (.invokestatic index, 3)) (hlk : Cond.methodLink M.1.cls index M'.1 ∈ xk_WS) (hcv : xk_CV M' 2) (hst : Cond.static M'.1 ∈ xk_WS) (hdd : d' < d) (hcs : cs ≤ mc) (hss : ss ≤ ms) (hcat : (rest.map fun v => v.category).sum ≤ 8) (hY : xk_Y d' 0 0 M' false [v0, v1] hs out')
    (hlen : ∀ (r : Option Value) (hs' : xk_H), out' r hs' → hs'.length = hs.length) (kk : ∀ (r : Option Value) (hs' : xk_H), out' r hs' → xk_X d mc ms M fx out cs ss (pc + 3) ls (r.toList ++ rest) hs') : xk_X d mc ms M fx out cs ss pc ls (v1 :: v0 :: rest) hs :=
  xk_callS [v0, v1] rest hd hlk hcv hst hdd hcs hss rfl hcat hY (fun r hs' ho _ => kk r hs' ho) hlen
theorem xk_callS3 {M' : xk_M} {d' index : Nat} {out' : Option Value → xk_H → Prop} {v0 v1 v2 : Value} {rest : List Value} (hd : decode M.2.1 pc = .ok (.invokestatic index, 3)) (hlk : Cond.methodLink M.1.cls index M'.1 ∈ xk_WS) (hcv : xk_CV M' 3) (hst : Cond.static M'.1 ∈ xk_WS) (hdd : d' < d) (hcs : cs ≤ mc) (hss : ss ≤ ms) (hcat : (rest.map fun v => v.category).sum ≤ 8) (hY : xk_Y d' 0 0 M' false [v0, v1, v2] hs out')
    (hlen : ∀ (r : Option Value) (hs' : xk_H), out' r hs' → hs'.length = hs.length) (kk : ∀ (r : Option Value) (hs' : xk_H), out' r hs' → xk_X d mc ms M fx out cs ss (pc + 3) ls (r.toList ++ rest) hs') : xk_X d mc ms M fx out cs ss pc ls (v2 :: v1 :: v0 :: rest) hs :=
  xk_callS [v0, v1, v2] rest hd hlk hcv hst hdd hcs hss rfl hcat hY (fun r hs' ho _ => kk r hs' ho) hlen
theorem xk_callS4 {M' : xk_M} {d' index : Nat} {out' : Option Value → xk_H → Prop} {v0 v1 v2 v3 : Value} {rest : List Value} (hd : decode M.2.1 pc = .ok (.invokestatic index, 3)) (hlk : Cond.methodLink M.1.cls index M'.1 ∈ xk_WS) (hcv : xk_CV M' 4) (hst : Cond.static M'.1 ∈ xk_WS) (hdd : d' < d) (hcs : cs ≤ mc) (hss : ss ≤ ms) (hcat : (rest.map fun v => v.category).sum ≤ 8) (hY : xk_Y d' 0 0 M' false [v0, v1, v2, v3] hs out')
    (hlen : ∀ (r : Option Value) (hs' : xk_H), out' r hs' → hs'.length = hs.length) (kk : ∀ (r : Option Value) (hs' : xk_H), out' r hs' → xk_X d mc ms M fx out cs ss (pc + 3) ls (r.toList ++ rest) hs') : xk_X d mc ms M fx out cs ss pc ls (v3 :: v2 :: v1 :: v0 :: rest) hs :=
  xk_callS [v0, v1, v2, v3] rest hd hlk hcv hst hdd hcs hss rfl hcat hY (fun r hs' ho _ => kk r hs' ho) hlen
theorem xk_callI0 {M' : xk_M} {d' index b mc' ms' : Nat} {out' : Option Value → xk_H → Prop} {rest : List Value} (hd : decode M.2.1 pc = .ok (.invokespecial index, 3)) (hlk : Cond.methodLink M.1.cls index M'.1 ∈ xk_WS) (hcv : xk_CV M' 0) (hin : Cond.instanceMethod M'.1 ∈ xk_WS) (hnm : M'.1.name = "<init>") (hrt : M'.2.2.2 = none) (hdd : d' < d) (hcs : cs + mc' ≤ mc) (hss : ss + ms' ≤ ms) (hcat : (rest.map fun v => v.category).sum ≤ 8) (hfx0 : ∀ k, fx k → k < hs.length) (hY : xk_Y d' mc' ms' M' true (.ref b :: []) hs out')
    (hlen : ∀ (r : Option Value) (hs' : xk_H), out' r hs' → hs.length ≤ hs'.length) (kk : ∀ (r : Option Value) (hs' : xk_H), out' r hs' → xk_X d mc ms M fx out (cs + mc') (ss + ms') (pc + 3) ls (r.toList ++ rest) hs') : xk_X d mc ms M fx out cs ss pc ls (.ref b :: rest) hs :=
  xk_callI [] rest hd hlk hcv hin hnm hrt hdd hcs hss rfl hcat hfx0 hY hlen kk
theorem xk_callI1 {M' : xk_M} {d' index b mc' ms' : Nat} {out' : Option Value → xk_H → Prop} {v0 : Value} {rest : List Value} (hd : decode M.2.1 pc = .ok (.invokespecial index, 3)) (hlk : Cond.methodLink M.1.cls index M'.1 ∈ xk_WS) (hcv : xk_CV M' 1) (hin : Cond.instanceMethod M'.1 ∈ xk_WS) (hnm : M'.1.name = "<init>") (hrt : M'.2.2.2 = none) (hdd : d' < d) (hcs : cs + mc' ≤ mc) (hss : ss + ms' ≤ ms) (hcat : (rest.map fun v => v.category).sum ≤ 8) (hfx0 : ∀ k, fx k → k < hs.length) (hY : xk_Y d' mc' ms' M' true (.ref b :: [v0]) hs out')
    (hlen : ∀ (r : Option Value) (hs' : xk_H), out' r hs' → hs.length ≤ hs'.length) (kk : ∀ (r : Option Value) (hs' : xk_H), out' r hs' → xk_X d mc ms M fx out (cs + mc') (ss + ms') (pc + 3) ls (r.toList ++ rest) hs') : xk_X d mc ms M fx out cs ss pc ls (v0 :: .ref b :: rest) hs :=
  xk_callI [v0] rest hd hlk hcv hin hnm hrt hdd hcs hss rfl hcat hfx0 hY hlen kk
theorem xk_callIN0 {M' : xk_M} {d' index b mc' ms' : Nat} {host : String} {out' : Option Value → xk_H → Prop} {rest : List Value} (hd : decode M.2.1 pc = .ok (.invokespecial index, 3)) (hlk : Cond.methodLinkNest M.1.cls index M'.1 host ∈ xk_nest) (hcv : xk_CV M' 0) (hin : Cond.instanceMethod M'.1 ∈ xk_WS) (hnm : M'.1.name = "<init>") (hrt : M'.2.2.2 = none) (hdd : d' < d) (hcs : cs + mc' ≤ mc) (hss : ss + ms' ≤ ms) (hcat : (rest.map fun v => v.category).sum ≤ 8) (hfx0 : ∀ k, fx k → k < hs.length) (hY : xk_Y d' mc' ms' M' true (.ref b :: []) hs out')
    (hlen : ∀ (r : Option Value) (hs' : xk_H), out' r hs' → hs.length ≤ hs'.length) (kk : ∀ (r : Option Value) (hs' : xk_H), out' r hs' → xk_X d mc ms M fx out (cs + mc') (ss + ms') (pc + 3) ls (r.toList ++ rest) hs') : xk_X d mc ms M fx out cs ss pc ls (.ref b :: rest) hs :=
  xk_callIN [] rest hd hlk hcv hin hnm hrt hdd hcs hss rfl hcat hfx0 hY hlen kk
theorem xk_callIN1 {M' : xk_M} {d' index b mc' ms' : Nat} {host : String} {out' : Option Value → xk_H → Prop} {v0 : Value} {rest : List Value} (hd : decode M.2.1 pc = .ok (.invokespecial index, 3)) (hlk : Cond.methodLinkNest M.1.cls index M'.1 host ∈ xk_nest) (hcv : xk_CV M' 1) (hin : Cond.instanceMethod M'.1 ∈ xk_WS) (hnm : M'.1.name = "<init>") (hrt : M'.2.2.2 = none) (hdd : d' < d) (hcs : cs + mc' ≤ mc) (hss : ss + ms' ≤ ms) (hcat : (rest.map fun v => v.category).sum ≤ 8) (hfx0 : ∀ k, fx k → k < hs.length) (hY : xk_Y d' mc' ms' M' true (.ref b :: [v0]) hs out')
    (hlen : ∀ (r : Option Value) (hs' : xk_H), out' r hs' → hs.length ≤ hs'.length) (kk : ∀ (r : Option Value) (hs' : xk_H), out' r hs' → xk_X d mc ms M fx out (cs + mc') (ss + ms') (pc + 3) ls (r.toList ++ rest) hs') : xk_X d mc ms M fx out cs ss pc ls (v0 :: .ref b :: rest) hs :=
  xk_callIN [v0] rest hd hlk hcv hin hnm hrt hdd hcs hss rfl hcat hfx0 hY hlen kk
end XKE
end
