section
-- ===== PART A: goes FIRST, ahead of the names: the tables' words, and 'selects' of the private methods out of them =====
/-- a private method of a class that the tables say can be made, by its rows of tables_1 -/
def lw_okq (q : MethodName × Nat) : Prop := (q.1.cls ≠ "java/lang/invoke/MethodHandle" ∧ q.1.cls ≠ "java/lang/invoke/VarHandle") ∧ Cond.instantiable q.1.cls q.2 ∈ tables_1 ∧ Cond.privateMethod q.1 ∈ tables_1 ∧ Cond.instanceMethod q.1 ∈ tables_1
theorem lw_p0 : lw_okq (⟨"PairScales$Rings", "extend", "(LPairScales$Table;IIIIJ)V"⟩, 2) := ⟨⟨by decide +kernel, by decide +kernel⟩, List.mem_of_getElem? (i := 78) (by decide +kernel), List.mem_of_getElem? (i := 268) (by decide +kernel), List.mem_of_getElem? (i := 269) (by decide +kernel)⟩
theorem lw_p1 : lw_okq (⟨"PairScales$Rings", "close", "(IJ)V"⟩, 2) := ⟨⟨by decide +kernel, by decide +kernel⟩, List.mem_of_getElem? (i := 78) (by decide +kernel), List.mem_of_getElem? (i := 277) (by decide +kernel), List.mem_of_getElem? (i := 278) (by decide +kernel)⟩
theorem lw_p2 : lw_okq (⟨"PairScales$WorstThree", "compare", "(LPairScales$Table;III)V"⟩, 5) := ⟨⟨by decide +kernel, by decide +kernel⟩, List.mem_of_getElem? (i := 52) (by decide +kernel), List.mem_of_getElem? (i := 292) (by decide +kernel), List.mem_of_getElem? (i := 293) (by decide +kernel)⟩
theorem lw_p3 : lw_okq (⟨"PairScales$TreeCount", "fill", "(LPairScales$Table;)V"⟩, 2) := ⟨⟨by decide +kernel, by decide +kernel⟩, List.mem_of_getElem? (i := 92) (by decide +kernel), List.mem_of_getElem? (i := 313) (by decide +kernel), List.mem_of_getElem? (i := 314) (by decide +kernel)⟩
theorem lw_p4 : lw_okq (⟨"PairScales$TreeCount", "eliminate", "(III)V"⟩, 2) := ⟨⟨by decide +kernel, by decide +kernel⟩, List.mem_of_getElem? (i := 92) (by decide +kernel), List.mem_of_getElem? (i := 318) (by decide +kernel), List.mem_of_getElem? (i := 319) (by decide +kernel)⟩
theorem lw_p5 : lw_okq (⟨"PairScales$Leaving", "settle", "(LPairScales$Table;IIII)V"⟩, 8) := ⟨⟨by decide +kernel, by decide +kernel⟩, List.mem_of_getElem? (i := 108) (by decide +kernel), List.mem_of_getElem? (i := 330) (by decide +kernel), List.mem_of_getElem? (i := 331) (by decide +kernel)⟩
theorem lw_p6 : lw_okq (⟨"PairScales$Leaving", "join", "(IIII)V"⟩, 8) := ⟨⟨by decide +kernel, by decide +kernel⟩, List.mem_of_getElem? (i := 108) (by decide +kernel), List.mem_of_getElem? (i := 346) (by decide +kernel), List.mem_of_getElem? (i := 347) (by decide +kernel)⟩
theorem lw_p7 : lw_okq (⟨"PairScales", "productOfRow", "(I)J"⟩, 8) := ⟨⟨by decide +kernel, by decide +kernel⟩, List.mem_of_getElem? (i := 15) (by decide +kernel), List.mem_of_getElem? (i := 363) (by decide +kernel), List.mem_of_getElem? (i := 364) (by decide +kernel)⟩
theorem lw_p8 : lw_okq (⟨"PairScales", "sizeOfGreatestRoot", "()I"⟩, 8) := ⟨⟨by decide +kernel, by decide +kernel⟩, List.mem_of_getElem? (i := 15) (by decide +kernel), List.mem_of_getElem? (i := 378) (by decide +kernel), List.mem_of_getElem? (i := 379) (by decide +kernel)⟩
theorem lw_p9 : lw_okq (⟨"PairScales", "greatestWay", "(IIIIJ)J"⟩, 8) := ⟨⟨by decide +kernel, by decide +kernel⟩, List.mem_of_getElem? (i := 15) (by decide +kernel), List.mem_of_getElem? (i := 419) (by decide +kernel), List.mem_of_getElem? (i := 420) (by decide +kernel)⟩
theorem lw_p10 : lw_okq (⟨"PairScalesModel", "areTwo", "(II)Z"⟩, 25) := ⟨⟨by decide +kernel, by decide +kernel⟩, List.mem_of_getElem? (i := 430) (by decide +kernel), List.mem_of_getElem? (i := 519) (by decide +kernel), List.mem_of_getElem? (i := 520) (by decide +kernel)⟩
theorem lw_p11 : lw_okq (⟨"PairScalesModel", "pair", "(II)I"⟩, 25) := ⟨⟨by decide +kernel, by decide +kernel⟩, List.mem_of_getElem? (i := 430) (by decide +kernel), List.mem_of_getElem? (i := 529) (by decide +kernel), List.mem_of_getElem? (i := 530) (by decide +kernel)⟩
theorem lw_p12 : lw_okq (⟨"PairScalesModel", "isSaid", "(II)Z"⟩, 25) := ⟨⟨by decide +kernel, by decide +kernel⟩, List.mem_of_getElem? (i := 430) (by decide +kernel), List.mem_of_getElem? (i := 541) (by decide +kernel), List.mem_of_getElem? (i := 542) (by decide +kernel)⟩
theorem lw_p13 : lw_okq (⟨"PairScalesModel", "topOf", "(II)I"⟩, 25) := ⟨⟨by decide +kernel, by decide +kernel⟩, List.mem_of_getElem? (i := 430) (by decide +kernel), List.mem_of_getElem? (i := 545) (by decide +kernel), List.mem_of_getElem? (i := 546) (by decide +kernel)⟩
theorem lw_p14 : lw_okq (⟨"PairScalesModel", "bottomOf", "(II)I"⟩, 25) := ⟨⟨by decide +kernel, by decide +kernel⟩, List.mem_of_getElem? (i := 430) (by decide +kernel), List.mem_of_getElem? (i := 549) (by decide +kernel), List.mem_of_getElem? (i := 550) (by decide +kernel)⟩
theorem lw_p15 : lw_okq (⟨"PairScalesModel", "all", "()I"⟩, 25) := ⟨⟨by decide +kernel, by decide +kernel⟩, List.mem_of_getElem? (i := 430) (by decide +kernel), List.mem_of_getElem? (i := 557) (by decide +kernel), List.mem_of_getElem? (i := 558) (by decide +kernel)⟩
def lw_privs_1 : List (MethodName × Nat) := [(⟨"PairScales$Rings", "extend", "(LPairScales$Table;IIIIJ)V"⟩, 2), (⟨"PairScales$Rings", "close", "(IJ)V"⟩, 2), (⟨"PairScales$WorstThree", "compare", "(LPairScales$Table;III)V"⟩, 5), (⟨"PairScales$TreeCount", "fill", "(LPairScales$Table;)V"⟩, 2), (⟨"PairScales$TreeCount", "eliminate", "(III)V"⟩, 2), (⟨"PairScales$Leaving", "settle", "(LPairScales$Table;IIII)V"⟩, 8), (⟨"PairScales$Leaving", "join", "(IIII)V"⟩, 8), (⟨"PairScales", "productOfRow", "(I)J"⟩, 8), (⟨"PairScales", "sizeOfGreatestRoot", "()I"⟩, 8), (⟨"PairScales", "greatestWay", "(IIIIJ)J"⟩, 8), (⟨"PairScalesModel", "areTwo", "(II)Z"⟩, 25), (⟨"PairScalesModel", "pair", "(II)I"⟩, 25), (⟨"PairScalesModel", "isSaid", "(II)Z"⟩, 25), (⟨"PairScalesModel", "topOf", "(II)I"⟩, 25), (⟨"PairScalesModel", "bottomOf", "(II)I"⟩, 25), (⟨"PairScalesModel", "all", "()I"⟩, 25)]
theorem lw_r1 : ∀ q ∈ lw_privs_1, lw_okq q := List.forall_mem_cons.mpr ⟨lw_p0, List.forall_mem_cons.mpr ⟨lw_p1, List.forall_mem_cons.mpr ⟨lw_p2, List.forall_mem_cons.mpr ⟨lw_p3, List.forall_mem_cons.mpr ⟨lw_p4, List.forall_mem_cons.mpr ⟨lw_p5, List.forall_mem_cons.mpr ⟨lw_p6, List.forall_mem_cons.mpr ⟨lw_p7, List.forall_mem_cons.mpr ⟨lw_p8, List.forall_mem_cons.mpr ⟨lw_p9, List.forall_mem_cons.mpr ⟨lw_p10, List.forall_mem_cons.mpr ⟨lw_p11, List.forall_mem_cons.mpr ⟨lw_p12, List.forall_mem_cons.mpr ⟨lw_p13, List.forall_mem_cons.mpr ⟨lw_p14, List.forall_mem_cons.mpr ⟨lw_p15, fun _ h => absurd h List.not_mem_nil⟩⟩⟩⟩⟩⟩⟩⟩⟩⟩⟩⟩⟩⟩⟩⟩
theorem lw_p16 : lw_okq (⟨"PairScalesModel", "fits", "(I)Z"⟩, 25) := ⟨⟨by decide +kernel, by decide +kernel⟩, List.mem_of_getElem? (i := 430) (by decide +kernel), List.mem_of_getElem? (i := 561) (by decide +kernel), List.mem_of_getElem? (i := 562) (by decide +kernel)⟩
theorem lw_p17 : lw_okq (⟨"PairScalesModel", "leastHeap", "()I"⟩, 25) := ⟨⟨by decide +kernel, by decide +kernel⟩, List.mem_of_getElem? (i := 430) (by decide +kernel), List.mem_of_getElem? (i := 579) (by decide +kernel), List.mem_of_getElem? (i := 580) (by decide +kernel)⟩
theorem lw_p18 : lw_okq (⟨"PairScalesModel", "findsWorst", "()Z"⟩, 25) := ⟨⟨by decide +kernel, by decide +kernel⟩, List.mem_of_getElem? (i := 430) (by decide +kernel), List.mem_of_getElem? (i := 591) (by decide +kernel), List.mem_of_getElem? (i := 592) (by decide +kernel)⟩
theorem lw_p19 : lw_okq (⟨"PairScalesModel", "areAllSaid", "()Z"⟩, 25) := ⟨⟨by decide +kernel, by decide +kernel⟩, List.mem_of_getElem? (i := 430) (by decide +kernel), List.mem_of_getElem? (i := 599) (by decide +kernel), List.mem_of_getElem? (i := 600) (by decide +kernel)⟩
theorem lw_p20 : lw_okq (⟨"PairScalesModel", "rowPart", "(IZ)J"⟩, 25) := ⟨⟨by decide +kernel, by decide +kernel⟩, List.mem_of_getElem? (i := 430) (by decide +kernel), List.mem_of_getElem? (i := 603) (by decide +kernel), List.mem_of_getElem? (i := 604) (by decide +kernel)⟩
theorem lw_p21 : lw_okq (⟨"PairScalesModel", "rings", "(IJJ)V"⟩, 25) := ⟨⟨by decide +kernel, by decide +kernel⟩, List.mem_of_getElem? (i := 430) (by decide +kernel), List.mem_of_getElem? (i := 615) (by decide +kernel), List.mem_of_getElem? (i := 616) (by decide +kernel)⟩
theorem lw_p22 : lw_okq (⟨"PairScalesModel", "ring", "(JJI)V"⟩, 25) := ⟨⟨by decide +kernel, by decide +kernel⟩, List.mem_of_getElem? (i := 430) (by decide +kernel), List.mem_of_getElem? (i := 619) (by decide +kernel), List.mem_of_getElem? (i := 620) (by decide +kernel)⟩
theorem lw_p23 : lw_okq (⟨"PairScalesModel", "compare", "(JJI)I"⟩, 25) := ⟨⟨by decide +kernel, by decide +kernel⟩, List.mem_of_getElem? (i := 430) (by decide +kernel), List.mem_of_getElem? (i := 629) (by decide +kernel), List.mem_of_getElem? (i := 630) (by decide +kernel)⟩
theorem lw_p24 : lw_okq (⟨"PairScalesModel", "goes", "(II)V"⟩, 25) := ⟨⟨by decide +kernel, by decide +kernel⟩, List.mem_of_getElem? (i := 430) (by decide +kernel), List.mem_of_getElem? (i := 652) (by decide +kernel), List.mem_of_getElem? (i := 653) (by decide +kernel)⟩
theorem lw_p25 : lw_okq (⟨"PairScalesModel", "ways", "(IIJJ)V"⟩, 25) := ⟨⟨by decide +kernel, by decide +kernel⟩, List.mem_of_getElem? (i := 430) (by decide +kernel), List.mem_of_getElem? (i := 656) (by decide +kernel), List.mem_of_getElem? (i := 657) (by decide +kernel)⟩
theorem lw_p26 : lw_okq (⟨"PairScalesModel", "isSpan", "(II)Z"⟩, 25) := ⟨⟨by decide +kernel, by decide +kernel⟩, List.mem_of_getElem? (i := 430) (by decide +kernel), List.mem_of_getElem? (i := 660) (by decide +kernel), List.mem_of_getElem? (i := 661) (by decide +kernel)⟩
theorem lw_p27 : lw_okq (⟨"PairScalesModel", "lowOver", "(II)I"⟩, 25) := ⟨⟨by decide +kernel, by decide +kernel⟩, List.mem_of_getElem? (i := 430) (by decide +kernel), List.mem_of_getElem? (i := 664) (by decide +kernel), List.mem_of_getElem? (i := 665) (by decide +kernel)⟩
theorem lw_p28 : lw_okq (⟨"PairScalesModel", "lowUnder", "(II)I"⟩, 25) := ⟨⟨by decide +kernel, by decide +kernel⟩, List.mem_of_getElem? (i := 430) (by decide +kernel), List.mem_of_getElem? (i := 668) (by decide +kernel), List.mem_of_getElem? (i := 669) (by decide +kernel)⟩
def lw_privs_2 : List (MethodName × Nat) := [(⟨"PairScalesModel", "fits", "(I)Z"⟩, 25), (⟨"PairScalesModel", "leastHeap", "()I"⟩, 25), (⟨"PairScalesModel", "findsWorst", "()Z"⟩, 25), (⟨"PairScalesModel", "areAllSaid", "()Z"⟩, 25), (⟨"PairScalesModel", "rowPart", "(IZ)J"⟩, 25), (⟨"PairScalesModel", "rings", "(IJJ)V"⟩, 25), (⟨"PairScalesModel", "ring", "(JJI)V"⟩, 25), (⟨"PairScalesModel", "compare", "(JJI)I"⟩, 25), (⟨"PairScalesModel", "goes", "(II)V"⟩, 25), (⟨"PairScalesModel", "ways", "(IIJJ)V"⟩, 25), (⟨"PairScalesModel", "isSpan", "(II)Z"⟩, 25), (⟨"PairScalesModel", "lowOver", "(II)I"⟩, 25), (⟨"PairScalesModel", "lowUnder", "(II)I"⟩, 25)]
theorem lw_r2 : ∀ q ∈ lw_privs_2, lw_okq q := List.forall_mem_cons.mpr ⟨lw_p16, List.forall_mem_cons.mpr ⟨lw_p17, List.forall_mem_cons.mpr ⟨lw_p18, List.forall_mem_cons.mpr ⟨lw_p19, List.forall_mem_cons.mpr ⟨lw_p20, List.forall_mem_cons.mpr ⟨lw_p21, List.forall_mem_cons.mpr ⟨lw_p22, List.forall_mem_cons.mpr ⟨lw_p23, List.forall_mem_cons.mpr ⟨lw_p24, List.forall_mem_cons.mpr ⟨lw_p25, List.forall_mem_cons.mpr ⟨lw_p26, List.forall_mem_cons.mpr ⟨lw_p27, List.forall_mem_cons.mpr ⟨lw_p28, fun _ h => absurd h List.not_mem_nil⟩⟩⟩⟩⟩⟩⟩⟩⟩⟩⟩⟩⟩
def lw_privs : List (MethodName × Nat) := lw_privs_1 ++ (lw_privs_2)
def lw_tbl : List Cond := k2_sels lw_privs ++ tables_1
theorem lw_privs_ok : ∀ q ∈ lw_privs, lw_okq q := by
  show ∀ q ∈ lw_privs_1 ++ (lw_privs_2), lw_okq q
  exact List.forall_mem_append.mpr ⟨lw_r1, lw_r2⟩
end
section
/-- the printed row va_mna names this word, which the kit lacks -/
def va_AOA (ty : FieldType) (U : State) : Prop := (Cond.arrayOver (.array ty)).before #[] U = true
theorem va_AOA.use {ty : FieldType} {A : Array Value} {U : State} (h : va_AOA ty U) : (Cond.arrayOver (.array ty)).before A U = true := h
/-! ===== BEGIN new T[n][m]: the outer array a place, the inner ones among the pooled ===== -/
/-- f, but v at every address of l -/
def vr_up {α : Type} (f : Nat → α) (l : List Nat) (v : α) : Nat → α := fun a => if a ∈ l then v else f a
theorem vr_up_in {α : Type} {f : Nat → α} {l : List Nat} {v : α} {a : Nat} (h : a ∈ l) : vr_up f l v a = v := if_pos h
theorem vr_up_ne {α : Type} {f : Nat → α} {l : List Nat} {v : α} {a : Nat} (h : a ∉ l) : vr_up f l v a = f a := if_neg h
theorem vr_rows {L l : List Nat} {f : Nat → va_E} {e : va_E} (h : ∀ a, a ∈ l → a ∉ L) : va_pl L f ++ l.map (fun a => (a, e)) = va_pl (L ++ l) (vr_up f l e) := by
  unfold va_pl
  rw [List.map_append]
  congr 1
  · apply List.map_congr_left
    intro a ha
    rw [vr_up_ne (fun q => h a q ha)]
  · apply List.map_congr_left
    intro a ha
    rw [vr_up_in ha]
theorem vr_lay {X rows : va_W} {x : Nat × va_E} {pl : va_W} {D : va_G} {cl : List vw_C} {H : Heap} (hP : va_P D cl (((X ++ pl) ++ [x]) ++ rows) H) : va_P D cl ((X ++ [x]) ++ (pl ++ rows)) H := by
  rw [List.append_assoc (X ++ pl)] at hP
  have h := va_P.swap hP
  rw [← List.append_assoc X] at h
  have h2 := va_P.swap h
  rw [List.append_assoc (X ++ [x])] at h2
  exact h2
theorem vr_layD {X rows : va_W} {x : Nat × va_E} {pl : va_W} {A : Nat → Prop} (hD : va_D A (((X ++ pl) ++ [x]) ++ rows)) : va_D A ((X ++ [x]) ++ (pl ++ rows)) := by
  rw [List.append_assoc (X ++ pl)] at hD
  have h := va_D.swap hD
  rw [← List.append_assoc X] at h
  have h2 := va_D.swap h
  rw [List.append_assoc (X ++ [x])] at h2
  exact h2
theorem vr_outer (c : ClassId) (N h0 : Nat) : ∀ i : Nat, Jvm.Free.Multi.outerC c N h0 i = arrV c N (fun j => va_rf (if j < i then some (h0 + 1 + j) else none))
  | 0 => by
    show ({ cls := c, slots := Array.replicate N .null, vm := .none } : Cell) = _
    rw [arrV_new]
    refine congrArg (arrV c N) (funext fun j => ?_)
    simp [va_rf]
  | i + 1 => by
    show (Jvm.Free.Multi.outerC c N h0 i).setSlot i (.ref (h0 + 1 + i)) = _
    rw [vr_outer c N h0 i, arrV_store]
    refine congrArg (arrV c N) (funext fun j => ?_)
    by_cases e : j = i
    · subst e
      simp [updV, va_rf]
    · by_cases h : j < i
      · simp [updV, e, h, Nat.lt_succ_of_lt h]
      · simp [updV, e, h, show ¬ j < i + 1 by omega]
section VGM
variable {p : Program} {l : Launch} {e : Env} {R : Room} {s : State} {m : MethodId} {args : Array Value} {below : List Frame} {meth : Method} {c : Code} {H : Heap} {locs : List Loc} {cells slots : Nat} {Q : State → Prop}
variable {cc : ByteArray} {pc : Nat} {ls : Array Slot} {rest : List Value} {D : va_G} {cl : List vw_C} {A : Nat → Prop} {a : Nat} {tys : List (ClassId × FieldType)} {ws : va_W} {H0 : Heap}
theorem va_mna {X : va_W} {L : List Nat} {f : Nat → va_E} {cc : ByteArray} (hexec : p.tables.exec = Jvm.exec) (hb : c.code = cc) {own : String} {index : Nat} {ty : FieldType} {cy : ClassId} (hown : s.vm.findClass own = some m.cls) (hclink : (Cond.classLink own index ("[" ++ (FieldType.array ty).toString)).before args s = true) (hover : va_AOA ty s) (harr : (Cond.arrayClass ty).before args s = true) (hcy : s.vm.findClass (FieldType.array ty).toString = some cy)
    (hK : va_K D cl tys s) (hP : va_P D cl (X ++ va_pl L f) H) (hD : va_D A (X ++ va_pl L f)) (hS : va_S A H0 H locs) (hA : ∀ q, H0.size ≤ q → A q) {n k : Int32} {N' K' : Nat} {z : vp_A} (hn : ¬ n < 0) (hk : ¬ k < 0) (hN : n.toNatClampNeg = N') (hM : k.toNatClampNeg = K')
    (hb1 : N' * 4 ≤ 536870912) (hb2 : K' * componentBytes ty ≤ 536870912) (hb3 : K' ≤ 536870912) (hdf : fits ty (defaultValue ty) = true) (hdd : (defaultValue ty).isDefault = true) (hcells : cells + (1 + N') ≤ R.cells) (hslots : slots + (N' + N' * K') ≤ R.slots) (hz : ∀ c : ClassId, Jvm.Free.Multi.innerC c K' (defaultValue ty) = vp_cell c z) (hdg : decode cc pc = .ok (.multianewarray index 2, 4))
    (kk : ∀ (q : Nat) (r : Nat → Nat) (cA : ClassId) (H1 : Heap), (∀ i j : Nat, i < N' → j < N' → r i = r j → i = j) → (∀ i : Nat, i < N' → r i ∉ L) → va_K D cl (tys ++ [(cA, .array ty)]) s →
      va_P D cl ((X ++ [(q, .inl (cA, N', .inr (.inr (.inr (.inr (fun i => if i < N' then some (r i) else none))))))]) ++ va_pl (L ++ (List.range N').map r) (vr_up f ((List.range N').map r) (.inl (cy, z)))) H1 → va_D A ((X ++ [(q, .inl (cA, N', .inr (.inr (.inr (.inr (fun i => if i < N' then some (r i) else none))))))]) ++ va_pl (L ++ (List.range N').map r) (vr_up f ((List.range N').map r) (.inl (cy, z)))) → va_S A H0 H1 locs →
      W p l e R s m args below meth c H1 locs (cells + 1 + N') (slots + N' + N' * K') Q (F0 m (pc + 4) ls (.ref q :: rest))) : W p l e R s m args below meth c H locs cells slots Q (F0 m pc ls (.int k :: .int n :: rest)) := by
  subst hN
  subst hM
  intro T hT Xs
  obtain ⟨vm₁, cA, comp, -, fA, fC, hO, -, X', step⟩ := Xs.multianewarray2F hexec hown hclink (va_AOA.use hover) harr (g := F0 m pc ls (.int k :: .int n :: rest)) rfl (by rw [hb]; exact hdg) rfl hn hk hb1 hb2 hb3 hdf hdd hcells hslots
  have ec : some cy = some comp := hcy.symm.trans fC
  cases ec
  generalize hF : Jvm.Free.Multi.fill (T.setVm vm₁) cA cy n.toNatClampNeg k.toNatClampNeg (defaultValue ty) n.toNatClampNeg = F at X' step
  have hTh : (T.setVm vm₁).heap = H := hT
  obtain ⟨f1, f2, -, -⟩ := Jvm.Free.Multi.fill_facts (T.setVm vm₁) cA cy n.toNatClampNeg k.toNatClampNeg (defaultValue ty) n.toNatClampNeg
  rw [hF, hTh] at f1 f2
  have hold : ∀ x : Nat, x < H.size → F.heap[x]? = H[x]? := fun x hx => by
    have := Jvm.Free.Multi.fill_old (T.setVm vm₁) cA cy n.toNatClampNeg k.toNatClampNeg (defaultValue ty) (a := x) (by rw [hTh]; exact hx) n.toNatClampNeg
    rw [hF, hTh] at this
    exact this
  have hrow : ∀ j : Nat, j < n.toNatClampNeg → F.heap[H.size + 1 + j]? = some (vp_cell cy z) := fun j hj => by
    have := Jvm.Free.Multi.fill_inner (T.setVm vm₁) cA cy n.toNatClampNeg k.toNatClampNeg (defaultValue ty) n.toNatClampNeg j hj
    rw [hF, hTh, hz] at this
    exact this
  have hout : Jvm.Free.Multi.outerC cA n.toNatClampNeg H.size n.toNatClampNeg = vp_cell cA (n.toNatClampNeg, .inr (.inr (.inr (.inr (fun i => if i < n.toNatClampNeg then some (H.size + 1 + i) else none))))) := by
    rw [vp_cell_q]
    exact vr_outer cA n.toNatClampNeg H.size n.toNatClampNeg
  rw [hout] at f2
  have hlt : ∀ a, a ∈ L → a < H.size := fun a ha => by
    obtain ⟨k9, hk9⟩ := va_pl_get (X := X) (f := f) ha
    exact (hP k9 _ hk9).lt
  have hnl : ∀ i : Nat, i < n.toNatClampNeg → H.size + 1 + i ∉ L := fun i _ h => by
    have := hlt _ h
    omega
  have hnm : ∀ a, a ∈ (List.range n.toNatClampNeg).map (fun i => H.size + 1 + i) → a ∉ L := fun a ha h => by
    obtain ⟨i, -, rfl⟩ := List.mem_map.mp ha
    have := hlt _ h
    omega
  have hP0 : va_P D cl (X ++ va_pl L f) F.heap := hP.kept (fun k9 x hx => hold x.1 ((hP k9 x hx).lt))
  have hP1 : va_P D cl ((X ++ va_pl L f) ++ [(H.size, .inl (cA, n.toNatClampNeg, .inr (.inr (.inr (.inr (fun i => if i < n.toNatClampNeg then some (H.size + 1 + i) else none))))))]) F.heap := hP0.app (fun k9 x hx => by
    have h0 : k9 < 1 := (List.getElem?_eq_some_iff.mp hx).1
    rw [show k9 = 0 by omega] at hx
    cases hx
    exact f2)
  have hP2 : va_P D cl (((X ++ va_pl L f) ++ [(H.size, .inl (cA, n.toNatClampNeg, .inr (.inr (.inr (.inr (fun i => if i < n.toNatClampNeg then some (H.size + 1 + i) else none))))))]) ++ ((List.range n.toNatClampNeg).map (fun i => H.size + 1 + i)).map (fun a => (a, .inl (cy, z)))) F.heap := hP1.app (fun k9 x hx => by
    obtain ⟨a, ha, rfl⟩ := List.mem_map.mp (List.mem_of_getElem? hx)
    obtain ⟨i, hi, rfl⟩ := List.mem_map.mp ha
    exact hrow i (List.mem_range.mp hi))
  have hD2 : va_D A (((X ++ va_pl L f) ++ [(H.size, .inl (cA, n.toNatClampNeg, .inr (.inr (.inr (.inr (fun i => if i < n.toNatClampNeg then some (H.size + 1 + i) else none))))))]) ++ ((List.range n.toNatClampNeg).map (fun i => H.size + 1 + i)).map (fun a => (a, .inl (cy, z)))) := by
    have hD1 := hD.push (e := .inl (cA, n.toNatClampNeg, .inr (.inr (.inr (.inr (fun i => if i < n.toNatClampNeg then some (H.size + 1 + i) else none)))))) hP rfl (hA _ hS.1)
    generalize hW1 : (X ++ va_pl L f) ++ [(H.size, .inl (cA, n.toNatClampNeg, .inr (.inr (.inr (.inr (fun i => if i < n.toNatClampNeg then some (H.size + 1 + i) else none))))))] = W1 at hD1 hP1 ⊢
    have hle : ∀ (k9 : Nat) (x : Nat × va_E), W1[k9]? = some x → x.1 ≤ H.size := fun k9 x hx => by
      rw [← hW1] at hx
      by_cases hl : k9 < (X ++ va_pl L f).length
      · rw [List.getElem?_append_left hl] at hx
        exact Nat.le_of_lt ((hP k9 x hx).lt)
      · rw [List.getElem?_append_right (by omega)] at hx
        have h0 : k9 - (X ++ va_pl L f).length < 1 := (List.getElem?_eq_some_iff.mp hx).1
        rw [show k9 - (X ++ va_pl L f).length = 0 by omega] at hx
        cases hx
        exact Nat.le_refl _
    have hr : ∀ (k9 : Nat) (x : Nat × va_E), (((List.range n.toNatClampNeg).map (fun i => H.size + 1 + i)).map (fun a => ((a, .inl (cy, z)) : Nat × va_E)))[k9]? = some x → x.1 = H.size + 1 + k9 := fun k9 x hx => by
      rw [List.getElem?_map, List.getElem?_map] at hx
      by_cases h9 : k9 < n.toNatClampNeg
      · rw [List.getElem?_range h9] at hx
        cases hx
        rfl
      · have hn0 : (List.range n.toNatClampNeg)[k9]? = none := List.getElem?_eq_none (by rw [List.length_range]; omega)
        rw [hn0] at hx
        cases hx
    refine ⟨fun i j x y hi hj hxy => ?_, fun k9 x hx => ?_⟩
    · by_cases h1 : i < W1.length <;> by_cases h2 : j < W1.length
      · rw [List.getElem?_append_left h1] at hi
        rw [List.getElem?_append_left h2] at hj
        exact hD1.1 i j x y hi hj hxy
      · rw [List.getElem?_append_left h1] at hi
        rw [List.getElem?_append_right (by omega)] at hj
        have := hle _ _ hi
        have := hr _ _ hj
        omega
      · rw [List.getElem?_append_right (by omega)] at hi
        rw [List.getElem?_append_left h2] at hj
        have := hle _ _ hj
        have := hr _ _ hi
        omega
      · rw [List.getElem?_append_right (by omega)] at hi hj
        have := hr _ _ hi
        have := hr _ _ hj
        omega
    · by_cases h1 : k9 < W1.length
      · rw [List.getElem?_append_left h1] at hx
        exact hD1.2 k9 x hx
      · rw [List.getElem?_append_right (by omega)] at hx
        have := hr _ _ hx
        exact hA _ (by have := hS.1; omega)
  have hAr : ArrOfT s cA (.array ty) := fun N9 z9 => by
    obtain ⟨-, k9, hk9, cm9, hkk9⟩ := (hO 0 0 0).1
    exact ⟨(fun q hq => by cases hq), k9, hk9, cm9, hkk9⟩
  have hK2 : va_K D cl (tys ++ [(cA, .array ty)]) s := ⟨hK.1, fun k9 x hx => by
    by_cases hl : k9 < tys.length
    · rw [List.getElem?_append_left hl] at hx
      exact hK.2 k9 x hx
    · rw [List.getElem?_append_right (by omega)] at hx
      have h0 : k9 - tys.length < 1 := (List.getElem?_eq_some_iff.mp hx).1
      rw [show k9 - tys.length = 0 by omega] at hx
      cases hx
      exact ⟨hAr, fA⟩⟩
  obtain ⟨t, a1, b1⟩ := kk H.size (fun i => H.size + 1 + i) cA F.heap (fun i j _ _ h => by have h9 : H.size + 1 + i = H.size + 1 + j := h; omega) hnl hK2 (by rw [← vr_rows hnm]; exact vr_lay hP2) (by rw [← vr_rows hnm]; exact vr_layD hD2) ⟨by rw [f1]; have := hS.1; omega, fun x h1 h2 => (hold x (Nat.lt_of_lt_of_le h1 hS.1)).trans (hS.2.1 x h1 h2), hS.2.2⟩ F rfl X'
  refine ⟨t, step t ?_, b1⟩
  have e : T.heap.size = H.size := by rw [hT]
  rw [e]
  exact a1
end VGM
/-! ===== END ===== -/

/-! ===== BEGIN printed: names, fields, word lists, decode rows ===== -/
def RX0 : String := "PairScales$Big"
def TX0 : u_T := fun k => match k with
  | _ => ("PairScales$Big", "limbs", "[J", true)
def tyX0 : Nat → FieldType := fun k => match k with
  | _ => .array .long
abbrev wsX00 : List Cond := u_ws RX0 TX0 1
theorem nmX0 : ∀ a, a < 1 → ∀ b, b < 1 → a ≠ b → (TX0 a).2.1 ≠ (TX0 b).2.1 := by decide +kernel
theorem tyX0_ok : ∀ k, k < 1 → parseFieldDescriptor (TX0 k).2.2.1 = some (tyX0 k) := by decide +kernel
abbrev cX0_init : ByteArray := prog_2_method_1_code
def yX0_init : MethodName := ⟨RX0, "<init>", "()V"⟩
abbrev cX0_reset : ByteArray := prog_2_method_2_code
def yX0_reset : MethodName := ⟨RX0, "reset", "()V"⟩
abbrev cX0_multiply : ByteArray := prog_2_method_3_code
def yX0_multiply : MethodName := ⟨RX0, "multiply", "(JI)V"⟩
abbrev cX0_isAbove : ByteArray := prog_2_method_4_code
def yX0_isAbove : MethodName := ⟨RX0, "isAbove", "(LPairScales$Big;)Z"⟩
def RX1 : String := "PairScales$Fraction"
def TX1 : u_T := fun k => match k with
  | _ => ("", "", "", false)
def tyX1 : Nat → FieldType := fun k => match k with
  | _ => .int
abbrev wsX10 : List Cond := u_ws RX1 TX1 0
theorem nmX1 : ∀ a, a < 0 → ∀ b, b < 0 → a ≠ b → (TX1 a).2.1 ≠ (TX1 b).2.1 := by decide +kernel
theorem tyX1_ok : ∀ k, k < 0 → parseFieldDescriptor (TX1 k).2.2.1 = some (tyX1 k) := by decide +kernel
abbrev cX1_of : ByteArray := prog_3_method_2_code
def yX1_of : MethodName := ⟨RX1, "of", "(JJ)J"⟩
abbrev cX1_top : ByteArray := prog_3_method_3_code
def yX1_top : MethodName := ⟨RX1, "top", "(J)J"⟩
abbrev cX1_bottom : ByteArray := prog_3_method_4_code
def yX1_bottom : MethodName := ⟨RX1, "bottom", "(J)J"⟩
abbrev cX1_times : ByteArray := prog_3_method_5_code
def yX1_times : MethodName := ⟨RX1, "times", "(JJ)J"⟩
abbrev cX1_inverse : ByteArray := prog_3_method_6_code
def yX1_inverse : MethodName := ⟨RX1, "inverse", "(J)J"⟩
abbrev cX1_isAbove : ByteArray := prog_3_method_7_code
def yX1_isAbove : MethodName := ⟨RX1, "isAbove", "(JJ)Z"⟩
abbrev cX1_part : ByteArray := prog_3_method_8_code
def yX1_part : MethodName := ⟨RX1, "part", "(JI)I"⟩
abbrev cX1_commonDivisor : ByteArray := prog_3_method_9_code
def yX1_commonDivisor : MethodName := ⟨RX1, "commonDivisor", "(JJ)J"⟩
def RX2 : String := "PairScales$Leaving"
def TX2 : u_T := fun k => match k with
  | 0 => ("PairScales$Leaving", "things", "I", true)
  | 1 => ("PairScales$Leaving", "pairs", "I", true)
  | 2 => ("PairScales$Leaving", "upper", "[I", true)
  | 3 => ("PairScales$Leaving", "lower", "[I", true)
  | 4 => ("PairScales$Leaving", "groups", "[[I", true)
  | 5 => ("PairScales$Leaving", "worths", "[[I", true)
  | 6 => ("PairScales$Leaving", "fewest", "I", false)
  | _ => ("PairScales$Leaving", "leastHeap", "I", false)
def tyX2 : Nat → FieldType := fun k => match k with
  | 0 => .int
  | 1 => .int
  | 2 => .array .int
  | 3 => .array .int
  | 4 => .array (.array .int)
  | 5 => .array (.array .int)
  | 6 => .int
  | _ => .int
abbrev wsX20 : List Cond := u_ws RX2 TX2 8
theorem nmX2 : ∀ a, a < 8 → ∀ b, b < 8 → a ≠ b → (TX2 a).2.1 ≠ (TX2 b).2.1 := by decide +kernel
theorem tyX2_ok : ∀ k, k < 8 → parseFieldDescriptor (TX2 k).2.2.1 = some (tyX2 k) := by decide +kernel
abbrev cX2_init : ByteArray := prog_4_method_1_code
def yX2_init : MethodName := ⟨RX2, "<init>", "(I)V"⟩
abbrev cX2_search : ByteArray := prog_4_method_2_code
def yX2_search : MethodName := ⟨RX2, "search", "(LPairScales$Table;)V"⟩
abbrev cX2_settle : ByteArray := prog_4_method_3_code
def yX2_settle : MethodName := ⟨RX2, "settle", "(LPairScales$Table;IIII)V"⟩
abbrev cX2_join : ByteArray := prog_4_method_4_code
def yX2_join : MethodName := ⟨RX2, "join", "(IIII)V"⟩
abbrev cX2_logOf : ByteArray := prog_4_method_5_code
def yX2_logOf : MethodName := ⟨RX2, "logOf", "(J)I"⟩
abbrev cX2_logOfDigit : ByteArray := prog_4_method_6_code
def yX2_logOfDigit : MethodName := ⟨RX2, "logOfDigit", "(J)I"⟩
def RX3 : String := "PairScales$Rings"
def TX3 : u_T := fun k => match k with
  | 0 => ("PairScales$Rings", "things", "I", true)
  | _ => ("PairScales$Rings", "greatest", "[J", true)
def tyX3 : Nat → FieldType := fun k => match k with
  | 0 => .int
  | _ => .array .long
abbrev wsX30 : List Cond := u_ws RX3 TX3 2
theorem nmX3 : ∀ a, a < 2 → ∀ b, b < 2 → a ≠ b → (TX3 a).2.1 ≠ (TX3 b).2.1 := by decide +kernel
theorem tyX3_ok : ∀ k, k < 2 → parseFieldDescriptor (TX3 k).2.2.1 = some (tyX3 k) := by decide +kernel
abbrev cX3_init : ByteArray := prog_5_method_1_code
def yX3_init : MethodName := ⟨RX3, "<init>", "(I)V"⟩
abbrev cX3_noneAboveOne : ByteArray := prog_5_method_2_code
def yX3_noneAboveOne : MethodName := ⟨RX3, "noneAboveOne", "(LPairScales$Table;)Z"⟩
abbrev cX3_measure : ByteArray := prog_5_method_3_code
def yX3_measure : MethodName := ⟨RX3, "measure", "(LPairScales$Table;)V"⟩
abbrev cX3_extend : ByteArray := prog_5_method_4_code
def yX3_extend : MethodName := ⟨RX3, "extend", "(LPairScales$Table;IIIIJ)V"⟩
abbrev cX3_close : ByteArray := prog_5_method_5_code
def yX3_close : MethodName := ⟨RX3, "close", "(IJ)V"⟩
def RX4 : String := "PairScales$Roots"
def TX4 : u_T := fun k => match k with
  | 0 => ("PairScales$Roots", "one", "LPairScales$Big;", true)
  | _ => ("PairScales$Roots", "other", "LPairScales$Big;", true)
def tyX4 : Nat → FieldType := fun k => match k with
  | 0 => .object "PairScales$Big"
  | _ => .object "PairScales$Big"
abbrev wsX40 : List Cond := u_ws RX4 TX4 2
theorem nmX4 : ∀ a, a < 2 → ∀ b, b < 2 → a ≠ b → (TX4 a).2.1 ≠ (TX4 b).2.1 := by decide +kernel
theorem tyX4_ok : ∀ k, k < 2 → parseFieldDescriptor (TX4 k).2.2.1 = some (tyX4 k) := by decide +kernel
abbrev cX4_init : ByteArray := prog_6_method_1_code
def yX4_init : MethodName := ⟨RX4, "<init>", "()V"⟩
abbrev cX4_isAbove : ByteArray := prog_6_method_2_code
def yX4_isAbove : MethodName := ⟨RX4, "isAbove", "(JIJI)Z"⟩
def RX5 : String := "PairScales$Table"
def TX5 : u_T := fun k => match k with
  | 0 => ("PairScales$Table", "things", "I", true)
  | 1 => ("PairScales$Table", "lows", "[[J", true)
  | _ => ("PairScales$Table", "filled", "I", false)
def tyX5 : Nat → FieldType := fun k => match k with
  | 0 => .int
  | 1 => .array (.array .long)
  | _ => .int
abbrev wsX50 : List Cond := u_ws RX5 TX5 3
theorem nmX5 : ∀ a, a < 3 → ∀ b, b < 3 → a ≠ b → (TX5 a).2.1 ≠ (TX5 b).2.1 := by decide +kernel
theorem tyX5_ok : ∀ k, k < 3 → parseFieldDescriptor (TX5 k).2.2.1 = some (tyX5 k) := by decide +kernel
abbrev cX5_init : ByteArray := prog_7_method_1_code
def yX5_init : MethodName := ⟨RX5, "<init>", "(I)V"⟩
abbrev cX5_isThing : ByteArray := prog_7_method_2_code
def yX5_isThing : MethodName := ⟨RX5, "isThing", "(I)Z"⟩
abbrev cX5_isPair : ByteArray := prog_7_method_3_code
def yX5_isPair : MethodName := ⟨RX5, "isPair", "(II)Z"⟩
abbrev cX5_holds : ByteArray := prog_7_method_4_code
def yX5_holds : MethodName := ⟨RX5, "holds", "(II)Z"⟩
abbrev cX5_isFull : ByteArray := prog_7_method_5_code
def yX5_isFull : MethodName := ⟨RX5, "isFull", "()Z"⟩
abbrev cX5_low : ByteArray := prog_7_method_6_code
def yX5_low : MethodName := ⟨RX5, "low", "(II)J"⟩
abbrev cX5_put : ByteArray := prog_7_method_7_code
def yX5_put : MethodName := ⟨RX5, "put", "(IIJJ)V"⟩
abbrev cX5_drop : ByteArray := prog_7_method_8_code
def yX5_drop : MethodName := ⟨RX5, "drop", "(II)Z"⟩
def RX6 : String := "PairScales$TreeCount"
def TX6 : u_T := fun k => match k with
  | 0 => ("PairScales$TreeCount", "size", "I", true)
  | _ => ("PairScales$TreeCount", "matrix", "[[I", true)
def tyX6 : Nat → FieldType := fun k => match k with
  | 0 => .int
  | _ => .array (.array .int)
abbrev wsX60 : List Cond := u_ws RX6 TX6 2
theorem nmX6 : ∀ a, a < 2 → ∀ b, b < 2 → a ≠ b → (TX6 a).2.1 ≠ (TX6 b).2.1 := by decide +kernel
theorem tyX6_ok : ∀ k, k < 2 → parseFieldDescriptor (TX6 k).2.2.1 = some (tyX6 k) := by decide +kernel
abbrev cX6_init : ByteArray := prog_8_method_1_code
def yX6_init : MethodName := ⟨RX6, "<init>", "(I)V"⟩
abbrev cX6_of : ByteArray := prog_8_method_2_code
def yX6_of : MethodName := ⟨RX6, "of", "(LPairScales$Table;)I"⟩
abbrev cX6_fill : ByteArray := prog_8_method_3_code
def yX6_fill : MethodName := ⟨RX6, "fill", "(LPairScales$Table;)V"⟩
abbrev cX6_eliminate : ByteArray := prog_8_method_4_code
def yX6_eliminate : MethodName := ⟨RX6, "eliminate", "(III)V"⟩
def RX7 : String := "PairScales$WorstThree"
def TX7 : u_T := fun k => match k with
  | 0 => ("PairScales$WorstThree", "things", "I", true)
  | 1 => ("PairScales$WorstThree", "i", "I", false)
  | 2 => ("PairScales$WorstThree", "j", "I", false)
  | 3 => ("PairScales$WorstThree", "k", "I", false)
  | _ => ("PairScales$WorstThree", "off", "J", false)
def tyX7 : Nat → FieldType := fun k => match k with
  | 0 => .int
  | 1 => .int
  | 2 => .int
  | 3 => .int
  | _ => .long
abbrev wsX70 : List Cond := u_ws RX7 TX7 5
theorem nmX7 : ∀ a, a < 5 → ∀ b, b < 5 → a ≠ b → (TX7 a).2.1 ≠ (TX7 b).2.1 := by decide +kernel
theorem tyX7_ok : ∀ k, k < 5 → parseFieldDescriptor (TX7 k).2.2.1 = some (tyX7 k) := by decide +kernel
abbrev cX7_init : ByteArray := prog_9_method_1_code
def yX7_init : MethodName := ⟨RX7, "<init>", "(I)V"⟩
abbrev cX7_find : ByteArray := prog_9_method_2_code
def yX7_find : MethodName := ⟨RX7, "find", "(LPairScales$Table;)V"⟩
abbrev cX7_compare : ByteArray := prog_9_method_3_code
def yX7_compare : MethodName := ⟨RX7, "compare", "(LPairScales$Table;III)V"⟩
abbrev cX7_offOf : ByteArray := prog_9_method_4_code
def yX7_offOf : MethodName := ⟨RX7, "offOf", "(LPairScales$Table;III)J"⟩
def RX8 : String := "PairScales"
def TX8 : u_T := fun k => match k with
  | 0 => ("PairScales", "things", "I", true)
  | 1 => ("PairScales", "sayings", "LPairScales$Table;", true)
  | 2 => ("PairScales", "spans", "LPairScales$Table;", true)
  | 3 => ("PairScales", "worstThree", "LPairScales$WorstThree;", true)
  | 4 => ("PairScales", "rings", "LPairScales$Rings;", true)
  | 5 => ("PairScales", "treeCount", "LPairScales$TreeCount;", true)
  | 6 => ("PairScales", "leaving", "LPairScales$Leaving;", true)
  | _ => ("PairScales", "roots", "LPairScales$Roots;", true)
def tyX8 : Nat → FieldType := fun k => match k with
  | 0 => .int
  | 1 => .object "PairScales$Table"
  | 2 => .object "PairScales$Table"
  | 3 => .object "PairScales$WorstThree"
  | 4 => .object "PairScales$Rings"
  | 5 => .object "PairScales$TreeCount"
  | 6 => .object "PairScales$Leaving"
  | _ => .object "PairScales$Roots"
abbrev wsX80 : List Cond := u_ws RX8 TX8 8
theorem nmX8 : ∀ a, a < 8 → ∀ b, b < 8 → a ≠ b → (TX8 a).2.1 ≠ (TX8 b).2.1 := by decide +kernel
theorem tyX8_ok : ∀ k, k < 8 → parseFieldDescriptor (TX8 k).2.2.1 = some (tyX8 k) := by decide +kernel
abbrev cX8_init : ByteArray := prog_1_method_1_code
def yX8_init : MethodName := ⟨RX8, "<init>", "(I)V"⟩
abbrev cX8_say : ByteArray := prog_1_method_2_code
def yX8_say : MethodName := ⟨RX8, "say", "(IIII)Z"⟩
abbrev cX8_unsay : ByteArray := prog_1_method_3_code
def yX8_unsay : MethodName := ⟨RX8, "unsay", "(II)Z"⟩
abbrev cX8_said : ByteArray := prog_1_method_4_code
def yX8_said : MethodName := ⟨RX8, "said", "(III)I"⟩
abbrev cX8_even : ByteArray := prog_1_method_5_code
def yX8_even : MethodName := ⟨RX8, "even", "()Z"⟩
abbrev cX8_worst : ByteArray := prog_1_method_6_code
def yX8_worst : MethodName := ⟨RX8, "worst", "(I)I"⟩
abbrev cX8_trees : ByteArray := prog_1_method_7_code
def yX8_trees : MethodName := ⟨RX8, "trees", "()I"⟩
abbrev cX8_few : ByteArray := prog_1_method_8_code
def yX8_few : MethodName := ⟨RX8, "few", "()I"⟩
abbrev cX8_left : ByteArray := prog_1_method_9_code
def yX8_left : MethodName := ⟨RX8, "left", "()I"⟩
abbrev cX8_row : ByteArray := prog_1_method_10_code
def yX8_row : MethodName := ⟨RX8, "row", "(II)I"⟩
abbrev cX8_order : ByteArray := prog_1_method_11_code
def yX8_order : MethodName := ⟨RX8, "order", "(II)I"⟩
abbrev cX8_least : ByteArray := prog_1_method_12_code
def yX8_least : MethodName := ⟨RX8, "least", "(I)I"⟩
abbrev cX8_span : ByteArray := prog_1_method_13_code
def yX8_span : MethodName := ⟨RX8, "span", "(III)Z"⟩
abbrev cX8_unspan : ByteArray := prog_1_method_14_code
def yX8_unspan : MethodName := ⟨RX8, "unspan", "(II)Z"⟩
abbrev cX8_can : ByteArray := prog_1_method_15_code
def yX8_can : MethodName := ⟨RX8, "can", "()Z"⟩
abbrev cX8_bound : ByteArray := prog_1_method_16_code
def yX8_bound : MethodName := ⟨RX8, "bound", "(III)I"⟩
abbrev cX8_count : ByteArray := prog_1_method_17_code
def yX8_count : MethodName := ⟨RX8, "count", "(I)I"⟩
abbrev cX8_isDigit : ByteArray := prog_1_method_18_code
def yX8_isDigit : MethodName := ⟨RX8, "isDigit", "(I)Z"⟩
abbrev cX8_isPart : ByteArray := prog_1_method_19_code
def yX8_isPart : MethodName := ⟨RX8, "isPart", "(I)Z"⟩
abbrev cX8_productOfRow : ByteArray := prog_1_method_20_code
def yX8_productOfRow : MethodName := ⟨RX8, "productOfRow", "(I)J"⟩
abbrev cX8_sizeOfGreatestRoot : ByteArray := prog_1_method_21_code
def yX8_sizeOfGreatestRoot : MethodName := ⟨RX8, "sizeOfGreatestRoot", "()I"⟩
abbrev cX8_greatestWay : ByteArray := prog_1_method_22_code
def yX8_greatestWay : MethodName := ⟨RX8, "greatestWay", "(IIIIJ)J"⟩
def RX9 : String := "PairScalesModel"
def TX9 : u_T := fun k => match k with
  | 0 => ("PairScalesModel", "n", "I", true)
  | 1 => ("PairScalesModel", "pairs", "I", true)
  | 2 => ("PairScalesModel", "top", "[I", true)
  | 3 => ("PairScalesModel", "bottom", "[I", true)
  | 4 => ("PairScalesModel", "lowTop", "[I", true)
  | 5 => ("PairScalesModel", "lowBottom", "[I", true)
  | 6 => ("PairScalesModel", "highTop", "[I", true)
  | 7 => ("PairScalesModel", "highBottom", "[I", true)
  | 8 => ("PairScalesModel", "first", "[I", true)
  | 9 => ("PairScalesModel", "second", "[I", true)
  | 10 => ("PairScalesModel", "weightTop", "[J", true)
  | 11 => ("PairScalesModel", "weightBottom", "[J", true)
  | 12 => ("PairScalesModel", "isReached", "[Z", true)
  | 13 => ("PairScalesModel", "parts", "I", false)
  | 14 => ("PairScalesModel", "worstOf", "[I", true)
  | 15 => ("PairScalesModel", "left", "[J", true)
  | 16 => ("PairScalesModel", "right", "[J", true)
  | 17 => ("PairScalesModel", "leastTop", "J", false)
  | 18 => ("PairScalesModel", "leastBottom", "J", false)
  | 19 => ("PairScalesModel", "leastMany", "I", false)
  | 20 => ("PairScalesModel", "way", "[I", true)
  | 21 => ("PairScalesModel", "bestTop", "J", false)
  | 22 => ("PairScalesModel", "bestBottom", "J", false)
  | 23 => ("PairScalesModel", "isSome", "Z", false)
  | _ => ("PairScalesModel", "canBe", "Z", false)
def tyX9 : Nat → FieldType := fun k => match k with
  | 0 => .int
  | 1 => .int
  | 2 => .array .int
  | 3 => .array .int
  | 4 => .array .int
  | 5 => .array .int
  | 6 => .array .int
  | 7 => .array .int
  | 8 => .array .int
  | 9 => .array .int
  | 10 => .array .long
  | 11 => .array .long
  | 12 => .array .boolean
  | 13 => .int
  | 14 => .array .int
  | 15 => .array .long
  | 16 => .array .long
  | 17 => .long
  | 18 => .long
  | 19 => .int
  | 20 => .array .int
  | 21 => .long
  | 22 => .long
  | 23 => .boolean
  | _ => .boolean
abbrev wsX90 : List Cond := u_ws RX9 TX9 25
theorem nmX9 : ∀ a, a < 25 → ∀ b, b < 25 → a ≠ b → (TX9 a).2.1 ≠ (TX9 b).2.1 := by decide +kernel
theorem tyX9_ok : ∀ k, k < 25 → parseFieldDescriptor (TX9 k).2.2.1 = some (tyX9 k) := by decide +kernel
abbrev cX9_init : ByteArray := prog_11_method_1_code
def yX9_init : MethodName := ⟨RX9, "<init>", "(I)V"⟩
abbrev cX9_in : ByteArray := prog_11_method_2_code
def yX9_in : MethodName := ⟨RX9, "in", "(III)Z"⟩
abbrev cX9_areTwo : ByteArray := prog_11_method_3_code
def yX9_areTwo : MethodName := ⟨RX9, "areTwo", "(II)Z"⟩
abbrev cX9_pair : ByteArray := prog_11_method_4_code
def yX9_pair : MethodName := ⟨RX9, "pair", "(II)I"⟩
abbrev cX9_divisor : ByteArray := prog_11_method_5_code
def yX9_divisor : MethodName := ⟨RX9, "divisor", "(JJ)J"⟩
abbrev cX9_say : ByteArray := prog_11_method_6_code
def yX9_say : MethodName := ⟨RX9, "say", "(IIII)Z"⟩
abbrev cX9_unsay : ByteArray := prog_11_method_7_code
def yX9_unsay : MethodName := ⟨RX9, "unsay", "(II)Z"⟩
abbrev cX9_isSaid : ByteArray := prog_11_method_8_code
def yX9_isSaid : MethodName := ⟨RX9, "isSaid", "(II)Z"⟩
abbrev cX9_topOf : ByteArray := prog_11_method_9_code
def yX9_topOf : MethodName := ⟨RX9, "topOf", "(II)I"⟩
abbrev cX9_bottomOf : ByteArray := prog_11_method_10_code
def yX9_bottomOf : MethodName := ⟨RX9, "bottomOf", "(II)I"⟩
abbrev cX9_said : ByteArray := prog_11_method_11_code
def yX9_said : MethodName := ⟨RX9, "said", "(III)I"⟩
abbrev cX9_fits : ByteArray := prog_11_method_12_code
def yX9_fits : MethodName := ⟨RX9, "fits", "(I)Z"⟩
abbrev cX9_all : ByteArray := prog_11_method_13_code
def yX9_all : MethodName := ⟨RX9, "all", "()I"⟩
abbrev cX9_even : ByteArray := prog_11_method_14_code
def yX9_even : MethodName := ⟨RX9, "even", "()Z"⟩
abbrev cX9_trees : ByteArray := prog_11_method_15_code
def yX9_trees : MethodName := ⟨RX9, "trees", "()I"⟩
abbrev cX9_leastHeap : ByteArray := prog_11_method_16_code
def yX9_leastHeap : MethodName := ⟨RX9, "leastHeap", "()I"⟩
abbrev cX9_few : ByteArray := prog_11_method_17_code
def yX9_few : MethodName := ⟨RX9, "few", "()I"⟩
abbrev cX9_left : ByteArray := prog_11_method_18_code
def yX9_left : MethodName := ⟨RX9, "left", "()I"⟩
abbrev cX9_findsWorst : ByteArray := prog_11_method_19_code
def yX9_findsWorst : MethodName := ⟨RX9, "findsWorst", "()Z"⟩
abbrev cX9_worst : ByteArray := prog_11_method_20_code
def yX9_worst : MethodName := ⟨RX9, "worst", "(I)I"⟩
abbrev cX9_areAllSaid : ByteArray := prog_11_method_21_code
def yX9_areAllSaid : MethodName := ⟨RX9, "areAllSaid", "()Z"⟩
abbrev cX9_rowPart : ByteArray := prog_11_method_22_code
def yX9_rowPart : MethodName := ⟨RX9, "rowPart", "(IZ)J"⟩
abbrev cX9_row : ByteArray := prog_11_method_23_code
def yX9_row : MethodName := ⟨RX9, "row", "(II)I"⟩
abbrev cX9_order : ByteArray := prog_11_method_24_code
def yX9_order : MethodName := ⟨RX9, "order", "(II)I"⟩
abbrev cX9_one : ByteArray := prog_11_method_25_code
def yX9_one : MethodName := ⟨RX9, "one", "([J)V"⟩
abbrev cX9_times : ByteArray := prog_11_method_26_code
def yX9_times : MethodName := ⟨RX9, "times", "([JJI)V"⟩
abbrev cX9_compare : ByteArray := prog_11_method_27_code
def yX9_compare : MethodName := ⟨RX9, "compare", "(JJI)I"⟩
abbrev cX9_ring : ByteArray := prog_11_method_28_code
def yX9_ring : MethodName := ⟨RX9, "ring", "(JJI)V"⟩
abbrev cX9_rings : ByteArray := prog_11_method_29_code
def yX9_rings : MethodName := ⟨RX9, "rings", "(IJJ)V"⟩
abbrev cX9_least : ByteArray := prog_11_method_30_code
def yX9_least : MethodName := ⟨RX9, "least", "(I)I"⟩
abbrev cX9_span : ByteArray := prog_11_method_31_code
def yX9_span : MethodName := ⟨RX9, "span", "(III)Z"⟩
abbrev cX9_unspan : ByteArray := prog_11_method_32_code
def yX9_unspan : MethodName := ⟨RX9, "unspan", "(II)Z"⟩
abbrev cX9_isSpan : ByteArray := prog_11_method_33_code
def yX9_isSpan : MethodName := ⟨RX9, "isSpan", "(II)Z"⟩
abbrev cX9_lowOver : ByteArray := prog_11_method_34_code
def yX9_lowOver : MethodName := ⟨RX9, "lowOver", "(II)I"⟩
abbrev cX9_lowUnder : ByteArray := prog_11_method_35_code
def yX9_lowUnder : MethodName := ⟨RX9, "lowUnder", "(II)I"⟩
abbrev cX9_ways : ByteArray := prog_11_method_36_code
def yX9_ways : MethodName := ⟨RX9, "ways", "(IIJJ)V"⟩
abbrev cX9_goes : ByteArray := prog_11_method_37_code
def yX9_goes : MethodName := ⟨RX9, "goes", "(II)V"⟩
abbrev cX9_can : ByteArray := prog_11_method_38_code
def yX9_can : MethodName := ⟨RX9, "can", "()Z"⟩
abbrev cX9_bound : ByteArray := prog_11_method_39_code
def yX9_bound : MethodName := ⟨RX9, "bound", "(III)I"⟩
abbrev cX9_count : ByteArray := prog_11_method_40_code
def yX9_count : MethodName := ⟨RX9, "count", "(I)I"⟩
def RJ6 : String := "java/lang/Integer"
def TJ6 : u_T := fun k => match k with
  | _ => ("", "", "", false)
def tyJ6 : Nat → FieldType := fun k => match k with
  | _ => .int
abbrev wsJ60 : List Cond := u_ws RJ6 TJ6 0
theorem nmJ6 : ∀ a, a < 0 → ∀ b, b < 0 → a ≠ b → (TJ6 a).2.1 ≠ (TJ6 b).2.1 := by decide +kernel
theorem tyJ6_ok : ∀ k, k < 0 → parseFieldDescriptor (TJ6 k).2.2.1 = some (tyJ6 k) := by decide +kernel
abbrev cJ6_bitCount_0f7a4 : ByteArray := prog_12_method_49_code
def yJ6_bitCount_0f7a4 : MethodName := ⟨RJ6, "bitCount", "(I)I"⟩
def RJ9 : String := "java/lang/Math"
def TJ9 : u_T := fun k => match k with
  | _ => ("", "", "", false)
def tyJ9 : Nat → FieldType := fun k => match k with
  | _ => .int
abbrev wsJ90 : List Cond := u_ws RJ9 TJ9 0
theorem nmJ9 : ∀ a, a < 0 → ∀ b, b < 0 → a ≠ b → (TJ9 a).2.1 ≠ (TJ9 b).2.1 := by decide +kernel
theorem tyJ9_ok : ∀ k, k < 0 → parseFieldDescriptor (TJ9 k).2.2.1 = some (tyJ9 k) := by decide +kernel
abbrev cJ9_max_7cf53 : ByteArray := prog_13_method_65_code
def yJ9_max_7cf53 : MethodName := ⟨RJ9, "max", "(II)I"⟩
abbrev cJ9_max_f86c9 : ByteArray := prog_13_method_66_code
def yJ9_max_f86c9 : MethodName := ⟨RJ9, "max", "(JJ)J"⟩
abbrev cJ9_min_7cf53 : ByteArray := prog_13_method_69_code
def yJ9_min_7cf53 : MethodName := ⟨RJ9, "min", "(II)I"⟩
abbrev cJ9_min_f86c9 : ByteArray := prog_13_method_70_code
def yJ9_min_f86c9 : MethodName := ⟨RJ9, "min", "(JJ)J"⟩
def RJ7 : String := "java/util/Arrays"
def TJ7 : u_T := fun k => match k with
  | _ => ("", "", "", false)
def tyJ7 : Nat → FieldType := fun k => match k with
  | _ => .int
abbrev wsJ70 : List Cond := u_ws RJ7 TJ7 0
theorem nmJ7 : ∀ a, a < 0 → ∀ b, b < 0 → a ≠ b → (TJ7 a).2.1 ≠ (TJ7 b).2.1 := by decide +kernel
theorem tyJ7_ok : ∀ k, k < 0 → parseFieldDescriptor (TJ7 k).2.2.1 = some (tyJ7 k) := by decide +kernel
abbrev cJ7_fill_d0a16 : ByteArray := prog_14_method_101_code
def yJ7_fill_d0a16 : MethodName := ⟨RJ7, "fill", "([JJ)V"⟩
def RL : String := "PairScalesLaw"
abbrev cL_cell : ByteArray := method_2_code
def yL_cell : MethodName := ⟨RL, "cell", "([II)I"⟩
abbrev cL_law : ByteArray := code
def yL_law : MethodName := ⟨RL, "law", "([I)Z"⟩
abbrev vwCl : List vw_C := [(RX0, TX0, 1), (RX2, TX2, 8), (RX3, TX3, 2), (RX4, TX4, 2), (RX5, TX5, 3), (RX6, TX6, 2), (RX7, TX7, 5), (RX8, TX8, 8), (RX9, TX9, 25)]
end
section
/-- the words that a call may hand on: those of lw_tbl that are good -/
def xk_WS : List Cond := lw_tbl.filter goodWord
theorem xk_in (i : Nat) {w : Cond} (h : lw_tbl[i]? = some w) (g : goodWord w = true) : w ∈ xk_WS := List.mem_filter.mpr ⟨List.mem_of_getElem? h, g⟩
theorem xk_ins (ws : List Cond) (ps : List Nat) (hp : ws = ps.filterMap (fun i => lw_tbl[i]?)) (g : ws.all goodWord = true) : ∀ w ∈ ws, w ∈ xk_WS := by
  intro w hw
  have h1 := List.all_eq_true.mp g w hw
  rw [hp] at hw
  obtain ⟨i, -, hi⟩ := List.mem_filterMap.mp hw
  exact xk_in i hi h1
theorem xk_good : ∀ w ∈ xk_WS, w ∈ lw_tbl ∧ ((w.onTables && w.keeps) = true ∨ ∃ ty, w = .arrayClass ty) := fun w h => ⟨(List.mem_filter.mp h).1, good_of_word (List.mem_filter.mp h).2⟩
theorem wq_L_7 : Cond.classLink RL 7 RX8 ∈ xk_WS := xk_in 43 (by decide +kernel) (by decide +kernel)
theorem wz_X8 : Cond.instantiable RX8 8 ∈ xk_WS := xk_in 44 (by decide +kernel) (by decide +kernel)
theorem wn_X8 : Cond.initialized RX8 ∈ xk_WS := xk_in 30 (by decide +kernel) (by decide +kernel)
theorem wq_L_18 : Cond.classLink RL 18 RX9 ∈ xk_WS := xk_in 458 (by decide +kernel) (by decide +kernel)
theorem wz_X9 : Cond.instantiable RX9 25 ∈ xk_WS := xk_in 459 (by decide +kernel) (by decide +kernel)
theorem wn_X9 : Cond.initialized RX9 ∈ xk_WS := xk_in 40 (by decide +kernel) (by decide +kernel)
theorem wm_L_9 : Cond.methodLink RL 9 yL_cell ∈ xk_WS := xk_in 455 (by decide +kernel) (by decide +kernel)
theorem wt_L_cell : Cond.static yL_cell ∈ xk_WS := xk_in 456 (by decide +kernel) (by decide +kernel)
theorem wn_L : Cond.initialized RL ∈ xk_WS := xk_in 29 (by decide +kernel) (by decide +kernel)
theorem wc_L_cell : Cond.code yL_cell cL_cell 2 (some .int) ∈ xk_WS := xk_in 457 (by decide +kernel) (by decide +kernel)
theorem wm_L_15 : Cond.methodLink RL 15 yX8_init ∈ xk_WS := xk_in 45 (by decide +kernel) (by decide +kernel)
theorem wi_X8_init : Cond.instanceMethod yX8_init ∈ xk_WS := xk_in 46 (by decide +kernel) (by decide +kernel)
theorem wc_X8_init : Cond.code yX8_init cX8_init 2 none ∈ xk_WS := xk_in 47 (by decide +kernel) (by decide +kernel)
theorem wm_X8_1 : Cond.methodLink RX8 1 objectInit ∈ xk_WS := xk_in 48 (by decide +kernel) (by decide +kernel)
theorem wo_instanceMethod_objectInit : Cond.instanceMethod objectInit ∈ xk_WS := xk_in 49 (by decide +kernel) (by decide +kernel)
theorem wo_code_objectInit_0xb1_1_none : Cond.code objectInit ⟨#[0xb1]⟩ 1 none ∈ xk_WS := xk_in 50 (by decide +kernel) (by decide +kernel)
theorem wm_X8_9 : Cond.methodLink RX8 9 Lib.Math.min.name ∈ xk_WS := xk_in 51 (by decide +kernel) (by decide +kernel)
theorem wo_static_Lib_Math_min_name : Cond.static Lib.Math.min.name ∈ xk_WS := xk_in 52 (by decide +kernel) (by decide +kernel)
theorem wo_initialized_java_lang_Math_ : Cond.initialized "java/lang/Math" ∈ xk_WS := xk_in 31 (by decide +kernel) (by decide +kernel)
theorem wo_code_Lib_Math_min_name_Lib_Math_min_code_2_some_int_ : Cond.code Lib.Math.min.name Lib.Math.min.code 2 (some .int) ∈ xk_WS := xk_in 53 (by decide +kernel) (by decide +kernel)
theorem wm_X8_15 : Cond.methodLink RX8 15 Lib.Math.max.name ∈ xk_WS := xk_in 54 (by decide +kernel) (by decide +kernel)
theorem wo_static_Lib_Math_max_name : Cond.static Lib.Math.max.name ∈ xk_WS := xk_in 55 (by decide +kernel) (by decide +kernel)
theorem wo_code_Lib_Math_max_name_Lib_Math_max_code_2_some_int_ : Cond.code Lib.Math.max.name Lib.Math.max.code 2 (some .int) ∈ xk_WS := xk_in 56 (by decide +kernel) (by decide +kernel)
theorem wf_X8_18 : Cond.fieldLink RX8 18 "PairScales" "things" "I" ∈ xk_WS := xk_in 193 (by decide +kernel) (by decide +kernel)
theorem wq_X8_22 : Cond.classLink RX8 22 RX5 ∈ xk_WS := xk_in 57 (by decide +kernel) (by decide +kernel)
theorem wz_X5 : Cond.instantiable RX5 3 ∈ xk_WS := xk_in 58 (by decide +kernel) (by decide +kernel)
theorem wn_X5 : Cond.initialized RX5 ∈ xk_WS := xk_in 32 (by decide +kernel) (by decide +kernel)
theorem wf_X8_27 : Cond.fieldLink RX8 27 "PairScales" "sayings" "LPairScales$Table;" ∈ xk_WS := xk_in 194 (by decide +kernel) (by decide +kernel)
theorem wf_X8_31 : Cond.fieldLink RX8 31 "PairScales" "spans" "LPairScales$Table;" ∈ xk_WS := xk_in 195 (by decide +kernel) (by decide +kernel)
theorem wq_X8_34 : Cond.classLink RX8 34 RX7 ∈ xk_WS := xk_in 80 (by decide +kernel) (by decide +kernel)
theorem wz_X7 : Cond.instantiable RX7 5 ∈ xk_WS := xk_in 81 (by decide +kernel) (by decide +kernel)
theorem wn_X7 : Cond.initialized RX7 ∈ xk_WS := xk_in 34 (by decide +kernel) (by decide +kernel)
theorem wf_X8_37 : Cond.fieldLink RX8 37 "PairScales" "worstThree" "LPairScales$WorstThree;" ∈ xk_WS := xk_in 196 (by decide +kernel) (by decide +kernel)
theorem wq_X8_41 : Cond.classLink RX8 41 RX3 ∈ xk_WS := xk_in 106 (by decide +kernel) (by decide +kernel)
theorem wz_X3 : Cond.instantiable RX3 2 ∈ xk_WS := xk_in 107 (by decide +kernel) (by decide +kernel)
theorem wn_X3 : Cond.initialized RX3 ∈ xk_WS := xk_in 35 (by decide +kernel) (by decide +kernel)
theorem wf_X8_44 : Cond.fieldLink RX8 44 "PairScales" "rings" "LPairScales$Rings;" ∈ xk_WS := xk_in 197 (by decide +kernel) (by decide +kernel)
theorem wq_X8_48 : Cond.classLink RX8 48 RX6 ∈ xk_WS := xk_in 120 (by decide +kernel) (by decide +kernel)
theorem wz_X6 : Cond.instantiable RX6 2 ∈ xk_WS := xk_in 121 (by decide +kernel) (by decide +kernel)
theorem wn_X6 : Cond.initialized RX6 ∈ xk_WS := xk_in 36 (by decide +kernel) (by decide +kernel)
theorem wf_X8_51 : Cond.fieldLink RX8 51 "PairScales" "treeCount" "LPairScales$TreeCount;" ∈ xk_WS := xk_in 198 (by decide +kernel) (by decide +kernel)
theorem wq_X8_55 : Cond.classLink RX8 55 RX2 ∈ xk_WS := xk_in 136 (by decide +kernel) (by decide +kernel)
theorem wz_X2 : Cond.instantiable RX2 8 ∈ xk_WS := xk_in 137 (by decide +kernel) (by decide +kernel)
theorem wn_X2 : Cond.initialized RX2 ∈ xk_WS := xk_in 37 (by decide +kernel) (by decide +kernel)
theorem wf_X8_58 : Cond.fieldLink RX8 58 "PairScales" "leaving" "LPairScales$Leaving;" ∈ xk_WS := xk_in 199 (by decide +kernel) (by decide +kernel)
theorem wq_X8_62 : Cond.classLink RX8 62 RX4 ∈ xk_WS := xk_in 170 (by decide +kernel) (by decide +kernel)
theorem wz_X4 : Cond.instantiable RX4 2 ∈ xk_WS := xk_in 171 (by decide +kernel) (by decide +kernel)
theorem wn_X4 : Cond.initialized RX4 ∈ xk_WS := xk_in 38 (by decide +kernel) (by decide +kernel)
theorem wf_X8_65 : Cond.fieldLink RX8 65 "PairScales" "roots" "LPairScales$Roots;" ∈ xk_WS := xk_in 200 (by decide +kernel) (by decide +kernel)
theorem wm_X8_24 : Cond.methodLink RX8 24 yX5_init ∈ xk_WS := xk_in 59 (by decide +kernel) (by decide +kernel)
theorem wi_X5_init : Cond.instanceMethod yX5_init ∈ xk_WS := xk_in 60 (by decide +kernel) (by decide +kernel)
theorem wc_X5_init : Cond.code yX5_init cX5_init 3 none ∈ xk_WS := xk_in 61 (by decide +kernel) (by decide +kernel)
theorem wm_X5_1 : Cond.methodLink RX5 1 objectInit ∈ xk_WS := xk_in 62 (by decide +kernel) (by decide +kernel)
theorem wf_X5_7 : Cond.fieldLink RX5 7 "PairScales$Table" "things" "I" ∈ xk_WS := xk_in 68 (by decide +kernel) (by decide +kernel)
theorem wq_X5_13 : Cond.classLink RX5 13 "[[J" ∈ xk_WS := xk_in 63 (by decide +kernel) (by decide +kernel)
theorem wa_long : Cond.arrayClass .long ∈ xk_WS := xk_in 79 (by decide +kernel) (by decide +kernel)
theorem wf_X5_15 : Cond.fieldLink RX5 15 "PairScales$Table" "lows" "[[J" ∈ xk_WS := xk_in 69 (by decide +kernel) (by decide +kernel)
theorem wm_X5_20 : Cond.methodLink RX5 20 yJ7_fill_d0a16 ∈ xk_WS := xk_in 65 (by decide +kernel) (by decide +kernel)
theorem wt_J7_fill_d0a16 : Cond.static yJ7_fill_d0a16 ∈ xk_WS := xk_in 66 (by decide +kernel) (by decide +kernel)
theorem wn_J7 : Cond.initialized RJ7 ∈ xk_WS := xk_in 33 (by decide +kernel) (by decide +kernel)
theorem wc_J7_fill_d0a16 : Cond.code yJ7_fill_d0a16 cJ7_fill_d0a16 5 none ∈ xk_WS := xk_in 67 (by decide +kernel) (by decide +kernel)
theorem wm_X8_36 : Cond.methodLink RX8 36 yX7_init ∈ xk_WS := xk_in 82 (by decide +kernel) (by decide +kernel)
theorem wi_X7_init : Cond.instanceMethod yX7_init ∈ xk_WS := xk_in 83 (by decide +kernel) (by decide +kernel)
theorem wc_X7_init : Cond.code yX7_init cX7_init 2 none ∈ xk_WS := xk_in 84 (by decide +kernel) (by decide +kernel)
theorem wm_X7_1 : Cond.methodLink RX7 1 objectInit ∈ xk_WS := xk_in 85 (by decide +kernel) (by decide +kernel)
theorem wf_X7_7 : Cond.fieldLink RX7 7 "PairScales$WorstThree" "things" "I" ∈ xk_WS := xk_in 86 (by decide +kernel) (by decide +kernel)
theorem wm_X8_43 : Cond.methodLink RX8 43 yX3_init ∈ xk_WS := xk_in 108 (by decide +kernel) (by decide +kernel)
theorem wi_X3_init : Cond.instanceMethod yX3_init ∈ xk_WS := xk_in 109 (by decide +kernel) (by decide +kernel)
theorem wc_X3_init : Cond.code yX3_init cX3_init 2 none ∈ xk_WS := xk_in 110 (by decide +kernel) (by decide +kernel)
theorem wm_X3_3 : Cond.methodLink RX3 3 objectInit ∈ xk_WS := xk_in 111 (by decide +kernel) (by decide +kernel)
theorem wf_X3_9 : Cond.fieldLink RX3 9 "PairScales$Rings" "things" "I" ∈ xk_WS := xk_in 112 (by decide +kernel) (by decide +kernel)
theorem wf_X3_15 : Cond.fieldLink RX3 15 "PairScales$Rings" "greatest" "[J" ∈ xk_WS := xk_in 113 (by decide +kernel) (by decide +kernel)
theorem wm_X8_50 : Cond.methodLink RX8 50 yX6_init ∈ xk_WS := xk_in 122 (by decide +kernel) (by decide +kernel)
theorem wi_X6_init : Cond.instanceMethod yX6_init ∈ xk_WS := xk_in 123 (by decide +kernel) (by decide +kernel)
theorem wc_X6_init : Cond.code yX6_init cX6_init 2 none ∈ xk_WS := xk_in 124 (by decide +kernel) (by decide +kernel)
theorem wm_X6_1 : Cond.methodLink RX6 1 objectInit ∈ xk_WS := xk_in 125 (by decide +kernel) (by decide +kernel)
theorem wf_X6_7 : Cond.fieldLink RX6 7 "PairScales$TreeCount" "size" "I" ∈ xk_WS := xk_in 128 (by decide +kernel) (by decide +kernel)
theorem wq_X6_13 : Cond.classLink RX6 13 "[[I" ∈ xk_WS := xk_in 126 (by decide +kernel) (by decide +kernel)
theorem wa_int : Cond.arrayClass .int ∈ xk_WS := xk_in 135 (by decide +kernel) (by decide +kernel)
theorem wf_X6_15 : Cond.fieldLink RX6 15 "PairScales$TreeCount" "matrix" "[[I" ∈ xk_WS := xk_in 129 (by decide +kernel) (by decide +kernel)
theorem wm_X8_57 : Cond.methodLink RX8 57 yX2_init ∈ xk_WS := xk_in 138 (by decide +kernel) (by decide +kernel)
theorem wi_X2_init : Cond.instanceMethod yX2_init ∈ xk_WS := xk_in 139 (by decide +kernel) (by decide +kernel)
theorem wc_X2_init : Cond.code yX2_init cX2_init 5 none ∈ xk_WS := xk_in 140 (by decide +kernel) (by decide +kernel)
theorem wm_X2_1 : Cond.methodLink RX2 1 objectInit ∈ xk_WS := xk_in 141 (by decide +kernel) (by decide +kernel)
theorem wf_X2_7 : Cond.fieldLink RX2 7 "PairScales$Leaving" "things" "I" ∈ xk_WS := xk_in 143 (by decide +kernel) (by decide +kernel)
theorem wf_X2_13 : Cond.fieldLink RX2 13 "PairScales$Leaving" "pairs" "I" ∈ xk_WS := xk_in 144 (by decide +kernel) (by decide +kernel)
theorem wf_X2_16 : Cond.fieldLink RX2 16 "PairScales$Leaving" "upper" "[I" ∈ xk_WS := xk_in 145 (by decide +kernel) (by decide +kernel)
theorem wf_X2_20 : Cond.fieldLink RX2 20 "PairScales$Leaving" "lower" "[I" ∈ xk_WS := xk_in 146 (by decide +kernel) (by decide +kernel)
theorem wq_X2_23 : Cond.classLink RX2 23 "[[I" ∈ xk_WS := xk_in 142 (by decide +kernel) (by decide +kernel)
theorem wf_X2_25 : Cond.fieldLink RX2 25 "PairScales$Leaving" "groups" "[[I" ∈ xk_WS := xk_in 147 (by decide +kernel) (by decide +kernel)
theorem wf_X2_28 : Cond.fieldLink RX2 28 "PairScales$Leaving" "worths" "[[I" ∈ xk_WS := xk_in 148 (by decide +kernel) (by decide +kernel)
theorem wi_X4_init : Cond.instanceMethod yX4_init ∈ xk_WS := xk_in 173 (by decide +kernel) (by decide +kernel)
theorem wc_X4_init : Cond.code yX4_init cX4_init 1 none ∈ xk_WS := xk_in 174 (by decide +kernel) (by decide +kernel)
theorem wm_X4_1 : Cond.methodLink RX4 1 objectInit ∈ xk_WS := xk_in 175 (by decide +kernel) (by decide +kernel)
theorem wq_X4_7 : Cond.classLink RX4 7 RX0 ∈ xk_WS := xk_in 176 (by decide +kernel) (by decide +kernel)
theorem wz_X0 : Cond.instantiable RX0 1 ∈ xk_WS := xk_in 177 (by decide +kernel) (by decide +kernel)
theorem wn_X0 : Cond.initialized RX0 ∈ xk_WS := xk_in 39 (by decide +kernel) (by decide +kernel)
theorem wf_X4_10 : Cond.fieldLink RX4 10 "PairScales$Roots" "one" "LPairScales$Big;" ∈ xk_WS := xk_in 186 (by decide +kernel) (by decide +kernel)
theorem wf_X4_16 : Cond.fieldLink RX4 16 "PairScales$Roots" "other" "LPairScales$Big;" ∈ xk_WS := xk_in 187 (by decide +kernel) (by decide +kernel)
theorem wi_X0_init : Cond.instanceMethod yX0_init ∈ xk_WS := xk_in 179 (by decide +kernel) (by decide +kernel)
theorem wc_X0_init : Cond.code yX0_init cX0_init 1 none ∈ xk_WS := xk_in 180 (by decide +kernel) (by decide +kernel)
theorem wm_X0_3 : Cond.methodLink RX0 3 objectInit ∈ xk_WS := xk_in 181 (by decide +kernel) (by decide +kernel)
theorem wf_X0_9 : Cond.fieldLink RX0 9 "PairScales$Big" "limbs" "[J" ∈ xk_WS := xk_in 182 (by decide +kernel) (by decide +kernel)
theorem wm_L_20 : Cond.methodLink RL 20 yX9_init ∈ xk_WS := xk_in 460 (by decide +kernel) (by decide +kernel)
theorem wi_X9_init : Cond.instanceMethod yX9_init ∈ xk_WS := xk_in 461 (by decide +kernel) (by decide +kernel)
theorem wc_X9_init : Cond.code yX9_init cX9_init 5 none ∈ xk_WS := xk_in 462 (by decide +kernel) (by decide +kernel)
theorem wm_X9_1 : Cond.methodLink RX9 1 objectInit ∈ xk_WS := xk_in 463 (by decide +kernel) (by decide +kernel)
theorem wf_X9_9 : Cond.fieldLink RX9 9 "PairScalesModel" "top" "[I" ∈ xk_WS := xk_in 468 (by decide +kernel) (by decide +kernel)
theorem wf_X9_13 : Cond.fieldLink RX9 13 "PairScalesModel" "bottom" "[I" ∈ xk_WS := xk_in 469 (by decide +kernel) (by decide +kernel)
theorem wf_X9_16 : Cond.fieldLink RX9 16 "PairScalesModel" "lowTop" "[I" ∈ xk_WS := xk_in 470 (by decide +kernel) (by decide +kernel)
theorem wf_X9_19 : Cond.fieldLink RX9 19 "PairScalesModel" "lowBottom" "[I" ∈ xk_WS := xk_in 471 (by decide +kernel) (by decide +kernel)
theorem wf_X9_22 : Cond.fieldLink RX9 22 "PairScalesModel" "highTop" "[I" ∈ xk_WS := xk_in 472 (by decide +kernel) (by decide +kernel)
theorem wf_X9_25 : Cond.fieldLink RX9 25 "PairScalesModel" "highBottom" "[I" ∈ xk_WS := xk_in 473 (by decide +kernel) (by decide +kernel)
theorem wf_X9_28 : Cond.fieldLink RX9 28 "PairScalesModel" "first" "[I" ∈ xk_WS := xk_in 474 (by decide +kernel) (by decide +kernel)
theorem wf_X9_31 : Cond.fieldLink RX9 31 "PairScalesModel" "second" "[I" ∈ xk_WS := xk_in 475 (by decide +kernel) (by decide +kernel)
theorem wf_X9_34 : Cond.fieldLink RX9 34 "PairScalesModel" "weightTop" "[J" ∈ xk_WS := xk_in 476 (by decide +kernel) (by decide +kernel)
theorem wf_X9_38 : Cond.fieldLink RX9 38 "PairScalesModel" "weightBottom" "[J" ∈ xk_WS := xk_in 477 (by decide +kernel) (by decide +kernel)
theorem wa_boolean : Cond.arrayClass .boolean ∈ xk_WS := xk_in 542 (by decide +kernel) (by decide +kernel)
theorem wf_X9_41 : Cond.fieldLink RX9 41 "PairScalesModel" "isReached" "[Z" ∈ xk_WS := xk_in 478 (by decide +kernel) (by decide +kernel)
theorem wf_X9_45 : Cond.fieldLink RX9 45 "PairScalesModel" "worstOf" "[I" ∈ xk_WS := xk_in 480 (by decide +kernel) (by decide +kernel)
theorem wf_X9_48 : Cond.fieldLink RX9 48 "PairScalesModel" "left" "[J" ∈ xk_WS := xk_in 481 (by decide +kernel) (by decide +kernel)
theorem wf_X9_51 : Cond.fieldLink RX9 51 "PairScalesModel" "right" "[J" ∈ xk_WS := xk_in 482 (by decide +kernel) (by decide +kernel)
theorem wf_X9_54 : Cond.fieldLink RX9 54 "PairScalesModel" "way" "[I" ∈ xk_WS := xk_in 486 (by decide +kernel) (by decide +kernel)
theorem wm_X9_57 : Cond.methodLink RX9 57 Lib.Math.min.name ∈ xk_WS := xk_in 464 (by decide +kernel) (by decide +kernel)
theorem wm_X9_63 : Cond.methodLink RX9 63 Lib.Math.max.name ∈ xk_WS := xk_in 465 (by decide +kernel) (by decide +kernel)
theorem wf_X9_66 : Cond.fieldLink RX9 66 "PairScalesModel" "n" "I" ∈ xk_WS := xk_in 466 (by decide +kernel) (by decide +kernel)
theorem wf_X9_70 : Cond.fieldLink RX9 70 "PairScalesModel" "pairs" "I" ∈ xk_WS := xk_in 467 (by decide +kernel) (by decide +kernel)
theorem wm_L_21 : Cond.methodLink RL 21 yX8_say ∈ xk_WS := xk_in 218 (by decide +kernel) (by decide +kernel)
theorem wi_X8_say : Cond.instanceMethod yX8_say ∈ xk_WS := xk_in 219 (by decide +kernel) (by decide +kernel)
theorem wl_X8_say : Cond.selects RX8 yX8_say yX8_say ∈ xk_WS := xk_in 220 (by decide +kernel) (by decide +kernel)
theorem wc_X8_say : Cond.code yX8_say cX8_say 7 (some .boolean) ∈ xk_WS := xk_in 221 (by decide +kernel) (by decide +kernel)
theorem wm_X8_69 : Cond.methodLink RX8 69 yX5_isPair ∈ xk_WS := xk_in 222 (by decide +kernel) (by decide +kernel)
theorem wi_X5_isPair : Cond.instanceMethod yX5_isPair ∈ xk_WS := xk_in 223 (by decide +kernel) (by decide +kernel)
theorem wl_X5_isPair : Cond.selects RX5 yX5_isPair yX5_isPair ∈ xk_WS := xk_in 224 (by decide +kernel) (by decide +kernel)
theorem wc_X5_isPair : Cond.code yX5_isPair cX5_isPair 3 (some .boolean) ∈ xk_WS := xk_in 225 (by decide +kernel) (by decide +kernel)
theorem wm_X5_26 : Cond.methodLink RX5 26 yX5_isThing ∈ xk_WS := xk_in 226 (by decide +kernel) (by decide +kernel)
theorem wi_X5_isThing : Cond.instanceMethod yX5_isThing ∈ xk_WS := xk_in 227 (by decide +kernel) (by decide +kernel)
theorem wl_X5_isThing : Cond.selects RX5 yX5_isThing yX5_isThing ∈ xk_WS := xk_in 228 (by decide +kernel) (by decide +kernel)
theorem wc_X5_isThing : Cond.code yX5_isThing cX5_isThing 2 (some .boolean) ∈ xk_WS := xk_in 229 (by decide +kernel) (by decide +kernel)
theorem wm_X8_73 : Cond.methodLink RX8 73 yX8_isDigit ∈ xk_WS := xk_in 230 (by decide +kernel) (by decide +kernel)
theorem wt_X8_isDigit : Cond.static yX8_isDigit ∈ xk_WS := xk_in 231 (by decide +kernel) (by decide +kernel)
theorem wc_X8_isDigit : Cond.code yX8_isDigit cX8_isDigit 1 (some .boolean) ∈ xk_WS := xk_in 232 (by decide +kernel) (by decide +kernel)
theorem wm_X8_77 : Cond.methodLink RX8 77 yX1_of ∈ xk_WS := xk_in 233 (by decide +kernel) (by decide +kernel)
theorem wt_X1_of : Cond.static yX1_of ∈ xk_WS := xk_in 234 (by decide +kernel) (by decide +kernel)
theorem wn_X1 : Cond.initialized RX1 ∈ xk_WS := xk_in 41 (by decide +kernel) (by decide +kernel)
theorem wc_X1_of : Cond.code yX1_of cX1_of 4 (some .long) ∈ xk_WS := xk_in 235 (by decide +kernel) (by decide +kernel)
theorem wm_X8_83 : Cond.methodLink RX8 83 yX5_put ∈ xk_WS := xk_in 236 (by decide +kernel) (by decide +kernel)
theorem wi_X5_put : Cond.instanceMethod yX5_put ∈ xk_WS := xk_in 237 (by decide +kernel) (by decide +kernel)
theorem wl_X5_put : Cond.selects RX5 yX5_put yX5_put ∈ xk_WS := xk_in 238 (by decide +kernel) (by decide +kernel)
theorem wc_X5_put : Cond.code yX5_put cX5_put 7 none ∈ xk_WS := xk_in 239 (by decide +kernel) (by decide +kernel)
theorem wf_X5_34 : Cond.fieldLink RX5 34 "PairScales$Table" "filled" "I" ∈ xk_WS := xk_in 70 (by decide +kernel) (by decide +kernel)
theorem wm_X5_30 : Cond.methodLink RX5 30 yX5_isPair ∈ xk_WS := xk_in 240 (by decide +kernel) (by decide +kernel)
theorem wm_X5_37 : Cond.methodLink RX5 37 yX5_holds ∈ xk_WS := xk_in 241 (by decide +kernel) (by decide +kernel)
theorem wi_X5_holds : Cond.instanceMethod yX5_holds ∈ xk_WS := xk_in 242 (by decide +kernel) (by decide +kernel)
theorem wl_X5_holds : Cond.selects RX5 yX5_holds yX5_holds ∈ xk_WS := xk_in 243 (by decide +kernel) (by decide +kernel)
theorem wc_X5_holds : Cond.code yX5_holds cX5_holds 3 (some .boolean) ∈ xk_WS := xk_in 244 (by decide +kernel) (by decide +kernel)
theorem wm_X5_40 : Cond.methodLink RX5 40 yX1_inverse ∈ xk_WS := xk_in 245 (by decide +kernel) (by decide +kernel)
theorem wt_X1_inverse : Cond.static yX1_inverse ∈ xk_WS := xk_in 246 (by decide +kernel) (by decide +kernel)
theorem wc_X1_inverse : Cond.code yX1_inverse cX1_inverse 2 (some .long) ∈ xk_WS := xk_in 247 (by decide +kernel) (by decide +kernel)
theorem wm_X1_15 : Cond.methodLink RX1 15 yX1_bottom ∈ xk_WS := xk_in 248 (by decide +kernel) (by decide +kernel)
theorem wt_X1_bottom : Cond.static yX1_bottom ∈ xk_WS := xk_in 249 (by decide +kernel) (by decide +kernel)
theorem wc_X1_bottom : Cond.code yX1_bottom cX1_bottom 2 (some .long) ∈ xk_WS := xk_in 250 (by decide +kernel) (by decide +kernel)
theorem wk_X1_7 : Cond.constantLong RX1 7 (4294967295) ∈ xk_WS := xk_in 251 (by decide +kernel) (by decide +kernel)
theorem wm_X1_9 : Cond.methodLink RX1 9 yX1_top ∈ xk_WS := xk_in 252 (by decide +kernel) (by decide +kernel)
theorem wt_X1_top : Cond.static yX1_top ∈ xk_WS := xk_in 253 (by decide +kernel) (by decide +kernel)
theorem wc_X1_top : Cond.code yX1_top cX1_top 2 (some .long) ∈ xk_WS := xk_in 254 (by decide +kernel) (by decide +kernel)
theorem wm_X1_18 : Cond.methodLink RX1 18 yX1_of ∈ xk_WS := xk_in 255 (by decide +kernel) (by decide +kernel)
theorem wm_L_25 : Cond.methodLink RL 25 yX9_say ∈ xk_WS := xk_in 543 (by decide +kernel) (by decide +kernel)
theorem wi_X9_say : Cond.instanceMethod yX9_say ∈ xk_WS := xk_in 544 (by decide +kernel) (by decide +kernel)
theorem wl_X9_say : Cond.selects RX9 yX9_say yX9_say ∈ xk_WS := xk_in 545 (by decide +kernel) (by decide +kernel)
theorem wc_X9_say : Cond.code yX9_say cX9_say 7 (some .boolean) ∈ xk_WS := xk_in 546 (by decide +kernel) (by decide +kernel)
theorem wm_X9_77 : Cond.methodLink RX9 77 yX9_areTwo ∈ xk_WS := xk_in 547 (by decide +kernel) (by decide +kernel)
theorem wi_X9_areTwo : Cond.instanceMethod yX9_areTwo ∈ xk_WS := xk_in 549 (by decide +kernel) (by decide +kernel)
theorem wl_X9_areTwo : Cond.selects RX9 yX9_areTwo yX9_areTwo ∈ xk_WS := xk_in 10 (by decide +kernel) (by decide +kernel)
theorem wc_X9_areTwo : Cond.code yX9_areTwo cX9_areTwo 3 (some .boolean) ∈ xk_WS := xk_in 550 (by decide +kernel) (by decide +kernel)
theorem wm_X9_73 : Cond.methodLink RX9 73 yX9_in ∈ xk_WS := xk_in 551 (by decide +kernel) (by decide +kernel)
theorem wt_X9_in : Cond.static yX9_in ∈ xk_WS := xk_in 552 (by decide +kernel) (by decide +kernel)
theorem wc_X9_in : Cond.code yX9_in cX9_in 3 (some .boolean) ∈ xk_WS := xk_in 553 (by decide +kernel) (by decide +kernel)
theorem wm_X9_81 : Cond.methodLink RX9 81 yX9_divisor ∈ xk_WS := xk_in 554 (by decide +kernel) (by decide +kernel)
theorem wt_X9_divisor : Cond.static yX9_divisor ∈ xk_WS := xk_in 555 (by decide +kernel) (by decide +kernel)
theorem wc_X9_divisor : Cond.code yX9_divisor cX9_divisor 10 (some .long) ∈ xk_WS := xk_in 556 (by decide +kernel) (by decide +kernel)
theorem wm_X9_85 : Cond.methodLink RX9 85 yX9_pair ∈ xk_WS := xk_in 557 (by decide +kernel) (by decide +kernel)
theorem wi_X9_pair : Cond.instanceMethod yX9_pair ∈ xk_WS := xk_in 559 (by decide +kernel) (by decide +kernel)
theorem wl_X9_pair : Cond.selects RX9 yX9_pair yX9_pair ∈ xk_WS := xk_in 11 (by decide +kernel) (by decide +kernel)
theorem wc_X9_pair : Cond.code yX9_pair cX9_pair 6 (some .int) ∈ xk_WS := xk_in 560 (by decide +kernel) (by decide +kernel)
theorem wm_L_26 : Cond.methodLink RL 26 yX8_unsay ∈ xk_WS := xk_in 256 (by decide +kernel) (by decide +kernel)
theorem wi_X8_unsay : Cond.instanceMethod yX8_unsay ∈ xk_WS := xk_in 257 (by decide +kernel) (by decide +kernel)
theorem wl_X8_unsay : Cond.selects RX8 yX8_unsay yX8_unsay ∈ xk_WS := xk_in 258 (by decide +kernel) (by decide +kernel)
theorem wc_X8_unsay : Cond.code yX8_unsay cX8_unsay 3 (some .boolean) ∈ xk_WS := xk_in 259 (by decide +kernel) (by decide +kernel)
theorem wm_X8_87 : Cond.methodLink RX8 87 yX5_drop ∈ xk_WS := xk_in 260 (by decide +kernel) (by decide +kernel)
theorem wi_X5_drop : Cond.instanceMethod yX5_drop ∈ xk_WS := xk_in 261 (by decide +kernel) (by decide +kernel)
theorem wl_X5_drop : Cond.selects RX5 yX5_drop yX5_drop ∈ xk_WS := xk_in 262 (by decide +kernel) (by decide +kernel)
theorem wc_X5_drop : Cond.code yX5_drop cX5_drop 3 (some .boolean) ∈ xk_WS := xk_in 263 (by decide +kernel) (by decide +kernel)
theorem wm_L_30 : Cond.methodLink RL 30 yX9_unsay ∈ xk_WS := xk_in 561 (by decide +kernel) (by decide +kernel)
theorem wi_X9_unsay : Cond.instanceMethod yX9_unsay ∈ xk_WS := xk_in 562 (by decide +kernel) (by decide +kernel)
theorem wl_X9_unsay : Cond.selects RX9 yX9_unsay yX9_unsay ∈ xk_WS := xk_in 563 (by decide +kernel) (by decide +kernel)
theorem wc_X9_unsay : Cond.code yX9_unsay cX9_unsay 3 (some .boolean) ∈ xk_WS := xk_in 564 (by decide +kernel) (by decide +kernel)
theorem wm_L_31 : Cond.methodLink RL 31 yX8_said ∈ xk_WS := xk_in 264 (by decide +kernel) (by decide +kernel)
theorem wi_X8_said : Cond.instanceMethod yX8_said ∈ xk_WS := xk_in 265 (by decide +kernel) (by decide +kernel)
theorem wl_X8_said : Cond.selects RX8 yX8_said yX8_said ∈ xk_WS := xk_in 266 (by decide +kernel) (by decide +kernel)
theorem wc_X8_said : Cond.code yX8_said cX8_said 4 (some .int) ∈ xk_WS := xk_in 267 (by decide +kernel) (by decide +kernel)
theorem wm_X8_90 : Cond.methodLink RX8 90 yX8_isPart ∈ xk_WS := xk_in 268 (by decide +kernel) (by decide +kernel)
theorem wt_X8_isPart : Cond.static yX8_isPart ∈ xk_WS := xk_in 269 (by decide +kernel) (by decide +kernel)
theorem wc_X8_isPart : Cond.code yX8_isPart cX8_isPart 1 (some .boolean) ∈ xk_WS := xk_in 270 (by decide +kernel) (by decide +kernel)
theorem wm_X8_93 : Cond.methodLink RX8 93 yX5_holds ∈ xk_WS := xk_in 271 (by decide +kernel) (by decide +kernel)
theorem wm_X8_96 : Cond.methodLink RX8 96 yX5_low ∈ xk_WS := xk_in 272 (by decide +kernel) (by decide +kernel)
theorem wi_X5_low : Cond.instanceMethod yX5_low ∈ xk_WS := xk_in 273 (by decide +kernel) (by decide +kernel)
theorem wl_X5_low : Cond.selects RX5 yX5_low yX5_low ∈ xk_WS := xk_in 274 (by decide +kernel) (by decide +kernel)
theorem wc_X5_low : Cond.code yX5_low cX5_low 3 (some .long) ∈ xk_WS := xk_in 275 (by decide +kernel) (by decide +kernel)
theorem wm_X8_100 : Cond.methodLink RX8 100 yX1_part ∈ xk_WS := xk_in 276 (by decide +kernel) (by decide +kernel)
theorem wt_X1_part : Cond.static yX1_part ∈ xk_WS := xk_in 277 (by decide +kernel) (by decide +kernel)
theorem wc_X1_part : Cond.code yX1_part cX1_part 7 (some .int) ∈ xk_WS := xk_in 278 (by decide +kernel) (by decide +kernel)
theorem wm_X1_22 : Cond.methodLink RX1 22 yX1_commonDivisor ∈ xk_WS := xk_in 279 (by decide +kernel) (by decide +kernel)
theorem wt_X1_commonDivisor : Cond.static yX1_commonDivisor ∈ xk_WS := xk_in 280 (by decide +kernel) (by decide +kernel)
theorem wc_X1_commonDivisor : Cond.code yX1_commonDivisor cX1_commonDivisor 11 (some .long) ∈ xk_WS := xk_in 281 (by decide +kernel) (by decide +kernel)
theorem wm_L_35 : Cond.methodLink RL 35 yX9_said ∈ xk_WS := xk_in 565 (by decide +kernel) (by decide +kernel)
theorem wi_X9_said : Cond.instanceMethod yX9_said ∈ xk_WS := xk_in 566 (by decide +kernel) (by decide +kernel)
theorem wl_X9_said : Cond.selects RX9 yX9_said yX9_said ∈ xk_WS := xk_in 567 (by decide +kernel) (by decide +kernel)
theorem wc_X9_said : Cond.code yX9_said cX9_said 4 (some .int) ∈ xk_WS := xk_in 568 (by decide +kernel) (by decide +kernel)
theorem wm_X9_88 : Cond.methodLink RX9 88 yX9_isSaid ∈ xk_WS := xk_in 569 (by decide +kernel) (by decide +kernel)
theorem wi_X9_isSaid : Cond.instanceMethod yX9_isSaid ∈ xk_WS := xk_in 571 (by decide +kernel) (by decide +kernel)
theorem wl_X9_isSaid : Cond.selects RX9 yX9_isSaid yX9_isSaid ∈ xk_WS := xk_in 12 (by decide +kernel) (by decide +kernel)
theorem wc_X9_isSaid : Cond.code yX9_isSaid cX9_isSaid 3 (some .boolean) ∈ xk_WS := xk_in 572 (by decide +kernel) (by decide +kernel)
theorem wm_X9_91 : Cond.methodLink RX9 91 yX9_topOf ∈ xk_WS := xk_in 573 (by decide +kernel) (by decide +kernel)
theorem wi_X9_topOf : Cond.instanceMethod yX9_topOf ∈ xk_WS := xk_in 575 (by decide +kernel) (by decide +kernel)
theorem wl_X9_topOf : Cond.selects RX9 yX9_topOf yX9_topOf ∈ xk_WS := xk_in 13 (by decide +kernel) (by decide +kernel)
theorem wc_X9_topOf : Cond.code yX9_topOf cX9_topOf 3 (some .int) ∈ xk_WS := xk_in 576 (by decide +kernel) (by decide +kernel)
theorem wm_X9_94 : Cond.methodLink RX9 94 yX9_bottomOf ∈ xk_WS := xk_in 577 (by decide +kernel) (by decide +kernel)
theorem wi_X9_bottomOf : Cond.instanceMethod yX9_bottomOf ∈ xk_WS := xk_in 579 (by decide +kernel) (by decide +kernel)
theorem wl_X9_bottomOf : Cond.selects RX9 yX9_bottomOf yX9_bottomOf ∈ xk_WS := xk_in 14 (by decide +kernel) (by decide +kernel)
theorem wc_X9_bottomOf : Cond.code yX9_bottomOf cX9_bottomOf 3 (some .int) ∈ xk_WS := xk_in 580 (by decide +kernel) (by decide +kernel)
theorem wm_L_36 : Cond.methodLink RL 36 yX8_even ∈ xk_WS := xk_in 282 (by decide +kernel) (by decide +kernel)
theorem wi_X8_even : Cond.instanceMethod yX8_even ∈ xk_WS := xk_in 283 (by decide +kernel) (by decide +kernel)
theorem wl_X8_even : Cond.selects RX8 yX8_even yX8_even ∈ xk_WS := xk_in 284 (by decide +kernel) (by decide +kernel)
theorem wc_X8_even : Cond.code yX8_even cX8_even 1 (some .boolean) ∈ xk_WS := xk_in 285 (by decide +kernel) (by decide +kernel)
theorem wm_X8_104 : Cond.methodLink RX8 104 yX3_noneAboveOne ∈ xk_WS := xk_in 286 (by decide +kernel) (by decide +kernel)
theorem wi_X3_noneAboveOne : Cond.instanceMethod yX3_noneAboveOne ∈ xk_WS := xk_in 287 (by decide +kernel) (by decide +kernel)
theorem wl_X3_noneAboveOne : Cond.selects RX3 yX3_noneAboveOne yX3_noneAboveOne ∈ xk_WS := xk_in 288 (by decide +kernel) (by decide +kernel)
theorem wc_X3_noneAboveOne : Cond.code yX3_noneAboveOne cX3_noneAboveOne 3 (some .boolean) ∈ xk_WS := xk_in 289 (by decide +kernel) (by decide +kernel)
theorem wk_X3_25 : Cond.constantLong RX3 25 (4294967297) ∈ xk_WS := xk_in 295 (by decide +kernel) (by decide +kernel)
theorem wm_X3_19 : Cond.methodLink RX3 19 yX3_measure ∈ xk_WS := xk_in 290 (by decide +kernel) (by decide +kernel)
theorem wi_X3_measure : Cond.instanceMethod yX3_measure ∈ xk_WS := xk_in 291 (by decide +kernel) (by decide +kernel)
theorem wl_X3_measure : Cond.selects RX3 yX3_measure yX3_measure ∈ xk_WS := xk_in 292 (by decide +kernel) (by decide +kernel)
theorem wc_X3_measure : Cond.code yX3_measure cX3_measure 3 none ∈ xk_WS := xk_in 293 (by decide +kernel) (by decide +kernel)
theorem wm_X3_31 : Cond.methodLink RX3 31 yJ7_fill_d0a16 ∈ xk_WS := xk_in 294 (by decide +kernel) (by decide +kernel)
theorem wm_X3_37 : Cond.methodLink RX3 37 yX3_extend ∈ xk_WS := xk_in 296 (by decide +kernel) (by decide +kernel)
theorem wi_X3_extend : Cond.instanceMethod yX3_extend ∈ xk_WS := xk_in 298 (by decide +kernel) (by decide +kernel)
theorem wl_X3_extend : Cond.selects RX3 yX3_extend yX3_extend ∈ xk_WS := xk_in 0 (by decide +kernel) (by decide +kernel)
theorem wc_X3_extend : Cond.code yX3_extend cX3_extend 11 none ∈ xk_WS := xk_in 299 (by decide +kernel) (by decide +kernel)
theorem wm_X3_41 : Cond.methodLink RX3 41 yX5_holds ∈ xk_WS := xk_in 300 (by decide +kernel) (by decide +kernel)
theorem wm_X3_47 : Cond.methodLink RX3 47 yX5_low ∈ xk_WS := xk_in 301 (by decide +kernel) (by decide +kernel)
theorem wm_X3_51 : Cond.methodLink RX3 51 yX1_times ∈ xk_WS := xk_in 302 (by decide +kernel) (by decide +kernel)
theorem wt_X1_times : Cond.static yX1_times ∈ xk_WS := xk_in 303 (by decide +kernel) (by decide +kernel)
theorem wc_X1_times : Cond.code yX1_times cX1_times 4 (some .long) ∈ xk_WS := xk_in 304 (by decide +kernel) (by decide +kernel)
theorem wm_X3_55 : Cond.methodLink RX3 55 yX3_close ∈ xk_WS := xk_in 305 (by decide +kernel) (by decide +kernel)
theorem wi_X3_close : Cond.instanceMethod yX3_close ∈ xk_WS := xk_in 307 (by decide +kernel) (by decide +kernel)
theorem wl_X3_close : Cond.selects RX3 yX3_close yX3_close ∈ xk_WS := xk_in 1 (by decide +kernel) (by decide +kernel)
theorem wc_X3_close : Cond.code yX3_close cX3_close 4 none ∈ xk_WS := xk_in 308 (by decide +kernel) (by decide +kernel)
theorem wm_X3_27 : Cond.methodLink RX3 27 yX1_isAbove ∈ xk_WS := xk_in 309 (by decide +kernel) (by decide +kernel)
theorem wt_X1_isAbove : Cond.static yX1_isAbove ∈ xk_WS := xk_in 310 (by decide +kernel) (by decide +kernel)
theorem wc_X1_isAbove : Cond.code yX1_isAbove cX1_isAbove 4 (some .boolean) ∈ xk_WS := xk_in 311 (by decide +kernel) (by decide +kernel)
theorem wm_L_40 : Cond.methodLink RL 40 yX9_even ∈ xk_WS := xk_in 581 (by decide +kernel) (by decide +kernel)
theorem wi_X9_even : Cond.instanceMethod yX9_even ∈ xk_WS := xk_in 582 (by decide +kernel) (by decide +kernel)
theorem wl_X9_even : Cond.selects RX9 yX9_even yX9_even ∈ xk_WS := xk_in 583 (by decide +kernel) (by decide +kernel)
theorem wc_X9_even : Cond.code yX9_even cX9_even 1 (some .boolean) ∈ xk_WS := xk_in 584 (by decide +kernel) (by decide +kernel)
theorem wm_X9_100 : Cond.methodLink RX9 100 yX9_all ∈ xk_WS := xk_in 585 (by decide +kernel) (by decide +kernel)
theorem wi_X9_all : Cond.instanceMethod yX9_all ∈ xk_WS := xk_in 587 (by decide +kernel) (by decide +kernel)
theorem wl_X9_all : Cond.selects RX9 yX9_all yX9_all ∈ xk_WS := xk_in 15 (by decide +kernel) (by decide +kernel)
theorem wc_X9_all : Cond.code yX9_all cX9_all 3 (some .int) ∈ xk_WS := xk_in 588 (by decide +kernel) (by decide +kernel)
theorem wm_X9_104 : Cond.methodLink RX9 104 yX9_fits ∈ xk_WS := xk_in 589 (by decide +kernel) (by decide +kernel)
theorem wi_X9_fits : Cond.instanceMethod yX9_fits ∈ xk_WS := xk_in 591 (by decide +kernel) (by decide +kernel)
theorem wl_X9_fits : Cond.selects RX9 yX9_fits yX9_fits ∈ xk_WS := xk_in 16 (by decide +kernel) (by decide +kernel)
theorem wc_X9_fits : Cond.code yX9_fits cX9_fits 14 (some .boolean) ∈ xk_WS := xk_in 592 (by decide +kernel) (by decide +kernel)
theorem wf_X9_97 : Cond.fieldLink RX9 97 "PairScalesModel" "parts" "I" ∈ xk_WS := xk_in 479 (by decide +kernel) (by decide +kernel)
theorem wm_L_41 : Cond.methodLink RL 41 yX8_worst ∈ xk_WS := xk_in 312 (by decide +kernel) (by decide +kernel)
theorem wi_X8_worst : Cond.instanceMethod yX8_worst ∈ xk_WS := xk_in 313 (by decide +kernel) (by decide +kernel)
theorem wl_X8_worst : Cond.selects RX8 yX8_worst yX8_worst ∈ xk_WS := xk_in 314 (by decide +kernel) (by decide +kernel)
theorem wc_X8_worst : Cond.code yX8_worst cX8_worst 2 (some .int) ∈ xk_WS := xk_in 315 (by decide +kernel) (by decide +kernel)
theorem wm_X8_108 : Cond.methodLink RX8 108 yX7_find ∈ xk_WS := xk_in 316 (by decide +kernel) (by decide +kernel)
theorem wi_X7_find : Cond.instanceMethod yX7_find ∈ xk_WS := xk_in 317 (by decide +kernel) (by decide +kernel)
theorem wl_X7_find : Cond.selects RX7 yX7_find yX7_find ∈ xk_WS := xk_in 318 (by decide +kernel) (by decide +kernel)
theorem wc_X7_find : Cond.code yX7_find cX7_find 5 none ∈ xk_WS := xk_in 319 (by decide +kernel) (by decide +kernel)
theorem wf_X7_15 : Cond.fieldLink RX7 15 "PairScales$WorstThree" "off" "J" ∈ xk_WS := xk_in 93 (by decide +kernel) (by decide +kernel)
theorem wm_X7_19 : Cond.methodLink RX7 19 yX7_compare ∈ xk_WS := xk_in 320 (by decide +kernel) (by decide +kernel)
theorem wi_X7_compare : Cond.instanceMethod yX7_compare ∈ xk_WS := xk_in 322 (by decide +kernel) (by decide +kernel)
theorem wl_X7_compare : Cond.selects RX7 yX7_compare yX7_compare ∈ xk_WS := xk_in 2 (by decide +kernel) (by decide +kernel)
theorem wc_X7_compare : Cond.code yX7_compare cX7_compare 7 none ∈ xk_WS := xk_in 323 (by decide +kernel) (by decide +kernel)
theorem wf_X7_31 : Cond.fieldLink RX7 31 "PairScales$WorstThree" "i" "I" ∈ xk_WS := xk_in 87 (by decide +kernel) (by decide +kernel)
theorem wf_X7_34 : Cond.fieldLink RX7 34 "PairScales$WorstThree" "j" "I" ∈ xk_WS := xk_in 89 (by decide +kernel) (by decide +kernel)
theorem wf_X7_37 : Cond.fieldLink RX7 37 "PairScales$WorstThree" "k" "I" ∈ xk_WS := xk_in 91 (by decide +kernel) (by decide +kernel)
theorem wm_X7_23 : Cond.methodLink RX7 23 yX7_offOf ∈ xk_WS := xk_in 324 (by decide +kernel) (by decide +kernel)
theorem wt_X7_offOf : Cond.static yX7_offOf ∈ xk_WS := xk_in 325 (by decide +kernel) (by decide +kernel)
theorem wc_X7_offOf : Cond.code yX7_offOf cX7_offOf 6 (some .long) ∈ xk_WS := xk_in 326 (by decide +kernel) (by decide +kernel)
theorem wk_X7_54 : Cond.constantLong RX7 54 (4294967297) ∈ xk_WS := xk_in 330 (by decide +kernel) (by decide +kernel)
theorem wm_X7_40 : Cond.methodLink RX7 40 yX5_holds ∈ xk_WS := xk_in 327 (by decide +kernel) (by decide +kernel)
theorem wm_X7_46 : Cond.methodLink RX7 46 yX5_low ∈ xk_WS := xk_in 328 (by decide +kernel) (by decide +kernel)
theorem wm_X7_50 : Cond.methodLink RX7 50 yX1_times ∈ xk_WS := xk_in 329 (by decide +kernel) (by decide +kernel)
theorem wm_X7_27 : Cond.methodLink RX7 27 yX1_isAbove ∈ xk_WS := xk_in 331 (by decide +kernel) (by decide +kernel)
theorem wm_X7_56 : Cond.methodLink RX7 56 yX1_inverse ∈ xk_WS := xk_in 332 (by decide +kernel) (by decide +kernel)
theorem wm_L_45 : Cond.methodLink RL 45 yX9_worst ∈ xk_WS := xk_in 615 (by decide +kernel) (by decide +kernel)
theorem wi_X9_worst : Cond.instanceMethod yX9_worst ∈ xk_WS := xk_in 616 (by decide +kernel) (by decide +kernel)
theorem wl_X9_worst : Cond.selects RX9 yX9_worst yX9_worst ∈ xk_WS := xk_in 617 (by decide +kernel) (by decide +kernel)
theorem wc_X9_worst : Cond.code yX9_worst cX9_worst 2 (some .int) ∈ xk_WS := xk_in 618 (by decide +kernel) (by decide +kernel)
theorem wm_X9_117 : Cond.methodLink RX9 117 yX9_findsWorst ∈ xk_WS := xk_in 619 (by decide +kernel) (by decide +kernel)
theorem wi_X9_findsWorst : Cond.instanceMethod yX9_findsWorst ∈ xk_WS := xk_in 621 (by decide +kernel) (by decide +kernel)
theorem wl_X9_findsWorst : Cond.selects RX9 yX9_findsWorst yX9_findsWorst ∈ xk_WS := xk_in 18 (by decide +kernel) (by decide +kernel)
theorem wc_X9_findsWorst : Cond.code yX9_findsWorst cX9_findsWorst 10 (some .boolean) ∈ xk_WS := xk_in 622 (by decide +kernel) (by decide +kernel)
theorem wm_L_46 : Cond.methodLink RL 46 yX8_trees ∈ xk_WS := xk_in 333 (by decide +kernel) (by decide +kernel)
theorem wi_X8_trees : Cond.instanceMethod yX8_trees ∈ xk_WS := xk_in 334 (by decide +kernel) (by decide +kernel)
theorem wl_X8_trees : Cond.selects RX8 yX8_trees yX8_trees ∈ xk_WS := xk_in 335 (by decide +kernel) (by decide +kernel)
theorem wc_X8_trees : Cond.code yX8_trees cX8_trees 1 (some .int) ∈ xk_WS := xk_in 336 (by decide +kernel) (by decide +kernel)
theorem wm_X8_125 : Cond.methodLink RX8 125 yX6_of ∈ xk_WS := xk_in 337 (by decide +kernel) (by decide +kernel)
theorem wi_X6_of : Cond.instanceMethod yX6_of ∈ xk_WS := xk_in 338 (by decide +kernel) (by decide +kernel)
theorem wl_X6_of : Cond.selects RX6 yX6_of yX6_of ∈ xk_WS := xk_in 339 (by decide +kernel) (by decide +kernel)
theorem wc_X6_of : Cond.code yX6_of cX6_of 5 (some .int) ∈ xk_WS := xk_in 340 (by decide +kernel) (by decide +kernel)
theorem wm_X6_18 : Cond.methodLink RX6 18 yX6_fill ∈ xk_WS := xk_in 341 (by decide +kernel) (by decide +kernel)
theorem wi_X6_fill : Cond.instanceMethod yX6_fill ∈ xk_WS := xk_in 343 (by decide +kernel) (by decide +kernel)
theorem wl_X6_fill : Cond.selects RX6 yX6_fill yX6_fill ∈ xk_WS := xk_in 3 (by decide +kernel) (by decide +kernel)
theorem wc_X6_fill : Cond.code yX6_fill cX6_fill 6 none ∈ xk_WS := xk_in 344 (by decide +kernel) (by decide +kernel)
theorem wm_X6_26 : Cond.methodLink RX6 26 yX5_holds ∈ xk_WS := xk_in 345 (by decide +kernel) (by decide +kernel)
theorem wm_X6_22 : Cond.methodLink RX6 22 yX6_eliminate ∈ xk_WS := xk_in 346 (by decide +kernel) (by decide +kernel)
theorem wi_X6_eliminate : Cond.instanceMethod yX6_eliminate ∈ xk_WS := xk_in 348 (by decide +kernel) (by decide +kernel)
theorem wl_X6_eliminate : Cond.selects RX6 yX6_eliminate yX6_eliminate ∈ xk_WS := xk_in 4 (by decide +kernel) (by decide +kernel)
theorem wc_X6_eliminate : Cond.code yX6_eliminate cX6_eliminate 7 none ∈ xk_WS := xk_in 349 (by decide +kernel) (by decide +kernel)
theorem wm_L_50 : Cond.methodLink RL 50 yX9_trees ∈ xk_WS := xk_in 593 (by decide +kernel) (by decide +kernel)
theorem wi_X9_trees : Cond.instanceMethod yX9_trees ∈ xk_WS := xk_in 594 (by decide +kernel) (by decide +kernel)
theorem wl_X9_trees : Cond.selects RX9 yX9_trees yX9_trees ∈ xk_WS := xk_in 595 (by decide +kernel) (by decide +kernel)
theorem wc_X9_trees : Cond.code yX9_trees cX9_trees 5 (some .int) ∈ xk_WS := xk_in 596 (by decide +kernel) (by decide +kernel)
theorem wm_X9_108 : Cond.methodLink RX9 108 yJ6_bitCount_0f7a4 ∈ xk_WS := xk_in 597 (by decide +kernel) (by decide +kernel)
theorem wt_J6_bitCount_0f7a4 : Cond.static yJ6_bitCount_0f7a4 ∈ xk_WS := xk_in 598 (by decide +kernel) (by decide +kernel)
theorem wn_J6 : Cond.initialized RJ6 ∈ xk_WS := xk_in 42 (by decide +kernel) (by decide +kernel)
theorem wc_J6_bitCount_0f7a4 : Cond.code yJ6_bitCount_0f7a4 cJ6_bitCount_0f7a4 1 (some .int) ∈ xk_WS := xk_in 599 (by decide +kernel) (by decide +kernel)
theorem wk_J6_265 : Cond.constant RJ6 265 (1431655765) ∈ xk_WS := xk_in 600 (by decide +kernel) (by decide +kernel)
theorem wk_J6_266 : Cond.constant RJ6 266 (858993459) ∈ xk_WS := xk_in 601 (by decide +kernel) (by decide +kernel)
theorem wk_J6_267 : Cond.constant RJ6 267 (252645135) ∈ xk_WS := xk_in 602 (by decide +kernel) (by decide +kernel)
theorem wm_L_51 : Cond.methodLink RL 51 yX8_few ∈ xk_WS := xk_in 350 (by decide +kernel) (by decide +kernel)
theorem wi_X8_few : Cond.instanceMethod yX8_few ∈ xk_WS := xk_in 351 (by decide +kernel) (by decide +kernel)
theorem wl_X8_few : Cond.selects RX8 yX8_few yX8_few ∈ xk_WS := xk_in 352 (by decide +kernel) (by decide +kernel)
theorem wc_X8_few : Cond.code yX8_few cX8_few 1 (some .int) ∈ xk_WS := xk_in 353 (by decide +kernel) (by decide +kernel)
theorem wm_X8_128 : Cond.methodLink RX8 128 yX2_search ∈ xk_WS := xk_in 354 (by decide +kernel) (by decide +kernel)
theorem wi_X2_search : Cond.instanceMethod yX2_search ∈ xk_WS := xk_in 355 (by decide +kernel) (by decide +kernel)
theorem wl_X2_search : Cond.selects RX2 yX2_search yX2_search ∈ xk_WS := xk_in 356 (by decide +kernel) (by decide +kernel)
theorem wc_X2_search : Cond.code yX2_search cX2_search 2 none ∈ xk_WS := xk_in 357 (by decide +kernel) (by decide +kernel)
theorem wf_X2_31 : Cond.fieldLink RX2 31 "PairScales$Leaving" "fewest" "I" ∈ xk_WS := xk_in 149 (by decide +kernel) (by decide +kernel)
theorem wf_X2_34 : Cond.fieldLink RX2 34 "PairScales$Leaving" "leastHeap" "I" ∈ xk_WS := xk_in 151 (by decide +kernel) (by decide +kernel)
theorem wm_X2_37 : Cond.methodLink RX2 37 yX2_settle ∈ xk_WS := xk_in 358 (by decide +kernel) (by decide +kernel)
theorem wi_X2_settle : Cond.instanceMethod yX2_settle ∈ xk_WS := xk_in 360 (by decide +kernel) (by decide +kernel)
theorem wl_X2_settle : Cond.selects RX2 yX2_settle yX2_settle ∈ xk_WS := xk_in 5 (by decide +kernel) (by decide +kernel)
theorem wc_X2_settle : Cond.code yX2_settle cX2_settle 11 none ∈ xk_WS := xk_in 361 (by decide +kernel) (by decide +kernel)
theorem wm_X2_41 : Cond.methodLink RX2 41 yX5_holds ∈ xk_WS := xk_in 362 (by decide +kernel) (by decide +kernel)
theorem wm_X2_47 : Cond.methodLink RX2 47 yX5_low ∈ xk_WS := xk_in 363 (by decide +kernel) (by decide +kernel)
theorem wm_X2_51 : Cond.methodLink RX2 51 yX2_logOf ∈ xk_WS := xk_in 364 (by decide +kernel) (by decide +kernel)
theorem wt_X2_logOf : Cond.static yX2_logOf ∈ xk_WS := xk_in 365 (by decide +kernel) (by decide +kernel)
theorem wc_X2_logOf : Cond.code yX2_logOf cX2_logOf 2 (some .int) ∈ xk_WS := xk_in 366 (by decide +kernel) (by decide +kernel)
theorem wm_X2_59 : Cond.methodLink RX2 59 yX1_top ∈ xk_WS := xk_in 367 (by decide +kernel) (by decide +kernel)
theorem wm_X2_65 : Cond.methodLink RX2 65 yX2_logOfDigit ∈ xk_WS := xk_in 368 (by decide +kernel) (by decide +kernel)
theorem wt_X2_logOfDigit : Cond.static yX2_logOfDigit ∈ xk_WS := xk_in 369 (by decide +kernel) (by decide +kernel)
theorem wc_X2_logOfDigit : Cond.code yX2_logOfDigit cX2_logOfDigit 2 (some .int) ∈ xk_WS := xk_in 370 (by decide +kernel) (by decide +kernel)
theorem wf_X2_71 : Cond.fieldLink RX2 71 "PairScales$Leaving" "LOGS" "[I" ∈ xk_WS := xk_in 371 (by decide +kernel) (by decide +kernel)
theorem wm_X2_68 : Cond.methodLink RX2 68 yX1_bottom ∈ xk_WS := xk_in 373 (by decide +kernel) (by decide +kernel)
theorem wm_X2_55 : Cond.methodLink RX2 55 yX2_join ∈ xk_WS := xk_in 374 (by decide +kernel) (by decide +kernel)
theorem wi_X2_join : Cond.instanceMethod yX2_join ∈ xk_WS := xk_in 376 (by decide +kernel) (by decide +kernel)
theorem wl_X2_join : Cond.selects RX2 yX2_join yX2_join ∈ xk_WS := xk_in 6 (by decide +kernel) (by decide +kernel)
theorem wc_X2_join : Cond.code yX2_join cX2_join 10 none ∈ xk_WS := xk_in 377 (by decide +kernel) (by decide +kernel)
theorem wm_L_54 : Cond.methodLink RL 54 yX9_few ∈ xk_WS := xk_in 603 (by decide +kernel) (by decide +kernel)
theorem wi_X9_few : Cond.instanceMethod yX9_few ∈ xk_WS := xk_in 604 (by decide +kernel) (by decide +kernel)
theorem wl_X9_few : Cond.selects RX9 yX9_few yX9_few ∈ xk_WS := xk_in 605 (by decide +kernel) (by decide +kernel)
theorem wc_X9_few : Cond.code yX9_few cX9_few 1 (some .int) ∈ xk_WS := xk_in 606 (by decide +kernel) (by decide +kernel)
theorem wm_X9_114 : Cond.methodLink RX9 114 yX9_leastHeap ∈ xk_WS := xk_in 607 (by decide +kernel) (by decide +kernel)
theorem wi_X9_leastHeap : Cond.instanceMethod yX9_leastHeap ∈ xk_WS := xk_in 609 (by decide +kernel) (by decide +kernel)
theorem wl_X9_leastHeap : Cond.selects RX9 yX9_leastHeap yX9_leastHeap ∈ xk_WS := xk_in 17 (by decide +kernel) (by decide +kernel)
theorem wc_X9_leastHeap : Cond.code yX9_leastHeap cX9_leastHeap 4 (some .int) ∈ xk_WS := xk_in 610 (by decide +kernel) (by decide +kernel)
theorem wm_L_55 : Cond.methodLink RL 55 yX8_left ∈ xk_WS := xk_in 378 (by decide +kernel) (by decide +kernel)
theorem wi_X8_left : Cond.instanceMethod yX8_left ∈ xk_WS := xk_in 379 (by decide +kernel) (by decide +kernel)
theorem wl_X8_left : Cond.selects RX8 yX8_left yX8_left ∈ xk_WS := xk_in 380 (by decide +kernel) (by decide +kernel)
theorem wc_X8_left : Cond.code yX8_left cX8_left 1 (some .int) ∈ xk_WS := xk_in 381 (by decide +kernel) (by decide +kernel)
theorem wm_L_58 : Cond.methodLink RL 58 yX9_left ∈ xk_WS := xk_in 611 (by decide +kernel) (by decide +kernel)
theorem wi_X9_left : Cond.instanceMethod yX9_left ∈ xk_WS := xk_in 612 (by decide +kernel) (by decide +kernel)
theorem wl_X9_left : Cond.selects RX9 yX9_left yX9_left ∈ xk_WS := xk_in 613 (by decide +kernel) (by decide +kernel)
theorem wc_X9_left : Cond.code yX9_left cX9_left 1 (some .int) ∈ xk_WS := xk_in 614 (by decide +kernel) (by decide +kernel)
theorem wm_L_59 : Cond.methodLink RL 59 yX8_row ∈ xk_WS := xk_in 382 (by decide +kernel) (by decide +kernel)
theorem wi_X8_row : Cond.instanceMethod yX8_row ∈ xk_WS := xk_in 383 (by decide +kernel) (by decide +kernel)
theorem wl_X8_row : Cond.selects RX8 yX8_row yX8_row ∈ xk_WS := xk_in 384 (by decide +kernel) (by decide +kernel)
theorem wc_X8_row : Cond.code yX8_row cX8_row 3 (some .int) ∈ xk_WS := xk_in 385 (by decide +kernel) (by decide +kernel)
theorem wm_X8_137 : Cond.methodLink RX8 137 yX5_isThing ∈ xk_WS := xk_in 386 (by decide +kernel) (by decide +kernel)
theorem wm_X8_140 : Cond.methodLink RX8 140 yX5_isFull ∈ xk_WS := xk_in 387 (by decide +kernel) (by decide +kernel)
theorem wi_X5_isFull : Cond.instanceMethod yX5_isFull ∈ xk_WS := xk_in 388 (by decide +kernel) (by decide +kernel)
theorem wl_X5_isFull : Cond.selects RX5 yX5_isFull yX5_isFull ∈ xk_WS := xk_in 389 (by decide +kernel) (by decide +kernel)
theorem wc_X5_isFull : Cond.code yX5_isFull cX5_isFull 1 (some .boolean) ∈ xk_WS := xk_in 390 (by decide +kernel) (by decide +kernel)
theorem wm_X8_144 : Cond.methodLink RX8 144 yX8_productOfRow ∈ xk_WS := xk_in 391 (by decide +kernel) (by decide +kernel)
theorem wi_X8_productOfRow : Cond.instanceMethod yX8_productOfRow ∈ xk_WS := xk_in 393 (by decide +kernel) (by decide +kernel)
theorem wl_X8_productOfRow : Cond.selects RX8 yX8_productOfRow yX8_productOfRow ∈ xk_WS := xk_in 7 (by decide +kernel) (by decide +kernel)
theorem wc_X8_productOfRow : Cond.code yX8_productOfRow cX8_productOfRow 5 (some .long) ∈ xk_WS := xk_in 394 (by decide +kernel) (by decide +kernel)
theorem wk_X8_160 : Cond.constantLong RX8 160 (4294967297) ∈ xk_WS := xk_in 395 (by decide +kernel) (by decide +kernel)
theorem wm_X8_169 : Cond.methodLink RX8 169 yX1_times ∈ xk_WS := xk_in 396 (by decide +kernel) (by decide +kernel)
theorem wm_L_63 : Cond.methodLink RL 63 yX9_row ∈ xk_WS := xk_in 623 (by decide +kernel) (by decide +kernel)
theorem wi_X9_row : Cond.instanceMethod yX9_row ∈ xk_WS := xk_in 624 (by decide +kernel) (by decide +kernel)
theorem wl_X9_row : Cond.selects RX9 yX9_row yX9_row ∈ xk_WS := xk_in 625 (by decide +kernel) (by decide +kernel)
theorem wc_X9_row : Cond.code yX9_row cX9_row 3 (some .int) ∈ xk_WS := xk_in 626 (by decide +kernel) (by decide +kernel)
theorem wm_X9_121 : Cond.methodLink RX9 121 yX9_areAllSaid ∈ xk_WS := xk_in 627 (by decide +kernel) (by decide +kernel)
theorem wi_X9_areAllSaid : Cond.instanceMethod yX9_areAllSaid ∈ xk_WS := xk_in 629 (by decide +kernel) (by decide +kernel)
theorem wl_X9_areAllSaid : Cond.selects RX9 yX9_areAllSaid yX9_areAllSaid ∈ xk_WS := xk_in 19 (by decide +kernel) (by decide +kernel)
theorem wc_X9_areAllSaid : Cond.code yX9_areAllSaid cX9_areAllSaid 1 (some .boolean) ∈ xk_WS := xk_in 630 (by decide +kernel) (by decide +kernel)
theorem wm_X9_124 : Cond.methodLink RX9 124 yX9_rowPart ∈ xk_WS := xk_in 631 (by decide +kernel) (by decide +kernel)
theorem wi_X9_rowPart : Cond.instanceMethod yX9_rowPart ∈ xk_WS := xk_in 633 (by decide +kernel) (by decide +kernel)
theorem wl_X9_rowPart : Cond.selects RX9 yX9_rowPart yX9_rowPart ∈ xk_WS := xk_in 20 (by decide +kernel) (by decide +kernel)
theorem wc_X9_rowPart : Cond.code yX9_rowPart cX9_rowPart 9 (some .long) ∈ xk_WS := xk_in 634 (by decide +kernel) (by decide +kernel)
theorem wm_L_64 : Cond.methodLink RL 64 yX8_order ∈ xk_WS := xk_in 397 (by decide +kernel) (by decide +kernel)
theorem wi_X8_order : Cond.instanceMethod yX8_order ∈ xk_WS := xk_in 398 (by decide +kernel) (by decide +kernel)
theorem wl_X8_order : Cond.selects RX8 yX8_order yX8_order ∈ xk_WS := xk_in 399 (by decide +kernel) (by decide +kernel)
theorem wc_X8_order : Cond.code yX8_order cX8_order 7 (some .int) ∈ xk_WS := xk_in 400 (by decide +kernel) (by decide +kernel)
theorem wm_X8_148 : Cond.methodLink RX8 148 yX1_isAbove ∈ xk_WS := xk_in 401 (by decide +kernel) (by decide +kernel)
theorem wm_L_67 : Cond.methodLink RL 67 yX9_order ∈ xk_WS := xk_in 635 (by decide +kernel) (by decide +kernel)
theorem wi_X9_order : Cond.instanceMethod yX9_order ∈ xk_WS := xk_in 636 (by decide +kernel) (by decide +kernel)
theorem wl_X9_order : Cond.selects RX9 yX9_order yX9_order ∈ xk_WS := xk_in 637 (by decide +kernel) (by decide +kernel)
theorem wc_X9_order : Cond.code yX9_order cX9_order 7 (some .int) ∈ xk_WS := xk_in 638 (by decide +kernel) (by decide +kernel)
theorem wm_L_68 : Cond.methodLink RL 68 yX8_least ∈ xk_WS := xk_in 402 (by decide +kernel) (by decide +kernel)
theorem wi_X8_least : Cond.instanceMethod yX8_least ∈ xk_WS := xk_in 403 (by decide +kernel) (by decide +kernel)
theorem wl_X8_least : Cond.selects RX8 yX8_least yX8_least ∈ xk_WS := xk_in 404 (by decide +kernel) (by decide +kernel)
theorem wc_X8_least : Cond.code yX8_least cX8_least 3 (some .int) ∈ xk_WS := xk_in 405 (by decide +kernel) (by decide +kernel)
theorem wm_X8_152 : Cond.methodLink RX8 152 yX8_sizeOfGreatestRoot ∈ xk_WS := xk_in 406 (by decide +kernel) (by decide +kernel)
theorem wi_X8_sizeOfGreatestRoot : Cond.instanceMethod yX8_sizeOfGreatestRoot ∈ xk_WS := xk_in 408 (by decide +kernel) (by decide +kernel)
theorem wl_X8_sizeOfGreatestRoot : Cond.selects RX8 yX8_sizeOfGreatestRoot yX8_sizeOfGreatestRoot ∈ xk_WS := xk_in 8 (by decide +kernel) (by decide +kernel)
theorem wc_X8_sizeOfGreatestRoot : Cond.code yX8_sizeOfGreatestRoot cX8_sizeOfGreatestRoot 5 (some .int) ∈ xk_WS := xk_in 409 (by decide +kernel) (by decide +kernel)
theorem wm_X8_172 : Cond.methodLink RX8 172 yX3_measure ∈ xk_WS := xk_in 410 (by decide +kernel) (by decide +kernel)
theorem wm_X8_175 : Cond.methodLink RX8 175 yX4_isAbove ∈ xk_WS := xk_in 411 (by decide +kernel) (by decide +kernel)
theorem wi_X4_isAbove : Cond.instanceMethod yX4_isAbove ∈ xk_WS := xk_in 412 (by decide +kernel) (by decide +kernel)
theorem wl_X4_isAbove : Cond.selects RX4 yX4_isAbove yX4_isAbove ∈ xk_WS := xk_in 413 (by decide +kernel) (by decide +kernel)
theorem wc_X4_isAbove : Cond.code yX4_isAbove cX4_isAbove 7 (some .boolean) ∈ xk_WS := xk_in 414 (by decide +kernel) (by decide +kernel)
theorem wm_X4_19 : Cond.methodLink RX4 19 yX0_reset ∈ xk_WS := xk_in 415 (by decide +kernel) (by decide +kernel)
theorem wi_X0_reset : Cond.instanceMethod yX0_reset ∈ xk_WS := xk_in 416 (by decide +kernel) (by decide +kernel)
theorem wl_X0_reset : Cond.selects RX0 yX0_reset yX0_reset ∈ xk_WS := xk_in 417 (by decide +kernel) (by decide +kernel)
theorem wc_X0_reset : Cond.code yX0_reset cX0_reset 1 none ∈ xk_WS := xk_in 418 (by decide +kernel) (by decide +kernel)
theorem wm_X0_13 : Cond.methodLink RX0 13 yJ7_fill_d0a16 ∈ xk_WS := xk_in 419 (by decide +kernel) (by decide +kernel)
theorem wm_X4_22 : Cond.methodLink RX4 22 yX1_top ∈ xk_WS := xk_in 420 (by decide +kernel) (by decide +kernel)
theorem wm_X4_28 : Cond.methodLink RX4 28 yX0_multiply ∈ xk_WS := xk_in 421 (by decide +kernel) (by decide +kernel)
theorem wi_X0_multiply : Cond.instanceMethod yX0_multiply ∈ xk_WS := xk_in 422 (by decide +kernel) (by decide +kernel)
theorem wl_X0_multiply : Cond.selects RX0 yX0_multiply yX0_multiply ∈ xk_WS := xk_in 423 (by decide +kernel) (by decide +kernel)
theorem wc_X0_multiply : Cond.code yX0_multiply cX0_multiply 10 none ∈ xk_WS := xk_in 424 (by decide +kernel) (by decide +kernel)
theorem wk_X0_19 : Cond.constantLong RX0 19 (1073741823) ∈ xk_WS := xk_in 425 (by decide +kernel) (by decide +kernel)
theorem wm_X4_32 : Cond.methodLink RX4 32 yX1_bottom ∈ xk_WS := xk_in 426 (by decide +kernel) (by decide +kernel)
theorem wm_X4_35 : Cond.methodLink RX4 35 yX0_isAbove ∈ xk_WS := xk_in 427 (by decide +kernel) (by decide +kernel)
theorem wi_X0_isAbove : Cond.instanceMethod yX0_isAbove ∈ xk_WS := xk_in 428 (by decide +kernel) (by decide +kernel)
theorem wl_X0_isAbove : Cond.selects RX0 yX0_isAbove yX0_isAbove ∈ xk_WS := xk_in 429 (by decide +kernel) (by decide +kernel)
theorem wc_X0_isAbove : Cond.code yX0_isAbove cX0_isAbove 3 (some .boolean) ∈ xk_WS := xk_in 430 (by decide +kernel) (by decide +kernel)
theorem wm_L_71 : Cond.methodLink RL 71 yX9_least ∈ xk_WS := xk_in 639 (by decide +kernel) (by decide +kernel)
theorem wi_X9_least : Cond.instanceMethod yX9_least ∈ xk_WS := xk_in 640 (by decide +kernel) (by decide +kernel)
theorem wl_X9_least : Cond.selects RX9 yX9_least yX9_least ∈ xk_WS := xk_in 641 (by decide +kernel) (by decide +kernel)
theorem wc_X9_least : Cond.code yX9_least cX9_least 3 (some .int) ∈ xk_WS := xk_in 642 (by decide +kernel) (by decide +kernel)
theorem wf_X9_145 : Cond.fieldLink RX9 145 "PairScalesModel" "leastTop" "J" ∈ xk_WS := xk_in 483 (by decide +kernel) (by decide +kernel)
theorem wf_X9_141 : Cond.fieldLink RX9 141 "PairScalesModel" "leastBottom" "J" ∈ xk_WS := xk_in 484 (by decide +kernel) (by decide +kernel)
theorem wf_X9_134 : Cond.fieldLink RX9 134 "PairScalesModel" "leastMany" "I" ∈ xk_WS := xk_in 485 (by decide +kernel) (by decide +kernel)
theorem wm_X9_160 : Cond.methodLink RX9 160 yX9_rings ∈ xk_WS := xk_in 643 (by decide +kernel) (by decide +kernel)
theorem wi_X9_rings : Cond.instanceMethod yX9_rings ∈ xk_WS := xk_in 645 (by decide +kernel) (by decide +kernel)
theorem wl_X9_rings : Cond.selects RX9 yX9_rings yX9_rings ∈ xk_WS := xk_in 21 (by decide +kernel) (by decide +kernel)
theorem wc_X9_rings : Cond.code yX9_rings cX9_rings 10 none ∈ xk_WS := xk_in 646 (by decide +kernel) (by decide +kernel)
theorem wm_X9_156 : Cond.methodLink RX9 156 yX9_ring ∈ xk_WS := xk_in 647 (by decide +kernel) (by decide +kernel)
theorem wi_X9_ring : Cond.instanceMethod yX9_ring ∈ xk_WS := xk_in 649 (by decide +kernel) (by decide +kernel)
theorem wl_X9_ring : Cond.selects RX9 yX9_ring yX9_ring ∈ xk_WS := xk_in 22 (by decide +kernel) (by decide +kernel)
theorem wc_X9_ring : Cond.code yX9_ring cX9_ring 13 none ∈ xk_WS := xk_in 650 (by decide +kernel) (by decide +kernel)
theorem wm_X9_148 : Cond.methodLink RX9 148 Lib.MathLoose.max_long.x ∈ xk_WS := xk_in 651 (by decide +kernel) (by decide +kernel)
theorem wo_static_Lib_MathLoose_max_long_x : Cond.static Lib.MathLoose.max_long.x ∈ xk_WS := xk_in 652 (by decide +kernel) (by decide +kernel)
theorem wo_code_Lib_MathLoose_max_long_x_Lib_MathLoose_max_long_code_4_ : Cond.code Lib.MathLoose.max_long.x Lib.MathLoose.max_long.code 4 (some .long) ∈ xk_WS := xk_in 653 (by decide +kernel) (by decide +kernel)
theorem wm_X9_150 : Cond.methodLink RX9 150 Lib.MathLoose.min_long.x ∈ xk_WS := xk_in 654 (by decide +kernel) (by decide +kernel)
theorem wo_static_Lib_MathLoose_min_long_x : Cond.static Lib.MathLoose.min_long.x ∈ xk_WS := xk_in 655 (by decide +kernel) (by decide +kernel)
theorem wo_code_Lib_MathLoose_min_long_x_Lib_MathLoose_min_long_code_4_ : Cond.code Lib.MathLoose.min_long.x Lib.MathLoose.min_long.code 4 (some .long) ∈ xk_WS := xk_in 656 (by decide +kernel) (by decide +kernel)
theorem wm_X9_152 : Cond.methodLink RX9 152 yX9_compare ∈ xk_WS := xk_in 657 (by decide +kernel) (by decide +kernel)
theorem wi_X9_compare : Cond.instanceMethod yX9_compare ∈ xk_WS := xk_in 659 (by decide +kernel) (by decide +kernel)
theorem wl_X9_compare : Cond.selects RX9 yX9_compare yX9_compare ∈ xk_WS := xk_in 23 (by decide +kernel) (by decide +kernel)
theorem wc_X9_compare : Cond.code yX9_compare cX9_compare 7 (some .int) ∈ xk_WS := xk_in 660 (by decide +kernel) (by decide +kernel)
theorem wm_X9_130 : Cond.methodLink RX9 130 yX9_one ∈ xk_WS := xk_in 661 (by decide +kernel) (by decide +kernel)
theorem wt_X9_one : Cond.static yX9_one ∈ xk_WS := xk_in 662 (by decide +kernel) (by decide +kernel)
theorem wc_X9_one : Cond.code yX9_one cX9_one 2 none ∈ xk_WS := xk_in 663 (by decide +kernel) (by decide +kernel)
theorem wm_X9_137 : Cond.methodLink RX9 137 yX9_times ∈ xk_WS := xk_in 664 (by decide +kernel) (by decide +kernel)
theorem wt_X9_times : Cond.static yX9_times ∈ xk_WS := xk_in 665 (by decide +kernel) (by decide +kernel)
theorem wc_X9_times : Cond.code yX9_times cX9_times 10 none ∈ xk_WS := xk_in 666 (by decide +kernel) (by decide +kernel)
theorem wk_X9_128 : Cond.constantLong RX9 128 (1000000000) ∈ xk_WS := xk_in 667 (by decide +kernel) (by decide +kernel)
theorem wm_L_72 : Cond.methodLink RL 72 yX8_span ∈ xk_WS := xk_in 431 (by decide +kernel) (by decide +kernel)
theorem wi_X8_span : Cond.instanceMethod yX8_span ∈ xk_WS := xk_in 432 (by decide +kernel) (by decide +kernel)
theorem wl_X8_span : Cond.selects RX8 yX8_span yX8_span ∈ xk_WS := xk_in 433 (by decide +kernel) (by decide +kernel)
theorem wc_X8_span : Cond.code yX8_span cX8_span 12 (some .boolean) ∈ xk_WS := xk_in 434 (by decide +kernel) (by decide +kernel)
theorem wm_L_76 : Cond.methodLink RL 76 yX9_span ∈ xk_WS := xk_in 668 (by decide +kernel) (by decide +kernel)
theorem wi_X9_span : Cond.instanceMethod yX9_span ∈ xk_WS := xk_in 669 (by decide +kernel) (by decide +kernel)
theorem wl_X9_span : Cond.selects RX9 yX9_span yX9_span ∈ xk_WS := xk_in 670 (by decide +kernel) (by decide +kernel)
theorem wc_X9_span : Cond.code yX9_span cX9_span 9 (some .boolean) ∈ xk_WS := xk_in 671 (by decide +kernel) (by decide +kernel)
theorem wm_L_77 : Cond.methodLink RL 77 yX8_unspan ∈ xk_WS := xk_in 435 (by decide +kernel) (by decide +kernel)
theorem wi_X8_unspan : Cond.instanceMethod yX8_unspan ∈ xk_WS := xk_in 436 (by decide +kernel) (by decide +kernel)
theorem wl_X8_unspan : Cond.selects RX8 yX8_unspan yX8_unspan ∈ xk_WS := xk_in 437 (by decide +kernel) (by decide +kernel)
theorem wc_X8_unspan : Cond.code yX8_unspan cX8_unspan 3 (some .boolean) ∈ xk_WS := xk_in 438 (by decide +kernel) (by decide +kernel)
theorem wm_L_80 : Cond.methodLink RL 80 yX9_unspan ∈ xk_WS := xk_in 672 (by decide +kernel) (by decide +kernel)
theorem wi_X9_unspan : Cond.instanceMethod yX9_unspan ∈ xk_WS := xk_in 673 (by decide +kernel) (by decide +kernel)
theorem wl_X9_unspan : Cond.selects RX9 yX9_unspan yX9_unspan ∈ xk_WS := xk_in 674 (by decide +kernel) (by decide +kernel)
theorem wc_X9_unspan : Cond.code yX9_unspan cX9_unspan 3 (some .boolean) ∈ xk_WS := xk_in 675 (by decide +kernel) (by decide +kernel)
theorem wm_L_81 : Cond.methodLink RL 81 yX8_can ∈ xk_WS := xk_in 439 (by decide +kernel) (by decide +kernel)
theorem wi_X8_can : Cond.instanceMethod yX8_can ∈ xk_WS := xk_in 440 (by decide +kernel) (by decide +kernel)
theorem wl_X8_can : Cond.selects RX8 yX8_can yX8_can ∈ xk_WS := xk_in 441 (by decide +kernel) (by decide +kernel)
theorem wc_X8_can : Cond.code yX8_can cX8_can 1 (some .boolean) ∈ xk_WS := xk_in 442 (by decide +kernel) (by decide +kernel)
theorem wm_L_84 : Cond.methodLink RL 84 yX9_can ∈ xk_WS := xk_in 676 (by decide +kernel) (by decide +kernel)
theorem wi_X9_can : Cond.instanceMethod yX9_can ∈ xk_WS := xk_in 677 (by decide +kernel) (by decide +kernel)
theorem wl_X9_can : Cond.selects RX9 yX9_can yX9_can ∈ xk_WS := xk_in 678 (by decide +kernel) (by decide +kernel)
theorem wc_X9_can : Cond.code yX9_can cX9_can 2 (some .boolean) ∈ xk_WS := xk_in 679 (by decide +kernel) (by decide +kernel)
theorem wf_X9_183 : Cond.fieldLink RX9 183 "PairScalesModel" "canBe" "Z" ∈ xk_WS := xk_in 490 (by decide +kernel) (by decide +kernel)
theorem wm_X9_190 : Cond.methodLink RX9 190 yX9_goes ∈ xk_WS := xk_in 680 (by decide +kernel) (by decide +kernel)
theorem wi_X9_goes : Cond.instanceMethod yX9_goes ∈ xk_WS := xk_in 682 (by decide +kernel) (by decide +kernel)
theorem wl_X9_goes : Cond.selects RX9 yX9_goes yX9_goes ∈ xk_WS := xk_in 24 (by decide +kernel) (by decide +kernel)
theorem wc_X9_goes : Cond.code yX9_goes cX9_goes 3 none ∈ xk_WS := xk_in 683 (by decide +kernel) (by decide +kernel)
theorem wf_X9_164 : Cond.fieldLink RX9 164 "PairScalesModel" "isSome" "Z" ∈ xk_WS := xk_in 489 (by decide +kernel) (by decide +kernel)
theorem wf_X9_171 : Cond.fieldLink RX9 171 "PairScalesModel" "bestTop" "J" ∈ xk_WS := xk_in 487 (by decide +kernel) (by decide +kernel)
theorem wf_X9_168 : Cond.fieldLink RX9 168 "PairScalesModel" "bestBottom" "J" ∈ xk_WS := xk_in 488 (by decide +kernel) (by decide +kernel)
theorem wm_X9_186 : Cond.methodLink RX9 186 yX9_ways ∈ xk_WS := xk_in 684 (by decide +kernel) (by decide +kernel)
theorem wi_X9_ways : Cond.instanceMethod yX9_ways ∈ xk_WS := xk_in 686 (by decide +kernel) (by decide +kernel)
theorem wl_X9_ways : Cond.selects RX9 yX9_ways yX9_ways ∈ xk_WS := xk_in 25 (by decide +kernel) (by decide +kernel)
theorem wc_X9_ways : Cond.code yX9_ways cX9_ways 11 none ∈ xk_WS := xk_in 687 (by decide +kernel) (by decide +kernel)
theorem wm_X9_174 : Cond.methodLink RX9 174 yX9_isSpan ∈ xk_WS := xk_in 688 (by decide +kernel) (by decide +kernel)
theorem wi_X9_isSpan : Cond.instanceMethod yX9_isSpan ∈ xk_WS := xk_in 690 (by decide +kernel) (by decide +kernel)
theorem wl_X9_isSpan : Cond.selects RX9 yX9_isSpan yX9_isSpan ∈ xk_WS := xk_in 26 (by decide +kernel) (by decide +kernel)
theorem wc_X9_isSpan : Cond.code yX9_isSpan cX9_isSpan 3 (some .boolean) ∈ xk_WS := xk_in 691 (by decide +kernel) (by decide +kernel)
theorem wm_X9_177 : Cond.methodLink RX9 177 yX9_lowOver ∈ xk_WS := xk_in 692 (by decide +kernel) (by decide +kernel)
theorem wi_X9_lowOver : Cond.instanceMethod yX9_lowOver ∈ xk_WS := xk_in 694 (by decide +kernel) (by decide +kernel)
theorem wl_X9_lowOver : Cond.selects RX9 yX9_lowOver yX9_lowOver ∈ xk_WS := xk_in 27 (by decide +kernel) (by decide +kernel)
theorem wc_X9_lowOver : Cond.code yX9_lowOver cX9_lowOver 3 (some .int) ∈ xk_WS := xk_in 695 (by decide +kernel) (by decide +kernel)
theorem wm_X9_180 : Cond.methodLink RX9 180 yX9_lowUnder ∈ xk_WS := xk_in 696 (by decide +kernel) (by decide +kernel)
theorem wi_X9_lowUnder : Cond.instanceMethod yX9_lowUnder ∈ xk_WS := xk_in 698 (by decide +kernel) (by decide +kernel)
theorem wl_X9_lowUnder : Cond.selects RX9 yX9_lowUnder yX9_lowUnder ∈ xk_WS := xk_in 28 (by decide +kernel) (by decide +kernel)
theorem wc_X9_lowUnder : Cond.code yX9_lowUnder cX9_lowUnder 3 (some .int) ∈ xk_WS := xk_in 699 (by decide +kernel) (by decide +kernel)
theorem wm_L_85 : Cond.methodLink RL 85 yX8_bound ∈ xk_WS := xk_in 443 (by decide +kernel) (by decide +kernel)
theorem wi_X8_bound : Cond.instanceMethod yX8_bound ∈ xk_WS := xk_in 444 (by decide +kernel) (by decide +kernel)
theorem wl_X8_bound : Cond.selects RX8 yX8_bound yX8_bound ∈ xk_WS := xk_in 445 (by decide +kernel) (by decide +kernel)
theorem wc_X8_bound : Cond.code yX8_bound cX8_bound 6 (some .int) ∈ xk_WS := xk_in 446 (by decide +kernel) (by decide +kernel)
theorem wm_X8_162 : Cond.methodLink RX8 162 yX8_greatestWay ∈ xk_WS := xk_in 447 (by decide +kernel) (by decide +kernel)
theorem wi_X8_greatestWay : Cond.instanceMethod yX8_greatestWay ∈ xk_WS := xk_in 449 (by decide +kernel) (by decide +kernel)
theorem wl_X8_greatestWay : Cond.selects RX8 yX8_greatestWay yX8_greatestWay ∈ xk_WS := xk_in 9 (by decide +kernel) (by decide +kernel)
theorem wc_X8_greatestWay : Cond.code yX8_greatestWay cX8_greatestWay 14 (some .long) ∈ xk_WS := xk_in 450 (by decide +kernel) (by decide +kernel)
theorem wm_L_88 : Cond.methodLink RL 88 yX9_bound ∈ xk_WS := xk_in 700 (by decide +kernel) (by decide +kernel)
theorem wi_X9_bound : Cond.instanceMethod yX9_bound ∈ xk_WS := xk_in 701 (by decide +kernel) (by decide +kernel)
theorem wl_X9_bound : Cond.selects RX9 yX9_bound yX9_bound ∈ xk_WS := xk_in 702 (by decide +kernel) (by decide +kernel)
theorem wc_X9_bound : Cond.code yX9_bound cX9_bound 4 (some .int) ∈ xk_WS := xk_in 703 (by decide +kernel) (by decide +kernel)
theorem wm_X9_194 : Cond.methodLink RX9 194 yX9_can ∈ xk_WS := xk_in 704 (by decide +kernel) (by decide +kernel)
theorem wm_L_89 : Cond.methodLink RL 89 yX8_count ∈ xk_WS := xk_in 451 (by decide +kernel) (by decide +kernel)
theorem wi_X8_count : Cond.instanceMethod yX8_count ∈ xk_WS := xk_in 452 (by decide +kernel) (by decide +kernel)
theorem wl_X8_count : Cond.selects RX8 yX8_count yX8_count ∈ xk_WS := xk_in 453 (by decide +kernel) (by decide +kernel)
theorem wc_X8_count : Cond.code yX8_count cX8_count 2 (some .int) ∈ xk_WS := xk_in 454 (by decide +kernel) (by decide +kernel)
theorem wm_L_92 : Cond.methodLink RL 92 yX9_count ∈ xk_WS := xk_in 705 (by decide +kernel) (by decide +kernel)
theorem wi_X9_count : Cond.instanceMethod yX9_count ∈ xk_WS := xk_in 706 (by decide +kernel) (by decide +kernel)
theorem wl_X9_count : Cond.selects RX9 yX9_count yX9_count ∈ xk_WS := xk_in 707 (by decide +kernel) (by decide +kernel)
theorem wc_X9_count : Cond.code yX9_count cX9_count 4 (some .int) ∈ xk_WS := xk_in 708 (by decide +kernel) (by decide +kernel)
theorem inX8 : ∀ w ∈ u_ws RX8 TX8 8, w ∈ xk_WS := xk_ins _ [201, 203, 205, 207, 209, 211, 213, 215] (by decide +kernel) (by decide +kernel)
theorem inX9 : ∀ w ∈ u_ws RX9 TX9 25, w ∈ xk_WS := xk_ins _ [491, 493, 495, 497, 499, 501, 503, 505, 507, 509, 511, 513, 515, 517, 519, 521, 523, 525, 527, 529, 531, 533, 535, 537, 539] (by decide +kernel) (by decide +kernel)
theorem inX5 : ∀ w ∈ u_ws RX5 TX5 3, w ∈ xk_WS := xk_ins _ [72, 74, 76] (by decide +kernel) (by decide +kernel)
theorem inX7 : ∀ w ∈ u_ws RX7 TX7 5, w ∈ xk_WS := xk_ins _ [95, 97, 99, 101, 103] (by decide +kernel) (by decide +kernel)
theorem inX3 : ∀ w ∈ u_ws RX3 TX3 2, w ∈ xk_WS := xk_ins _ [115, 117] (by decide +kernel) (by decide +kernel)
theorem inX6 : ∀ w ∈ u_ws RX6 TX6 2, w ∈ xk_WS := xk_ins _ [130, 132] (by decide +kernel) (by decide +kernel)
theorem inX2 : ∀ w ∈ u_ws RX2 TX2 8, w ∈ xk_WS := xk_ins _ [153, 155, 157, 159, 161, 163, 165, 167] (by decide +kernel) (by decide +kernel)
theorem inX4 : ∀ w ∈ u_ws RX4 TX4 2, w ∈ xk_WS := xk_ins _ [188, 190] (by decide +kernel) (by decide +kernel)
theorem inX0 : ∀ w ∈ u_ws RX0 TX0 1, w ∈ xk_WS := xk_ins _ [183] (by decide +kernel) (by decide +kernel)
end
section
/-! ===== nI under and, xor, >>>, one bit, 65535 ===== -/
theorem nx_and (a b : Nat) : nI a &&& nI b = nI (a &&& b) := by
  apply Int32.toBitVec_inj.1
  show BitVec.ofNat 32 a &&& BitVec.ofNat 32 b = BitVec.ofNat 32 (a &&& b)
  apply BitVec.eq_of_getLsbD_eq
  intro i hi
  simp [hi]
theorem nx_xor (a b : Nat) : nI a ^^^ nI b = nI (a ^^^ b) := by
  apply Int32.toBitVec_inj.1
  show BitVec.ofNat 32 a ^^^ BitVec.ofNat 32 b = BitVec.ofNat 32 (a ^^^ b)
  apply BitVec.eq_of_getLsbD_eq
  intro i hi
  simp [hi]
theorem nx_cnt : ∀ j : Fin 32, (UInt32.ofNat j.val &&& Int32.toUInt32 31).toNat % 32 = j.val := by decide +kernel
theorem nx_ush {k j : Nat} (hk : k < 65536) (hj : j < 32) : ((nI k).toUInt32 >>> ((nI j).toUInt32 &&& Int32.toUInt32 31)).toInt32 = nI (k >>> j) := by
  have hs : k >>> j ≤ k := by
    rw [Nat.shiftRight_eq_div_pow]
    exact Nat.div_le_self _ _
  have e2 : UInt32.ofNat k >>> (UInt32.ofNat j &&& Int32.toUInt32 31) = UInt32.ofNat (k >>> j) := by
    apply UInt32.toNat_inj.1
    have h1 : (UInt32.ofNat k).toNat = k := Nat.mod_eq_of_lt (by omega)
    have h2 : (UInt32.ofNat (k >>> j)).toNat = k >>> j := Nat.mod_eq_of_lt (by omega)
    rw [UInt32.toNat_shiftRight, nx_cnt ⟨j, hj⟩, h1, h2]
  show (UInt32.ofNat k >>> (UInt32.ofNat j &&& Int32.toUInt32 31)).toInt32 = _
  rw [e2]
  rfl
theorem nx_bit {k j : Nat} (hk : k < 65536) (hj : j < 16) : (((nI k).toUInt32 >>> ((nI j).toUInt32 &&& Int32.toUInt32 31)).toInt32 &&& 1) = 0 ↔ k.testBit j = false := by
  rw [nx_ush hk (by omega)]
  show nI (k >>> j) &&& nI 1 = 0 ↔ _
  rw [nx_and, Nat.and_one_is_mod, ← nI_0, nI_eq (by omega) (by omega), Nat.testBit_eq_decide_div_mod_eq, Nat.shiftRight_eq_div_pow, decide_eq_false_iff_not]
  generalize k / 2 ^ j = z
  omega
theorem nx_mod (k : Nat) : nI k &&& 65535 = nI (k % 65536) := by
  show nI k &&& nI 65535 = _
  rw [nx_and, show (65535 : Nat) = 2 ^ 16 - 1 from rfl, Nat.and_two_pow_sub_one_eq_mod]
theorem nx_m16 {k : Nat} (h : k < 65536) : nI k &&& 65535 = nI k := by rw [nx_mod, Nat.mod_eq_of_lt h]
theorem nx_mask (x : Int32) : ∃ k, k < 65536 ∧ x &&& 65535 = nI k := by
  have e : x = nI x.toBitVec.toNat := by
    apply Int32.toBitVec_inj.1
    show x.toBitVec = BitVec.ofNat 32 x.toBitVec.toNat
    simp
  refine ⟨x.toBitVec.toNat % 65536, Nat.mod_lt _ (by omega), ?_⟩
  rw [← nx_mod, ← e]
/-! ===== lN n to 2^64: shifts, and, or, masks, one bit ===== -/
theorem wb_tb (n : Nat) : (lN n).toBitVec = BitVec.ofNat 64 n := rfl
theorem wb_inj {a b : Int64} (h : a.toBitVec = b.toBitVec) : a = b := Int64.toBitVec_inj.mp h
theorem wb_tn {n : Nat} (h : n < 2 ^ 64) : (lN n).toBitVec.toNat = n := by rw [wb_tb, BitVec.toNat_ofNat, Nat.mod_eq_of_lt h]
theorem wb_of (x : Int64) : ∃ n, n < 2 ^ 64 ∧ x = lN n := ⟨x.toBitVec.toNat, x.toBitVec.isLt, wb_inj (by rw [wb_tb]; simp)⟩
theorem wb_of32 (x : Int32) : ∃ n, n < 2 ^ 32 ∧ x = nI n := ⟨x.toBitVec.toNat, x.toBitVec.isLt, Int32.toBitVec_inj.mp (by show _ = BitVec.ofNat 32 _; simp)⟩
theorem wb_c : ∀ k, k < 64 → ((nI k).toInt64 &&& 63) = lN k := by decide +kernel
theorem wb_cu : ∀ k, k < 64 → ((nI k).toInt64.toUInt64 &&& Int64.toUInt64 63) = UInt64.ofNat k := by decide +kernel
theorem wb_sm : ∀ k, k < 64 → (BitVec.ofNat 64 k).smod 64 = BitVec.ofNat 64 k := by decide +kernel
theorem wb_pw {a b : Nat} (h : a ≤ b) : 2 ^ b = 2 ^ a * 2 ^ (b - a) := by rw [← Nat.pow_add]; congr 1; omega
theorem wb_lt2 {a b : Nat} (h : a < b) : 2 ^ a < 2 ^ b := Nat.pow_lt_pow_right (by decide) h
theorem wb_mod (n : Nat) : lN n = lN (n % 2 ^ 64) := wb_inj (by rw [wb_tb, wb_tb]; apply BitVec.eq_of_toNat_eq; rw [BitVec.toNat_ofNat, BitVec.toNat_ofNat, Nat.mod_mod])
theorem wb_shr {n k : Nat} (hn : n < 2 ^ 64) (hk : k < 64) : ((lN n).toUInt64 >>> ((nI k).toInt64.toUInt64 &&& Int64.toUInt64 63)).toInt64 = lN (n / 2 ^ k) := by
  rw [wb_cu k hk]
  apply wb_inj
  apply BitVec.eq_of_toNat_eq
  show ((lN n).toUInt64 >>> UInt64.ofNat k).toNat = (BitVec.ofNat 64 _).toNat
  have h1 : (UInt64.ofNat k).toNat = k := by
    show (BitVec.ofNat 64 k).toNat = k
    rw [BitVec.toNat_ofNat, Nat.mod_eq_of_lt (by omega)]
  have h2 : (lN n).toUInt64.toNat = n := wb_tn hn
  rw [UInt64.toNat_shiftRight, h1, h2, Nat.mod_eq_of_lt hk, Nat.shiftRight_eq_div_pow, BitVec.toNat_ofNat, Nat.mod_eq_of_lt (Nat.lt_of_le_of_lt (Nat.div_le_self _ _) hn)]
theorem wb_shl (n : Nat) {k : Nat} (hk : k < 64) : lN n <<< ((nI k).toInt64 &&& 63) = lN (n * 2 ^ k) := by
  rw [wb_c k hk]
  apply wb_inj
  rw [Int64.toBitVec_shiftLeft, wb_tb, wb_tb, wb_tb, wb_sm k hk]
  apply BitVec.eq_of_toNat_eq
  rw [BitVec.shiftLeft_eq', BitVec.toNat_shiftLeft, BitVec.toNat_ofNat, BitVec.toNat_ofNat, BitVec.toNat_ofNat, Nat.mod_eq_of_lt (show k < 2 ^ 64 by omega), Nat.shiftLeft_eq, Nat.mul_mod, Nat.mod_mod, ← Nat.mul_mod]
theorem wb_and {a b : Nat} (ha : a < 2 ^ 64) (hb : b < 2 ^ 64) : lN a &&& lN b = lN (a &&& b) := by
  apply wb_inj
  rw [Int64.toBitVec_and, wb_tb, wb_tb, wb_tb]
  apply BitVec.eq_of_toNat_eq
  rw [BitVec.toNat_and, BitVec.toNat_ofNat, BitVec.toNat_ofNat, BitVec.toNat_ofNat, Nat.mod_eq_of_lt ha, Nat.mod_eq_of_lt hb, Nat.mod_eq_of_lt (Nat.and_lt_two_pow _ hb)]
theorem wb_or {a b : Nat} (ha : a < 2 ^ 64) (hb : b < 2 ^ 64) : lN a ||| lN b = lN (a ||| b) := by
  apply wb_inj
  rw [Int64.toBitVec_or, wb_tb, wb_tb, wb_tb]
  apply BitVec.eq_of_toNat_eq
  rw [BitVec.toNat_or, BitVec.toNat_ofNat, BitVec.toNat_ofNat, BitVec.toNat_ofNat, Nat.mod_eq_of_lt ha, Nat.mod_eq_of_lt hb, Nat.mod_eq_of_lt (Nat.or_lt_two_pow ha hb)]
theorem wb_mask {n k : Nat} (hn : n < 2 ^ 64) (hk : k < 64) : lN n &&& lN (2 ^ k - 1) = lN (n % 2 ^ k) := by
  rw [wb_and hn (by have := wb_lt2 hk; omega), Nat.and_two_pow_sub_one_eq_mod]
theorem wb_a1 {n : Nat} (hn : n < 2 ^ 64) : lN n &&& 1 = lN (n % 2) := wb_mask (k := 1) hn (by decide)
theorem wb_bit {n k : Nat} (hn : n < 2 ^ 64) (hk : k < 64) : ((lN n).toUInt64 >>> ((nI k).toInt64.toUInt64 &&& Int64.toUInt64 63)).toInt64 &&& 1 = lN (n / 2 ^ k % 2) := by
  rw [wb_shr hn hk, wb_a1 (Nat.lt_of_le_of_lt (Nat.div_le_self _ _) hn)]
theorem wb_xor {q k : Nat} (hk : k < 63) (h : 2 ^ k ≤ q) (h2 : q < 2 ^ (k + 1)) : lN q ^^^ lN (2 ^ k) = lN (q - 2 ^ k) := by
  obtain ⟨r, rfl⟩ : ∃ r, q = 2 ^ k + r := ⟨q - 2 ^ k, by omega⟩
  have hr : r < 2 ^ k := by rw [Nat.pow_succ] at h2; omega
  have hx : (2 ^ k + r) ^^^ 2 ^ k = r := by
    apply Nat.eq_of_testBit_eq
    intro i
    rw [Nat.testBit_xor, Nat.testBit_two_pow]
    rcases Nat.lt_trichotomy i k with h | h | h
    · rw [Nat.testBit_two_pow_add_gt h]
      simp [show ¬ k = i by omega]
    · subst h
      rw [Nat.testBit_two_pow_add_eq]
      simp
    · have a1 : 2 ^ (k + 1) ≤ 2 ^ i := Nat.pow_le_pow_right (by decide) h
      rw [Nat.testBit_lt_two_pow (show 2 ^ k + r < 2 ^ i by omega), Nat.testBit_lt_two_pow (show r < 2 ^ i by omega)]
      simp [show ¬ k = i by omega]
  have b1 := wb_lt2 (show k + 1 < 64 by omega)
  have b2 := wb_lt2 (show k < 64 by omega)
  apply wb_inj
  rw [Int64.toBitVec_xor, wb_tb, wb_tb, wb_tb]
  apply BitVec.eq_of_toNat_eq
  rw [BitVec.toNat_xor, BitVec.toNat_ofNat, BitVec.toNat_ofNat, BitVec.toNat_ofNat, Nat.mod_eq_of_lt (by omega : 2 ^ k + r < 2 ^ 64), Nat.mod_eq_of_lt b2, hx, Nat.add_sub_cancel_left, Nat.mod_eq_of_lt (by omega)]
/-! ===== lN: masks, 'or' of parts that don't overlap is a sum ===== -/
theorem u_tn {n : Nat} (h : n < 2 ^ 64) : (UInt64.ofNat n).toNat = n := Nat.mod_eq_of_lt h
theorem g_and {a b c : Nat} (ha : a < 2 ^ 64) (hb : b < 2 ^ 64) (hc : a &&& b = c) : lN a &&& lN b = lN c := by
  subst hc
  have h : UInt64.ofNat a &&& UInt64.ofNat b = UInt64.ofNat (a &&& b) := UInt64.toNat_inj.mp (by rw [UInt64.toNat_and, u_tn ha, u_tn hb, u_tn (Nat.and_lt_two_pow a hb)])
  have h2 := congrArg UInt64.toInt64 h
  exact h2
theorem g_and1 {a : Nat} (ha : a < 2 ^ 64) : lN a &&& 1 = lN (a % 2) := g_and (b := 1) ha (by decide) (Nat.and_two_pow_sub_one_eq_mod a 1)
theorem g_mask {a s p : Nat} (hp : 2 ^ s = p) (hs : s < 64) (ha : a < 2 ^ 64) : lN a &&& lN (p - 1) = lN (a % p) := by
  subst hp
  have := Nat.pow_lt_pow_right (show 1 < 2 by decide) hs
  exact g_and ha (by omega) (Nat.and_two_pow_sub_one_eq_mod a s)
theorem g_or {k p a b : Nat} (hp : 2 ^ k = p) (ha : a < p) (h : b * p + a < 2 ^ 64) : lN (b * p) ||| lN a = lN (b * p + a) := by
  subst hp
  have h1 : b * 2 ^ k ||| a = b * 2 ^ k + a := by rw [← Nat.shiftLeft_eq, Nat.shiftLeft_add_eq_or_of_lt ha]
  have h3 : UInt64.ofNat (b * 2 ^ k) ||| UInt64.ofNat a = UInt64.ofNat (b * 2 ^ k + a) := UInt64.toNat_inj.mp (by rw [UInt64.toNat_or, u_tn (by omega), u_tn (by omega), u_tn h, h1])
  have h2 := congrArg UInt64.toInt64 h3
  exact h2
theorem g_or' {k p a b : Nat} (hp : 2 ^ k = p) (ha : a < p) (h : a + b * p < 2 ^ 64) : lN a ||| lN (b * p) = lN (a + b * p) := by
  rw [Int64.or_comm, g_or hp ha (by omega), Nat.add_comm]
theorem g_ushr {a k p : Nat} {y : UInt64} (hy : y = UInt64.ofNat k) (hk : k < 64) (hp : 2 ^ k = p) (ha : a < 2 ^ 64) : ((lN a).toUInt64 >>> y).toInt64 = lN (a / p) := by
  subst hy hp
  have h : UInt64.ofNat a >>> UInt64.ofNat k = UInt64.ofNat (a / 2 ^ k) := UInt64.toNat_inj.mp (by rw [UInt64.toNat_shiftRight, u_tn ha, u_tn (by omega), u_tn (Nat.lt_of_le_of_lt (Nat.div_le_self _ _) ha), Nat.mod_eq_of_lt hk, Nat.shiftRight_eq_div_pow])
  have h2 := congrArg UInt64.toInt64 h
  exact h2
theorem g_shl {a k p : Nat} {y : Int64} (hy : y.toBitVec.smod 64 = BitVec.ofNat 64 k) (hk : k < 64) (hp : 2 ^ k = p) (ha : a < 2 ^ 64) : lN a <<< y = lN (a * p) := by
  subst hp
  apply Int64.toBitVec_inj.mp
  rw [Int64.toBitVec_shiftLeft, hy]
  apply BitVec.eq_of_toNat_eq
  have hb : (lN a).toBitVec.toNat = a := Nat.mod_eq_of_lt ha
  have hk' : (BitVec.ofNat 64 k).toNat = k := Nat.mod_eq_of_lt (by omega)
  have h : ((lN a).toBitVec <<< BitVec.ofNat 64 k).toNat = (a * 2 ^ k) % 2 ^ 64 := by simp only [BitVec.shiftLeft_eq', BitVec.toNat_shiftLeft, hb, hk', Nat.shiftLeft_eq]
  exact h
end
section
/-! Integer.bitCount. Own text. -/
/-- Integer.bitCount, as its code has it -/
def bitc (x : Int32) : Int32 :=
  let a := x - ((x.toUInt32 >>> ((1 : Int32).toUInt32 &&& Int32.toUInt32 31)).toInt32 &&& 1431655765)
  let b := (a &&& 858993459) + ((a.toUInt32 >>> ((2 : Int32).toUInt32 &&& Int32.toUInt32 31)).toInt32 &&& 858993459)
  let c := (b + (b.toUInt32 >>> ((4 : Int32).toUInt32 &&& Int32.toUInt32 31)).toInt32) &&& 252645135
  let e := c + (c.toUInt32 >>> ((8 : Int32).toUInt32 &&& Int32.toUInt32 31)).toInt32
  let f := e + (e.toUInt32 >>> ((16 : Int32).toUInt32 &&& Int32.toUInt32 31)).toInt32
  f &&& 63
/-- how many of the first k bits of m are set -/
def popc : Nat → Nat → Nat
  | 0, _ => 0
  | k + 1, m => m % 2 + popc k (m / 2)
def bitn (m : Nat) : Nat :=
  let a := m - ((m >>> 1) &&& 1431655765)
  let b := (a &&& 858993459) + ((a >>> 2) &&& 858993459)
  let c := (b + (b >>> 4)) &&& 252645135
  let e := c + (c >>> 8)
  let f := e + (e >>> 16)
  f &&& 63
theorem bitc_n {m : Nat} (h : m < 32768) : bitc (nI m) = nI (bitn m) := by
  have sh : ∀ (x j : Nat), x >>> j ≤ x := fun x j => by rw [Nat.shiftRight_eq_div_pow]; exact Nat.div_le_self _ _
  have u : ∀ {k : Nat} (j : Nat), k < 65536 → j < 32 → ((nI k).toUInt32 >>> ((nI j).toUInt32 &&& Int32.toUInt32 31)).toInt32 = nI (k >>> j) := fun j hk hj => nx_ush hk hj
  have h1 : (m >>> 1) &&& 1431655765 ≤ m := Nat.le_trans Nat.and_le_left (sh m 1)
  have e1 : nI m - (((nI m).toUInt32 >>> ((1 : Int32).toUInt32 &&& Int32.toUInt32 31)).toInt32 &&& (1431655765 : Int32)) = nI (m - ((m >>> 1) &&& 1431655765)) := by
    have := u (k := m) 1 (by omega) (by decide)
    rw [show (1 : Int32) = nI 1 from rfl, this, show (1431655765 : Int32) = nI 1431655765 from rfl, nx_and, pk_sub h1]
  unfold bitc bitn
  simp only []
  rw [e1]
  generalize ha : m - ((m >>> 1) &&& 1431655765) = a
  have ha2 : a < 32768 := by omega
  have e2 : (nI a &&& (858993459 : Int32)) + (((nI a).toUInt32 >>> ((2 : Int32).toUInt32 &&& Int32.toUInt32 31)).toInt32 &&& (858993459 : Int32)) = nI ((a &&& 858993459) + ((a >>> 2) &&& 858993459)) := by
    have := u (k := a) 2 (by omega) (by decide)
    rw [show (2 : Int32) = nI 2 from rfl, this, show (858993459 : Int32) = nI 858993459 from rfl, nx_and, nx_and, nI_add]
  rw [e2]
  generalize hb : (a &&& 858993459) + ((a >>> 2) &&& 858993459) = b
  have hb2 : b < 49152 := by
    have q1 : a &&& 858993459 ≤ a := Nat.and_le_left
    have q2 : (a >>> 2) &&& 858993459 ≤ a >>> 2 := Nat.and_le_left
    have q3 : a >>> 2 = a / 4 := by rw [Nat.shiftRight_eq_div_pow]
    omega
  have e3 : (nI b + ((nI b).toUInt32 >>> ((4 : Int32).toUInt32 &&& Int32.toUInt32 31)).toInt32) &&& (252645135 : Int32) = nI ((b + (b >>> 4)) &&& 252645135) := by
    have := u (k := b) 4 (by omega) (by decide)
    rw [show (4 : Int32) = nI 4 from rfl, this, show (252645135 : Int32) = nI 252645135 from rfl, nI_add, nx_and]
  rw [e3]
  generalize hc : (b + (b >>> 4)) &&& 252645135 = c
  have hc2 : c < 53248 := by
    have q1 : (b + (b >>> 4)) &&& 252645135 ≤ b + (b >>> 4) := Nat.and_le_left
    have q3 : b >>> 4 = b / 16 := by rw [Nat.shiftRight_eq_div_pow]
    omega
  have e4 : nI c + ((nI c).toUInt32 >>> ((8 : Int32).toUInt32 &&& Int32.toUInt32 31)).toInt32 = nI (c + (c >>> 8)) := by
    have := u (k := c) 8 (by omega) (by decide)
    rw [show (8 : Int32) = nI 8 from rfl, this, nI_add]
  rw [e4]
  generalize he : c + (c >>> 8) = e
  have he2 : e < 65536 := by
    have q3 : c >>> 8 = c / 256 := by rw [Nat.shiftRight_eq_div_pow]
    omega
  have e5 : nI e + ((nI e).toUInt32 >>> ((16 : Int32).toUInt32 &&& Int32.toUInt32 31)).toInt32 = nI (e + (e >>> 16)) := by
    have := u (k := e) 16 (by omega) (by decide)
    rw [show (16 : Int32) = nI 16 from rfl, this, nI_add]
  rw [e5, show (63 : Int32) = nI 63 from rfl, nx_and]
/-- checked in steps of one number each -/
def bitT : Nat → Nat → Bool
  | 0, _ => true
  | k + 1, m => (bitn m == popc 15 m) && bitT k (m + 1)
theorem bitT_at : ∀ (k m j : Nat), bitT k m = true → m ≤ j → j < m + k → bitn j = popc 15 j
  | 0, m, j, _, h1, h2 => by omega
  | k + 1, m, j, h, h1, h2 => by
    simp only [bitT, Bool.and_eq_true, beq_iff_eq] at h
    rcases Nat.eq_or_lt_of_le h1 with rfl | h3
    · exact h.1
    · exact bitT_at k (m + 1) j h.2 h3 (by omega)
theorem bitT_0 : bitT 8192 0 = true := by decide +kernel
theorem bitT_1 : bitT 8192 8192 = true := by decide +kernel
theorem bitT_2 : bitT 8192 16384 = true := by decide +kernel
theorem bitT_3 : bitT 8192 24576 = true := by decide +kernel
theorem bitc_eq {m : Nat} (h : m < 32768) : bitc (nI m) = nI (popc 15 m) := by
  rw [bitc_n h]
  congr 1
  by_cases h0 : m < 8192
  · exact bitT_at 8192 0 m bitT_0 (by omega) (by omega)
  · by_cases h1 : m < 16384
    · exact bitT_at 8192 8192 m bitT_1 (by omega) (by omega)
    · by_cases h2 : m < 24576
      · exact bitT_at 8192 16384 m bitT_2 (by omega) (by omega)
      · exact bitT_at 8192 24576 m bitT_3 (by omega) (by omega)
end
section
-- decode rows: J6 J7 J9 La
theorem dJ6_bitCount_0f7a4_0 : decode cJ6_bitCount_0f7a4 0 = .ok (.iload_n 0, 1) := by decide +kernel
theorem dJ6_bitCount_0f7a4_1 : decode cJ6_bitCount_0f7a4 1 = .ok (.iload_n 0, 1) := by decide +kernel
theorem dJ6_bitCount_0f7a4_2 : decode cJ6_bitCount_0f7a4 2 = .ok (.iconst 1, 1) := by decide +kernel
theorem dJ6_bitCount_0f7a4_3 : decode cJ6_bitCount_0f7a4 3 = .ok (.iushr, 1) := by decide +kernel
theorem dJ6_bitCount_0f7a4_4 : decode cJ6_bitCount_0f7a4 4 = .ok (.ldc_w 265, 3) := by decide +kernel
theorem dJ6_bitCount_0f7a4_7 : decode cJ6_bitCount_0f7a4 7 = .ok (.iand, 1) := by decide +kernel
theorem dJ6_bitCount_0f7a4_8 : decode cJ6_bitCount_0f7a4 8 = .ok (.isub, 1) := by decide +kernel
theorem dJ6_bitCount_0f7a4_9 : decode cJ6_bitCount_0f7a4 9 = .ok (.istore_n 0, 1) := by decide +kernel
theorem dJ6_bitCount_0f7a4_10 : decode cJ6_bitCount_0f7a4 10 = .ok (.iload_n 0, 1) := by decide +kernel
theorem dJ6_bitCount_0f7a4_11 : decode cJ6_bitCount_0f7a4 11 = .ok (.ldc_w 266, 3) := by decide +kernel
theorem dJ6_bitCount_0f7a4_14 : decode cJ6_bitCount_0f7a4 14 = .ok (.iand, 1) := by decide +kernel
theorem dJ6_bitCount_0f7a4_15 : decode cJ6_bitCount_0f7a4 15 = .ok (.iload_n 0, 1) := by decide +kernel
theorem dJ6_bitCount_0f7a4_16 : decode cJ6_bitCount_0f7a4 16 = .ok (.iconst 2, 1) := by decide +kernel
theorem dJ6_bitCount_0f7a4_17 : decode cJ6_bitCount_0f7a4 17 = .ok (.iushr, 1) := by decide +kernel
theorem dJ6_bitCount_0f7a4_18 : decode cJ6_bitCount_0f7a4 18 = .ok (.ldc_w 266, 3) := by decide +kernel
theorem dJ6_bitCount_0f7a4_21 : decode cJ6_bitCount_0f7a4 21 = .ok (.iand, 1) := by decide +kernel
theorem dJ6_bitCount_0f7a4_22 : decode cJ6_bitCount_0f7a4 22 = .ok (.iadd, 1) := by decide +kernel
theorem dJ6_bitCount_0f7a4_23 : decode cJ6_bitCount_0f7a4 23 = .ok (.istore_n 0, 1) := by decide +kernel
theorem dJ6_bitCount_0f7a4_24 : decode cJ6_bitCount_0f7a4 24 = .ok (.iload_n 0, 1) := by decide +kernel
theorem dJ6_bitCount_0f7a4_25 : decode cJ6_bitCount_0f7a4 25 = .ok (.iload_n 0, 1) := by decide +kernel
theorem dJ6_bitCount_0f7a4_26 : decode cJ6_bitCount_0f7a4 26 = .ok (.iconst 4, 1) := by decide +kernel
theorem dJ6_bitCount_0f7a4_27 : decode cJ6_bitCount_0f7a4 27 = .ok (.iushr, 1) := by decide +kernel
theorem dJ6_bitCount_0f7a4_28 : decode cJ6_bitCount_0f7a4 28 = .ok (.iadd, 1) := by decide +kernel
theorem dJ6_bitCount_0f7a4_29 : decode cJ6_bitCount_0f7a4 29 = .ok (.ldc_w 267, 3) := by decide +kernel
theorem dJ6_bitCount_0f7a4_32 : decode cJ6_bitCount_0f7a4 32 = .ok (.iand, 1) := by decide +kernel
theorem dJ6_bitCount_0f7a4_33 : decode cJ6_bitCount_0f7a4 33 = .ok (.istore_n 0, 1) := by decide +kernel
theorem dJ6_bitCount_0f7a4_34 : decode cJ6_bitCount_0f7a4 34 = .ok (.iload_n 0, 1) := by decide +kernel
theorem dJ6_bitCount_0f7a4_35 : decode cJ6_bitCount_0f7a4 35 = .ok (.iload_n 0, 1) := by decide +kernel
theorem dJ6_bitCount_0f7a4_36 : decode cJ6_bitCount_0f7a4 36 = .ok (.bipush 8, 2) := by decide +kernel
theorem dJ6_bitCount_0f7a4_38 : decode cJ6_bitCount_0f7a4 38 = .ok (.iushr, 1) := by decide +kernel
theorem dJ6_bitCount_0f7a4_39 : decode cJ6_bitCount_0f7a4 39 = .ok (.iadd, 1) := by decide +kernel
theorem dJ6_bitCount_0f7a4_40 : decode cJ6_bitCount_0f7a4 40 = .ok (.istore_n 0, 1) := by decide +kernel
theorem dJ6_bitCount_0f7a4_41 : decode cJ6_bitCount_0f7a4 41 = .ok (.iload_n 0, 1) := by decide +kernel
theorem dJ6_bitCount_0f7a4_42 : decode cJ6_bitCount_0f7a4 42 = .ok (.iload_n 0, 1) := by decide +kernel
theorem dJ6_bitCount_0f7a4_43 : decode cJ6_bitCount_0f7a4 43 = .ok (.bipush 16, 2) := by decide +kernel
theorem dJ6_bitCount_0f7a4_45 : decode cJ6_bitCount_0f7a4 45 = .ok (.iushr, 1) := by decide +kernel
theorem dJ6_bitCount_0f7a4_46 : decode cJ6_bitCount_0f7a4 46 = .ok (.iadd, 1) := by decide +kernel
theorem dJ6_bitCount_0f7a4_47 : decode cJ6_bitCount_0f7a4 47 = .ok (.istore_n 0, 1) := by decide +kernel
theorem dJ6_bitCount_0f7a4_48 : decode cJ6_bitCount_0f7a4 48 = .ok (.iload_n 0, 1) := by decide +kernel
theorem dJ6_bitCount_0f7a4_49 : decode cJ6_bitCount_0f7a4 49 = .ok (.bipush 63, 2) := by decide +kernel
theorem dJ6_bitCount_0f7a4_51 : decode cJ6_bitCount_0f7a4 51 = .ok (.iand, 1) := by decide +kernel
theorem dJ6_bitCount_0f7a4_52 : decode cJ6_bitCount_0f7a4 52 = .ok (.ireturn, 1) := by decide +kernel
theorem dJ7_fill_d0a16_0 : decode cJ7_fill_d0a16 0 = .ok (.iconst 0, 1) := by decide +kernel
theorem dJ7_fill_d0a16_1 : decode cJ7_fill_d0a16 1 = .ok (.istore_n 3, 1) := by decide +kernel
theorem dJ7_fill_d0a16_2 : decode cJ7_fill_d0a16 2 = .ok (.aload_n 0, 1) := by decide +kernel
theorem dJ7_fill_d0a16_3 : decode cJ7_fill_d0a16 3 = .ok (.arraylength, 1) := by decide +kernel
theorem dJ7_fill_d0a16_4 : decode cJ7_fill_d0a16 4 = .ok (.istore 4, 2) := by decide +kernel
theorem dJ7_fill_d0a16_6 : decode cJ7_fill_d0a16 6 = .ok (.iload_n 3, 1) := by decide +kernel
theorem dJ7_fill_d0a16_7 : decode cJ7_fill_d0a16 7 = .ok (.iload 4, 2) := by decide +kernel
theorem dJ7_fill_d0a16_9 : decode cJ7_fill_d0a16 9 = .ok (.if_icmp .ge 13, 3) := by decide +kernel
theorem dJ7_fill_d0a16_12 : decode cJ7_fill_d0a16 12 = .ok (.aload_n 0, 1) := by decide +kernel
theorem dJ7_fill_d0a16_13 : decode cJ7_fill_d0a16 13 = .ok (.iload_n 3, 1) := by decide +kernel
theorem dJ7_fill_d0a16_14 : decode cJ7_fill_d0a16 14 = .ok (.lload_n 1, 1) := by decide +kernel
theorem dJ7_fill_d0a16_15 : decode cJ7_fill_d0a16 15 = .ok (.lastore, 1) := by decide +kernel
theorem dJ7_fill_d0a16_16 : decode cJ7_fill_d0a16 16 = .ok (.iinc 3 1, 3) := by decide +kernel
theorem dJ7_fill_d0a16_19 : decode cJ7_fill_d0a16 19 = .ok (.goto (-13), 3) := by decide +kernel
theorem dJ7_fill_d0a16_22 : decode cJ7_fill_d0a16 22 = .ok (.return_, 1) := by decide +kernel
theorem dJ9_max_7cf53_0 : decode cJ9_max_7cf53 0 = .ok (.iload_n 0, 1) := by decide +kernel
theorem dJ9_max_7cf53_1 : decode cJ9_max_7cf53 1 = .ok (.iload_n 1, 1) := by decide +kernel
theorem dJ9_max_7cf53_2 : decode cJ9_max_7cf53 2 = .ok (.if_icmp .lt 7, 3) := by decide +kernel
theorem dJ9_max_7cf53_5 : decode cJ9_max_7cf53 5 = .ok (.iload_n 0, 1) := by decide +kernel
theorem dJ9_max_7cf53_6 : decode cJ9_max_7cf53 6 = .ok (.goto 4, 3) := by decide +kernel
theorem dJ9_max_7cf53_9 : decode cJ9_max_7cf53 9 = .ok (.iload_n 1, 1) := by decide +kernel
theorem dJ9_max_7cf53_10 : decode cJ9_max_7cf53 10 = .ok (.ireturn, 1) := by decide +kernel
theorem dJ9_max_f86c9_0 : decode cJ9_max_f86c9 0 = .ok (.lload_n 0, 1) := by decide +kernel
theorem dJ9_max_f86c9_1 : decode cJ9_max_f86c9 1 = .ok (.lload_n 2, 1) := by decide +kernel
theorem dJ9_max_f86c9_2 : decode cJ9_max_f86c9 2 = .ok (.lcmp, 1) := by decide +kernel
theorem dJ9_max_f86c9_3 : decode cJ9_max_f86c9 3 = .ok (.ifCond .lt 7, 3) := by decide +kernel
theorem dJ9_max_f86c9_6 : decode cJ9_max_f86c9 6 = .ok (.lload_n 0, 1) := by decide +kernel
theorem dJ9_max_f86c9_7 : decode cJ9_max_f86c9 7 = .ok (.goto 4, 3) := by decide +kernel
theorem dJ9_max_f86c9_10 : decode cJ9_max_f86c9 10 = .ok (.lload_n 2, 1) := by decide +kernel
theorem dJ9_max_f86c9_11 : decode cJ9_max_f86c9 11 = .ok (.lreturn, 1) := by decide +kernel
theorem dJ9_min_7cf53_0 : decode cJ9_min_7cf53 0 = .ok (.iload_n 0, 1) := by decide +kernel
theorem dJ9_min_7cf53_1 : decode cJ9_min_7cf53 1 = .ok (.iload_n 1, 1) := by decide +kernel
theorem dJ9_min_7cf53_2 : decode cJ9_min_7cf53 2 = .ok (.if_icmp .gt 7, 3) := by decide +kernel
theorem dJ9_min_7cf53_5 : decode cJ9_min_7cf53 5 = .ok (.iload_n 0, 1) := by decide +kernel
theorem dJ9_min_7cf53_6 : decode cJ9_min_7cf53 6 = .ok (.goto 4, 3) := by decide +kernel
theorem dJ9_min_7cf53_9 : decode cJ9_min_7cf53 9 = .ok (.iload_n 1, 1) := by decide +kernel
theorem dJ9_min_7cf53_10 : decode cJ9_min_7cf53 10 = .ok (.ireturn, 1) := by decide +kernel
theorem dJ9_min_f86c9_0 : decode cJ9_min_f86c9 0 = .ok (.lload_n 0, 1) := by decide +kernel
theorem dJ9_min_f86c9_1 : decode cJ9_min_f86c9 1 = .ok (.lload_n 2, 1) := by decide +kernel
theorem dJ9_min_f86c9_2 : decode cJ9_min_f86c9 2 = .ok (.lcmp, 1) := by decide +kernel
theorem dJ9_min_f86c9_3 : decode cJ9_min_f86c9 3 = .ok (.ifCond .gt 7, 3) := by decide +kernel
theorem dJ9_min_f86c9_6 : decode cJ9_min_f86c9 6 = .ok (.lload_n 0, 1) := by decide +kernel
theorem dJ9_min_f86c9_7 : decode cJ9_min_f86c9 7 = .ok (.goto 4, 3) := by decide +kernel
theorem dJ9_min_f86c9_10 : decode cJ9_min_f86c9 10 = .ok (.lload_n 2, 1) := by decide +kernel
theorem dJ9_min_f86c9_11 : decode cJ9_min_f86c9 11 = .ok (.lreturn, 1) := by decide +kernel
theorem dL_cell_0 : decode cL_cell 0 = .ok (.iload_n 1, 1) := by decide +kernel
theorem dL_cell_1 : decode cL_cell 1 = .ok (.aload_n 0, 1) := by decide +kernel
theorem dL_cell_2 : decode cL_cell 2 = .ok (.arraylength, 1) := by decide +kernel
theorem dL_cell_3 : decode cL_cell 3 = .ok (.if_icmp .ge 9, 3) := by decide +kernel
theorem dL_cell_6 : decode cL_cell 6 = .ok (.aload_n 0, 1) := by decide +kernel
theorem dL_cell_7 : decode cL_cell 7 = .ok (.iload_n 1, 1) := by decide +kernel
theorem dL_cell_8 : decode cL_cell 8 = .ok (.iaload, 1) := by decide +kernel
theorem dL_cell_9 : decode cL_cell 9 = .ok (.goto 4, 3) := by decide +kernel
theorem dL_cell_12 : decode cL_cell 12 = .ok (.iconst 0, 1) := by decide +kernel
theorem dL_cell_13 : decode cL_cell 13 = .ok (.ireturn, 1) := by decide +kernel
theorem dL_law_0 : decode cL_law 0 = .ok (.new 7, 3) := by decide +kernel
theorem dL_law_3 : decode cL_law 3 = .ok (.dup, 1) := by decide +kernel
theorem dL_law_4 : decode cL_law 4 = .ok (.aload_n 0, 1) := by decide +kernel
theorem dL_law_5 : decode cL_law 5 = .ok (.iconst 0, 1) := by decide +kernel
theorem dL_law_6 : decode cL_law 6 = .ok (.invokestatic 9, 3) := by decide +kernel
theorem dL_law_9 : decode cL_law 9 = .ok (.invokespecial 15, 3) := by decide +kernel
theorem dL_law_12 : decode cL_law 12 = .ok (.astore_n 1, 1) := by decide +kernel
theorem dL_law_13 : decode cL_law 13 = .ok (.new 18, 3) := by decide +kernel
theorem dL_law_16 : decode cL_law 16 = .ok (.dup, 1) := by decide +kernel
theorem dL_law_17 : decode cL_law 17 = .ok (.aload_n 0, 1) := by decide +kernel
theorem dL_law_18 : decode cL_law 18 = .ok (.iconst 0, 1) := by decide +kernel
theorem dL_law_19 : decode cL_law 19 = .ok (.invokestatic 9, 3) := by decide +kernel
theorem dL_law_22 : decode cL_law 22 = .ok (.invokespecial 20, 3) := by decide +kernel
theorem dL_law_25 : decode cL_law 25 = .ok (.astore_n 2, 1) := by decide +kernel
theorem dL_law_26 : decode cL_law 26 = .ok (.iconst 1, 1) := by decide +kernel
theorem dL_law_27 : decode cL_law 27 = .ok (.istore_n 3, 1) := by decide +kernel
theorem dL_law_28 : decode cL_law 28 = .ok (.iload_n 3, 1) := by decide +kernel
theorem dL_law_29 : decode cL_law 29 = .ok (.aload_n 0, 1) := by decide +kernel
theorem dL_law_30 : decode cL_law 30 = .ok (.arraylength, 1) := by decide +kernel
theorem dL_law_31 : decode cL_law 31 = .ok (.iconst 5, 1) := by decide +kernel
theorem dL_law_32 : decode cL_law 32 = .ok (.isub, 1) := by decide +kernel
theorem dL_law_33 : decode cL_law 33 = .ok (.if_icmp .gt 541, 3) := by decide +kernel
theorem dL_law_36 : decode cL_law 36 = .ok (.aload_n 0, 1) := by decide +kernel
theorem dL_law_37 : decode cL_law 37 = .ok (.iload_n 3, 1) := by decide +kernel
theorem dL_law_38 : decode cL_law 38 = .ok (.iaload, 1) := by decide +kernel
theorem dL_law_39 : decode cL_law 39 = .ok (.bipush 15, 2) := by decide +kernel
theorem dL_law_41 : decode cL_law 41 = .ok (.iand, 1) := by decide +kernel
theorem dL_law_42 : decode cL_law 42 = .ok (.tableswitch 526 0 15 #[78, 131, 164, 207, 220, 243, 256, 269, 282, 315, 348, 371, 414, 447, 460, 503], 78) := by decide +kernel
theorem dL_law_120 : decode cL_law 120 = .ok (.aload_n 1, 1) := by decide +kernel
theorem dL_law_121 : decode cL_law 121 = .ok (.aload_n 0, 1) := by decide +kernel
theorem dL_law_122 : decode cL_law 122 = .ok (.iload_n 3, 1) := by decide +kernel
theorem dL_law_123 : decode cL_law 123 = .ok (.iconst 1, 1) := by decide +kernel
theorem dL_law_124 : decode cL_law 124 = .ok (.iadd, 1) := by decide +kernel
theorem dL_law_125 : decode cL_law 125 = .ok (.iaload, 1) := by decide +kernel
theorem dL_law_126 : decode cL_law 126 = .ok (.aload_n 0, 1) := by decide +kernel
theorem dL_law_127 : decode cL_law 127 = .ok (.iload_n 3, 1) := by decide +kernel
theorem dL_law_128 : decode cL_law 128 = .ok (.iconst 2, 1) := by decide +kernel
theorem dL_law_129 : decode cL_law 129 = .ok (.iadd, 1) := by decide +kernel
theorem dL_law_130 : decode cL_law 130 = .ok (.iaload, 1) := by decide +kernel
theorem dL_law_131 : decode cL_law 131 = .ok (.aload_n 0, 1) := by decide +kernel
theorem dL_law_132 : decode cL_law 132 = .ok (.iload_n 3, 1) := by decide +kernel
theorem dL_law_133 : decode cL_law 133 = .ok (.iconst 3, 1) := by decide +kernel
theorem dL_law_134 : decode cL_law 134 = .ok (.iadd, 1) := by decide +kernel
theorem dL_law_135 : decode cL_law 135 = .ok (.iaload, 1) := by decide +kernel
theorem dL_law_136 : decode cL_law 136 = .ok (.aload_n 0, 1) := by decide +kernel
theorem dL_law_137 : decode cL_law 137 = .ok (.iload_n 3, 1) := by decide +kernel
theorem dL_law_138 : decode cL_law 138 = .ok (.iconst 4, 1) := by decide +kernel
theorem dL_law_139 : decode cL_law 139 = .ok (.iadd, 1) := by decide +kernel
theorem dL_law_140 : decode cL_law 140 = .ok (.iaload, 1) := by decide +kernel
theorem dL_law_141 : decode cL_law 141 = .ok (.invokevirtual 21, 3) := by decide +kernel
theorem dL_law_144 : decode cL_law 144 = .ok (.aload_n 2, 1) := by decide +kernel
theorem dL_law_145 : decode cL_law 145 = .ok (.aload_n 0, 1) := by decide +kernel
theorem dL_law_146 : decode cL_law 146 = .ok (.iload_n 3, 1) := by decide +kernel
theorem dL_law_147 : decode cL_law 147 = .ok (.iconst 1, 1) := by decide +kernel
theorem dL_law_148 : decode cL_law 148 = .ok (.iadd, 1) := by decide +kernel
theorem dL_law_149 : decode cL_law 149 = .ok (.iaload, 1) := by decide +kernel
theorem dL_law_150 : decode cL_law 150 = .ok (.aload_n 0, 1) := by decide +kernel
theorem dL_law_151 : decode cL_law 151 = .ok (.iload_n 3, 1) := by decide +kernel
theorem dL_law_152 : decode cL_law 152 = .ok (.iconst 2, 1) := by decide +kernel
theorem dL_law_153 : decode cL_law 153 = .ok (.iadd, 1) := by decide +kernel
theorem dL_law_154 : decode cL_law 154 = .ok (.iaload, 1) := by decide +kernel
theorem dL_law_155 : decode cL_law 155 = .ok (.aload_n 0, 1) := by decide +kernel
theorem dL_law_156 : decode cL_law 156 = .ok (.iload_n 3, 1) := by decide +kernel
theorem dL_law_157 : decode cL_law 157 = .ok (.iconst 3, 1) := by decide +kernel
theorem dL_law_158 : decode cL_law 158 = .ok (.iadd, 1) := by decide +kernel
theorem dL_law_159 : decode cL_law 159 = .ok (.iaload, 1) := by decide +kernel
theorem dL_law_160 : decode cL_law 160 = .ok (.aload_n 0, 1) := by decide +kernel
theorem dL_law_161 : decode cL_law 161 = .ok (.iload_n 3, 1) := by decide +kernel
theorem dL_law_162 : decode cL_law 162 = .ok (.iconst 4, 1) := by decide +kernel
theorem dL_law_163 : decode cL_law 163 = .ok (.iadd, 1) := by decide +kernel
theorem dL_law_164 : decode cL_law 164 = .ok (.iaload, 1) := by decide +kernel
theorem dL_law_165 : decode cL_law 165 = .ok (.invokevirtual 25, 3) := by decide +kernel
theorem dL_law_168 : decode cL_law 168 = .ok (.if_icmp .eq 400, 3) := by decide +kernel
theorem dL_law_171 : decode cL_law 171 = .ok (.iconst 0, 1) := by decide +kernel
theorem dL_law_172 : decode cL_law 172 = .ok (.ireturn, 1) := by decide +kernel
theorem dL_law_173 : decode cL_law 173 = .ok (.aload_n 1, 1) := by decide +kernel
theorem dL_law_174 : decode cL_law 174 = .ok (.aload_n 0, 1) := by decide +kernel
theorem dL_law_175 : decode cL_law 175 = .ok (.iload_n 3, 1) := by decide +kernel
theorem dL_law_176 : decode cL_law 176 = .ok (.iconst 1, 1) := by decide +kernel
theorem dL_law_177 : decode cL_law 177 = .ok (.iadd, 1) := by decide +kernel
theorem dL_law_178 : decode cL_law 178 = .ok (.iaload, 1) := by decide +kernel
theorem dL_law_179 : decode cL_law 179 = .ok (.aload_n 0, 1) := by decide +kernel
theorem dL_law_180 : decode cL_law 180 = .ok (.iload_n 3, 1) := by decide +kernel
theorem dL_law_181 : decode cL_law 181 = .ok (.iconst 2, 1) := by decide +kernel
theorem dL_law_182 : decode cL_law 182 = .ok (.iadd, 1) := by decide +kernel
theorem dL_law_183 : decode cL_law 183 = .ok (.iaload, 1) := by decide +kernel
theorem dL_law_184 : decode cL_law 184 = .ok (.invokevirtual 26, 3) := by decide +kernel
theorem dL_law_187 : decode cL_law 187 = .ok (.aload_n 2, 1) := by decide +kernel
theorem dL_law_188 : decode cL_law 188 = .ok (.aload_n 0, 1) := by decide +kernel
theorem dL_law_189 : decode cL_law 189 = .ok (.iload_n 3, 1) := by decide +kernel
theorem dL_law_190 : decode cL_law 190 = .ok (.iconst 1, 1) := by decide +kernel
theorem dL_law_191 : decode cL_law 191 = .ok (.iadd, 1) := by decide +kernel
theorem dL_law_192 : decode cL_law 192 = .ok (.iaload, 1) := by decide +kernel
theorem dL_law_193 : decode cL_law 193 = .ok (.aload_n 0, 1) := by decide +kernel
theorem dL_law_194 : decode cL_law 194 = .ok (.iload_n 3, 1) := by decide +kernel
theorem dL_law_195 : decode cL_law 195 = .ok (.iconst 2, 1) := by decide +kernel
theorem dL_law_196 : decode cL_law 196 = .ok (.iadd, 1) := by decide +kernel
theorem dL_law_197 : decode cL_law 197 = .ok (.iaload, 1) := by decide +kernel
theorem dL_law_198 : decode cL_law 198 = .ok (.invokevirtual 30, 3) := by decide +kernel
theorem dL_law_201 : decode cL_law 201 = .ok (.if_icmp .eq 367, 3) := by decide +kernel
theorem dL_law_204 : decode cL_law 204 = .ok (.iconst 0, 1) := by decide +kernel
theorem dL_law_205 : decode cL_law 205 = .ok (.ireturn, 1) := by decide +kernel
theorem dL_law_206 : decode cL_law 206 = .ok (.aload_n 1, 1) := by decide +kernel
theorem dL_law_207 : decode cL_law 207 = .ok (.aload_n 0, 1) := by decide +kernel
theorem dL_law_208 : decode cL_law 208 = .ok (.iload_n 3, 1) := by decide +kernel
theorem dL_law_209 : decode cL_law 209 = .ok (.iconst 1, 1) := by decide +kernel
theorem dL_law_210 : decode cL_law 210 = .ok (.iadd, 1) := by decide +kernel
theorem dL_law_211 : decode cL_law 211 = .ok (.iaload, 1) := by decide +kernel
theorem dL_law_212 : decode cL_law 212 = .ok (.aload_n 0, 1) := by decide +kernel
theorem dL_law_213 : decode cL_law 213 = .ok (.iload_n 3, 1) := by decide +kernel
theorem dL_law_214 : decode cL_law 214 = .ok (.iconst 2, 1) := by decide +kernel
theorem dL_law_215 : decode cL_law 215 = .ok (.iadd, 1) := by decide +kernel
theorem dL_law_216 : decode cL_law 216 = .ok (.iaload, 1) := by decide +kernel
theorem dL_law_217 : decode cL_law 217 = .ok (.aload_n 0, 1) := by decide +kernel
theorem dL_law_218 : decode cL_law 218 = .ok (.iload_n 3, 1) := by decide +kernel
theorem dL_law_219 : decode cL_law 219 = .ok (.iconst 3, 1) := by decide +kernel
theorem dL_law_220 : decode cL_law 220 = .ok (.iadd, 1) := by decide +kernel
theorem dL_law_221 : decode cL_law 221 = .ok (.iaload, 1) := by decide +kernel
theorem dL_law_222 : decode cL_law 222 = .ok (.invokevirtual 31, 3) := by decide +kernel
theorem dL_law_225 : decode cL_law 225 = .ok (.aload_n 2, 1) := by decide +kernel
theorem dL_law_226 : decode cL_law 226 = .ok (.aload_n 0, 1) := by decide +kernel
theorem dL_law_227 : decode cL_law 227 = .ok (.iload_n 3, 1) := by decide +kernel
theorem dL_law_228 : decode cL_law 228 = .ok (.iconst 1, 1) := by decide +kernel
theorem dL_law_229 : decode cL_law 229 = .ok (.iadd, 1) := by decide +kernel
theorem dL_law_230 : decode cL_law 230 = .ok (.iaload, 1) := by decide +kernel
theorem dL_law_231 : decode cL_law 231 = .ok (.aload_n 0, 1) := by decide +kernel
theorem dL_law_232 : decode cL_law 232 = .ok (.iload_n 3, 1) := by decide +kernel
theorem dL_law_233 : decode cL_law 233 = .ok (.iconst 2, 1) := by decide +kernel
theorem dL_law_234 : decode cL_law 234 = .ok (.iadd, 1) := by decide +kernel
theorem dL_law_235 : decode cL_law 235 = .ok (.iaload, 1) := by decide +kernel
theorem dL_law_236 : decode cL_law 236 = .ok (.aload_n 0, 1) := by decide +kernel
theorem dL_law_237 : decode cL_law 237 = .ok (.iload_n 3, 1) := by decide +kernel
theorem dL_law_238 : decode cL_law 238 = .ok (.iconst 3, 1) := by decide +kernel
theorem dL_law_239 : decode cL_law 239 = .ok (.iadd, 1) := by decide +kernel
theorem dL_law_240 : decode cL_law 240 = .ok (.iaload, 1) := by decide +kernel
theorem dL_law_241 : decode cL_law 241 = .ok (.invokevirtual 35, 3) := by decide +kernel
theorem dL_law_244 : decode cL_law 244 = .ok (.if_icmp .eq 324, 3) := by decide +kernel
theorem dL_law_247 : decode cL_law 247 = .ok (.iconst 0, 1) := by decide +kernel
theorem dL_law_248 : decode cL_law 248 = .ok (.ireturn, 1) := by decide +kernel
theorem dL_law_249 : decode cL_law 249 = .ok (.aload_n 1, 1) := by decide +kernel
theorem dL_law_250 : decode cL_law 250 = .ok (.invokevirtual 36, 3) := by decide +kernel
theorem dL_law_253 : decode cL_law 253 = .ok (.aload_n 2, 1) := by decide +kernel
theorem dL_law_254 : decode cL_law 254 = .ok (.invokevirtual 40, 3) := by decide +kernel
theorem dL_law_257 : decode cL_law 257 = .ok (.if_icmp .eq 311, 3) := by decide +kernel
theorem dL_law_260 : decode cL_law 260 = .ok (.iconst 0, 1) := by decide +kernel
theorem dL_law_261 : decode cL_law 261 = .ok (.ireturn, 1) := by decide +kernel
theorem dL_law_262 : decode cL_law 262 = .ok (.aload_n 1, 1) := by decide +kernel
theorem dL_law_263 : decode cL_law 263 = .ok (.aload_n 0, 1) := by decide +kernel
theorem dL_law_264 : decode cL_law 264 = .ok (.iload_n 3, 1) := by decide +kernel
theorem dL_law_265 : decode cL_law 265 = .ok (.iconst 1, 1) := by decide +kernel
theorem dL_law_266 : decode cL_law 266 = .ok (.iadd, 1) := by decide +kernel
theorem dL_law_267 : decode cL_law 267 = .ok (.iaload, 1) := by decide +kernel
theorem dL_law_268 : decode cL_law 268 = .ok (.invokevirtual 41, 3) := by decide +kernel
theorem dL_law_271 : decode cL_law 271 = .ok (.aload_n 2, 1) := by decide +kernel
theorem dL_law_272 : decode cL_law 272 = .ok (.aload_n 0, 1) := by decide +kernel
theorem dL_law_273 : decode cL_law 273 = .ok (.iload_n 3, 1) := by decide +kernel
theorem dL_law_274 : decode cL_law 274 = .ok (.iconst 1, 1) := by decide +kernel
theorem dL_law_275 : decode cL_law 275 = .ok (.iadd, 1) := by decide +kernel
theorem dL_law_276 : decode cL_law 276 = .ok (.iaload, 1) := by decide +kernel
theorem dL_law_277 : decode cL_law 277 = .ok (.invokevirtual 45, 3) := by decide +kernel
theorem dL_law_280 : decode cL_law 280 = .ok (.if_icmp .eq 288, 3) := by decide +kernel
theorem dL_law_283 : decode cL_law 283 = .ok (.iconst 0, 1) := by decide +kernel
theorem dL_law_284 : decode cL_law 284 = .ok (.ireturn, 1) := by decide +kernel
theorem dL_law_285 : decode cL_law 285 = .ok (.aload_n 1, 1) := by decide +kernel
theorem dL_law_286 : decode cL_law 286 = .ok (.invokevirtual 46, 3) := by decide +kernel
theorem dL_law_289 : decode cL_law 289 = .ok (.aload_n 2, 1) := by decide +kernel
theorem dL_law_290 : decode cL_law 290 = .ok (.invokevirtual 50, 3) := by decide +kernel
theorem dL_law_293 : decode cL_law 293 = .ok (.if_icmp .eq 275, 3) := by decide +kernel
theorem dL_law_296 : decode cL_law 296 = .ok (.iconst 0, 1) := by decide +kernel
theorem dL_law_297 : decode cL_law 297 = .ok (.ireturn, 1) := by decide +kernel
theorem dL_law_298 : decode cL_law 298 = .ok (.aload_n 1, 1) := by decide +kernel
theorem dL_law_299 : decode cL_law 299 = .ok (.invokevirtual 51, 3) := by decide +kernel
theorem dL_law_302 : decode cL_law 302 = .ok (.aload_n 2, 1) := by decide +kernel
theorem dL_law_303 : decode cL_law 303 = .ok (.invokevirtual 54, 3) := by decide +kernel
theorem dL_law_306 : decode cL_law 306 = .ok (.if_icmp .eq 262, 3) := by decide +kernel
theorem dL_law_309 : decode cL_law 309 = .ok (.iconst 0, 1) := by decide +kernel
theorem dL_law_310 : decode cL_law 310 = .ok (.ireturn, 1) := by decide +kernel
theorem dL_law_311 : decode cL_law 311 = .ok (.aload_n 1, 1) := by decide +kernel
theorem dL_law_312 : decode cL_law 312 = .ok (.invokevirtual 55, 3) := by decide +kernel
theorem dL_law_315 : decode cL_law 315 = .ok (.aload_n 2, 1) := by decide +kernel
theorem dL_law_316 : decode cL_law 316 = .ok (.invokevirtual 58, 3) := by decide +kernel
theorem dL_law_319 : decode cL_law 319 = .ok (.if_icmp .eq 249, 3) := by decide +kernel
theorem dL_law_322 : decode cL_law 322 = .ok (.iconst 0, 1) := by decide +kernel
theorem dL_law_323 : decode cL_law 323 = .ok (.ireturn, 1) := by decide +kernel
theorem dL_law_324 : decode cL_law 324 = .ok (.aload_n 1, 1) := by decide +kernel
theorem dL_law_325 : decode cL_law 325 = .ok (.aload_n 0, 1) := by decide +kernel
theorem dL_law_326 : decode cL_law 326 = .ok (.iload_n 3, 1) := by decide +kernel
end
section
-- decode rows: Lb X0
theorem dL_law_327 : decode cL_law 327 = .ok (.iconst 1, 1) := by decide +kernel
theorem dL_law_328 : decode cL_law 328 = .ok (.iadd, 1) := by decide +kernel
theorem dL_law_329 : decode cL_law 329 = .ok (.iaload, 1) := by decide +kernel
theorem dL_law_330 : decode cL_law 330 = .ok (.aload_n 0, 1) := by decide +kernel
theorem dL_law_331 : decode cL_law 331 = .ok (.iload_n 3, 1) := by decide +kernel
theorem dL_law_332 : decode cL_law 332 = .ok (.iconst 2, 1) := by decide +kernel
theorem dL_law_333 : decode cL_law 333 = .ok (.iadd, 1) := by decide +kernel
theorem dL_law_334 : decode cL_law 334 = .ok (.iaload, 1) := by decide +kernel
theorem dL_law_335 : decode cL_law 335 = .ok (.invokevirtual 59, 3) := by decide +kernel
theorem dL_law_338 : decode cL_law 338 = .ok (.aload_n 2, 1) := by decide +kernel
theorem dL_law_339 : decode cL_law 339 = .ok (.aload_n 0, 1) := by decide +kernel
theorem dL_law_340 : decode cL_law 340 = .ok (.iload_n 3, 1) := by decide +kernel
theorem dL_law_341 : decode cL_law 341 = .ok (.iconst 1, 1) := by decide +kernel
theorem dL_law_342 : decode cL_law 342 = .ok (.iadd, 1) := by decide +kernel
theorem dL_law_343 : decode cL_law 343 = .ok (.iaload, 1) := by decide +kernel
theorem dL_law_344 : decode cL_law 344 = .ok (.aload_n 0, 1) := by decide +kernel
theorem dL_law_345 : decode cL_law 345 = .ok (.iload_n 3, 1) := by decide +kernel
theorem dL_law_346 : decode cL_law 346 = .ok (.iconst 2, 1) := by decide +kernel
theorem dL_law_347 : decode cL_law 347 = .ok (.iadd, 1) := by decide +kernel
theorem dL_law_348 : decode cL_law 348 = .ok (.iaload, 1) := by decide +kernel
theorem dL_law_349 : decode cL_law 349 = .ok (.invokevirtual 63, 3) := by decide +kernel
theorem dL_law_352 : decode cL_law 352 = .ok (.if_icmp .eq 216, 3) := by decide +kernel
theorem dL_law_355 : decode cL_law 355 = .ok (.iconst 0, 1) := by decide +kernel
theorem dL_law_356 : decode cL_law 356 = .ok (.ireturn, 1) := by decide +kernel
theorem dL_law_357 : decode cL_law 357 = .ok (.aload_n 1, 1) := by decide +kernel
theorem dL_law_358 : decode cL_law 358 = .ok (.aload_n 0, 1) := by decide +kernel
theorem dL_law_359 : decode cL_law 359 = .ok (.iload_n 3, 1) := by decide +kernel
theorem dL_law_360 : decode cL_law 360 = .ok (.iconst 1, 1) := by decide +kernel
theorem dL_law_361 : decode cL_law 361 = .ok (.iadd, 1) := by decide +kernel
theorem dL_law_362 : decode cL_law 362 = .ok (.iaload, 1) := by decide +kernel
theorem dL_law_363 : decode cL_law 363 = .ok (.aload_n 0, 1) := by decide +kernel
theorem dL_law_364 : decode cL_law 364 = .ok (.iload_n 3, 1) := by decide +kernel
theorem dL_law_365 : decode cL_law 365 = .ok (.iconst 2, 1) := by decide +kernel
theorem dL_law_366 : decode cL_law 366 = .ok (.iadd, 1) := by decide +kernel
theorem dL_law_367 : decode cL_law 367 = .ok (.iaload, 1) := by decide +kernel
theorem dL_law_368 : decode cL_law 368 = .ok (.invokevirtual 64, 3) := by decide +kernel
theorem dL_law_371 : decode cL_law 371 = .ok (.aload_n 2, 1) := by decide +kernel
theorem dL_law_372 : decode cL_law 372 = .ok (.aload_n 0, 1) := by decide +kernel
theorem dL_law_373 : decode cL_law 373 = .ok (.iload_n 3, 1) := by decide +kernel
theorem dL_law_374 : decode cL_law 374 = .ok (.iconst 1, 1) := by decide +kernel
theorem dL_law_375 : decode cL_law 375 = .ok (.iadd, 1) := by decide +kernel
theorem dL_law_376 : decode cL_law 376 = .ok (.iaload, 1) := by decide +kernel
theorem dL_law_377 : decode cL_law 377 = .ok (.aload_n 0, 1) := by decide +kernel
theorem dL_law_378 : decode cL_law 378 = .ok (.iload_n 3, 1) := by decide +kernel
theorem dL_law_379 : decode cL_law 379 = .ok (.iconst 2, 1) := by decide +kernel
theorem dL_law_380 : decode cL_law 380 = .ok (.iadd, 1) := by decide +kernel
theorem dL_law_381 : decode cL_law 381 = .ok (.iaload, 1) := by decide +kernel
theorem dL_law_382 : decode cL_law 382 = .ok (.invokevirtual 67, 3) := by decide +kernel
theorem dL_law_385 : decode cL_law 385 = .ok (.if_icmp .eq 183, 3) := by decide +kernel
theorem dL_law_388 : decode cL_law 388 = .ok (.iconst 0, 1) := by decide +kernel
theorem dL_law_389 : decode cL_law 389 = .ok (.ireturn, 1) := by decide +kernel
theorem dL_law_390 : decode cL_law 390 = .ok (.aload_n 1, 1) := by decide +kernel
theorem dL_law_391 : decode cL_law 391 = .ok (.aload_n 0, 1) := by decide +kernel
theorem dL_law_392 : decode cL_law 392 = .ok (.iload_n 3, 1) := by decide +kernel
theorem dL_law_393 : decode cL_law 393 = .ok (.iconst 1, 1) := by decide +kernel
theorem dL_law_394 : decode cL_law 394 = .ok (.iadd, 1) := by decide +kernel
theorem dL_law_395 : decode cL_law 395 = .ok (.iaload, 1) := by decide +kernel
theorem dL_law_396 : decode cL_law 396 = .ok (.invokevirtual 68, 3) := by decide +kernel
theorem dL_law_399 : decode cL_law 399 = .ok (.aload_n 2, 1) := by decide +kernel
theorem dL_law_400 : decode cL_law 400 = .ok (.aload_n 0, 1) := by decide +kernel
theorem dL_law_401 : decode cL_law 401 = .ok (.iload_n 3, 1) := by decide +kernel
theorem dL_law_402 : decode cL_law 402 = .ok (.iconst 1, 1) := by decide +kernel
theorem dL_law_403 : decode cL_law 403 = .ok (.iadd, 1) := by decide +kernel
theorem dL_law_404 : decode cL_law 404 = .ok (.iaload, 1) := by decide +kernel
theorem dL_law_405 : decode cL_law 405 = .ok (.invokevirtual 71, 3) := by decide +kernel
theorem dL_law_408 : decode cL_law 408 = .ok (.if_icmp .eq 160, 3) := by decide +kernel
theorem dL_law_411 : decode cL_law 411 = .ok (.iconst 0, 1) := by decide +kernel
theorem dL_law_412 : decode cL_law 412 = .ok (.ireturn, 1) := by decide +kernel
theorem dL_law_413 : decode cL_law 413 = .ok (.aload_n 1, 1) := by decide +kernel
theorem dL_law_414 : decode cL_law 414 = .ok (.aload_n 0, 1) := by decide +kernel
theorem dL_law_415 : decode cL_law 415 = .ok (.iload_n 3, 1) := by decide +kernel
theorem dL_law_416 : decode cL_law 416 = .ok (.iconst 1, 1) := by decide +kernel
theorem dL_law_417 : decode cL_law 417 = .ok (.iadd, 1) := by decide +kernel
theorem dL_law_418 : decode cL_law 418 = .ok (.iaload, 1) := by decide +kernel
theorem dL_law_419 : decode cL_law 419 = .ok (.aload_n 0, 1) := by decide +kernel
theorem dL_law_420 : decode cL_law 420 = .ok (.iload_n 3, 1) := by decide +kernel
theorem dL_law_421 : decode cL_law 421 = .ok (.iconst 2, 1) := by decide +kernel
theorem dL_law_422 : decode cL_law 422 = .ok (.iadd, 1) := by decide +kernel
theorem dL_law_423 : decode cL_law 423 = .ok (.iaload, 1) := by decide +kernel
theorem dL_law_424 : decode cL_law 424 = .ok (.aload_n 0, 1) := by decide +kernel
theorem dL_law_425 : decode cL_law 425 = .ok (.iload_n 3, 1) := by decide +kernel
theorem dL_law_426 : decode cL_law 426 = .ok (.iconst 3, 1) := by decide +kernel
theorem dL_law_427 : decode cL_law 427 = .ok (.iadd, 1) := by decide +kernel
theorem dL_law_428 : decode cL_law 428 = .ok (.iaload, 1) := by decide +kernel
theorem dL_law_429 : decode cL_law 429 = .ok (.invokevirtual 72, 3) := by decide +kernel
theorem dL_law_432 : decode cL_law 432 = .ok (.aload_n 2, 1) := by decide +kernel
theorem dL_law_433 : decode cL_law 433 = .ok (.aload_n 0, 1) := by decide +kernel
theorem dL_law_434 : decode cL_law 434 = .ok (.iload_n 3, 1) := by decide +kernel
theorem dL_law_435 : decode cL_law 435 = .ok (.iconst 1, 1) := by decide +kernel
theorem dL_law_436 : decode cL_law 436 = .ok (.iadd, 1) := by decide +kernel
theorem dL_law_437 : decode cL_law 437 = .ok (.iaload, 1) := by decide +kernel
theorem dL_law_438 : decode cL_law 438 = .ok (.aload_n 0, 1) := by decide +kernel
theorem dL_law_439 : decode cL_law 439 = .ok (.iload_n 3, 1) := by decide +kernel
theorem dL_law_440 : decode cL_law 440 = .ok (.iconst 2, 1) := by decide +kernel
theorem dL_law_441 : decode cL_law 441 = .ok (.iadd, 1) := by decide +kernel
theorem dL_law_442 : decode cL_law 442 = .ok (.iaload, 1) := by decide +kernel
theorem dL_law_443 : decode cL_law 443 = .ok (.aload_n 0, 1) := by decide +kernel
theorem dL_law_444 : decode cL_law 444 = .ok (.iload_n 3, 1) := by decide +kernel
theorem dL_law_445 : decode cL_law 445 = .ok (.iconst 3, 1) := by decide +kernel
theorem dL_law_446 : decode cL_law 446 = .ok (.iadd, 1) := by decide +kernel
theorem dL_law_447 : decode cL_law 447 = .ok (.iaload, 1) := by decide +kernel
theorem dL_law_448 : decode cL_law 448 = .ok (.invokevirtual 76, 3) := by decide +kernel
theorem dL_law_451 : decode cL_law 451 = .ok (.if_icmp .eq 117, 3) := by decide +kernel
theorem dL_law_454 : decode cL_law 454 = .ok (.iconst 0, 1) := by decide +kernel
theorem dL_law_455 : decode cL_law 455 = .ok (.ireturn, 1) := by decide +kernel
theorem dL_law_456 : decode cL_law 456 = .ok (.aload_n 1, 1) := by decide +kernel
theorem dL_law_457 : decode cL_law 457 = .ok (.aload_n 0, 1) := by decide +kernel
theorem dL_law_458 : decode cL_law 458 = .ok (.iload_n 3, 1) := by decide +kernel
theorem dL_law_459 : decode cL_law 459 = .ok (.iconst 1, 1) := by decide +kernel
theorem dL_law_460 : decode cL_law 460 = .ok (.iadd, 1) := by decide +kernel
theorem dL_law_461 : decode cL_law 461 = .ok (.iaload, 1) := by decide +kernel
theorem dL_law_462 : decode cL_law 462 = .ok (.aload_n 0, 1) := by decide +kernel
theorem dL_law_463 : decode cL_law 463 = .ok (.iload_n 3, 1) := by decide +kernel
theorem dL_law_464 : decode cL_law 464 = .ok (.iconst 2, 1) := by decide +kernel
theorem dL_law_465 : decode cL_law 465 = .ok (.iadd, 1) := by decide +kernel
theorem dL_law_466 : decode cL_law 466 = .ok (.iaload, 1) := by decide +kernel
theorem dL_law_467 : decode cL_law 467 = .ok (.invokevirtual 77, 3) := by decide +kernel
theorem dL_law_470 : decode cL_law 470 = .ok (.aload_n 2, 1) := by decide +kernel
theorem dL_law_471 : decode cL_law 471 = .ok (.aload_n 0, 1) := by decide +kernel
theorem dL_law_472 : decode cL_law 472 = .ok (.iload_n 3, 1) := by decide +kernel
theorem dL_law_473 : decode cL_law 473 = .ok (.iconst 1, 1) := by decide +kernel
theorem dL_law_474 : decode cL_law 474 = .ok (.iadd, 1) := by decide +kernel
theorem dL_law_475 : decode cL_law 475 = .ok (.iaload, 1) := by decide +kernel
theorem dL_law_476 : decode cL_law 476 = .ok (.aload_n 0, 1) := by decide +kernel
theorem dL_law_477 : decode cL_law 477 = .ok (.iload_n 3, 1) := by decide +kernel
theorem dL_law_478 : decode cL_law 478 = .ok (.iconst 2, 1) := by decide +kernel
theorem dL_law_479 : decode cL_law 479 = .ok (.iadd, 1) := by decide +kernel
theorem dL_law_480 : decode cL_law 480 = .ok (.iaload, 1) := by decide +kernel
theorem dL_law_481 : decode cL_law 481 = .ok (.invokevirtual 80, 3) := by decide +kernel
theorem dL_law_484 : decode cL_law 484 = .ok (.if_icmp .eq 84, 3) := by decide +kernel
theorem dL_law_487 : decode cL_law 487 = .ok (.iconst 0, 1) := by decide +kernel
theorem dL_law_488 : decode cL_law 488 = .ok (.ireturn, 1) := by decide +kernel
theorem dL_law_489 : decode cL_law 489 = .ok (.aload_n 1, 1) := by decide +kernel
theorem dL_law_490 : decode cL_law 490 = .ok (.invokevirtual 81, 3) := by decide +kernel
theorem dL_law_493 : decode cL_law 493 = .ok (.aload_n 2, 1) := by decide +kernel
theorem dL_law_494 : decode cL_law 494 = .ok (.invokevirtual 84, 3) := by decide +kernel
theorem dL_law_497 : decode cL_law 497 = .ok (.if_icmp .eq 71, 3) := by decide +kernel
theorem dL_law_500 : decode cL_law 500 = .ok (.iconst 0, 1) := by decide +kernel
theorem dL_law_501 : decode cL_law 501 = .ok (.ireturn, 1) := by decide +kernel
theorem dL_law_502 : decode cL_law 502 = .ok (.aload_n 1, 1) := by decide +kernel
theorem dL_law_503 : decode cL_law 503 = .ok (.aload_n 0, 1) := by decide +kernel
theorem dL_law_504 : decode cL_law 504 = .ok (.iload_n 3, 1) := by decide +kernel
theorem dL_law_505 : decode cL_law 505 = .ok (.iconst 1, 1) := by decide +kernel
theorem dL_law_506 : decode cL_law 506 = .ok (.iadd, 1) := by decide +kernel
theorem dL_law_507 : decode cL_law 507 = .ok (.iaload, 1) := by decide +kernel
theorem dL_law_508 : decode cL_law 508 = .ok (.aload_n 0, 1) := by decide +kernel
theorem dL_law_509 : decode cL_law 509 = .ok (.iload_n 3, 1) := by decide +kernel
theorem dL_law_510 : decode cL_law 510 = .ok (.iconst 2, 1) := by decide +kernel
theorem dL_law_511 : decode cL_law 511 = .ok (.iadd, 1) := by decide +kernel
theorem dL_law_512 : decode cL_law 512 = .ok (.iaload, 1) := by decide +kernel
theorem dL_law_513 : decode cL_law 513 = .ok (.aload_n 0, 1) := by decide +kernel
theorem dL_law_514 : decode cL_law 514 = .ok (.iload_n 3, 1) := by decide +kernel
theorem dL_law_515 : decode cL_law 515 = .ok (.iconst 3, 1) := by decide +kernel
theorem dL_law_516 : decode cL_law 516 = .ok (.iadd, 1) := by decide +kernel
theorem dL_law_517 : decode cL_law 517 = .ok (.iaload, 1) := by decide +kernel
theorem dL_law_518 : decode cL_law 518 = .ok (.invokevirtual 85, 3) := by decide +kernel
theorem dL_law_521 : decode cL_law 521 = .ok (.aload_n 2, 1) := by decide +kernel
theorem dL_law_522 : decode cL_law 522 = .ok (.aload_n 0, 1) := by decide +kernel
theorem dL_law_523 : decode cL_law 523 = .ok (.iload_n 3, 1) := by decide +kernel
theorem dL_law_524 : decode cL_law 524 = .ok (.iconst 1, 1) := by decide +kernel
theorem dL_law_525 : decode cL_law 525 = .ok (.iadd, 1) := by decide +kernel
theorem dL_law_526 : decode cL_law 526 = .ok (.iaload, 1) := by decide +kernel
theorem dL_law_527 : decode cL_law 527 = .ok (.aload_n 0, 1) := by decide +kernel
theorem dL_law_528 : decode cL_law 528 = .ok (.iload_n 3, 1) := by decide +kernel
theorem dL_law_529 : decode cL_law 529 = .ok (.iconst 2, 1) := by decide +kernel
theorem dL_law_530 : decode cL_law 530 = .ok (.iadd, 1) := by decide +kernel
theorem dL_law_531 : decode cL_law 531 = .ok (.iaload, 1) := by decide +kernel
theorem dL_law_532 : decode cL_law 532 = .ok (.aload_n 0, 1) := by decide +kernel
theorem dL_law_533 : decode cL_law 533 = .ok (.iload_n 3, 1) := by decide +kernel
theorem dL_law_534 : decode cL_law 534 = .ok (.iconst 3, 1) := by decide +kernel
theorem dL_law_535 : decode cL_law 535 = .ok (.iadd, 1) := by decide +kernel
theorem dL_law_536 : decode cL_law 536 = .ok (.iaload, 1) := by decide +kernel
theorem dL_law_537 : decode cL_law 537 = .ok (.invokevirtual 88, 3) := by decide +kernel
theorem dL_law_540 : decode cL_law 540 = .ok (.if_icmp .eq 28, 3) := by decide +kernel
theorem dL_law_543 : decode cL_law 543 = .ok (.iconst 0, 1) := by decide +kernel
theorem dL_law_544 : decode cL_law 544 = .ok (.ireturn, 1) := by decide +kernel
theorem dL_law_545 : decode cL_law 545 = .ok (.aload_n 1, 1) := by decide +kernel
theorem dL_law_546 : decode cL_law 546 = .ok (.aload_n 0, 1) := by decide +kernel
theorem dL_law_547 : decode cL_law 547 = .ok (.iload_n 3, 1) := by decide +kernel
theorem dL_law_548 : decode cL_law 548 = .ok (.iconst 1, 1) := by decide +kernel
theorem dL_law_549 : decode cL_law 549 = .ok (.iadd, 1) := by decide +kernel
theorem dL_law_550 : decode cL_law 550 = .ok (.iaload, 1) := by decide +kernel
theorem dL_law_551 : decode cL_law 551 = .ok (.invokevirtual 89, 3) := by decide +kernel
theorem dL_law_554 : decode cL_law 554 = .ok (.aload_n 2, 1) := by decide +kernel
theorem dL_law_555 : decode cL_law 555 = .ok (.aload_n 0, 1) := by decide +kernel
theorem dL_law_556 : decode cL_law 556 = .ok (.iload_n 3, 1) := by decide +kernel
theorem dL_law_557 : decode cL_law 557 = .ok (.iconst 1, 1) := by decide +kernel
theorem dL_law_558 : decode cL_law 558 = .ok (.iadd, 1) := by decide +kernel
theorem dL_law_559 : decode cL_law 559 = .ok (.iaload, 1) := by decide +kernel
theorem dL_law_560 : decode cL_law 560 = .ok (.invokevirtual 92, 3) := by decide +kernel
theorem dL_law_563 : decode cL_law 563 = .ok (.if_icmp .eq 5, 3) := by decide +kernel
theorem dL_law_566 : decode cL_law 566 = .ok (.iconst 0, 1) := by decide +kernel
theorem dL_law_567 : decode cL_law 567 = .ok (.ireturn, 1) := by decide +kernel
theorem dL_law_568 : decode cL_law 568 = .ok (.iinc 3 5, 3) := by decide +kernel
theorem dL_law_571 : decode cL_law 571 = .ok (.goto (-543), 3) := by decide +kernel
theorem dL_law_574 : decode cL_law 574 = .ok (.iconst 1, 1) := by decide +kernel
theorem dL_law_575 : decode cL_law 575 = .ok (.ireturn, 1) := by decide +kernel
theorem dX0_init_0 : decode cX0_init 0 = .ok (.aload_n 0, 1) := by decide +kernel
theorem dX0_init_1 : decode cX0_init 1 = .ok (.invokespecial 3, 3) := by decide +kernel
theorem dX0_init_4 : decode cX0_init 4 = .ok (.aload_n 0, 1) := by decide +kernel
theorem dX0_init_5 : decode cX0_init 5 = .ok (.bipush 8, 2) := by decide +kernel
theorem dX0_init_7 : decode cX0_init 7 = .ok (.newarray .long, 2) := by decide +kernel
theorem dX0_init_9 : decode cX0_init 9 = .ok (.putfield 9, 3) := by decide +kernel
theorem dX0_init_12 : decode cX0_init 12 = .ok (.return_, 1) := by decide +kernel
theorem dX0_reset_0 : decode cX0_reset 0 = .ok (.aload_n 0, 1) := by decide +kernel
theorem dX0_reset_1 : decode cX0_reset 1 = .ok (.getfield 9, 3) := by decide +kernel
theorem dX0_reset_4 : decode cX0_reset 4 = .ok (.lconst 0, 1) := by decide +kernel
theorem dX0_reset_5 : decode cX0_reset 5 = .ok (.invokestatic 13, 3) := by decide +kernel
theorem dX0_reset_8 : decode cX0_reset 8 = .ok (.aload_n 0, 1) := by decide +kernel
theorem dX0_reset_9 : decode cX0_reset 9 = .ok (.getfield 9, 3) := by decide +kernel
theorem dX0_reset_12 : decode cX0_reset 12 = .ok (.iconst 0, 1) := by decide +kernel
theorem dX0_reset_13 : decode cX0_reset 13 = .ok (.lconst 1, 1) := by decide +kernel
theorem dX0_reset_14 : decode cX0_reset 14 = .ok (.lastore, 1) := by decide +kernel
theorem dX0_reset_15 : decode cX0_reset 15 = .ok (.return_, 1) := by decide +kernel
theorem dX0_multiply_0 : decode cX0_multiply 0 = .ok (.iconst 0, 1) := by decide +kernel
theorem dX0_multiply_1 : decode cX0_multiply 1 = .ok (.istore 4, 2) := by decide +kernel
theorem dX0_multiply_3 : decode cX0_multiply 3 = .ok (.iload 4, 2) := by decide +kernel
theorem dX0_multiply_5 : decode cX0_multiply 5 = .ok (.iload_n 3, 1) := by decide +kernel
theorem dX0_multiply_6 : decode cX0_multiply 6 = .ok (.if_icmp .ge 62, 3) := by decide +kernel
theorem dX0_multiply_9 : decode cX0_multiply 9 = .ok (.lconst 0, 1) := by decide +kernel
theorem dX0_multiply_10 : decode cX0_multiply 10 = .ok (.lstore 5, 2) := by decide +kernel
theorem dX0_multiply_12 : decode cX0_multiply 12 = .ok (.iconst 0, 1) := by decide +kernel
theorem dX0_multiply_13 : decode cX0_multiply 13 = .ok (.istore 7, 2) := by decide +kernel
theorem dX0_multiply_15 : decode cX0_multiply 15 = .ok (.iload 7, 2) := by decide +kernel
theorem dX0_multiply_17 : decode cX0_multiply 17 = .ok (.bipush 8, 2) := by decide +kernel
theorem dX0_multiply_19 : decode cX0_multiply 19 = .ok (.if_icmp .ge 43, 3) := by decide +kernel
theorem dX0_multiply_22 : decode cX0_multiply 22 = .ok (.aload_n 0, 1) := by decide +kernel
theorem dX0_multiply_23 : decode cX0_multiply 23 = .ok (.getfield 9, 3) := by decide +kernel
theorem dX0_multiply_26 : decode cX0_multiply 26 = .ok (.iload 7, 2) := by decide +kernel
theorem dX0_multiply_28 : decode cX0_multiply 28 = .ok (.laload, 1) := by decide +kernel
theorem dX0_multiply_29 : decode cX0_multiply 29 = .ok (.lload_n 1, 1) := by decide +kernel
theorem dX0_multiply_30 : decode cX0_multiply 30 = .ok (.lmul, 1) := by decide +kernel
theorem dX0_multiply_31 : decode cX0_multiply 31 = .ok (.lload 5, 2) := by decide +kernel
theorem dX0_multiply_33 : decode cX0_multiply 33 = .ok (.ladd, 1) := by decide +kernel
theorem dX0_multiply_34 : decode cX0_multiply 34 = .ok (.lstore 8, 2) := by decide +kernel
theorem dX0_multiply_36 : decode cX0_multiply 36 = .ok (.aload_n 0, 1) := by decide +kernel
theorem dX0_multiply_37 : decode cX0_multiply 37 = .ok (.getfield 9, 3) := by decide +kernel
theorem dX0_multiply_40 : decode cX0_multiply 40 = .ok (.iload 7, 2) := by decide +kernel
theorem dX0_multiply_42 : decode cX0_multiply 42 = .ok (.lload 8, 2) := by decide +kernel
theorem dX0_multiply_44 : decode cX0_multiply 44 = .ok (.ldc2_w 19, 3) := by decide +kernel
theorem dX0_multiply_47 : decode cX0_multiply 47 = .ok (.land, 1) := by decide +kernel
theorem dX0_multiply_48 : decode cX0_multiply 48 = .ok (.lastore, 1) := by decide +kernel
theorem dX0_multiply_49 : decode cX0_multiply 49 = .ok (.lload 8, 2) := by decide +kernel
theorem dX0_multiply_51 : decode cX0_multiply 51 = .ok (.bipush 30, 2) := by decide +kernel
theorem dX0_multiply_53 : decode cX0_multiply 53 = .ok (.lushr, 1) := by decide +kernel
theorem dX0_multiply_54 : decode cX0_multiply 54 = .ok (.lstore 5, 2) := by decide +kernel
theorem dX0_multiply_56 : decode cX0_multiply 56 = .ok (.iinc 7 1, 3) := by decide +kernel
theorem dX0_multiply_59 : decode cX0_multiply 59 = .ok (.goto (-44), 3) := by decide +kernel
theorem dX0_multiply_62 : decode cX0_multiply 62 = .ok (.iinc 4 1, 3) := by decide +kernel
theorem dX0_multiply_65 : decode cX0_multiply 65 = .ok (.goto (-62), 3) := by decide +kernel
theorem dX0_multiply_68 : decode cX0_multiply 68 = .ok (.return_, 1) := by decide +kernel
theorem dX0_isAbove_0 : decode cX0_isAbove 0 = .ok (.bipush 7, 2) := by decide +kernel
theorem dX0_isAbove_2 : decode cX0_isAbove 2 = .ok (.istore_n 2, 1) := by decide +kernel
theorem dX0_isAbove_3 : decode cX0_isAbove 3 = .ok (.iload_n 2, 1) := by decide +kernel
theorem dX0_isAbove_4 : decode cX0_isAbove 4 = .ok (.ifCond .lt 47, 3) := by decide +kernel
theorem dX0_isAbove_7 : decode cX0_isAbove 7 = .ok (.aload_n 0, 1) := by decide +kernel
theorem dX0_isAbove_8 : decode cX0_isAbove 8 = .ok (.getfield 9, 3) := by decide +kernel
theorem dX0_isAbove_11 : decode cX0_isAbove 11 = .ok (.iload_n 2, 1) := by decide +kernel
theorem dX0_isAbove_12 : decode cX0_isAbove 12 = .ok (.laload, 1) := by decide +kernel
theorem dX0_isAbove_13 : decode cX0_isAbove 13 = .ok (.aload_n 1, 1) := by decide +kernel
theorem dX0_isAbove_14 : decode cX0_isAbove 14 = .ok (.getfield 9, 3) := by decide +kernel
theorem dX0_isAbove_17 : decode cX0_isAbove 17 = .ok (.iload_n 2, 1) := by decide +kernel
theorem dX0_isAbove_18 : decode cX0_isAbove 18 = .ok (.laload, 1) := by decide +kernel
theorem dX0_isAbove_19 : decode cX0_isAbove 19 = .ok (.lcmp, 1) := by decide +kernel
theorem dX0_isAbove_20 : decode cX0_isAbove 20 = .ok (.ifCond .eq 25, 3) := by decide +kernel
theorem dX0_isAbove_23 : decode cX0_isAbove 23 = .ok (.aload_n 0, 1) := by decide +kernel
theorem dX0_isAbove_24 : decode cX0_isAbove 24 = .ok (.getfield 9, 3) := by decide +kernel
theorem dX0_isAbove_27 : decode cX0_isAbove 27 = .ok (.iload_n 2, 1) := by decide +kernel
theorem dX0_isAbove_28 : decode cX0_isAbove 28 = .ok (.laload, 1) := by decide +kernel
theorem dX0_isAbove_29 : decode cX0_isAbove 29 = .ok (.aload_n 1, 1) := by decide +kernel
theorem dX0_isAbove_30 : decode cX0_isAbove 30 = .ok (.getfield 9, 3) := by decide +kernel
theorem dX0_isAbove_33 : decode cX0_isAbove 33 = .ok (.iload_n 2, 1) := by decide +kernel
theorem dX0_isAbove_34 : decode cX0_isAbove 34 = .ok (.laload, 1) := by decide +kernel
theorem dX0_isAbove_35 : decode cX0_isAbove 35 = .ok (.lcmp, 1) := by decide +kernel
theorem dX0_isAbove_36 : decode cX0_isAbove 36 = .ok (.ifCond .le 7, 3) := by decide +kernel
theorem dX0_isAbove_39 : decode cX0_isAbove 39 = .ok (.iconst 1, 1) := by decide +kernel
theorem dX0_isAbove_40 : decode cX0_isAbove 40 = .ok (.goto 4, 3) := by decide +kernel
theorem dX0_isAbove_43 : decode cX0_isAbove 43 = .ok (.iconst 0, 1) := by decide +kernel
theorem dX0_isAbove_44 : decode cX0_isAbove 44 = .ok (.ireturn, 1) := by decide +kernel
theorem dX0_isAbove_45 : decode cX0_isAbove 45 = .ok (.iinc 2 (-1), 3) := by decide +kernel
theorem dX0_isAbove_48 : decode cX0_isAbove 48 = .ok (.goto (-45), 3) := by decide +kernel
theorem dX0_isAbove_51 : decode cX0_isAbove 51 = .ok (.iconst 0, 1) := by decide +kernel
theorem dX0_isAbove_52 : decode cX0_isAbove 52 = .ok (.ireturn, 1) := by decide +kernel
end
section
-- decode rows: X1 X2a
theorem dX1_of_0 : decode cX1_of 0 = .ok (.lload_n 0, 1) := by decide +kernel
theorem dX1_of_1 : decode cX1_of 1 = .ok (.bipush 32, 2) := by decide +kernel
theorem dX1_of_3 : decode cX1_of 3 = .ok (.lshl, 1) := by decide +kernel
theorem dX1_of_4 : decode cX1_of 4 = .ok (.lload_n 2, 1) := by decide +kernel
theorem dX1_of_5 : decode cX1_of 5 = .ok (.lor, 1) := by decide +kernel
theorem dX1_of_6 : decode cX1_of 6 = .ok (.lreturn, 1) := by decide +kernel
theorem dX1_top_0 : decode cX1_top 0 = .ok (.lload_n 0, 1) := by decide +kernel
theorem dX1_top_1 : decode cX1_top 1 = .ok (.bipush 32, 2) := by decide +kernel
theorem dX1_top_3 : decode cX1_top 3 = .ok (.lushr, 1) := by decide +kernel
theorem dX1_top_4 : decode cX1_top 4 = .ok (.lreturn, 1) := by decide +kernel
theorem dX1_bottom_0 : decode cX1_bottom 0 = .ok (.lload_n 0, 1) := by decide +kernel
theorem dX1_bottom_1 : decode cX1_bottom 1 = .ok (.ldc2_w 7, 3) := by decide +kernel
theorem dX1_bottom_4 : decode cX1_bottom 4 = .ok (.land, 1) := by decide +kernel
theorem dX1_bottom_5 : decode cX1_bottom 5 = .ok (.lreturn, 1) := by decide +kernel
theorem dX1_times_0 : decode cX1_times 0 = .ok (.lload_n 0, 1) := by decide +kernel
theorem dX1_times_1 : decode cX1_times 1 = .ok (.invokestatic 9, 3) := by decide +kernel
theorem dX1_times_4 : decode cX1_times 4 = .ok (.lload_n 2, 1) := by decide +kernel
theorem dX1_times_5 : decode cX1_times 5 = .ok (.invokestatic 9, 3) := by decide +kernel
theorem dX1_times_8 : decode cX1_times 8 = .ok (.lmul, 1) := by decide +kernel
theorem dX1_times_9 : decode cX1_times 9 = .ok (.lload_n 0, 1) := by decide +kernel
theorem dX1_times_10 : decode cX1_times 10 = .ok (.invokestatic 15, 3) := by decide +kernel
theorem dX1_times_13 : decode cX1_times 13 = .ok (.lload_n 2, 1) := by decide +kernel
theorem dX1_times_14 : decode cX1_times 14 = .ok (.invokestatic 15, 3) := by decide +kernel
theorem dX1_times_17 : decode cX1_times 17 = .ok (.lmul, 1) := by decide +kernel
theorem dX1_times_18 : decode cX1_times 18 = .ok (.invokestatic 18, 3) := by decide +kernel
theorem dX1_times_21 : decode cX1_times 21 = .ok (.lreturn, 1) := by decide +kernel
theorem dX1_inverse_0 : decode cX1_inverse 0 = .ok (.lload_n 0, 1) := by decide +kernel
theorem dX1_inverse_1 : decode cX1_inverse 1 = .ok (.invokestatic 15, 3) := by decide +kernel
theorem dX1_inverse_4 : decode cX1_inverse 4 = .ok (.lload_n 0, 1) := by decide +kernel
theorem dX1_inverse_5 : decode cX1_inverse 5 = .ok (.invokestatic 9, 3) := by decide +kernel
theorem dX1_inverse_8 : decode cX1_inverse 8 = .ok (.invokestatic 18, 3) := by decide +kernel
theorem dX1_inverse_11 : decode cX1_inverse 11 = .ok (.lreturn, 1) := by decide +kernel
theorem dX1_isAbove_0 : decode cX1_isAbove 0 = .ok (.lload_n 0, 1) := by decide +kernel
theorem dX1_isAbove_1 : decode cX1_isAbove 1 = .ok (.invokestatic 9, 3) := by decide +kernel
theorem dX1_isAbove_4 : decode cX1_isAbove 4 = .ok (.lload_n 2, 1) := by decide +kernel
theorem dX1_isAbove_5 : decode cX1_isAbove 5 = .ok (.invokestatic 15, 3) := by decide +kernel
theorem dX1_isAbove_8 : decode cX1_isAbove 8 = .ok (.lmul, 1) := by decide +kernel
theorem dX1_isAbove_9 : decode cX1_isAbove 9 = .ok (.lload_n 2, 1) := by decide +kernel
theorem dX1_isAbove_10 : decode cX1_isAbove 10 = .ok (.invokestatic 9, 3) := by decide +kernel
theorem dX1_isAbove_13 : decode cX1_isAbove 13 = .ok (.lload_n 0, 1) := by decide +kernel
theorem dX1_isAbove_14 : decode cX1_isAbove 14 = .ok (.invokestatic 15, 3) := by decide +kernel
theorem dX1_isAbove_17 : decode cX1_isAbove 17 = .ok (.lmul, 1) := by decide +kernel
theorem dX1_isAbove_18 : decode cX1_isAbove 18 = .ok (.lcmp, 1) := by decide +kernel
theorem dX1_isAbove_19 : decode cX1_isAbove 19 = .ok (.ifCond .le 7, 3) := by decide +kernel
theorem dX1_isAbove_22 : decode cX1_isAbove 22 = .ok (.iconst 1, 1) := by decide +kernel
theorem dX1_isAbove_23 : decode cX1_isAbove 23 = .ok (.goto 4, 3) := by decide +kernel
theorem dX1_isAbove_26 : decode cX1_isAbove 26 = .ok (.iconst 0, 1) := by decide +kernel
theorem dX1_isAbove_27 : decode cX1_isAbove 27 = .ok (.ireturn, 1) := by decide +kernel
theorem dX1_part_0 : decode cX1_part 0 = .ok (.iload_n 2, 1) := by decide +kernel
theorem dX1_part_1 : decode cX1_part 1 = .ok (.ifCond .ne 10, 3) := by decide +kernel
theorem dX1_part_4 : decode cX1_part 4 = .ok (.lload_n 0, 1) := by decide +kernel
theorem dX1_part_5 : decode cX1_part 5 = .ok (.invokestatic 9, 3) := by decide +kernel
theorem dX1_part_8 : decode cX1_part 8 = .ok (.goto 7, 3) := by decide +kernel
theorem dX1_part_11 : decode cX1_part 11 = .ok (.lload_n 0, 1) := by decide +kernel
theorem dX1_part_12 : decode cX1_part 12 = .ok (.invokestatic 15, 3) := by decide +kernel
theorem dX1_part_15 : decode cX1_part 15 = .ok (.lstore_n 3, 1) := by decide +kernel
theorem dX1_part_16 : decode cX1_part 16 = .ok (.lload_n 0, 1) := by decide +kernel
theorem dX1_part_17 : decode cX1_part 17 = .ok (.invokestatic 9, 3) := by decide +kernel
theorem dX1_part_20 : decode cX1_part 20 = .ok (.lload_n 0, 1) := by decide +kernel
theorem dX1_part_21 : decode cX1_part 21 = .ok (.invokestatic 15, 3) := by decide +kernel
theorem dX1_part_24 : decode cX1_part 24 = .ok (.invokestatic 22, 3) := by decide +kernel
theorem dX1_part_27 : decode cX1_part 27 = .ok (.lstore 5, 2) := by decide +kernel
theorem dX1_part_29 : decode cX1_part 29 = .ok (.lload 5, 2) := by decide +kernel
theorem dX1_part_31 : decode cX1_part 31 = .ok (.lconst 1, 1) := by decide +kernel
theorem dX1_part_32 : decode cX1_part 32 = .ok (.lcmp, 1) := by decide +kernel
theorem dX1_part_33 : decode cX1_part 33 = .ok (.ifCond .le 10, 3) := by decide +kernel
theorem dX1_part_36 : decode cX1_part 36 = .ok (.lload_n 3, 1) := by decide +kernel
theorem dX1_part_37 : decode cX1_part 37 = .ok (.lload 5, 2) := by decide +kernel
theorem dX1_part_39 : decode cX1_part 39 = .ok (.ldiv, 1) := by decide +kernel
theorem dX1_part_40 : decode cX1_part 40 = .ok (.goto 4, 3) := by decide +kernel
theorem dX1_part_43 : decode cX1_part 43 = .ok (.lload_n 3, 1) := by decide +kernel
theorem dX1_part_44 : decode cX1_part 44 = .ok (.l2i, 1) := by decide +kernel
theorem dX1_part_45 : decode cX1_part 45 = .ok (.ireturn, 1) := by decide +kernel
theorem dX1_commonDivisor_0 : decode cX1_commonDivisor 0 = .ok (.lload_n 0, 1) := by decide +kernel
theorem dX1_commonDivisor_1 : decode cX1_commonDivisor 1 = .ok (.lstore 4, 2) := by decide +kernel
theorem dX1_commonDivisor_3 : decode cX1_commonDivisor 3 = .ok (.lload_n 2, 1) := by decide +kernel
theorem dX1_commonDivisor_4 : decode cX1_commonDivisor 4 = .ok (.lstore 6, 2) := by decide +kernel
theorem dX1_commonDivisor_6 : decode cX1_commonDivisor 6 = .ok (.iconst 0, 1) := by decide +kernel
theorem dX1_commonDivisor_7 : decode cX1_commonDivisor 7 = .ok (.istore 8, 2) := by decide +kernel
theorem dX1_commonDivisor_9 : decode cX1_commonDivisor 9 = .ok (.iload 8, 2) := by decide +kernel
theorem dX1_commonDivisor_11 : decode cX1_commonDivisor 11 = .ok (.bipush 100, 2) := by decide +kernel
theorem dX1_commonDivisor_13 : decode cX1_commonDivisor 13 = .ok (.if_icmp .ge 31, 3) := by decide +kernel
theorem dX1_commonDivisor_16 : decode cX1_commonDivisor 16 = .ok (.lload 6, 2) := by decide +kernel
theorem dX1_commonDivisor_18 : decode cX1_commonDivisor 18 = .ok (.lconst 0, 1) := by decide +kernel
theorem dX1_commonDivisor_19 : decode cX1_commonDivisor 19 = .ok (.lcmp, 1) := by decide +kernel
theorem dX1_commonDivisor_20 : decode cX1_commonDivisor 20 = .ok (.ifCond .eq 24, 3) := by decide +kernel
theorem dX1_commonDivisor_23 : decode cX1_commonDivisor 23 = .ok (.lload 4, 2) := by decide +kernel
theorem dX1_commonDivisor_25 : decode cX1_commonDivisor 25 = .ok (.lload 6, 2) := by decide +kernel
theorem dX1_commonDivisor_27 : decode cX1_commonDivisor 27 = .ok (.lrem, 1) := by decide +kernel
theorem dX1_commonDivisor_28 : decode cX1_commonDivisor 28 = .ok (.lstore 9, 2) := by decide +kernel
theorem dX1_commonDivisor_30 : decode cX1_commonDivisor 30 = .ok (.lload 6, 2) := by decide +kernel
theorem dX1_commonDivisor_32 : decode cX1_commonDivisor 32 = .ok (.lstore 4, 2) := by decide +kernel
theorem dX1_commonDivisor_34 : decode cX1_commonDivisor 34 = .ok (.lload 9, 2) := by decide +kernel
theorem dX1_commonDivisor_36 : decode cX1_commonDivisor 36 = .ok (.lstore 6, 2) := by decide +kernel
theorem dX1_commonDivisor_38 : decode cX1_commonDivisor 38 = .ok (.iinc 8 1, 3) := by decide +kernel
theorem dX1_commonDivisor_41 : decode cX1_commonDivisor 41 = .ok (.goto (-32), 3) := by decide +kernel
theorem dX1_commonDivisor_44 : decode cX1_commonDivisor 44 = .ok (.lload 4, 2) := by decide +kernel
theorem dX1_commonDivisor_46 : decode cX1_commonDivisor 46 = .ok (.lreturn, 1) := by decide +kernel
theorem dX2_init_0 : decode cX2_init 0 = .ok (.aload_n 0, 1) := by decide +kernel
theorem dX2_init_1 : decode cX2_init 1 = .ok (.invokespecial 1, 3) := by decide +kernel
theorem dX2_init_4 : decode cX2_init 4 = .ok (.aload_n 0, 1) := by decide +kernel
theorem dX2_init_5 : decode cX2_init 5 = .ok (.iload_n 1, 1) := by decide +kernel
theorem dX2_init_6 : decode cX2_init 6 = .ok (.putfield 7, 3) := by decide +kernel
theorem dX2_init_9 : decode cX2_init 9 = .ok (.aload_n 0, 1) := by decide +kernel
theorem dX2_init_10 : decode cX2_init 10 = .ok (.iload_n 1, 1) := by decide +kernel
theorem dX2_init_11 : decode cX2_init 11 = .ok (.iload_n 1, 1) := by decide +kernel
theorem dX2_init_12 : decode cX2_init 12 = .ok (.iconst 1, 1) := by decide +kernel
theorem dX2_init_13 : decode cX2_init 13 = .ok (.isub, 1) := by decide +kernel
theorem dX2_init_14 : decode cX2_init 14 = .ok (.imul, 1) := by decide +kernel
theorem dX2_init_15 : decode cX2_init 15 = .ok (.iconst 2, 1) := by decide +kernel
theorem dX2_init_16 : decode cX2_init 16 = .ok (.idiv, 1) := by decide +kernel
theorem dX2_init_17 : decode cX2_init 17 = .ok (.putfield 13, 3) := by decide +kernel
theorem dX2_init_20 : decode cX2_init 20 = .ok (.aload_n 0, 1) := by decide +kernel
theorem dX2_init_21 : decode cX2_init 21 = .ok (.aload_n 0, 1) := by decide +kernel
theorem dX2_init_22 : decode cX2_init 22 = .ok (.getfield 13, 3) := by decide +kernel
theorem dX2_init_25 : decode cX2_init 25 = .ok (.newarray .int, 2) := by decide +kernel
theorem dX2_init_27 : decode cX2_init 27 = .ok (.putfield 16, 3) := by decide +kernel
theorem dX2_init_30 : decode cX2_init 30 = .ok (.aload_n 0, 1) := by decide +kernel
theorem dX2_init_31 : decode cX2_init 31 = .ok (.aload_n 0, 1) := by decide +kernel
theorem dX2_init_32 : decode cX2_init 32 = .ok (.getfield 13, 3) := by decide +kernel
theorem dX2_init_35 : decode cX2_init 35 = .ok (.newarray .int, 2) := by decide +kernel
theorem dX2_init_37 : decode cX2_init 37 = .ok (.putfield 20, 3) := by decide +kernel
theorem dX2_init_40 : decode cX2_init 40 = .ok (.aload_n 0, 1) := by decide +kernel
theorem dX2_init_41 : decode cX2_init 41 = .ok (.iload_n 1, 1) := by decide +kernel
theorem dX2_init_42 : decode cX2_init 42 = .ok (.iload_n 1, 1) := by decide +kernel
theorem dX2_init_43 : decode cX2_init 43 = .ok (.multianewarray 23 2, 4) := by decide +kernel
theorem dX2_init_47 : decode cX2_init 47 = .ok (.putfield 25, 3) := by decide +kernel
theorem dX2_init_50 : decode cX2_init 50 = .ok (.aload_n 0, 1) := by decide +kernel
theorem dX2_init_51 : decode cX2_init 51 = .ok (.iload_n 1, 1) := by decide +kernel
theorem dX2_init_52 : decode cX2_init 52 = .ok (.iload_n 1, 1) := by decide +kernel
theorem dX2_init_53 : decode cX2_init 53 = .ok (.multianewarray 23 2, 4) := by decide +kernel
theorem dX2_init_57 : decode cX2_init 57 = .ok (.putfield 28, 3) := by decide +kernel
theorem dX2_init_60 : decode cX2_init 60 = .ok (.iconst 0, 1) := by decide +kernel
theorem dX2_init_61 : decode cX2_init 61 = .ok (.istore_n 2, 1) := by decide +kernel
theorem dX2_init_62 : decode cX2_init 62 = .ok (.iconst 0, 1) := by decide +kernel
theorem dX2_init_63 : decode cX2_init 63 = .ok (.istore_n 3, 1) := by decide +kernel
theorem dX2_init_64 : decode cX2_init 64 = .ok (.iload_n 3, 1) := by decide +kernel
theorem dX2_init_65 : decode cX2_init 65 = .ok (.iload_n 1, 1) := by decide +kernel
theorem dX2_init_66 : decode cX2_init 66 = .ok (.if_icmp .ge 53, 3) := by decide +kernel
theorem dX2_init_69 : decode cX2_init 69 = .ok (.aload_n 0, 1) := by decide +kernel
theorem dX2_init_70 : decode cX2_init 70 = .ok (.getfield 25, 3) := by decide +kernel
theorem dX2_init_73 : decode cX2_init 73 = .ok (.iconst 0, 1) := by decide +kernel
theorem dX2_init_74 : decode cX2_init 74 = .ok (.aaload, 1) := by decide +kernel
theorem dX2_init_75 : decode cX2_init 75 = .ok (.iload_n 3, 1) := by decide +kernel
theorem dX2_init_76 : decode cX2_init 76 = .ok (.iload_n 3, 1) := by decide +kernel
theorem dX2_init_77 : decode cX2_init 77 = .ok (.iastore, 1) := by decide +kernel
theorem dX2_init_78 : decode cX2_init 78 = .ok (.iload_n 3, 1) := by decide +kernel
theorem dX2_init_79 : decode cX2_init 79 = .ok (.iconst 1, 1) := by decide +kernel
theorem dX2_init_80 : decode cX2_init 80 = .ok (.iadd, 1) := by decide +kernel
theorem dX2_init_81 : decode cX2_init 81 = .ok (.istore 4, 2) := by decide +kernel
theorem dX2_init_83 : decode cX2_init 83 = .ok (.iload 4, 2) := by decide +kernel
theorem dX2_init_85 : decode cX2_init 85 = .ok (.iload_n 1, 1) := by decide +kernel
theorem dX2_init_86 : decode cX2_init 86 = .ok (.if_icmp .ge 27, 3) := by decide +kernel
theorem dX2_init_89 : decode cX2_init 89 = .ok (.aload_n 0, 1) := by decide +kernel
theorem dX2_init_90 : decode cX2_init 90 = .ok (.getfield 16, 3) := by decide +kernel
theorem dX2_init_93 : decode cX2_init 93 = .ok (.iload_n 2, 1) := by decide +kernel
theorem dX2_init_94 : decode cX2_init 94 = .ok (.iload_n 3, 1) := by decide +kernel
theorem dX2_init_95 : decode cX2_init 95 = .ok (.iastore, 1) := by decide +kernel
theorem dX2_init_96 : decode cX2_init 96 = .ok (.aload_n 0, 1) := by decide +kernel
theorem dX2_init_97 : decode cX2_init 97 = .ok (.getfield 20, 3) := by decide +kernel
theorem dX2_init_100 : decode cX2_init 100 = .ok (.iload_n 2, 1) := by decide +kernel
theorem dX2_init_101 : decode cX2_init 101 = .ok (.iload 4, 2) := by decide +kernel
theorem dX2_init_103 : decode cX2_init 103 = .ok (.iastore, 1) := by decide +kernel
theorem dX2_init_104 : decode cX2_init 104 = .ok (.iinc 2 1, 3) := by decide +kernel
theorem dX2_init_107 : decode cX2_init 107 = .ok (.iinc 4 1, 3) := by decide +kernel
theorem dX2_init_110 : decode cX2_init 110 = .ok (.goto (-27), 3) := by decide +kernel
theorem dX2_init_113 : decode cX2_init 113 = .ok (.iinc 3 1, 3) := by decide +kernel
theorem dX2_init_116 : decode cX2_init 116 = .ok (.goto (-52), 3) := by decide +kernel
theorem dX2_init_119 : decode cX2_init 119 = .ok (.return_, 1) := by decide +kernel
theorem dX2_search_0 : decode cX2_search 0 = .ok (.aload_n 0, 1) := by decide +kernel
theorem dX2_search_1 : decode cX2_search 1 = .ok (.aload_n 0, 1) := by decide +kernel
theorem dX2_search_2 : decode cX2_search 2 = .ok (.getfield 13, 3) := by decide +kernel
theorem dX2_search_5 : decode cX2_search 5 = .ok (.iconst 1, 1) := by decide +kernel
theorem dX2_search_6 : decode cX2_search 6 = .ok (.iadd, 1) := by decide +kernel
theorem dX2_search_7 : decode cX2_search 7 = .ok (.putfield 31, 3) := by decide +kernel
theorem dX2_search_10 : decode cX2_search 10 = .ok (.aload_n 0, 1) := by decide +kernel
theorem dX2_search_11 : decode cX2_search 11 = .ok (.iconst 0, 1) := by decide +kernel
theorem dX2_search_12 : decode cX2_search 12 = .ok (.putfield 34, 3) := by decide +kernel
theorem dX2_search_15 : decode cX2_search 15 = .ok (.aload_n 0, 1) := by decide +kernel
theorem dX2_search_16 : decode cX2_search 16 = .ok (.aload_n 1, 1) := by decide +kernel
theorem dX2_search_17 : decode cX2_search 17 = .ok (.aload_n 0, 1) := by decide +kernel
theorem dX2_search_18 : decode cX2_search 18 = .ok (.getfield 13, 3) := by decide +kernel
theorem dX2_search_21 : decode cX2_search 21 = .ok (.iconst 1, 1) := by decide +kernel
theorem dX2_search_22 : decode cX2_search 22 = .ok (.isub, 1) := by decide +kernel
theorem dX2_search_23 : decode cX2_search 23 = .ok (.iconst 0, 1) := by decide +kernel
theorem dX2_search_24 : decode cX2_search 24 = .ok (.iconst 0, 1) := by decide +kernel
theorem dX2_search_25 : decode cX2_search 25 = .ok (.iconst 0, 1) := by decide +kernel
theorem dX2_search_26 : decode cX2_search 26 = .ok (.invokevirtual 37, 3) := by decide +kernel
theorem dX2_search_29 : decode cX2_search 29 = .ok (.return_, 1) := by decide +kernel
theorem dX2_settle_0 : decode cX2_settle 0 = .ok (.iload 5, 2) := by decide +kernel
theorem dX2_settle_2 : decode cX2_settle 2 = .ok (.aload_n 0, 1) := by decide +kernel
theorem dX2_settle_3 : decode cX2_settle 3 = .ok (.getfield 31, 3) := by decide +kernel
theorem dX2_settle_6 : decode cX2_settle 6 = .ok (.if_icmp .lt 4, 3) := by decide +kernel
theorem dX2_settle_9 : decode cX2_settle 9 = .ok (.return_, 1) := by decide +kernel
theorem dX2_settle_10 : decode cX2_settle 10 = .ok (.iload_n 2, 1) := by decide +kernel
theorem dX2_settle_11 : decode cX2_settle 11 = .ok (.ifCond .ge 16, 3) := by decide +kernel
theorem dX2_settle_14 : decode cX2_settle 14 = .ok (.aload_n 0, 1) := by decide +kernel
theorem dX2_settle_15 : decode cX2_settle 15 = .ok (.iload 5, 2) := by decide +kernel
theorem dX2_settle_17 : decode cX2_settle 17 = .ok (.putfield 31, 3) := by decide +kernel
theorem dX2_settle_20 : decode cX2_settle 20 = .ok (.aload_n 0, 1) := by decide +kernel
theorem dX2_settle_21 : decode cX2_settle 21 = .ok (.iload 4, 2) := by decide +kernel
theorem dX2_settle_23 : decode cX2_settle 23 = .ok (.putfield 34, 3) := by decide +kernel
theorem dX2_settle_26 : decode cX2_settle 26 = .ok (.return_, 1) := by decide +kernel
theorem dX2_settle_27 : decode cX2_settle 27 = .ok (.aload_n 0, 1) := by decide +kernel
theorem dX2_settle_28 : decode cX2_settle 28 = .ok (.getfield 16, 3) := by decide +kernel
theorem dX2_settle_31 : decode cX2_settle 31 = .ok (.iload_n 2, 1) := by decide +kernel
theorem dX2_settle_32 : decode cX2_settle 32 = .ok (.iaload, 1) := by decide +kernel
theorem dX2_settle_33 : decode cX2_settle 33 = .ok (.istore 6, 2) := by decide +kernel
theorem dX2_settle_35 : decode cX2_settle 35 = .ok (.aload_n 0, 1) := by decide +kernel
theorem dX2_settle_36 : decode cX2_settle 36 = .ok (.getfield 20, 3) := by decide +kernel
theorem dX2_settle_39 : decode cX2_settle 39 = .ok (.iload_n 2, 1) := by decide +kernel
theorem dX2_settle_40 : decode cX2_settle 40 = .ok (.iaload, 1) := by decide +kernel
theorem dX2_settle_41 : decode cX2_settle 41 = .ok (.istore 7, 2) := by decide +kernel
theorem dX2_settle_43 : decode cX2_settle 43 = .ok (.aload_n 1, 1) := by decide +kernel
theorem dX2_settle_44 : decode cX2_settle 44 = .ok (.iload 6, 2) := by decide +kernel
theorem dX2_settle_46 : decode cX2_settle 46 = .ok (.iload 7, 2) := by decide +kernel
theorem dX2_settle_48 : decode cX2_settle 48 = .ok (.invokevirtual 41, 3) := by decide +kernel
theorem dX2_settle_51 : decode cX2_settle 51 = .ok (.ifCond .ne 17, 3) := by decide +kernel
theorem dX2_settle_54 : decode cX2_settle 54 = .ok (.aload_n 0, 1) := by decide +kernel
theorem dX2_settle_55 : decode cX2_settle 55 = .ok (.aload_n 1, 1) := by decide +kernel
theorem dX2_settle_56 : decode cX2_settle 56 = .ok (.iload_n 2, 1) := by decide +kernel
theorem dX2_settle_57 : decode cX2_settle 57 = .ok (.iconst 1, 1) := by decide +kernel
theorem dX2_settle_58 : decode cX2_settle 58 = .ok (.isub, 1) := by decide +kernel
theorem dX2_settle_59 : decode cX2_settle 59 = .ok (.iload_n 3, 1) := by decide +kernel
theorem dX2_settle_60 : decode cX2_settle 60 = .ok (.iload 4, 2) := by decide +kernel
theorem dX2_settle_62 : decode cX2_settle 62 = .ok (.iload 5, 2) := by decide +kernel
theorem dX2_settle_64 : decode cX2_settle 64 = .ok (.invokevirtual 37, 3) := by decide +kernel
theorem dX2_settle_67 : decode cX2_settle 67 = .ok (.return_, 1) := by decide +kernel
theorem dX2_settle_68 : decode cX2_settle 68 = .ok (.aload_n 1, 1) := by decide +kernel
theorem dX2_settle_69 : decode cX2_settle 69 = .ok (.iload 6, 2) := by decide +kernel
theorem dX2_settle_71 : decode cX2_settle 71 = .ok (.iload 7, 2) := by decide +kernel
theorem dX2_settle_73 : decode cX2_settle 73 = .ok (.invokevirtual 47, 3) := by decide +kernel
theorem dX2_settle_76 : decode cX2_settle 76 = .ok (.invokestatic 51, 3) := by decide +kernel
theorem dX2_settle_79 : decode cX2_settle 79 = .ok (.istore 8, 2) := by decide +kernel
theorem dX2_settle_81 : decode cX2_settle 81 = .ok (.aload_n 0, 1) := by decide +kernel
theorem dX2_settle_82 : decode cX2_settle 82 = .ok (.getfield 25, 3) := by decide +kernel
theorem dX2_settle_85 : decode cX2_settle 85 = .ok (.iload_n 3, 1) := by decide +kernel
theorem dX2_settle_86 : decode cX2_settle 86 = .ok (.aaload, 1) := by decide +kernel
theorem dX2_settle_87 : decode cX2_settle 87 = .ok (.iload 6, 2) := by decide +kernel
theorem dX2_settle_89 : decode cX2_settle 89 = .ok (.iaload, 1) := by decide +kernel
theorem dX2_settle_90 : decode cX2_settle 90 = .ok (.aload_n 0, 1) := by decide +kernel
theorem dX2_settle_91 : decode cX2_settle 91 = .ok (.getfield 25, 3) := by decide +kernel
theorem dX2_settle_94 : decode cX2_settle 94 = .ok (.iload_n 3, 1) := by decide +kernel
theorem dX2_settle_95 : decode cX2_settle 95 = .ok (.aaload, 1) := by decide +kernel
theorem dX2_settle_96 : decode cX2_settle 96 = .ok (.iload 7, 2) := by decide +kernel
theorem dX2_settle_98 : decode cX2_settle 98 = .ok (.iaload, 1) := by decide +kernel
theorem dX2_settle_99 : decode cX2_settle 99 = .ok (.if_icmp .ne 7, 3) := by decide +kernel
theorem dX2_settle_102 : decode cX2_settle 102 = .ok (.iconst 1, 1) := by decide +kernel
theorem dX2_settle_103 : decode cX2_settle 103 = .ok (.goto 4, 3) := by decide +kernel
theorem dX2_settle_106 : decode cX2_settle 106 = .ok (.iconst 0, 1) := by decide +kernel
theorem dX2_settle_107 : decode cX2_settle 107 = .ok (.istore 9, 2) := by decide +kernel
theorem dX2_settle_109 : decode cX2_settle 109 = .ok (.aload_n 0, 1) := by decide +kernel
theorem dX2_settle_110 : decode cX2_settle 110 = .ok (.getfield 28, 3) := by decide +kernel
theorem dX2_settle_113 : decode cX2_settle 113 = .ok (.iload_n 3, 1) := by decide +kernel
theorem dX2_settle_114 : decode cX2_settle 114 = .ok (.aaload, 1) := by decide +kernel
theorem dX2_settle_115 : decode cX2_settle 115 = .ok (.iload 6, 2) := by decide +kernel
theorem dX2_settle_117 : decode cX2_settle 117 = .ok (.iaload, 1) := by decide +kernel
theorem dX2_settle_118 : decode cX2_settle 118 = .ok (.aload_n 0, 1) := by decide +kernel
theorem dX2_settle_119 : decode cX2_settle 119 = .ok (.getfield 28, 3) := by decide +kernel
theorem dX2_settle_122 : decode cX2_settle 122 = .ok (.iload_n 3, 1) := by decide +kernel
theorem dX2_settle_123 : decode cX2_settle 123 = .ok (.aaload, 1) := by decide +kernel
theorem dX2_settle_124 : decode cX2_settle 124 = .ok (.iload 7, 2) := by decide +kernel
theorem dX2_settle_126 : decode cX2_settle 126 = .ok (.iaload, 1) := by decide +kernel
theorem dX2_settle_127 : decode cX2_settle 127 = .ok (.isub, 1) := by decide +kernel
theorem dX2_settle_128 : decode cX2_settle 128 = .ok (.iload 8, 2) := by decide +kernel
theorem dX2_settle_130 : decode cX2_settle 130 = .ok (.if_icmp .ne 7, 3) := by decide +kernel
theorem dX2_settle_133 : decode cX2_settle 133 = .ok (.iconst 1, 1) := by decide +kernel
theorem dX2_settle_134 : decode cX2_settle 134 = .ok (.goto 4, 3) := by decide +kernel
theorem dX2_settle_137 : decode cX2_settle 137 = .ok (.iconst 0, 1) := by decide +kernel
end
section
-- decode rows: X2b
theorem dX2_settle_138 : decode cX2_settle 138 = .ok (.istore 10, 2) := by decide +kernel
theorem dX2_settle_140 : decode cX2_settle 140 = .ok (.iload 9, 2) := by decide +kernel
theorem dX2_settle_142 : decode cX2_settle 142 = .ok (.ifCond .ne 42, 3) := by decide +kernel
theorem dX2_settle_145 : decode cX2_settle 145 = .ok (.iload_n 3, 1) := by decide +kernel
theorem dX2_settle_146 : decode cX2_settle 146 = .ok (.iconst 1, 1) := by decide +kernel
theorem dX2_settle_147 : decode cX2_settle 147 = .ok (.iadd, 1) := by decide +kernel
theorem dX2_settle_148 : decode cX2_settle 148 = .ok (.aload_n 0, 1) := by decide +kernel
theorem dX2_settle_149 : decode cX2_settle 149 = .ok (.getfield 7, 3) := by decide +kernel
theorem dX2_settle_152 : decode cX2_settle 152 = .ok (.if_icmp .ge 32, 3) := by decide +kernel
theorem dX2_settle_155 : decode cX2_settle 155 = .ok (.aload_n 0, 1) := by decide +kernel
theorem dX2_settle_156 : decode cX2_settle 156 = .ok (.iload_n 3, 1) := by decide +kernel
theorem dX2_settle_157 : decode cX2_settle 157 = .ok (.iload 6, 2) := by decide +kernel
theorem dX2_settle_159 : decode cX2_settle 159 = .ok (.iload 7, 2) := by decide +kernel
theorem dX2_settle_161 : decode cX2_settle 161 = .ok (.iload 8, 2) := by decide +kernel
theorem dX2_settle_163 : decode cX2_settle 163 = .ok (.invokevirtual 55, 3) := by decide +kernel
theorem dX2_settle_166 : decode cX2_settle 166 = .ok (.aload_n 0, 1) := by decide +kernel
theorem dX2_settle_167 : decode cX2_settle 167 = .ok (.aload_n 1, 1) := by decide +kernel
theorem dX2_settle_168 : decode cX2_settle 168 = .ok (.iload_n 2, 1) := by decide +kernel
theorem dX2_settle_169 : decode cX2_settle 169 = .ok (.iconst 1, 1) := by decide +kernel
theorem dX2_settle_170 : decode cX2_settle 170 = .ok (.isub, 1) := by decide +kernel
theorem dX2_settle_171 : decode cX2_settle 171 = .ok (.iload_n 3, 1) := by decide +kernel
theorem dX2_settle_172 : decode cX2_settle 172 = .ok (.iconst 1, 1) := by decide +kernel
theorem dX2_settle_173 : decode cX2_settle 173 = .ok (.iadd, 1) := by decide +kernel
theorem dX2_settle_174 : decode cX2_settle 174 = .ok (.iload 4, 2) := by decide +kernel
theorem dX2_settle_176 : decode cX2_settle 176 = .ok (.iload 5, 2) := by decide +kernel
theorem dX2_settle_178 : decode cX2_settle 178 = .ok (.invokevirtual 37, 3) := by decide +kernel
theorem dX2_settle_181 : decode cX2_settle 181 = .ok (.goto 27, 3) := by decide +kernel
theorem dX2_settle_184 : decode cX2_settle 184 = .ok (.iload 9, 2) := by decide +kernel
theorem dX2_settle_186 : decode cX2_settle 186 = .ok (.ifCond .eq 22, 3) := by decide +kernel
theorem dX2_settle_189 : decode cX2_settle 189 = .ok (.iload 10, 2) := by decide +kernel
theorem dX2_settle_191 : decode cX2_settle 191 = .ok (.ifCond .eq 17, 3) := by decide +kernel
theorem dX2_settle_194 : decode cX2_settle 194 = .ok (.aload_n 0, 1) := by decide +kernel
theorem dX2_settle_195 : decode cX2_settle 195 = .ok (.aload_n 1, 1) := by decide +kernel
theorem dX2_settle_196 : decode cX2_settle 196 = .ok (.iload_n 2, 1) := by decide +kernel
theorem dX2_settle_197 : decode cX2_settle 197 = .ok (.iconst 1, 1) := by decide +kernel
theorem dX2_settle_198 : decode cX2_settle 198 = .ok (.isub, 1) := by decide +kernel
theorem dX2_settle_199 : decode cX2_settle 199 = .ok (.iload_n 3, 1) := by decide +kernel
theorem dX2_settle_200 : decode cX2_settle 200 = .ok (.iload 4, 2) := by decide +kernel
theorem dX2_settle_202 : decode cX2_settle 202 = .ok (.iload 5, 2) := by decide +kernel
theorem dX2_settle_204 : decode cX2_settle 204 = .ok (.invokevirtual 37, 3) := by decide +kernel
theorem dX2_settle_207 : decode cX2_settle 207 = .ok (.return_, 1) := by decide +kernel
theorem dX2_settle_208 : decode cX2_settle 208 = .ok (.aload_n 0, 1) := by decide +kernel
theorem dX2_settle_209 : decode cX2_settle 209 = .ok (.aload_n 1, 1) := by decide +kernel
theorem dX2_settle_210 : decode cX2_settle 210 = .ok (.iload_n 2, 1) := by decide +kernel
theorem dX2_settle_211 : decode cX2_settle 211 = .ok (.iconst 1, 1) := by decide +kernel
theorem dX2_settle_212 : decode cX2_settle 212 = .ok (.isub, 1) := by decide +kernel
theorem dX2_settle_213 : decode cX2_settle 213 = .ok (.iload_n 3, 1) := by decide +kernel
theorem dX2_settle_214 : decode cX2_settle 214 = .ok (.iload 4, 2) := by decide +kernel
theorem dX2_settle_216 : decode cX2_settle 216 = .ok (.iconst 1, 1) := by decide +kernel
theorem dX2_settle_217 : decode cX2_settle 217 = .ok (.iload_n 2, 1) := by decide +kernel
theorem dX2_settle_218 : decode cX2_settle 218 = .ok (.ishl, 1) := by decide +kernel
theorem dX2_settle_219 : decode cX2_settle 219 = .ok (.ior, 1) := by decide +kernel
theorem dX2_settle_220 : decode cX2_settle 220 = .ok (.iload 5, 2) := by decide +kernel
theorem dX2_settle_222 : decode cX2_settle 222 = .ok (.iconst 1, 1) := by decide +kernel
theorem dX2_settle_223 : decode cX2_settle 223 = .ok (.iadd, 1) := by decide +kernel
theorem dX2_settle_224 : decode cX2_settle 224 = .ok (.invokevirtual 37, 3) := by decide +kernel
theorem dX2_settle_227 : decode cX2_settle 227 = .ok (.return_, 1) := by decide +kernel
theorem dX2_join_0 : decode cX2_join 0 = .ok (.aload_n 0, 1) := by decide +kernel
theorem dX2_join_1 : decode cX2_join 1 = .ok (.getfield 25, 3) := by decide +kernel
theorem dX2_join_4 : decode cX2_join 4 = .ok (.iload_n 1, 1) := by decide +kernel
theorem dX2_join_5 : decode cX2_join 5 = .ok (.aaload, 1) := by decide +kernel
theorem dX2_join_6 : decode cX2_join 6 = .ok (.iload_n 2, 1) := by decide +kernel
theorem dX2_join_7 : decode cX2_join 7 = .ok (.iaload, 1) := by decide +kernel
theorem dX2_join_8 : decode cX2_join 8 = .ok (.istore 5, 2) := by decide +kernel
theorem dX2_join_10 : decode cX2_join 10 = .ok (.aload_n 0, 1) := by decide +kernel
theorem dX2_join_11 : decode cX2_join 11 = .ok (.getfield 25, 3) := by decide +kernel
theorem dX2_join_14 : decode cX2_join 14 = .ok (.iload_n 1, 1) := by decide +kernel
theorem dX2_join_15 : decode cX2_join 15 = .ok (.aaload, 1) := by decide +kernel
theorem dX2_join_16 : decode cX2_join 16 = .ok (.iload_n 3, 1) := by decide +kernel
theorem dX2_join_17 : decode cX2_join 17 = .ok (.iaload, 1) := by decide +kernel
theorem dX2_join_18 : decode cX2_join 18 = .ok (.istore 6, 2) := by decide +kernel
theorem dX2_join_20 : decode cX2_join 20 = .ok (.aload_n 0, 1) := by decide +kernel
theorem dX2_join_21 : decode cX2_join 21 = .ok (.getfield 28, 3) := by decide +kernel
theorem dX2_join_24 : decode cX2_join 24 = .ok (.iload_n 1, 1) := by decide +kernel
theorem dX2_join_25 : decode cX2_join 25 = .ok (.aaload, 1) := by decide +kernel
theorem dX2_join_26 : decode cX2_join 26 = .ok (.iload_n 2, 1) := by decide +kernel
theorem dX2_join_27 : decode cX2_join 27 = .ok (.iaload, 1) := by decide +kernel
theorem dX2_join_28 : decode cX2_join 28 = .ok (.iload 4, 2) := by decide +kernel
theorem dX2_join_30 : decode cX2_join 30 = .ok (.isub, 1) := by decide +kernel
theorem dX2_join_31 : decode cX2_join 31 = .ok (.aload_n 0, 1) := by decide +kernel
theorem dX2_join_32 : decode cX2_join 32 = .ok (.getfield 28, 3) := by decide +kernel
theorem dX2_join_35 : decode cX2_join 35 = .ok (.iload_n 1, 1) := by decide +kernel
theorem dX2_join_36 : decode cX2_join 36 = .ok (.aaload, 1) := by decide +kernel
theorem dX2_join_37 : decode cX2_join 37 = .ok (.iload_n 3, 1) := by decide +kernel
theorem dX2_join_38 : decode cX2_join 38 = .ok (.iaload, 1) := by decide +kernel
theorem dX2_join_39 : decode cX2_join 39 = .ok (.isub, 1) := by decide +kernel
theorem dX2_join_40 : decode cX2_join 40 = .ok (.istore 7, 2) := by decide +kernel
theorem dX2_join_42 : decode cX2_join 42 = .ok (.iconst 0, 1) := by decide +kernel
theorem dX2_join_43 : decode cX2_join 43 = .ok (.istore 8, 2) := by decide +kernel
theorem dX2_join_45 : decode cX2_join 45 = .ok (.iload 8, 2) := by decide +kernel
theorem dX2_join_47 : decode cX2_join 47 = .ok (.aload_n 0, 1) := by decide +kernel
theorem dX2_join_48 : decode cX2_join 48 = .ok (.getfield 7, 3) := by decide +kernel
theorem dX2_join_51 : decode cX2_join 51 = .ok (.if_icmp .ge 92, 3) := by decide +kernel
theorem dX2_join_54 : decode cX2_join 54 = .ok (.aload_n 0, 1) := by decide +kernel
theorem dX2_join_55 : decode cX2_join 55 = .ok (.getfield 25, 3) := by decide +kernel
theorem dX2_join_58 : decode cX2_join 58 = .ok (.iload_n 1, 1) := by decide +kernel
theorem dX2_join_59 : decode cX2_join 59 = .ok (.aaload, 1) := by decide +kernel
theorem dX2_join_60 : decode cX2_join 60 = .ok (.iload 8, 2) := by decide +kernel
theorem dX2_join_62 : decode cX2_join 62 = .ok (.iaload, 1) := by decide +kernel
theorem dX2_join_63 : decode cX2_join 63 = .ok (.iload 6, 2) := by decide +kernel
theorem dX2_join_65 : decode cX2_join 65 = .ok (.if_icmp .ne 7, 3) := by decide +kernel
theorem dX2_join_68 : decode cX2_join 68 = .ok (.iconst 1, 1) := by decide +kernel
theorem dX2_join_69 : decode cX2_join 69 = .ok (.goto 4, 3) := by decide +kernel
theorem dX2_join_72 : decode cX2_join 72 = .ok (.iconst 0, 1) := by decide +kernel
theorem dX2_join_73 : decode cX2_join 73 = .ok (.istore 9, 2) := by decide +kernel
theorem dX2_join_75 : decode cX2_join 75 = .ok (.aload_n 0, 1) := by decide +kernel
theorem dX2_join_76 : decode cX2_join 76 = .ok (.getfield 25, 3) := by decide +kernel
theorem dX2_join_79 : decode cX2_join 79 = .ok (.iload_n 1, 1) := by decide +kernel
theorem dX2_join_80 : decode cX2_join 80 = .ok (.iconst 1, 1) := by decide +kernel
theorem dX2_join_81 : decode cX2_join 81 = .ok (.iadd, 1) := by decide +kernel
theorem dX2_join_82 : decode cX2_join 82 = .ok (.aaload, 1) := by decide +kernel
theorem dX2_join_83 : decode cX2_join 83 = .ok (.iload 8, 2) := by decide +kernel
theorem dX2_join_85 : decode cX2_join 85 = .ok (.iload 9, 2) := by decide +kernel
theorem dX2_join_87 : decode cX2_join 87 = .ok (.ifCond .eq 8, 3) := by decide +kernel
theorem dX2_join_90 : decode cX2_join 90 = .ok (.iload 5, 2) := by decide +kernel
theorem dX2_join_92 : decode cX2_join 92 = .ok (.goto 12, 3) := by decide +kernel
theorem dX2_join_95 : decode cX2_join 95 = .ok (.aload_n 0, 1) := by decide +kernel
theorem dX2_join_96 : decode cX2_join 96 = .ok (.getfield 25, 3) := by decide +kernel
theorem dX2_join_99 : decode cX2_join 99 = .ok (.iload_n 1, 1) := by decide +kernel
theorem dX2_join_100 : decode cX2_join 100 = .ok (.aaload, 1) := by decide +kernel
theorem dX2_join_101 : decode cX2_join 101 = .ok (.iload 8, 2) := by decide +kernel
theorem dX2_join_103 : decode cX2_join 103 = .ok (.iaload, 1) := by decide +kernel
theorem dX2_join_104 : decode cX2_join 104 = .ok (.iastore, 1) := by decide +kernel
theorem dX2_join_105 : decode cX2_join 105 = .ok (.aload_n 0, 1) := by decide +kernel
theorem dX2_join_106 : decode cX2_join 106 = .ok (.getfield 28, 3) := by decide +kernel
theorem dX2_join_109 : decode cX2_join 109 = .ok (.iload_n 1, 1) := by decide +kernel
theorem dX2_join_110 : decode cX2_join 110 = .ok (.iconst 1, 1) := by decide +kernel
theorem dX2_join_111 : decode cX2_join 111 = .ok (.iadd, 1) := by decide +kernel
theorem dX2_join_112 : decode cX2_join 112 = .ok (.aaload, 1) := by decide +kernel
theorem dX2_join_113 : decode cX2_join 113 = .ok (.iload 8, 2) := by decide +kernel
theorem dX2_join_115 : decode cX2_join 115 = .ok (.aload_n 0, 1) := by decide +kernel
theorem dX2_join_116 : decode cX2_join 116 = .ok (.getfield 28, 3) := by decide +kernel
theorem dX2_join_119 : decode cX2_join 119 = .ok (.iload_n 1, 1) := by decide +kernel
theorem dX2_join_120 : decode cX2_join 120 = .ok (.aaload, 1) := by decide +kernel
theorem dX2_join_121 : decode cX2_join 121 = .ok (.iload 8, 2) := by decide +kernel
theorem dX2_join_123 : decode cX2_join 123 = .ok (.iaload, 1) := by decide +kernel
theorem dX2_join_124 : decode cX2_join 124 = .ok (.iload 9, 2) := by decide +kernel
theorem dX2_join_126 : decode cX2_join 126 = .ok (.ifCond .eq 8, 3) := by decide +kernel
theorem dX2_join_129 : decode cX2_join 129 = .ok (.iload 7, 2) := by decide +kernel
theorem dX2_join_131 : decode cX2_join 131 = .ok (.goto 4, 3) := by decide +kernel
theorem dX2_join_134 : decode cX2_join 134 = .ok (.iconst 0, 1) := by decide +kernel
theorem dX2_join_135 : decode cX2_join 135 = .ok (.iadd, 1) := by decide +kernel
theorem dX2_join_136 : decode cX2_join 136 = .ok (.iastore, 1) := by decide +kernel
theorem dX2_join_137 : decode cX2_join 137 = .ok (.iinc 8 1, 3) := by decide +kernel
theorem dX2_join_140 : decode cX2_join 140 = .ok (.goto (-95), 3) := by decide +kernel
theorem dX2_join_143 : decode cX2_join 143 = .ok (.return_, 1) := by decide +kernel
theorem dX2_logOf_0 : decode cX2_logOf 0 = .ok (.lload_n 0, 1) := by decide +kernel
theorem dX2_logOf_1 : decode cX2_logOf 1 = .ok (.invokestatic 59, 3) := by decide +kernel
theorem dX2_logOf_4 : decode cX2_logOf 4 = .ok (.invokestatic 65, 3) := by decide +kernel
theorem dX2_logOf_7 : decode cX2_logOf 7 = .ok (.lload_n 0, 1) := by decide +kernel
theorem dX2_logOf_8 : decode cX2_logOf 8 = .ok (.invokestatic 68, 3) := by decide +kernel
theorem dX2_logOf_11 : decode cX2_logOf 11 = .ok (.invokestatic 65, 3) := by decide +kernel
theorem dX2_logOf_14 : decode cX2_logOf 14 = .ok (.isub, 1) := by decide +kernel
theorem dX2_logOf_15 : decode cX2_logOf 15 = .ok (.ireturn, 1) := by decide +kernel
theorem dX2_logOfDigit_0 : decode cX2_logOfDigit 0 = .ok (.lload_n 0, 1) := by decide +kernel
theorem dX2_logOfDigit_1 : decode cX2_logOfDigit 1 = .ok (.lconst 0, 1) := by decide +kernel
theorem dX2_logOfDigit_2 : decode cX2_logOfDigit 2 = .ok (.lcmp, 1) := by decide +kernel
theorem dX2_logOfDigit_3 : decode cX2_logOfDigit 3 = .ok (.ifCond .lt 22, 3) := by decide +kernel
theorem dX2_logOfDigit_6 : decode cX2_logOfDigit 6 = .ok (.lload_n 0, 1) := by decide +kernel
theorem dX2_logOfDigit_7 : decode cX2_logOfDigit 7 = .ok (.getstatic 71, 3) := by decide +kernel
theorem dX2_logOfDigit_10 : decode cX2_logOfDigit 10 = .ok (.arraylength, 1) := by decide +kernel
theorem dX2_logOfDigit_11 : decode cX2_logOfDigit 11 = .ok (.i2l, 1) := by decide +kernel
theorem dX2_logOfDigit_12 : decode cX2_logOfDigit 12 = .ok (.lcmp, 1) := by decide +kernel
theorem dX2_logOfDigit_13 : decode cX2_logOfDigit 13 = .ok (.ifCond .ge 12, 3) := by decide +kernel
theorem dX2_logOfDigit_16 : decode cX2_logOfDigit 16 = .ok (.getstatic 71, 3) := by decide +kernel
theorem dX2_logOfDigit_19 : decode cX2_logOfDigit 19 = .ok (.lload_n 0, 1) := by decide +kernel
theorem dX2_logOfDigit_20 : decode cX2_logOfDigit 20 = .ok (.l2i, 1) := by decide +kernel
theorem dX2_logOfDigit_21 : decode cX2_logOfDigit 21 = .ok (.iaload, 1) := by decide +kernel
theorem dX2_logOfDigit_22 : decode cX2_logOfDigit 22 = .ok (.goto 4, 3) := by decide +kernel
theorem dX2_logOfDigit_25 : decode cX2_logOfDigit 25 = .ok (.iconst 0, 1) := by decide +kernel
theorem dX2_logOfDigit_26 : decode cX2_logOfDigit 26 = .ok (.ireturn, 1) := by decide +kernel
end
section
-- decode rows: X3 X4
theorem dX3_init_0 : decode cX3_init 0 = .ok (.aload_n 0, 1) := by decide +kernel
theorem dX3_init_1 : decode cX3_init 1 = .ok (.invokespecial 3, 3) := by decide +kernel
theorem dX3_init_4 : decode cX3_init 4 = .ok (.aload_n 0, 1) := by decide +kernel
theorem dX3_init_5 : decode cX3_init 5 = .ok (.iload_n 1, 1) := by decide +kernel
theorem dX3_init_6 : decode cX3_init 6 = .ok (.putfield 9, 3) := by decide +kernel
theorem dX3_init_9 : decode cX3_init 9 = .ok (.aload_n 0, 1) := by decide +kernel
theorem dX3_init_10 : decode cX3_init 10 = .ok (.iload_n 1, 1) := by decide +kernel
theorem dX3_init_11 : decode cX3_init 11 = .ok (.iconst 1, 1) := by decide +kernel
theorem dX3_init_12 : decode cX3_init 12 = .ok (.iadd, 1) := by decide +kernel
theorem dX3_init_13 : decode cX3_init 13 = .ok (.newarray .long, 2) := by decide +kernel
theorem dX3_init_15 : decode cX3_init 15 = .ok (.putfield 15, 3) := by decide +kernel
theorem dX3_init_18 : decode cX3_init 18 = .ok (.return_, 1) := by decide +kernel
theorem dX3_noneAboveOne_0 : decode cX3_noneAboveOne 0 = .ok (.aload_n 0, 1) := by decide +kernel
theorem dX3_noneAboveOne_1 : decode cX3_noneAboveOne 1 = .ok (.aload_n 1, 1) := by decide +kernel
theorem dX3_noneAboveOne_2 : decode cX3_noneAboveOne 2 = .ok (.invokevirtual 19, 3) := by decide +kernel
theorem dX3_noneAboveOne_5 : decode cX3_noneAboveOne 5 = .ok (.iconst 3, 1) := by decide +kernel
theorem dX3_noneAboveOne_6 : decode cX3_noneAboveOne 6 = .ok (.istore_n 2, 1) := by decide +kernel
theorem dX3_noneAboveOne_7 : decode cX3_noneAboveOne 7 = .ok (.iload_n 2, 1) := by decide +kernel
theorem dX3_noneAboveOne_8 : decode cX3_noneAboveOne 8 = .ok (.aload_n 0, 1) := by decide +kernel
theorem dX3_noneAboveOne_9 : decode cX3_noneAboveOne 9 = .ok (.getfield 9, 3) := by decide +kernel
theorem dX3_noneAboveOne_12 : decode cX3_noneAboveOne 12 = .ok (.if_icmp .gt 26, 3) := by decide +kernel
theorem dX3_noneAboveOne_15 : decode cX3_noneAboveOne 15 = .ok (.aload_n 0, 1) := by decide +kernel
theorem dX3_noneAboveOne_16 : decode cX3_noneAboveOne 16 = .ok (.getfield 15, 3) := by decide +kernel
theorem dX3_noneAboveOne_19 : decode cX3_noneAboveOne 19 = .ok (.iload_n 2, 1) := by decide +kernel
theorem dX3_noneAboveOne_20 : decode cX3_noneAboveOne 20 = .ok (.laload, 1) := by decide +kernel
theorem dX3_noneAboveOne_21 : decode cX3_noneAboveOne 21 = .ok (.ldc2_w 25, 3) := by decide +kernel
theorem dX3_noneAboveOne_24 : decode cX3_noneAboveOne 24 = .ok (.invokestatic 27, 3) := by decide +kernel
theorem dX3_noneAboveOne_27 : decode cX3_noneAboveOne 27 = .ok (.ifCond .eq 5, 3) := by decide +kernel
theorem dX3_noneAboveOne_30 : decode cX3_noneAboveOne 30 = .ok (.iconst 0, 1) := by decide +kernel
theorem dX3_noneAboveOne_31 : decode cX3_noneAboveOne 31 = .ok (.ireturn, 1) := by decide +kernel
theorem dX3_noneAboveOne_32 : decode cX3_noneAboveOne 32 = .ok (.iinc 2 1, 3) := by decide +kernel
theorem dX3_noneAboveOne_35 : decode cX3_noneAboveOne 35 = .ok (.goto (-28), 3) := by decide +kernel
theorem dX3_noneAboveOne_38 : decode cX3_noneAboveOne 38 = .ok (.iconst 1, 1) := by decide +kernel
theorem dX3_noneAboveOne_39 : decode cX3_noneAboveOne 39 = .ok (.ireturn, 1) := by decide +kernel
theorem dX3_measure_0 : decode cX3_measure 0 = .ok (.aload_n 0, 1) := by decide +kernel
theorem dX3_measure_1 : decode cX3_measure 1 = .ok (.getfield 15, 3) := by decide +kernel
theorem dX3_measure_4 : decode cX3_measure 4 = .ok (.lconst 1, 1) := by decide +kernel
theorem dX3_measure_5 : decode cX3_measure 5 = .ok (.invokestatic 31, 3) := by decide +kernel
theorem dX3_measure_8 : decode cX3_measure 8 = .ok (.iconst 0, 1) := by decide +kernel
theorem dX3_measure_9 : decode cX3_measure 9 = .ok (.istore_n 2, 1) := by decide +kernel
theorem dX3_measure_10 : decode cX3_measure 10 = .ok (.iload_n 2, 1) := by decide +kernel
theorem dX3_measure_11 : decode cX3_measure 11 = .ok (.aload_n 0, 1) := by decide +kernel
theorem dX3_measure_12 : decode cX3_measure 12 = .ok (.getfield 9, 3) := by decide +kernel
theorem dX3_measure_15 : decode cX3_measure 15 = .ok (.if_icmp .ge 23, 3) := by decide +kernel
theorem dX3_measure_18 : decode cX3_measure 18 = .ok (.aload_n 0, 1) := by decide +kernel
theorem dX3_measure_19 : decode cX3_measure 19 = .ok (.aload_n 1, 1) := by decide +kernel
theorem dX3_measure_20 : decode cX3_measure 20 = .ok (.iload_n 2, 1) := by decide +kernel
theorem dX3_measure_21 : decode cX3_measure 21 = .ok (.iload_n 2, 1) := by decide +kernel
theorem dX3_measure_22 : decode cX3_measure 22 = .ok (.iconst 1, 1) := by decide +kernel
theorem dX3_measure_23 : decode cX3_measure 23 = .ok (.iload_n 2, 1) := by decide +kernel
theorem dX3_measure_24 : decode cX3_measure 24 = .ok (.ishl, 1) := by decide +kernel
theorem dX3_measure_25 : decode cX3_measure 25 = .ok (.iconst 1, 1) := by decide +kernel
theorem dX3_measure_26 : decode cX3_measure 26 = .ok (.ldc2_w 25, 3) := by decide +kernel
theorem dX3_measure_29 : decode cX3_measure 29 = .ok (.invokevirtual 37, 3) := by decide +kernel
theorem dX3_measure_32 : decode cX3_measure 32 = .ok (.iinc 2 1, 3) := by decide +kernel
theorem dX3_measure_35 : decode cX3_measure 35 = .ok (.goto (-25), 3) := by decide +kernel
theorem dX3_measure_38 : decode cX3_measure 38 = .ok (.return_, 1) := by decide +kernel
theorem dX3_extend_0 : decode cX3_extend 0 = .ok (.iload 5, 2) := by decide +kernel
theorem dX3_extend_2 : decode cX3_extend 2 = .ok (.iconst 3, 1) := by decide +kernel
theorem dX3_extend_3 : decode cX3_extend 3 = .ok (.if_icmp .lt 29, 3) := by decide +kernel
theorem dX3_extend_6 : decode cX3_extend 6 = .ok (.aload_n 1, 1) := by decide +kernel
theorem dX3_extend_7 : decode cX3_extend 7 = .ok (.iload_n 3, 1) := by decide +kernel
theorem dX3_extend_8 : decode cX3_extend 8 = .ok (.iload_n 2, 1) := by decide +kernel
theorem dX3_extend_9 : decode cX3_extend 9 = .ok (.invokevirtual 41, 3) := by decide +kernel
theorem dX3_extend_12 : decode cX3_extend 12 = .ok (.ifCond .eq 20, 3) := by decide +kernel
theorem dX3_extend_15 : decode cX3_extend 15 = .ok (.aload_n 0, 1) := by decide +kernel
theorem dX3_extend_16 : decode cX3_extend 16 = .ok (.iload 5, 2) := by decide +kernel
theorem dX3_extend_18 : decode cX3_extend 18 = .ok (.lload 6, 2) := by decide +kernel
theorem dX3_extend_20 : decode cX3_extend 20 = .ok (.aload_n 1, 1) := by decide +kernel
theorem dX3_extend_21 : decode cX3_extend 21 = .ok (.iload_n 3, 1) := by decide +kernel
theorem dX3_extend_22 : decode cX3_extend 22 = .ok (.iload_n 2, 1) := by decide +kernel
theorem dX3_extend_23 : decode cX3_extend 23 = .ok (.invokevirtual 47, 3) := by decide +kernel
theorem dX3_extend_26 : decode cX3_extend 26 = .ok (.invokestatic 51, 3) := by decide +kernel
theorem dX3_extend_29 : decode cX3_extend 29 = .ok (.invokevirtual 55, 3) := by decide +kernel
theorem dX3_extend_32 : decode cX3_extend 32 = .ok (.iload 5, 2) := by decide +kernel
theorem dX3_extend_34 : decode cX3_extend 34 = .ok (.aload_n 0, 1) := by decide +kernel
theorem dX3_extend_35 : decode cX3_extend 35 = .ok (.getfield 9, 3) := by decide +kernel
theorem dX3_extend_38 : decode cX3_extend 38 = .ok (.if_icmp .lt 4, 3) := by decide +kernel
theorem dX3_extend_41 : decode cX3_extend 41 = .ok (.return_, 1) := by decide +kernel
theorem dX3_extend_42 : decode cX3_extend 42 = .ok (.iload_n 2, 1) := by decide +kernel
theorem dX3_extend_43 : decode cX3_extend 43 = .ok (.iconst 1, 1) := by decide +kernel
theorem dX3_extend_44 : decode cX3_extend 44 = .ok (.iadd, 1) := by decide +kernel
theorem dX3_extend_45 : decode cX3_extend 45 = .ok (.istore 8, 2) := by decide +kernel
theorem dX3_extend_47 : decode cX3_extend 47 = .ok (.iload 8, 2) := by decide +kernel
theorem dX3_extend_49 : decode cX3_extend 49 = .ok (.aload_n 0, 1) := by decide +kernel
theorem dX3_extend_50 : decode cX3_extend 50 = .ok (.getfield 9, 3) := by decide +kernel
theorem dX3_extend_53 : decode cX3_extend 53 = .ok (.if_icmp .ge 64, 3) := by decide +kernel
theorem dX3_extend_56 : decode cX3_extend 56 = .ok (.iload 4, 2) := by decide +kernel
theorem dX3_extend_58 : decode cX3_extend 58 = .ok (.iload 8, 2) := by decide +kernel
theorem dX3_extend_60 : decode cX3_extend 60 = .ok (.ishr, 1) := by decide +kernel
theorem dX3_extend_61 : decode cX3_extend 61 = .ok (.iconst 1, 1) := by decide +kernel
theorem dX3_extend_62 : decode cX3_extend 62 = .ok (.iand, 1) := by decide +kernel
theorem dX3_extend_63 : decode cX3_extend 63 = .ok (.ifCond .ne 48, 3) := by decide +kernel
theorem dX3_extend_66 : decode cX3_extend 66 = .ok (.aload_n 1, 1) := by decide +kernel
theorem dX3_extend_67 : decode cX3_extend 67 = .ok (.iload_n 3, 1) := by decide +kernel
theorem dX3_extend_68 : decode cX3_extend 68 = .ok (.iload 8, 2) := by decide +kernel
theorem dX3_extend_70 : decode cX3_extend 70 = .ok (.invokevirtual 41, 3) := by decide +kernel
theorem dX3_extend_73 : decode cX3_extend 73 = .ok (.ifCond .eq 38, 3) := by decide +kernel
theorem dX3_extend_76 : decode cX3_extend 76 = .ok (.lload 6, 2) := by decide +kernel
theorem dX3_extend_78 : decode cX3_extend 78 = .ok (.aload_n 1, 1) := by decide +kernel
theorem dX3_extend_79 : decode cX3_extend 79 = .ok (.iload_n 3, 1) := by decide +kernel
theorem dX3_extend_80 : decode cX3_extend 80 = .ok (.iload 8, 2) := by decide +kernel
theorem dX3_extend_82 : decode cX3_extend 82 = .ok (.invokevirtual 47, 3) := by decide +kernel
theorem dX3_extend_85 : decode cX3_extend 85 = .ok (.invokestatic 51, 3) := by decide +kernel
theorem dX3_extend_88 : decode cX3_extend 88 = .ok (.lstore 9, 2) := by decide +kernel
theorem dX3_extend_90 : decode cX3_extend 90 = .ok (.aload_n 0, 1) := by decide +kernel
theorem dX3_extend_91 : decode cX3_extend 91 = .ok (.aload_n 1, 1) := by decide +kernel
theorem dX3_extend_92 : decode cX3_extend 92 = .ok (.iload_n 2, 1) := by decide +kernel
theorem dX3_extend_93 : decode cX3_extend 93 = .ok (.iload 8, 2) := by decide +kernel
theorem dX3_extend_95 : decode cX3_extend 95 = .ok (.iload 4, 2) := by decide +kernel
theorem dX3_extend_97 : decode cX3_extend 97 = .ok (.iconst 1, 1) := by decide +kernel
theorem dX3_extend_98 : decode cX3_extend 98 = .ok (.iload 8, 2) := by decide +kernel
theorem dX3_extend_100 : decode cX3_extend 100 = .ok (.ishl, 1) := by decide +kernel
theorem dX3_extend_101 : decode cX3_extend 101 = .ok (.ior, 1) := by decide +kernel
theorem dX3_extend_102 : decode cX3_extend 102 = .ok (.iload 5, 2) := by decide +kernel
theorem dX3_extend_104 : decode cX3_extend 104 = .ok (.iconst 1, 1) := by decide +kernel
theorem dX3_extend_105 : decode cX3_extend 105 = .ok (.iadd, 1) := by decide +kernel
theorem dX3_extend_106 : decode cX3_extend 106 = .ok (.lload 9, 2) := by decide +kernel
theorem dX3_extend_108 : decode cX3_extend 108 = .ok (.invokevirtual 37, 3) := by decide +kernel
theorem dX3_extend_111 : decode cX3_extend 111 = .ok (.iinc 8 1, 3) := by decide +kernel
theorem dX3_extend_114 : decode cX3_extend 114 = .ok (.goto (-67), 3) := by decide +kernel
theorem dX3_extend_117 : decode cX3_extend 117 = .ok (.return_, 1) := by decide +kernel
theorem dX3_close_0 : decode cX3_close 0 = .ok (.iload_n 1, 1) := by decide +kernel
theorem dX3_close_1 : decode cX3_close 1 = .ok (.aload_n 0, 1) := by decide +kernel
theorem dX3_close_2 : decode cX3_close 2 = .ok (.getfield 15, 3) := by decide +kernel
theorem dX3_close_5 : decode cX3_close 5 = .ok (.arraylength, 1) := by decide +kernel
theorem dX3_close_6 : decode cX3_close 6 = .ok (.if_icmp .ge 23, 3) := by decide +kernel
theorem dX3_close_9 : decode cX3_close 9 = .ok (.lload_n 2, 1) := by decide +kernel
theorem dX3_close_10 : decode cX3_close 10 = .ok (.aload_n 0, 1) := by decide +kernel
theorem dX3_close_11 : decode cX3_close 11 = .ok (.getfield 15, 3) := by decide +kernel
theorem dX3_close_14 : decode cX3_close 14 = .ok (.iload_n 1, 1) := by decide +kernel
theorem dX3_close_15 : decode cX3_close 15 = .ok (.laload, 1) := by decide +kernel
theorem dX3_close_16 : decode cX3_close 16 = .ok (.invokestatic 27, 3) := by decide +kernel
theorem dX3_close_19 : decode cX3_close 19 = .ok (.ifCond .eq 10, 3) := by decide +kernel
theorem dX3_close_22 : decode cX3_close 22 = .ok (.aload_n 0, 1) := by decide +kernel
theorem dX3_close_23 : decode cX3_close 23 = .ok (.getfield 15, 3) := by decide +kernel
theorem dX3_close_26 : decode cX3_close 26 = .ok (.iload_n 1, 1) := by decide +kernel
theorem dX3_close_27 : decode cX3_close 27 = .ok (.lload_n 2, 1) := by decide +kernel
theorem dX3_close_28 : decode cX3_close 28 = .ok (.lastore, 1) := by decide +kernel
theorem dX3_close_29 : decode cX3_close 29 = .ok (.return_, 1) := by decide +kernel
theorem dX4_init_0 : decode cX4_init 0 = .ok (.aload_n 0, 1) := by decide +kernel
theorem dX4_init_1 : decode cX4_init 1 = .ok (.invokespecial 1, 3) := by decide +kernel
theorem dX4_init_4 : decode cX4_init 4 = .ok (.aload_n 0, 1) := by decide +kernel
theorem dX4_init_5 : decode cX4_init 5 = .ok (.new 7, 3) := by decide +kernel
theorem dX4_init_8 : decode cX4_init 8 = .ok (.dup, 1) := by decide +kernel
theorem dX4_init_9 : decode cX4_init 9 = .ok (.invokespecial 9, 3) := by decide +kernel
theorem dX4_init_12 : decode cX4_init 12 = .ok (.putfield 10, 3) := by decide +kernel
theorem dX4_init_15 : decode cX4_init 15 = .ok (.aload_n 0, 1) := by decide +kernel
theorem dX4_init_16 : decode cX4_init 16 = .ok (.new 7, 3) := by decide +kernel
theorem dX4_init_19 : decode cX4_init 19 = .ok (.dup, 1) := by decide +kernel
theorem dX4_init_20 : decode cX4_init 20 = .ok (.invokespecial 9, 3) := by decide +kernel
theorem dX4_init_23 : decode cX4_init 23 = .ok (.putfield 16, 3) := by decide +kernel
theorem dX4_init_26 : decode cX4_init 26 = .ok (.return_, 1) := by decide +kernel
theorem dX4_isAbove_0 : decode cX4_isAbove 0 = .ok (.aload_n 0, 1) := by decide +kernel
theorem dX4_isAbove_1 : decode cX4_isAbove 1 = .ok (.getfield 10, 3) := by decide +kernel
theorem dX4_isAbove_4 : decode cX4_isAbove 4 = .ok (.invokevirtual 19, 3) := by decide +kernel
theorem dX4_isAbove_7 : decode cX4_isAbove 7 = .ok (.aload_n 0, 1) := by decide +kernel
theorem dX4_isAbove_8 : decode cX4_isAbove 8 = .ok (.getfield 10, 3) := by decide +kernel
theorem dX4_isAbove_11 : decode cX4_isAbove 11 = .ok (.lload_n 1, 1) := by decide +kernel
theorem dX4_isAbove_12 : decode cX4_isAbove 12 = .ok (.invokestatic 22, 3) := by decide +kernel
theorem dX4_isAbove_15 : decode cX4_isAbove 15 = .ok (.iload 6, 2) := by decide +kernel
theorem dX4_isAbove_17 : decode cX4_isAbove 17 = .ok (.invokevirtual 28, 3) := by decide +kernel
theorem dX4_isAbove_20 : decode cX4_isAbove 20 = .ok (.aload_n 0, 1) := by decide +kernel
theorem dX4_isAbove_21 : decode cX4_isAbove 21 = .ok (.getfield 10, 3) := by decide +kernel
theorem dX4_isAbove_24 : decode cX4_isAbove 24 = .ok (.lload 4, 2) := by decide +kernel
theorem dX4_isAbove_26 : decode cX4_isAbove 26 = .ok (.invokestatic 32, 3) := by decide +kernel
theorem dX4_isAbove_29 : decode cX4_isAbove 29 = .ok (.iload_n 3, 1) := by decide +kernel
theorem dX4_isAbove_30 : decode cX4_isAbove 30 = .ok (.invokevirtual 28, 3) := by decide +kernel
theorem dX4_isAbove_33 : decode cX4_isAbove 33 = .ok (.aload_n 0, 1) := by decide +kernel
theorem dX4_isAbove_34 : decode cX4_isAbove 34 = .ok (.getfield 16, 3) := by decide +kernel
theorem dX4_isAbove_37 : decode cX4_isAbove 37 = .ok (.invokevirtual 19, 3) := by decide +kernel
theorem dX4_isAbove_40 : decode cX4_isAbove 40 = .ok (.aload_n 0, 1) := by decide +kernel
theorem dX4_isAbove_41 : decode cX4_isAbove 41 = .ok (.getfield 16, 3) := by decide +kernel
theorem dX4_isAbove_44 : decode cX4_isAbove 44 = .ok (.lload 4, 2) := by decide +kernel
theorem dX4_isAbove_46 : decode cX4_isAbove 46 = .ok (.invokestatic 22, 3) := by decide +kernel
theorem dX4_isAbove_49 : decode cX4_isAbove 49 = .ok (.iload_n 3, 1) := by decide +kernel
theorem dX4_isAbove_50 : decode cX4_isAbove 50 = .ok (.invokevirtual 28, 3) := by decide +kernel
theorem dX4_isAbove_53 : decode cX4_isAbove 53 = .ok (.aload_n 0, 1) := by decide +kernel
theorem dX4_isAbove_54 : decode cX4_isAbove 54 = .ok (.getfield 16, 3) := by decide +kernel
theorem dX4_isAbove_57 : decode cX4_isAbove 57 = .ok (.lload_n 1, 1) := by decide +kernel
theorem dX4_isAbove_58 : decode cX4_isAbove 58 = .ok (.invokestatic 32, 3) := by decide +kernel
theorem dX4_isAbove_61 : decode cX4_isAbove 61 = .ok (.iload 6, 2) := by decide +kernel
theorem dX4_isAbove_63 : decode cX4_isAbove 63 = .ok (.invokevirtual 28, 3) := by decide +kernel
theorem dX4_isAbove_66 : decode cX4_isAbove 66 = .ok (.aload_n 0, 1) := by decide +kernel
theorem dX4_isAbove_67 : decode cX4_isAbove 67 = .ok (.getfield 10, 3) := by decide +kernel
theorem dX4_isAbove_70 : decode cX4_isAbove 70 = .ok (.aload_n 0, 1) := by decide +kernel
theorem dX4_isAbove_71 : decode cX4_isAbove 71 = .ok (.getfield 16, 3) := by decide +kernel
theorem dX4_isAbove_74 : decode cX4_isAbove 74 = .ok (.invokevirtual 35, 3) := by decide +kernel
theorem dX4_isAbove_77 : decode cX4_isAbove 77 = .ok (.ireturn, 1) := by decide +kernel
end
section
-- decode rows: X5
theorem dX5_init_0 : decode cX5_init 0 = .ok (.aload_n 0, 1) := by decide +kernel
theorem dX5_init_1 : decode cX5_init 1 = .ok (.invokespecial 1, 3) := by decide +kernel
theorem dX5_init_4 : decode cX5_init 4 = .ok (.aload_n 0, 1) := by decide +kernel
theorem dX5_init_5 : decode cX5_init 5 = .ok (.iload_n 1, 1) := by decide +kernel
theorem dX5_init_6 : decode cX5_init 6 = .ok (.putfield 7, 3) := by decide +kernel
theorem dX5_init_9 : decode cX5_init 9 = .ok (.aload_n 0, 1) := by decide +kernel
theorem dX5_init_10 : decode cX5_init 10 = .ok (.iload_n 1, 1) := by decide +kernel
theorem dX5_init_11 : decode cX5_init 11 = .ok (.iload_n 1, 1) := by decide +kernel
theorem dX5_init_12 : decode cX5_init 12 = .ok (.multianewarray 13 2, 4) := by decide +kernel
theorem dX5_init_16 : decode cX5_init 16 = .ok (.putfield 15, 3) := by decide +kernel
theorem dX5_init_19 : decode cX5_init 19 = .ok (.iconst 0, 1) := by decide +kernel
theorem dX5_init_20 : decode cX5_init 20 = .ok (.istore_n 2, 1) := by decide +kernel
theorem dX5_init_21 : decode cX5_init 21 = .ok (.iload_n 2, 1) := by decide +kernel
theorem dX5_init_22 : decode cX5_init 22 = .ok (.iload_n 1, 1) := by decide +kernel
theorem dX5_init_23 : decode cX5_init 23 = .ok (.if_icmp .ge 19, 3) := by decide +kernel
theorem dX5_init_26 : decode cX5_init 26 = .ok (.aload_n 0, 1) := by decide +kernel
theorem dX5_init_27 : decode cX5_init 27 = .ok (.getfield 15, 3) := by decide +kernel
theorem dX5_init_30 : decode cX5_init 30 = .ok (.iload_n 2, 1) := by decide +kernel
theorem dX5_init_31 : decode cX5_init 31 = .ok (.aaload, 1) := by decide +kernel
theorem dX5_init_32 : decode cX5_init 32 = .ok (.lconst 1, 1) := by decide +kernel
theorem dX5_init_33 : decode cX5_init 33 = .ok (.invokestatic 20, 3) := by decide +kernel
theorem dX5_init_36 : decode cX5_init 36 = .ok (.iinc 2 1, 3) := by decide +kernel
theorem dX5_init_39 : decode cX5_init 39 = .ok (.goto (-18), 3) := by decide +kernel
theorem dX5_init_42 : decode cX5_init 42 = .ok (.return_, 1) := by decide +kernel
theorem dX5_isThing_0 : decode cX5_isThing 0 = .ok (.iload_n 1, 1) := by decide +kernel
theorem dX5_isThing_1 : decode cX5_isThing 1 = .ok (.ifCond .lt 15, 3) := by decide +kernel
theorem dX5_isThing_4 : decode cX5_isThing 4 = .ok (.iload_n 1, 1) := by decide +kernel
theorem dX5_isThing_5 : decode cX5_isThing 5 = .ok (.aload_n 0, 1) := by decide +kernel
theorem dX5_isThing_6 : decode cX5_isThing 6 = .ok (.getfield 7, 3) := by decide +kernel
theorem dX5_isThing_9 : decode cX5_isThing 9 = .ok (.if_icmp .ge 7, 3) := by decide +kernel
theorem dX5_isThing_12 : decode cX5_isThing 12 = .ok (.iconst 1, 1) := by decide +kernel
theorem dX5_isThing_13 : decode cX5_isThing 13 = .ok (.goto 4, 3) := by decide +kernel
theorem dX5_isThing_16 : decode cX5_isThing 16 = .ok (.iconst 0, 1) := by decide +kernel
theorem dX5_isThing_17 : decode cX5_isThing 17 = .ok (.ireturn, 1) := by decide +kernel
theorem dX5_isPair_0 : decode cX5_isPair 0 = .ok (.aload_n 0, 1) := by decide +kernel
theorem dX5_isPair_1 : decode cX5_isPair 1 = .ok (.iload_n 1, 1) := by decide +kernel
theorem dX5_isPair_2 : decode cX5_isPair 2 = .ok (.invokevirtual 26, 3) := by decide +kernel
theorem dX5_isPair_5 : decode cX5_isPair 5 = .ok (.ifCond .eq 20, 3) := by decide +kernel
theorem dX5_isPair_8 : decode cX5_isPair 8 = .ok (.aload_n 0, 1) := by decide +kernel
theorem dX5_isPair_9 : decode cX5_isPair 9 = .ok (.iload_n 2, 1) := by decide +kernel
theorem dX5_isPair_10 : decode cX5_isPair 10 = .ok (.invokevirtual 26, 3) := by decide +kernel
theorem dX5_isPair_13 : decode cX5_isPair 13 = .ok (.ifCond .eq 12, 3) := by decide +kernel
theorem dX5_isPair_16 : decode cX5_isPair 16 = .ok (.iload_n 1, 1) := by decide +kernel
theorem dX5_isPair_17 : decode cX5_isPair 17 = .ok (.iload_n 2, 1) := by decide +kernel
theorem dX5_isPair_18 : decode cX5_isPair 18 = .ok (.if_icmp .eq 7, 3) := by decide +kernel
theorem dX5_isPair_21 : decode cX5_isPair 21 = .ok (.iconst 1, 1) := by decide +kernel
theorem dX5_isPair_22 : decode cX5_isPair 22 = .ok (.goto 4, 3) := by decide +kernel
theorem dX5_isPair_25 : decode cX5_isPair 25 = .ok (.iconst 0, 1) := by decide +kernel
theorem dX5_isPair_26 : decode cX5_isPair 26 = .ok (.ireturn, 1) := by decide +kernel
theorem dX5_holds_0 : decode cX5_holds 0 = .ok (.aload_n 0, 1) := by decide +kernel
theorem dX5_holds_1 : decode cX5_holds 1 = .ok (.iload_n 1, 1) := by decide +kernel
theorem dX5_holds_2 : decode cX5_holds 2 = .ok (.iload_n 2, 1) := by decide +kernel
theorem dX5_holds_3 : decode cX5_holds 3 = .ok (.invokevirtual 30, 3) := by decide +kernel
theorem dX5_holds_6 : decode cX5_holds 6 = .ok (.ifCond .eq 20, 3) := by decide +kernel
theorem dX5_holds_9 : decode cX5_holds 9 = .ok (.aload_n 0, 1) := by decide +kernel
theorem dX5_holds_10 : decode cX5_holds 10 = .ok (.getfield 15, 3) := by decide +kernel
theorem dX5_holds_13 : decode cX5_holds 13 = .ok (.iload_n 1, 1) := by decide +kernel
theorem dX5_holds_14 : decode cX5_holds 14 = .ok (.aaload, 1) := by decide +kernel
theorem dX5_holds_15 : decode cX5_holds 15 = .ok (.iload_n 2, 1) := by decide +kernel
theorem dX5_holds_16 : decode cX5_holds 16 = .ok (.laload, 1) := by decide +kernel
theorem dX5_holds_17 : decode cX5_holds 17 = .ok (.lconst 1, 1) := by decide +kernel
theorem dX5_holds_18 : decode cX5_holds 18 = .ok (.lcmp, 1) := by decide +kernel
theorem dX5_holds_19 : decode cX5_holds 19 = .ok (.ifCond .eq 7, 3) := by decide +kernel
theorem dX5_holds_22 : decode cX5_holds 22 = .ok (.iconst 1, 1) := by decide +kernel
theorem dX5_holds_23 : decode cX5_holds 23 = .ok (.goto 4, 3) := by decide +kernel
theorem dX5_holds_26 : decode cX5_holds 26 = .ok (.iconst 0, 1) := by decide +kernel
theorem dX5_holds_27 : decode cX5_holds 27 = .ok (.ireturn, 1) := by decide +kernel
theorem dX5_isFull_0 : decode cX5_isFull 0 = .ok (.aload_n 0, 1) := by decide +kernel
theorem dX5_isFull_1 : decode cX5_isFull 1 = .ok (.getfield 34, 3) := by decide +kernel
theorem dX5_isFull_4 : decode cX5_isFull 4 = .ok (.aload_n 0, 1) := by decide +kernel
theorem dX5_isFull_5 : decode cX5_isFull 5 = .ok (.getfield 7, 3) := by decide +kernel
theorem dX5_isFull_8 : decode cX5_isFull 8 = .ok (.aload_n 0, 1) := by decide +kernel
theorem dX5_isFull_9 : decode cX5_isFull 9 = .ok (.getfield 7, 3) := by decide +kernel
theorem dX5_isFull_12 : decode cX5_isFull 12 = .ok (.iconst 1, 1) := by decide +kernel
theorem dX5_isFull_13 : decode cX5_isFull 13 = .ok (.isub, 1) := by decide +kernel
theorem dX5_isFull_14 : decode cX5_isFull 14 = .ok (.imul, 1) := by decide +kernel
theorem dX5_isFull_15 : decode cX5_isFull 15 = .ok (.iconst 2, 1) := by decide +kernel
theorem dX5_isFull_16 : decode cX5_isFull 16 = .ok (.idiv, 1) := by decide +kernel
theorem dX5_isFull_17 : decode cX5_isFull 17 = .ok (.if_icmp .ne 7, 3) := by decide +kernel
theorem dX5_isFull_20 : decode cX5_isFull 20 = .ok (.iconst 1, 1) := by decide +kernel
theorem dX5_isFull_21 : decode cX5_isFull 21 = .ok (.goto 4, 3) := by decide +kernel
theorem dX5_isFull_24 : decode cX5_isFull 24 = .ok (.iconst 0, 1) := by decide +kernel
theorem dX5_isFull_25 : decode cX5_isFull 25 = .ok (.ireturn, 1) := by decide +kernel
theorem dX5_low_0 : decode cX5_low 0 = .ok (.aload_n 0, 1) := by decide +kernel
theorem dX5_low_1 : decode cX5_low 1 = .ok (.iload_n 1, 1) := by decide +kernel
theorem dX5_low_2 : decode cX5_low 2 = .ok (.iload_n 2, 1) := by decide +kernel
theorem dX5_low_3 : decode cX5_low 3 = .ok (.invokevirtual 30, 3) := by decide +kernel
theorem dX5_low_6 : decode cX5_low 6 = .ok (.ifCond .eq 14, 3) := by decide +kernel
theorem dX5_low_9 : decode cX5_low 9 = .ok (.aload_n 0, 1) := by decide +kernel
theorem dX5_low_10 : decode cX5_low 10 = .ok (.getfield 15, 3) := by decide +kernel
theorem dX5_low_13 : decode cX5_low 13 = .ok (.iload_n 1, 1) := by decide +kernel
theorem dX5_low_14 : decode cX5_low 14 = .ok (.aaload, 1) := by decide +kernel
theorem dX5_low_15 : decode cX5_low 15 = .ok (.iload_n 2, 1) := by decide +kernel
theorem dX5_low_16 : decode cX5_low 16 = .ok (.laload, 1) := by decide +kernel
theorem dX5_low_17 : decode cX5_low 17 = .ok (.goto 4, 3) := by decide +kernel
theorem dX5_low_20 : decode cX5_low 20 = .ok (.lconst 1, 1) := by decide +kernel
theorem dX5_low_21 : decode cX5_low 21 = .ok (.lreturn, 1) := by decide +kernel
theorem dX5_put_0 : decode cX5_put 0 = .ok (.aload_n 0, 1) := by decide +kernel
theorem dX5_put_1 : decode cX5_put 1 = .ok (.iload_n 1, 1) := by decide +kernel
theorem dX5_put_2 : decode cX5_put 2 = .ok (.iload_n 2, 1) := by decide +kernel
theorem dX5_put_3 : decode cX5_put 3 = .ok (.invokevirtual 30, 3) := by decide +kernel
theorem dX5_put_6 : decode cX5_put 6 = .ok (.ifCond .ne 4, 3) := by decide +kernel
theorem dX5_put_9 : decode cX5_put 9 = .ok (.return_, 1) := by decide +kernel
theorem dX5_put_10 : decode cX5_put 10 = .ok (.aload_n 0, 1) := by decide +kernel
theorem dX5_put_11 : decode cX5_put 11 = .ok (.iload_n 1, 1) := by decide +kernel
theorem dX5_put_12 : decode cX5_put 12 = .ok (.iload_n 2, 1) := by decide +kernel
theorem dX5_put_13 : decode cX5_put 13 = .ok (.invokevirtual 37, 3) := by decide +kernel
theorem dX5_put_16 : decode cX5_put 16 = .ok (.ifCond .ne 13, 3) := by decide +kernel
theorem dX5_put_19 : decode cX5_put 19 = .ok (.aload_n 0, 1) := by decide +kernel
theorem dX5_put_20 : decode cX5_put 20 = .ok (.dup, 1) := by decide +kernel
theorem dX5_put_21 : decode cX5_put 21 = .ok (.getfield 34, 3) := by decide +kernel
theorem dX5_put_24 : decode cX5_put 24 = .ok (.iconst 1, 1) := by decide +kernel
theorem dX5_put_25 : decode cX5_put 25 = .ok (.iadd, 1) := by decide +kernel
theorem dX5_put_26 : decode cX5_put 26 = .ok (.putfield 34, 3) := by decide +kernel
theorem dX5_put_29 : decode cX5_put 29 = .ok (.aload_n 0, 1) := by decide +kernel
theorem dX5_put_30 : decode cX5_put 30 = .ok (.getfield 15, 3) := by decide +kernel
theorem dX5_put_33 : decode cX5_put 33 = .ok (.iload_n 1, 1) := by decide +kernel
theorem dX5_put_34 : decode cX5_put 34 = .ok (.aaload, 1) := by decide +kernel
theorem dX5_put_35 : decode cX5_put 35 = .ok (.iload_n 2, 1) := by decide +kernel
theorem dX5_put_36 : decode cX5_put 36 = .ok (.lload_n 3, 1) := by decide +kernel
theorem dX5_put_37 : decode cX5_put 37 = .ok (.lastore, 1) := by decide +kernel
theorem dX5_put_38 : decode cX5_put 38 = .ok (.aload_n 0, 1) := by decide +kernel
theorem dX5_put_39 : decode cX5_put 39 = .ok (.getfield 15, 3) := by decide +kernel
theorem dX5_put_42 : decode cX5_put 42 = .ok (.iload_n 2, 1) := by decide +kernel
theorem dX5_put_43 : decode cX5_put 43 = .ok (.aaload, 1) := by decide +kernel
theorem dX5_put_44 : decode cX5_put 44 = .ok (.iload_n 1, 1) := by decide +kernel
theorem dX5_put_45 : decode cX5_put 45 = .ok (.lload 5, 2) := by decide +kernel
theorem dX5_put_47 : decode cX5_put 47 = .ok (.invokestatic 40, 3) := by decide +kernel
theorem dX5_put_50 : decode cX5_put 50 = .ok (.lastore, 1) := by decide +kernel
theorem dX5_put_51 : decode cX5_put 51 = .ok (.return_, 1) := by decide +kernel
theorem dX5_drop_0 : decode cX5_drop 0 = .ok (.aload_n 0, 1) := by decide +kernel
theorem dX5_drop_1 : decode cX5_drop 1 = .ok (.iload_n 1, 1) := by decide +kernel
theorem dX5_drop_2 : decode cX5_drop 2 = .ok (.iload_n 2, 1) := by decide +kernel
theorem dX5_drop_3 : decode cX5_drop 3 = .ok (.invokevirtual 37, 3) := by decide +kernel
theorem dX5_drop_6 : decode cX5_drop 6 = .ok (.ifCond .ne 5, 3) := by decide +kernel
theorem dX5_drop_9 : decode cX5_drop 9 = .ok (.iconst 0, 1) := by decide +kernel
theorem dX5_drop_10 : decode cX5_drop 10 = .ok (.ireturn, 1) := by decide +kernel
theorem dX5_drop_11 : decode cX5_drop 11 = .ok (.aload_n 0, 1) := by decide +kernel
theorem dX5_drop_12 : decode cX5_drop 12 = .ok (.dup, 1) := by decide +kernel
theorem dX5_drop_13 : decode cX5_drop 13 = .ok (.getfield 34, 3) := by decide +kernel
theorem dX5_drop_16 : decode cX5_drop 16 = .ok (.iconst 1, 1) := by decide +kernel
theorem dX5_drop_17 : decode cX5_drop 17 = .ok (.isub, 1) := by decide +kernel
theorem dX5_drop_18 : decode cX5_drop 18 = .ok (.putfield 34, 3) := by decide +kernel
theorem dX5_drop_21 : decode cX5_drop 21 = .ok (.aload_n 0, 1) := by decide +kernel
theorem dX5_drop_22 : decode cX5_drop 22 = .ok (.getfield 15, 3) := by decide +kernel
theorem dX5_drop_25 : decode cX5_drop 25 = .ok (.iload_n 1, 1) := by decide +kernel
theorem dX5_drop_26 : decode cX5_drop 26 = .ok (.aaload, 1) := by decide +kernel
theorem dX5_drop_27 : decode cX5_drop 27 = .ok (.iload_n 2, 1) := by decide +kernel
theorem dX5_drop_28 : decode cX5_drop 28 = .ok (.lconst 1, 1) := by decide +kernel
theorem dX5_drop_29 : decode cX5_drop 29 = .ok (.lastore, 1) := by decide +kernel
theorem dX5_drop_30 : decode cX5_drop 30 = .ok (.aload_n 0, 1) := by decide +kernel
theorem dX5_drop_31 : decode cX5_drop 31 = .ok (.getfield 15, 3) := by decide +kernel
theorem dX5_drop_34 : decode cX5_drop 34 = .ok (.iload_n 2, 1) := by decide +kernel
theorem dX5_drop_35 : decode cX5_drop 35 = .ok (.aaload, 1) := by decide +kernel
theorem dX5_drop_36 : decode cX5_drop 36 = .ok (.iload_n 1, 1) := by decide +kernel
theorem dX5_drop_37 : decode cX5_drop 37 = .ok (.lconst 1, 1) := by decide +kernel
theorem dX5_drop_38 : decode cX5_drop 38 = .ok (.lastore, 1) := by decide +kernel
theorem dX5_drop_39 : decode cX5_drop 39 = .ok (.iconst 1, 1) := by decide +kernel
theorem dX5_drop_40 : decode cX5_drop 40 = .ok (.ireturn, 1) := by decide +kernel
end
section
-- decode rows: X6 X7
theorem dX6_init_0 : decode cX6_init 0 = .ok (.aload_n 0, 1) := by decide +kernel
theorem dX6_init_1 : decode cX6_init 1 = .ok (.invokespecial 1, 3) := by decide +kernel
theorem dX6_init_4 : decode cX6_init 4 = .ok (.aload_n 0, 1) := by decide +kernel
theorem dX6_init_5 : decode cX6_init 5 = .ok (.iload_n 1, 1) := by decide +kernel
theorem dX6_init_6 : decode cX6_init 6 = .ok (.iconst 1, 1) := by decide +kernel
theorem dX6_init_7 : decode cX6_init 7 = .ok (.isub, 1) := by decide +kernel
theorem dX6_init_8 : decode cX6_init 8 = .ok (.putfield 7, 3) := by decide +kernel
theorem dX6_init_11 : decode cX6_init 11 = .ok (.aload_n 0, 1) := by decide +kernel
theorem dX6_init_12 : decode cX6_init 12 = .ok (.iload_n 1, 1) := by decide +kernel
theorem dX6_init_13 : decode cX6_init 13 = .ok (.iconst 1, 1) := by decide +kernel
theorem dX6_init_14 : decode cX6_init 14 = .ok (.isub, 1) := by decide +kernel
theorem dX6_init_15 : decode cX6_init 15 = .ok (.iload_n 1, 1) := by decide +kernel
theorem dX6_init_16 : decode cX6_init 16 = .ok (.iconst 1, 1) := by decide +kernel
theorem dX6_init_17 : decode cX6_init 17 = .ok (.isub, 1) := by decide +kernel
theorem dX6_init_18 : decode cX6_init 18 = .ok (.multianewarray 13 2, 4) := by decide +kernel
theorem dX6_init_22 : decode cX6_init 22 = .ok (.putfield 15, 3) := by decide +kernel
theorem dX6_init_25 : decode cX6_init 25 = .ok (.return_, 1) := by decide +kernel
theorem dX6_of_0 : decode cX6_of 0 = .ok (.aload_n 0, 1) := by decide +kernel
theorem dX6_of_1 : decode cX6_of 1 = .ok (.aload_n 1, 1) := by decide +kernel
theorem dX6_of_2 : decode cX6_of 2 = .ok (.invokevirtual 18, 3) := by decide +kernel
theorem dX6_of_5 : decode cX6_of 5 = .ok (.iconst 1, 1) := by decide +kernel
theorem dX6_of_6 : decode cX6_of 6 = .ok (.istore_n 2, 1) := by decide +kernel
theorem dX6_of_7 : decode cX6_of 7 = .ok (.iconst 0, 1) := by decide +kernel
theorem dX6_of_8 : decode cX6_of 8 = .ok (.istore_n 3, 1) := by decide +kernel
theorem dX6_of_9 : decode cX6_of 9 = .ok (.iload_n 3, 1) := by decide +kernel
theorem dX6_of_10 : decode cX6_of 10 = .ok (.aload_n 0, 1) := by decide +kernel
theorem dX6_of_11 : decode cX6_of 11 = .ok (.getfield 7, 3) := by decide +kernel
theorem dX6_of_14 : decode cX6_of 14 = .ok (.iconst 1, 1) := by decide +kernel
theorem dX6_of_15 : decode cX6_of 15 = .ok (.isub, 1) := by decide +kernel
theorem dX6_of_16 : decode cX6_of 16 = .ok (.if_icmp .ge 37, 3) := by decide +kernel
theorem dX6_of_19 : decode cX6_of 19 = .ok (.aload_n 0, 1) := by decide +kernel
theorem dX6_of_20 : decode cX6_of 20 = .ok (.getfield 15, 3) := by decide +kernel
theorem dX6_of_23 : decode cX6_of 23 = .ok (.iload_n 3, 1) := by decide +kernel
theorem dX6_of_24 : decode cX6_of 24 = .ok (.aaload, 1) := by decide +kernel
theorem dX6_of_25 : decode cX6_of 25 = .ok (.iload_n 3, 1) := by decide +kernel
theorem dX6_of_26 : decode cX6_of 26 = .ok (.iaload, 1) := by decide +kernel
theorem dX6_of_27 : decode cX6_of 27 = .ok (.istore 4, 2) := by decide +kernel
theorem dX6_of_29 : decode cX6_of 29 = .ok (.iload 4, 2) := by decide +kernel
theorem dX6_of_31 : decode cX6_of 31 = .ok (.ifCond .ne 5, 3) := by decide +kernel
theorem dX6_of_34 : decode cX6_of 34 = .ok (.iconst 0, 1) := by decide +kernel
theorem dX6_of_35 : decode cX6_of 35 = .ok (.ireturn, 1) := by decide +kernel
theorem dX6_of_36 : decode cX6_of 36 = .ok (.aload_n 0, 1) := by decide +kernel
theorem dX6_of_37 : decode cX6_of 37 = .ok (.iload_n 3, 1) := by decide +kernel
theorem dX6_of_38 : decode cX6_of 38 = .ok (.iload 4, 2) := by decide +kernel
theorem dX6_of_40 : decode cX6_of 40 = .ok (.iload_n 2, 1) := by decide +kernel
theorem dX6_of_41 : decode cX6_of 41 = .ok (.invokevirtual 22, 3) := by decide +kernel
theorem dX6_of_44 : decode cX6_of 44 = .ok (.iload 4, 2) := by decide +kernel
theorem dX6_of_46 : decode cX6_of 46 = .ok (.istore_n 2, 1) := by decide +kernel
theorem dX6_of_47 : decode cX6_of 47 = .ok (.iinc 3 1, 3) := by decide +kernel
theorem dX6_of_50 : decode cX6_of 50 = .ok (.goto (-41), 3) := by decide +kernel
theorem dX6_of_53 : decode cX6_of 53 = .ok (.aload_n 0, 1) := by decide +kernel
theorem dX6_of_54 : decode cX6_of 54 = .ok (.getfield 15, 3) := by decide +kernel
theorem dX6_of_57 : decode cX6_of 57 = .ok (.aload_n 0, 1) := by decide +kernel
theorem dX6_of_58 : decode cX6_of 58 = .ok (.getfield 7, 3) := by decide +kernel
theorem dX6_of_61 : decode cX6_of 61 = .ok (.iconst 1, 1) := by decide +kernel
theorem dX6_of_62 : decode cX6_of 62 = .ok (.isub, 1) := by decide +kernel
theorem dX6_of_63 : decode cX6_of 63 = .ok (.aaload, 1) := by decide +kernel
theorem dX6_of_64 : decode cX6_of 64 = .ok (.aload_n 0, 1) := by decide +kernel
theorem dX6_of_65 : decode cX6_of 65 = .ok (.getfield 7, 3) := by decide +kernel
theorem dX6_of_68 : decode cX6_of 68 = .ok (.iconst 1, 1) := by decide +kernel
theorem dX6_of_69 : decode cX6_of 69 = .ok (.isub, 1) := by decide +kernel
theorem dX6_of_70 : decode cX6_of 70 = .ok (.iaload, 1) := by decide +kernel
theorem dX6_of_71 : decode cX6_of 71 = .ok (.ireturn, 1) := by decide +kernel
theorem dX6_fill_0 : decode cX6_fill 0 = .ok (.iconst 0, 1) := by decide +kernel
theorem dX6_fill_1 : decode cX6_fill 1 = .ok (.istore_n 2, 1) := by decide +kernel
theorem dX6_fill_2 : decode cX6_fill 2 = .ok (.iload_n 2, 1) := by decide +kernel
theorem dX6_fill_3 : decode cX6_fill 3 = .ok (.aload_n 0, 1) := by decide +kernel
theorem dX6_fill_4 : decode cX6_fill 4 = .ok (.getfield 7, 3) := by decide +kernel
theorem dX6_fill_7 : decode cX6_fill 7 = .ok (.if_icmp .ge 95, 3) := by decide +kernel
theorem dX6_fill_10 : decode cX6_fill 10 = .ok (.aload_n 1, 1) := by decide +kernel
theorem dX6_fill_11 : decode cX6_fill 11 = .ok (.iload_n 2, 1) := by decide +kernel
theorem dX6_fill_12 : decode cX6_fill 12 = .ok (.aload_n 0, 1) := by decide +kernel
theorem dX6_fill_13 : decode cX6_fill 13 = .ok (.getfield 7, 3) := by decide +kernel
theorem dX6_fill_16 : decode cX6_fill 16 = .ok (.invokevirtual 26, 3) := by decide +kernel
theorem dX6_fill_19 : decode cX6_fill 19 = .ok (.ifCond .eq 7, 3) := by decide +kernel
theorem dX6_fill_22 : decode cX6_fill 22 = .ok (.iconst 1, 1) := by decide +kernel
theorem dX6_fill_23 : decode cX6_fill 23 = .ok (.goto 4, 3) := by decide +kernel
theorem dX6_fill_26 : decode cX6_fill 26 = .ok (.iconst 0, 1) := by decide +kernel
theorem dX6_fill_27 : decode cX6_fill 27 = .ok (.istore_n 3, 1) := by decide +kernel
theorem dX6_fill_28 : decode cX6_fill 28 = .ok (.iconst 0, 1) := by decide +kernel
theorem dX6_fill_29 : decode cX6_fill 29 = .ok (.istore 4, 2) := by decide +kernel
theorem dX6_fill_31 : decode cX6_fill 31 = .ok (.iload 4, 2) := by decide +kernel
theorem dX6_fill_33 : decode cX6_fill 33 = .ok (.aload_n 0, 1) := by decide +kernel
theorem dX6_fill_34 : decode cX6_fill 34 = .ok (.getfield 7, 3) := by decide +kernel
theorem dX6_fill_37 : decode cX6_fill 37 = .ok (.if_icmp .ge 50, 3) := by decide +kernel
theorem dX6_fill_40 : decode cX6_fill 40 = .ok (.aload_n 1, 1) := by decide +kernel
theorem dX6_fill_41 : decode cX6_fill 41 = .ok (.iload_n 2, 1) := by decide +kernel
theorem dX6_fill_42 : decode cX6_fill 42 = .ok (.iload 4, 2) := by decide +kernel
theorem dX6_fill_44 : decode cX6_fill 44 = .ok (.invokevirtual 26, 3) := by decide +kernel
theorem dX6_fill_47 : decode cX6_fill 47 = .ok (.istore 5, 2) := by decide +kernel
theorem dX6_fill_49 : decode cX6_fill 49 = .ok (.aload_n 0, 1) := by decide +kernel
theorem dX6_fill_50 : decode cX6_fill 50 = .ok (.getfield 15, 3) := by decide +kernel
theorem dX6_fill_53 : decode cX6_fill 53 = .ok (.iload_n 2, 1) := by decide +kernel
theorem dX6_fill_54 : decode cX6_fill 54 = .ok (.aaload, 1) := by decide +kernel
theorem dX6_fill_55 : decode cX6_fill 55 = .ok (.iload 4, 2) := by decide +kernel
theorem dX6_fill_57 : decode cX6_fill 57 = .ok (.iload 5, 2) := by decide +kernel
theorem dX6_fill_59 : decode cX6_fill 59 = .ok (.ifCond .eq 7, 3) := by decide +kernel
theorem dX6_fill_62 : decode cX6_fill 62 = .ok (.iconst (-1), 1) := by decide +kernel
theorem dX6_fill_63 : decode cX6_fill 63 = .ok (.goto 4, 3) := by decide +kernel
theorem dX6_fill_66 : decode cX6_fill 66 = .ok (.iconst 0, 1) := by decide +kernel
theorem dX6_fill_67 : decode cX6_fill 67 = .ok (.iastore, 1) := by decide +kernel
theorem dX6_fill_68 : decode cX6_fill 68 = .ok (.iload_n 3, 1) := by decide +kernel
theorem dX6_fill_69 : decode cX6_fill 69 = .ok (.iload 5, 2) := by decide +kernel
theorem dX6_fill_71 : decode cX6_fill 71 = .ok (.ifCond .eq 7, 3) := by decide +kernel
theorem dX6_fill_74 : decode cX6_fill 74 = .ok (.iconst 1, 1) := by decide +kernel
theorem dX6_fill_75 : decode cX6_fill 75 = .ok (.goto 4, 3) := by decide +kernel
theorem dX6_fill_78 : decode cX6_fill 78 = .ok (.iconst 0, 1) := by decide +kernel
theorem dX6_fill_79 : decode cX6_fill 79 = .ok (.iadd, 1) := by decide +kernel
theorem dX6_fill_80 : decode cX6_fill 80 = .ok (.istore_n 3, 1) := by decide +kernel
theorem dX6_fill_81 : decode cX6_fill 81 = .ok (.iinc 4 1, 3) := by decide +kernel
theorem dX6_fill_84 : decode cX6_fill 84 = .ok (.goto (-53), 3) := by decide +kernel
theorem dX6_fill_87 : decode cX6_fill 87 = .ok (.aload_n 0, 1) := by decide +kernel
theorem dX6_fill_88 : decode cX6_fill 88 = .ok (.getfield 15, 3) := by decide +kernel
theorem dX6_fill_91 : decode cX6_fill 91 = .ok (.iload_n 2, 1) := by decide +kernel
theorem dX6_fill_92 : decode cX6_fill 92 = .ok (.aaload, 1) := by decide +kernel
theorem dX6_fill_93 : decode cX6_fill 93 = .ok (.iload_n 2, 1) := by decide +kernel
theorem dX6_fill_94 : decode cX6_fill 94 = .ok (.iload_n 3, 1) := by decide +kernel
theorem dX6_fill_95 : decode cX6_fill 95 = .ok (.iastore, 1) := by decide +kernel
theorem dX6_fill_96 : decode cX6_fill 96 = .ok (.iinc 2 1, 3) := by decide +kernel
theorem dX6_fill_99 : decode cX6_fill 99 = .ok (.goto (-97), 3) := by decide +kernel
theorem dX6_fill_102 : decode cX6_fill 102 = .ok (.return_, 1) := by decide +kernel
theorem dX6_eliminate_0 : decode cX6_eliminate 0 = .ok (.iload_n 3, 1) := by decide +kernel
theorem dX6_eliminate_1 : decode cX6_eliminate 1 = .ok (.ifCond .ne 4, 3) := by decide +kernel
theorem dX6_eliminate_4 : decode cX6_eliminate 4 = .ok (.return_, 1) := by decide +kernel
theorem dX6_eliminate_5 : decode cX6_eliminate 5 = .ok (.iload_n 1, 1) := by decide +kernel
theorem dX6_eliminate_6 : decode cX6_eliminate 6 = .ok (.iconst 1, 1) := by decide +kernel
theorem dX6_eliminate_7 : decode cX6_eliminate 7 = .ok (.iadd, 1) := by decide +kernel
theorem dX6_eliminate_8 : decode cX6_eliminate 8 = .ok (.istore 4, 2) := by decide +kernel
theorem dX6_eliminate_10 : decode cX6_eliminate 10 = .ok (.iload 4, 2) := by decide +kernel
theorem dX6_eliminate_12 : decode cX6_eliminate 12 = .ok (.aload_n 0, 1) := by decide +kernel
theorem dX6_eliminate_13 : decode cX6_eliminate 13 = .ok (.getfield 7, 3) := by decide +kernel
theorem dX6_eliminate_16 : decode cX6_eliminate 16 = .ok (.if_icmp .ge 77, 3) := by decide +kernel
theorem dX6_eliminate_19 : decode cX6_eliminate 19 = .ok (.iload_n 1, 1) := by decide +kernel
theorem dX6_eliminate_20 : decode cX6_eliminate 20 = .ok (.iconst 1, 1) := by decide +kernel
theorem dX6_eliminate_21 : decode cX6_eliminate 21 = .ok (.iadd, 1) := by decide +kernel
theorem dX6_eliminate_22 : decode cX6_eliminate 22 = .ok (.istore 5, 2) := by decide +kernel
theorem dX6_eliminate_24 : decode cX6_eliminate 24 = .ok (.iload 5, 2) := by decide +kernel
theorem dX6_eliminate_26 : decode cX6_eliminate 26 = .ok (.aload_n 0, 1) := by decide +kernel
theorem dX6_eliminate_27 : decode cX6_eliminate 27 = .ok (.getfield 7, 3) := by decide +kernel
theorem dX6_eliminate_30 : decode cX6_eliminate 30 = .ok (.if_icmp .ge 57, 3) := by decide +kernel
theorem dX6_eliminate_33 : decode cX6_eliminate 33 = .ok (.aload_n 0, 1) := by decide +kernel
theorem dX6_eliminate_34 : decode cX6_eliminate 34 = .ok (.getfield 15, 3) := by decide +kernel
theorem dX6_eliminate_37 : decode cX6_eliminate 37 = .ok (.iload 4, 2) := by decide +kernel
theorem dX6_eliminate_39 : decode cX6_eliminate 39 = .ok (.aaload, 1) := by decide +kernel
theorem dX6_eliminate_40 : decode cX6_eliminate 40 = .ok (.iload 5, 2) := by decide +kernel
theorem dX6_eliminate_42 : decode cX6_eliminate 42 = .ok (.iaload, 1) := by decide +kernel
theorem dX6_eliminate_43 : decode cX6_eliminate 43 = .ok (.iload_n 2, 1) := by decide +kernel
theorem dX6_eliminate_44 : decode cX6_eliminate 44 = .ok (.imul, 1) := by decide +kernel
theorem dX6_eliminate_45 : decode cX6_eliminate 45 = .ok (.aload_n 0, 1) := by decide +kernel
theorem dX6_eliminate_46 : decode cX6_eliminate 46 = .ok (.getfield 15, 3) := by decide +kernel
theorem dX6_eliminate_49 : decode cX6_eliminate 49 = .ok (.iload 4, 2) := by decide +kernel
theorem dX6_eliminate_51 : decode cX6_eliminate 51 = .ok (.aaload, 1) := by decide +kernel
theorem dX6_eliminate_52 : decode cX6_eliminate 52 = .ok (.iload_n 1, 1) := by decide +kernel
theorem dX6_eliminate_53 : decode cX6_eliminate 53 = .ok (.iaload, 1) := by decide +kernel
theorem dX6_eliminate_54 : decode cX6_eliminate 54 = .ok (.aload_n 0, 1) := by decide +kernel
theorem dX6_eliminate_55 : decode cX6_eliminate 55 = .ok (.getfield 15, 3) := by decide +kernel
theorem dX6_eliminate_58 : decode cX6_eliminate 58 = .ok (.iload_n 1, 1) := by decide +kernel
theorem dX6_eliminate_59 : decode cX6_eliminate 59 = .ok (.aaload, 1) := by decide +kernel
theorem dX6_eliminate_60 : decode cX6_eliminate 60 = .ok (.iload 5, 2) := by decide +kernel
theorem dX6_eliminate_62 : decode cX6_eliminate 62 = .ok (.iaload, 1) := by decide +kernel
theorem dX6_eliminate_63 : decode cX6_eliminate 63 = .ok (.imul, 1) := by decide +kernel
theorem dX6_eliminate_64 : decode cX6_eliminate 64 = .ok (.isub, 1) := by decide +kernel
theorem dX6_eliminate_65 : decode cX6_eliminate 65 = .ok (.istore 6, 2) := by decide +kernel
theorem dX6_eliminate_67 : decode cX6_eliminate 67 = .ok (.aload_n 0, 1) := by decide +kernel
theorem dX6_eliminate_68 : decode cX6_eliminate 68 = .ok (.getfield 15, 3) := by decide +kernel
theorem dX6_eliminate_71 : decode cX6_eliminate 71 = .ok (.iload 4, 2) := by decide +kernel
theorem dX6_eliminate_73 : decode cX6_eliminate 73 = .ok (.aaload, 1) := by decide +kernel
theorem dX6_eliminate_74 : decode cX6_eliminate 74 = .ok (.iload 5, 2) := by decide +kernel
theorem dX6_eliminate_76 : decode cX6_eliminate 76 = .ok (.iload 6, 2) := by decide +kernel
theorem dX6_eliminate_78 : decode cX6_eliminate 78 = .ok (.iload_n 3, 1) := by decide +kernel
theorem dX6_eliminate_79 : decode cX6_eliminate 79 = .ok (.idiv, 1) := by decide +kernel
theorem dX6_eliminate_80 : decode cX6_eliminate 80 = .ok (.iastore, 1) := by decide +kernel
theorem dX6_eliminate_81 : decode cX6_eliminate 81 = .ok (.iinc 5 1, 3) := by decide +kernel
theorem dX6_eliminate_84 : decode cX6_eliminate 84 = .ok (.goto (-60), 3) := by decide +kernel
theorem dX6_eliminate_87 : decode cX6_eliminate 87 = .ok (.iinc 4 1, 3) := by decide +kernel
theorem dX6_eliminate_90 : decode cX6_eliminate 90 = .ok (.goto (-80), 3) := by decide +kernel
theorem dX6_eliminate_93 : decode cX6_eliminate 93 = .ok (.return_, 1) := by decide +kernel
theorem dX7_init_0 : decode cX7_init 0 = .ok (.aload_n 0, 1) := by decide +kernel
theorem dX7_init_1 : decode cX7_init 1 = .ok (.invokespecial 1, 3) := by decide +kernel
theorem dX7_init_4 : decode cX7_init 4 = .ok (.aload_n 0, 1) := by decide +kernel
theorem dX7_init_5 : decode cX7_init 5 = .ok (.iload_n 1, 1) := by decide +kernel
theorem dX7_init_6 : decode cX7_init 6 = .ok (.putfield 7, 3) := by decide +kernel
theorem dX7_init_9 : decode cX7_init 9 = .ok (.return_, 1) := by decide +kernel
theorem dX7_find_0 : decode cX7_find 0 = .ok (.aload_n 0, 1) := by decide +kernel
theorem dX7_find_1 : decode cX7_find 1 = .ok (.lconst 1, 1) := by decide +kernel
theorem dX7_find_2 : decode cX7_find 2 = .ok (.putfield 15, 3) := by decide +kernel
theorem dX7_find_5 : decode cX7_find 5 = .ok (.iconst 0, 1) := by decide +kernel
theorem dX7_find_6 : decode cX7_find 6 = .ok (.istore_n 2, 1) := by decide +kernel
theorem dX7_find_7 : decode cX7_find 7 = .ok (.iload_n 2, 1) := by decide +kernel
theorem dX7_find_8 : decode cX7_find 8 = .ok (.aload_n 0, 1) := by decide +kernel
theorem dX7_find_9 : decode cX7_find 9 = .ok (.getfield 7, 3) := by decide +kernel
theorem dX7_find_12 : decode cX7_find 12 = .ok (.if_icmp .ge 56, 3) := by decide +kernel
theorem dX7_find_15 : decode cX7_find 15 = .ok (.iload_n 2, 1) := by decide +kernel
theorem dX7_find_16 : decode cX7_find 16 = .ok (.iconst 1, 1) := by decide +kernel
theorem dX7_find_17 : decode cX7_find 17 = .ok (.iadd, 1) := by decide +kernel
theorem dX7_find_18 : decode cX7_find 18 = .ok (.istore_n 3, 1) := by decide +kernel
theorem dX7_find_19 : decode cX7_find 19 = .ok (.iload_n 3, 1) := by decide +kernel
theorem dX7_find_20 : decode cX7_find 20 = .ok (.aload_n 0, 1) := by decide +kernel
theorem dX7_find_21 : decode cX7_find 21 = .ok (.getfield 7, 3) := by decide +kernel
theorem dX7_find_24 : decode cX7_find 24 = .ok (.if_icmp .ge 38, 3) := by decide +kernel
theorem dX7_find_27 : decode cX7_find 27 = .ok (.iload_n 3, 1) := by decide +kernel
theorem dX7_find_28 : decode cX7_find 28 = .ok (.iconst 1, 1) := by decide +kernel
theorem dX7_find_29 : decode cX7_find 29 = .ok (.iadd, 1) := by decide +kernel
theorem dX7_find_30 : decode cX7_find 30 = .ok (.istore 4, 2) := by decide +kernel
theorem dX7_find_32 : decode cX7_find 32 = .ok (.iload 4, 2) := by decide +kernel
theorem dX7_find_34 : decode cX7_find 34 = .ok (.aload_n 0, 1) := by decide +kernel
theorem dX7_find_35 : decode cX7_find 35 = .ok (.getfield 7, 3) := by decide +kernel
theorem dX7_find_38 : decode cX7_find 38 = .ok (.if_icmp .ge 18, 3) := by decide +kernel
theorem dX7_find_41 : decode cX7_find 41 = .ok (.aload_n 0, 1) := by decide +kernel
theorem dX7_find_42 : decode cX7_find 42 = .ok (.aload_n 1, 1) := by decide +kernel
theorem dX7_find_43 : decode cX7_find 43 = .ok (.iload_n 2, 1) := by decide +kernel
theorem dX7_find_44 : decode cX7_find 44 = .ok (.iload_n 3, 1) := by decide +kernel
theorem dX7_find_45 : decode cX7_find 45 = .ok (.iload 4, 2) := by decide +kernel
theorem dX7_find_47 : decode cX7_find 47 = .ok (.invokevirtual 19, 3) := by decide +kernel
theorem dX7_find_50 : decode cX7_find 50 = .ok (.iinc 4 1, 3) := by decide +kernel
theorem dX7_find_53 : decode cX7_find 53 = .ok (.goto (-21), 3) := by decide +kernel
theorem dX7_find_56 : decode cX7_find 56 = .ok (.iinc 3 1, 3) := by decide +kernel
theorem dX7_find_59 : decode cX7_find 59 = .ok (.goto (-40), 3) := by decide +kernel
theorem dX7_find_62 : decode cX7_find 62 = .ok (.iinc 2 1, 3) := by decide +kernel
theorem dX7_find_65 : decode cX7_find 65 = .ok (.goto (-58), 3) := by decide +kernel
theorem dX7_find_68 : decode cX7_find 68 = .ok (.return_, 1) := by decide +kernel
theorem dX7_compare_0 : decode cX7_compare 0 = .ok (.aload_n 1, 1) := by decide +kernel
theorem dX7_compare_1 : decode cX7_compare 1 = .ok (.iload_n 2, 1) := by decide +kernel
theorem dX7_compare_2 : decode cX7_compare 2 = .ok (.iload_n 3, 1) := by decide +kernel
theorem dX7_compare_3 : decode cX7_compare 3 = .ok (.iload 4, 2) := by decide +kernel
theorem dX7_compare_5 : decode cX7_compare 5 = .ok (.invokestatic 23, 3) := by decide +kernel
theorem dX7_compare_8 : decode cX7_compare 8 = .ok (.lstore 5, 2) := by decide +kernel
theorem dX7_compare_10 : decode cX7_compare 10 = .ok (.lload 5, 2) := by decide +kernel
theorem dX7_compare_12 : decode cX7_compare 12 = .ok (.aload_n 0, 1) := by decide +kernel
theorem dX7_compare_13 : decode cX7_compare 13 = .ok (.getfield 15, 3) := by decide +kernel
theorem dX7_compare_16 : decode cX7_compare 16 = .ok (.invokestatic 27, 3) := by decide +kernel
theorem dX7_compare_19 : decode cX7_compare 19 = .ok (.ifCond .eq 25, 3) := by decide +kernel
theorem dX7_compare_22 : decode cX7_compare 22 = .ok (.aload_n 0, 1) := by decide +kernel
theorem dX7_compare_23 : decode cX7_compare 23 = .ok (.iload_n 2, 1) := by decide +kernel
theorem dX7_compare_24 : decode cX7_compare 24 = .ok (.putfield 31, 3) := by decide +kernel
theorem dX7_compare_27 : decode cX7_compare 27 = .ok (.aload_n 0, 1) := by decide +kernel
theorem dX7_compare_28 : decode cX7_compare 28 = .ok (.iload_n 3, 1) := by decide +kernel
theorem dX7_compare_29 : decode cX7_compare 29 = .ok (.putfield 34, 3) := by decide +kernel
theorem dX7_compare_32 : decode cX7_compare 32 = .ok (.aload_n 0, 1) := by decide +kernel
theorem dX7_compare_33 : decode cX7_compare 33 = .ok (.iload 4, 2) := by decide +kernel
theorem dX7_compare_35 : decode cX7_compare 35 = .ok (.putfield 37, 3) := by decide +kernel
theorem dX7_compare_38 : decode cX7_compare 38 = .ok (.aload_n 0, 1) := by decide +kernel
theorem dX7_compare_39 : decode cX7_compare 39 = .ok (.lload 5, 2) := by decide +kernel
theorem dX7_compare_41 : decode cX7_compare 41 = .ok (.putfield 15, 3) := by decide +kernel
theorem dX7_compare_44 : decode cX7_compare 44 = .ok (.return_, 1) := by decide +kernel
theorem dX7_offOf_0 : decode cX7_offOf 0 = .ok (.aload_n 0, 1) := by decide +kernel
theorem dX7_offOf_1 : decode cX7_offOf 1 = .ok (.iload_n 1, 1) := by decide +kernel
theorem dX7_offOf_2 : decode cX7_offOf 2 = .ok (.iload_n 2, 1) := by decide +kernel
theorem dX7_offOf_3 : decode cX7_offOf 3 = .ok (.invokevirtual 40, 3) := by decide +kernel
theorem dX7_offOf_6 : decode cX7_offOf 6 = .ok (.ifCond .eq 21, 3) := by decide +kernel
theorem dX7_offOf_9 : decode cX7_offOf 9 = .ok (.aload_n 0, 1) := by decide +kernel
theorem dX7_offOf_10 : decode cX7_offOf 10 = .ok (.iload_n 2, 1) := by decide +kernel
theorem dX7_offOf_11 : decode cX7_offOf 11 = .ok (.iload_n 3, 1) := by decide +kernel
theorem dX7_offOf_12 : decode cX7_offOf 12 = .ok (.invokevirtual 40, 3) := by decide +kernel
theorem dX7_offOf_15 : decode cX7_offOf 15 = .ok (.ifCond .eq 12, 3) := by decide +kernel
theorem dX7_offOf_18 : decode cX7_offOf 18 = .ok (.aload_n 0, 1) := by decide +kernel
theorem dX7_offOf_19 : decode cX7_offOf 19 = .ok (.iload_n 3, 1) := by decide +kernel
theorem dX7_offOf_20 : decode cX7_offOf 20 = .ok (.iload_n 1, 1) := by decide +kernel
theorem dX7_offOf_21 : decode cX7_offOf 21 = .ok (.invokevirtual 40, 3) := by decide +kernel
theorem dX7_offOf_24 : decode cX7_offOf 24 = .ok (.ifCond .ne 5, 3) := by decide +kernel
theorem dX7_offOf_27 : decode cX7_offOf 27 = .ok (.lconst 1, 1) := by decide +kernel
theorem dX7_offOf_28 : decode cX7_offOf 28 = .ok (.lreturn, 1) := by decide +kernel
theorem dX7_offOf_29 : decode cX7_offOf 29 = .ok (.aload_n 0, 1) := by decide +kernel
theorem dX7_offOf_30 : decode cX7_offOf 30 = .ok (.iload_n 1, 1) := by decide +kernel
theorem dX7_offOf_31 : decode cX7_offOf 31 = .ok (.iload_n 2, 1) := by decide +kernel
theorem dX7_offOf_32 : decode cX7_offOf 32 = .ok (.invokevirtual 46, 3) := by decide +kernel
theorem dX7_offOf_35 : decode cX7_offOf 35 = .ok (.aload_n 0, 1) := by decide +kernel
theorem dX7_offOf_36 : decode cX7_offOf 36 = .ok (.iload_n 2, 1) := by decide +kernel
theorem dX7_offOf_37 : decode cX7_offOf 37 = .ok (.iload_n 3, 1) := by decide +kernel
theorem dX7_offOf_38 : decode cX7_offOf 38 = .ok (.invokevirtual 46, 3) := by decide +kernel
theorem dX7_offOf_41 : decode cX7_offOf 41 = .ok (.invokestatic 50, 3) := by decide +kernel
theorem dX7_offOf_44 : decode cX7_offOf 44 = .ok (.lstore 4, 2) := by decide +kernel
theorem dX7_offOf_46 : decode cX7_offOf 46 = .ok (.lload 4, 2) := by decide +kernel
theorem dX7_offOf_48 : decode cX7_offOf 48 = .ok (.aload_n 0, 1) := by decide +kernel
theorem dX7_offOf_49 : decode cX7_offOf 49 = .ok (.iload_n 3, 1) := by decide +kernel
theorem dX7_offOf_50 : decode cX7_offOf 50 = .ok (.iload_n 1, 1) := by decide +kernel
theorem dX7_offOf_51 : decode cX7_offOf 51 = .ok (.invokevirtual 46, 3) := by decide +kernel
theorem dX7_offOf_54 : decode cX7_offOf 54 = .ok (.invokestatic 50, 3) := by decide +kernel
theorem dX7_offOf_57 : decode cX7_offOf 57 = .ok (.lstore 4, 2) := by decide +kernel
theorem dX7_offOf_59 : decode cX7_offOf 59 = .ok (.ldc2_w 54, 3) := by decide +kernel
theorem dX7_offOf_62 : decode cX7_offOf 62 = .ok (.lload 4, 2) := by decide +kernel
theorem dX7_offOf_64 : decode cX7_offOf 64 = .ok (.invokestatic 27, 3) := by decide +kernel
theorem dX7_offOf_67 : decode cX7_offOf 67 = .ok (.ifCond .eq 11, 3) := by decide +kernel
theorem dX7_offOf_70 : decode cX7_offOf 70 = .ok (.lload 4, 2) := by decide +kernel
theorem dX7_offOf_72 : decode cX7_offOf 72 = .ok (.invokestatic 56, 3) := by decide +kernel
theorem dX7_offOf_75 : decode cX7_offOf 75 = .ok (.goto 5, 3) := by decide +kernel
theorem dX7_offOf_78 : decode cX7_offOf 78 = .ok (.lload 4, 2) := by decide +kernel
theorem dX7_offOf_80 : decode cX7_offOf 80 = .ok (.lreturn, 1) := by decide +kernel
end
section
-- decode rows: X8a
theorem dX8_init_0 : decode cX8_init 0 = .ok (.aload_n 0, 1) := by decide +kernel
theorem dX8_init_1 : decode cX8_init 1 = .ok (.invokespecial 1, 3) := by decide +kernel
theorem dX8_init_4 : decode cX8_init 4 = .ok (.aload_n 0, 1) := by decide +kernel
theorem dX8_init_5 : decode cX8_init 5 = .ok (.iconst 2, 1) := by decide +kernel
theorem dX8_init_6 : decode cX8_init 6 = .ok (.bipush 6, 2) := by decide +kernel
theorem dX8_init_8 : decode cX8_init 8 = .ok (.iload_n 1, 1) := by decide +kernel
theorem dX8_init_9 : decode cX8_init 9 = .ok (.invokestatic 9, 3) := by decide +kernel
theorem dX8_init_12 : decode cX8_init 12 = .ok (.invokestatic 15, 3) := by decide +kernel
theorem dX8_init_15 : decode cX8_init 15 = .ok (.putfield 18, 3) := by decide +kernel
theorem dX8_init_18 : decode cX8_init 18 = .ok (.aload_n 0, 1) := by decide +kernel
theorem dX8_init_19 : decode cX8_init 19 = .ok (.new 22, 3) := by decide +kernel
theorem dX8_init_22 : decode cX8_init 22 = .ok (.dup, 1) := by decide +kernel
theorem dX8_init_23 : decode cX8_init 23 = .ok (.aload_n 0, 1) := by decide +kernel
theorem dX8_init_24 : decode cX8_init 24 = .ok (.getfield 18, 3) := by decide +kernel
theorem dX8_init_27 : decode cX8_init 27 = .ok (.invokespecial 24, 3) := by decide +kernel
theorem dX8_init_30 : decode cX8_init 30 = .ok (.putfield 27, 3) := by decide +kernel
theorem dX8_init_33 : decode cX8_init 33 = .ok (.aload_n 0, 1) := by decide +kernel
theorem dX8_init_34 : decode cX8_init 34 = .ok (.new 22, 3) := by decide +kernel
theorem dX8_init_37 : decode cX8_init 37 = .ok (.dup, 1) := by decide +kernel
theorem dX8_init_38 : decode cX8_init 38 = .ok (.aload_n 0, 1) := by decide +kernel
theorem dX8_init_39 : decode cX8_init 39 = .ok (.getfield 18, 3) := by decide +kernel
theorem dX8_init_42 : decode cX8_init 42 = .ok (.invokespecial 24, 3) := by decide +kernel
theorem dX8_init_45 : decode cX8_init 45 = .ok (.putfield 31, 3) := by decide +kernel
theorem dX8_init_48 : decode cX8_init 48 = .ok (.aload_n 0, 1) := by decide +kernel
theorem dX8_init_49 : decode cX8_init 49 = .ok (.new 34, 3) := by decide +kernel
theorem dX8_init_52 : decode cX8_init 52 = .ok (.dup, 1) := by decide +kernel
theorem dX8_init_53 : decode cX8_init 53 = .ok (.aload_n 0, 1) := by decide +kernel
theorem dX8_init_54 : decode cX8_init 54 = .ok (.getfield 18, 3) := by decide +kernel
theorem dX8_init_57 : decode cX8_init 57 = .ok (.invokespecial 36, 3) := by decide +kernel
theorem dX8_init_60 : decode cX8_init 60 = .ok (.putfield 37, 3) := by decide +kernel
theorem dX8_init_63 : decode cX8_init 63 = .ok (.aload_n 0, 1) := by decide +kernel
theorem dX8_init_64 : decode cX8_init 64 = .ok (.new 41, 3) := by decide +kernel
theorem dX8_init_67 : decode cX8_init 67 = .ok (.dup, 1) := by decide +kernel
theorem dX8_init_68 : decode cX8_init 68 = .ok (.aload_n 0, 1) := by decide +kernel
theorem dX8_init_69 : decode cX8_init 69 = .ok (.getfield 18, 3) := by decide +kernel
theorem dX8_init_72 : decode cX8_init 72 = .ok (.invokespecial 43, 3) := by decide +kernel
theorem dX8_init_75 : decode cX8_init 75 = .ok (.putfield 44, 3) := by decide +kernel
theorem dX8_init_78 : decode cX8_init 78 = .ok (.aload_n 0, 1) := by decide +kernel
theorem dX8_init_79 : decode cX8_init 79 = .ok (.new 48, 3) := by decide +kernel
theorem dX8_init_82 : decode cX8_init 82 = .ok (.dup, 1) := by decide +kernel
theorem dX8_init_83 : decode cX8_init 83 = .ok (.aload_n 0, 1) := by decide +kernel
theorem dX8_init_84 : decode cX8_init 84 = .ok (.getfield 18, 3) := by decide +kernel
theorem dX8_init_87 : decode cX8_init 87 = .ok (.invokespecial 50, 3) := by decide +kernel
theorem dX8_init_90 : decode cX8_init 90 = .ok (.putfield 51, 3) := by decide +kernel
theorem dX8_init_93 : decode cX8_init 93 = .ok (.aload_n 0, 1) := by decide +kernel
theorem dX8_init_94 : decode cX8_init 94 = .ok (.new 55, 3) := by decide +kernel
theorem dX8_init_97 : decode cX8_init 97 = .ok (.dup, 1) := by decide +kernel
theorem dX8_init_98 : decode cX8_init 98 = .ok (.aload_n 0, 1) := by decide +kernel
theorem dX8_init_99 : decode cX8_init 99 = .ok (.getfield 18, 3) := by decide +kernel
theorem dX8_init_102 : decode cX8_init 102 = .ok (.invokespecial 57, 3) := by decide +kernel
theorem dX8_init_105 : decode cX8_init 105 = .ok (.putfield 58, 3) := by decide +kernel
theorem dX8_init_108 : decode cX8_init 108 = .ok (.aload_n 0, 1) := by decide +kernel
theorem dX8_init_109 : decode cX8_init 109 = .ok (.new 62, 3) := by decide +kernel
theorem dX8_init_112 : decode cX8_init 112 = .ok (.dup, 1) := by decide +kernel
theorem dX8_init_113 : decode cX8_init 113 = .ok (.invokespecial 64, 3) := by decide +kernel
theorem dX8_init_116 : decode cX8_init 116 = .ok (.putfield 65, 3) := by decide +kernel
theorem dX8_init_119 : decode cX8_init 119 = .ok (.return_, 1) := by decide +kernel
theorem dX8_say_0 : decode cX8_say 0 = .ok (.aload_n 0, 1) := by decide +kernel
theorem dX8_say_1 : decode cX8_say 1 = .ok (.getfield 27, 3) := by decide +kernel
theorem dX8_say_4 : decode cX8_say 4 = .ok (.iload_n 1, 1) := by decide +kernel
theorem dX8_say_5 : decode cX8_say 5 = .ok (.iload_n 2, 1) := by decide +kernel
theorem dX8_say_6 : decode cX8_say 6 = .ok (.invokevirtual 69, 3) := by decide +kernel
theorem dX8_say_9 : decode cX8_say 9 = .ok (.ifCond .eq 18, 3) := by decide +kernel
theorem dX8_say_12 : decode cX8_say 12 = .ok (.iload_n 3, 1) := by decide +kernel
theorem dX8_say_13 : decode cX8_say 13 = .ok (.invokestatic 73, 3) := by decide +kernel
theorem dX8_say_16 : decode cX8_say 16 = .ok (.ifCond .eq 11, 3) := by decide +kernel
theorem dX8_say_19 : decode cX8_say 19 = .ok (.iload 4, 2) := by decide +kernel
theorem dX8_say_21 : decode cX8_say 21 = .ok (.invokestatic 73, 3) := by decide +kernel
theorem dX8_say_24 : decode cX8_say 24 = .ok (.ifCond .ne 5, 3) := by decide +kernel
theorem dX8_say_27 : decode cX8_say 27 = .ok (.iconst 0, 1) := by decide +kernel
theorem dX8_say_28 : decode cX8_say 28 = .ok (.ireturn, 1) := by decide +kernel
theorem dX8_say_29 : decode cX8_say 29 = .ok (.iload_n 3, 1) := by decide +kernel
theorem dX8_say_30 : decode cX8_say 30 = .ok (.i2l, 1) := by decide +kernel
theorem dX8_say_31 : decode cX8_say 31 = .ok (.iload 4, 2) := by decide +kernel
theorem dX8_say_33 : decode cX8_say 33 = .ok (.i2l, 1) := by decide +kernel
theorem dX8_say_34 : decode cX8_say 34 = .ok (.invokestatic 77, 3) := by decide +kernel
theorem dX8_say_37 : decode cX8_say 37 = .ok (.lstore 5, 2) := by decide +kernel
theorem dX8_say_39 : decode cX8_say 39 = .ok (.aload_n 0, 1) := by decide +kernel
theorem dX8_say_40 : decode cX8_say 40 = .ok (.getfield 27, 3) := by decide +kernel
theorem dX8_say_43 : decode cX8_say 43 = .ok (.iload_n 1, 1) := by decide +kernel
theorem dX8_say_44 : decode cX8_say 44 = .ok (.iload_n 2, 1) := by decide +kernel
theorem dX8_say_45 : decode cX8_say 45 = .ok (.lload 5, 2) := by decide +kernel
theorem dX8_say_47 : decode cX8_say 47 = .ok (.lload 5, 2) := by decide +kernel
theorem dX8_say_49 : decode cX8_say 49 = .ok (.invokevirtual 83, 3) := by decide +kernel
theorem dX8_say_52 : decode cX8_say 52 = .ok (.iconst 1, 1) := by decide +kernel
theorem dX8_say_53 : decode cX8_say 53 = .ok (.ireturn, 1) := by decide +kernel
theorem dX8_unsay_0 : decode cX8_unsay 0 = .ok (.aload_n 0, 1) := by decide +kernel
theorem dX8_unsay_1 : decode cX8_unsay 1 = .ok (.getfield 27, 3) := by decide +kernel
theorem dX8_unsay_4 : decode cX8_unsay 4 = .ok (.iload_n 1, 1) := by decide +kernel
theorem dX8_unsay_5 : decode cX8_unsay 5 = .ok (.iload_n 2, 1) := by decide +kernel
theorem dX8_unsay_6 : decode cX8_unsay 6 = .ok (.invokevirtual 87, 3) := by decide +kernel
theorem dX8_unsay_9 : decode cX8_unsay 9 = .ok (.ireturn, 1) := by decide +kernel
theorem dX8_said_0 : decode cX8_said 0 = .ok (.iload_n 3, 1) := by decide +kernel
theorem dX8_said_1 : decode cX8_said 1 = .ok (.invokestatic 90, 3) := by decide +kernel
theorem dX8_said_4 : decode cX8_said 4 = .ok (.ifCond .eq 15, 3) := by decide +kernel
theorem dX8_said_7 : decode cX8_said 7 = .ok (.aload_n 0, 1) := by decide +kernel
theorem dX8_said_8 : decode cX8_said 8 = .ok (.getfield 27, 3) := by decide +kernel
theorem dX8_said_11 : decode cX8_said 11 = .ok (.iload_n 1, 1) := by decide +kernel
theorem dX8_said_12 : decode cX8_said 12 = .ok (.iload_n 2, 1) := by decide +kernel
theorem dX8_said_13 : decode cX8_said 13 = .ok (.invokevirtual 93, 3) := by decide +kernel
theorem dX8_said_16 : decode cX8_said 16 = .ok (.ifCond .ne 5, 3) := by decide +kernel
theorem dX8_said_19 : decode cX8_said 19 = .ok (.iconst (-1), 1) := by decide +kernel
theorem dX8_said_20 : decode cX8_said 20 = .ok (.ireturn, 1) := by decide +kernel
theorem dX8_said_21 : decode cX8_said 21 = .ok (.aload_n 0, 1) := by decide +kernel
theorem dX8_said_22 : decode cX8_said 22 = .ok (.getfield 27, 3) := by decide +kernel
theorem dX8_said_25 : decode cX8_said 25 = .ok (.iload_n 1, 1) := by decide +kernel
theorem dX8_said_26 : decode cX8_said 26 = .ok (.iload_n 2, 1) := by decide +kernel
theorem dX8_said_27 : decode cX8_said 27 = .ok (.invokevirtual 96, 3) := by decide +kernel
theorem dX8_said_30 : decode cX8_said 30 = .ok (.iload_n 3, 1) := by decide +kernel
theorem dX8_said_31 : decode cX8_said 31 = .ok (.invokestatic 100, 3) := by decide +kernel
theorem dX8_said_34 : decode cX8_said 34 = .ok (.ireturn, 1) := by decide +kernel
theorem dX8_even_0 : decode cX8_even 0 = .ok (.aload_n 0, 1) := by decide +kernel
theorem dX8_even_1 : decode cX8_even 1 = .ok (.getfield 44, 3) := by decide +kernel
theorem dX8_even_4 : decode cX8_even 4 = .ok (.aload_n 0, 1) := by decide +kernel
theorem dX8_even_5 : decode cX8_even 5 = .ok (.getfield 27, 3) := by decide +kernel
theorem dX8_even_8 : decode cX8_even 8 = .ok (.invokevirtual 104, 3) := by decide +kernel
theorem dX8_even_11 : decode cX8_even 11 = .ok (.ireturn, 1) := by decide +kernel
theorem dX8_worst_0 : decode cX8_worst 0 = .ok (.iload_n 1, 1) := by decide +kernel
theorem dX8_worst_1 : decode cX8_worst 1 = .ok (.ifCond .lt 8, 3) := by decide +kernel
theorem dX8_worst_4 : decode cX8_worst 4 = .ok (.iload_n 1, 1) := by decide +kernel
theorem dX8_worst_5 : decode cX8_worst 5 = .ok (.iconst 4, 1) := by decide +kernel
theorem dX8_worst_6 : decode cX8_worst 6 = .ok (.if_icmp .le 5, 3) := by decide +kernel
theorem dX8_worst_9 : decode cX8_worst 9 = .ok (.iconst (-1), 1) := by decide +kernel
theorem dX8_worst_10 : decode cX8_worst 10 = .ok (.ireturn, 1) := by decide +kernel
theorem dX8_worst_11 : decode cX8_worst 11 = .ok (.aload_n 0, 1) := by decide +kernel
theorem dX8_worst_12 : decode cX8_worst 12 = .ok (.getfield 37, 3) := by decide +kernel
theorem dX8_worst_15 : decode cX8_worst 15 = .ok (.aload_n 0, 1) := by decide +kernel
theorem dX8_worst_16 : decode cX8_worst 16 = .ok (.getfield 27, 3) := by decide +kernel
theorem dX8_worst_19 : decode cX8_worst 19 = .ok (.invokevirtual 108, 3) := by decide +kernel
theorem dX8_worst_22 : decode cX8_worst 22 = .ok (.aload_n 0, 1) := by decide +kernel
theorem dX8_worst_23 : decode cX8_worst 23 = .ok (.getfield 37, 3) := by decide +kernel
theorem dX8_worst_26 : decode cX8_worst 26 = .ok (.getfield 112, 3) := by decide +kernel
theorem dX8_worst_29 : decode cX8_worst 29 = .ok (.lconst 1, 1) := by decide +kernel
theorem dX8_worst_30 : decode cX8_worst 30 = .ok (.lcmp, 1) := by decide +kernel
theorem dX8_worst_31 : decode cX8_worst 31 = .ok (.ifCond .ne 5, 3) := by decide +kernel
theorem dX8_worst_34 : decode cX8_worst 34 = .ok (.iconst (-1), 1) := by decide +kernel
theorem dX8_worst_35 : decode cX8_worst 35 = .ok (.ireturn, 1) := by decide +kernel
theorem dX8_worst_36 : decode cX8_worst 36 = .ok (.iload_n 1, 1) := by decide +kernel
theorem dX8_worst_37 : decode cX8_worst 37 = .ok (.tableswitch 51 0 2 #[27, 35, 43], 27) := by decide +kernel
theorem dX8_worst_64 : decode cX8_worst 64 = .ok (.aload_n 0, 1) := by decide +kernel
theorem dX8_worst_65 : decode cX8_worst 65 = .ok (.getfield 37, 3) := by decide +kernel
theorem dX8_worst_68 : decode cX8_worst 68 = .ok (.getfield 116, 3) := by decide +kernel
theorem dX8_worst_71 : decode cX8_worst 71 = .ok (.ireturn, 1) := by decide +kernel
theorem dX8_worst_72 : decode cX8_worst 72 = .ok (.aload_n 0, 1) := by decide +kernel
theorem dX8_worst_73 : decode cX8_worst 73 = .ok (.getfield 37, 3) := by decide +kernel
theorem dX8_worst_76 : decode cX8_worst 76 = .ok (.getfield 119, 3) := by decide +kernel
theorem dX8_worst_79 : decode cX8_worst 79 = .ok (.ireturn, 1) := by decide +kernel
theorem dX8_worst_80 : decode cX8_worst 80 = .ok (.aload_n 0, 1) := by decide +kernel
theorem dX8_worst_81 : decode cX8_worst 81 = .ok (.getfield 37, 3) := by decide +kernel
theorem dX8_worst_84 : decode cX8_worst 84 = .ok (.getfield 122, 3) := by decide +kernel
theorem dX8_worst_87 : decode cX8_worst 87 = .ok (.ireturn, 1) := by decide +kernel
theorem dX8_worst_88 : decode cX8_worst 88 = .ok (.aload_n 0, 1) := by decide +kernel
theorem dX8_worst_89 : decode cX8_worst 89 = .ok (.getfield 37, 3) := by decide +kernel
theorem dX8_worst_92 : decode cX8_worst 92 = .ok (.getfield 112, 3) := by decide +kernel
theorem dX8_worst_95 : decode cX8_worst 95 = .ok (.iload_n 1, 1) := by decide +kernel
theorem dX8_worst_96 : decode cX8_worst 96 = .ok (.iconst 3, 1) := by decide +kernel
theorem dX8_worst_97 : decode cX8_worst 97 = .ok (.isub, 1) := by decide +kernel
theorem dX8_worst_98 : decode cX8_worst 98 = .ok (.invokestatic 100, 3) := by decide +kernel
theorem dX8_worst_101 : decode cX8_worst 101 = .ok (.ireturn, 1) := by decide +kernel
theorem dX8_trees_0 : decode cX8_trees 0 = .ok (.aload_n 0, 1) := by decide +kernel
theorem dX8_trees_1 : decode cX8_trees 1 = .ok (.getfield 51, 3) := by decide +kernel
theorem dX8_trees_4 : decode cX8_trees 4 = .ok (.aload_n 0, 1) := by decide +kernel
theorem dX8_trees_5 : decode cX8_trees 5 = .ok (.getfield 27, 3) := by decide +kernel
theorem dX8_trees_8 : decode cX8_trees 8 = .ok (.invokevirtual 125, 3) := by decide +kernel
theorem dX8_trees_11 : decode cX8_trees 11 = .ok (.ireturn, 1) := by decide +kernel
theorem dX8_few_0 : decode cX8_few 0 = .ok (.aload_n 0, 1) := by decide +kernel
theorem dX8_few_1 : decode cX8_few 1 = .ok (.getfield 58, 3) := by decide +kernel
theorem dX8_few_4 : decode cX8_few 4 = .ok (.aload_n 0, 1) := by decide +kernel
theorem dX8_few_5 : decode cX8_few 5 = .ok (.getfield 27, 3) := by decide +kernel
theorem dX8_few_8 : decode cX8_few 8 = .ok (.invokevirtual 128, 3) := by decide +kernel
theorem dX8_few_11 : decode cX8_few 11 = .ok (.aload_n 0, 1) := by decide +kernel
theorem dX8_few_12 : decode cX8_few 12 = .ok (.getfield 58, 3) := by decide +kernel
theorem dX8_few_15 : decode cX8_few 15 = .ok (.getfield 131, 3) := by decide +kernel
theorem dX8_few_18 : decode cX8_few 18 = .ok (.ireturn, 1) := by decide +kernel
theorem dX8_left_0 : decode cX8_left 0 = .ok (.aload_n 0, 1) := by decide +kernel
theorem dX8_left_1 : decode cX8_left 1 = .ok (.getfield 58, 3) := by decide +kernel
theorem dX8_left_4 : decode cX8_left 4 = .ok (.aload_n 0, 1) := by decide +kernel
theorem dX8_left_5 : decode cX8_left 5 = .ok (.getfield 27, 3) := by decide +kernel
theorem dX8_left_8 : decode cX8_left 8 = .ok (.invokevirtual 128, 3) := by decide +kernel
theorem dX8_left_11 : decode cX8_left 11 = .ok (.aload_n 0, 1) := by decide +kernel
theorem dX8_left_12 : decode cX8_left 12 = .ok (.getfield 58, 3) := by decide +kernel
theorem dX8_left_15 : decode cX8_left 15 = .ok (.getfield 134, 3) := by decide +kernel
theorem dX8_left_18 : decode cX8_left 18 = .ok (.ireturn, 1) := by decide +kernel
theorem dX8_row_0 : decode cX8_row 0 = .ok (.iload_n 2, 1) := by decide +kernel
theorem dX8_row_1 : decode cX8_row 1 = .ok (.invokestatic 90, 3) := by decide +kernel
theorem dX8_row_4 : decode cX8_row 4 = .ok (.ifCond .eq 24, 3) := by decide +kernel
theorem dX8_row_7 : decode cX8_row 7 = .ok (.aload_n 0, 1) := by decide +kernel
theorem dX8_row_8 : decode cX8_row 8 = .ok (.getfield 27, 3) := by decide +kernel
theorem dX8_row_11 : decode cX8_row 11 = .ok (.iload_n 1, 1) := by decide +kernel
theorem dX8_row_12 : decode cX8_row 12 = .ok (.invokevirtual 137, 3) := by decide +kernel
theorem dX8_row_15 : decode cX8_row 15 = .ok (.ifCond .eq 13, 3) := by decide +kernel
theorem dX8_row_18 : decode cX8_row 18 = .ok (.aload_n 0, 1) := by decide +kernel
theorem dX8_row_19 : decode cX8_row 19 = .ok (.getfield 27, 3) := by decide +kernel
theorem dX8_row_22 : decode cX8_row 22 = .ok (.invokevirtual 140, 3) := by decide +kernel
theorem dX8_row_25 : decode cX8_row 25 = .ok (.ifCond .ne 5, 3) := by decide +kernel
theorem dX8_row_28 : decode cX8_row 28 = .ok (.iconst (-1), 1) := by decide +kernel
theorem dX8_row_29 : decode cX8_row 29 = .ok (.ireturn, 1) := by decide +kernel
theorem dX8_row_30 : decode cX8_row 30 = .ok (.aload_n 0, 1) := by decide +kernel
theorem dX8_row_31 : decode cX8_row 31 = .ok (.iload_n 1, 1) := by decide +kernel
theorem dX8_row_32 : decode cX8_row 32 = .ok (.invokevirtual 144, 3) := by decide +kernel
theorem dX8_row_35 : decode cX8_row 35 = .ok (.iload_n 2, 1) := by decide +kernel
theorem dX8_row_36 : decode cX8_row 36 = .ok (.invokestatic 100, 3) := by decide +kernel
theorem dX8_row_39 : decode cX8_row 39 = .ok (.ireturn, 1) := by decide +kernel
theorem dX8_order_0 : decode cX8_order 0 = .ok (.aload_n 0, 1) := by decide +kernel
theorem dX8_order_1 : decode cX8_order 1 = .ok (.getfield 27, 3) := by decide +kernel
theorem dX8_order_4 : decode cX8_order 4 = .ok (.iload_n 1, 1) := by decide +kernel
theorem dX8_order_5 : decode cX8_order 5 = .ok (.invokevirtual 137, 3) := by decide +kernel
theorem dX8_order_8 : decode cX8_order 8 = .ok (.ifCond .eq 24, 3) := by decide +kernel
theorem dX8_order_11 : decode cX8_order 11 = .ok (.aload_n 0, 1) := by decide +kernel
theorem dX8_order_12 : decode cX8_order 12 = .ok (.getfield 27, 3) := by decide +kernel
theorem dX8_order_15 : decode cX8_order 15 = .ok (.iload_n 2, 1) := by decide +kernel
theorem dX8_order_16 : decode cX8_order 16 = .ok (.invokevirtual 137, 3) := by decide +kernel
theorem dX8_order_19 : decode cX8_order 19 = .ok (.ifCond .eq 13, 3) := by decide +kernel
theorem dX8_order_22 : decode cX8_order 22 = .ok (.aload_n 0, 1) := by decide +kernel
theorem dX8_order_23 : decode cX8_order 23 = .ok (.getfield 27, 3) := by decide +kernel
theorem dX8_order_26 : decode cX8_order 26 = .ok (.invokevirtual 140, 3) := by decide +kernel
theorem dX8_order_29 : decode cX8_order 29 = .ok (.ifCond .ne 5, 3) := by decide +kernel
theorem dX8_order_32 : decode cX8_order 32 = .ok (.iconst (-1), 1) := by decide +kernel
theorem dX8_order_33 : decode cX8_order 33 = .ok (.ireturn, 1) := by decide +kernel
theorem dX8_order_34 : decode cX8_order 34 = .ok (.aload_n 0, 1) := by decide +kernel
theorem dX8_order_35 : decode cX8_order 35 = .ok (.iload_n 1, 1) := by decide +kernel
theorem dX8_order_36 : decode cX8_order 36 = .ok (.invokevirtual 144, 3) := by decide +kernel
theorem dX8_order_39 : decode cX8_order 39 = .ok (.lstore_n 3, 1) := by decide +kernel
theorem dX8_order_40 : decode cX8_order 40 = .ok (.aload_n 0, 1) := by decide +kernel
theorem dX8_order_41 : decode cX8_order 41 = .ok (.iload_n 2, 1) := by decide +kernel
theorem dX8_order_42 : decode cX8_order 42 = .ok (.invokevirtual 144, 3) := by decide +kernel
theorem dX8_order_45 : decode cX8_order 45 = .ok (.lstore 5, 2) := by decide +kernel
theorem dX8_order_47 : decode cX8_order 47 = .ok (.lload_n 3, 1) := by decide +kernel
theorem dX8_order_48 : decode cX8_order 48 = .ok (.lload 5, 2) := by decide +kernel
theorem dX8_order_50 : decode cX8_order 50 = .ok (.invokestatic 148, 3) := by decide +kernel
theorem dX8_order_53 : decode cX8_order 53 = .ok (.ifCond .eq 5, 3) := by decide +kernel
theorem dX8_order_56 : decode cX8_order 56 = .ok (.iconst 1, 1) := by decide +kernel
theorem dX8_order_57 : decode cX8_order 57 = .ok (.ireturn, 1) := by decide +kernel
theorem dX8_order_58 : decode cX8_order 58 = .ok (.lload 5, 2) := by decide +kernel
theorem dX8_order_60 : decode cX8_order 60 = .ok (.lload_n 3, 1) := by decide +kernel
theorem dX8_order_61 : decode cX8_order 61 = .ok (.invokestatic 148, 3) := by decide +kernel
theorem dX8_order_64 : decode cX8_order 64 = .ok (.ifCond .eq 7, 3) := by decide +kernel
theorem dX8_order_67 : decode cX8_order 67 = .ok (.iconst 2, 1) := by decide +kernel
theorem dX8_order_68 : decode cX8_order 68 = .ok (.goto 4, 3) := by decide +kernel
theorem dX8_order_71 : decode cX8_order 71 = .ok (.iconst 0, 1) := by decide +kernel
theorem dX8_order_72 : decode cX8_order 72 = .ok (.ireturn, 1) := by decide +kernel
theorem dX8_least_0 : decode cX8_least 0 = .ok (.iload_n 1, 1) := by decide +kernel
theorem dX8_least_1 : decode cX8_least 1 = .ok (.ifCond .lt 8, 3) := by decide +kernel
theorem dX8_least_4 : decode cX8_least 4 = .ok (.iload_n 1, 1) := by decide +kernel
theorem dX8_least_5 : decode cX8_least 5 = .ok (.iconst 2, 1) := by decide +kernel
theorem dX8_least_6 : decode cX8_least 6 = .ok (.if_icmp .le 5, 3) := by decide +kernel
theorem dX8_least_9 : decode cX8_least 9 = .ok (.iconst (-1), 1) := by decide +kernel
theorem dX8_least_10 : decode cX8_least 10 = .ok (.ireturn, 1) := by decide +kernel
theorem dX8_least_11 : decode cX8_least 11 = .ok (.aload_n 0, 1) := by decide +kernel
theorem dX8_least_12 : decode cX8_least 12 = .ok (.invokevirtual 152, 3) := by decide +kernel
theorem dX8_least_15 : decode cX8_least 15 = .ok (.istore_n 2, 1) := by decide +kernel
theorem dX8_least_16 : decode cX8_least 16 = .ok (.iload_n 1, 1) := by decide +kernel
theorem dX8_least_17 : decode cX8_least 17 = .ok (.iconst 2, 1) := by decide +kernel
theorem dX8_least_18 : decode cX8_least 18 = .ok (.if_icmp .ne 5, 3) := by decide +kernel
theorem dX8_least_21 : decode cX8_least 21 = .ok (.iload_n 2, 1) := by decide +kernel
theorem dX8_least_22 : decode cX8_least 22 = .ok (.ireturn, 1) := by decide +kernel
theorem dX8_least_23 : decode cX8_least 23 = .ok (.iload_n 2, 1) := by decide +kernel
theorem dX8_least_24 : decode cX8_least 24 = .ok (.ifCond .ne 7, 3) := by decide +kernel
theorem dX8_least_27 : decode cX8_least 27 = .ok (.iconst 1, 1) := by decide +kernel
theorem dX8_least_28 : decode cX8_least 28 = .ok (.goto 16, 3) := by decide +kernel
theorem dX8_least_31 : decode cX8_least 31 = .ok (.aload_n 0, 1) := by decide +kernel
theorem dX8_least_32 : decode cX8_least 32 = .ok (.getfield 44, 3) := by decide +kernel
theorem dX8_least_35 : decode cX8_least 35 = .ok (.getfield 156, 3) := by decide +kernel
theorem dX8_least_38 : decode cX8_least 38 = .ok (.iload_n 2, 1) := by decide +kernel
theorem dX8_least_39 : decode cX8_least 39 = .ok (.laload, 1) := by decide +kernel
theorem dX8_least_40 : decode cX8_least 40 = .ok (.iload_n 1, 1) := by decide +kernel
theorem dX8_least_41 : decode cX8_least 41 = .ok (.invokestatic 100, 3) := by decide +kernel
theorem dX8_least_44 : decode cX8_least 44 = .ok (.ireturn, 1) := by decide +kernel
theorem dX8_span_0 : decode cX8_span 0 = .ok (.iload_n 3, 1) := by decide +kernel
theorem dX8_span_1 : decode cX8_span 1 = .ok (.sipush 1000, 3) := by decide +kernel
theorem dX8_span_4 : decode cX8_span 4 = .ok (.idiv, 1) := by decide +kernel
theorem dX8_span_5 : decode cX8_span 5 = .ok (.istore 4, 2) := by decide +kernel
theorem dX8_span_7 : decode cX8_span 7 = .ok (.iload_n 3, 1) := by decide +kernel
theorem dX8_span_8 : decode cX8_span 8 = .ok (.bipush 100, 2) := by decide +kernel
theorem dX8_span_10 : decode cX8_span 10 = .ok (.idiv, 1) := by decide +kernel
end
section
-- decode rows: X8b
theorem dX8_span_11 : decode cX8_span 11 = .ok (.bipush 10, 2) := by decide +kernel
theorem dX8_span_13 : decode cX8_span 13 = .ok (.irem, 1) := by decide +kernel
theorem dX8_span_14 : decode cX8_span 14 = .ok (.istore 5, 2) := by decide +kernel
theorem dX8_span_16 : decode cX8_span 16 = .ok (.iload_n 3, 1) := by decide +kernel
theorem dX8_span_17 : decode cX8_span 17 = .ok (.bipush 10, 2) := by decide +kernel
theorem dX8_span_19 : decode cX8_span 19 = .ok (.idiv, 1) := by decide +kernel
theorem dX8_span_20 : decode cX8_span 20 = .ok (.bipush 10, 2) := by decide +kernel
theorem dX8_span_22 : decode cX8_span 22 = .ok (.irem, 1) := by decide +kernel
theorem dX8_span_23 : decode cX8_span 23 = .ok (.istore 6, 2) := by decide +kernel
theorem dX8_span_25 : decode cX8_span 25 = .ok (.iload_n 3, 1) := by decide +kernel
theorem dX8_span_26 : decode cX8_span 26 = .ok (.bipush 10, 2) := by decide +kernel
theorem dX8_span_28 : decode cX8_span 28 = .ok (.irem, 1) := by decide +kernel
theorem dX8_span_29 : decode cX8_span 29 = .ok (.istore 7, 2) := by decide +kernel
theorem dX8_span_31 : decode cX8_span 31 = .ok (.aload_n 0, 1) := by decide +kernel
theorem dX8_span_32 : decode cX8_span 32 = .ok (.getfield 31, 3) := by decide +kernel
theorem dX8_span_35 : decode cX8_span 35 = .ok (.iload_n 1, 1) := by decide +kernel
theorem dX8_span_36 : decode cX8_span 36 = .ok (.iload_n 2, 1) := by decide +kernel
theorem dX8_span_37 : decode cX8_span 37 = .ok (.invokevirtual 69, 3) := by decide +kernel
theorem dX8_span_40 : decode cX8_span 40 = .ok (.ifCond .eq 35, 3) := by decide +kernel
theorem dX8_span_43 : decode cX8_span 43 = .ok (.iload 4, 2) := by decide +kernel
theorem dX8_span_45 : decode cX8_span 45 = .ok (.invokestatic 73, 3) := by decide +kernel
theorem dX8_span_48 : decode cX8_span 48 = .ok (.ifCond .eq 27, 3) := by decide +kernel
theorem dX8_span_51 : decode cX8_span 51 = .ok (.iload 5, 2) := by decide +kernel
theorem dX8_span_53 : decode cX8_span 53 = .ok (.invokestatic 73, 3) := by decide +kernel
theorem dX8_span_56 : decode cX8_span 56 = .ok (.ifCond .eq 19, 3) := by decide +kernel
theorem dX8_span_59 : decode cX8_span 59 = .ok (.iload 6, 2) := by decide +kernel
theorem dX8_span_61 : decode cX8_span 61 = .ok (.invokestatic 73, 3) := by decide +kernel
theorem dX8_span_64 : decode cX8_span 64 = .ok (.ifCond .eq 11, 3) := by decide +kernel
theorem dX8_span_67 : decode cX8_span 67 = .ok (.iload 7, 2) := by decide +kernel
theorem dX8_span_69 : decode cX8_span 69 = .ok (.invokestatic 73, 3) := by decide +kernel
theorem dX8_span_72 : decode cX8_span 72 = .ok (.ifCond .ne 5, 3) := by decide +kernel
theorem dX8_span_75 : decode cX8_span 75 = .ok (.iconst 0, 1) := by decide +kernel
theorem dX8_span_76 : decode cX8_span 76 = .ok (.ireturn, 1) := by decide +kernel
theorem dX8_span_77 : decode cX8_span 77 = .ok (.iload 4, 2) := by decide +kernel
theorem dX8_span_79 : decode cX8_span 79 = .ok (.i2l, 1) := by decide +kernel
theorem dX8_span_80 : decode cX8_span 80 = .ok (.iload 5, 2) := by decide +kernel
theorem dX8_span_82 : decode cX8_span 82 = .ok (.i2l, 1) := by decide +kernel
theorem dX8_span_83 : decode cX8_span 83 = .ok (.invokestatic 77, 3) := by decide +kernel
theorem dX8_span_86 : decode cX8_span 86 = .ok (.lstore 8, 2) := by decide +kernel
theorem dX8_span_88 : decode cX8_span 88 = .ok (.iload 6, 2) := by decide +kernel
theorem dX8_span_90 : decode cX8_span 90 = .ok (.i2l, 1) := by decide +kernel
theorem dX8_span_91 : decode cX8_span 91 = .ok (.iload 7, 2) := by decide +kernel
theorem dX8_span_93 : decode cX8_span 93 = .ok (.i2l, 1) := by decide +kernel
theorem dX8_span_94 : decode cX8_span 94 = .ok (.invokestatic 77, 3) := by decide +kernel
theorem dX8_span_97 : decode cX8_span 97 = .ok (.lstore 10, 2) := by decide +kernel
theorem dX8_span_99 : decode cX8_span 99 = .ok (.lload 8, 2) := by decide +kernel
theorem dX8_span_101 : decode cX8_span 101 = .ok (.lload 10, 2) := by decide +kernel
theorem dX8_span_103 : decode cX8_span 103 = .ok (.invokestatic 148, 3) := by decide +kernel
theorem dX8_span_106 : decode cX8_span 106 = .ok (.ifCond .eq 5, 3) := by decide +kernel
theorem dX8_span_109 : decode cX8_span 109 = .ok (.iconst 0, 1) := by decide +kernel
theorem dX8_span_110 : decode cX8_span 110 = .ok (.ireturn, 1) := by decide +kernel
theorem dX8_span_111 : decode cX8_span 111 = .ok (.aload_n 0, 1) := by decide +kernel
theorem dX8_span_112 : decode cX8_span 112 = .ok (.getfield 31, 3) := by decide +kernel
theorem dX8_span_115 : decode cX8_span 115 = .ok (.iload_n 1, 1) := by decide +kernel
theorem dX8_span_116 : decode cX8_span 116 = .ok (.iload_n 2, 1) := by decide +kernel
theorem dX8_span_117 : decode cX8_span 117 = .ok (.lload 8, 2) := by decide +kernel
theorem dX8_span_119 : decode cX8_span 119 = .ok (.lload 10, 2) := by decide +kernel
theorem dX8_span_121 : decode cX8_span 121 = .ok (.invokevirtual 83, 3) := by decide +kernel
theorem dX8_span_124 : decode cX8_span 124 = .ok (.iconst 1, 1) := by decide +kernel
theorem dX8_span_125 : decode cX8_span 125 = .ok (.ireturn, 1) := by decide +kernel
theorem dX8_unspan_0 : decode cX8_unspan 0 = .ok (.aload_n 0, 1) := by decide +kernel
theorem dX8_unspan_1 : decode cX8_unspan 1 = .ok (.getfield 31, 3) := by decide +kernel
theorem dX8_unspan_4 : decode cX8_unspan 4 = .ok (.iload_n 1, 1) := by decide +kernel
theorem dX8_unspan_5 : decode cX8_unspan 5 = .ok (.iload_n 2, 1) := by decide +kernel
theorem dX8_unspan_6 : decode cX8_unspan 6 = .ok (.invokevirtual 87, 3) := by decide +kernel
theorem dX8_unspan_9 : decode cX8_unspan 9 = .ok (.ireturn, 1) := by decide +kernel
theorem dX8_can_0 : decode cX8_can 0 = .ok (.aload_n 0, 1) := by decide +kernel
theorem dX8_can_1 : decode cX8_can 1 = .ok (.getfield 44, 3) := by decide +kernel
theorem dX8_can_4 : decode cX8_can 4 = .ok (.aload_n 0, 1) := by decide +kernel
theorem dX8_can_5 : decode cX8_can 5 = .ok (.getfield 31, 3) := by decide +kernel
theorem dX8_can_8 : decode cX8_can 8 = .ok (.invokevirtual 104, 3) := by decide +kernel
theorem dX8_can_11 : decode cX8_can 11 = .ok (.ireturn, 1) := by decide +kernel
theorem dX8_bound_0 : decode cX8_bound 0 = .ok (.iload_n 3, 1) := by decide +kernel
theorem dX8_bound_1 : decode cX8_bound 1 = .ok (.invokestatic 90, 3) := by decide +kernel
theorem dX8_bound_4 : decode cX8_bound 4 = .ok (.ifCond .eq 29, 3) := by decide +kernel
theorem dX8_bound_7 : decode cX8_bound 7 = .ok (.aload_n 0, 1) := by decide +kernel
theorem dX8_bound_8 : decode cX8_bound 8 = .ok (.getfield 31, 3) := by decide +kernel
theorem dX8_bound_11 : decode cX8_bound 11 = .ok (.iload_n 1, 1) := by decide +kernel
theorem dX8_bound_12 : decode cX8_bound 12 = .ok (.iload_n 2, 1) := by decide +kernel
theorem dX8_bound_13 : decode cX8_bound 13 = .ok (.invokevirtual 69, 3) := by decide +kernel
theorem dX8_bound_16 : decode cX8_bound 16 = .ok (.ifCond .eq 17, 3) := by decide +kernel
theorem dX8_bound_19 : decode cX8_bound 19 = .ok (.aload_n 0, 1) := by decide +kernel
theorem dX8_bound_20 : decode cX8_bound 20 = .ok (.getfield 44, 3) := by decide +kernel
theorem dX8_bound_23 : decode cX8_bound 23 = .ok (.aload_n 0, 1) := by decide +kernel
theorem dX8_bound_24 : decode cX8_bound 24 = .ok (.getfield 31, 3) := by decide +kernel
theorem dX8_bound_27 : decode cX8_bound 27 = .ok (.invokevirtual 104, 3) := by decide +kernel
theorem dX8_bound_30 : decode cX8_bound 30 = .ok (.ifCond .ne 5, 3) := by decide +kernel
theorem dX8_bound_33 : decode cX8_bound 33 = .ok (.iconst (-1), 1) := by decide +kernel
theorem dX8_bound_34 : decode cX8_bound 34 = .ok (.ireturn, 1) := by decide +kernel
theorem dX8_bound_35 : decode cX8_bound 35 = .ok (.aload_n 0, 1) := by decide +kernel
theorem dX8_bound_36 : decode cX8_bound 36 = .ok (.iload_n 1, 1) := by decide +kernel
theorem dX8_bound_37 : decode cX8_bound 37 = .ok (.iload_n 2, 1) := by decide +kernel
theorem dX8_bound_38 : decode cX8_bound 38 = .ok (.iconst 1, 1) := by decide +kernel
theorem dX8_bound_39 : decode cX8_bound 39 = .ok (.iload_n 1, 1) := by decide +kernel
theorem dX8_bound_40 : decode cX8_bound 40 = .ok (.ishl, 1) := by decide +kernel
theorem dX8_bound_41 : decode cX8_bound 41 = .ok (.iconst 1, 1) := by decide +kernel
theorem dX8_bound_42 : decode cX8_bound 42 = .ok (.ldc2_w 160, 3) := by decide +kernel
theorem dX8_bound_45 : decode cX8_bound 45 = .ok (.invokevirtual 162, 3) := by decide +kernel
theorem dX8_bound_48 : decode cX8_bound 48 = .ok (.lstore 4, 2) := by decide +kernel
theorem dX8_bound_50 : decode cX8_bound 50 = .ok (.lload 4, 2) := by decide +kernel
theorem dX8_bound_52 : decode cX8_bound 52 = .ok (.lconst 1, 1) := by decide +kernel
theorem dX8_bound_53 : decode cX8_bound 53 = .ok (.lcmp, 1) := by decide +kernel
theorem dX8_bound_54 : decode cX8_bound 54 = .ok (.ifCond .ne 7, 3) := by decide +kernel
theorem dX8_bound_57 : decode cX8_bound 57 = .ok (.iconst (-1), 1) := by decide +kernel
theorem dX8_bound_58 : decode cX8_bound 58 = .ok (.goto 9, 3) := by decide +kernel
theorem dX8_bound_61 : decode cX8_bound 61 = .ok (.lload 4, 2) := by decide +kernel
theorem dX8_bound_63 : decode cX8_bound 63 = .ok (.iload_n 3, 1) := by decide +kernel
theorem dX8_bound_64 : decode cX8_bound 64 = .ok (.invokestatic 100, 3) := by decide +kernel
theorem dX8_bound_67 : decode cX8_bound 67 = .ok (.ireturn, 1) := by decide +kernel
theorem dX8_count_0 : decode cX8_count 0 = .ok (.iload_n 1, 1) := by decide +kernel
theorem dX8_count_1 : decode cX8_count 1 = .ok (.tableswitch 48 0 2 #[27, 32, 40], 27) := by decide +kernel
theorem dX8_count_28 : decode cX8_count 28 = .ok (.aload_n 0, 1) := by decide +kernel
theorem dX8_count_29 : decode cX8_count 29 = .ok (.getfield 18, 3) := by decide +kernel
theorem dX8_count_32 : decode cX8_count 32 = .ok (.ireturn, 1) := by decide +kernel
theorem dX8_count_33 : decode cX8_count 33 = .ok (.aload_n 0, 1) := by decide +kernel
theorem dX8_count_34 : decode cX8_count 34 = .ok (.getfield 27, 3) := by decide +kernel
theorem dX8_count_37 : decode cX8_count 37 = .ok (.getfield 166, 3) := by decide +kernel
theorem dX8_count_40 : decode cX8_count 40 = .ok (.ireturn, 1) := by decide +kernel
theorem dX8_count_41 : decode cX8_count 41 = .ok (.aload_n 0, 1) := by decide +kernel
theorem dX8_count_42 : decode cX8_count 42 = .ok (.getfield 31, 3) := by decide +kernel
theorem dX8_count_45 : decode cX8_count 45 = .ok (.getfield 166, 3) := by decide +kernel
theorem dX8_count_48 : decode cX8_count 48 = .ok (.ireturn, 1) := by decide +kernel
theorem dX8_count_49 : decode cX8_count 49 = .ok (.iconst (-1), 1) := by decide +kernel
theorem dX8_count_50 : decode cX8_count 50 = .ok (.ireturn, 1) := by decide +kernel
theorem dX8_isDigit_0 : decode cX8_isDigit 0 = .ok (.iload_n 0, 1) := by decide +kernel
theorem dX8_isDigit_1 : decode cX8_isDigit 1 = .ok (.iconst 1, 1) := by decide +kernel
theorem dX8_isDigit_2 : decode cX8_isDigit 2 = .ok (.if_icmp .lt 13, 3) := by decide +kernel
theorem dX8_isDigit_5 : decode cX8_isDigit 5 = .ok (.iload_n 0, 1) := by decide +kernel
theorem dX8_isDigit_6 : decode cX8_isDigit 6 = .ok (.bipush 9, 2) := by decide +kernel
theorem dX8_isDigit_8 : decode cX8_isDigit 8 = .ok (.if_icmp .gt 7, 3) := by decide +kernel
theorem dX8_isDigit_11 : decode cX8_isDigit 11 = .ok (.iconst 1, 1) := by decide +kernel
theorem dX8_isDigit_12 : decode cX8_isDigit 12 = .ok (.goto 4, 3) := by decide +kernel
theorem dX8_isDigit_15 : decode cX8_isDigit 15 = .ok (.iconst 0, 1) := by decide +kernel
theorem dX8_isDigit_16 : decode cX8_isDigit 16 = .ok (.ireturn, 1) := by decide +kernel
theorem dX8_isPart_0 : decode cX8_isPart 0 = .ok (.iload_n 0, 1) := by decide +kernel
theorem dX8_isPart_1 : decode cX8_isPart 1 = .ok (.ifCond .eq 8, 3) := by decide +kernel
theorem dX8_isPart_4 : decode cX8_isPart 4 = .ok (.iload_n 0, 1) := by decide +kernel
theorem dX8_isPart_5 : decode cX8_isPart 5 = .ok (.iconst 1, 1) := by decide +kernel
theorem dX8_isPart_6 : decode cX8_isPart 6 = .ok (.if_icmp .ne 7, 3) := by decide +kernel
theorem dX8_isPart_9 : decode cX8_isPart 9 = .ok (.iconst 1, 1) := by decide +kernel
theorem dX8_isPart_10 : decode cX8_isPart 10 = .ok (.goto 4, 3) := by decide +kernel
theorem dX8_isPart_13 : decode cX8_isPart 13 = .ok (.iconst 0, 1) := by decide +kernel
theorem dX8_isPart_14 : decode cX8_isPart 14 = .ok (.ireturn, 1) := by decide +kernel
theorem dX8_productOfRow_0 : decode cX8_productOfRow 0 = .ok (.ldc2_w 160, 3) := by decide +kernel
theorem dX8_productOfRow_3 : decode cX8_productOfRow 3 = .ok (.lstore_n 2, 1) := by decide +kernel
theorem dX8_productOfRow_4 : decode cX8_productOfRow 4 = .ok (.iconst 0, 1) := by decide +kernel
theorem dX8_productOfRow_5 : decode cX8_productOfRow 5 = .ok (.istore 4, 2) := by decide +kernel
theorem dX8_productOfRow_7 : decode cX8_productOfRow 7 = .ok (.iload 4, 2) := by decide +kernel
theorem dX8_productOfRow_9 : decode cX8_productOfRow 9 = .ok (.aload_n 0, 1) := by decide +kernel
theorem dX8_productOfRow_10 : decode cX8_productOfRow 10 = .ok (.getfield 18, 3) := by decide +kernel
theorem dX8_productOfRow_13 : decode cX8_productOfRow 13 = .ok (.if_icmp .ge 37, 3) := by decide +kernel
theorem dX8_productOfRow_16 : decode cX8_productOfRow 16 = .ok (.aload_n 0, 1) := by decide +kernel
theorem dX8_productOfRow_17 : decode cX8_productOfRow 17 = .ok (.getfield 27, 3) := by decide +kernel
theorem dX8_productOfRow_20 : decode cX8_productOfRow 20 = .ok (.iload_n 1, 1) := by decide +kernel
theorem dX8_productOfRow_21 : decode cX8_productOfRow 21 = .ok (.iload 4, 2) := by decide +kernel
theorem dX8_productOfRow_23 : decode cX8_productOfRow 23 = .ok (.invokevirtual 93, 3) := by decide +kernel
theorem dX8_productOfRow_26 : decode cX8_productOfRow 26 = .ok (.ifCond .eq 18, 3) := by decide +kernel
theorem dX8_productOfRow_29 : decode cX8_productOfRow 29 = .ok (.lload_n 2, 1) := by decide +kernel
theorem dX8_productOfRow_30 : decode cX8_productOfRow 30 = .ok (.aload_n 0, 1) := by decide +kernel
theorem dX8_productOfRow_31 : decode cX8_productOfRow 31 = .ok (.getfield 27, 3) := by decide +kernel
theorem dX8_productOfRow_34 : decode cX8_productOfRow 34 = .ok (.iload_n 1, 1) := by decide +kernel
theorem dX8_productOfRow_35 : decode cX8_productOfRow 35 = .ok (.iload 4, 2) := by decide +kernel
theorem dX8_productOfRow_37 : decode cX8_productOfRow 37 = .ok (.invokevirtual 96, 3) := by decide +kernel
theorem dX8_productOfRow_40 : decode cX8_productOfRow 40 = .ok (.invokestatic 169, 3) := by decide +kernel
theorem dX8_productOfRow_43 : decode cX8_productOfRow 43 = .ok (.lstore_n 2, 1) := by decide +kernel
theorem dX8_productOfRow_44 : decode cX8_productOfRow 44 = .ok (.iinc 4 1, 3) := by decide +kernel
theorem dX8_productOfRow_47 : decode cX8_productOfRow 47 = .ok (.goto (-40), 3) := by decide +kernel
theorem dX8_productOfRow_50 : decode cX8_productOfRow 50 = .ok (.lload_n 2, 1) := by decide +kernel
theorem dX8_productOfRow_51 : decode cX8_productOfRow 51 = .ok (.lreturn, 1) := by decide +kernel
theorem dX8_sizeOfGreatestRoot_0 : decode cX8_sizeOfGreatestRoot 0 = .ok (.aload_n 0, 1) := by decide +kernel
theorem dX8_sizeOfGreatestRoot_1 : decode cX8_sizeOfGreatestRoot 1 = .ok (.getfield 44, 3) := by decide +kernel
theorem dX8_sizeOfGreatestRoot_4 : decode cX8_sizeOfGreatestRoot 4 = .ok (.aload_n 0, 1) := by decide +kernel
theorem dX8_sizeOfGreatestRoot_5 : decode cX8_sizeOfGreatestRoot 5 = .ok (.getfield 27, 3) := by decide +kernel
theorem dX8_sizeOfGreatestRoot_8 : decode cX8_sizeOfGreatestRoot 8 = .ok (.invokevirtual 172, 3) := by decide +kernel
theorem dX8_sizeOfGreatestRoot_11 : decode cX8_sizeOfGreatestRoot 11 = .ok (.iconst 0, 1) := by decide +kernel
theorem dX8_sizeOfGreatestRoot_12 : decode cX8_sizeOfGreatestRoot 12 = .ok (.istore_n 1, 1) := by decide +kernel
theorem dX8_sizeOfGreatestRoot_13 : decode cX8_sizeOfGreatestRoot 13 = .ok (.iconst 3, 1) := by decide +kernel
theorem dX8_sizeOfGreatestRoot_14 : decode cX8_sizeOfGreatestRoot 14 = .ok (.istore_n 2, 1) := by decide +kernel
theorem dX8_sizeOfGreatestRoot_15 : decode cX8_sizeOfGreatestRoot 15 = .ok (.iload_n 2, 1) := by decide +kernel
theorem dX8_sizeOfGreatestRoot_16 : decode cX8_sizeOfGreatestRoot 16 = .ok (.aload_n 0, 1) := by decide +kernel
theorem dX8_sizeOfGreatestRoot_17 : decode cX8_sizeOfGreatestRoot 17 = .ok (.getfield 18, 3) := by decide +kernel
theorem dX8_sizeOfGreatestRoot_20 : decode cX8_sizeOfGreatestRoot 20 = .ok (.if_icmp .gt 57, 3) := by decide +kernel
theorem dX8_sizeOfGreatestRoot_23 : decode cX8_sizeOfGreatestRoot 23 = .ok (.aload_n 0, 1) := by decide +kernel
theorem dX8_sizeOfGreatestRoot_24 : decode cX8_sizeOfGreatestRoot 24 = .ok (.getfield 44, 3) := by decide +kernel
theorem dX8_sizeOfGreatestRoot_27 : decode cX8_sizeOfGreatestRoot 27 = .ok (.getfield 156, 3) := by decide +kernel
theorem dX8_sizeOfGreatestRoot_30 : decode cX8_sizeOfGreatestRoot 30 = .ok (.iload_n 2, 1) := by decide +kernel
theorem dX8_sizeOfGreatestRoot_31 : decode cX8_sizeOfGreatestRoot 31 = .ok (.laload, 1) := by decide +kernel
theorem dX8_sizeOfGreatestRoot_32 : decode cX8_sizeOfGreatestRoot 32 = .ok (.lstore_n 3, 1) := by decide +kernel
theorem dX8_sizeOfGreatestRoot_33 : decode cX8_sizeOfGreatestRoot 33 = .ok (.lload_n 3, 1) := by decide +kernel
theorem dX8_sizeOfGreatestRoot_34 : decode cX8_sizeOfGreatestRoot 34 = .ok (.ldc2_w 160, 3) := by decide +kernel
theorem dX8_sizeOfGreatestRoot_37 : decode cX8_sizeOfGreatestRoot 37 = .ok (.invokestatic 148, 3) := by decide +kernel
theorem dX8_sizeOfGreatestRoot_40 : decode cX8_sizeOfGreatestRoot 40 = .ok (.ifCond .eq 31, 3) := by decide +kernel
theorem dX8_sizeOfGreatestRoot_43 : decode cX8_sizeOfGreatestRoot 43 = .ok (.iload_n 1, 1) := by decide +kernel
theorem dX8_sizeOfGreatestRoot_44 : decode cX8_sizeOfGreatestRoot 44 = .ok (.ifCond .eq 25, 3) := by decide +kernel
theorem dX8_sizeOfGreatestRoot_47 : decode cX8_sizeOfGreatestRoot 47 = .ok (.aload_n 0, 1) := by decide +kernel
theorem dX8_sizeOfGreatestRoot_48 : decode cX8_sizeOfGreatestRoot 48 = .ok (.getfield 65, 3) := by decide +kernel
theorem dX8_sizeOfGreatestRoot_51 : decode cX8_sizeOfGreatestRoot 51 = .ok (.lload_n 3, 1) := by decide +kernel
theorem dX8_sizeOfGreatestRoot_52 : decode cX8_sizeOfGreatestRoot 52 = .ok (.iload_n 2, 1) := by decide +kernel
theorem dX8_sizeOfGreatestRoot_53 : decode cX8_sizeOfGreatestRoot 53 = .ok (.aload_n 0, 1) := by decide +kernel
theorem dX8_sizeOfGreatestRoot_54 : decode cX8_sizeOfGreatestRoot 54 = .ok (.getfield 44, 3) := by decide +kernel
theorem dX8_sizeOfGreatestRoot_57 : decode cX8_sizeOfGreatestRoot 57 = .ok (.getfield 156, 3) := by decide +kernel
theorem dX8_sizeOfGreatestRoot_60 : decode cX8_sizeOfGreatestRoot 60 = .ok (.iload_n 1, 1) := by decide +kernel
theorem dX8_sizeOfGreatestRoot_61 : decode cX8_sizeOfGreatestRoot 61 = .ok (.laload, 1) := by decide +kernel
theorem dX8_sizeOfGreatestRoot_62 : decode cX8_sizeOfGreatestRoot 62 = .ok (.iload_n 1, 1) := by decide +kernel
theorem dX8_sizeOfGreatestRoot_63 : decode cX8_sizeOfGreatestRoot 63 = .ok (.invokevirtual 175, 3) := by decide +kernel
theorem dX8_sizeOfGreatestRoot_66 : decode cX8_sizeOfGreatestRoot 66 = .ok (.ifCond .eq 5, 3) := by decide +kernel
theorem dX8_sizeOfGreatestRoot_69 : decode cX8_sizeOfGreatestRoot 69 = .ok (.iload_n 2, 1) := by decide +kernel
theorem dX8_sizeOfGreatestRoot_70 : decode cX8_sizeOfGreatestRoot 70 = .ok (.istore_n 1, 1) := by decide +kernel
theorem dX8_sizeOfGreatestRoot_71 : decode cX8_sizeOfGreatestRoot 71 = .ok (.iinc 2 1, 3) := by decide +kernel
theorem dX8_sizeOfGreatestRoot_74 : decode cX8_sizeOfGreatestRoot 74 = .ok (.goto (-59), 3) := by decide +kernel
theorem dX8_sizeOfGreatestRoot_77 : decode cX8_sizeOfGreatestRoot 77 = .ok (.iload_n 1, 1) := by decide +kernel
theorem dX8_sizeOfGreatestRoot_78 : decode cX8_sizeOfGreatestRoot 78 = .ok (.ireturn, 1) := by decide +kernel
theorem dX8_greatestWay_0 : decode cX8_greatestWay 0 = .ok (.iload_n 1, 1) := by decide +kernel
theorem dX8_greatestWay_1 : decode cX8_greatestWay 1 = .ok (.iload_n 2, 1) := by decide +kernel
theorem dX8_greatestWay_2 : decode cX8_greatestWay 2 = .ok (.if_icmp .ne 6, 3) := by decide +kernel
theorem dX8_greatestWay_5 : decode cX8_greatestWay 5 = .ok (.lload 5, 2) := by decide +kernel
theorem dX8_greatestWay_7 : decode cX8_greatestWay 7 = .ok (.lreturn, 1) := by decide +kernel
theorem dX8_greatestWay_8 : decode cX8_greatestWay 8 = .ok (.lconst 1, 1) := by decide +kernel
theorem dX8_greatestWay_9 : decode cX8_greatestWay 9 = .ok (.lstore 7, 2) := by decide +kernel
theorem dX8_greatestWay_11 : decode cX8_greatestWay 11 = .ok (.iload 4, 2) := by decide +kernel
theorem dX8_greatestWay_13 : decode cX8_greatestWay 13 = .ok (.aload_n 0, 1) := by decide +kernel
theorem dX8_greatestWay_14 : decode cX8_greatestWay 14 = .ok (.getfield 18, 3) := by decide +kernel
theorem dX8_greatestWay_17 : decode cX8_greatestWay 17 = .ok (.if_icmp .lt 6, 3) := by decide +kernel
theorem dX8_greatestWay_20 : decode cX8_greatestWay 20 = .ok (.lload 7, 2) := by decide +kernel
theorem dX8_greatestWay_22 : decode cX8_greatestWay 22 = .ok (.lreturn, 1) := by decide +kernel
theorem dX8_greatestWay_23 : decode cX8_greatestWay 23 = .ok (.iconst 0, 1) := by decide +kernel
theorem dX8_greatestWay_24 : decode cX8_greatestWay 24 = .ok (.istore 9, 2) := by decide +kernel
theorem dX8_greatestWay_26 : decode cX8_greatestWay 26 = .ok (.iload 9, 2) := by decide +kernel
theorem dX8_greatestWay_28 : decode cX8_greatestWay 28 = .ok (.aload_n 0, 1) := by decide +kernel
theorem dX8_greatestWay_29 : decode cX8_greatestWay 29 = .ok (.getfield 18, 3) := by decide +kernel
theorem dX8_greatestWay_32 : decode cX8_greatestWay 32 = .ok (.if_icmp .ge 83, 3) := by decide +kernel
theorem dX8_greatestWay_35 : decode cX8_greatestWay 35 = .ok (.iload_n 3, 1) := by decide +kernel
theorem dX8_greatestWay_36 : decode cX8_greatestWay 36 = .ok (.iload 9, 2) := by decide +kernel
theorem dX8_greatestWay_38 : decode cX8_greatestWay 38 = .ok (.ishr, 1) := by decide +kernel
theorem dX8_greatestWay_39 : decode cX8_greatestWay 39 = .ok (.iconst 1, 1) := by decide +kernel
theorem dX8_greatestWay_40 : decode cX8_greatestWay 40 = .ok (.iand, 1) := by decide +kernel
theorem dX8_greatestWay_41 : decode cX8_greatestWay 41 = .ok (.ifCond .ne 68, 3) := by decide +kernel
theorem dX8_greatestWay_44 : decode cX8_greatestWay 44 = .ok (.aload_n 0, 1) := by decide +kernel
theorem dX8_greatestWay_45 : decode cX8_greatestWay 45 = .ok (.getfield 31, 3) := by decide +kernel
theorem dX8_greatestWay_48 : decode cX8_greatestWay 48 = .ok (.iload_n 1, 1) := by decide +kernel
theorem dX8_greatestWay_49 : decode cX8_greatestWay 49 = .ok (.iload 9, 2) := by decide +kernel
theorem dX8_greatestWay_51 : decode cX8_greatestWay 51 = .ok (.invokevirtual 93, 3) := by decide +kernel
theorem dX8_greatestWay_54 : decode cX8_greatestWay 54 = .ok (.ifCond .eq 55, 3) := by decide +kernel
theorem dX8_greatestWay_57 : decode cX8_greatestWay 57 = .ok (.lload 5, 2) := by decide +kernel
theorem dX8_greatestWay_59 : decode cX8_greatestWay 59 = .ok (.aload_n 0, 1) := by decide +kernel
theorem dX8_greatestWay_60 : decode cX8_greatestWay 60 = .ok (.getfield 31, 3) := by decide +kernel
theorem dX8_greatestWay_63 : decode cX8_greatestWay 63 = .ok (.iload_n 1, 1) := by decide +kernel
theorem dX8_greatestWay_64 : decode cX8_greatestWay 64 = .ok (.iload 9, 2) := by decide +kernel
theorem dX8_greatestWay_66 : decode cX8_greatestWay 66 = .ok (.invokevirtual 96, 3) := by decide +kernel
theorem dX8_greatestWay_69 : decode cX8_greatestWay 69 = .ok (.invokestatic 169, 3) := by decide +kernel
theorem dX8_greatestWay_72 : decode cX8_greatestWay 72 = .ok (.lstore 10, 2) := by decide +kernel
theorem dX8_greatestWay_74 : decode cX8_greatestWay 74 = .ok (.aload_n 0, 1) := by decide +kernel
theorem dX8_greatestWay_75 : decode cX8_greatestWay 75 = .ok (.iload 9, 2) := by decide +kernel
theorem dX8_greatestWay_77 : decode cX8_greatestWay 77 = .ok (.iload_n 2, 1) := by decide +kernel
theorem dX8_greatestWay_78 : decode cX8_greatestWay 78 = .ok (.iload_n 3, 1) := by decide +kernel
theorem dX8_greatestWay_79 : decode cX8_greatestWay 79 = .ok (.iconst 1, 1) := by decide +kernel
theorem dX8_greatestWay_80 : decode cX8_greatestWay 80 = .ok (.iload 9, 2) := by decide +kernel
theorem dX8_greatestWay_82 : decode cX8_greatestWay 82 = .ok (.ishl, 1) := by decide +kernel
theorem dX8_greatestWay_83 : decode cX8_greatestWay 83 = .ok (.ior, 1) := by decide +kernel
theorem dX8_greatestWay_84 : decode cX8_greatestWay 84 = .ok (.iload 4, 2) := by decide +kernel
theorem dX8_greatestWay_86 : decode cX8_greatestWay 86 = .ok (.iconst 1, 1) := by decide +kernel
theorem dX8_greatestWay_87 : decode cX8_greatestWay 87 = .ok (.iadd, 1) := by decide +kernel
theorem dX8_greatestWay_88 : decode cX8_greatestWay 88 = .ok (.lload 10, 2) := by decide +kernel
theorem dX8_greatestWay_90 : decode cX8_greatestWay 90 = .ok (.invokevirtual 162, 3) := by decide +kernel
theorem dX8_greatestWay_93 : decode cX8_greatestWay 93 = .ok (.lstore 12, 2) := by decide +kernel
theorem dX8_greatestWay_95 : decode cX8_greatestWay 95 = .ok (.lload 12, 2) := by decide +kernel
theorem dX8_greatestWay_97 : decode cX8_greatestWay 97 = .ok (.lload 7, 2) := by decide +kernel
theorem dX8_greatestWay_99 : decode cX8_greatestWay 99 = .ok (.invokestatic 148, 3) := by decide +kernel
theorem dX8_greatestWay_102 : decode cX8_greatestWay 102 = .ok (.ifCond .eq 7, 3) := by decide +kernel
theorem dX8_greatestWay_105 : decode cX8_greatestWay 105 = .ok (.lload 12, 2) := by decide +kernel
theorem dX8_greatestWay_107 : decode cX8_greatestWay 107 = .ok (.lstore 7, 2) := by decide +kernel
theorem dX8_greatestWay_109 : decode cX8_greatestWay 109 = .ok (.iinc 9 1, 3) := by decide +kernel
theorem dX8_greatestWay_112 : decode cX8_greatestWay 112 = .ok (.goto (-86), 3) := by decide +kernel
theorem dX8_greatestWay_115 : decode cX8_greatestWay 115 = .ok (.lload 7, 2) := by decide +kernel
theorem dX8_greatestWay_117 : decode cX8_greatestWay 117 = .ok (.lreturn, 1) := by decide +kernel
end
section
-- decode rows: X9a
theorem dX9_init_0 : decode cX9_init 0 = .ok (.aload_n 0, 1) := by decide +kernel
theorem dX9_init_1 : decode cX9_init 1 = .ok (.invokespecial 1, 3) := by decide +kernel
theorem dX9_init_4 : decode cX9_init 4 = .ok (.aload_n 0, 1) := by decide +kernel
theorem dX9_init_5 : decode cX9_init 5 = .ok (.bipush 15, 2) := by decide +kernel
theorem dX9_init_7 : decode cX9_init 7 = .ok (.newarray .int, 2) := by decide +kernel
theorem dX9_init_9 : decode cX9_init 9 = .ok (.putfield 9, 3) := by decide +kernel
theorem dX9_init_12 : decode cX9_init 12 = .ok (.aload_n 0, 1) := by decide +kernel
theorem dX9_init_13 : decode cX9_init 13 = .ok (.bipush 15, 2) := by decide +kernel
theorem dX9_init_15 : decode cX9_init 15 = .ok (.newarray .int, 2) := by decide +kernel
theorem dX9_init_17 : decode cX9_init 17 = .ok (.putfield 13, 3) := by decide +kernel
theorem dX9_init_20 : decode cX9_init 20 = .ok (.aload_n 0, 1) := by decide +kernel
theorem dX9_init_21 : decode cX9_init 21 = .ok (.bipush 15, 2) := by decide +kernel
theorem dX9_init_23 : decode cX9_init 23 = .ok (.newarray .int, 2) := by decide +kernel
theorem dX9_init_25 : decode cX9_init 25 = .ok (.putfield 16, 3) := by decide +kernel
theorem dX9_init_28 : decode cX9_init 28 = .ok (.aload_n 0, 1) := by decide +kernel
theorem dX9_init_29 : decode cX9_init 29 = .ok (.bipush 15, 2) := by decide +kernel
theorem dX9_init_31 : decode cX9_init 31 = .ok (.newarray .int, 2) := by decide +kernel
theorem dX9_init_33 : decode cX9_init 33 = .ok (.putfield 19, 3) := by decide +kernel
theorem dX9_init_36 : decode cX9_init 36 = .ok (.aload_n 0, 1) := by decide +kernel
theorem dX9_init_37 : decode cX9_init 37 = .ok (.bipush 15, 2) := by decide +kernel
theorem dX9_init_39 : decode cX9_init 39 = .ok (.newarray .int, 2) := by decide +kernel
theorem dX9_init_41 : decode cX9_init 41 = .ok (.putfield 22, 3) := by decide +kernel
theorem dX9_init_44 : decode cX9_init 44 = .ok (.aload_n 0, 1) := by decide +kernel
theorem dX9_init_45 : decode cX9_init 45 = .ok (.bipush 15, 2) := by decide +kernel
theorem dX9_init_47 : decode cX9_init 47 = .ok (.newarray .int, 2) := by decide +kernel
theorem dX9_init_49 : decode cX9_init 49 = .ok (.putfield 25, 3) := by decide +kernel
theorem dX9_init_52 : decode cX9_init 52 = .ok (.aload_n 0, 1) := by decide +kernel
theorem dX9_init_53 : decode cX9_init 53 = .ok (.bipush 15, 2) := by decide +kernel
theorem dX9_init_55 : decode cX9_init 55 = .ok (.newarray .int, 2) := by decide +kernel
theorem dX9_init_57 : decode cX9_init 57 = .ok (.putfield 28, 3) := by decide +kernel
theorem dX9_init_60 : decode cX9_init 60 = .ok (.aload_n 0, 1) := by decide +kernel
theorem dX9_init_61 : decode cX9_init 61 = .ok (.bipush 15, 2) := by decide +kernel
theorem dX9_init_63 : decode cX9_init 63 = .ok (.newarray .int, 2) := by decide +kernel
theorem dX9_init_65 : decode cX9_init 65 = .ok (.putfield 31, 3) := by decide +kernel
theorem dX9_init_68 : decode cX9_init 68 = .ok (.aload_n 0, 1) := by decide +kernel
theorem dX9_init_69 : decode cX9_init 69 = .ok (.bipush 6, 2) := by decide +kernel
theorem dX9_init_71 : decode cX9_init 71 = .ok (.newarray .long, 2) := by decide +kernel
theorem dX9_init_73 : decode cX9_init 73 = .ok (.putfield 34, 3) := by decide +kernel
theorem dX9_init_76 : decode cX9_init 76 = .ok (.aload_n 0, 1) := by decide +kernel
theorem dX9_init_77 : decode cX9_init 77 = .ok (.bipush 6, 2) := by decide +kernel
theorem dX9_init_79 : decode cX9_init 79 = .ok (.newarray .long, 2) := by decide +kernel
theorem dX9_init_81 : decode cX9_init 81 = .ok (.putfield 38, 3) := by decide +kernel
theorem dX9_init_84 : decode cX9_init 84 = .ok (.aload_n 0, 1) := by decide +kernel
theorem dX9_init_85 : decode cX9_init 85 = .ok (.bipush 6, 2) := by decide +kernel
theorem dX9_init_87 : decode cX9_init 87 = .ok (.newarray .boolean, 2) := by decide +kernel
theorem dX9_init_89 : decode cX9_init 89 = .ok (.putfield 41, 3) := by decide +kernel
theorem dX9_init_92 : decode cX9_init 92 = .ok (.aload_n 0, 1) := by decide +kernel
theorem dX9_init_93 : decode cX9_init 93 = .ok (.iconst 5, 1) := by decide +kernel
theorem dX9_init_94 : decode cX9_init 94 = .ok (.newarray .int, 2) := by decide +kernel
theorem dX9_init_96 : decode cX9_init 96 = .ok (.putfield 45, 3) := by decide +kernel
theorem dX9_init_99 : decode cX9_init 99 = .ok (.aload_n 0, 1) := by decide +kernel
theorem dX9_init_100 : decode cX9_init 100 = .ok (.bipush 12, 2) := by decide +kernel
theorem dX9_init_102 : decode cX9_init 102 = .ok (.newarray .long, 2) := by decide +kernel
theorem dX9_init_104 : decode cX9_init 104 = .ok (.putfield 48, 3) := by decide +kernel
theorem dX9_init_107 : decode cX9_init 107 = .ok (.aload_n 0, 1) := by decide +kernel
theorem dX9_init_108 : decode cX9_init 108 = .ok (.bipush 12, 2) := by decide +kernel
theorem dX9_init_110 : decode cX9_init 110 = .ok (.newarray .long, 2) := by decide +kernel
theorem dX9_init_112 : decode cX9_init 112 = .ok (.putfield 51, 3) := by decide +kernel
theorem dX9_init_115 : decode cX9_init 115 = .ok (.aload_n 0, 1) := by decide +kernel
theorem dX9_init_116 : decode cX9_init 116 = .ok (.bipush 6, 2) := by decide +kernel
theorem dX9_init_118 : decode cX9_init 118 = .ok (.newarray .int, 2) := by decide +kernel
theorem dX9_init_120 : decode cX9_init 120 = .ok (.putfield 54, 3) := by decide +kernel
theorem dX9_init_123 : decode cX9_init 123 = .ok (.aload_n 0, 1) := by decide +kernel
theorem dX9_init_124 : decode cX9_init 124 = .ok (.iconst 2, 1) := by decide +kernel
theorem dX9_init_125 : decode cX9_init 125 = .ok (.bipush 6, 2) := by decide +kernel
theorem dX9_init_127 : decode cX9_init 127 = .ok (.iload_n 1, 1) := by decide +kernel
theorem dX9_init_128 : decode cX9_init 128 = .ok (.invokestatic 57, 3) := by decide +kernel
theorem dX9_init_131 : decode cX9_init 131 = .ok (.invokestatic 63, 3) := by decide +kernel
theorem dX9_init_134 : decode cX9_init 134 = .ok (.putfield 66, 3) := by decide +kernel
theorem dX9_init_137 : decode cX9_init 137 = .ok (.iconst 0, 1) := by decide +kernel
theorem dX9_init_138 : decode cX9_init 138 = .ok (.istore_n 2, 1) := by decide +kernel
theorem dX9_init_139 : decode cX9_init 139 = .ok (.iconst 0, 1) := by decide +kernel
theorem dX9_init_140 : decode cX9_init 140 = .ok (.istore_n 3, 1) := by decide +kernel
theorem dX9_init_141 : decode cX9_init 141 = .ok (.iload_n 3, 1) := by decide +kernel
theorem dX9_init_142 : decode cX9_init 142 = .ok (.aload_n 0, 1) := by decide +kernel
theorem dX9_init_143 : decode cX9_init 143 = .ok (.getfield 66, 3) := by decide +kernel
theorem dX9_init_146 : decode cX9_init 146 = .ok (.if_icmp .ge 47, 3) := by decide +kernel
theorem dX9_init_149 : decode cX9_init 149 = .ok (.iload_n 3, 1) := by decide +kernel
theorem dX9_init_150 : decode cX9_init 150 = .ok (.iconst 1, 1) := by decide +kernel
theorem dX9_init_151 : decode cX9_init 151 = .ok (.iadd, 1) := by decide +kernel
theorem dX9_init_152 : decode cX9_init 152 = .ok (.istore 4, 2) := by decide +kernel
theorem dX9_init_154 : decode cX9_init 154 = .ok (.iload 4, 2) := by decide +kernel
theorem dX9_init_156 : decode cX9_init 156 = .ok (.aload_n 0, 1) := by decide +kernel
theorem dX9_init_157 : decode cX9_init 157 = .ok (.getfield 66, 3) := by decide +kernel
theorem dX9_init_160 : decode cX9_init 160 = .ok (.if_icmp .ge 27, 3) := by decide +kernel
theorem dX9_init_163 : decode cX9_init 163 = .ok (.aload_n 0, 1) := by decide +kernel
theorem dX9_init_164 : decode cX9_init 164 = .ok (.getfield 28, 3) := by decide +kernel
theorem dX9_init_167 : decode cX9_init 167 = .ok (.iload_n 2, 1) := by decide +kernel
theorem dX9_init_168 : decode cX9_init 168 = .ok (.iload_n 3, 1) := by decide +kernel
theorem dX9_init_169 : decode cX9_init 169 = .ok (.iastore, 1) := by decide +kernel
theorem dX9_init_170 : decode cX9_init 170 = .ok (.aload_n 0, 1) := by decide +kernel
theorem dX9_init_171 : decode cX9_init 171 = .ok (.getfield 31, 3) := by decide +kernel
theorem dX9_init_174 : decode cX9_init 174 = .ok (.iload_n 2, 1) := by decide +kernel
theorem dX9_init_175 : decode cX9_init 175 = .ok (.iload 4, 2) := by decide +kernel
theorem dX9_init_177 : decode cX9_init 177 = .ok (.iastore, 1) := by decide +kernel
theorem dX9_init_178 : decode cX9_init 178 = .ok (.iinc 2 1, 3) := by decide +kernel
theorem dX9_init_181 : decode cX9_init 181 = .ok (.iinc 4 1, 3) := by decide +kernel
theorem dX9_init_184 : decode cX9_init 184 = .ok (.goto (-30), 3) := by decide +kernel
theorem dX9_init_187 : decode cX9_init 187 = .ok (.iinc 3 1, 3) := by decide +kernel
theorem dX9_init_190 : decode cX9_init 190 = .ok (.goto (-49), 3) := by decide +kernel
theorem dX9_init_193 : decode cX9_init 193 = .ok (.aload_n 0, 1) := by decide +kernel
theorem dX9_init_194 : decode cX9_init 194 = .ok (.iload_n 2, 1) := by decide +kernel
theorem dX9_init_195 : decode cX9_init 195 = .ok (.putfield 70, 3) := by decide +kernel
theorem dX9_init_198 : decode cX9_init 198 = .ok (.return_, 1) := by decide +kernel
theorem dX9_in_0 : decode cX9_in 0 = .ok (.iload_n 0, 1) := by decide +kernel
theorem dX9_in_1 : decode cX9_in 1 = .ok (.iload_n 1, 1) := by decide +kernel
theorem dX9_in_2 : decode cX9_in 2 = .ok (.if_icmp .lt 12, 3) := by decide +kernel
theorem dX9_in_5 : decode cX9_in 5 = .ok (.iload_n 0, 1) := by decide +kernel
theorem dX9_in_6 : decode cX9_in 6 = .ok (.iload_n 2, 1) := by decide +kernel
theorem dX9_in_7 : decode cX9_in 7 = .ok (.if_icmp .gt 7, 3) := by decide +kernel
theorem dX9_in_10 : decode cX9_in 10 = .ok (.iconst 1, 1) := by decide +kernel
theorem dX9_in_11 : decode cX9_in 11 = .ok (.goto 4, 3) := by decide +kernel
theorem dX9_in_14 : decode cX9_in 14 = .ok (.iconst 0, 1) := by decide +kernel
theorem dX9_in_15 : decode cX9_in 15 = .ok (.ireturn, 1) := by decide +kernel
theorem dX9_areTwo_0 : decode cX9_areTwo 0 = .ok (.iload_n 1, 1) := by decide +kernel
theorem dX9_areTwo_1 : decode cX9_areTwo 1 = .ok (.iconst 0, 1) := by decide +kernel
theorem dX9_areTwo_2 : decode cX9_areTwo 2 = .ok (.aload_n 0, 1) := by decide +kernel
theorem dX9_areTwo_3 : decode cX9_areTwo 3 = .ok (.getfield 66, 3) := by decide +kernel
theorem dX9_areTwo_6 : decode cX9_areTwo 6 = .ok (.iconst 1, 1) := by decide +kernel
theorem dX9_areTwo_7 : decode cX9_areTwo 7 = .ok (.isub, 1) := by decide +kernel
theorem dX9_areTwo_8 : decode cX9_areTwo 8 = .ok (.invokestatic 73, 3) := by decide +kernel
theorem dX9_areTwo_11 : decode cX9_areTwo 11 = .ok (.ifCond .eq 26, 3) := by decide +kernel
theorem dX9_areTwo_14 : decode cX9_areTwo 14 = .ok (.iload_n 2, 1) := by decide +kernel
theorem dX9_areTwo_15 : decode cX9_areTwo 15 = .ok (.iconst 0, 1) := by decide +kernel
theorem dX9_areTwo_16 : decode cX9_areTwo 16 = .ok (.aload_n 0, 1) := by decide +kernel
theorem dX9_areTwo_17 : decode cX9_areTwo 17 = .ok (.getfield 66, 3) := by decide +kernel
theorem dX9_areTwo_20 : decode cX9_areTwo 20 = .ok (.iconst 1, 1) := by decide +kernel
theorem dX9_areTwo_21 : decode cX9_areTwo 21 = .ok (.isub, 1) := by decide +kernel
theorem dX9_areTwo_22 : decode cX9_areTwo 22 = .ok (.invokestatic 73, 3) := by decide +kernel
theorem dX9_areTwo_25 : decode cX9_areTwo 25 = .ok (.ifCond .eq 12, 3) := by decide +kernel
theorem dX9_areTwo_28 : decode cX9_areTwo 28 = .ok (.iload_n 1, 1) := by decide +kernel
theorem dX9_areTwo_29 : decode cX9_areTwo 29 = .ok (.iload_n 2, 1) := by decide +kernel
theorem dX9_areTwo_30 : decode cX9_areTwo 30 = .ok (.if_icmp .eq 7, 3) := by decide +kernel
theorem dX9_areTwo_33 : decode cX9_areTwo 33 = .ok (.iconst 1, 1) := by decide +kernel
theorem dX9_areTwo_34 : decode cX9_areTwo 34 = .ok (.goto 4, 3) := by decide +kernel
theorem dX9_areTwo_37 : decode cX9_areTwo 37 = .ok (.iconst 0, 1) := by decide +kernel
theorem dX9_areTwo_38 : decode cX9_areTwo 38 = .ok (.ireturn, 1) := by decide +kernel
theorem dX9_pair_0 : decode cX9_pair 0 = .ok (.iload_n 1, 1) := by decide +kernel
theorem dX9_pair_1 : decode cX9_pair 1 = .ok (.iload_n 2, 1) := by decide +kernel
theorem dX9_pair_2 : decode cX9_pair 2 = .ok (.invokestatic 57, 3) := by decide +kernel
theorem dX9_pair_5 : decode cX9_pair 5 = .ok (.istore_n 3, 1) := by decide +kernel
theorem dX9_pair_6 : decode cX9_pair 6 = .ok (.iload_n 1, 1) := by decide +kernel
theorem dX9_pair_7 : decode cX9_pair 7 = .ok (.iload_n 2, 1) := by decide +kernel
theorem dX9_pair_8 : decode cX9_pair 8 = .ok (.invokestatic 63, 3) := by decide +kernel
theorem dX9_pair_11 : decode cX9_pair 11 = .ok (.istore 4, 2) := by decide +kernel
theorem dX9_pair_13 : decode cX9_pair 13 = .ok (.iconst 0, 1) := by decide +kernel
theorem dX9_pair_14 : decode cX9_pair 14 = .ok (.istore 5, 2) := by decide +kernel
theorem dX9_pair_16 : decode cX9_pair 16 = .ok (.aload_n 0, 1) := by decide +kernel
theorem dX9_pair_17 : decode cX9_pair 17 = .ok (.getfield 28, 3) := by decide +kernel
theorem dX9_pair_20 : decode cX9_pair 20 = .ok (.iload 5, 2) := by decide +kernel
theorem dX9_pair_22 : decode cX9_pair 22 = .ok (.iaload, 1) := by decide +kernel
theorem dX9_pair_23 : decode cX9_pair 23 = .ok (.iload_n 3, 1) := by decide +kernel
theorem dX9_pair_24 : decode cX9_pair 24 = .ok (.if_icmp .ne 15, 3) := by decide +kernel
theorem dX9_pair_27 : decode cX9_pair 27 = .ok (.aload_n 0, 1) := by decide +kernel
theorem dX9_pair_28 : decode cX9_pair 28 = .ok (.getfield 31, 3) := by decide +kernel
theorem dX9_pair_31 : decode cX9_pair 31 = .ok (.iload 5, 2) := by decide +kernel
theorem dX9_pair_33 : decode cX9_pair 33 = .ok (.iaload, 1) := by decide +kernel
theorem dX9_pair_34 : decode cX9_pair 34 = .ok (.iload 4, 2) := by decide +kernel
theorem dX9_pair_36 : decode cX9_pair 36 = .ok (.if_icmp .eq 9, 3) := by decide +kernel
theorem dX9_pair_39 : decode cX9_pair 39 = .ok (.iinc 5 1, 3) := by decide +kernel
theorem dX9_pair_42 : decode cX9_pair 42 = .ok (.goto (-26), 3) := by decide +kernel
theorem dX9_pair_45 : decode cX9_pair 45 = .ok (.iload 5, 2) := by decide +kernel
theorem dX9_pair_47 : decode cX9_pair 47 = .ok (.ireturn, 1) := by decide +kernel
theorem dX9_divisor_0 : decode cX9_divisor 0 = .ok (.lload_n 0, 1) := by decide +kernel
theorem dX9_divisor_1 : decode cX9_divisor 1 = .ok (.lstore 4, 2) := by decide +kernel
theorem dX9_divisor_3 : decode cX9_divisor 3 = .ok (.lload_n 2, 1) := by decide +kernel
theorem dX9_divisor_4 : decode cX9_divisor 4 = .ok (.lstore 6, 2) := by decide +kernel
theorem dX9_divisor_6 : decode cX9_divisor 6 = .ok (.lload 6, 2) := by decide +kernel
theorem dX9_divisor_8 : decode cX9_divisor 8 = .ok (.lconst 0, 1) := by decide +kernel
theorem dX9_divisor_9 : decode cX9_divisor 9 = .ok (.lcmp, 1) := by decide +kernel
theorem dX9_divisor_10 : decode cX9_divisor 10 = .ok (.ifCond .eq 21, 3) := by decide +kernel
theorem dX9_divisor_13 : decode cX9_divisor 13 = .ok (.lload 4, 2) := by decide +kernel
theorem dX9_divisor_15 : decode cX9_divisor 15 = .ok (.lload 6, 2) := by decide +kernel
theorem dX9_divisor_17 : decode cX9_divisor 17 = .ok (.lrem, 1) := by decide +kernel
theorem dX9_divisor_18 : decode cX9_divisor 18 = .ok (.lstore 8, 2) := by decide +kernel
theorem dX9_divisor_20 : decode cX9_divisor 20 = .ok (.lload 6, 2) := by decide +kernel
theorem dX9_divisor_22 : decode cX9_divisor 22 = .ok (.lstore 4, 2) := by decide +kernel
theorem dX9_divisor_24 : decode cX9_divisor 24 = .ok (.lload 8, 2) := by decide +kernel
theorem dX9_divisor_26 : decode cX9_divisor 26 = .ok (.lstore 6, 2) := by decide +kernel
theorem dX9_divisor_28 : decode cX9_divisor 28 = .ok (.goto (-22), 3) := by decide +kernel
theorem dX9_divisor_31 : decode cX9_divisor 31 = .ok (.lload 4, 2) := by decide +kernel
theorem dX9_divisor_33 : decode cX9_divisor 33 = .ok (.lreturn, 1) := by decide +kernel
theorem dX9_say_0 : decode cX9_say 0 = .ok (.aload_n 0, 1) := by decide +kernel
theorem dX9_say_1 : decode cX9_say 1 = .ok (.iload_n 1, 1) := by decide +kernel
theorem dX9_say_2 : decode cX9_say 2 = .ok (.iload_n 2, 1) := by decide +kernel
theorem dX9_say_3 : decode cX9_say 3 = .ok (.invokevirtual 77, 3) := by decide +kernel
theorem dX9_say_6 : decode cX9_say 6 = .ok (.ifCond .eq 24, 3) := by decide +kernel
theorem dX9_say_9 : decode cX9_say 9 = .ok (.iload_n 3, 1) := by decide +kernel
theorem dX9_say_10 : decode cX9_say 10 = .ok (.iconst 1, 1) := by decide +kernel
theorem dX9_say_11 : decode cX9_say 11 = .ok (.bipush 9, 2) := by decide +kernel
theorem dX9_say_13 : decode cX9_say 13 = .ok (.invokestatic 73, 3) := by decide +kernel
theorem dX9_say_16 : decode cX9_say 16 = .ok (.ifCond .eq 14, 3) := by decide +kernel
theorem dX9_say_19 : decode cX9_say 19 = .ok (.iload 4, 2) := by decide +kernel
theorem dX9_say_21 : decode cX9_say 21 = .ok (.iconst 1, 1) := by decide +kernel
theorem dX9_say_22 : decode cX9_say 22 = .ok (.bipush 9, 2) := by decide +kernel
theorem dX9_say_24 : decode cX9_say 24 = .ok (.invokestatic 73, 3) := by decide +kernel
theorem dX9_say_27 : decode cX9_say 27 = .ok (.ifCond .ne 5, 3) := by decide +kernel
theorem dX9_say_30 : decode cX9_say 30 = .ok (.iconst 0, 1) := by decide +kernel
theorem dX9_say_31 : decode cX9_say 31 = .ok (.ireturn, 1) := by decide +kernel
theorem dX9_say_32 : decode cX9_say 32 = .ok (.iload_n 3, 1) := by decide +kernel
theorem dX9_say_33 : decode cX9_say 33 = .ok (.i2l, 1) := by decide +kernel
theorem dX9_say_34 : decode cX9_say 34 = .ok (.iload 4, 2) := by decide +kernel
theorem dX9_say_36 : decode cX9_say 36 = .ok (.i2l, 1) := by decide +kernel
theorem dX9_say_37 : decode cX9_say 37 = .ok (.invokestatic 81, 3) := by decide +kernel
theorem dX9_say_40 : decode cX9_say 40 = .ok (.l2i, 1) := by decide +kernel
theorem dX9_say_41 : decode cX9_say 41 = .ok (.istore 5, 2) := by decide +kernel
theorem dX9_say_43 : decode cX9_say 43 = .ok (.aload_n 0, 1) := by decide +kernel
theorem dX9_say_44 : decode cX9_say 44 = .ok (.iload_n 1, 1) := by decide +kernel
theorem dX9_say_45 : decode cX9_say 45 = .ok (.iload_n 2, 1) := by decide +kernel
theorem dX9_say_46 : decode cX9_say 46 = .ok (.invokevirtual 85, 3) := by decide +kernel
theorem dX9_say_49 : decode cX9_say 49 = .ok (.istore 6, 2) := by decide +kernel
theorem dX9_say_51 : decode cX9_say 51 = .ok (.aload_n 0, 1) := by decide +kernel
theorem dX9_say_52 : decode cX9_say 52 = .ok (.getfield 9, 3) := by decide +kernel
theorem dX9_say_55 : decode cX9_say 55 = .ok (.iload 6, 2) := by decide +kernel
theorem dX9_say_57 : decode cX9_say 57 = .ok (.iload_n 1, 1) := by decide +kernel
theorem dX9_say_58 : decode cX9_say 58 = .ok (.iload_n 2, 1) := by decide +kernel
theorem dX9_say_59 : decode cX9_say 59 = .ok (.if_icmp .ge 7, 3) := by decide +kernel
theorem dX9_say_62 : decode cX9_say 62 = .ok (.iload_n 3, 1) := by decide +kernel
theorem dX9_say_63 : decode cX9_say 63 = .ok (.goto 5, 3) := by decide +kernel
theorem dX9_say_66 : decode cX9_say 66 = .ok (.iload 4, 2) := by decide +kernel
theorem dX9_say_68 : decode cX9_say 68 = .ok (.iload 5, 2) := by decide +kernel
theorem dX9_say_70 : decode cX9_say 70 = .ok (.idiv, 1) := by decide +kernel
theorem dX9_say_71 : decode cX9_say 71 = .ok (.iastore, 1) := by decide +kernel
theorem dX9_say_72 : decode cX9_say 72 = .ok (.aload_n 0, 1) := by decide +kernel
theorem dX9_say_73 : decode cX9_say 73 = .ok (.getfield 13, 3) := by decide +kernel
theorem dX9_say_76 : decode cX9_say 76 = .ok (.iload 6, 2) := by decide +kernel
theorem dX9_say_78 : decode cX9_say 78 = .ok (.iload_n 1, 1) := by decide +kernel
theorem dX9_say_79 : decode cX9_say 79 = .ok (.iload_n 2, 1) := by decide +kernel
theorem dX9_say_80 : decode cX9_say 80 = .ok (.if_icmp .ge 8, 3) := by decide +kernel
theorem dX9_say_83 : decode cX9_say 83 = .ok (.iload 4, 2) := by decide +kernel
theorem dX9_say_85 : decode cX9_say 85 = .ok (.goto 4, 3) := by decide +kernel
theorem dX9_say_88 : decode cX9_say 88 = .ok (.iload_n 3, 1) := by decide +kernel
theorem dX9_say_89 : decode cX9_say 89 = .ok (.iload 5, 2) := by decide +kernel
theorem dX9_say_91 : decode cX9_say 91 = .ok (.idiv, 1) := by decide +kernel
theorem dX9_say_92 : decode cX9_say 92 = .ok (.iastore, 1) := by decide +kernel
theorem dX9_say_93 : decode cX9_say 93 = .ok (.iconst 1, 1) := by decide +kernel
theorem dX9_say_94 : decode cX9_say 94 = .ok (.ireturn, 1) := by decide +kernel
theorem dX9_unsay_0 : decode cX9_unsay 0 = .ok (.aload_n 0, 1) := by decide +kernel
theorem dX9_unsay_1 : decode cX9_unsay 1 = .ok (.iload_n 1, 1) := by decide +kernel
theorem dX9_unsay_2 : decode cX9_unsay 2 = .ok (.iload_n 2, 1) := by decide +kernel
theorem dX9_unsay_3 : decode cX9_unsay 3 = .ok (.invokevirtual 77, 3) := by decide +kernel
theorem dX9_unsay_6 : decode cX9_unsay 6 = .ok (.ifCond .eq 17, 3) := by decide +kernel
theorem dX9_unsay_9 : decode cX9_unsay 9 = .ok (.aload_n 0, 1) := by decide +kernel
theorem dX9_unsay_10 : decode cX9_unsay 10 = .ok (.getfield 9, 3) := by decide +kernel
theorem dX9_unsay_13 : decode cX9_unsay 13 = .ok (.aload_n 0, 1) := by decide +kernel
theorem dX9_unsay_14 : decode cX9_unsay 14 = .ok (.iload_n 1, 1) := by decide +kernel
theorem dX9_unsay_15 : decode cX9_unsay 15 = .ok (.iload_n 2, 1) := by decide +kernel
theorem dX9_unsay_16 : decode cX9_unsay 16 = .ok (.invokevirtual 85, 3) := by decide +kernel
theorem dX9_unsay_19 : decode cX9_unsay 19 = .ok (.iaload, 1) := by decide +kernel
theorem dX9_unsay_20 : decode cX9_unsay 20 = .ok (.ifCond .ne 5, 3) := by decide +kernel
theorem dX9_unsay_23 : decode cX9_unsay 23 = .ok (.iconst 0, 1) := by decide +kernel
theorem dX9_unsay_24 : decode cX9_unsay 24 = .ok (.ireturn, 1) := by decide +kernel
theorem dX9_unsay_25 : decode cX9_unsay 25 = .ok (.aload_n 0, 1) := by decide +kernel
theorem dX9_unsay_26 : decode cX9_unsay 26 = .ok (.getfield 9, 3) := by decide +kernel
theorem dX9_unsay_29 : decode cX9_unsay 29 = .ok (.aload_n 0, 1) := by decide +kernel
theorem dX9_unsay_30 : decode cX9_unsay 30 = .ok (.iload_n 1, 1) := by decide +kernel
theorem dX9_unsay_31 : decode cX9_unsay 31 = .ok (.iload_n 2, 1) := by decide +kernel
theorem dX9_unsay_32 : decode cX9_unsay 32 = .ok (.invokevirtual 85, 3) := by decide +kernel
theorem dX9_unsay_35 : decode cX9_unsay 35 = .ok (.iconst 0, 1) := by decide +kernel
theorem dX9_unsay_36 : decode cX9_unsay 36 = .ok (.iastore, 1) := by decide +kernel
theorem dX9_unsay_37 : decode cX9_unsay 37 = .ok (.iconst 1, 1) := by decide +kernel
theorem dX9_unsay_38 : decode cX9_unsay 38 = .ok (.ireturn, 1) := by decide +kernel
theorem dX9_isSaid_0 : decode cX9_isSaid 0 = .ok (.aload_n 0, 1) := by decide +kernel
theorem dX9_isSaid_1 : decode cX9_isSaid 1 = .ok (.getfield 9, 3) := by decide +kernel
theorem dX9_isSaid_4 : decode cX9_isSaid 4 = .ok (.aload_n 0, 1) := by decide +kernel
theorem dX9_isSaid_5 : decode cX9_isSaid 5 = .ok (.iload_n 1, 1) := by decide +kernel
theorem dX9_isSaid_6 : decode cX9_isSaid 6 = .ok (.iload_n 2, 1) := by decide +kernel
theorem dX9_isSaid_7 : decode cX9_isSaid 7 = .ok (.invokevirtual 85, 3) := by decide +kernel
theorem dX9_isSaid_10 : decode cX9_isSaid 10 = .ok (.iaload, 1) := by decide +kernel
theorem dX9_isSaid_11 : decode cX9_isSaid 11 = .ok (.ifCond .le 7, 3) := by decide +kernel
theorem dX9_isSaid_14 : decode cX9_isSaid 14 = .ok (.iconst 1, 1) := by decide +kernel
theorem dX9_isSaid_15 : decode cX9_isSaid 15 = .ok (.goto 4, 3) := by decide +kernel
theorem dX9_isSaid_18 : decode cX9_isSaid 18 = .ok (.iconst 0, 1) := by decide +kernel
theorem dX9_isSaid_19 : decode cX9_isSaid 19 = .ok (.ireturn, 1) := by decide +kernel
theorem dX9_topOf_0 : decode cX9_topOf 0 = .ok (.iload_n 1, 1) := by decide +kernel
theorem dX9_topOf_1 : decode cX9_topOf 1 = .ok (.iload_n 2, 1) := by decide +kernel
theorem dX9_topOf_2 : decode cX9_topOf 2 = .ok (.if_icmp .ge 17, 3) := by decide +kernel
theorem dX9_topOf_5 : decode cX9_topOf 5 = .ok (.aload_n 0, 1) := by decide +kernel
theorem dX9_topOf_6 : decode cX9_topOf 6 = .ok (.getfield 9, 3) := by decide +kernel
theorem dX9_topOf_9 : decode cX9_topOf 9 = .ok (.aload_n 0, 1) := by decide +kernel
theorem dX9_topOf_10 : decode cX9_topOf 10 = .ok (.iload_n 1, 1) := by decide +kernel
theorem dX9_topOf_11 : decode cX9_topOf 11 = .ok (.iload_n 2, 1) := by decide +kernel
theorem dX9_topOf_12 : decode cX9_topOf 12 = .ok (.invokevirtual 85, 3) := by decide +kernel
theorem dX9_topOf_15 : decode cX9_topOf 15 = .ok (.iaload, 1) := by decide +kernel
theorem dX9_topOf_16 : decode cX9_topOf 16 = .ok (.goto 14, 3) := by decide +kernel
theorem dX9_topOf_19 : decode cX9_topOf 19 = .ok (.aload_n 0, 1) := by decide +kernel
theorem dX9_topOf_20 : decode cX9_topOf 20 = .ok (.getfield 13, 3) := by decide +kernel
theorem dX9_topOf_23 : decode cX9_topOf 23 = .ok (.aload_n 0, 1) := by decide +kernel
theorem dX9_topOf_24 : decode cX9_topOf 24 = .ok (.iload_n 1, 1) := by decide +kernel
theorem dX9_topOf_25 : decode cX9_topOf 25 = .ok (.iload_n 2, 1) := by decide +kernel
theorem dX9_topOf_26 : decode cX9_topOf 26 = .ok (.invokevirtual 85, 3) := by decide +kernel
theorem dX9_topOf_29 : decode cX9_topOf 29 = .ok (.iaload, 1) := by decide +kernel
theorem dX9_topOf_30 : decode cX9_topOf 30 = .ok (.ireturn, 1) := by decide +kernel
theorem dX9_bottomOf_0 : decode cX9_bottomOf 0 = .ok (.iload_n 1, 1) := by decide +kernel
theorem dX9_bottomOf_1 : decode cX9_bottomOf 1 = .ok (.iload_n 2, 1) := by decide +kernel
end
section
-- decode rows: X9b
theorem dX9_bottomOf_2 : decode cX9_bottomOf 2 = .ok (.if_icmp .ge 17, 3) := by decide +kernel
theorem dX9_bottomOf_5 : decode cX9_bottomOf 5 = .ok (.aload_n 0, 1) := by decide +kernel
theorem dX9_bottomOf_6 : decode cX9_bottomOf 6 = .ok (.getfield 13, 3) := by decide +kernel
theorem dX9_bottomOf_9 : decode cX9_bottomOf 9 = .ok (.aload_n 0, 1) := by decide +kernel
theorem dX9_bottomOf_10 : decode cX9_bottomOf 10 = .ok (.iload_n 1, 1) := by decide +kernel
theorem dX9_bottomOf_11 : decode cX9_bottomOf 11 = .ok (.iload_n 2, 1) := by decide +kernel
theorem dX9_bottomOf_12 : decode cX9_bottomOf 12 = .ok (.invokevirtual 85, 3) := by decide +kernel
theorem dX9_bottomOf_15 : decode cX9_bottomOf 15 = .ok (.iaload, 1) := by decide +kernel
theorem dX9_bottomOf_16 : decode cX9_bottomOf 16 = .ok (.goto 14, 3) := by decide +kernel
theorem dX9_bottomOf_19 : decode cX9_bottomOf 19 = .ok (.aload_n 0, 1) := by decide +kernel
theorem dX9_bottomOf_20 : decode cX9_bottomOf 20 = .ok (.getfield 9, 3) := by decide +kernel
theorem dX9_bottomOf_23 : decode cX9_bottomOf 23 = .ok (.aload_n 0, 1) := by decide +kernel
theorem dX9_bottomOf_24 : decode cX9_bottomOf 24 = .ok (.iload_n 1, 1) := by decide +kernel
theorem dX9_bottomOf_25 : decode cX9_bottomOf 25 = .ok (.iload_n 2, 1) := by decide +kernel
theorem dX9_bottomOf_26 : decode cX9_bottomOf 26 = .ok (.invokevirtual 85, 3) := by decide +kernel
theorem dX9_bottomOf_29 : decode cX9_bottomOf 29 = .ok (.iaload, 1) := by decide +kernel
theorem dX9_bottomOf_30 : decode cX9_bottomOf 30 = .ok (.ireturn, 1) := by decide +kernel
theorem dX9_said_0 : decode cX9_said 0 = .ok (.aload_n 0, 1) := by decide +kernel
theorem dX9_said_1 : decode cX9_said 1 = .ok (.iload_n 1, 1) := by decide +kernel
theorem dX9_said_2 : decode cX9_said 2 = .ok (.iload_n 2, 1) := by decide +kernel
theorem dX9_said_3 : decode cX9_said 3 = .ok (.invokevirtual 77, 3) := by decide +kernel
theorem dX9_said_6 : decode cX9_said 6 = .ok (.ifCond .eq 12, 3) := by decide +kernel
theorem dX9_said_9 : decode cX9_said 9 = .ok (.aload_n 0, 1) := by decide +kernel
theorem dX9_said_10 : decode cX9_said 10 = .ok (.iload_n 1, 1) := by decide +kernel
theorem dX9_said_11 : decode cX9_said 11 = .ok (.iload_n 2, 1) := by decide +kernel
theorem dX9_said_12 : decode cX9_said 12 = .ok (.invokevirtual 88, 3) := by decide +kernel
theorem dX9_said_15 : decode cX9_said 15 = .ok (.ifCond .ne 5, 3) := by decide +kernel
theorem dX9_said_18 : decode cX9_said 18 = .ok (.iconst (-1), 1) := by decide +kernel
theorem dX9_said_19 : decode cX9_said 19 = .ok (.ireturn, 1) := by decide +kernel
theorem dX9_said_20 : decode cX9_said 20 = .ok (.iload_n 3, 1) := by decide +kernel
theorem dX9_said_21 : decode cX9_said 21 = .ok (.ifCond .ne 12, 3) := by decide +kernel
theorem dX9_said_24 : decode cX9_said 24 = .ok (.aload_n 0, 1) := by decide +kernel
theorem dX9_said_25 : decode cX9_said 25 = .ok (.iload_n 1, 1) := by decide +kernel
theorem dX9_said_26 : decode cX9_said 26 = .ok (.iload_n 2, 1) := by decide +kernel
theorem dX9_said_27 : decode cX9_said 27 = .ok (.invokevirtual 91, 3) := by decide +kernel
theorem dX9_said_30 : decode cX9_said 30 = .ok (.goto 18, 3) := by decide +kernel
theorem dX9_said_33 : decode cX9_said 33 = .ok (.iload_n 3, 1) := by decide +kernel
theorem dX9_said_34 : decode cX9_said 34 = .ok (.iconst 1, 1) := by decide +kernel
theorem dX9_said_35 : decode cX9_said 35 = .ok (.if_icmp .ne 12, 3) := by decide +kernel
theorem dX9_said_38 : decode cX9_said 38 = .ok (.aload_n 0, 1) := by decide +kernel
theorem dX9_said_39 : decode cX9_said 39 = .ok (.iload_n 1, 1) := by decide +kernel
theorem dX9_said_40 : decode cX9_said 40 = .ok (.iload_n 2, 1) := by decide +kernel
theorem dX9_said_41 : decode cX9_said 41 = .ok (.invokevirtual 94, 3) := by decide +kernel
theorem dX9_said_44 : decode cX9_said 44 = .ok (.goto 4, 3) := by decide +kernel
theorem dX9_said_47 : decode cX9_said 47 = .ok (.iconst (-1), 1) := by decide +kernel
theorem dX9_said_48 : decode cX9_said 48 = .ok (.ireturn, 1) := by decide +kernel
theorem dX9_fits_0 : decode cX9_fits 0 = .ok (.iconst 0, 1) := by decide +kernel
theorem dX9_fits_1 : decode cX9_fits 1 = .ok (.istore_n 2, 1) := by decide +kernel
theorem dX9_fits_2 : decode cX9_fits 2 = .ok (.iload_n 2, 1) := by decide +kernel
theorem dX9_fits_3 : decode cX9_fits 3 = .ok (.aload_n 0, 1) := by decide +kernel
theorem dX9_fits_4 : decode cX9_fits 4 = .ok (.getfield 66, 3) := by decide +kernel
theorem dX9_fits_7 : decode cX9_fits 7 = .ok (.if_icmp .ge 16, 3) := by decide +kernel
theorem dX9_fits_10 : decode cX9_fits 10 = .ok (.aload_n 0, 1) := by decide +kernel
theorem dX9_fits_11 : decode cX9_fits 11 = .ok (.getfield 41, 3) := by decide +kernel
theorem dX9_fits_14 : decode cX9_fits 14 = .ok (.iload_n 2, 1) := by decide +kernel
theorem dX9_fits_15 : decode cX9_fits 15 = .ok (.iconst 0, 1) := by decide +kernel
theorem dX9_fits_16 : decode cX9_fits 16 = .ok (.bastore, 1) := by decide +kernel
theorem dX9_fits_17 : decode cX9_fits 17 = .ok (.iinc 2 1, 3) := by decide +kernel
theorem dX9_fits_20 : decode cX9_fits 20 = .ok (.goto (-18), 3) := by decide +kernel
theorem dX9_fits_23 : decode cX9_fits 23 = .ok (.aload_n 0, 1) := by decide +kernel
theorem dX9_fits_24 : decode cX9_fits 24 = .ok (.iconst 0, 1) := by decide +kernel
theorem dX9_fits_25 : decode cX9_fits 25 = .ok (.putfield 97, 3) := by decide +kernel
theorem dX9_fits_28 : decode cX9_fits 28 = .ok (.iconst 0, 1) := by decide +kernel
theorem dX9_fits_29 : decode cX9_fits 29 = .ok (.istore_n 2, 1) := by decide +kernel
theorem dX9_fits_30 : decode cX9_fits 30 = .ok (.iload_n 2, 1) := by decide +kernel
theorem dX9_fits_31 : decode cX9_fits 31 = .ok (.aload_n 0, 1) := by decide +kernel
theorem dX9_fits_32 : decode cX9_fits 32 = .ok (.getfield 66, 3) := by decide +kernel
theorem dX9_fits_35 : decode cX9_fits 35 = .ok (.if_icmp .ge 291, 3) := by decide +kernel
theorem dX9_fits_38 : decode cX9_fits 38 = .ok (.aload_n 0, 1) := by decide +kernel
theorem dX9_fits_39 : decode cX9_fits 39 = .ok (.getfield 41, 3) := by decide +kernel
theorem dX9_fits_42 : decode cX9_fits 42 = .ok (.iload_n 2, 1) := by decide +kernel
theorem dX9_fits_43 : decode cX9_fits 43 = .ok (.baload, 1) := by decide +kernel
theorem dX9_fits_44 : decode cX9_fits 44 = .ok (.ifCond .eq 6, 3) := by decide +kernel
theorem dX9_fits_47 : decode cX9_fits 47 = .ok (.goto 273, 3) := by decide +kernel
theorem dX9_fits_50 : decode cX9_fits 50 = .ok (.aload_n 0, 1) := by decide +kernel
theorem dX9_fits_51 : decode cX9_fits 51 = .ok (.dup, 1) := by decide +kernel
theorem dX9_fits_52 : decode cX9_fits 52 = .ok (.getfield 97, 3) := by decide +kernel
theorem dX9_fits_55 : decode cX9_fits 55 = .ok (.iconst 1, 1) := by decide +kernel
theorem dX9_fits_56 : decode cX9_fits 56 = .ok (.iadd, 1) := by decide +kernel
theorem dX9_fits_57 : decode cX9_fits 57 = .ok (.putfield 97, 3) := by decide +kernel
theorem dX9_fits_60 : decode cX9_fits 60 = .ok (.aload_n 0, 1) := by decide +kernel
theorem dX9_fits_61 : decode cX9_fits 61 = .ok (.getfield 41, 3) := by decide +kernel
theorem dX9_fits_64 : decode cX9_fits 64 = .ok (.iload_n 2, 1) := by decide +kernel
theorem dX9_fits_65 : decode cX9_fits 65 = .ok (.iconst 1, 1) := by decide +kernel
theorem dX9_fits_66 : decode cX9_fits 66 = .ok (.bastore, 1) := by decide +kernel
theorem dX9_fits_67 : decode cX9_fits 67 = .ok (.aload_n 0, 1) := by decide +kernel
theorem dX9_fits_68 : decode cX9_fits 68 = .ok (.getfield 34, 3) := by decide +kernel
theorem dX9_fits_71 : decode cX9_fits 71 = .ok (.iload_n 2, 1) := by decide +kernel
theorem dX9_fits_72 : decode cX9_fits 72 = .ok (.lconst 1, 1) := by decide +kernel
theorem dX9_fits_73 : decode cX9_fits 73 = .ok (.lastore, 1) := by decide +kernel
theorem dX9_fits_74 : decode cX9_fits 74 = .ok (.aload_n 0, 1) := by decide +kernel
theorem dX9_fits_75 : decode cX9_fits 75 = .ok (.getfield 38, 3) := by decide +kernel
theorem dX9_fits_78 : decode cX9_fits 78 = .ok (.iload_n 2, 1) := by decide +kernel
theorem dX9_fits_79 : decode cX9_fits 79 = .ok (.lconst 1, 1) := by decide +kernel
theorem dX9_fits_80 : decode cX9_fits 80 = .ok (.lastore, 1) := by decide +kernel
theorem dX9_fits_81 : decode cX9_fits 81 = .ok (.iconst 1, 1) := by decide +kernel
theorem dX9_fits_82 : decode cX9_fits 82 = .ok (.istore_n 3, 1) := by decide +kernel
theorem dX9_fits_83 : decode cX9_fits 83 = .ok (.iload_n 3, 1) := by decide +kernel
theorem dX9_fits_84 : decode cX9_fits 84 = .ok (.ifCond .eq 236, 3) := by decide +kernel
theorem dX9_fits_87 : decode cX9_fits 87 = .ok (.iconst 0, 1) := by decide +kernel
theorem dX9_fits_88 : decode cX9_fits 88 = .ok (.istore_n 3, 1) := by decide +kernel
theorem dX9_fits_89 : decode cX9_fits 89 = .ok (.iconst 0, 1) := by decide +kernel
theorem dX9_fits_90 : decode cX9_fits 90 = .ok (.istore 4, 2) := by decide +kernel
theorem dX9_fits_92 : decode cX9_fits 92 = .ok (.iload 4, 2) := by decide +kernel
theorem dX9_fits_94 : decode cX9_fits 94 = .ok (.aload_n 0, 1) := by decide +kernel
theorem dX9_fits_95 : decode cX9_fits 95 = .ok (.getfield 70, 3) := by decide +kernel
theorem dX9_fits_98 : decode cX9_fits 98 = .ok (.if_icmp .ge 219, 3) := by decide +kernel
theorem dX9_fits_101 : decode cX9_fits 101 = .ok (.iload_n 1, 1) := by decide +kernel
theorem dX9_fits_102 : decode cX9_fits 102 = .ok (.iload 4, 2) := by decide +kernel
theorem dX9_fits_104 : decode cX9_fits 104 = .ok (.ishr, 1) := by decide +kernel
theorem dX9_fits_105 : decode cX9_fits 105 = .ok (.iconst 1, 1) := by decide +kernel
theorem dX9_fits_106 : decode cX9_fits 106 = .ok (.iand, 1) := by decide +kernel
theorem dX9_fits_107 : decode cX9_fits 107 = .ok (.ifCond .eq 204, 3) := by decide +kernel
theorem dX9_fits_110 : decode cX9_fits 110 = .ok (.aload_n 0, 1) := by decide +kernel
theorem dX9_fits_111 : decode cX9_fits 111 = .ok (.getfield 41, 3) := by decide +kernel
theorem dX9_fits_114 : decode cX9_fits 114 = .ok (.aload_n 0, 1) := by decide +kernel
theorem dX9_fits_115 : decode cX9_fits 115 = .ok (.getfield 28, 3) := by decide +kernel
theorem dX9_fits_118 : decode cX9_fits 118 = .ok (.iload 4, 2) := by decide +kernel
theorem dX9_fits_120 : decode cX9_fits 120 = .ok (.iaload, 1) := by decide +kernel
theorem dX9_fits_121 : decode cX9_fits 121 = .ok (.baload, 1) := by decide +kernel
theorem dX9_fits_122 : decode cX9_fits 122 = .ok (.aload_n 0, 1) := by decide +kernel
theorem dX9_fits_123 : decode cX9_fits 123 = .ok (.getfield 41, 3) := by decide +kernel
theorem dX9_fits_126 : decode cX9_fits 126 = .ok (.aload_n 0, 1) := by decide +kernel
theorem dX9_fits_127 : decode cX9_fits 127 = .ok (.getfield 31, 3) := by decide +kernel
theorem dX9_fits_130 : decode cX9_fits 130 = .ok (.iload 4, 2) := by decide +kernel
theorem dX9_fits_132 : decode cX9_fits 132 = .ok (.iaload, 1) := by decide +kernel
theorem dX9_fits_133 : decode cX9_fits 133 = .ok (.baload, 1) := by decide +kernel
theorem dX9_fits_134 : decode cX9_fits 134 = .ok (.if_icmp .ne 6, 3) := by decide +kernel
theorem dX9_fits_137 : decode cX9_fits 137 = .ok (.goto 174, 3) := by decide +kernel
theorem dX9_fits_140 : decode cX9_fits 140 = .ok (.aload_n 0, 1) := by decide +kernel
theorem dX9_fits_141 : decode cX9_fits 141 = .ok (.getfield 41, 3) := by decide +kernel
theorem dX9_fits_144 : decode cX9_fits 144 = .ok (.aload_n 0, 1) := by decide +kernel
theorem dX9_fits_145 : decode cX9_fits 145 = .ok (.getfield 28, 3) := by decide +kernel
theorem dX9_fits_148 : decode cX9_fits 148 = .ok (.iload 4, 2) := by decide +kernel
theorem dX9_fits_150 : decode cX9_fits 150 = .ok (.iaload, 1) := by decide +kernel
theorem dX9_fits_151 : decode cX9_fits 151 = .ok (.baload, 1) := by decide +kernel
theorem dX9_fits_152 : decode cX9_fits 152 = .ok (.istore 5, 2) := by decide +kernel
theorem dX9_fits_154 : decode cX9_fits 154 = .ok (.iload 5, 2) := by decide +kernel
theorem dX9_fits_156 : decode cX9_fits 156 = .ok (.ifCond .eq 13, 3) := by decide +kernel
theorem dX9_fits_159 : decode cX9_fits 159 = .ok (.aload_n 0, 1) := by decide +kernel
theorem dX9_fits_160 : decode cX9_fits 160 = .ok (.getfield 31, 3) := by decide +kernel
theorem dX9_fits_163 : decode cX9_fits 163 = .ok (.iload 4, 2) := by decide +kernel
theorem dX9_fits_165 : decode cX9_fits 165 = .ok (.iaload, 1) := by decide +kernel
theorem dX9_fits_166 : decode cX9_fits 166 = .ok (.goto 10, 3) := by decide +kernel
theorem dX9_fits_169 : decode cX9_fits 169 = .ok (.aload_n 0, 1) := by decide +kernel
theorem dX9_fits_170 : decode cX9_fits 170 = .ok (.getfield 28, 3) := by decide +kernel
theorem dX9_fits_173 : decode cX9_fits 173 = .ok (.iload 4, 2) := by decide +kernel
theorem dX9_fits_175 : decode cX9_fits 175 = .ok (.iaload, 1) := by decide +kernel
theorem dX9_fits_176 : decode cX9_fits 176 = .ok (.istore 6, 2) := by decide +kernel
theorem dX9_fits_178 : decode cX9_fits 178 = .ok (.iload 5, 2) := by decide +kernel
theorem dX9_fits_180 : decode cX9_fits 180 = .ok (.ifCond .eq 13, 3) := by decide +kernel
theorem dX9_fits_183 : decode cX9_fits 183 = .ok (.aload_n 0, 1) := by decide +kernel
theorem dX9_fits_184 : decode cX9_fits 184 = .ok (.getfield 28, 3) := by decide +kernel
theorem dX9_fits_187 : decode cX9_fits 187 = .ok (.iload 4, 2) := by decide +kernel
theorem dX9_fits_189 : decode cX9_fits 189 = .ok (.iaload, 1) := by decide +kernel
theorem dX9_fits_190 : decode cX9_fits 190 = .ok (.goto 10, 3) := by decide +kernel
theorem dX9_fits_193 : decode cX9_fits 193 = .ok (.aload_n 0, 1) := by decide +kernel
theorem dX9_fits_194 : decode cX9_fits 194 = .ok (.getfield 31, 3) := by decide +kernel
theorem dX9_fits_197 : decode cX9_fits 197 = .ok (.iload 4, 2) := by decide +kernel
theorem dX9_fits_199 : decode cX9_fits 199 = .ok (.iaload, 1) := by decide +kernel
theorem dX9_fits_200 : decode cX9_fits 200 = .ok (.istore 7, 2) := by decide +kernel
theorem dX9_fits_202 : decode cX9_fits 202 = .ok (.aload_n 0, 1) := by decide +kernel
theorem dX9_fits_203 : decode cX9_fits 203 = .ok (.getfield 34, 3) := by decide +kernel
theorem dX9_fits_206 : decode cX9_fits 206 = .ok (.iload 7, 2) := by decide +kernel
theorem dX9_fits_208 : decode cX9_fits 208 = .ok (.laload, 1) := by decide +kernel
theorem dX9_fits_209 : decode cX9_fits 209 = .ok (.iload 5, 2) := by decide +kernel
theorem dX9_fits_211 : decode cX9_fits 211 = .ok (.ifCond .eq 13, 3) := by decide +kernel
theorem dX9_fits_214 : decode cX9_fits 214 = .ok (.aload_n 0, 1) := by decide +kernel
theorem dX9_fits_215 : decode cX9_fits 215 = .ok (.getfield 13, 3) := by decide +kernel
theorem dX9_fits_218 : decode cX9_fits 218 = .ok (.iload 4, 2) := by decide +kernel
theorem dX9_fits_220 : decode cX9_fits 220 = .ok (.iaload, 1) := by decide +kernel
theorem dX9_fits_221 : decode cX9_fits 221 = .ok (.goto 10, 3) := by decide +kernel
theorem dX9_fits_224 : decode cX9_fits 224 = .ok (.aload_n 0, 1) := by decide +kernel
theorem dX9_fits_225 : decode cX9_fits 225 = .ok (.getfield 9, 3) := by decide +kernel
theorem dX9_fits_228 : decode cX9_fits 228 = .ok (.iload 4, 2) := by decide +kernel
theorem dX9_fits_230 : decode cX9_fits 230 = .ok (.iaload, 1) := by decide +kernel
theorem dX9_fits_231 : decode cX9_fits 231 = .ok (.i2l, 1) := by decide +kernel
theorem dX9_fits_232 : decode cX9_fits 232 = .ok (.lmul, 1) := by decide +kernel
theorem dX9_fits_233 : decode cX9_fits 233 = .ok (.lstore 8, 2) := by decide +kernel
theorem dX9_fits_235 : decode cX9_fits 235 = .ok (.aload_n 0, 1) := by decide +kernel
theorem dX9_fits_236 : decode cX9_fits 236 = .ok (.getfield 38, 3) := by decide +kernel
theorem dX9_fits_239 : decode cX9_fits 239 = .ok (.iload 7, 2) := by decide +kernel
theorem dX9_fits_241 : decode cX9_fits 241 = .ok (.laload, 1) := by decide +kernel
theorem dX9_fits_242 : decode cX9_fits 242 = .ok (.iload 5, 2) := by decide +kernel
theorem dX9_fits_244 : decode cX9_fits 244 = .ok (.ifCond .eq 13, 3) := by decide +kernel
theorem dX9_fits_247 : decode cX9_fits 247 = .ok (.aload_n 0, 1) := by decide +kernel
theorem dX9_fits_248 : decode cX9_fits 248 = .ok (.getfield 9, 3) := by decide +kernel
theorem dX9_fits_251 : decode cX9_fits 251 = .ok (.iload 4, 2) := by decide +kernel
theorem dX9_fits_253 : decode cX9_fits 253 = .ok (.iaload, 1) := by decide +kernel
theorem dX9_fits_254 : decode cX9_fits 254 = .ok (.goto 10, 3) := by decide +kernel
theorem dX9_fits_257 : decode cX9_fits 257 = .ok (.aload_n 0, 1) := by decide +kernel
theorem dX9_fits_258 : decode cX9_fits 258 = .ok (.getfield 13, 3) := by decide +kernel
theorem dX9_fits_261 : decode cX9_fits 261 = .ok (.iload 4, 2) := by decide +kernel
theorem dX9_fits_263 : decode cX9_fits 263 = .ok (.iaload, 1) := by decide +kernel
theorem dX9_fits_264 : decode cX9_fits 264 = .ok (.i2l, 1) := by decide +kernel
theorem dX9_fits_265 : decode cX9_fits 265 = .ok (.lmul, 1) := by decide +kernel
theorem dX9_fits_266 : decode cX9_fits 266 = .ok (.lstore 10, 2) := by decide +kernel
theorem dX9_fits_268 : decode cX9_fits 268 = .ok (.lload 8, 2) := by decide +kernel
theorem dX9_fits_270 : decode cX9_fits 270 = .ok (.lload 10, 2) := by decide +kernel
theorem dX9_fits_272 : decode cX9_fits 272 = .ok (.invokestatic 81, 3) := by decide +kernel
theorem dX9_fits_275 : decode cX9_fits 275 = .ok (.lstore 12, 2) := by decide +kernel
theorem dX9_fits_277 : decode cX9_fits 277 = .ok (.aload_n 0, 1) := by decide +kernel
theorem dX9_fits_278 : decode cX9_fits 278 = .ok (.getfield 34, 3) := by decide +kernel
theorem dX9_fits_281 : decode cX9_fits 281 = .ok (.iload 6, 2) := by decide +kernel
theorem dX9_fits_283 : decode cX9_fits 283 = .ok (.lload 8, 2) := by decide +kernel
theorem dX9_fits_285 : decode cX9_fits 285 = .ok (.lload 12, 2) := by decide +kernel
theorem dX9_fits_287 : decode cX9_fits 287 = .ok (.ldiv, 1) := by decide +kernel
theorem dX9_fits_288 : decode cX9_fits 288 = .ok (.lastore, 1) := by decide +kernel
theorem dX9_fits_289 : decode cX9_fits 289 = .ok (.aload_n 0, 1) := by decide +kernel
theorem dX9_fits_290 : decode cX9_fits 290 = .ok (.getfield 38, 3) := by decide +kernel
theorem dX9_fits_293 : decode cX9_fits 293 = .ok (.iload 6, 2) := by decide +kernel
theorem dX9_fits_295 : decode cX9_fits 295 = .ok (.lload 10, 2) := by decide +kernel
theorem dX9_fits_297 : decode cX9_fits 297 = .ok (.lload 12, 2) := by decide +kernel
theorem dX9_fits_299 : decode cX9_fits 299 = .ok (.ldiv, 1) := by decide +kernel
theorem dX9_fits_300 : decode cX9_fits 300 = .ok (.lastore, 1) := by decide +kernel
theorem dX9_fits_301 : decode cX9_fits 301 = .ok (.aload_n 0, 1) := by decide +kernel
theorem dX9_fits_302 : decode cX9_fits 302 = .ok (.getfield 41, 3) := by decide +kernel
theorem dX9_fits_305 : decode cX9_fits 305 = .ok (.iload 6, 2) := by decide +kernel
theorem dX9_fits_307 : decode cX9_fits 307 = .ok (.iconst 1, 1) := by decide +kernel
theorem dX9_fits_308 : decode cX9_fits 308 = .ok (.bastore, 1) := by decide +kernel
theorem dX9_fits_309 : decode cX9_fits 309 = .ok (.iconst 1, 1) := by decide +kernel
theorem dX9_fits_310 : decode cX9_fits 310 = .ok (.istore_n 3, 1) := by decide +kernel
theorem dX9_fits_311 : decode cX9_fits 311 = .ok (.iinc 4 1, 3) := by decide +kernel
theorem dX9_fits_314 : decode cX9_fits 314 = .ok (.goto (-222), 3) := by decide +kernel
theorem dX9_fits_317 : decode cX9_fits 317 = .ok (.goto (-234), 3) := by decide +kernel
theorem dX9_fits_320 : decode cX9_fits 320 = .ok (.iinc 2 1, 3) := by decide +kernel
theorem dX9_fits_323 : decode cX9_fits 323 = .ok (.goto (-293), 3) := by decide +kernel
theorem dX9_fits_326 : decode cX9_fits 326 = .ok (.iconst 0, 1) := by decide +kernel
theorem dX9_fits_327 : decode cX9_fits 327 = .ok (.istore_n 2, 1) := by decide +kernel
theorem dX9_fits_328 : decode cX9_fits 328 = .ok (.iload_n 2, 1) := by decide +kernel
theorem dX9_fits_329 : decode cX9_fits 329 = .ok (.aload_n 0, 1) := by decide +kernel
theorem dX9_fits_330 : decode cX9_fits 330 = .ok (.getfield 70, 3) := by decide +kernel
theorem dX9_fits_333 : decode cX9_fits 333 = .ok (.if_icmp .ge 85, 3) := by decide +kernel
theorem dX9_fits_336 : decode cX9_fits 336 = .ok (.iload_n 1, 1) := by decide +kernel
theorem dX9_fits_337 : decode cX9_fits 337 = .ok (.iload_n 2, 1) := by decide +kernel
theorem dX9_fits_338 : decode cX9_fits 338 = .ok (.ishr, 1) := by decide +kernel
theorem dX9_fits_339 : decode cX9_fits 339 = .ok (.iconst 1, 1) := by decide +kernel
theorem dX9_fits_340 : decode cX9_fits 340 = .ok (.iand, 1) := by decide +kernel
theorem dX9_fits_341 : decode cX9_fits 341 = .ok (.ifCond .ne 6, 3) := by decide +kernel
theorem dX9_fits_344 : decode cX9_fits 344 = .ok (.goto 68, 3) := by decide +kernel
theorem dX9_fits_347 : decode cX9_fits 347 = .ok (.aload_n 0, 1) := by decide +kernel
theorem dX9_fits_348 : decode cX9_fits 348 = .ok (.getfield 28, 3) := by decide +kernel
theorem dX9_fits_351 : decode cX9_fits 351 = .ok (.iload_n 2, 1) := by decide +kernel
theorem dX9_fits_352 : decode cX9_fits 352 = .ok (.iaload, 1) := by decide +kernel
theorem dX9_fits_353 : decode cX9_fits 353 = .ok (.istore_n 3, 1) := by decide +kernel
theorem dX9_fits_354 : decode cX9_fits 354 = .ok (.aload_n 0, 1) := by decide +kernel
theorem dX9_fits_355 : decode cX9_fits 355 = .ok (.getfield 31, 3) := by decide +kernel
theorem dX9_fits_358 : decode cX9_fits 358 = .ok (.iload_n 2, 1) := by decide +kernel
theorem dX9_fits_359 : decode cX9_fits 359 = .ok (.iaload, 1) := by decide +kernel
theorem dX9_fits_360 : decode cX9_fits 360 = .ok (.istore 4, 2) := by decide +kernel
theorem dX9_fits_362 : decode cX9_fits 362 = .ok (.aload_n 0, 1) := by decide +kernel
theorem dX9_fits_363 : decode cX9_fits 363 = .ok (.getfield 34, 3) := by decide +kernel
theorem dX9_fits_366 : decode cX9_fits 366 = .ok (.iload_n 3, 1) := by decide +kernel
theorem dX9_fits_367 : decode cX9_fits 367 = .ok (.laload, 1) := by decide +kernel
theorem dX9_fits_368 : decode cX9_fits 368 = .ok (.aload_n 0, 1) := by decide +kernel
theorem dX9_fits_369 : decode cX9_fits 369 = .ok (.getfield 38, 3) := by decide +kernel
theorem dX9_fits_372 : decode cX9_fits 372 = .ok (.iload 4, 2) := by decide +kernel
theorem dX9_fits_374 : decode cX9_fits 374 = .ok (.laload, 1) := by decide +kernel
theorem dX9_fits_375 : decode cX9_fits 375 = .ok (.lmul, 1) := by decide +kernel
theorem dX9_fits_376 : decode cX9_fits 376 = .ok (.aload_n 0, 1) := by decide +kernel
theorem dX9_fits_377 : decode cX9_fits 377 = .ok (.getfield 13, 3) := by decide +kernel
theorem dX9_fits_380 : decode cX9_fits 380 = .ok (.iload_n 2, 1) := by decide +kernel
theorem dX9_fits_381 : decode cX9_fits 381 = .ok (.iaload, 1) := by decide +kernel
theorem dX9_fits_382 : decode cX9_fits 382 = .ok (.i2l, 1) := by decide +kernel
theorem dX9_fits_383 : decode cX9_fits 383 = .ok (.lmul, 1) := by decide +kernel
theorem dX9_fits_384 : decode cX9_fits 384 = .ok (.aload_n 0, 1) := by decide +kernel
theorem dX9_fits_385 : decode cX9_fits 385 = .ok (.getfield 38, 3) := by decide +kernel
theorem dX9_fits_388 : decode cX9_fits 388 = .ok (.iload_n 3, 1) := by decide +kernel
theorem dX9_fits_389 : decode cX9_fits 389 = .ok (.laload, 1) := by decide +kernel
theorem dX9_fits_390 : decode cX9_fits 390 = .ok (.aload_n 0, 1) := by decide +kernel
theorem dX9_fits_391 : decode cX9_fits 391 = .ok (.getfield 34, 3) := by decide +kernel
theorem dX9_fits_394 : decode cX9_fits 394 = .ok (.iload 4, 2) := by decide +kernel
theorem dX9_fits_396 : decode cX9_fits 396 = .ok (.laload, 1) := by decide +kernel
theorem dX9_fits_397 : decode cX9_fits 397 = .ok (.lmul, 1) := by decide +kernel
theorem dX9_fits_398 : decode cX9_fits 398 = .ok (.aload_n 0, 1) := by decide +kernel
theorem dX9_fits_399 : decode cX9_fits 399 = .ok (.getfield 9, 3) := by decide +kernel
theorem dX9_fits_402 : decode cX9_fits 402 = .ok (.iload_n 2, 1) := by decide +kernel
theorem dX9_fits_403 : decode cX9_fits 403 = .ok (.iaload, 1) := by decide +kernel
theorem dX9_fits_404 : decode cX9_fits 404 = .ok (.i2l, 1) := by decide +kernel
theorem dX9_fits_405 : decode cX9_fits 405 = .ok (.lmul, 1) := by decide +kernel
theorem dX9_fits_406 : decode cX9_fits 406 = .ok (.lcmp, 1) := by decide +kernel
theorem dX9_fits_407 : decode cX9_fits 407 = .ok (.ifCond .eq 5, 3) := by decide +kernel
theorem dX9_fits_410 : decode cX9_fits 410 = .ok (.iconst 0, 1) := by decide +kernel
theorem dX9_fits_411 : decode cX9_fits 411 = .ok (.ireturn, 1) := by decide +kernel
theorem dX9_fits_412 : decode cX9_fits 412 = .ok (.iinc 2 1, 3) := by decide +kernel
theorem dX9_fits_415 : decode cX9_fits 415 = .ok (.goto (-87), 3) := by decide +kernel
theorem dX9_fits_418 : decode cX9_fits 418 = .ok (.iconst 1, 1) := by decide +kernel
theorem dX9_fits_419 : decode cX9_fits 419 = .ok (.ireturn, 1) := by decide +kernel
theorem dX9_all_0 : decode cX9_all 0 = .ok (.iconst 0, 1) := by decide +kernel
theorem dX9_all_1 : decode cX9_all 1 = .ok (.istore_n 1, 1) := by decide +kernel
theorem dX9_all_2 : decode cX9_all 2 = .ok (.iconst 0, 1) := by decide +kernel
theorem dX9_all_3 : decode cX9_all 3 = .ok (.istore_n 2, 1) := by decide +kernel
theorem dX9_all_4 : decode cX9_all 4 = .ok (.iload_n 2, 1) := by decide +kernel
theorem dX9_all_5 : decode cX9_all 5 = .ok (.aload_n 0, 1) := by decide +kernel
theorem dX9_all_6 : decode cX9_all 6 = .ok (.getfield 70, 3) := by decide +kernel
end
section
-- decode rows: X9c
theorem dX9_all_9 : decode cX9_all 9 = .ok (.if_icmp .ge 28, 3) := by decide +kernel
theorem dX9_all_12 : decode cX9_all 12 = .ok (.iload_n 1, 1) := by decide +kernel
theorem dX9_all_13 : decode cX9_all 13 = .ok (.aload_n 0, 1) := by decide +kernel
theorem dX9_all_14 : decode cX9_all 14 = .ok (.getfield 9, 3) := by decide +kernel
theorem dX9_all_17 : decode cX9_all 17 = .ok (.iload_n 2, 1) := by decide +kernel
theorem dX9_all_18 : decode cX9_all 18 = .ok (.iaload, 1) := by decide +kernel
theorem dX9_all_19 : decode cX9_all 19 = .ok (.ifCond .le 9, 3) := by decide +kernel
theorem dX9_all_22 : decode cX9_all 22 = .ok (.iconst 1, 1) := by decide +kernel
theorem dX9_all_23 : decode cX9_all 23 = .ok (.iload_n 2, 1) := by decide +kernel
theorem dX9_all_24 : decode cX9_all 24 = .ok (.ishl, 1) := by decide +kernel
theorem dX9_all_25 : decode cX9_all 25 = .ok (.goto 4, 3) := by decide +kernel
theorem dX9_all_28 : decode cX9_all 28 = .ok (.iconst 0, 1) := by decide +kernel
theorem dX9_all_29 : decode cX9_all 29 = .ok (.ior, 1) := by decide +kernel
theorem dX9_all_30 : decode cX9_all 30 = .ok (.istore_n 1, 1) := by decide +kernel
theorem dX9_all_31 : decode cX9_all 31 = .ok (.iinc 2 1, 3) := by decide +kernel
theorem dX9_all_34 : decode cX9_all 34 = .ok (.goto (-30), 3) := by decide +kernel
theorem dX9_all_37 : decode cX9_all 37 = .ok (.iload_n 1, 1) := by decide +kernel
theorem dX9_all_38 : decode cX9_all 38 = .ok (.ireturn, 1) := by decide +kernel
theorem dX9_even_0 : decode cX9_even 0 = .ok (.aload_n 0, 1) := by decide +kernel
theorem dX9_even_1 : decode cX9_even 1 = .ok (.aload_n 0, 1) := by decide +kernel
theorem dX9_even_2 : decode cX9_even 2 = .ok (.invokevirtual 100, 3) := by decide +kernel
theorem dX9_even_5 : decode cX9_even 5 = .ok (.invokevirtual 104, 3) := by decide +kernel
theorem dX9_even_8 : decode cX9_even 8 = .ok (.ireturn, 1) := by decide +kernel
theorem dX9_trees_0 : decode cX9_trees 0 = .ok (.aload_n 0, 1) := by decide +kernel
theorem dX9_trees_1 : decode cX9_trees 1 = .ok (.invokevirtual 100, 3) := by decide +kernel
theorem dX9_trees_4 : decode cX9_trees 4 = .ok (.istore_n 1, 1) := by decide +kernel
theorem dX9_trees_5 : decode cX9_trees 5 = .ok (.iconst 0, 1) := by decide +kernel
theorem dX9_trees_6 : decode cX9_trees 6 = .ok (.istore_n 2, 1) := by decide +kernel
theorem dX9_trees_7 : decode cX9_trees 7 = .ok (.iconst 0, 1) := by decide +kernel
theorem dX9_trees_8 : decode cX9_trees 8 = .ok (.istore_n 3, 1) := by decide +kernel
theorem dX9_trees_9 : decode cX9_trees 9 = .ok (.iload_n 3, 1) := by decide +kernel
theorem dX9_trees_10 : decode cX9_trees 10 = .ok (.iconst 1, 1) := by decide +kernel
theorem dX9_trees_11 : decode cX9_trees 11 = .ok (.aload_n 0, 1) := by decide +kernel
theorem dX9_trees_12 : decode cX9_trees 12 = .ok (.getfield 70, 3) := by decide +kernel
theorem dX9_trees_15 : decode cX9_trees 15 = .ok (.ishl, 1) := by decide +kernel
theorem dX9_trees_16 : decode cX9_trees 16 = .ok (.if_icmp .ge 56, 3) := by decide +kernel
theorem dX9_trees_19 : decode cX9_trees 19 = .ok (.iload_n 3, 1) := by decide +kernel
theorem dX9_trees_20 : decode cX9_trees 20 = .ok (.iload_n 1, 1) := by decide +kernel
theorem dX9_trees_21 : decode cX9_trees 21 = .ok (.iconst (-1), 1) := by decide +kernel
theorem dX9_trees_22 : decode cX9_trees 22 = .ok (.ixor, 1) := by decide +kernel
theorem dX9_trees_23 : decode cX9_trees 23 = .ok (.iand, 1) := by decide +kernel
theorem dX9_trees_24 : decode cX9_trees 24 = .ok (.ifCond .ne 42, 3) := by decide +kernel
theorem dX9_trees_27 : decode cX9_trees 27 = .ok (.iload_n 3, 1) := by decide +kernel
theorem dX9_trees_28 : decode cX9_trees 28 = .ok (.invokestatic 108, 3) := by decide +kernel
theorem dX9_trees_31 : decode cX9_trees 31 = .ok (.aload_n 0, 1) := by decide +kernel
theorem dX9_trees_32 : decode cX9_trees 32 = .ok (.getfield 66, 3) := by decide +kernel
theorem dX9_trees_35 : decode cX9_trees 35 = .ok (.iconst 1, 1) := by decide +kernel
theorem dX9_trees_36 : decode cX9_trees 36 = .ok (.isub, 1) := by decide +kernel
theorem dX9_trees_37 : decode cX9_trees 37 = .ok (.if_icmp .eq 6, 3) := by decide +kernel
theorem dX9_trees_40 : decode cX9_trees 40 = .ok (.goto 26, 3) := by decide +kernel
theorem dX9_trees_43 : decode cX9_trees 43 = .ok (.aload_n 0, 1) := by decide +kernel
theorem dX9_trees_44 : decode cX9_trees 44 = .ok (.iload_n 3, 1) := by decide +kernel
theorem dX9_trees_45 : decode cX9_trees 45 = .ok (.invokevirtual 104, 3) := by decide +kernel
theorem dX9_trees_48 : decode cX9_trees 48 = .ok (.istore 4, 2) := by decide +kernel
theorem dX9_trees_50 : decode cX9_trees 50 = .ok (.iload_n 2, 1) := by decide +kernel
theorem dX9_trees_51 : decode cX9_trees 51 = .ok (.aload_n 0, 1) := by decide +kernel
theorem dX9_trees_52 : decode cX9_trees 52 = .ok (.getfield 97, 3) := by decide +kernel
theorem dX9_trees_55 : decode cX9_trees 55 = .ok (.iconst 1, 1) := by decide +kernel
theorem dX9_trees_56 : decode cX9_trees 56 = .ok (.if_icmp .ne 7, 3) := by decide +kernel
theorem dX9_trees_59 : decode cX9_trees 59 = .ok (.iconst 1, 1) := by decide +kernel
theorem dX9_trees_60 : decode cX9_trees 60 = .ok (.goto 4, 3) := by decide +kernel
theorem dX9_trees_63 : decode cX9_trees 63 = .ok (.iconst 0, 1) := by decide +kernel
theorem dX9_trees_64 : decode cX9_trees 64 = .ok (.iadd, 1) := by decide +kernel
theorem dX9_trees_65 : decode cX9_trees 65 = .ok (.istore_n 2, 1) := by decide +kernel
theorem dX9_trees_66 : decode cX9_trees 66 = .ok (.iinc 3 1, 3) := by decide +kernel
theorem dX9_trees_69 : decode cX9_trees 69 = .ok (.goto (-60), 3) := by decide +kernel
theorem dX9_trees_72 : decode cX9_trees 72 = .ok (.iload_n 2, 1) := by decide +kernel
theorem dX9_trees_73 : decode cX9_trees 73 = .ok (.ireturn, 1) := by decide +kernel
theorem dX9_leastHeap_0 : decode cX9_leastHeap 0 = .ok (.aload_n 0, 1) := by decide +kernel
theorem dX9_leastHeap_1 : decode cX9_leastHeap 1 = .ok (.invokevirtual 100, 3) := by decide +kernel
theorem dX9_leastHeap_4 : decode cX9_leastHeap 4 = .ok (.istore_n 1, 1) := by decide +kernel
theorem dX9_leastHeap_5 : decode cX9_leastHeap 5 = .ok (.iload_n 1, 1) := by decide +kernel
theorem dX9_leastHeap_6 : decode cX9_leastHeap 6 = .ok (.istore_n 2, 1) := by decide +kernel
theorem dX9_leastHeap_7 : decode cX9_leastHeap 7 = .ok (.iconst 0, 1) := by decide +kernel
theorem dX9_leastHeap_8 : decode cX9_leastHeap 8 = .ok (.istore_n 3, 1) := by decide +kernel
theorem dX9_leastHeap_9 : decode cX9_leastHeap 9 = .ok (.iload_n 3, 1) := by decide +kernel
theorem dX9_leastHeap_10 : decode cX9_leastHeap 10 = .ok (.iconst 1, 1) := by decide +kernel
theorem dX9_leastHeap_11 : decode cX9_leastHeap 11 = .ok (.aload_n 0, 1) := by decide +kernel
theorem dX9_leastHeap_12 : decode cX9_leastHeap 12 = .ok (.getfield 70, 3) := by decide +kernel
theorem dX9_leastHeap_15 : decode cX9_leastHeap 15 = .ok (.ishl, 1) := by decide +kernel
theorem dX9_leastHeap_16 : decode cX9_leastHeap 16 = .ok (.if_icmp .ge 61, 3) := by decide +kernel
theorem dX9_leastHeap_19 : decode cX9_leastHeap 19 = .ok (.iload_n 3, 1) := by decide +kernel
theorem dX9_leastHeap_20 : decode cX9_leastHeap 20 = .ok (.iload_n 1, 1) := by decide +kernel
theorem dX9_leastHeap_21 : decode cX9_leastHeap 21 = .ok (.iconst (-1), 1) := by decide +kernel
theorem dX9_leastHeap_22 : decode cX9_leastHeap 22 = .ok (.ixor, 1) := by decide +kernel
theorem dX9_leastHeap_23 : decode cX9_leastHeap 23 = .ok (.iand, 1) := by decide +kernel
theorem dX9_leastHeap_24 : decode cX9_leastHeap 24 = .ok (.ifCond .ne 47, 3) := by decide +kernel
theorem dX9_leastHeap_27 : decode cX9_leastHeap 27 = .ok (.iload_n 3, 1) := by decide +kernel
theorem dX9_leastHeap_28 : decode cX9_leastHeap 28 = .ok (.invokestatic 108, 3) := by decide +kernel
theorem dX9_leastHeap_31 : decode cX9_leastHeap 31 = .ok (.iload_n 2, 1) := by decide +kernel
theorem dX9_leastHeap_32 : decode cX9_leastHeap 32 = .ok (.invokestatic 108, 3) := by decide +kernel
theorem dX9_leastHeap_35 : decode cX9_leastHeap 35 = .ok (.if_icmp .gt 36, 3) := by decide +kernel
theorem dX9_leastHeap_38 : decode cX9_leastHeap 38 = .ok (.iload_n 3, 1) := by decide +kernel
theorem dX9_leastHeap_39 : decode cX9_leastHeap 39 = .ok (.invokestatic 108, 3) := by decide +kernel
theorem dX9_leastHeap_42 : decode cX9_leastHeap 42 = .ok (.iload_n 2, 1) := by decide +kernel
theorem dX9_leastHeap_43 : decode cX9_leastHeap 43 = .ok (.invokestatic 108, 3) := by decide +kernel
theorem dX9_leastHeap_46 : decode cX9_leastHeap 46 = .ok (.if_icmp .ne 11, 3) := by decide +kernel
theorem dX9_leastHeap_49 : decode cX9_leastHeap 49 = .ok (.iload_n 3, 1) := by decide +kernel
theorem dX9_leastHeap_50 : decode cX9_leastHeap 50 = .ok (.iload_n 2, 1) := by decide +kernel
theorem dX9_leastHeap_51 : decode cX9_leastHeap 51 = .ok (.if_icmp .lt 6, 3) := by decide +kernel
theorem dX9_leastHeap_54 : decode cX9_leastHeap 54 = .ok (.goto 17, 3) := by decide +kernel
theorem dX9_leastHeap_57 : decode cX9_leastHeap 57 = .ok (.aload_n 0, 1) := by decide +kernel
theorem dX9_leastHeap_58 : decode cX9_leastHeap 58 = .ok (.iload_n 1, 1) := by decide +kernel
theorem dX9_leastHeap_59 : decode cX9_leastHeap 59 = .ok (.iload_n 3, 1) := by decide +kernel
theorem dX9_leastHeap_60 : decode cX9_leastHeap 60 = .ok (.iconst (-1), 1) := by decide +kernel
theorem dX9_leastHeap_61 : decode cX9_leastHeap 61 = .ok (.ixor, 1) := by decide +kernel
theorem dX9_leastHeap_62 : decode cX9_leastHeap 62 = .ok (.iand, 1) := by decide +kernel
theorem dX9_leastHeap_63 : decode cX9_leastHeap 63 = .ok (.invokevirtual 104, 3) := by decide +kernel
theorem dX9_leastHeap_66 : decode cX9_leastHeap 66 = .ok (.ifCond .eq 5, 3) := by decide +kernel
theorem dX9_leastHeap_69 : decode cX9_leastHeap 69 = .ok (.iload_n 3, 1) := by decide +kernel
theorem dX9_leastHeap_70 : decode cX9_leastHeap 70 = .ok (.istore_n 2, 1) := by decide +kernel
theorem dX9_leastHeap_71 : decode cX9_leastHeap 71 = .ok (.iinc 3 1, 3) := by decide +kernel
theorem dX9_leastHeap_74 : decode cX9_leastHeap 74 = .ok (.goto (-65), 3) := by decide +kernel
theorem dX9_leastHeap_77 : decode cX9_leastHeap 77 = .ok (.iload_n 2, 1) := by decide +kernel
theorem dX9_leastHeap_78 : decode cX9_leastHeap 78 = .ok (.ireturn, 1) := by decide +kernel
theorem dX9_few_0 : decode cX9_few 0 = .ok (.aload_n 0, 1) := by decide +kernel
theorem dX9_few_1 : decode cX9_few 1 = .ok (.invokevirtual 114, 3) := by decide +kernel
theorem dX9_few_4 : decode cX9_few 4 = .ok (.invokestatic 108, 3) := by decide +kernel
theorem dX9_few_7 : decode cX9_few 7 = .ok (.ireturn, 1) := by decide +kernel
theorem dX9_left_0 : decode cX9_left 0 = .ok (.aload_n 0, 1) := by decide +kernel
theorem dX9_left_1 : decode cX9_left 1 = .ok (.invokevirtual 114, 3) := by decide +kernel
theorem dX9_left_4 : decode cX9_left 4 = .ok (.ireturn, 1) := by decide +kernel
theorem dX9_findsWorst_0 : decode cX9_findsWorst 0 = .ok (.iconst 0, 1) := by decide +kernel
theorem dX9_findsWorst_1 : decode cX9_findsWorst 1 = .ok (.istore_n 1, 1) := by decide +kernel
theorem dX9_findsWorst_2 : decode cX9_findsWorst 2 = .ok (.iconst 0, 1) := by decide +kernel
theorem dX9_findsWorst_3 : decode cX9_findsWorst 3 = .ok (.istore_n 2, 1) := by decide +kernel
theorem dX9_findsWorst_4 : decode cX9_findsWorst 4 = .ok (.iload_n 2, 1) := by decide +kernel
theorem dX9_findsWorst_5 : decode cX9_findsWorst 5 = .ok (.aload_n 0, 1) := by decide +kernel
theorem dX9_findsWorst_6 : decode cX9_findsWorst 6 = .ok (.getfield 66, 3) := by decide +kernel
theorem dX9_findsWorst_9 : decode cX9_findsWorst 9 = .ok (.if_icmp .ge 236, 3) := by decide +kernel
theorem dX9_findsWorst_12 : decode cX9_findsWorst 12 = .ok (.iload_n 2, 1) := by decide +kernel
theorem dX9_findsWorst_13 : decode cX9_findsWorst 13 = .ok (.iconst 1, 1) := by decide +kernel
theorem dX9_findsWorst_14 : decode cX9_findsWorst 14 = .ok (.iadd, 1) := by decide +kernel
theorem dX9_findsWorst_15 : decode cX9_findsWorst 15 = .ok (.istore_n 3, 1) := by decide +kernel
theorem dX9_findsWorst_16 : decode cX9_findsWorst 16 = .ok (.iload_n 3, 1) := by decide +kernel
theorem dX9_findsWorst_17 : decode cX9_findsWorst 17 = .ok (.aload_n 0, 1) := by decide +kernel
theorem dX9_findsWorst_18 : decode cX9_findsWorst 18 = .ok (.getfield 66, 3) := by decide +kernel
theorem dX9_findsWorst_21 : decode cX9_findsWorst 21 = .ok (.if_icmp .ge 218, 3) := by decide +kernel
theorem dX9_findsWorst_24 : decode cX9_findsWorst 24 = .ok (.iload_n 3, 1) := by decide +kernel
theorem dX9_findsWorst_25 : decode cX9_findsWorst 25 = .ok (.iconst 1, 1) := by decide +kernel
theorem dX9_findsWorst_26 : decode cX9_findsWorst 26 = .ok (.iadd, 1) := by decide +kernel
theorem dX9_findsWorst_27 : decode cX9_findsWorst 27 = .ok (.istore 4, 2) := by decide +kernel
theorem dX9_findsWorst_29 : decode cX9_findsWorst 29 = .ok (.iload 4, 2) := by decide +kernel
theorem dX9_findsWorst_31 : decode cX9_findsWorst 31 = .ok (.aload_n 0, 1) := by decide +kernel
theorem dX9_findsWorst_32 : decode cX9_findsWorst 32 = .ok (.getfield 66, 3) := by decide +kernel
theorem dX9_findsWorst_35 : decode cX9_findsWorst 35 = .ok (.if_icmp .ge 198, 3) := by decide +kernel
theorem dX9_findsWorst_38 : decode cX9_findsWorst 38 = .ok (.aload_n 0, 1) := by decide +kernel
theorem dX9_findsWorst_39 : decode cX9_findsWorst 39 = .ok (.iload_n 2, 1) := by decide +kernel
theorem dX9_findsWorst_40 : decode cX9_findsWorst 40 = .ok (.iload_n 3, 1) := by decide +kernel
theorem dX9_findsWorst_41 : decode cX9_findsWorst 41 = .ok (.invokevirtual 88, 3) := by decide +kernel
theorem dX9_findsWorst_44 : decode cX9_findsWorst 44 = .ok (.ifCond .eq 183, 3) := by decide +kernel
theorem dX9_findsWorst_47 : decode cX9_findsWorst 47 = .ok (.aload_n 0, 1) := by decide +kernel
theorem dX9_findsWorst_48 : decode cX9_findsWorst 48 = .ok (.iload_n 3, 1) := by decide +kernel
theorem dX9_findsWorst_49 : decode cX9_findsWorst 49 = .ok (.iload 4, 2) := by decide +kernel
theorem dX9_findsWorst_51 : decode cX9_findsWorst 51 = .ok (.invokevirtual 88, 3) := by decide +kernel
theorem dX9_findsWorst_54 : decode cX9_findsWorst 54 = .ok (.ifCond .eq 173, 3) := by decide +kernel
theorem dX9_findsWorst_57 : decode cX9_findsWorst 57 = .ok (.aload_n 0, 1) := by decide +kernel
theorem dX9_findsWorst_58 : decode cX9_findsWorst 58 = .ok (.iload_n 2, 1) := by decide +kernel
theorem dX9_findsWorst_59 : decode cX9_findsWorst 59 = .ok (.iload 4, 2) := by decide +kernel
theorem dX9_findsWorst_61 : decode cX9_findsWorst 61 = .ok (.invokevirtual 88, 3) := by decide +kernel
theorem dX9_findsWorst_64 : decode cX9_findsWorst 64 = .ok (.ifCond .ne 6, 3) := by decide +kernel
theorem dX9_findsWorst_67 : decode cX9_findsWorst 67 = .ok (.goto 160, 3) := by decide +kernel
theorem dX9_findsWorst_70 : decode cX9_findsWorst 70 = .ok (.aload_n 0, 1) := by decide +kernel
theorem dX9_findsWorst_71 : decode cX9_findsWorst 71 = .ok (.iload_n 2, 1) := by decide +kernel
theorem dX9_findsWorst_72 : decode cX9_findsWorst 72 = .ok (.iload_n 3, 1) := by decide +kernel
theorem dX9_findsWorst_73 : decode cX9_findsWorst 73 = .ok (.invokevirtual 91, 3) := by decide +kernel
theorem dX9_findsWorst_76 : decode cX9_findsWorst 76 = .ok (.aload_n 0, 1) := by decide +kernel
theorem dX9_findsWorst_77 : decode cX9_findsWorst 77 = .ok (.iload_n 3, 1) := by decide +kernel
theorem dX9_findsWorst_78 : decode cX9_findsWorst 78 = .ok (.iload 4, 2) := by decide +kernel
theorem dX9_findsWorst_80 : decode cX9_findsWorst 80 = .ok (.invokevirtual 91, 3) := by decide +kernel
theorem dX9_findsWorst_83 : decode cX9_findsWorst 83 = .ok (.imul, 1) := by decide +kernel
theorem dX9_findsWorst_84 : decode cX9_findsWorst 84 = .ok (.aload_n 0, 1) := by decide +kernel
theorem dX9_findsWorst_85 : decode cX9_findsWorst 85 = .ok (.iload 4, 2) := by decide +kernel
theorem dX9_findsWorst_87 : decode cX9_findsWorst 87 = .ok (.iload_n 2, 1) := by decide +kernel
theorem dX9_findsWorst_88 : decode cX9_findsWorst 88 = .ok (.invokevirtual 91, 3) := by decide +kernel
theorem dX9_findsWorst_91 : decode cX9_findsWorst 91 = .ok (.imul, 1) := by decide +kernel
theorem dX9_findsWorst_92 : decode cX9_findsWorst 92 = .ok (.istore 5, 2) := by decide +kernel
theorem dX9_findsWorst_94 : decode cX9_findsWorst 94 = .ok (.aload_n 0, 1) := by decide +kernel
theorem dX9_findsWorst_95 : decode cX9_findsWorst 95 = .ok (.iload_n 2, 1) := by decide +kernel
theorem dX9_findsWorst_96 : decode cX9_findsWorst 96 = .ok (.iload_n 3, 1) := by decide +kernel
theorem dX9_findsWorst_97 : decode cX9_findsWorst 97 = .ok (.invokevirtual 94, 3) := by decide +kernel
theorem dX9_findsWorst_100 : decode cX9_findsWorst 100 = .ok (.aload_n 0, 1) := by decide +kernel
theorem dX9_findsWorst_101 : decode cX9_findsWorst 101 = .ok (.iload_n 3, 1) := by decide +kernel
theorem dX9_findsWorst_102 : decode cX9_findsWorst 102 = .ok (.iload 4, 2) := by decide +kernel
theorem dX9_findsWorst_104 : decode cX9_findsWorst 104 = .ok (.invokevirtual 94, 3) := by decide +kernel
theorem dX9_findsWorst_107 : decode cX9_findsWorst 107 = .ok (.imul, 1) := by decide +kernel
theorem dX9_findsWorst_108 : decode cX9_findsWorst 108 = .ok (.aload_n 0, 1) := by decide +kernel
theorem dX9_findsWorst_109 : decode cX9_findsWorst 109 = .ok (.iload 4, 2) := by decide +kernel
theorem dX9_findsWorst_111 : decode cX9_findsWorst 111 = .ok (.iload_n 2, 1) := by decide +kernel
theorem dX9_findsWorst_112 : decode cX9_findsWorst 112 = .ok (.invokevirtual 94, 3) := by decide +kernel
theorem dX9_findsWorst_115 : decode cX9_findsWorst 115 = .ok (.imul, 1) := by decide +kernel
theorem dX9_findsWorst_116 : decode cX9_findsWorst 116 = .ok (.istore 6, 2) := by decide +kernel
theorem dX9_findsWorst_118 : decode cX9_findsWorst 118 = .ok (.iload 5, 2) := by decide +kernel
theorem dX9_findsWorst_120 : decode cX9_findsWorst 120 = .ok (.i2l, 1) := by decide +kernel
theorem dX9_findsWorst_121 : decode cX9_findsWorst 121 = .ok (.iload 6, 2) := by decide +kernel
theorem dX9_findsWorst_123 : decode cX9_findsWorst 123 = .ok (.i2l, 1) := by decide +kernel
theorem dX9_findsWorst_124 : decode cX9_findsWorst 124 = .ok (.invokestatic 81, 3) := by decide +kernel
theorem dX9_findsWorst_127 : decode cX9_findsWorst 127 = .ok (.l2i, 1) := by decide +kernel
theorem dX9_findsWorst_128 : decode cX9_findsWorst 128 = .ok (.istore 7, 2) := by decide +kernel
theorem dX9_findsWorst_130 : decode cX9_findsWorst 130 = .ok (.iload 5, 2) := by decide +kernel
theorem dX9_findsWorst_132 : decode cX9_findsWorst 132 = .ok (.iload 6, 2) := by decide +kernel
theorem dX9_findsWorst_134 : decode cX9_findsWorst 134 = .ok (.invokestatic 63, 3) := by decide +kernel
theorem dX9_findsWorst_137 : decode cX9_findsWorst 137 = .ok (.iload 7, 2) := by decide +kernel
theorem dX9_findsWorst_139 : decode cX9_findsWorst 139 = .ok (.idiv, 1) := by decide +kernel
theorem dX9_findsWorst_140 : decode cX9_findsWorst 140 = .ok (.istore 8, 2) := by decide +kernel
theorem dX9_findsWorst_142 : decode cX9_findsWorst 142 = .ok (.iload 5, 2) := by decide +kernel
theorem dX9_findsWorst_144 : decode cX9_findsWorst 144 = .ok (.iload 6, 2) := by decide +kernel
theorem dX9_findsWorst_146 : decode cX9_findsWorst 146 = .ok (.invokestatic 57, 3) := by decide +kernel
theorem dX9_findsWorst_149 : decode cX9_findsWorst 149 = .ok (.iload 7, 2) := by decide +kernel
theorem dX9_findsWorst_151 : decode cX9_findsWorst 151 = .ok (.idiv, 1) := by decide +kernel
theorem dX9_findsWorst_152 : decode cX9_findsWorst 152 = .ok (.istore 9, 2) := by decide +kernel
theorem dX9_findsWorst_154 : decode cX9_findsWorst 154 = .ok (.iload_n 1, 1) := by decide +kernel
theorem dX9_findsWorst_155 : decode cX9_findsWorst 155 = .ok (.ifCond .eq 32, 3) := by decide +kernel
theorem dX9_findsWorst_158 : decode cX9_findsWorst 158 = .ok (.iload 8, 2) := by decide +kernel
theorem dX9_findsWorst_160 : decode cX9_findsWorst 160 = .ok (.i2l, 1) := by decide +kernel
theorem dX9_findsWorst_161 : decode cX9_findsWorst 161 = .ok (.aload_n 0, 1) := by decide +kernel
theorem dX9_findsWorst_162 : decode cX9_findsWorst 162 = .ok (.getfield 45, 3) := by decide +kernel
theorem dX9_findsWorst_165 : decode cX9_findsWorst 165 = .ok (.iconst 4, 1) := by decide +kernel
theorem dX9_findsWorst_166 : decode cX9_findsWorst 166 = .ok (.iaload, 1) := by decide +kernel
theorem dX9_findsWorst_167 : decode cX9_findsWorst 167 = .ok (.i2l, 1) := by decide +kernel
theorem dX9_findsWorst_168 : decode cX9_findsWorst 168 = .ok (.lmul, 1) := by decide +kernel
theorem dX9_findsWorst_169 : decode cX9_findsWorst 169 = .ok (.aload_n 0, 1) := by decide +kernel
theorem dX9_findsWorst_170 : decode cX9_findsWorst 170 = .ok (.getfield 45, 3) := by decide +kernel
theorem dX9_findsWorst_173 : decode cX9_findsWorst 173 = .ok (.iconst 3, 1) := by decide +kernel
theorem dX9_findsWorst_174 : decode cX9_findsWorst 174 = .ok (.iaload, 1) := by decide +kernel
theorem dX9_findsWorst_175 : decode cX9_findsWorst 175 = .ok (.i2l, 1) := by decide +kernel
theorem dX9_findsWorst_176 : decode cX9_findsWorst 176 = .ok (.iload 9, 2) := by decide +kernel
theorem dX9_findsWorst_178 : decode cX9_findsWorst 178 = .ok (.i2l, 1) := by decide +kernel
theorem dX9_findsWorst_179 : decode cX9_findsWorst 179 = .ok (.lmul, 1) := by decide +kernel
theorem dX9_findsWorst_180 : decode cX9_findsWorst 180 = .ok (.lcmp, 1) := by decide +kernel
theorem dX9_findsWorst_181 : decode cX9_findsWorst 181 = .ok (.ifCond .gt 6, 3) := by decide +kernel
theorem dX9_findsWorst_184 : decode cX9_findsWorst 184 = .ok (.goto 43, 3) := by decide +kernel
theorem dX9_findsWorst_187 : decode cX9_findsWorst 187 = .ok (.iconst 1, 1) := by decide +kernel
theorem dX9_findsWorst_188 : decode cX9_findsWorst 188 = .ok (.istore_n 1, 1) := by decide +kernel
theorem dX9_findsWorst_189 : decode cX9_findsWorst 189 = .ok (.aload_n 0, 1) := by decide +kernel
theorem dX9_findsWorst_190 : decode cX9_findsWorst 190 = .ok (.getfield 45, 3) := by decide +kernel
theorem dX9_findsWorst_193 : decode cX9_findsWorst 193 = .ok (.iconst 0, 1) := by decide +kernel
theorem dX9_findsWorst_194 : decode cX9_findsWorst 194 = .ok (.iload_n 2, 1) := by decide +kernel
theorem dX9_findsWorst_195 : decode cX9_findsWorst 195 = .ok (.iastore, 1) := by decide +kernel
theorem dX9_findsWorst_196 : decode cX9_findsWorst 196 = .ok (.aload_n 0, 1) := by decide +kernel
theorem dX9_findsWorst_197 : decode cX9_findsWorst 197 = .ok (.getfield 45, 3) := by decide +kernel
theorem dX9_findsWorst_200 : decode cX9_findsWorst 200 = .ok (.iconst 1, 1) := by decide +kernel
theorem dX9_findsWorst_201 : decode cX9_findsWorst 201 = .ok (.iload_n 3, 1) := by decide +kernel
theorem dX9_findsWorst_202 : decode cX9_findsWorst 202 = .ok (.iastore, 1) := by decide +kernel
theorem dX9_findsWorst_203 : decode cX9_findsWorst 203 = .ok (.aload_n 0, 1) := by decide +kernel
theorem dX9_findsWorst_204 : decode cX9_findsWorst 204 = .ok (.getfield 45, 3) := by decide +kernel
theorem dX9_findsWorst_207 : decode cX9_findsWorst 207 = .ok (.iconst 2, 1) := by decide +kernel
theorem dX9_findsWorst_208 : decode cX9_findsWorst 208 = .ok (.iload 4, 2) := by decide +kernel
theorem dX9_findsWorst_210 : decode cX9_findsWorst 210 = .ok (.iastore, 1) := by decide +kernel
theorem dX9_findsWorst_211 : decode cX9_findsWorst 211 = .ok (.aload_n 0, 1) := by decide +kernel
theorem dX9_findsWorst_212 : decode cX9_findsWorst 212 = .ok (.getfield 45, 3) := by decide +kernel
theorem dX9_findsWorst_215 : decode cX9_findsWorst 215 = .ok (.iconst 3, 1) := by decide +kernel
theorem dX9_findsWorst_216 : decode cX9_findsWorst 216 = .ok (.iload 8, 2) := by decide +kernel
theorem dX9_findsWorst_218 : decode cX9_findsWorst 218 = .ok (.iastore, 1) := by decide +kernel
theorem dX9_findsWorst_219 : decode cX9_findsWorst 219 = .ok (.aload_n 0, 1) := by decide +kernel
theorem dX9_findsWorst_220 : decode cX9_findsWorst 220 = .ok (.getfield 45, 3) := by decide +kernel
theorem dX9_findsWorst_223 : decode cX9_findsWorst 223 = .ok (.iconst 4, 1) := by decide +kernel
theorem dX9_findsWorst_224 : decode cX9_findsWorst 224 = .ok (.iload 9, 2) := by decide +kernel
theorem dX9_findsWorst_226 : decode cX9_findsWorst 226 = .ok (.iastore, 1) := by decide +kernel
theorem dX9_findsWorst_227 : decode cX9_findsWorst 227 = .ok (.iinc 4 1, 3) := by decide +kernel
theorem dX9_findsWorst_230 : decode cX9_findsWorst 230 = .ok (.goto (-201), 3) := by decide +kernel
theorem dX9_findsWorst_233 : decode cX9_findsWorst 233 = .ok (.iinc 3 1, 3) := by decide +kernel
theorem dX9_findsWorst_236 : decode cX9_findsWorst 236 = .ok (.goto (-220), 3) := by decide +kernel
theorem dX9_findsWorst_239 : decode cX9_findsWorst 239 = .ok (.iinc 2 1, 3) := by decide +kernel
theorem dX9_findsWorst_242 : decode cX9_findsWorst 242 = .ok (.goto (-238), 3) := by decide +kernel
theorem dX9_findsWorst_245 : decode cX9_findsWorst 245 = .ok (.iload_n 1, 1) := by decide +kernel
theorem dX9_findsWorst_246 : decode cX9_findsWorst 246 = .ok (.ireturn, 1) := by decide +kernel
theorem dX9_worst_0 : decode cX9_worst 0 = .ok (.iload_n 1, 1) := by decide +kernel
theorem dX9_worst_1 : decode cX9_worst 1 = .ok (.iconst 0, 1) := by decide +kernel
theorem dX9_worst_2 : decode cX9_worst 2 = .ok (.iconst 4, 1) := by decide +kernel
theorem dX9_worst_3 : decode cX9_worst 3 = .ok (.invokestatic 73, 3) := by decide +kernel
theorem dX9_worst_6 : decode cX9_worst 6 = .ok (.ifCond .eq 19, 3) := by decide +kernel
theorem dX9_worst_9 : decode cX9_worst 9 = .ok (.aload_n 0, 1) := by decide +kernel
theorem dX9_worst_10 : decode cX9_worst 10 = .ok (.invokevirtual 117, 3) := by decide +kernel
theorem dX9_worst_13 : decode cX9_worst 13 = .ok (.ifCond .eq 12, 3) := by decide +kernel
theorem dX9_worst_16 : decode cX9_worst 16 = .ok (.aload_n 0, 1) := by decide +kernel
theorem dX9_worst_17 : decode cX9_worst 17 = .ok (.getfield 45, 3) := by decide +kernel
theorem dX9_worst_20 : decode cX9_worst 20 = .ok (.iload_n 1, 1) := by decide +kernel
theorem dX9_worst_21 : decode cX9_worst 21 = .ok (.iaload, 1) := by decide +kernel
theorem dX9_worst_22 : decode cX9_worst 22 = .ok (.goto 4, 3) := by decide +kernel
theorem dX9_worst_25 : decode cX9_worst 25 = .ok (.iconst (-1), 1) := by decide +kernel
theorem dX9_worst_26 : decode cX9_worst 26 = .ok (.ireturn, 1) := by decide +kernel
theorem dX9_areAllSaid_0 : decode cX9_areAllSaid 0 = .ok (.aload_n 0, 1) := by decide +kernel
theorem dX9_areAllSaid_1 : decode cX9_areAllSaid 1 = .ok (.invokevirtual 100, 3) := by decide +kernel
theorem dX9_areAllSaid_4 : decode cX9_areAllSaid 4 = .ok (.invokestatic 108, 3) := by decide +kernel
theorem dX9_areAllSaid_7 : decode cX9_areAllSaid 7 = .ok (.aload_n 0, 1) := by decide +kernel
theorem dX9_areAllSaid_8 : decode cX9_areAllSaid 8 = .ok (.getfield 70, 3) := by decide +kernel
theorem dX9_areAllSaid_11 : decode cX9_areAllSaid 11 = .ok (.if_icmp .ne 7, 3) := by decide +kernel
theorem dX9_areAllSaid_14 : decode cX9_areAllSaid 14 = .ok (.iconst 1, 1) := by decide +kernel
theorem dX9_areAllSaid_15 : decode cX9_areAllSaid 15 = .ok (.goto 4, 3) := by decide +kernel
theorem dX9_areAllSaid_18 : decode cX9_areAllSaid 18 = .ok (.iconst 0, 1) := by decide +kernel
theorem dX9_areAllSaid_19 : decode cX9_areAllSaid 19 = .ok (.ireturn, 1) := by decide +kernel
theorem dX9_rowPart_0 : decode cX9_rowPart 0 = .ok (.lconst 1, 1) := by decide +kernel
theorem dX9_rowPart_1 : decode cX9_rowPart 1 = .ok (.lstore_n 3, 1) := by decide +kernel
theorem dX9_rowPart_2 : decode cX9_rowPart 2 = .ok (.lconst 1, 1) := by decide +kernel
end
section
-- decode rows: X9d
theorem dX9_rowPart_3 : decode cX9_rowPart 3 = .ok (.lstore 5, 2) := by decide +kernel
theorem dX9_rowPart_5 : decode cX9_rowPart 5 = .ok (.iconst 0, 1) := by decide +kernel
theorem dX9_rowPart_6 : decode cX9_rowPart 6 = .ok (.istore 7, 2) := by decide +kernel
theorem dX9_rowPart_8 : decode cX9_rowPart 8 = .ok (.iload 7, 2) := by decide +kernel
theorem dX9_rowPart_10 : decode cX9_rowPart 10 = .ok (.aload_n 0, 1) := by decide +kernel
theorem dX9_rowPart_11 : decode cX9_rowPart 11 = .ok (.getfield 66, 3) := by decide +kernel
theorem dX9_rowPart_14 : decode cX9_rowPart 14 = .ok (.if_icmp .ge 42, 3) := by decide +kernel
theorem dX9_rowPart_17 : decode cX9_rowPart 17 = .ok (.iload 7, 2) := by decide +kernel
theorem dX9_rowPart_19 : decode cX9_rowPart 19 = .ok (.iload_n 1, 1) := by decide +kernel
theorem dX9_rowPart_20 : decode cX9_rowPart 20 = .ok (.if_icmp .ne 6, 3) := by decide +kernel
theorem dX9_rowPart_23 : decode cX9_rowPart 23 = .ok (.goto 27, 3) := by decide +kernel
theorem dX9_rowPart_26 : decode cX9_rowPart 26 = .ok (.lload_n 3, 1) := by decide +kernel
theorem dX9_rowPart_27 : decode cX9_rowPart 27 = .ok (.aload_n 0, 1) := by decide +kernel
theorem dX9_rowPart_28 : decode cX9_rowPart 28 = .ok (.iload_n 1, 1) := by decide +kernel
theorem dX9_rowPart_29 : decode cX9_rowPart 29 = .ok (.iload 7, 2) := by decide +kernel
theorem dX9_rowPart_31 : decode cX9_rowPart 31 = .ok (.invokevirtual 91, 3) := by decide +kernel
theorem dX9_rowPart_34 : decode cX9_rowPart 34 = .ok (.i2l, 1) := by decide +kernel
theorem dX9_rowPart_35 : decode cX9_rowPart 35 = .ok (.lmul, 1) := by decide +kernel
theorem dX9_rowPart_36 : decode cX9_rowPart 36 = .ok (.lstore_n 3, 1) := by decide +kernel
theorem dX9_rowPart_37 : decode cX9_rowPart 37 = .ok (.lload 5, 2) := by decide +kernel
theorem dX9_rowPart_39 : decode cX9_rowPart 39 = .ok (.aload_n 0, 1) := by decide +kernel
theorem dX9_rowPart_40 : decode cX9_rowPart 40 = .ok (.iload_n 1, 1) := by decide +kernel
theorem dX9_rowPart_41 : decode cX9_rowPart 41 = .ok (.iload 7, 2) := by decide +kernel
theorem dX9_rowPart_43 : decode cX9_rowPart 43 = .ok (.invokevirtual 94, 3) := by decide +kernel
theorem dX9_rowPart_46 : decode cX9_rowPart 46 = .ok (.i2l, 1) := by decide +kernel
theorem dX9_rowPart_47 : decode cX9_rowPart 47 = .ok (.lmul, 1) := by decide +kernel
theorem dX9_rowPart_48 : decode cX9_rowPart 48 = .ok (.lstore 5, 2) := by decide +kernel
theorem dX9_rowPart_50 : decode cX9_rowPart 50 = .ok (.iinc 7 1, 3) := by decide +kernel
theorem dX9_rowPart_53 : decode cX9_rowPart 53 = .ok (.goto (-45), 3) := by decide +kernel
theorem dX9_rowPart_56 : decode cX9_rowPart 56 = .ok (.lload_n 3, 1) := by decide +kernel
theorem dX9_rowPart_57 : decode cX9_rowPart 57 = .ok (.lload 5, 2) := by decide +kernel
theorem dX9_rowPart_59 : decode cX9_rowPart 59 = .ok (.invokestatic 81, 3) := by decide +kernel
theorem dX9_rowPart_62 : decode cX9_rowPart 62 = .ok (.lstore 7, 2) := by decide +kernel
theorem dX9_rowPart_64 : decode cX9_rowPart 64 = .ok (.iload_n 2, 1) := by decide +kernel
theorem dX9_rowPart_65 : decode cX9_rowPart 65 = .ok (.ifCond .eq 10, 3) := by decide +kernel
theorem dX9_rowPart_68 : decode cX9_rowPart 68 = .ok (.lload_n 3, 1) := by decide +kernel
theorem dX9_rowPart_69 : decode cX9_rowPart 69 = .ok (.lload 7, 2) := by decide +kernel
theorem dX9_rowPart_71 : decode cX9_rowPart 71 = .ok (.ldiv, 1) := by decide +kernel
theorem dX9_rowPart_72 : decode cX9_rowPart 72 = .ok (.goto 8, 3) := by decide +kernel
theorem dX9_rowPart_75 : decode cX9_rowPart 75 = .ok (.lload 5, 2) := by decide +kernel
theorem dX9_rowPart_77 : decode cX9_rowPart 77 = .ok (.lload 7, 2) := by decide +kernel
theorem dX9_rowPart_79 : decode cX9_rowPart 79 = .ok (.ldiv, 1) := by decide +kernel
theorem dX9_rowPart_80 : decode cX9_rowPart 80 = .ok (.lreturn, 1) := by decide +kernel
theorem dX9_row_0 : decode cX9_row 0 = .ok (.iload_n 1, 1) := by decide +kernel
theorem dX9_row_1 : decode cX9_row 1 = .ok (.iconst 0, 1) := by decide +kernel
theorem dX9_row_2 : decode cX9_row 2 = .ok (.aload_n 0, 1) := by decide +kernel
theorem dX9_row_3 : decode cX9_row 3 = .ok (.getfield 66, 3) := by decide +kernel
theorem dX9_row_6 : decode cX9_row 6 = .ok (.iconst 1, 1) := by decide +kernel
theorem dX9_row_7 : decode cX9_row 7 = .ok (.isub, 1) := by decide +kernel
theorem dX9_row_8 : decode cX9_row 8 = .ok (.invokestatic 73, 3) := by decide +kernel
theorem dX9_row_11 : decode cX9_row 11 = .ok (.ifCond .eq 19, 3) := by decide +kernel
theorem dX9_row_14 : decode cX9_row 14 = .ok (.aload_n 0, 1) := by decide +kernel
theorem dX9_row_15 : decode cX9_row 15 = .ok (.invokevirtual 121, 3) := by decide +kernel
theorem dX9_row_18 : decode cX9_row 18 = .ok (.ifCond .eq 12, 3) := by decide +kernel
theorem dX9_row_21 : decode cX9_row 21 = .ok (.iload_n 2, 1) := by decide +kernel
theorem dX9_row_22 : decode cX9_row 22 = .ok (.iconst 0, 1) := by decide +kernel
theorem dX9_row_23 : decode cX9_row 23 = .ok (.iconst 1, 1) := by decide +kernel
theorem dX9_row_24 : decode cX9_row 24 = .ok (.invokestatic 73, 3) := by decide +kernel
theorem dX9_row_27 : decode cX9_row 27 = .ok (.ifCond .ne 5, 3) := by decide +kernel
theorem dX9_row_30 : decode cX9_row 30 = .ok (.iconst (-1), 1) := by decide +kernel
theorem dX9_row_31 : decode cX9_row 31 = .ok (.ireturn, 1) := by decide +kernel
theorem dX9_row_32 : decode cX9_row 32 = .ok (.aload_n 0, 1) := by decide +kernel
theorem dX9_row_33 : decode cX9_row 33 = .ok (.iload_n 1, 1) := by decide +kernel
theorem dX9_row_34 : decode cX9_row 34 = .ok (.iload_n 2, 1) := by decide +kernel
theorem dX9_row_35 : decode cX9_row 35 = .ok (.ifCond .ne 7, 3) := by decide +kernel
theorem dX9_row_38 : decode cX9_row 38 = .ok (.iconst 1, 1) := by decide +kernel
theorem dX9_row_39 : decode cX9_row 39 = .ok (.goto 4, 3) := by decide +kernel
theorem dX9_row_42 : decode cX9_row 42 = .ok (.iconst 0, 1) := by decide +kernel
theorem dX9_row_43 : decode cX9_row 43 = .ok (.invokevirtual 124, 3) := by decide +kernel
theorem dX9_row_46 : decode cX9_row 46 = .ok (.l2i, 1) := by decide +kernel
theorem dX9_row_47 : decode cX9_row 47 = .ok (.ireturn, 1) := by decide +kernel
theorem dX9_order_0 : decode cX9_order 0 = .ok (.iload_n 1, 1) := by decide +kernel
theorem dX9_order_1 : decode cX9_order 1 = .ok (.iconst 0, 1) := by decide +kernel
theorem dX9_order_2 : decode cX9_order 2 = .ok (.aload_n 0, 1) := by decide +kernel
theorem dX9_order_3 : decode cX9_order 3 = .ok (.getfield 66, 3) := by decide +kernel
theorem dX9_order_6 : decode cX9_order 6 = .ok (.iconst 1, 1) := by decide +kernel
theorem dX9_order_7 : decode cX9_order 7 = .ok (.isub, 1) := by decide +kernel
theorem dX9_order_8 : decode cX9_order 8 = .ok (.invokestatic 73, 3) := by decide +kernel
theorem dX9_order_11 : decode cX9_order 11 = .ok (.ifCond .eq 24, 3) := by decide +kernel
theorem dX9_order_14 : decode cX9_order 14 = .ok (.iload_n 2, 1) := by decide +kernel
theorem dX9_order_15 : decode cX9_order 15 = .ok (.iconst 0, 1) := by decide +kernel
theorem dX9_order_16 : decode cX9_order 16 = .ok (.aload_n 0, 1) := by decide +kernel
theorem dX9_order_17 : decode cX9_order 17 = .ok (.getfield 66, 3) := by decide +kernel
theorem dX9_order_20 : decode cX9_order 20 = .ok (.iconst 1, 1) := by decide +kernel
theorem dX9_order_21 : decode cX9_order 21 = .ok (.isub, 1) := by decide +kernel
theorem dX9_order_22 : decode cX9_order 22 = .ok (.invokestatic 73, 3) := by decide +kernel
theorem dX9_order_25 : decode cX9_order 25 = .ok (.ifCond .eq 10, 3) := by decide +kernel
theorem dX9_order_28 : decode cX9_order 28 = .ok (.aload_n 0, 1) := by decide +kernel
theorem dX9_order_29 : decode cX9_order 29 = .ok (.invokevirtual 121, 3) := by decide +kernel
theorem dX9_order_32 : decode cX9_order 32 = .ok (.ifCond .ne 5, 3) := by decide +kernel
theorem dX9_order_35 : decode cX9_order 35 = .ok (.iconst (-1), 1) := by decide +kernel
theorem dX9_order_36 : decode cX9_order 36 = .ok (.ireturn, 1) := by decide +kernel
theorem dX9_order_37 : decode cX9_order 37 = .ok (.aload_n 0, 1) := by decide +kernel
theorem dX9_order_38 : decode cX9_order 38 = .ok (.iload_n 1, 1) := by decide +kernel
theorem dX9_order_39 : decode cX9_order 39 = .ok (.iconst 1, 1) := by decide +kernel
theorem dX9_order_40 : decode cX9_order 40 = .ok (.invokevirtual 124, 3) := by decide +kernel
theorem dX9_order_43 : decode cX9_order 43 = .ok (.aload_n 0, 1) := by decide +kernel
theorem dX9_order_44 : decode cX9_order 44 = .ok (.iload_n 2, 1) := by decide +kernel
theorem dX9_order_45 : decode cX9_order 45 = .ok (.iconst 0, 1) := by decide +kernel
theorem dX9_order_46 : decode cX9_order 46 = .ok (.invokevirtual 124, 3) := by decide +kernel
theorem dX9_order_49 : decode cX9_order 49 = .ok (.lmul, 1) := by decide +kernel
theorem dX9_order_50 : decode cX9_order 50 = .ok (.lstore_n 3, 1) := by decide +kernel
theorem dX9_order_51 : decode cX9_order 51 = .ok (.aload_n 0, 1) := by decide +kernel
theorem dX9_order_52 : decode cX9_order 52 = .ok (.iload_n 2, 1) := by decide +kernel
theorem dX9_order_53 : decode cX9_order 53 = .ok (.iconst 1, 1) := by decide +kernel
theorem dX9_order_54 : decode cX9_order 54 = .ok (.invokevirtual 124, 3) := by decide +kernel
theorem dX9_order_57 : decode cX9_order 57 = .ok (.aload_n 0, 1) := by decide +kernel
theorem dX9_order_58 : decode cX9_order 58 = .ok (.iload_n 1, 1) := by decide +kernel
theorem dX9_order_59 : decode cX9_order 59 = .ok (.iconst 0, 1) := by decide +kernel
theorem dX9_order_60 : decode cX9_order 60 = .ok (.invokevirtual 124, 3) := by decide +kernel
theorem dX9_order_63 : decode cX9_order 63 = .ok (.lmul, 1) := by decide +kernel
theorem dX9_order_64 : decode cX9_order 64 = .ok (.lstore 5, 2) := by decide +kernel
theorem dX9_order_66 : decode cX9_order 66 = .ok (.lload_n 3, 1) := by decide +kernel
theorem dX9_order_67 : decode cX9_order 67 = .ok (.lload 5, 2) := by decide +kernel
theorem dX9_order_69 : decode cX9_order 69 = .ok (.lcmp, 1) := by decide +kernel
theorem dX9_order_70 : decode cX9_order 70 = .ok (.ifCond .le 7, 3) := by decide +kernel
theorem dX9_order_73 : decode cX9_order 73 = .ok (.iconst 1, 1) := by decide +kernel
theorem dX9_order_74 : decode cX9_order 74 = .ok (.goto 15, 3) := by decide +kernel
theorem dX9_order_77 : decode cX9_order 77 = .ok (.lload_n 3, 1) := by decide +kernel
theorem dX9_order_78 : decode cX9_order 78 = .ok (.lload 5, 2) := by decide +kernel
theorem dX9_order_80 : decode cX9_order 80 = .ok (.lcmp, 1) := by decide +kernel
theorem dX9_order_81 : decode cX9_order 81 = .ok (.ifCond .ge 7, 3) := by decide +kernel
theorem dX9_order_84 : decode cX9_order 84 = .ok (.iconst 2, 1) := by decide +kernel
theorem dX9_order_85 : decode cX9_order 85 = .ok (.goto 4, 3) := by decide +kernel
theorem dX9_order_88 : decode cX9_order 88 = .ok (.iconst 0, 1) := by decide +kernel
theorem dX9_order_89 : decode cX9_order 89 = .ok (.ireturn, 1) := by decide +kernel
theorem dX9_one_0 : decode cX9_one 0 = .ok (.iconst 0, 1) := by decide +kernel
theorem dX9_one_1 : decode cX9_one 1 = .ok (.istore_n 1, 1) := by decide +kernel
theorem dX9_one_2 : decode cX9_one 2 = .ok (.iload_n 1, 1) := by decide +kernel
theorem dX9_one_3 : decode cX9_one 3 = .ok (.bipush 12, 2) := by decide +kernel
theorem dX9_one_5 : decode cX9_one 5 = .ok (.if_icmp .ge 21, 3) := by decide +kernel
theorem dX9_one_8 : decode cX9_one 8 = .ok (.aload_n 0, 1) := by decide +kernel
theorem dX9_one_9 : decode cX9_one 9 = .ok (.iload_n 1, 1) := by decide +kernel
theorem dX9_one_10 : decode cX9_one 10 = .ok (.iload_n 1, 1) := by decide +kernel
theorem dX9_one_11 : decode cX9_one 11 = .ok (.ifCond .ne 7, 3) := by decide +kernel
theorem dX9_one_14 : decode cX9_one 14 = .ok (.lconst 1, 1) := by decide +kernel
theorem dX9_one_15 : decode cX9_one 15 = .ok (.goto 4, 3) := by decide +kernel
theorem dX9_one_18 : decode cX9_one 18 = .ok (.lconst 0, 1) := by decide +kernel
theorem dX9_one_19 : decode cX9_one 19 = .ok (.lastore, 1) := by decide +kernel
theorem dX9_one_20 : decode cX9_one 20 = .ok (.iinc 1 1, 3) := by decide +kernel
theorem dX9_one_23 : decode cX9_one 23 = .ok (.goto (-21), 3) := by decide +kernel
theorem dX9_one_26 : decode cX9_one 26 = .ok (.return_, 1) := by decide +kernel
theorem dX9_times_0 : decode cX9_times 0 = .ok (.iconst 0, 1) := by decide +kernel
theorem dX9_times_1 : decode cX9_times 1 = .ok (.istore 4, 2) := by decide +kernel
theorem dX9_times_3 : decode cX9_times 3 = .ok (.iload 4, 2) := by decide +kernel
theorem dX9_times_5 : decode cX9_times 5 = .ok (.iload_n 3, 1) := by decide +kernel
theorem dX9_times_6 : decode cX9_times 6 = .ok (.if_icmp .ge 57, 3) := by decide +kernel
theorem dX9_times_9 : decode cX9_times 9 = .ok (.lconst 0, 1) := by decide +kernel
theorem dX9_times_10 : decode cX9_times 10 = .ok (.lstore 5, 2) := by decide +kernel
theorem dX9_times_12 : decode cX9_times 12 = .ok (.iconst 0, 1) := by decide +kernel
theorem dX9_times_13 : decode cX9_times 13 = .ok (.istore 7, 2) := by decide +kernel
theorem dX9_times_15 : decode cX9_times 15 = .ok (.iload 7, 2) := by decide +kernel
theorem dX9_times_17 : decode cX9_times 17 = .ok (.bipush 12, 2) := by decide +kernel
theorem dX9_times_19 : decode cX9_times 19 = .ok (.if_icmp .ge 38, 3) := by decide +kernel
theorem dX9_times_22 : decode cX9_times 22 = .ok (.aload_n 0, 1) := by decide +kernel
theorem dX9_times_23 : decode cX9_times 23 = .ok (.iload 7, 2) := by decide +kernel
theorem dX9_times_25 : decode cX9_times 25 = .ok (.laload, 1) := by decide +kernel
theorem dX9_times_26 : decode cX9_times 26 = .ok (.lload_n 1, 1) := by decide +kernel
theorem dX9_times_27 : decode cX9_times 27 = .ok (.lmul, 1) := by decide +kernel
theorem dX9_times_28 : decode cX9_times 28 = .ok (.lload 5, 2) := by decide +kernel
theorem dX9_times_30 : decode cX9_times 30 = .ok (.ladd, 1) := by decide +kernel
theorem dX9_times_31 : decode cX9_times 31 = .ok (.lstore 8, 2) := by decide +kernel
theorem dX9_times_33 : decode cX9_times 33 = .ok (.aload_n 0, 1) := by decide +kernel
theorem dX9_times_34 : decode cX9_times 34 = .ok (.iload 7, 2) := by decide +kernel
theorem dX9_times_36 : decode cX9_times 36 = .ok (.lload 8, 2) := by decide +kernel
theorem dX9_times_38 : decode cX9_times 38 = .ok (.ldc2_w 128, 3) := by decide +kernel
theorem dX9_times_41 : decode cX9_times 41 = .ok (.lrem, 1) := by decide +kernel
theorem dX9_times_42 : decode cX9_times 42 = .ok (.lastore, 1) := by decide +kernel
theorem dX9_times_43 : decode cX9_times 43 = .ok (.lload 8, 2) := by decide +kernel
theorem dX9_times_45 : decode cX9_times 45 = .ok (.ldc2_w 128, 3) := by decide +kernel
theorem dX9_times_48 : decode cX9_times 48 = .ok (.ldiv, 1) := by decide +kernel
theorem dX9_times_49 : decode cX9_times 49 = .ok (.lstore 5, 2) := by decide +kernel
theorem dX9_times_51 : decode cX9_times 51 = .ok (.iinc 7 1, 3) := by decide +kernel
theorem dX9_times_54 : decode cX9_times 54 = .ok (.goto (-39), 3) := by decide +kernel
theorem dX9_times_57 : decode cX9_times 57 = .ok (.iinc 4 1, 3) := by decide +kernel
theorem dX9_times_60 : decode cX9_times 60 = .ok (.goto (-57), 3) := by decide +kernel
theorem dX9_times_63 : decode cX9_times 63 = .ok (.return_, 1) := by decide +kernel
theorem dX9_compare_0 : decode cX9_compare 0 = .ok (.aload_n 0, 1) := by decide +kernel
theorem dX9_compare_1 : decode cX9_compare 1 = .ok (.getfield 48, 3) := by decide +kernel
theorem dX9_compare_4 : decode cX9_compare 4 = .ok (.invokestatic 130, 3) := by decide +kernel
theorem dX9_compare_7 : decode cX9_compare 7 = .ok (.aload_n 0, 1) := by decide +kernel
theorem dX9_compare_8 : decode cX9_compare 8 = .ok (.getfield 48, 3) := by decide +kernel
theorem dX9_compare_11 : decode cX9_compare 11 = .ok (.lload_n 1, 1) := by decide +kernel
theorem dX9_compare_12 : decode cX9_compare 12 = .ok (.aload_n 0, 1) := by decide +kernel
theorem dX9_compare_13 : decode cX9_compare 13 = .ok (.getfield 134, 3) := by decide +kernel
theorem dX9_compare_16 : decode cX9_compare 16 = .ok (.invokestatic 137, 3) := by decide +kernel
theorem dX9_compare_19 : decode cX9_compare 19 = .ok (.aload_n 0, 1) := by decide +kernel
theorem dX9_compare_20 : decode cX9_compare 20 = .ok (.getfield 48, 3) := by decide +kernel
theorem dX9_compare_23 : decode cX9_compare 23 = .ok (.aload_n 0, 1) := by decide +kernel
theorem dX9_compare_24 : decode cX9_compare 24 = .ok (.getfield 141, 3) := by decide +kernel
theorem dX9_compare_27 : decode cX9_compare 27 = .ok (.iload 5, 2) := by decide +kernel
theorem dX9_compare_29 : decode cX9_compare 29 = .ok (.invokestatic 137, 3) := by decide +kernel
theorem dX9_compare_32 : decode cX9_compare 32 = .ok (.aload_n 0, 1) := by decide +kernel
theorem dX9_compare_33 : decode cX9_compare 33 = .ok (.getfield 51, 3) := by decide +kernel
theorem dX9_compare_36 : decode cX9_compare 36 = .ok (.invokestatic 130, 3) := by decide +kernel
theorem dX9_compare_39 : decode cX9_compare 39 = .ok (.aload_n 0, 1) := by decide +kernel
theorem dX9_compare_40 : decode cX9_compare 40 = .ok (.getfield 51, 3) := by decide +kernel
theorem dX9_compare_43 : decode cX9_compare 43 = .ok (.aload_n 0, 1) := by decide +kernel
theorem dX9_compare_44 : decode cX9_compare 44 = .ok (.getfield 145, 3) := by decide +kernel
theorem dX9_compare_47 : decode cX9_compare 47 = .ok (.iload 5, 2) := by decide +kernel
theorem dX9_compare_49 : decode cX9_compare 49 = .ok (.invokestatic 137, 3) := by decide +kernel
theorem dX9_compare_52 : decode cX9_compare 52 = .ok (.aload_n 0, 1) := by decide +kernel
theorem dX9_compare_53 : decode cX9_compare 53 = .ok (.getfield 51, 3) := by decide +kernel
theorem dX9_compare_56 : decode cX9_compare 56 = .ok (.lload_n 3, 1) := by decide +kernel
theorem dX9_compare_57 : decode cX9_compare 57 = .ok (.aload_n 0, 1) := by decide +kernel
theorem dX9_compare_58 : decode cX9_compare 58 = .ok (.getfield 134, 3) := by decide +kernel
theorem dX9_compare_61 : decode cX9_compare 61 = .ok (.invokestatic 137, 3) := by decide +kernel
theorem dX9_compare_64 : decode cX9_compare 64 = .ok (.bipush 11, 2) := by decide +kernel
theorem dX9_compare_66 : decode cX9_compare 66 = .ok (.istore 6, 2) := by decide +kernel
theorem dX9_compare_68 : decode cX9_compare 68 = .ok (.iload 6, 2) := by decide +kernel
theorem dX9_compare_70 : decode cX9_compare 70 = .ok (.ifCond .lt 51, 3) := by decide +kernel
theorem dX9_compare_73 : decode cX9_compare 73 = .ok (.aload_n 0, 1) := by decide +kernel
theorem dX9_compare_74 : decode cX9_compare 74 = .ok (.getfield 48, 3) := by decide +kernel
theorem dX9_compare_77 : decode cX9_compare 77 = .ok (.iload 6, 2) := by decide +kernel
theorem dX9_compare_79 : decode cX9_compare 79 = .ok (.laload, 1) := by decide +kernel
theorem dX9_compare_80 : decode cX9_compare 80 = .ok (.aload_n 0, 1) := by decide +kernel
theorem dX9_compare_81 : decode cX9_compare 81 = .ok (.getfield 51, 3) := by decide +kernel
theorem dX9_compare_84 : decode cX9_compare 84 = .ok (.iload 6, 2) := by decide +kernel
theorem dX9_compare_86 : decode cX9_compare 86 = .ok (.laload, 1) := by decide +kernel
theorem dX9_compare_87 : decode cX9_compare 87 = .ok (.lcmp, 1) := by decide +kernel
theorem dX9_compare_88 : decode cX9_compare 88 = .ok (.ifCond .eq 27, 3) := by decide +kernel
theorem dX9_compare_91 : decode cX9_compare 91 = .ok (.aload_n 0, 1) := by decide +kernel
theorem dX9_compare_92 : decode cX9_compare 92 = .ok (.getfield 48, 3) := by decide +kernel
theorem dX9_compare_95 : decode cX9_compare 95 = .ok (.iload 6, 2) := by decide +kernel
theorem dX9_compare_97 : decode cX9_compare 97 = .ok (.laload, 1) := by decide +kernel
theorem dX9_compare_98 : decode cX9_compare 98 = .ok (.aload_n 0, 1) := by decide +kernel
theorem dX9_compare_99 : decode cX9_compare 99 = .ok (.getfield 51, 3) := by decide +kernel
theorem dX9_compare_102 : decode cX9_compare 102 = .ok (.iload 6, 2) := by decide +kernel
theorem dX9_compare_104 : decode cX9_compare 104 = .ok (.laload, 1) := by decide +kernel
theorem dX9_compare_105 : decode cX9_compare 105 = .ok (.lcmp, 1) := by decide +kernel
theorem dX9_compare_106 : decode cX9_compare 106 = .ok (.ifCond .le 7, 3) := by decide +kernel
theorem dX9_compare_109 : decode cX9_compare 109 = .ok (.iconst 1, 1) := by decide +kernel
theorem dX9_compare_110 : decode cX9_compare 110 = .ok (.goto 4, 3) := by decide +kernel
theorem dX9_compare_113 : decode cX9_compare 113 = .ok (.iconst (-1), 1) := by decide +kernel
theorem dX9_compare_114 : decode cX9_compare 114 = .ok (.ireturn, 1) := by decide +kernel
theorem dX9_compare_115 : decode cX9_compare 115 = .ok (.iinc 6 (-1), 3) := by decide +kernel
theorem dX9_compare_118 : decode cX9_compare 118 = .ok (.goto (-50), 3) := by decide +kernel
theorem dX9_compare_121 : decode cX9_compare 121 = .ok (.iconst 0, 1) := by decide +kernel
theorem dX9_compare_122 : decode cX9_compare 122 = .ok (.ireturn, 1) := by decide +kernel
theorem dX9_ring_0 : decode cX9_ring 0 = .ok (.lload_n 1, 1) := by decide +kernel
theorem dX9_ring_1 : decode cX9_ring 1 = .ok (.lload_n 3, 1) := by decide +kernel
theorem dX9_ring_2 : decode cX9_ring 2 = .ok (.invokestatic 81, 3) := by decide +kernel
theorem dX9_ring_5 : decode cX9_ring 5 = .ok (.lstore 6, 2) := by decide +kernel
theorem dX9_ring_7 : decode cX9_ring 7 = .ok (.lload_n 1, 1) := by decide +kernel
theorem dX9_ring_8 : decode cX9_ring 8 = .ok (.lload_n 3, 1) := by decide +kernel
theorem dX9_ring_9 : decode cX9_ring 9 = .ok (.invokestatic 148, 3) := by decide +kernel
theorem dX9_ring_12 : decode cX9_ring 12 = .ok (.lload 6, 2) := by decide +kernel
theorem dX9_ring_14 : decode cX9_ring 14 = .ok (.ldiv, 1) := by decide +kernel
theorem dX9_ring_15 : decode cX9_ring 15 = .ok (.lstore 8, 2) := by decide +kernel
theorem dX9_ring_17 : decode cX9_ring 17 = .ok (.lload_n 1, 1) := by decide +kernel
theorem dX9_ring_18 : decode cX9_ring 18 = .ok (.lload_n 3, 1) := by decide +kernel
theorem dX9_ring_19 : decode cX9_ring 19 = .ok (.invokestatic 150, 3) := by decide +kernel
theorem dX9_ring_22 : decode cX9_ring 22 = .ok (.lload 6, 2) := by decide +kernel
theorem dX9_ring_24 : decode cX9_ring 24 = .ok (.ldiv, 1) := by decide +kernel
theorem dX9_ring_25 : decode cX9_ring 25 = .ok (.lstore 10, 2) := by decide +kernel
theorem dX9_ring_27 : decode cX9_ring 27 = .ok (.lload 8, 2) := by decide +kernel
theorem dX9_ring_29 : decode cX9_ring 29 = .ok (.lload 10, 2) := by decide +kernel
theorem dX9_ring_31 : decode cX9_ring 31 = .ok (.lcmp, 1) := by decide +kernel
theorem dX9_ring_32 : decode cX9_ring 32 = .ok (.ifCond .ne 4, 3) := by decide +kernel
theorem dX9_ring_35 : decode cX9_ring 35 = .ok (.return_, 1) := by decide +kernel
theorem dX9_ring_36 : decode cX9_ring 36 = .ok (.aload_n 0, 1) := by decide +kernel
theorem dX9_ring_37 : decode cX9_ring 37 = .ok (.getfield 134, 3) := by decide +kernel
theorem dX9_ring_40 : decode cX9_ring 40 = .ok (.ifCond .ne 7, 3) := by decide +kernel
theorem dX9_ring_43 : decode cX9_ring 43 = .ok (.iconst 1, 1) := by decide +kernel
theorem dX9_ring_44 : decode cX9_ring 44 = .ok (.goto 13, 3) := by decide +kernel
theorem dX9_ring_47 : decode cX9_ring 47 = .ok (.aload_n 0, 1) := by decide +kernel
theorem dX9_ring_48 : decode cX9_ring 48 = .ok (.lload 8, 2) := by decide +kernel
theorem dX9_ring_50 : decode cX9_ring 50 = .ok (.lload 10, 2) := by decide +kernel
theorem dX9_ring_52 : decode cX9_ring 52 = .ok (.iload 5, 2) := by decide +kernel
theorem dX9_ring_54 : decode cX9_ring 54 = .ok (.invokevirtual 152, 3) := by decide +kernel
theorem dX9_ring_57 : decode cX9_ring 57 = .ok (.istore 12, 2) := by decide +kernel
theorem dX9_ring_59 : decode cX9_ring 59 = .ok (.iload 12, 2) := by decide +kernel
theorem dX9_ring_61 : decode cX9_ring 61 = .ok (.ifCond .lt 17, 3) := by decide +kernel
theorem dX9_ring_64 : decode cX9_ring 64 = .ok (.iload 12, 2) := by decide +kernel
theorem dX9_ring_66 : decode cX9_ring 66 = .ok (.ifCond .ne 13, 3) := by decide +kernel
theorem dX9_ring_69 : decode cX9_ring 69 = .ok (.iload 5, 2) := by decide +kernel
theorem dX9_ring_71 : decode cX9_ring 71 = .ok (.aload_n 0, 1) := by decide +kernel
theorem dX9_ring_72 : decode cX9_ring 72 = .ok (.getfield 134, 3) := by decide +kernel
theorem dX9_ring_75 : decode cX9_ring 75 = .ok (.if_icmp .lt 4, 3) := by decide +kernel
theorem dX9_ring_78 : decode cX9_ring 78 = .ok (.return_, 1) := by decide +kernel
theorem dX9_ring_79 : decode cX9_ring 79 = .ok (.aload_n 0, 1) := by decide +kernel
theorem dX9_ring_80 : decode cX9_ring 80 = .ok (.lload 8, 2) := by decide +kernel
theorem dX9_ring_82 : decode cX9_ring 82 = .ok (.putfield 145, 3) := by decide +kernel
theorem dX9_ring_85 : decode cX9_ring 85 = .ok (.aload_n 0, 1) := by decide +kernel
theorem dX9_ring_86 : decode cX9_ring 86 = .ok (.lload 10, 2) := by decide +kernel
theorem dX9_ring_88 : decode cX9_ring 88 = .ok (.putfield 141, 3) := by decide +kernel
theorem dX9_ring_91 : decode cX9_ring 91 = .ok (.aload_n 0, 1) := by decide +kernel
theorem dX9_ring_92 : decode cX9_ring 92 = .ok (.iload 5, 2) := by decide +kernel
theorem dX9_ring_94 : decode cX9_ring 94 = .ok (.putfield 134, 3) := by decide +kernel
theorem dX9_ring_97 : decode cX9_ring 97 = .ok (.return_, 1) := by decide +kernel
theorem dX9_rings_0 : decode cX9_rings 0 = .ok (.aload_n 0, 1) := by decide +kernel
theorem dX9_rings_1 : decode cX9_rings 1 = .ok (.getfield 54, 3) := by decide +kernel
theorem dX9_rings_4 : decode cX9_rings 4 = .ok (.iload_n 1, 1) := by decide +kernel
theorem dX9_rings_5 : decode cX9_rings 5 = .ok (.iconst 1, 1) := by decide +kernel
theorem dX9_rings_6 : decode cX9_rings 6 = .ok (.isub, 1) := by decide +kernel
end
section
-- decode rows: X9e
theorem dX9_rings_7 : decode cX9_rings 7 = .ok (.iaload, 1) := by decide +kernel
theorem dX9_rings_8 : decode cX9_rings 8 = .ok (.istore 6, 2) := by decide +kernel
theorem dX9_rings_10 : decode cX9_rings 10 = .ok (.iload_n 1, 1) := by decide +kernel
theorem dX9_rings_11 : decode cX9_rings 11 = .ok (.iconst 2, 1) := by decide +kernel
theorem dX9_rings_12 : decode cX9_rings 12 = .ok (.if_icmp .le 54, 3) := by decide +kernel
theorem dX9_rings_15 : decode cX9_rings 15 = .ok (.aload_n 0, 1) := by decide +kernel
theorem dX9_rings_16 : decode cX9_rings 16 = .ok (.iload 6, 2) := by decide +kernel
theorem dX9_rings_18 : decode cX9_rings 18 = .ok (.aload_n 0, 1) := by decide +kernel
theorem dX9_rings_19 : decode cX9_rings 19 = .ok (.getfield 54, 3) := by decide +kernel
theorem dX9_rings_22 : decode cX9_rings 22 = .ok (.iconst 0, 1) := by decide +kernel
theorem dX9_rings_23 : decode cX9_rings 23 = .ok (.iaload, 1) := by decide +kernel
theorem dX9_rings_24 : decode cX9_rings 24 = .ok (.invokevirtual 88, 3) := by decide +kernel
theorem dX9_rings_27 : decode cX9_rings 27 = .ok (.ifCond .eq 39, 3) := by decide +kernel
theorem dX9_rings_30 : decode cX9_rings 30 = .ok (.aload_n 0, 1) := by decide +kernel
theorem dX9_rings_31 : decode cX9_rings 31 = .ok (.lload_n 2, 1) := by decide +kernel
theorem dX9_rings_32 : decode cX9_rings 32 = .ok (.aload_n 0, 1) := by decide +kernel
theorem dX9_rings_33 : decode cX9_rings 33 = .ok (.iload 6, 2) := by decide +kernel
theorem dX9_rings_35 : decode cX9_rings 35 = .ok (.aload_n 0, 1) := by decide +kernel
theorem dX9_rings_36 : decode cX9_rings 36 = .ok (.getfield 54, 3) := by decide +kernel
theorem dX9_rings_39 : decode cX9_rings 39 = .ok (.iconst 0, 1) := by decide +kernel
theorem dX9_rings_40 : decode cX9_rings 40 = .ok (.iaload, 1) := by decide +kernel
theorem dX9_rings_41 : decode cX9_rings 41 = .ok (.invokevirtual 91, 3) := by decide +kernel
theorem dX9_rings_44 : decode cX9_rings 44 = .ok (.i2l, 1) := by decide +kernel
theorem dX9_rings_45 : decode cX9_rings 45 = .ok (.lmul, 1) := by decide +kernel
theorem dX9_rings_46 : decode cX9_rings 46 = .ok (.lload 4, 2) := by decide +kernel
theorem dX9_rings_48 : decode cX9_rings 48 = .ok (.aload_n 0, 1) := by decide +kernel
theorem dX9_rings_49 : decode cX9_rings 49 = .ok (.iload 6, 2) := by decide +kernel
theorem dX9_rings_51 : decode cX9_rings 51 = .ok (.aload_n 0, 1) := by decide +kernel
theorem dX9_rings_52 : decode cX9_rings 52 = .ok (.getfield 54, 3) := by decide +kernel
theorem dX9_rings_55 : decode cX9_rings 55 = .ok (.iconst 0, 1) := by decide +kernel
theorem dX9_rings_56 : decode cX9_rings 56 = .ok (.iaload, 1) := by decide +kernel
theorem dX9_rings_57 : decode cX9_rings 57 = .ok (.invokevirtual 94, 3) := by decide +kernel
theorem dX9_rings_60 : decode cX9_rings 60 = .ok (.i2l, 1) := by decide +kernel
theorem dX9_rings_61 : decode cX9_rings 61 = .ok (.lmul, 1) := by decide +kernel
theorem dX9_rings_62 : decode cX9_rings 62 = .ok (.iload_n 1, 1) := by decide +kernel
theorem dX9_rings_63 : decode cX9_rings 63 = .ok (.invokevirtual 156, 3) := by decide +kernel
theorem dX9_rings_66 : decode cX9_rings 66 = .ok (.iload_n 1, 1) := by decide +kernel
theorem dX9_rings_67 : decode cX9_rings 67 = .ok (.aload_n 0, 1) := by decide +kernel
theorem dX9_rings_68 : decode cX9_rings 68 = .ok (.getfield 66, 3) := by decide +kernel
theorem dX9_rings_71 : decode cX9_rings 71 = .ok (.if_icmp .ne 4, 3) := by decide +kernel
theorem dX9_rings_74 : decode cX9_rings 74 = .ok (.return_, 1) := by decide +kernel
theorem dX9_rings_75 : decode cX9_rings 75 = .ok (.iconst 0, 1) := by decide +kernel
theorem dX9_rings_76 : decode cX9_rings 76 = .ok (.istore 7, 2) := by decide +kernel
theorem dX9_rings_78 : decode cX9_rings 78 = .ok (.iload 7, 2) := by decide +kernel
theorem dX9_rings_80 : decode cX9_rings 80 = .ok (.aload_n 0, 1) := by decide +kernel
theorem dX9_rings_81 : decode cX9_rings 81 = .ok (.getfield 66, 3) := by decide +kernel
theorem dX9_rings_84 : decode cX9_rings 84 = .ok (.if_icmp .ge 119, 3) := by decide +kernel
theorem dX9_rings_87 : decode cX9_rings 87 = .ok (.iload 7, 2) := by decide +kernel
theorem dX9_rings_89 : decode cX9_rings 89 = .ok (.iload 6, 2) := by decide +kernel
theorem dX9_rings_91 : decode cX9_rings 91 = .ok (.if_icmp .eq 18, 3) := by decide +kernel
theorem dX9_rings_94 : decode cX9_rings 94 = .ok (.aload_n 0, 1) := by decide +kernel
theorem dX9_rings_95 : decode cX9_rings 95 = .ok (.iload 6, 2) := by decide +kernel
theorem dX9_rings_97 : decode cX9_rings 97 = .ok (.iload 7, 2) := by decide +kernel
theorem dX9_rings_99 : decode cX9_rings 99 = .ok (.invokevirtual 88, 3) := by decide +kernel
theorem dX9_rings_102 : decode cX9_rings 102 = .ok (.ifCond .eq 7, 3) := by decide +kernel
theorem dX9_rings_105 : decode cX9_rings 105 = .ok (.iconst 1, 1) := by decide +kernel
theorem dX9_rings_106 : decode cX9_rings 106 = .ok (.goto 4, 3) := by decide +kernel
theorem dX9_rings_109 : decode cX9_rings 109 = .ok (.iconst 0, 1) := by decide +kernel
theorem dX9_rings_110 : decode cX9_rings 110 = .ok (.istore 8, 2) := by decide +kernel
theorem dX9_rings_112 : decode cX9_rings 112 = .ok (.iconst 0, 1) := by decide +kernel
theorem dX9_rings_113 : decode cX9_rings 113 = .ok (.istore 9, 2) := by decide +kernel
theorem dX9_rings_115 : decode cX9_rings 115 = .ok (.iload 9, 2) := by decide +kernel
theorem dX9_rings_117 : decode cX9_rings 117 = .ok (.iload_n 1, 1) := by decide +kernel
theorem dX9_rings_118 : decode cX9_rings 118 = .ok (.if_icmp .ge 33, 3) := by decide +kernel
theorem dX9_rings_121 : decode cX9_rings 121 = .ok (.iload 8, 2) := by decide +kernel
theorem dX9_rings_123 : decode cX9_rings 123 = .ok (.ifCond .eq 28, 3) := by decide +kernel
theorem dX9_rings_126 : decode cX9_rings 126 = .ok (.aload_n 0, 1) := by decide +kernel
theorem dX9_rings_127 : decode cX9_rings 127 = .ok (.getfield 54, 3) := by decide +kernel
theorem dX9_rings_130 : decode cX9_rings 130 = .ok (.iload 9, 2) := by decide +kernel
theorem dX9_rings_132 : decode cX9_rings 132 = .ok (.iaload, 1) := by decide +kernel
theorem dX9_rings_133 : decode cX9_rings 133 = .ok (.iload 7, 2) := by decide +kernel
theorem dX9_rings_135 : decode cX9_rings 135 = .ok (.if_icmp .eq 7, 3) := by decide +kernel
theorem dX9_rings_138 : decode cX9_rings 138 = .ok (.iconst 1, 1) := by decide +kernel
theorem dX9_rings_139 : decode cX9_rings 139 = .ok (.goto 4, 3) := by decide +kernel
theorem dX9_rings_142 : decode cX9_rings 142 = .ok (.iconst 0, 1) := by decide +kernel
theorem dX9_rings_143 : decode cX9_rings 143 = .ok (.istore 8, 2) := by decide +kernel
theorem dX9_rings_145 : decode cX9_rings 145 = .ok (.iinc 9 1, 3) := by decide +kernel
theorem dX9_rings_148 : decode cX9_rings 148 = .ok (.goto (-33), 3) := by decide +kernel
theorem dX9_rings_151 : decode cX9_rings 151 = .ok (.iload 8, 2) := by decide +kernel
theorem dX9_rings_153 : decode cX9_rings 153 = .ok (.ifCond .ne 6, 3) := by decide +kernel
theorem dX9_rings_156 : decode cX9_rings 156 = .ok (.goto 41, 3) := by decide +kernel
theorem dX9_rings_159 : decode cX9_rings 159 = .ok (.aload_n 0, 1) := by decide +kernel
theorem dX9_rings_160 : decode cX9_rings 160 = .ok (.getfield 54, 3) := by decide +kernel
theorem dX9_rings_163 : decode cX9_rings 163 = .ok (.iload_n 1, 1) := by decide +kernel
theorem dX9_rings_164 : decode cX9_rings 164 = .ok (.iload 7, 2) := by decide +kernel
theorem dX9_rings_166 : decode cX9_rings 166 = .ok (.iastore, 1) := by decide +kernel
theorem dX9_rings_167 : decode cX9_rings 167 = .ok (.aload_n 0, 1) := by decide +kernel
theorem dX9_rings_168 : decode cX9_rings 168 = .ok (.iload_n 1, 1) := by decide +kernel
theorem dX9_rings_169 : decode cX9_rings 169 = .ok (.iconst 1, 1) := by decide +kernel
theorem dX9_rings_170 : decode cX9_rings 170 = .ok (.iadd, 1) := by decide +kernel
theorem dX9_rings_171 : decode cX9_rings 171 = .ok (.lload_n 2, 1) := by decide +kernel
theorem dX9_rings_172 : decode cX9_rings 172 = .ok (.aload_n 0, 1) := by decide +kernel
theorem dX9_rings_173 : decode cX9_rings 173 = .ok (.iload 6, 2) := by decide +kernel
theorem dX9_rings_175 : decode cX9_rings 175 = .ok (.iload 7, 2) := by decide +kernel
theorem dX9_rings_177 : decode cX9_rings 177 = .ok (.invokevirtual 91, 3) := by decide +kernel
theorem dX9_rings_180 : decode cX9_rings 180 = .ok (.i2l, 1) := by decide +kernel
theorem dX9_rings_181 : decode cX9_rings 181 = .ok (.lmul, 1) := by decide +kernel
theorem dX9_rings_182 : decode cX9_rings 182 = .ok (.lload 4, 2) := by decide +kernel
theorem dX9_rings_184 : decode cX9_rings 184 = .ok (.aload_n 0, 1) := by decide +kernel
theorem dX9_rings_185 : decode cX9_rings 185 = .ok (.iload 6, 2) := by decide +kernel
theorem dX9_rings_187 : decode cX9_rings 187 = .ok (.iload 7, 2) := by decide +kernel
theorem dX9_rings_189 : decode cX9_rings 189 = .ok (.invokevirtual 94, 3) := by decide +kernel
theorem dX9_rings_192 : decode cX9_rings 192 = .ok (.i2l, 1) := by decide +kernel
theorem dX9_rings_193 : decode cX9_rings 193 = .ok (.lmul, 1) := by decide +kernel
theorem dX9_rings_194 : decode cX9_rings 194 = .ok (.invokevirtual 160, 3) := by decide +kernel
theorem dX9_rings_197 : decode cX9_rings 197 = .ok (.iinc 7 1, 3) := by decide +kernel
theorem dX9_rings_200 : decode cX9_rings 200 = .ok (.goto (-122), 3) := by decide +kernel
theorem dX9_rings_203 : decode cX9_rings 203 = .ok (.return_, 1) := by decide +kernel
theorem dX9_least_0 : decode cX9_least 0 = .ok (.iload_n 1, 1) := by decide +kernel
theorem dX9_least_1 : decode cX9_least 1 = .ok (.iconst 0, 1) := by decide +kernel
theorem dX9_least_2 : decode cX9_least 2 = .ok (.iconst 2, 1) := by decide +kernel
theorem dX9_least_3 : decode cX9_least 3 = .ok (.invokestatic 73, 3) := by decide +kernel
theorem dX9_least_6 : decode cX9_least 6 = .ok (.ifCond .ne 5, 3) := by decide +kernel
theorem dX9_least_9 : decode cX9_least 9 = .ok (.iconst (-1), 1) := by decide +kernel
theorem dX9_least_10 : decode cX9_least 10 = .ok (.ireturn, 1) := by decide +kernel
theorem dX9_least_11 : decode cX9_least 11 = .ok (.aload_n 0, 1) := by decide +kernel
theorem dX9_least_12 : decode cX9_least 12 = .ok (.lconst 1, 1) := by decide +kernel
theorem dX9_least_13 : decode cX9_least 13 = .ok (.putfield 145, 3) := by decide +kernel
theorem dX9_least_16 : decode cX9_least 16 = .ok (.aload_n 0, 1) := by decide +kernel
theorem dX9_least_17 : decode cX9_least 17 = .ok (.lconst 1, 1) := by decide +kernel
theorem dX9_least_18 : decode cX9_least 18 = .ok (.putfield 141, 3) := by decide +kernel
theorem dX9_least_21 : decode cX9_least 21 = .ok (.aload_n 0, 1) := by decide +kernel
theorem dX9_least_22 : decode cX9_least 22 = .ok (.iconst 0, 1) := by decide +kernel
theorem dX9_least_23 : decode cX9_least 23 = .ok (.putfield 134, 3) := by decide +kernel
theorem dX9_least_26 : decode cX9_least 26 = .ok (.iconst 0, 1) := by decide +kernel
theorem dX9_least_27 : decode cX9_least 27 = .ok (.istore_n 2, 1) := by decide +kernel
theorem dX9_least_28 : decode cX9_least 28 = .ok (.iload_n 2, 1) := by decide +kernel
theorem dX9_least_29 : decode cX9_least 29 = .ok (.aload_n 0, 1) := by decide +kernel
theorem dX9_least_30 : decode cX9_least 30 = .ok (.getfield 66, 3) := by decide +kernel
theorem dX9_least_33 : decode cX9_least 33 = .ok (.if_icmp .ge 23, 3) := by decide +kernel
theorem dX9_least_36 : decode cX9_least 36 = .ok (.aload_n 0, 1) := by decide +kernel
theorem dX9_least_37 : decode cX9_least 37 = .ok (.getfield 54, 3) := by decide +kernel
theorem dX9_least_40 : decode cX9_least 40 = .ok (.iconst 0, 1) := by decide +kernel
theorem dX9_least_41 : decode cX9_least 41 = .ok (.iload_n 2, 1) := by decide +kernel
theorem dX9_least_42 : decode cX9_least 42 = .ok (.iastore, 1) := by decide +kernel
theorem dX9_least_43 : decode cX9_least 43 = .ok (.aload_n 0, 1) := by decide +kernel
theorem dX9_least_44 : decode cX9_least 44 = .ok (.iconst 1, 1) := by decide +kernel
theorem dX9_least_45 : decode cX9_least 45 = .ok (.lconst 1, 1) := by decide +kernel
theorem dX9_least_46 : decode cX9_least 46 = .ok (.lconst 1, 1) := by decide +kernel
theorem dX9_least_47 : decode cX9_least 47 = .ok (.invokevirtual 160, 3) := by decide +kernel
theorem dX9_least_50 : decode cX9_least 50 = .ok (.iinc 2 1, 3) := by decide +kernel
theorem dX9_least_53 : decode cX9_least 53 = .ok (.goto (-25), 3) := by decide +kernel
theorem dX9_least_56 : decode cX9_least 56 = .ok (.iload_n 1, 1) := by decide +kernel
theorem dX9_least_57 : decode cX9_least 57 = .ok (.ifCond .ne 11, 3) := by decide +kernel
theorem dX9_least_60 : decode cX9_least 60 = .ok (.aload_n 0, 1) := by decide +kernel
theorem dX9_least_61 : decode cX9_least 61 = .ok (.getfield 145, 3) := by decide +kernel
theorem dX9_least_64 : decode cX9_least 64 = .ok (.l2i, 1) := by decide +kernel
theorem dX9_least_65 : decode cX9_least 65 = .ok (.goto 20, 3) := by decide +kernel
theorem dX9_least_68 : decode cX9_least 68 = .ok (.iload_n 1, 1) := by decide +kernel
theorem dX9_least_69 : decode cX9_least 69 = .ok (.iconst 1, 1) := by decide +kernel
theorem dX9_least_70 : decode cX9_least 70 = .ok (.if_icmp .ne 11, 3) := by decide +kernel
theorem dX9_least_73 : decode cX9_least 73 = .ok (.aload_n 0, 1) := by decide +kernel
theorem dX9_least_74 : decode cX9_least 74 = .ok (.getfield 141, 3) := by decide +kernel
theorem dX9_least_77 : decode cX9_least 77 = .ok (.l2i, 1) := by decide +kernel
theorem dX9_least_78 : decode cX9_least 78 = .ok (.goto 7, 3) := by decide +kernel
theorem dX9_least_81 : decode cX9_least 81 = .ok (.aload_n 0, 1) := by decide +kernel
theorem dX9_least_82 : decode cX9_least 82 = .ok (.getfield 134, 3) := by decide +kernel
theorem dX9_least_85 : decode cX9_least 85 = .ok (.ireturn, 1) := by decide +kernel
theorem dX9_span_0 : decode cX9_span 0 = .ok (.iload_n 3, 1) := by decide +kernel
theorem dX9_span_1 : decode cX9_span 1 = .ok (.sipush 1000, 3) := by decide +kernel
theorem dX9_span_4 : decode cX9_span 4 = .ok (.idiv, 1) := by decide +kernel
theorem dX9_span_5 : decode cX9_span 5 = .ok (.istore 4, 2) := by decide +kernel
theorem dX9_span_7 : decode cX9_span 7 = .ok (.iload_n 3, 1) := by decide +kernel
theorem dX9_span_8 : decode cX9_span 8 = .ok (.bipush 100, 2) := by decide +kernel
theorem dX9_span_10 : decode cX9_span 10 = .ok (.idiv, 1) := by decide +kernel
theorem dX9_span_11 : decode cX9_span 11 = .ok (.bipush 10, 2) := by decide +kernel
theorem dX9_span_13 : decode cX9_span 13 = .ok (.irem, 1) := by decide +kernel
theorem dX9_span_14 : decode cX9_span 14 = .ok (.istore 5, 2) := by decide +kernel
theorem dX9_span_16 : decode cX9_span 16 = .ok (.iload_n 3, 1) := by decide +kernel
theorem dX9_span_17 : decode cX9_span 17 = .ok (.bipush 10, 2) := by decide +kernel
theorem dX9_span_19 : decode cX9_span 19 = .ok (.idiv, 1) := by decide +kernel
theorem dX9_span_20 : decode cX9_span 20 = .ok (.bipush 10, 2) := by decide +kernel
theorem dX9_span_22 : decode cX9_span 22 = .ok (.irem, 1) := by decide +kernel
theorem dX9_span_23 : decode cX9_span 23 = .ok (.istore 6, 2) := by decide +kernel
theorem dX9_span_25 : decode cX9_span 25 = .ok (.iload_n 3, 1) := by decide +kernel
theorem dX9_span_26 : decode cX9_span 26 = .ok (.bipush 10, 2) := by decide +kernel
theorem dX9_span_28 : decode cX9_span 28 = .ok (.irem, 1) := by decide +kernel
theorem dX9_span_29 : decode cX9_span 29 = .ok (.istore 7, 2) := by decide +kernel
theorem dX9_span_31 : decode cX9_span 31 = .ok (.aload_n 0, 1) := by decide +kernel
theorem dX9_span_32 : decode cX9_span 32 = .ok (.iload_n 1, 1) := by decide +kernel
theorem dX9_span_33 : decode cX9_span 33 = .ok (.iload_n 2, 1) := by decide +kernel
theorem dX9_span_34 : decode cX9_span 34 = .ok (.invokevirtual 77, 3) := by decide +kernel
theorem dX9_span_37 : decode cX9_span 37 = .ok (.ifCond .eq 46, 3) := by decide +kernel
theorem dX9_span_40 : decode cX9_span 40 = .ok (.iload_n 3, 1) := by decide +kernel
theorem dX9_span_41 : decode cX9_span 41 = .ok (.ifCond .lt 42, 3) := by decide +kernel
theorem dX9_span_44 : decode cX9_span 44 = .ok (.iload 4, 2) := by decide +kernel
theorem dX9_span_46 : decode cX9_span 46 = .ok (.iconst 1, 1) := by decide +kernel
theorem dX9_span_47 : decode cX9_span 47 = .ok (.bipush 9, 2) := by decide +kernel
theorem dX9_span_49 : decode cX9_span 49 = .ok (.invokestatic 73, 3) := by decide +kernel
theorem dX9_span_52 : decode cX9_span 52 = .ok (.ifCond .eq 31, 3) := by decide +kernel
theorem dX9_span_55 : decode cX9_span 55 = .ok (.iload 5, 2) := by decide +kernel
theorem dX9_span_57 : decode cX9_span 57 = .ok (.ifCond .eq 26, 3) := by decide +kernel
theorem dX9_span_60 : decode cX9_span 60 = .ok (.iload 6, 2) := by decide +kernel
theorem dX9_span_62 : decode cX9_span 62 = .ok (.ifCond .eq 21, 3) := by decide +kernel
theorem dX9_span_65 : decode cX9_span 65 = .ok (.iload 7, 2) := by decide +kernel
theorem dX9_span_67 : decode cX9_span 67 = .ok (.ifCond .eq 16, 3) := by decide +kernel
theorem dX9_span_70 : decode cX9_span 70 = .ok (.iload 4, 2) := by decide +kernel
theorem dX9_span_72 : decode cX9_span 72 = .ok (.iload 7, 2) := by decide +kernel
theorem dX9_span_74 : decode cX9_span 74 = .ok (.imul, 1) := by decide +kernel
theorem dX9_span_75 : decode cX9_span 75 = .ok (.iload 6, 2) := by decide +kernel
theorem dX9_span_77 : decode cX9_span 77 = .ok (.iload 5, 2) := by decide +kernel
theorem dX9_span_79 : decode cX9_span 79 = .ok (.imul, 1) := by decide +kernel
theorem dX9_span_80 : decode cX9_span 80 = .ok (.if_icmp .le 5, 3) := by decide +kernel
theorem dX9_span_83 : decode cX9_span 83 = .ok (.iconst 0, 1) := by decide +kernel
theorem dX9_span_84 : decode cX9_span 84 = .ok (.ireturn, 1) := by decide +kernel
theorem dX9_span_85 : decode cX9_span 85 = .ok (.aload_n 0, 1) := by decide +kernel
theorem dX9_span_86 : decode cX9_span 86 = .ok (.iload_n 1, 1) := by decide +kernel
theorem dX9_span_87 : decode cX9_span 87 = .ok (.iload_n 2, 1) := by decide +kernel
theorem dX9_span_88 : decode cX9_span 88 = .ok (.invokevirtual 85, 3) := by decide +kernel
theorem dX9_span_91 : decode cX9_span 91 = .ok (.istore 8, 2) := by decide +kernel
theorem dX9_span_93 : decode cX9_span 93 = .ok (.aload_n 0, 1) := by decide +kernel
theorem dX9_span_94 : decode cX9_span 94 = .ok (.getfield 16, 3) := by decide +kernel
theorem dX9_span_97 : decode cX9_span 97 = .ok (.iload 8, 2) := by decide +kernel
theorem dX9_span_99 : decode cX9_span 99 = .ok (.iload_n 1, 1) := by decide +kernel
theorem dX9_span_100 : decode cX9_span 100 = .ok (.iload_n 2, 1) := by decide +kernel
theorem dX9_span_101 : decode cX9_span 101 = .ok (.if_icmp .ge 8, 3) := by decide +kernel
theorem dX9_span_104 : decode cX9_span 104 = .ok (.iload 4, 2) := by decide +kernel
theorem dX9_span_106 : decode cX9_span 106 = .ok (.goto 5, 3) := by decide +kernel
theorem dX9_span_109 : decode cX9_span 109 = .ok (.iload 7, 2) := by decide +kernel
theorem dX9_span_111 : decode cX9_span 111 = .ok (.iastore, 1) := by decide +kernel
theorem dX9_span_112 : decode cX9_span 112 = .ok (.aload_n 0, 1) := by decide +kernel
theorem dX9_span_113 : decode cX9_span 113 = .ok (.getfield 19, 3) := by decide +kernel
theorem dX9_span_116 : decode cX9_span 116 = .ok (.iload 8, 2) := by decide +kernel
theorem dX9_span_118 : decode cX9_span 118 = .ok (.iload_n 1, 1) := by decide +kernel
theorem dX9_span_119 : decode cX9_span 119 = .ok (.iload_n 2, 1) := by decide +kernel
theorem dX9_span_120 : decode cX9_span 120 = .ok (.if_icmp .ge 8, 3) := by decide +kernel
theorem dX9_span_123 : decode cX9_span 123 = .ok (.iload 5, 2) := by decide +kernel
theorem dX9_span_125 : decode cX9_span 125 = .ok (.goto 5, 3) := by decide +kernel
theorem dX9_span_128 : decode cX9_span 128 = .ok (.iload 6, 2) := by decide +kernel
theorem dX9_span_130 : decode cX9_span 130 = .ok (.iastore, 1) := by decide +kernel
theorem dX9_span_131 : decode cX9_span 131 = .ok (.aload_n 0, 1) := by decide +kernel
theorem dX9_span_132 : decode cX9_span 132 = .ok (.getfield 22, 3) := by decide +kernel
theorem dX9_span_135 : decode cX9_span 135 = .ok (.iload 8, 2) := by decide +kernel
theorem dX9_span_137 : decode cX9_span 137 = .ok (.iload_n 1, 1) := by decide +kernel
theorem dX9_span_138 : decode cX9_span 138 = .ok (.iload_n 2, 1) := by decide +kernel
theorem dX9_span_139 : decode cX9_span 139 = .ok (.if_icmp .ge 8, 3) := by decide +kernel
theorem dX9_span_142 : decode cX9_span 142 = .ok (.iload 6, 2) := by decide +kernel
theorem dX9_span_144 : decode cX9_span 144 = .ok (.goto 5, 3) := by decide +kernel
theorem dX9_span_147 : decode cX9_span 147 = .ok (.iload 5, 2) := by decide +kernel
theorem dX9_span_149 : decode cX9_span 149 = .ok (.iastore, 1) := by decide +kernel
theorem dX9_span_150 : decode cX9_span 150 = .ok (.aload_n 0, 1) := by decide +kernel
theorem dX9_span_151 : decode cX9_span 151 = .ok (.getfield 25, 3) := by decide +kernel
theorem dX9_span_154 : decode cX9_span 154 = .ok (.iload 8, 2) := by decide +kernel
theorem dX9_span_156 : decode cX9_span 156 = .ok (.iload_n 1, 1) := by decide +kernel
theorem dX9_span_157 : decode cX9_span 157 = .ok (.iload_n 2, 1) := by decide +kernel
theorem dX9_span_158 : decode cX9_span 158 = .ok (.if_icmp .ge 8, 3) := by decide +kernel
theorem dX9_span_161 : decode cX9_span 161 = .ok (.iload 7, 2) := by decide +kernel
theorem dX9_span_163 : decode cX9_span 163 = .ok (.goto 5, 3) := by decide +kernel
theorem dX9_span_166 : decode cX9_span 166 = .ok (.iload 4, 2) := by decide +kernel
theorem dX9_span_168 : decode cX9_span 168 = .ok (.iastore, 1) := by decide +kernel
theorem dX9_span_169 : decode cX9_span 169 = .ok (.iconst 1, 1) := by decide +kernel
theorem dX9_span_170 : decode cX9_span 170 = .ok (.ireturn, 1) := by decide +kernel
theorem dX9_unspan_0 : decode cX9_unspan 0 = .ok (.aload_n 0, 1) := by decide +kernel
theorem dX9_unspan_1 : decode cX9_unspan 1 = .ok (.iload_n 1, 1) := by decide +kernel
theorem dX9_unspan_2 : decode cX9_unspan 2 = .ok (.iload_n 2, 1) := by decide +kernel
theorem dX9_unspan_3 : decode cX9_unspan 3 = .ok (.invokevirtual 77, 3) := by decide +kernel
theorem dX9_unspan_6 : decode cX9_unspan 6 = .ok (.ifCond .eq 17, 3) := by decide +kernel
theorem dX9_unspan_9 : decode cX9_unspan 9 = .ok (.aload_n 0, 1) := by decide +kernel
theorem dX9_unspan_10 : decode cX9_unspan 10 = .ok (.getfield 16, 3) := by decide +kernel
theorem dX9_unspan_13 : decode cX9_unspan 13 = .ok (.aload_n 0, 1) := by decide +kernel
theorem dX9_unspan_14 : decode cX9_unspan 14 = .ok (.iload_n 1, 1) := by decide +kernel
theorem dX9_unspan_15 : decode cX9_unspan 15 = .ok (.iload_n 2, 1) := by decide +kernel
theorem dX9_unspan_16 : decode cX9_unspan 16 = .ok (.invokevirtual 85, 3) := by decide +kernel
theorem dX9_unspan_19 : decode cX9_unspan 19 = .ok (.iaload, 1) := by decide +kernel
theorem dX9_unspan_20 : decode cX9_unspan 20 = .ok (.ifCond .ne 5, 3) := by decide +kernel
theorem dX9_unspan_23 : decode cX9_unspan 23 = .ok (.iconst 0, 1) := by decide +kernel
theorem dX9_unspan_24 : decode cX9_unspan 24 = .ok (.ireturn, 1) := by decide +kernel
theorem dX9_unspan_25 : decode cX9_unspan 25 = .ok (.aload_n 0, 1) := by decide +kernel
theorem dX9_unspan_26 : decode cX9_unspan 26 = .ok (.getfield 16, 3) := by decide +kernel
theorem dX9_unspan_29 : decode cX9_unspan 29 = .ok (.aload_n 0, 1) := by decide +kernel
theorem dX9_unspan_30 : decode cX9_unspan 30 = .ok (.iload_n 1, 1) := by decide +kernel
theorem dX9_unspan_31 : decode cX9_unspan 31 = .ok (.iload_n 2, 1) := by decide +kernel
theorem dX9_unspan_32 : decode cX9_unspan 32 = .ok (.invokevirtual 85, 3) := by decide +kernel
theorem dX9_unspan_35 : decode cX9_unspan 35 = .ok (.iconst 0, 1) := by decide +kernel
theorem dX9_unspan_36 : decode cX9_unspan 36 = .ok (.iastore, 1) := by decide +kernel
theorem dX9_unspan_37 : decode cX9_unspan 37 = .ok (.iconst 1, 1) := by decide +kernel
theorem dX9_unspan_38 : decode cX9_unspan 38 = .ok (.ireturn, 1) := by decide +kernel
theorem dX9_isSpan_0 : decode cX9_isSpan 0 = .ok (.aload_n 0, 1) := by decide +kernel
theorem dX9_isSpan_1 : decode cX9_isSpan 1 = .ok (.getfield 16, 3) := by decide +kernel
theorem dX9_isSpan_4 : decode cX9_isSpan 4 = .ok (.aload_n 0, 1) := by decide +kernel
theorem dX9_isSpan_5 : decode cX9_isSpan 5 = .ok (.iload_n 1, 1) := by decide +kernel
theorem dX9_isSpan_6 : decode cX9_isSpan 6 = .ok (.iload_n 2, 1) := by decide +kernel
theorem dX9_isSpan_7 : decode cX9_isSpan 7 = .ok (.invokevirtual 85, 3) := by decide +kernel
theorem dX9_isSpan_10 : decode cX9_isSpan 10 = .ok (.iaload, 1) := by decide +kernel
theorem dX9_isSpan_11 : decode cX9_isSpan 11 = .ok (.ifCond .le 7, 3) := by decide +kernel
theorem dX9_isSpan_14 : decode cX9_isSpan 14 = .ok (.iconst 1, 1) := by decide +kernel
theorem dX9_isSpan_15 : decode cX9_isSpan 15 = .ok (.goto 4, 3) := by decide +kernel
theorem dX9_isSpan_18 : decode cX9_isSpan 18 = .ok (.iconst 0, 1) := by decide +kernel
theorem dX9_isSpan_19 : decode cX9_isSpan 19 = .ok (.ireturn, 1) := by decide +kernel
theorem dX9_lowOver_0 : decode cX9_lowOver 0 = .ok (.iload_n 1, 1) := by decide +kernel
theorem dX9_lowOver_1 : decode cX9_lowOver 1 = .ok (.iload_n 2, 1) := by decide +kernel
theorem dX9_lowOver_2 : decode cX9_lowOver 2 = .ok (.if_icmp .ge 17, 3) := by decide +kernel
theorem dX9_lowOver_5 : decode cX9_lowOver 5 = .ok (.aload_n 0, 1) := by decide +kernel
theorem dX9_lowOver_6 : decode cX9_lowOver 6 = .ok (.getfield 16, 3) := by decide +kernel
theorem dX9_lowOver_9 : decode cX9_lowOver 9 = .ok (.aload_n 0, 1) := by decide +kernel
end
section
-- decode rows: X9f
theorem dX9_lowOver_10 : decode cX9_lowOver 10 = .ok (.iload_n 1, 1) := by decide +kernel
theorem dX9_lowOver_11 : decode cX9_lowOver 11 = .ok (.iload_n 2, 1) := by decide +kernel
theorem dX9_lowOver_12 : decode cX9_lowOver 12 = .ok (.invokevirtual 85, 3) := by decide +kernel
theorem dX9_lowOver_15 : decode cX9_lowOver 15 = .ok (.iaload, 1) := by decide +kernel
theorem dX9_lowOver_16 : decode cX9_lowOver 16 = .ok (.goto 14, 3) := by decide +kernel
theorem dX9_lowOver_19 : decode cX9_lowOver 19 = .ok (.aload_n 0, 1) := by decide +kernel
theorem dX9_lowOver_20 : decode cX9_lowOver 20 = .ok (.getfield 25, 3) := by decide +kernel
theorem dX9_lowOver_23 : decode cX9_lowOver 23 = .ok (.aload_n 0, 1) := by decide +kernel
theorem dX9_lowOver_24 : decode cX9_lowOver 24 = .ok (.iload_n 1, 1) := by decide +kernel
theorem dX9_lowOver_25 : decode cX9_lowOver 25 = .ok (.iload_n 2, 1) := by decide +kernel
theorem dX9_lowOver_26 : decode cX9_lowOver 26 = .ok (.invokevirtual 85, 3) := by decide +kernel
theorem dX9_lowOver_29 : decode cX9_lowOver 29 = .ok (.iaload, 1) := by decide +kernel
theorem dX9_lowOver_30 : decode cX9_lowOver 30 = .ok (.ireturn, 1) := by decide +kernel
theorem dX9_lowUnder_0 : decode cX9_lowUnder 0 = .ok (.iload_n 1, 1) := by decide +kernel
theorem dX9_lowUnder_1 : decode cX9_lowUnder 1 = .ok (.iload_n 2, 1) := by decide +kernel
theorem dX9_lowUnder_2 : decode cX9_lowUnder 2 = .ok (.if_icmp .ge 17, 3) := by decide +kernel
theorem dX9_lowUnder_5 : decode cX9_lowUnder 5 = .ok (.aload_n 0, 1) := by decide +kernel
theorem dX9_lowUnder_6 : decode cX9_lowUnder 6 = .ok (.getfield 19, 3) := by decide +kernel
theorem dX9_lowUnder_9 : decode cX9_lowUnder 9 = .ok (.aload_n 0, 1) := by decide +kernel
theorem dX9_lowUnder_10 : decode cX9_lowUnder 10 = .ok (.iload_n 1, 1) := by decide +kernel
theorem dX9_lowUnder_11 : decode cX9_lowUnder 11 = .ok (.iload_n 2, 1) := by decide +kernel
theorem dX9_lowUnder_12 : decode cX9_lowUnder 12 = .ok (.invokevirtual 85, 3) := by decide +kernel
theorem dX9_lowUnder_15 : decode cX9_lowUnder 15 = .ok (.iaload, 1) := by decide +kernel
theorem dX9_lowUnder_16 : decode cX9_lowUnder 16 = .ok (.goto 14, 3) := by decide +kernel
theorem dX9_lowUnder_19 : decode cX9_lowUnder 19 = .ok (.aload_n 0, 1) := by decide +kernel
theorem dX9_lowUnder_20 : decode cX9_lowUnder 20 = .ok (.getfield 22, 3) := by decide +kernel
theorem dX9_lowUnder_23 : decode cX9_lowUnder 23 = .ok (.aload_n 0, 1) := by decide +kernel
theorem dX9_lowUnder_24 : decode cX9_lowUnder 24 = .ok (.iload_n 1, 1) := by decide +kernel
theorem dX9_lowUnder_25 : decode cX9_lowUnder 25 = .ok (.iload_n 2, 1) := by decide +kernel
theorem dX9_lowUnder_26 : decode cX9_lowUnder 26 = .ok (.invokevirtual 85, 3) := by decide +kernel
theorem dX9_lowUnder_29 : decode cX9_lowUnder 29 = .ok (.iaload, 1) := by decide +kernel
theorem dX9_lowUnder_30 : decode cX9_lowUnder 30 = .ok (.ireturn, 1) := by decide +kernel
theorem dX9_ways_0 : decode cX9_ways 0 = .ok (.aload_n 0, 1) := by decide +kernel
theorem dX9_ways_1 : decode cX9_ways 1 = .ok (.getfield 54, 3) := by decide +kernel
theorem dX9_ways_4 : decode cX9_ways 4 = .ok (.iload_n 1, 1) := by decide +kernel
theorem dX9_ways_5 : decode cX9_ways 5 = .ok (.iconst 1, 1) := by decide +kernel
theorem dX9_ways_6 : decode cX9_ways 6 = .ok (.isub, 1) := by decide +kernel
theorem dX9_ways_7 : decode cX9_ways 7 = .ok (.iaload, 1) := by decide +kernel
theorem dX9_ways_8 : decode cX9_ways 8 = .ok (.istore 7, 2) := by decide +kernel
theorem dX9_ways_10 : decode cX9_ways 10 = .ok (.iload 7, 2) := by decide +kernel
theorem dX9_ways_12 : decode cX9_ways 12 = .ok (.iload_n 2, 1) := by decide +kernel
theorem dX9_ways_13 : decode cX9_ways 13 = .ok (.if_icmp .ne 63, 3) := by decide +kernel
theorem dX9_ways_16 : decode cX9_ways 16 = .ok (.iload_n 1, 1) := by decide +kernel
theorem dX9_ways_17 : decode cX9_ways 17 = .ok (.iconst 1, 1) := by decide +kernel
theorem dX9_ways_18 : decode cX9_ways 18 = .ok (.if_icmp .le 58, 3) := by decide +kernel
theorem dX9_ways_21 : decode cX9_ways 21 = .ok (.aload_n 0, 1) := by decide +kernel
theorem dX9_ways_22 : decode cX9_ways 22 = .ok (.getfield 164, 3) := by decide +kernel
theorem dX9_ways_25 : decode cX9_ways 25 = .ok (.ifCond .eq 20, 3) := by decide +kernel
theorem dX9_ways_28 : decode cX9_ways 28 = .ok (.lload_n 3, 1) := by decide +kernel
theorem dX9_ways_29 : decode cX9_ways 29 = .ok (.aload_n 0, 1) := by decide +kernel
theorem dX9_ways_30 : decode cX9_ways 30 = .ok (.getfield 168, 3) := by decide +kernel
theorem dX9_ways_33 : decode cX9_ways 33 = .ok (.lmul, 1) := by decide +kernel
theorem dX9_ways_34 : decode cX9_ways 34 = .ok (.aload_n 0, 1) := by decide +kernel
theorem dX9_ways_35 : decode cX9_ways 35 = .ok (.getfield 171, 3) := by decide +kernel
theorem dX9_ways_38 : decode cX9_ways 38 = .ok (.lload 5, 2) := by decide +kernel
theorem dX9_ways_40 : decode cX9_ways 40 = .ok (.lmul, 1) := by decide +kernel
theorem dX9_ways_41 : decode cX9_ways 41 = .ok (.lcmp, 1) := by decide +kernel
theorem dX9_ways_42 : decode cX9_ways 42 = .ok (.ifCond .le 28, 3) := by decide +kernel
theorem dX9_ways_45 : decode cX9_ways 45 = .ok (.lload_n 3, 1) := by decide +kernel
theorem dX9_ways_46 : decode cX9_ways 46 = .ok (.lload 5, 2) := by decide +kernel
theorem dX9_ways_48 : decode cX9_ways 48 = .ok (.invokestatic 81, 3) := by decide +kernel
theorem dX9_ways_51 : decode cX9_ways 51 = .ok (.lstore 8, 2) := by decide +kernel
theorem dX9_ways_53 : decode cX9_ways 53 = .ok (.aload_n 0, 1) := by decide +kernel
theorem dX9_ways_54 : decode cX9_ways 54 = .ok (.lload_n 3, 1) := by decide +kernel
theorem dX9_ways_55 : decode cX9_ways 55 = .ok (.lload 8, 2) := by decide +kernel
theorem dX9_ways_57 : decode cX9_ways 57 = .ok (.ldiv, 1) := by decide +kernel
theorem dX9_ways_58 : decode cX9_ways 58 = .ok (.putfield 171, 3) := by decide +kernel
theorem dX9_ways_61 : decode cX9_ways 61 = .ok (.aload_n 0, 1) := by decide +kernel
theorem dX9_ways_62 : decode cX9_ways 62 = .ok (.lload 5, 2) := by decide +kernel
theorem dX9_ways_64 : decode cX9_ways 64 = .ok (.lload 8, 2) := by decide +kernel
theorem dX9_ways_66 : decode cX9_ways 66 = .ok (.ldiv, 1) := by decide +kernel
theorem dX9_ways_67 : decode cX9_ways 67 = .ok (.putfield 168, 3) := by decide +kernel
theorem dX9_ways_70 : decode cX9_ways 70 = .ok (.aload_n 0, 1) := by decide +kernel
theorem dX9_ways_71 : decode cX9_ways 71 = .ok (.iconst 1, 1) := by decide +kernel
theorem dX9_ways_72 : decode cX9_ways 72 = .ok (.putfield 164, 3) := by decide +kernel
theorem dX9_ways_75 : decode cX9_ways 75 = .ok (.return_, 1) := by decide +kernel
theorem dX9_ways_76 : decode cX9_ways 76 = .ok (.iload_n 1, 1) := by decide +kernel
theorem dX9_ways_77 : decode cX9_ways 77 = .ok (.iconst 1, 1) := by decide +kernel
theorem dX9_ways_78 : decode cX9_ways 78 = .ok (.if_icmp .le 58, 3) := by decide +kernel
theorem dX9_ways_81 : decode cX9_ways 81 = .ok (.aload_n 0, 1) := by decide +kernel
theorem dX9_ways_82 : decode cX9_ways 82 = .ok (.iload 7, 2) := by decide +kernel
theorem dX9_ways_84 : decode cX9_ways 84 = .ok (.aload_n 0, 1) := by decide +kernel
theorem dX9_ways_85 : decode cX9_ways 85 = .ok (.getfield 54, 3) := by decide +kernel
theorem dX9_ways_88 : decode cX9_ways 88 = .ok (.iconst 0, 1) := by decide +kernel
theorem dX9_ways_89 : decode cX9_ways 89 = .ok (.iaload, 1) := by decide +kernel
theorem dX9_ways_90 : decode cX9_ways 90 = .ok (.invokevirtual 174, 3) := by decide +kernel
theorem dX9_ways_93 : decode cX9_ways 93 = .ok (.ifCond .eq 43, 3) := by decide +kernel
theorem dX9_ways_96 : decode cX9_ways 96 = .ok (.lload_n 3, 1) := by decide +kernel
theorem dX9_ways_97 : decode cX9_ways 97 = .ok (.aload_n 0, 1) := by decide +kernel
theorem dX9_ways_98 : decode cX9_ways 98 = .ok (.iload 7, 2) := by decide +kernel
theorem dX9_ways_100 : decode cX9_ways 100 = .ok (.aload_n 0, 1) := by decide +kernel
theorem dX9_ways_101 : decode cX9_ways 101 = .ok (.getfield 54, 3) := by decide +kernel
theorem dX9_ways_104 : decode cX9_ways 104 = .ok (.iconst 0, 1) := by decide +kernel
theorem dX9_ways_105 : decode cX9_ways 105 = .ok (.iaload, 1) := by decide +kernel
theorem dX9_ways_106 : decode cX9_ways 106 = .ok (.invokevirtual 177, 3) := by decide +kernel
theorem dX9_ways_109 : decode cX9_ways 109 = .ok (.i2l, 1) := by decide +kernel
theorem dX9_ways_110 : decode cX9_ways 110 = .ok (.lmul, 1) := by decide +kernel
theorem dX9_ways_111 : decode cX9_ways 111 = .ok (.lload 5, 2) := by decide +kernel
theorem dX9_ways_113 : decode cX9_ways 113 = .ok (.aload_n 0, 1) := by decide +kernel
theorem dX9_ways_114 : decode cX9_ways 114 = .ok (.iload 7, 2) := by decide +kernel
theorem dX9_ways_116 : decode cX9_ways 116 = .ok (.aload_n 0, 1) := by decide +kernel
theorem dX9_ways_117 : decode cX9_ways 117 = .ok (.getfield 54, 3) := by decide +kernel
theorem dX9_ways_120 : decode cX9_ways 120 = .ok (.iconst 0, 1) := by decide +kernel
theorem dX9_ways_121 : decode cX9_ways 121 = .ok (.iaload, 1) := by decide +kernel
theorem dX9_ways_122 : decode cX9_ways 122 = .ok (.invokevirtual 180, 3) := by decide +kernel
theorem dX9_ways_125 : decode cX9_ways 125 = .ok (.i2l, 1) := by decide +kernel
theorem dX9_ways_126 : decode cX9_ways 126 = .ok (.lmul, 1) := by decide +kernel
theorem dX9_ways_127 : decode cX9_ways 127 = .ok (.lcmp, 1) := by decide +kernel
theorem dX9_ways_128 : decode cX9_ways 128 = .ok (.ifCond .le 8, 3) := by decide +kernel
theorem dX9_ways_131 : decode cX9_ways 131 = .ok (.aload_n 0, 1) := by decide +kernel
theorem dX9_ways_132 : decode cX9_ways 132 = .ok (.iconst 0, 1) := by decide +kernel
theorem dX9_ways_133 : decode cX9_ways 133 = .ok (.putfield 183, 3) := by decide +kernel
theorem dX9_ways_136 : decode cX9_ways 136 = .ok (.iconst 0, 1) := by decide +kernel
theorem dX9_ways_137 : decode cX9_ways 137 = .ok (.istore 8, 2) := by decide +kernel
theorem dX9_ways_139 : decode cX9_ways 139 = .ok (.iload 8, 2) := by decide +kernel
theorem dX9_ways_141 : decode cX9_ways 141 = .ok (.aload_n 0, 1) := by decide +kernel
theorem dX9_ways_142 : decode cX9_ways 142 = .ok (.getfield 66, 3) := by decide +kernel
theorem dX9_ways_145 : decode cX9_ways 145 = .ok (.if_icmp .ge 120, 3) := by decide +kernel
theorem dX9_ways_148 : decode cX9_ways 148 = .ok (.iload 8, 2) := by decide +kernel
theorem dX9_ways_150 : decode cX9_ways 150 = .ok (.iload 7, 2) := by decide +kernel
theorem dX9_ways_152 : decode cX9_ways 152 = .ok (.if_icmp .eq 18, 3) := by decide +kernel
theorem dX9_ways_155 : decode cX9_ways 155 = .ok (.aload_n 0, 1) := by decide +kernel
theorem dX9_ways_156 : decode cX9_ways 156 = .ok (.iload 7, 2) := by decide +kernel
theorem dX9_ways_158 : decode cX9_ways 158 = .ok (.iload 8, 2) := by decide +kernel
theorem dX9_ways_160 : decode cX9_ways 160 = .ok (.invokevirtual 174, 3) := by decide +kernel
theorem dX9_ways_163 : decode cX9_ways 163 = .ok (.ifCond .eq 7, 3) := by decide +kernel
theorem dX9_ways_166 : decode cX9_ways 166 = .ok (.iconst 1, 1) := by decide +kernel
theorem dX9_ways_167 : decode cX9_ways 167 = .ok (.goto 4, 3) := by decide +kernel
theorem dX9_ways_170 : decode cX9_ways 170 = .ok (.iconst 0, 1) := by decide +kernel
theorem dX9_ways_171 : decode cX9_ways 171 = .ok (.istore 9, 2) := by decide +kernel
theorem dX9_ways_173 : decode cX9_ways 173 = .ok (.iconst 0, 1) := by decide +kernel
theorem dX9_ways_174 : decode cX9_ways 174 = .ok (.istore 10, 2) := by decide +kernel
theorem dX9_ways_176 : decode cX9_ways 176 = .ok (.iload 10, 2) := by decide +kernel
theorem dX9_ways_178 : decode cX9_ways 178 = .ok (.iload_n 1, 1) := by decide +kernel
theorem dX9_ways_179 : decode cX9_ways 179 = .ok (.if_icmp .ge 33, 3) := by decide +kernel
theorem dX9_ways_182 : decode cX9_ways 182 = .ok (.iload 9, 2) := by decide +kernel
theorem dX9_ways_184 : decode cX9_ways 184 = .ok (.ifCond .eq 28, 3) := by decide +kernel
theorem dX9_ways_187 : decode cX9_ways 187 = .ok (.aload_n 0, 1) := by decide +kernel
theorem dX9_ways_188 : decode cX9_ways 188 = .ok (.getfield 54, 3) := by decide +kernel
theorem dX9_ways_191 : decode cX9_ways 191 = .ok (.iload 10, 2) := by decide +kernel
theorem dX9_ways_193 : decode cX9_ways 193 = .ok (.iaload, 1) := by decide +kernel
theorem dX9_ways_194 : decode cX9_ways 194 = .ok (.iload 8, 2) := by decide +kernel
theorem dX9_ways_196 : decode cX9_ways 196 = .ok (.if_icmp .eq 7, 3) := by decide +kernel
theorem dX9_ways_199 : decode cX9_ways 199 = .ok (.iconst 1, 1) := by decide +kernel
theorem dX9_ways_200 : decode cX9_ways 200 = .ok (.goto 4, 3) := by decide +kernel
theorem dX9_ways_203 : decode cX9_ways 203 = .ok (.iconst 0, 1) := by decide +kernel
theorem dX9_ways_204 : decode cX9_ways 204 = .ok (.istore 9, 2) := by decide +kernel
theorem dX9_ways_206 : decode cX9_ways 206 = .ok (.iinc 10 1, 3) := by decide +kernel
theorem dX9_ways_209 : decode cX9_ways 209 = .ok (.goto (-33), 3) := by decide +kernel
theorem dX9_ways_212 : decode cX9_ways 212 = .ok (.iload 9, 2) := by decide +kernel
theorem dX9_ways_214 : decode cX9_ways 214 = .ok (.ifCond .ne 6, 3) := by decide +kernel
theorem dX9_ways_217 : decode cX9_ways 217 = .ok (.goto 42, 3) := by decide +kernel
theorem dX9_ways_220 : decode cX9_ways 220 = .ok (.aload_n 0, 1) := by decide +kernel
theorem dX9_ways_221 : decode cX9_ways 221 = .ok (.getfield 54, 3) := by decide +kernel
theorem dX9_ways_224 : decode cX9_ways 224 = .ok (.iload_n 1, 1) := by decide +kernel
theorem dX9_ways_225 : decode cX9_ways 225 = .ok (.iload 8, 2) := by decide +kernel
theorem dX9_ways_227 : decode cX9_ways 227 = .ok (.iastore, 1) := by decide +kernel
theorem dX9_ways_228 : decode cX9_ways 228 = .ok (.aload_n 0, 1) := by decide +kernel
theorem dX9_ways_229 : decode cX9_ways 229 = .ok (.iload_n 1, 1) := by decide +kernel
theorem dX9_ways_230 : decode cX9_ways 230 = .ok (.iconst 1, 1) := by decide +kernel
theorem dX9_ways_231 : decode cX9_ways 231 = .ok (.iadd, 1) := by decide +kernel
theorem dX9_ways_232 : decode cX9_ways 232 = .ok (.iload_n 2, 1) := by decide +kernel
theorem dX9_ways_233 : decode cX9_ways 233 = .ok (.lload_n 3, 1) := by decide +kernel
theorem dX9_ways_234 : decode cX9_ways 234 = .ok (.aload_n 0, 1) := by decide +kernel
theorem dX9_ways_235 : decode cX9_ways 235 = .ok (.iload 7, 2) := by decide +kernel
theorem dX9_ways_237 : decode cX9_ways 237 = .ok (.iload 8, 2) := by decide +kernel
theorem dX9_ways_239 : decode cX9_ways 239 = .ok (.invokevirtual 177, 3) := by decide +kernel
theorem dX9_ways_242 : decode cX9_ways 242 = .ok (.i2l, 1) := by decide +kernel
theorem dX9_ways_243 : decode cX9_ways 243 = .ok (.lmul, 1) := by decide +kernel
theorem dX9_ways_244 : decode cX9_ways 244 = .ok (.lload 5, 2) := by decide +kernel
theorem dX9_ways_246 : decode cX9_ways 246 = .ok (.aload_n 0, 1) := by decide +kernel
theorem dX9_ways_247 : decode cX9_ways 247 = .ok (.iload 7, 2) := by decide +kernel
theorem dX9_ways_249 : decode cX9_ways 249 = .ok (.iload 8, 2) := by decide +kernel
theorem dX9_ways_251 : decode cX9_ways 251 = .ok (.invokevirtual 180, 3) := by decide +kernel
theorem dX9_ways_254 : decode cX9_ways 254 = .ok (.i2l, 1) := by decide +kernel
theorem dX9_ways_255 : decode cX9_ways 255 = .ok (.lmul, 1) := by decide +kernel
theorem dX9_ways_256 : decode cX9_ways 256 = .ok (.invokevirtual 186, 3) := by decide +kernel
theorem dX9_ways_259 : decode cX9_ways 259 = .ok (.iinc 8 1, 3) := by decide +kernel
theorem dX9_ways_262 : decode cX9_ways 262 = .ok (.goto (-123), 3) := by decide +kernel
theorem dX9_ways_265 : decode cX9_ways 265 = .ok (.return_, 1) := by decide +kernel
theorem dX9_goes_0 : decode cX9_goes 0 = .ok (.aload_n 0, 1) := by decide +kernel
theorem dX9_goes_1 : decode cX9_goes 1 = .ok (.iconst 0, 1) := by decide +kernel
theorem dX9_goes_2 : decode cX9_goes 2 = .ok (.putfield 164, 3) := by decide +kernel
theorem dX9_goes_5 : decode cX9_goes 5 = .ok (.aload_n 0, 1) := by decide +kernel
theorem dX9_goes_6 : decode cX9_goes 6 = .ok (.lconst 1, 1) := by decide +kernel
theorem dX9_goes_7 : decode cX9_goes 7 = .ok (.putfield 171, 3) := by decide +kernel
theorem dX9_goes_10 : decode cX9_goes 10 = .ok (.aload_n 0, 1) := by decide +kernel
theorem dX9_goes_11 : decode cX9_goes 11 = .ok (.lconst 1, 1) := by decide +kernel
theorem dX9_goes_12 : decode cX9_goes 12 = .ok (.putfield 168, 3) := by decide +kernel
theorem dX9_goes_15 : decode cX9_goes 15 = .ok (.aload_n 0, 1) := by decide +kernel
theorem dX9_goes_16 : decode cX9_goes 16 = .ok (.getfield 54, 3) := by decide +kernel
theorem dX9_goes_19 : decode cX9_goes 19 = .ok (.iconst 0, 1) := by decide +kernel
theorem dX9_goes_20 : decode cX9_goes 20 = .ok (.iload_n 1, 1) := by decide +kernel
theorem dX9_goes_21 : decode cX9_goes 21 = .ok (.iastore, 1) := by decide +kernel
theorem dX9_goes_22 : decode cX9_goes 22 = .ok (.aload_n 0, 1) := by decide +kernel
theorem dX9_goes_23 : decode cX9_goes 23 = .ok (.iconst 1, 1) := by decide +kernel
theorem dX9_goes_24 : decode cX9_goes 24 = .ok (.iload_n 2, 1) := by decide +kernel
theorem dX9_goes_25 : decode cX9_goes 25 = .ok (.lconst 1, 1) := by decide +kernel
theorem dX9_goes_26 : decode cX9_goes 26 = .ok (.lconst 1, 1) := by decide +kernel
theorem dX9_goes_27 : decode cX9_goes 27 = .ok (.invokevirtual 186, 3) := by decide +kernel
theorem dX9_goes_30 : decode cX9_goes 30 = .ok (.return_, 1) := by decide +kernel
theorem dX9_can_0 : decode cX9_can 0 = .ok (.aload_n 0, 1) := by decide +kernel
theorem dX9_can_1 : decode cX9_can 1 = .ok (.iconst 1, 1) := by decide +kernel
theorem dX9_can_2 : decode cX9_can 2 = .ok (.putfield 183, 3) := by decide +kernel
theorem dX9_can_5 : decode cX9_can 5 = .ok (.iconst 0, 1) := by decide +kernel
theorem dX9_can_6 : decode cX9_can 6 = .ok (.istore_n 1, 1) := by decide +kernel
theorem dX9_can_7 : decode cX9_can 7 = .ok (.iload_n 1, 1) := by decide +kernel
theorem dX9_can_8 : decode cX9_can 8 = .ok (.aload_n 0, 1) := by decide +kernel
theorem dX9_can_9 : decode cX9_can 9 = .ok (.getfield 66, 3) := by decide +kernel
theorem dX9_can_12 : decode cX9_can 12 = .ok (.if_icmp .ge 15, 3) := by decide +kernel
theorem dX9_can_15 : decode cX9_can 15 = .ok (.aload_n 0, 1) := by decide +kernel
theorem dX9_can_16 : decode cX9_can 16 = .ok (.iload_n 1, 1) := by decide +kernel
theorem dX9_can_17 : decode cX9_can 17 = .ok (.iconst (-1), 1) := by decide +kernel
theorem dX9_can_18 : decode cX9_can 18 = .ok (.invokevirtual 190, 3) := by decide +kernel
theorem dX9_can_21 : decode cX9_can 21 = .ok (.iinc 1 1, 3) := by decide +kernel
theorem dX9_can_24 : decode cX9_can 24 = .ok (.goto (-17), 3) := by decide +kernel
theorem dX9_can_27 : decode cX9_can 27 = .ok (.aload_n 0, 1) := by decide +kernel
theorem dX9_can_28 : decode cX9_can 28 = .ok (.getfield 183, 3) := by decide +kernel
theorem dX9_can_31 : decode cX9_can 31 = .ok (.ireturn, 1) := by decide +kernel
theorem dX9_bound_0 : decode cX9_bound 0 = .ok (.aload_n 0, 1) := by decide +kernel
theorem dX9_bound_1 : decode cX9_bound 1 = .ok (.iload_n 1, 1) := by decide +kernel
theorem dX9_bound_2 : decode cX9_bound 2 = .ok (.iload_n 2, 1) := by decide +kernel
theorem dX9_bound_3 : decode cX9_bound 3 = .ok (.invokevirtual 77, 3) := by decide +kernel
theorem dX9_bound_6 : decode cX9_bound 6 = .ok (.ifCond .eq 19, 3) := by decide +kernel
theorem dX9_bound_9 : decode cX9_bound 9 = .ok (.iload_n 3, 1) := by decide +kernel
theorem dX9_bound_10 : decode cX9_bound 10 = .ok (.iconst 0, 1) := by decide +kernel
theorem dX9_bound_11 : decode cX9_bound 11 = .ok (.iconst 1, 1) := by decide +kernel
theorem dX9_bound_12 : decode cX9_bound 12 = .ok (.invokestatic 73, 3) := by decide +kernel
theorem dX9_bound_15 : decode cX9_bound 15 = .ok (.ifCond .eq 10, 3) := by decide +kernel
theorem dX9_bound_18 : decode cX9_bound 18 = .ok (.aload_n 0, 1) := by decide +kernel
theorem dX9_bound_19 : decode cX9_bound 19 = .ok (.invokevirtual 194, 3) := by decide +kernel
theorem dX9_bound_22 : decode cX9_bound 22 = .ok (.ifCond .ne 5, 3) := by decide +kernel
theorem dX9_bound_25 : decode cX9_bound 25 = .ok (.iconst (-1), 1) := by decide +kernel
theorem dX9_bound_26 : decode cX9_bound 26 = .ok (.ireturn, 1) := by decide +kernel
theorem dX9_bound_27 : decode cX9_bound 27 = .ok (.aload_n 0, 1) := by decide +kernel
theorem dX9_bound_28 : decode cX9_bound 28 = .ok (.iload_n 1, 1) := by decide +kernel
theorem dX9_bound_29 : decode cX9_bound 29 = .ok (.iload_n 2, 1) := by decide +kernel
theorem dX9_bound_30 : decode cX9_bound 30 = .ok (.invokevirtual 190, 3) := by decide +kernel
theorem dX9_bound_33 : decode cX9_bound 33 = .ok (.aload_n 0, 1) := by decide +kernel
theorem dX9_bound_34 : decode cX9_bound 34 = .ok (.getfield 164, 3) := by decide +kernel
theorem dX9_bound_37 : decode cX9_bound 37 = .ok (.ifCond .ne 5, 3) := by decide +kernel
theorem dX9_bound_40 : decode cX9_bound 40 = .ok (.iconst (-1), 1) := by decide +kernel
theorem dX9_bound_41 : decode cX9_bound 41 = .ok (.ireturn, 1) := by decide +kernel
theorem dX9_bound_42 : decode cX9_bound 42 = .ok (.iload_n 3, 1) := by decide +kernel
theorem dX9_bound_43 : decode cX9_bound 43 = .ok (.ifCond .ne 10, 3) := by decide +kernel
theorem dX9_bound_46 : decode cX9_bound 46 = .ok (.aload_n 0, 1) := by decide +kernel
theorem dX9_bound_47 : decode cX9_bound 47 = .ok (.getfield 171, 3) := by decide +kernel
theorem dX9_bound_50 : decode cX9_bound 50 = .ok (.goto 7, 3) := by decide +kernel
theorem dX9_bound_53 : decode cX9_bound 53 = .ok (.aload_n 0, 1) := by decide +kernel
theorem dX9_bound_54 : decode cX9_bound 54 = .ok (.getfield 168, 3) := by decide +kernel
theorem dX9_bound_57 : decode cX9_bound 57 = .ok (.l2i, 1) := by decide +kernel
theorem dX9_bound_58 : decode cX9_bound 58 = .ok (.ireturn, 1) := by decide +kernel
theorem dX9_count_0 : decode cX9_count 0 = .ok (.iload_n 1, 1) := by decide +kernel
theorem dX9_count_1 : decode cX9_count 1 = .ok (.ifCond .ne 8, 3) := by decide +kernel
theorem dX9_count_4 : decode cX9_count 4 = .ok (.aload_n 0, 1) := by decide +kernel
theorem dX9_count_5 : decode cX9_count 5 = .ok (.getfield 66, 3) := by decide +kernel
theorem dX9_count_8 : decode cX9_count 8 = .ok (.ireturn, 1) := by decide +kernel
theorem dX9_count_9 : decode cX9_count 9 = .ok (.iload_n 1, 1) := by decide +kernel
theorem dX9_count_10 : decode cX9_count 10 = .ok (.iconst 1, 1) := by decide +kernel
theorem dX9_count_11 : decode cX9_count 11 = .ok (.if_icmp .ne 11, 3) := by decide +kernel
theorem dX9_count_14 : decode cX9_count 14 = .ok (.aload_n 0, 1) := by decide +kernel
theorem dX9_count_15 : decode cX9_count 15 = .ok (.invokevirtual 100, 3) := by decide +kernel
theorem dX9_count_18 : decode cX9_count 18 = .ok (.invokestatic 108, 3) := by decide +kernel
theorem dX9_count_21 : decode cX9_count 21 = .ok (.ireturn, 1) := by decide +kernel
theorem dX9_count_22 : decode cX9_count 22 = .ok (.iload_n 1, 1) := by decide +kernel
theorem dX9_count_23 : decode cX9_count 23 = .ok (.iconst 2, 1) := by decide +kernel
theorem dX9_count_24 : decode cX9_count 24 = .ok (.if_icmp .eq 5, 3) := by decide +kernel
theorem dX9_count_27 : decode cX9_count 27 = .ok (.iconst (-1), 1) := by decide +kernel
theorem dX9_count_28 : decode cX9_count 28 = .ok (.ireturn, 1) := by decide +kernel
theorem dX9_count_29 : decode cX9_count 29 = .ok (.iconst 0, 1) := by decide +kernel
theorem dX9_count_30 : decode cX9_count 30 = .ok (.istore_n 2, 1) := by decide +kernel
theorem dX9_count_31 : decode cX9_count 31 = .ok (.iconst 0, 1) := by decide +kernel
theorem dX9_count_32 : decode cX9_count 32 = .ok (.istore_n 3, 1) := by decide +kernel
theorem dX9_count_33 : decode cX9_count 33 = .ok (.iload_n 3, 1) := by decide +kernel
theorem dX9_count_34 : decode cX9_count 34 = .ok (.aload_n 0, 1) := by decide +kernel
theorem dX9_count_35 : decode cX9_count 35 = .ok (.getfield 70, 3) := by decide +kernel
theorem dX9_count_38 : decode cX9_count 38 = .ok (.if_icmp .ge 26, 3) := by decide +kernel
theorem dX9_count_41 : decode cX9_count 41 = .ok (.iload_n 2, 1) := by decide +kernel
theorem dX9_count_42 : decode cX9_count 42 = .ok (.aload_n 0, 1) := by decide +kernel
theorem dX9_count_43 : decode cX9_count 43 = .ok (.getfield 16, 3) := by decide +kernel
theorem dX9_count_46 : decode cX9_count 46 = .ok (.iload_n 3, 1) := by decide +kernel
theorem dX9_count_47 : decode cX9_count 47 = .ok (.iaload, 1) := by decide +kernel
theorem dX9_count_48 : decode cX9_count 48 = .ok (.ifCond .le 7, 3) := by decide +kernel
theorem dX9_count_51 : decode cX9_count 51 = .ok (.iconst 1, 1) := by decide +kernel
theorem dX9_count_52 : decode cX9_count 52 = .ok (.goto 4, 3) := by decide +kernel
theorem dX9_count_55 : decode cX9_count 55 = .ok (.iconst 0, 1) := by decide +kernel
theorem dX9_count_56 : decode cX9_count 56 = .ok (.iadd, 1) := by decide +kernel
theorem dX9_count_57 : decode cX9_count 57 = .ok (.istore_n 2, 1) := by decide +kernel
theorem dX9_count_58 : decode cX9_count 58 = .ok (.iinc 3 1, 3) := by decide +kernel
theorem dX9_count_61 : decode cX9_count 61 = .ok (.goto (-28), 3) := by decide +kernel
theorem dX9_count_64 : decode cX9_count 64 = .ok (.iload_n 2, 1) := by decide +kernel
theorem dX9_count_65 : decode cX9_count 65 = .ok (.ireturn, 1) := by decide +kernel
end
section
/-! THE MACHINE UNDER AN ABSTRACT HEAP. Own text. An abstract heap is a list of cells; references are places in it. xk_X: from here on the method comes to its end, with an answer and a heap of which 'out' holds. xk_Y: a method's contract over abstract heaps. -/
abbrev xk_M : Type := MethodName × ByteArray × Nat × Option FieldType
abbrev xk_C : Type := (Nat × vp_A) ⊕ (Nat × List Value)
abbrev xk_H : Type := List xk_C
abbrev xk_G : Type := va_G × (Nat → ClassId) × Nat
def xk_v (ad : Nat → Nat) : Value → Value
  | .ref k => .ref (ad k)
  | .int x => .int x
  | .long x => .long x
  | .float x => .float x
  | .double x => .double x
  | .null => .null
  | .retAddr x => .retAddr x
def xk_a (ad : Nat → Nat) : vp_A → vp_A
  | (n, .inl f) => (n, .inl f)
  | (n, .inr (.inl f)) => (n, .inr (.inl f))
  | (n, .inr (.inr (.inl f))) => (n, .inr (.inr (.inl f)))
  | (n, .inr (.inr (.inr (.inl f)))) => (n, .inr (.inr (.inr (.inl f))))
  | (n, .inr (.inr (.inr (.inr f)))) => (n, .inr (.inr (.inr (.inr (fun j => (f j).map ad)))))
def xk_e (K : Nat → ClassId) (ad : Nat → Nat) : xk_C → va_E
  | .inl q => .inl (K q.1, xk_a ad q.2)
  | .inr o => .inr (o.1, o.2.map (xk_v ad))
def xk_w (K : Nat → ClassId) (ad : Nat → Nat) (hs : xk_H) : va_W := hs.mapIdx fun k e => (ad k, xk_e K ad e)
theorem xk_w_at (K : Nat → ClassId) (ad : Nat → Nat) (hs : xk_H) (k : Nat) : (xk_w K ad hs)[k]? = (hs[k]?).map fun e => (ad k, xk_e K ad e) := by
  unfold xk_w
  rw [List.getElem?_mapIdx]
theorem xk_w_get {K : Nat → ClassId} {ad : Nat → Nat} {hs : xk_H} {k : Nat} {e : xk_C} (h : hs[k]? = some e) : (xk_w K ad hs)[k]? = some (ad k, xk_e K ad e) := by
  rw [xk_w_at, h]
  rfl
theorem xk_w_set (K : Nat → ClassId) (ad : Nat → Nat) (hs : xk_H) (k : Nat) (e : xk_C) : (xk_w K ad hs).set k (ad k, xk_e K ad e) = xk_w K ad (hs.set k e) := by
  apply List.ext_getElem?
  intro j
  rw [xk_w_at, List.getElem?_set, List.getElem?_set, xk_w_at]
  have hlen : (xk_w K ad hs).length = hs.length := by unfold xk_w; exact List.length_mapIdx
  rw [hlen]
  by_cases hj : k = j
  · subst hj
    by_cases hk : k < hs.length
    · simp [hk]
    · simp [hk]
  · simp [hj]
/-- the array classes: ints, longs, booleans, arrays of ints, arrays of longs -/
def xk_t (K : Nat → ClassId) : List (ClassId × FieldType) := [(K 0, .int), (K 1, .long), (K 2, .boolean), (K 3, .array .int), (K 4, .array .long)]
/-- the words by which nest mates are reached -/
def xk_nest : List Cond := [(Jvm.Cond.fieldLinkNest "PairScales" (166 : Nat) "PairScales$Table" "filled" "I" "PairScales"), (Jvm.Cond.fieldLinkNest "PairScales" (116 : Nat) "PairScales$WorstThree" "i" "I" "PairScales"), (Jvm.Cond.fieldLinkNest "PairScales" (119 : Nat) "PairScales$WorstThree" "j" "I" "PairScales"), (Jvm.Cond.fieldLinkNest "PairScales" (122 : Nat) "PairScales$WorstThree" "k" "I" "PairScales"), (Jvm.Cond.fieldLinkNest "PairScales" (112 : Nat) "PairScales$WorstThree" "off" "J" "PairScales"), (Jvm.Cond.fieldLinkNest "PairScales" (156 : Nat) "PairScales$Rings" "greatest" "[J" "PairScales"), (Jvm.Cond.fieldLinkNest "PairScales" (131 : Nat) "PairScales$Leaving" "fewest" "I" "PairScales"), (Jvm.Cond.fieldLinkNest "PairScales" (134 : Nat) "PairScales$Leaving" "leastHeap" "I" "PairScales"), (Jvm.Cond.methodLinkNest "PairScales" (64 : Nat) ({ cls := "PairScales$Roots", name := "<init>", desc := "()V" } : Jvm.MethodName) "PairScales"), (Jvm.Cond.methodLinkNest "PairScales$Roots" (9 : Nat) ({ cls := "PairScales$Big", name := "<init>", desc := "()V" } : Jvm.MethodName) "PairScales")]
def xk_logs : Nat → Value := fun j => .int (([0, 0, 1, 64, 2, 4096, 65, 262144, 3, 128] : List Int32).getD j 0)
/-- what is known of the tables and the static array at a state -/
def xk_K (G : xk_G) (A : Nat → Prop) (U : State) (H : Heap) : Prop := va_K G.1 vwCl (xk_t G.2.1) U ∧ (∀ w ∈ xk_nest, va_Nw w U) ∧ va_Z "PairScales$Leaving" "LOGS" "[I" (.ref G.2.2) A U H ∧ va_T .int G.2.2 10 xk_logs A U H
def xk_ws (M : xk_M) : List Cond := Cond.code M.1 M.2.1 M.2.2.1 M.2.2.2 :: xk_WS
def xk_rm (d mc ms : Nat) : Room := { frames := d, cells := mc, slots := ms, locals := 40 * d }
/-- what stays through a method: machine, code, words, tables -/
def xk_Cx (M : xk_M) (G : xk_G) (p : Program) (s : State) (m : MethodId) (args : Array Value) (meth : Method) (c : Code) (A : Nat → Prop) : Prop :=
  p.tables.exec = Jvm.exec ∧ c.code = M.2.1 ∧ c.maxLocals = M.2.2.1 ∧ meth.sig.returnType = M.2.2.2 ∧ (∀ w ∈ xk_WS, w.before args s = true) ∧ s.vm.findClass M.1.cls = some m.cls ∧ meth.locks = false ∧ meth.name = M.1.name ∧ (∀ q : Nat, s.heap.size ≤ q → A q) ∧ xk_K G A s s.heap
/-- the locals, by their places -/
def xk_l (ad : Nat → Nat) : Nat → List (Option Value) → List (Nat × Value)
  | _, [] => []
  | i, some v :: ls => (i, xk_v ad v) :: xk_l ad (i + 1) ls
  | i, none :: ls => xk_l ad (i + 1) ls
def xk_two : Option Value → Bool
  | some (.long _) => true
  | some (.double _) => true
  | _ => false
/-- what stays of a value whose second half is overwritten -/
def xk_kill : Option Value → Option Value
  | some (.long _) => none
  | some (.double _) => none
  | some (.int x) => some (.int x)
  | some (.ref x) => some (.ref x)
  | some (.float x) => some (.float x)
  | some .null => some .null
  | some (.retAddr x) => some (.retAddr x)
  | none => none
theorem xk_kill_eq (o : Option Value) : xk_kill o = if xk_two o then none else o := by
  rcases o with _ | v
  · rfl
  · cases v <;> rfl
/-- a value of one word is stored -/
def xk_s1 : List (Option Value) → Nat → Value → List (Option Value)
  | [], _, _ => []
  | _ :: ls, 0, v => some v :: ls
  | o :: ls, 1, v => xk_kill o :: xk_s1 ls 0 v
  | o :: ls, i + 2, v => o :: xk_s1 ls (i + 1) v
/-- a value of two words is stored -/
def xk_s2 : List (Option Value) → Nat → Value → List (Option Value)
  | [], _, _ => []
  | [_], 0, v => [some v]
  | _ :: _ :: ls, 0, v => some v :: none :: ls
  | o :: ls, 1, v => xk_kill o :: xk_s2 ls 0 v
  | o :: ls, i + 2, v => o :: xk_s2 ls (i + 1) v
theorem xk_l_mem (ad : Nat → Nat) : ∀ (ls : List (Option Value)) (i : Nat) (q : Nat × Value), q ∈ xk_l ad i ls ↔ ∃ (k : Nat) (v : Value), ls[k]? = some (some v) ∧ q = (i + k, xk_v ad v)
  | [], i, q => by simp [xk_l]
  | some w :: ls, i, q => by
    rw [xk_l, List.mem_cons, xk_l_mem ad ls (i + 1) q]
    constructor
    · rintro (rfl | ⟨k, v, h1, rfl⟩)
      · exact ⟨0, w, rfl, rfl⟩
      · exact ⟨k + 1, v, by simpa using h1, by rw [Nat.add_assoc, Nat.add_comm 1 k]⟩
    · rintro ⟨k, v, h1, rfl⟩
      cases k with
      | zero => left; simp at h1; rw [h1]; rfl
      | succ k => right; exact ⟨k, v, by simpa using h1, by rw [Nat.add_assoc, Nat.add_comm 1 k]⟩
  | none :: ls, i, q => by
    rw [xk_l, xk_l_mem ad ls (i + 1) q]
    constructor
    · rintro ⟨k, v, h1, rfl⟩
      exact ⟨k + 1, v, by simpa using h1, by rw [Nat.add_assoc, Nat.add_comm 1 k]⟩
    · rintro ⟨k, v, h1, rfl⟩
      cases k with
      | zero => simp at h1
      | succ k => exact ⟨k, v, by simpa using h1, by rw [Nat.add_assoc, Nat.add_comm 1 k]⟩
theorem xk_cat (ad : Nat → Nat) (v : Value) : (xk_v ad v).category = v.category := by cases v <;> rfl
theorem xk_two_cat (v : Value) : xk_two (some v) = (v.category == 2) := by cases v <;> rfl
theorem xk_s1_at (v : Value) : ∀ (ls : List (Option Value)) (i k : Nat) (w : Value), (xk_s1 ls i v)[k]? = some (some w) → (k = i ∧ w = v) ∨ (ls[k]? = some (some w) ∧ k ≠ i ∧ ¬ (k + 1 = i ∧ w.category = 2))
  | [], i, k, w, h => by simp [xk_s1] at h
  | o :: ls, 0, k, w, h => by
    cases k with
    | zero => left; simp [xk_s1] at h; exact ⟨rfl, h.symm⟩
    | succ k => right; simp [xk_s1] at h; exact ⟨by simpa using h, by omega, by omega⟩
  | o :: ls, 1, k, w, h => by
    cases k with
    | zero =>
      right
      simp only [xk_s1, xk_kill_eq, List.getElem?_cons_zero] at h
      by_cases ho : xk_two o = true
      · simp [ho] at h
      · simp only [ho] at h
        have h' : o = some w := by simpa using h
        subst h'
        refine ⟨by simp, by omega, fun q => ho ?_⟩
        rw [xk_two_cat]
        simp [q.2]
    | succ k =>
      simp only [xk_s1, List.getElem?_cons_succ] at h
      rcases xk_s1_at v ls 0 k w h with ⟨h1, h2⟩ | ⟨h1, h2, h3⟩
      · exact Or.inl ⟨by omega, h2⟩
      · exact Or.inr ⟨by simpa using h1, by omega, by omega⟩
  | o :: ls, i + 2, k, w, h => by
    cases k with
    | zero => right; simp [xk_s1] at h; exact ⟨by simp [h], by omega, by omega⟩
    | succ k =>
      simp only [xk_s1, List.getElem?_cons_succ] at h
      rcases xk_s1_at v ls (i + 1) k w h with ⟨h1, h2⟩ | ⟨h1, h2, h3⟩
      · exact Or.inl ⟨by omega, h2⟩
      · exact Or.inr ⟨by simpa using h1, by omega, fun q => h3 ⟨by omega, q.2⟩⟩
theorem xk_s2_at (v : Value) : ∀ (ls : List (Option Value)) (i k : Nat) (w : Value), (xk_s2 ls i v)[k]? = some (some w) → (k = i ∧ w = v) ∨ (ls[k]? = some (some w) ∧ k ≠ i ∧ k ≠ i + 1 ∧ ¬ (k + 1 = i ∧ w.category = 2))
  | [], i, k, w, h => by simp [xk_s2] at h
  | [o], 0, k, w, h => by
    cases k with
    | zero => left; simp [xk_s2] at h; exact ⟨rfl, h.symm⟩
    | succ k => simp [xk_s2] at h
  | o :: o2 :: ls, 0, k, w, h => by
    cases k with
    | zero => left; simp [xk_s2] at h; exact ⟨rfl, h.symm⟩
    | succ k =>
      cases k with
      | zero => simp [xk_s2] at h
      | succ k => right; simp [xk_s2] at h; exact ⟨by simpa using h, by omega, by omega, by omega⟩
  | o :: ls, 1, k, w, h => by
    cases k with
    | zero =>
      right
      simp only [xk_s2, xk_kill_eq, List.getElem?_cons_zero] at h
      by_cases ho : xk_two o = true
      · simp [ho] at h
      · simp only [ho] at h
        have h' : o = some w := by simpa using h
        subst h'
        refine ⟨by simp, by omega, by omega, fun q => ho ?_⟩
        rw [xk_two_cat]
        simp [q.2]
    | succ k =>
      simp only [xk_s2, List.getElem?_cons_succ] at h
      rcases xk_s2_at v ls 0 k w h with ⟨h1, h2⟩ | ⟨h1, h2, h3, h4⟩
      · exact Or.inl ⟨by omega, h2⟩
      · exact Or.inr ⟨by simpa using h1, by omega, by omega, by omega⟩
  | o :: ls, i + 2, k, w, h => by
    cases k with
    | zero => right; simp [xk_s2] at h; exact ⟨by simp [h], by omega, by omega, by omega⟩
    | succ k =>
      simp only [xk_s2, List.getElem?_cons_succ] at h
      rcases xk_s2_at v ls (i + 1) k w h with ⟨h1, h2⟩ | ⟨h1, h2, h3, h4⟩
      · exact Or.inl ⟨by omega, h2⟩
      · exact Or.inr ⟨by simpa using h1, by omega, by omega, fun q => h4 ⟨by omega, q.2⟩⟩
theorem xk_l_at {ad : Nat → Nat} {la : Array Slot} {nL : Nat} {ls : List (Option Value)} (h : lv_has la nL (xk_l ad 0 ls)) {i : Nat} {v : Value} (hv : ls[i]? = some (some v)) : la[i]? = some (.val (xk_v ad v)) :=
  h.2.2 (i, xk_v ad v) ((xk_l_mem ad ls 0 _).mpr ⟨i, v, hv, by rw [Nat.zero_add]⟩)
theorem xk_l_s1 {ad : Nat → Nat} {la : Array Slot} {nL i : Nat} {ls : List (Option Value)} {v : Value} (h : lv_has la nL ((i, xk_v ad v) :: (xk_l ad 0 ls).filter (fun q => !(q.1 == i) && !(q.1 + 1 == i && q.2.category == 2)))) : lv_has la nL (xk_l ad 0 (xk_s1 ls i v)) := by
  refine ⟨h.1, h.2.1, fun q hq => h.2.2 q ?_⟩
  obtain ⟨k, w, h1, rfl⟩ := (xk_l_mem ad _ 0 q).mp hq
  rw [Nat.zero_add]
  rcases xk_s1_at v ls i k w h1 with ⟨rfl, rfl⟩ | ⟨h2, h3, h4⟩
  · exact List.mem_cons_self
  · refine List.mem_cons_of_mem _ (List.mem_filter.mpr ⟨(xk_l_mem ad ls 0 _).mpr ⟨k, w, h2, by rw [Nat.zero_add]⟩, ?_⟩)
    rw [xk_cat]
    by_cases h5 : k + 1 = i
    · have h6 : ¬ w.category = 2 := fun z => h4 ⟨h5, z⟩
      simp [h3, h6]
    · simp [h3, h5]
theorem xk_l_s2 {ad : Nat → Nat} {la : Array Slot} {nL i : Nat} {ls : List (Option Value)} {v : Value} (h : lv_has la nL ((i, xk_v ad v) :: (xk_l ad 0 ls).filter (fun q => !(q.1 == i) && (!(q.1 == i + 1) && !(q.1 + 1 == i && q.2.category == 2))))) : lv_has la nL (xk_l ad 0 (xk_s2 ls i v)) := by
  refine ⟨h.1, h.2.1, fun q hq => h.2.2 q ?_⟩
  obtain ⟨k, w, h1, rfl⟩ := (xk_l_mem ad _ 0 q).mp hq
  rw [Nat.zero_add]
  rcases xk_s2_at v ls i k w h1 with ⟨rfl, rfl⟩ | ⟨h2, h3, h4, h5⟩
  · exact List.mem_cons_self
  · refine List.mem_cons_of_mem _ (List.mem_filter.mpr ⟨(xk_l_mem ad ls 0 _).mpr ⟨k, w, h2, by rw [Nat.zero_add]⟩, ?_⟩)
    rw [xk_cat]
    by_cases h6 : k + 1 = i
    · have h7 : ¬ w.category = 2 := fun z => h5 ⟨h6, z⟩
      simp [h3, h4, h7]
    · simp [h3, h4, h6]
/-- fewer locals are known -/
def xk_le : List (Option Value) → List (Option Value) → Prop
  | [], _ => True
  | none :: a, _ :: b => xk_le a b
  | some v :: a, some w :: b => v = w ∧ xk_le a b
  | none :: a, [] => xk_le a []
  | some _ :: _, none :: _ => False
  | some _ :: _, [] => False
theorem xk_le_at : ∀ (a b : List (Option Value)), xk_le a b → ∀ (k : Nat) (v : Value), a[k]? = some (some v) → b[k]? = some (some v)
  | [], b, _, k, v, hv => by simp at hv
  | none :: a, x :: b, h, k, v, hv => by
    cases k with
    | zero => simp at hv
    | succ k => simpa using xk_le_at a b h k v (by simpa using hv)
  | none :: a, [], h, k, v, hv => by
    cases k with
    | zero => simp at hv
    | succ k => have := xk_le_at a [] h k v (by simpa using hv); simp at this
  | some y :: a, some w :: b, h, k, v, hv => by
    cases k with
    | zero => rw [← h.1]; simpa using hv
    | succ k => simpa using xk_le_at a b h.2 k v (by simpa using hv)
  | some y :: a, none :: b, h, k, v, hv => h.elim
  | some y :: a, [], h, k, v, hv => h.elim
/-- a boolean as the machine holds it -/
def xk_b (b : Bool) : Int32 := match b with
  | true => 1
  | false => 0
/-- references lie within -/
def xk_ok (n : Nat) : Value → Prop
  | .ref k => k < n
  | .int _ => True
  | .long _ => True
  | .float _ => True
  | .double _ => True
  | .null => True
  | .retAddr _ => True
def xk_okC (n : Nat) : xk_C → Prop
  | .inl (_, _, .inr (.inr (.inr (.inr f)))) => ∀ (j k : Nat), f j = some k → k < n
  | .inl (_, _, .inl _) => True
  | .inl (_, _, .inr (.inl _)) => True
  | .inl (_, _, .inr (.inr (.inl _))) => True
  | .inl (_, _, .inr (.inr (.inr (.inl _)))) => True
  | .inr (_, fs) => ∀ v ∈ fs, xk_ok n v
def xk_okS (n : Nat) (st : List Value) : Prop := ∀ v ∈ st, xk_ok n v
def xk_okL (n : Nat) (ls : List (Option Value)) : Prop := ∀ v : Value, some v ∈ ls → xk_ok n v
def xk_okH (hs : xk_H) : Prop := ∀ e ∈ hs, xk_okC hs.length e
def xk_OK (ls : List (Option Value)) (st : List Value) (hs : xk_H) : Prop := xk_okL hs.length ls ∧ xk_okS hs.length st ∧ xk_okH hs
theorem xk_tl {n : Nat} {v : Value} {st : List Value} (h : xk_okS n (v :: st)) : xk_okS n st := fun w hw => h w (List.mem_cons_of_mem _ hw)
theorem xk_hd {n : Nat} {v : Value} {st : List Value} (h : xk_okS n (v :: st)) : xk_ok n v := h v List.mem_cons_self
theorem xk_cs {n : Nat} {v : Value} {st : List Value} (hv : xk_ok n v) (h : xk_okS n st) : xk_okS n (v :: st) := fun w hw => (List.mem_cons.mp hw).elim (fun e => e ▸ hv) (h w)
theorem xk_okL_at {n i : Nat} {ls : List (Option Value)} {v : Value} (h : xk_okL n ls) (hv : ls[i]? = some (some v)) : xk_ok n v := h v (List.mem_of_getElem? hv)
theorem xk_okL_s1 {n i : Nat} {ls : List (Option Value)} {v : Value} (h : xk_okL n ls) (hv : xk_ok n v) : xk_okL n (xk_s1 ls i v) := fun w hw => by
  obtain ⟨k, hk⟩ := List.getElem?_of_mem hw
  rcases xk_s1_at v ls i k w hk with ⟨-, rfl⟩ | ⟨h1, -⟩
  · exact hv
  · exact xk_okL_at h h1
theorem xk_okL_s2 {n i : Nat} {ls : List (Option Value)} {v : Value} (h : xk_okL n ls) (hv : xk_ok n v) : xk_okL n (xk_s2 ls i v) := fun w hw => by
  obtain ⟨k, hk⟩ := List.getElem?_of_mem hw
  rcases xk_s2_at v ls i k w hk with ⟨-, rfl⟩ | ⟨h1, -⟩
  · exact hv
  · exact xk_okL_at h h1
theorem xk_okH_set {hs : xk_H} {a : Nat} {e : xk_C} (h : xk_okH hs) (he : xk_okC hs.length e) : xk_okH (hs.set a e) := fun x hx => by
  rw [List.length_set]
  rcases List.mem_or_eq_of_mem_set hx with h1 | rfl
  · exact h x h1
  · exact he
theorem xk_OK.set {ls : List (Option Value)} {st st' : List Value} {hs : xk_H} {a : Nat} {e : xk_C} (O : xk_OK ls st' hs) (h1 : xk_okS hs.length st) (he : xk_okC hs.length e) : xk_OK ls st (hs.set a e) := by
  refine ⟨?_, ?_, xk_okH_set O.2.2 he⟩
  · rw [List.length_set]; exact O.1
  · rw [List.length_set]; exact h1
theorem xk_okF {hs : xk_H} {a ci : Nat} {fs : List Value} (h : xk_okH hs) (he : hs[a]? = some (.inr (ci, fs))) : ∀ v ∈ fs, xk_ok hs.length v := h _ (List.mem_of_getElem? he)
theorem xk_okR {hs : xk_H} {a t n j k : Nat} {f : Nat → Option Nat} (h : xk_okH hs) (he : hs[a]? = some (.inl (t, n, .inr (.inr (.inr (.inr f)))))) (hf : f j = some k) : k < hs.length := h _ (List.mem_of_getElem? he) j k hf
def xk_Q (G : xk_G) (fx : Nat → Prop) (ad : Nat → Nat) (out : Option Value → xk_H → Prop) (A : Nat → Prop) : Array Value → State → Outcome → State → Prop := fun _ st oc t =>
  (∃ (r : Option Value) (hs' : xk_H) (ad' : Nat → Nat), oc = .returned (r.map (xk_v ad')) ∧ out r hs' ∧ xk_OK [] r.toList hs' ∧ (∀ k, fx k → ad' k = ad k) ∧ va_P G.1 vwCl (xk_w G.2.1 ad' hs') t.heap ∧ va_D A (xk_w G.2.1 ad' hs')) ∧ va_F A st t
/-- THE JUDGEMENT -/
def xk_X (d mc ms : Nat) (M : xk_M) (fx : Nat → Prop) (out : Option Value → xk_H → Prop) (cs ss pc : Nat) (ls : List (Option Value)) (st : List Value) (hs : xk_H) : Prop :=
  ∀ (G : xk_G) (ad0 ad : Nat → Nat) (p : Program) (l : Launch) (e : Env) (s : State) (m : MethodId) (args : Array Value) (below : List Frame) (meth : Method) (c : Code) (A : Nat → Prop) (H : Heap) (locs : List Loc) (la : Array Slot),
    xk_Cx M G p s m args meth c A → (∀ k, fx k → ad k = ad0 k) → va_P G.1 vwCl (xk_w G.2.1 ad hs) H → va_D A (xk_w G.2.1 ad hs) → va_S A s.heap H locs → lv_has la M.2.2.1 (xk_l ad 0 ls) → xk_OK ls st hs →
    W p l e (xk_rm d mc ms) s m args below meth c H locs cs ss (MQ below (xk_Q G fx ad0 out A) args s mc ms A) (F0 m pc la (st.map (xk_v ad)))
/-- which addresses a method leaves as they are: all, or (where it makes cells) those of the cells that were there -/
def xk_fx (al : Bool) (hs : xk_H) (k : Nat) : Prop := al = true → k < hs.length
/-- A CONTRACT -/
def xk_Y (d mc ms : Nat) (M : xk_M) (al : Bool) (av : List Value) (hs : xk_H) (out : Option Value → xk_H → Prop) : Prop :=
  xk_OK [] av hs → ∀ (l : Launch) (G : xk_G) (ad : Nat → Nat) (sz : Nat), Met l M.1 (xk_ws M) (xk_rm d mc ms) (va_Pc (av.map (xk_v ad)) (fun U => U.heap.size = sz ∧ va_P G.1 vwCl (xk_w G.2.1 ad hs) U.heap ∧ va_D (fun _ => True) (xk_w G.2.1 ad hs) ∧ xk_K G (va_A (xk_w G.2.1 ad hs) sz) U U.heap)) (xk_Q G (xk_fx al hs) ad out (va_A (xk_w G.2.1 ad hs) sz)) mc ms (va_A (xk_w G.2.1 ad hs) sz)
/-- the locals at a method's entry -/
def xk_ent : List Value → List (Option Value)
  | [] => []
  | v :: vs => if v.category = 2 then some v :: none :: xk_ent vs else some v :: xk_ent vs
theorem xk_ent_mem (ad : Nat → Nat) (k : Nat) : ∀ (vs : List Value) (i : Nat) (q : Nat × Value), q ∈ xk_l ad i (xk_ent vs ++ List.replicate k none) → q ∈ lv_args i (vs.map (xk_v ad))
  | [], i, q, h => by
    obtain ⟨j, v, h1, -⟩ := (xk_l_mem ad _ i q).mp h
    simp [xk_ent, List.getElem?_replicate] at h1
  | v :: vs, i, q, h => by
    rw [List.map_cons, lv_args, xk_cat]
    by_cases hc : v.category = 2
    · rw [xk_ent, if_pos hc] at h
      rw [if_pos hc]
      simp only [List.cons_append, xk_l] at h
      rcases List.mem_cons.mp h with h | h
      · exact List.mem_cons.mpr (Or.inl h)
      · exact List.mem_cons_of_mem _ (xk_ent_mem ad k vs (i + 2) q h)
    · rw [xk_ent, if_neg hc] at h
      rw [if_neg hc]
      simp only [List.cons_append, xk_l] at h
      rcases List.mem_cons.mp h with h | h
      · exact List.mem_cons.mpr (Or.inl h)
      · exact List.mem_cons_of_mem _ (xk_ent_mem ad k vs (i + 1) q h)
theorem xk_ent_len (ad : Nat → Nat) : ∀ vs : List Value, (lg_sl (vs.map (xk_v ad))).length = (xk_ent vs).length
  | [] => rfl
  | v :: vs => by
    have ih := xk_ent_len ad vs
    by_cases hc : v.category = 2
    · simp [lg_sl, xk_ent, xk_cat, hc] at ih ⊢
      omega
    · simp [lg_sl, xk_ent, xk_cat, hc] at ih ⊢
      omega
theorem xk_ent_ok (n k : Nat) : ∀ vs : List Value, xk_okS n vs → xk_okL n (xk_ent vs ++ List.replicate k none)
  | [], _ => fun v hv => by simp [xk_ent] at hv
  | v :: vs, h => by
    have ih := xk_ent_ok n k vs (xk_tl h)
    intro w hw
    by_cases hc : v.category = 2
    · rw [xk_ent, if_pos hc] at hw
      simp only [List.cons_append, List.mem_cons, reduceCtorEq, false_or, Option.some.injEq] at hw
      rcases hw with rfl | hw
      · exact xk_hd h
      · exact ih w hw
    · rw [xk_ent, if_neg hc] at hw
      simp only [List.cons_append, List.mem_cons, Option.some.injEq] at hw
      rcases hw with rfl | hw
      · exact xk_hd h
      · exact ih w hw
theorem xk_Y.ofX {d mc ms : Nat} {M : xk_M} {al : Bool} {av : List Value} {hs : xk_H} {out : Option Value → xk_H → Prop} {k : Nat} {ls : List (Option Value)} (hy : plainName M.1.cls = true) (hl : xk_ent av ++ List.replicate k none = ls) (hn : (xk_ent av).length + k = M.2.2.1) (h : xk_X d mc ms M (xk_fx al hs) out 0 0 0 ls [] hs) : xk_Y d mc ms M al av hs out := by
  intro O l G ad sz
  refine Met.ofW (cc := M.2.1) (maxL := M.2.2.1) (ret := M.2.2.2) hy rfl ?_
  intro p e s m args below meth c s₁ B hml hv
  obtain ⟨rfl, hsz, hP, hD0, hK⟩ := hv
  subst hsz
  have hts := atoms_spec (ws := xk_ws M) B.pre
  have hD := hD0.self (sz := s.heap.size)
  have h0 : (lg_sl (av.map (xk_v ad))).length ≤ M.2.2.1 := by rw [xk_ent_len]; omega
  have hle := lv_entry (av.map (xk_v ad)) (n := M.2.2.1) h0
  rw [lg_entry_eq]
  refine h G ad ad p l e s m _ below meth c _ s.heap [] _ ⟨B.exec, B.bytes, hml, B.returns, fun w hw => hts w (List.mem_cons_of_mem _ hw), findClass_of_methodNamed B.named, B.notSynchronized, (name_of_methodNamed B.named B.method).1, fun q hq => Or.inr hq, hK⟩ (fun _ _ => rfl) hP hD va_S.rf ⟨hle.1, hle.2.1, fun q hq => hle.2.2 q ?_⟩ ⟨by rw [← hl]; exact xk_ent_ok _ k av O.2.1, fun v hv => absurd hv List.not_mem_nil, O.2.2⟩
  rw [← hl] at hq
  exact xk_ent_mem ad k av 0 q hq
section XKR
variable {d mc ms : Nat} {M : xk_M} {fx : Nat → Prop} {out : Option Value → xk_H → Prop} {cs ss pc : Nat} {ls : List (Option Value)} {st : List Value} {hs : xk_H}
/-- with fewer known locals -/
theorem xk_sub {ls' : List (Option Value)} (k : xk_X d mc ms M fx out cs ss pc ls' st hs) (h : xk_le ls' ls) : xk_X d mc ms M fx out cs ss pc ls st hs :=
  fun G ad0 ad p l e s m args below meth c A H locs la C hf hP hD hS hl O => k G ad0 ad p l e s m args below meth c A H locs la C hf hP hD hS ⟨hl.1, hl.2.1, fun q hq => by
    obtain ⟨j, v, h1, rfl⟩ := (xk_l_mem ad _ 0 q).mp hq
    rw [Nat.zero_add]
    exact xk_l_at hl (xk_le_at _ _ h j v h1)⟩ ⟨fun v hv => by
    obtain ⟨j, hj⟩ := List.getElem?_of_mem hv
    exact xk_okL_at O.1 (xk_le_at _ _ h j v hj), O.2⟩
theorem xk_pc {pc' : Nat} (h : pc' = pc) (k : xk_X d mc ms M fx out cs ss pc' ls st hs) : xk_X d mc ms M fx out cs ss pc ls st hs := h ▸ k
theorem xk_iconst {n : Int} (v : Int32) (hd : decode M.2.1 pc = .ok (.iconst n, 1)) (hv : Int32.ofInt n = v) (k : xk_X d mc ms M fx out cs ss (pc + 1) ls (.int v :: st) hs) : xk_X d mc ms M fx out cs ss pc ls st hs :=
  fun G ad0 ad p l e s m args below meth c A H locs la C hf hP hD hS hl O => lv_iconst C.1 C.2.1 hd hv (k G ad0 ad p l e s m args below meth c A H locs la C hf hP hD hS hl ⟨O.1, (xk_cs trivial O.2.1), O.2.2⟩)
theorem xk_bipush {n : Int} (v : Int32) (hd : decode M.2.1 pc = .ok (.bipush n, 2)) (hv : (Int8.ofInt n).toInt32 = v) (k : xk_X d mc ms M fx out cs ss (pc + 2) ls (.int v :: st) hs) : xk_X d mc ms M fx out cs ss pc ls st hs :=
  fun G ad0 ad p l e s m args below meth c A H locs la C hf hP hD hS hl O => lv_bipush C.1 C.2.1 hd hv (k G ad0 ad p l e s m args below meth c A H locs la C hf hP hD hS hl ⟨O.1, (xk_cs trivial O.2.1), O.2.2⟩)
theorem xk_sipush {n : Int} (v : Int32) (hd : decode M.2.1 pc = .ok (.sipush n, 3)) (hv : (Int16.ofInt n).toInt32 = v) (k : xk_X d mc ms M fx out cs ss (pc + 3) ls (.int v :: st) hs) : xk_X d mc ms M fx out cs ss pc ls st hs :=
  fun G ad0 ad p l e s m args below meth c A H locs la C hf hP hD hS hl O => lv_sipush C.1 C.2.1 hd hv (k G ad0 ad p l e s m args below meth c A H locs la C hf hP hD hS hl ⟨O.1, (xk_cs trivial O.2.1), O.2.2⟩)
theorem xk_lconst {n : Fin 2} (v : Int64) (hd : decode M.2.1 pc = .ok (.lconst n, 1)) (hv : Int64.ofNat (n : Nat) = v) (k : xk_X d mc ms M fx out cs ss (pc + 1) ls (.long v :: st) hs) : xk_X d mc ms M fx out cs ss pc ls st hs :=
  fun G ad0 ad p l e s m args below meth c A H locs la C hf hP hD hS hl O => lv_lconst C.1 C.2.1 hd hv (k G ad0 ad p l e s m args below meth c A H locs la C hf hP hD hS hl ⟨O.1, (xk_cs trivial O.2.1), O.2.2⟩)
theorem xk_ldc2 {i : Nat} {v : Int64} (hd : decode M.2.1 pc = .ok (.ldc2_w i, 3)) (hw : Cond.constantLong M.1.cls i v ∈ xk_WS) (k : xk_X d mc ms M fx out cs ss (pc + 3) ls (.long v :: st) hs) : xk_X d mc ms M fx out cs ss pc ls st hs :=
  fun G ad0 ad p l e s m args below meth c A H locs la C hf hP hD hS hl O => lv_ldc2 C.1 C.2.1 C.2.2.2.2.2.1 (C.2.2.2.2.1 _ hw) hd (k G ad0 ad p l e s m args below meth c A H locs la C hf hP hD hS hl ⟨O.1, (xk_cs trivial O.2.1), O.2.2⟩)
theorem xk_ldcw {i : Nat} {v : Int32} (hd : decode M.2.1 pc = .ok (.ldc_w i, 3)) (hw : Cond.constant M.1.cls i v ∈ xk_WS) (k : xk_X d mc ms M fx out cs ss (pc + 3) ls (.int v :: st) hs) : xk_X d mc ms M fx out cs ss pc ls st hs :=
  fun G ad0 ad p l e s m args below meth c A H locs la C hf hP hD hS hl O => lv_ldcw C.1 C.2.1 C.2.2.2.2.2.1 (C.2.2.2.2.1 _ hw) hd (k G ad0 ad p l e s m args below meth c A H locs la C hf hP hD hS hl ⟨O.1, (xk_cs trivial O.2.1), O.2.2⟩)
theorem xk_iload_n {k : Fin 4} {x : Int32} (hd : decode M.2.1 pc = .ok (.iload_n k, 1)) (hv : ls[(k : Nat)]? = some (some (.int x))) (kk : xk_X d mc ms M fx out cs ss (pc + 1) ls (.int x :: st) hs) : xk_X d mc ms M fx out cs ss pc ls st hs :=
  fun G ad0 ad p l e s m args below meth c A H locs la C hf hP hD hS hl O => lv_iload_n C.1 C.2.1 hd rfl (xk_l_at hl hv) (kk G ad0 ad p l e s m args below meth c A H locs la C hf hP hD hS hl ⟨O.1, (xk_cs trivial O.2.1), O.2.2⟩)
theorem xk_iload {i : Nat} {x : Int32} (hd : decode M.2.1 pc = .ok (.iload i, 2)) (hv : ls[i]? = some (some (.int x))) (k : xk_X d mc ms M fx out cs ss (pc + 2) ls (.int x :: st) hs) : xk_X d mc ms M fx out cs ss pc ls st hs :=
  fun G ad0 ad p l e s m args below meth c A H locs la C hf hP hD hS hl O => lv_iload C.1 C.2.1 hd (xk_l_at hl hv) (k G ad0 ad p l e s m args below meth c A H locs la C hf hP hD hS hl ⟨O.1, (xk_cs trivial O.2.1), O.2.2⟩)
theorem xk_lload_n {k : Fin 4} {x : Int64} (hd : decode M.2.1 pc = .ok (.lload_n k, 1)) (hv : ls[(k : Nat)]? = some (some (.long x))) (kk : xk_X d mc ms M fx out cs ss (pc + 1) ls (.long x :: st) hs) : xk_X d mc ms M fx out cs ss pc ls st hs :=
  fun G ad0 ad p l e s m args below meth c A H locs la C hf hP hD hS hl O => lv_lload_n C.1 C.2.1 hd rfl (xk_l_at hl hv) (kk G ad0 ad p l e s m args below meth c A H locs la C hf hP hD hS hl ⟨O.1, (xk_cs trivial O.2.1), O.2.2⟩)
theorem xk_lload {i : Nat} {x : Int64} (hd : decode M.2.1 pc = .ok (.lload i, 2)) (hv : ls[i]? = some (some (.long x))) (k : xk_X d mc ms M fx out cs ss (pc + 2) ls (.long x :: st) hs) : xk_X d mc ms M fx out cs ss pc ls st hs :=
  fun G ad0 ad p l e s m args below meth c A H locs la C hf hP hD hS hl O => lv_lload C.1 C.2.1 hd (xk_l_at hl hv) (k G ad0 ad p l e s m args below meth c A H locs la C hf hP hD hS hl ⟨O.1, (xk_cs trivial O.2.1), O.2.2⟩)
theorem xk_aload_n {k : Fin 4} {a : Nat} (hd : decode M.2.1 pc = .ok (.aload_n k, 1)) (hv : ls[(k : Nat)]? = some (some (.ref a))) (kk : xk_X d mc ms M fx out cs ss (pc + 1) ls (.ref a :: st) hs) : xk_X d mc ms M fx out cs ss pc ls st hs :=
  fun G ad0 ad p l e s m args below meth c A H locs la C hf hP hD hS hl O => lv_aload_n C.1 C.2.1 hd rfl (xk_l_at hl hv) (kk G ad0 ad p l e s m args below meth c A H locs la C hf hP hD hS hl ⟨O.1, (xk_cs (xk_okL_at O.1 hv) O.2.1), O.2.2⟩)
theorem xk_aload {i : Nat} {a : Nat} (hd : decode M.2.1 pc = .ok (.aload i, 2)) (hv : ls[i]? = some (some (.ref a))) (kk : xk_X d mc ms M fx out cs ss (pc + 2) ls (.ref a :: st) hs) : xk_X d mc ms M fx out cs ss pc ls st hs :=
  fun G ad0 ad p l e s m args below meth c A H locs la C hf hP hD hS hl O => lv_aload C.1 C.2.1 hd (xk_l_at hl hv) (kk G ad0 ad p l e s m args below meth c A H locs la C hf hP hD hS hl ⟨O.1, (xk_cs (xk_okL_at O.1 hv) O.2.1), O.2.2⟩)
theorem xk_istore_n {k : Fin 4} {x : Int32} (hd : decode M.2.1 pc = .ok (.istore_n k, 1)) (hn : (k : Nat) < M.2.2.1) (kk : xk_X d mc ms M fx out cs ss (pc + 1) (xk_s1 ls (k : Nat) (.int x)) st hs) : xk_X d mc ms M fx out cs ss pc ls (.int x :: st) hs :=
  fun G ad0 ad p l e s m args below meth c A H locs la C hf hP hD hS hl O => lv_istore_n C.1 C.2.1 hd rfl hl hn rfl (fun la hl => kk G ad0 ad p l e s m args below meth c A H locs la C hf hP hD hS (xk_l_s1 (v := .int x) hl) ⟨xk_okL_s1 O.1 (xk_hd O.2.1), xk_tl O.2.1, O.2.2⟩)
theorem xk_istore {i : Nat} {x : Int32} (hd : decode M.2.1 pc = .ok (.istore i, 2)) (hn : i < M.2.2.1) (kk : xk_X d mc ms M fx out cs ss (pc + 2) (xk_s1 ls i (.int x)) st hs) : xk_X d mc ms M fx out cs ss pc ls (.int x :: st) hs :=
  fun G ad0 ad p l e s m args below meth c A H locs la C hf hP hD hS hl O => lv_istore C.1 C.2.1 hd hl hn rfl (fun la hl => kk G ad0 ad p l e s m args below meth c A H locs la C hf hP hD hS (xk_l_s1 (v := .int x) hl) ⟨xk_okL_s1 O.1 (xk_hd O.2.1), xk_tl O.2.1, O.2.2⟩)
theorem xk_lstore_n {k : Fin 4} {x : Int64} (hd : decode M.2.1 pc = .ok (.lstore_n k, 1)) (hn : (k : Nat) + 1 < M.2.2.1) (kk : xk_X d mc ms M fx out cs ss (pc + 1) (xk_s2 ls (k : Nat) (.long x)) st hs) : xk_X d mc ms M fx out cs ss pc ls (.long x :: st) hs :=
  fun G ad0 ad p l e s m args below meth c A H locs la C hf hP hD hS hl O => lv_lstore_n C.1 C.2.1 hd rfl hl hn rfl (fun la hl => kk G ad0 ad p l e s m args below meth c A H locs la C hf hP hD hS (xk_l_s2 (v := .long x) hl) ⟨xk_okL_s2 O.1 (xk_hd O.2.1), xk_tl O.2.1, O.2.2⟩)
theorem xk_lstore {i : Nat} {x : Int64} (hd : decode M.2.1 pc = .ok (.lstore i, 2)) (hn : i + 1 < M.2.2.1) (kk : xk_X d mc ms M fx out cs ss (pc + 2) (xk_s2 ls i (.long x)) st hs) : xk_X d mc ms M fx out cs ss pc ls (.long x :: st) hs :=
  fun G ad0 ad p l e s m args below meth c A H locs la C hf hP hD hS hl O => lv_lstore C.1 C.2.1 hd hl hn rfl (fun la hl => kk G ad0 ad p l e s m args below meth c A H locs la C hf hP hD hS (xk_l_s2 (v := .long x) hl) ⟨xk_okL_s2 O.1 (xk_hd O.2.1), xk_tl O.2.1, O.2.2⟩)
theorem xk_astore_n {k : Fin 4} {x : Nat} (hd : decode M.2.1 pc = .ok (.astore_n k, 1)) (hn : (k : Nat) < M.2.2.1) (kk : xk_X d mc ms M fx out cs ss (pc + 1) (xk_s1 ls (k : Nat) (.ref x)) st hs) : xk_X d mc ms M fx out cs ss pc ls (.ref x :: st) hs :=
  fun G ad0 ad p l e s m args below meth c A H locs la C hf hP hD hS hl O => lv_astore_n C.1 C.2.1 hd rfl hl hn rfl (fun la hl => kk G ad0 ad p l e s m args below meth c A H locs la C hf hP hD hS (xk_l_s1 (v := .ref x) hl) ⟨xk_okL_s1 O.1 (xk_hd O.2.1), xk_tl O.2.1, O.2.2⟩)
theorem xk_astore {i : Nat} {x : Nat} (hd : decode M.2.1 pc = .ok (.astore i, 2)) (hn : i < M.2.2.1) (kk : xk_X d mc ms M fx out cs ss (pc + 2) (xk_s1 ls i (.ref x)) st hs) : xk_X d mc ms M fx out cs ss pc ls (.ref x :: st) hs :=
  fun G ad0 ad p l e s m args below meth c A H locs la C hf hP hD hS hl O => lv_astore C.1 C.2.1 hd hl hn rfl (fun la hl => kk G ad0 ad p l e s m args below meth c A H locs la C hf hP hD hS (xk_l_s1 (v := .ref x) hl) ⟨xk_okL_s1 O.1 (xk_hd O.2.1), xk_tl O.2.1, O.2.2⟩)
theorem xk_iinc {i : Nat} {n : Int} {x : Int32} (v : Int32) (hd : decode M.2.1 pc = .ok (.iinc i n, 3)) (hx : ls[i]? = some (some (.int x))) (hv : x + Int32.ofInt n = v) (hn : i < M.2.2.1) (kk : xk_X d mc ms M fx out cs ss (pc + 3) (xk_s1 ls i (.int v)) st hs) : xk_X d mc ms M fx out cs ss pc ls st hs :=
  fun G ad0 ad p l e s m args below meth c A H locs la C hf hP hD hS hl O => by
    obtain ⟨j, hj⟩ := List.getElem?_of_mem ((xk_l_mem ad ls 0 (i, .int x)).mpr ⟨i, .int x, hx, by rw [Nat.zero_add]; rfl⟩)
    exact lv_iinc (k := j) C.1 C.2.1 hd hl hj hv hn rfl (fun la hl => kk G ad0 ad p l e s m args below meth c A H locs la C hf hP hD hS (xk_l_s1 (v := .int v) hl) ⟨xk_okL_s1 O.1 trivial, O.2⟩)
theorem xk_iadd {x y : Int32} (hd : decode M.2.1 pc = .ok (.iadd, 1)) (kk : xk_X d mc ms M fx out cs ss (pc + 1) ls (.int (x + y) :: st) hs) : xk_X d mc ms M fx out cs ss pc ls (.int y :: .int x :: st) hs :=
  fun G ad0 ad p l e s m args below meth c A H locs la C hf hP hD hS hl O => lv_iadd C.1 C.2.1 hd (kk G ad0 ad p l e s m args below meth c A H locs la C hf hP hD hS hl ⟨O.1, (xk_cs trivial (xk_tl (xk_tl O.2.1))), O.2.2⟩)
theorem xk_isub {x y : Int32} (hd : decode M.2.1 pc = .ok (.isub, 1)) (kk : xk_X d mc ms M fx out cs ss (pc + 1) ls (.int (x - y) :: st) hs) : xk_X d mc ms M fx out cs ss pc ls (.int y :: .int x :: st) hs :=
  fun G ad0 ad p l e s m args below meth c A H locs la C hf hP hD hS hl O => lv_isub C.1 C.2.1 hd (kk G ad0 ad p l e s m args below meth c A H locs la C hf hP hD hS hl ⟨O.1, (xk_cs trivial (xk_tl (xk_tl O.2.1))), O.2.2⟩)
theorem xk_imul {x y : Int32} (hd : decode M.2.1 pc = .ok (.imul, 1)) (kk : xk_X d mc ms M fx out cs ss (pc + 1) ls (.int (x * y) :: st) hs) : xk_X d mc ms M fx out cs ss pc ls (.int y :: .int x :: st) hs :=
  fun G ad0 ad p l e s m args below meth c A H locs la C hf hP hD hS hl O => lv_imul C.1 C.2.1 hd (kk G ad0 ad p l e s m args below meth c A H locs la C hf hP hD hS hl ⟨O.1, (xk_cs trivial (xk_tl (xk_tl O.2.1))), O.2.2⟩)
theorem xk_iand {x y : Int32} (hd : decode M.2.1 pc = .ok (.iand, 1)) (kk : xk_X d mc ms M fx out cs ss (pc + 1) ls (.int (x &&& y) :: st) hs) : xk_X d mc ms M fx out cs ss pc ls (.int y :: .int x :: st) hs :=
  fun G ad0 ad p l e s m args below meth c A H locs la C hf hP hD hS hl O => lv_iand C.1 C.2.1 hd (kk G ad0 ad p l e s m args below meth c A H locs la C hf hP hD hS hl ⟨O.1, (xk_cs trivial (xk_tl (xk_tl O.2.1))), O.2.2⟩)
theorem xk_ior {x y : Int32} (hd : decode M.2.1 pc = .ok (.ior, 1)) (kk : xk_X d mc ms M fx out cs ss (pc + 1) ls (.int (x ||| y) :: st) hs) : xk_X d mc ms M fx out cs ss pc ls (.int y :: .int x :: st) hs :=
  fun G ad0 ad p l e s m args below meth c A H locs la C hf hP hD hS hl O => lv_ior C.1 C.2.1 hd (kk G ad0 ad p l e s m args below meth c A H locs la C hf hP hD hS hl ⟨O.1, (xk_cs trivial (xk_tl (xk_tl O.2.1))), O.2.2⟩)
theorem xk_ixor {x y : Int32} (hd : decode M.2.1 pc = .ok (.ixor, 1)) (kk : xk_X d mc ms M fx out cs ss (pc + 1) ls (.int (x ^^^ y) :: st) hs) : xk_X d mc ms M fx out cs ss pc ls (.int y :: .int x :: st) hs :=
  fun G ad0 ad p l e s m args below meth c A H locs la C hf hP hD hS hl O => lv_ixor C.1 C.2.1 hd (kk G ad0 ad p l e s m args below meth c A H locs la C hf hP hD hS hl ⟨O.1, (xk_cs trivial (xk_tl (xk_tl O.2.1))), O.2.2⟩)
theorem xk_ladd {x y : Int64} (hd : decode M.2.1 pc = .ok (.ladd, 1)) (kk : xk_X d mc ms M fx out cs ss (pc + 1) ls (.long (x + y) :: st) hs) : xk_X d mc ms M fx out cs ss pc ls (.long y :: .long x :: st) hs :=
  fun G ad0 ad p l e s m args below meth c A H locs la C hf hP hD hS hl O => lv_ladd C.1 C.2.1 hd (kk G ad0 ad p l e s m args below meth c A H locs la C hf hP hD hS hl ⟨O.1, (xk_cs trivial (xk_tl (xk_tl O.2.1))), O.2.2⟩)
theorem xk_lsub {x y : Int64} (hd : decode M.2.1 pc = .ok (.lsub, 1)) (kk : xk_X d mc ms M fx out cs ss (pc + 1) ls (.long (x - y) :: st) hs) : xk_X d mc ms M fx out cs ss pc ls (.long y :: .long x :: st) hs :=
  fun G ad0 ad p l e s m args below meth c A H locs la C hf hP hD hS hl O => lv_lsub C.1 C.2.1 hd (kk G ad0 ad p l e s m args below meth c A H locs la C hf hP hD hS hl ⟨O.1, (xk_cs trivial (xk_tl (xk_tl O.2.1))), O.2.2⟩)
theorem xk_lmul {x y : Int64} (hd : decode M.2.1 pc = .ok (.lmul, 1)) (kk : xk_X d mc ms M fx out cs ss (pc + 1) ls (.long (x * y) :: st) hs) : xk_X d mc ms M fx out cs ss pc ls (.long y :: .long x :: st) hs :=
  fun G ad0 ad p l e s m args below meth c A H locs la C hf hP hD hS hl O => lv_lmul C.1 C.2.1 hd (kk G ad0 ad p l e s m args below meth c A H locs la C hf hP hD hS hl ⟨O.1, (xk_cs trivial (xk_tl (xk_tl O.2.1))), O.2.2⟩)
theorem xk_land {x y : Int64} (hd : decode M.2.1 pc = .ok (.land, 1)) (kk : xk_X d mc ms M fx out cs ss (pc + 1) ls (.long (x &&& y) :: st) hs) : xk_X d mc ms M fx out cs ss pc ls (.long y :: .long x :: st) hs :=
  fun G ad0 ad p l e s m args below meth c A H locs la C hf hP hD hS hl O => lv_land C.1 C.2.1 hd (kk G ad0 ad p l e s m args below meth c A H locs la C hf hP hD hS hl ⟨O.1, (xk_cs trivial (xk_tl (xk_tl O.2.1))), O.2.2⟩)
theorem xk_lor {x y : Int64} (hd : decode M.2.1 pc = .ok (.lor, 1)) (kk : xk_X d mc ms M fx out cs ss (pc + 1) ls (.long (x ||| y) :: st) hs) : xk_X d mc ms M fx out cs ss pc ls (.long y :: .long x :: st) hs :=
  fun G ad0 ad p l e s m args below meth c A H locs la C hf hP hD hS hl O => lv_lor C.1 C.2.1 hd (kk G ad0 ad p l e s m args below meth c A H locs la C hf hP hD hS hl ⟨O.1, (xk_cs trivial (xk_tl (xk_tl O.2.1))), O.2.2⟩)
theorem xk_lxor {x y : Int64} (hd : decode M.2.1 pc = .ok (.lxor, 1)) (kk : xk_X d mc ms M fx out cs ss (pc + 1) ls (.long (x ^^^ y) :: st) hs) : xk_X d mc ms M fx out cs ss pc ls (.long y :: .long x :: st) hs :=
  fun G ad0 ad p l e s m args below meth c A H locs la C hf hP hD hS hl O => lv_lxor C.1 C.2.1 hd (kk G ad0 ad p l e s m args below meth c A H locs la C hf hP hD hS hl ⟨O.1, (xk_cs trivial (xk_tl (xk_tl O.2.1))), O.2.2⟩)
theorem xk_idiv {x y : Int32} (hd : decode M.2.1 pc = .ok (.idiv, 1)) (hne : ¬ y = 0) (kk : xk_X d mc ms M fx out cs ss (pc + 1) ls (.int (x / y) :: st) hs) : xk_X d mc ms M fx out cs ss pc ls (.int y :: .int x :: st) hs :=
  fun G ad0 ad p l e s m args below meth c A H locs la C hf hP hD hS hl O => lv_idiv C.1 C.2.1 hd hne (kk G ad0 ad p l e s m args below meth c A H locs la C hf hP hD hS hl ⟨O.1, (xk_cs trivial (xk_tl (xk_tl O.2.1))), O.2.2⟩)
theorem xk_irem {x y : Int32} (hd : decode M.2.1 pc = .ok (.irem, 1)) (hne : ¬ y = 0) (kk : xk_X d mc ms M fx out cs ss (pc + 1) ls (.int (x - x / y * y) :: st) hs) : xk_X d mc ms M fx out cs ss pc ls (.int y :: .int x :: st) hs :=
  fun G ad0 ad p l e s m args below meth c A H locs la C hf hP hD hS hl O => lv_irem C.1 C.2.1 hd hne (kk G ad0 ad p l e s m args below meth c A H locs la C hf hP hD hS hl ⟨O.1, (xk_cs trivial (xk_tl (xk_tl O.2.1))), O.2.2⟩)
theorem xk_ldiv {x y : Int64} (hd : decode M.2.1 pc = .ok (.ldiv, 1)) (hne : ¬ y = 0) (kk : xk_X d mc ms M fx out cs ss (pc + 1) ls (.long (x / y) :: st) hs) : xk_X d mc ms M fx out cs ss pc ls (.long y :: .long x :: st) hs :=
  fun G ad0 ad p l e s m args below meth c A H locs la C hf hP hD hS hl O => lv_ldiv C.1 C.2.1 hd hne (kk G ad0 ad p l e s m args below meth c A H locs la C hf hP hD hS hl ⟨O.1, (xk_cs trivial (xk_tl (xk_tl O.2.1))), O.2.2⟩)
theorem xk_lrem {x y : Int64} (hd : decode M.2.1 pc = .ok (.lrem, 1)) (hne : ¬ y = 0) (kk : xk_X d mc ms M fx out cs ss (pc + 1) ls (.long (x - x / y * y) :: st) hs) : xk_X d mc ms M fx out cs ss pc ls (.long y :: .long x :: st) hs :=
  fun G ad0 ad p l e s m args below meth c A H locs la C hf hP hD hS hl O => lv_lrem C.1 C.2.1 hd hne (kk G ad0 ad p l e s m args below meth c A H locs la C hf hP hD hS hl ⟨O.1, (xk_cs trivial (xk_tl (xk_tl O.2.1))), O.2.2⟩)
theorem xk_ishl {x y : Int32} (hd : decode M.2.1 pc = .ok (.ishl, 1)) (kk : xk_X d mc ms M fx out cs ss (pc + 1) ls (.int (x <<< (y &&& 31)) :: st) hs) : xk_X d mc ms M fx out cs ss pc ls (.int y :: .int x :: st) hs :=
  fun G ad0 ad p l e s m args below meth c A H locs la C hf hP hD hS hl O => lv_ishl C.1 C.2.1 hd (kk G ad0 ad p l e s m args below meth c A H locs la C hf hP hD hS hl ⟨O.1, (xk_cs trivial (xk_tl (xk_tl O.2.1))), O.2.2⟩)
theorem xk_ishr {x y : Int32} (hd : decode M.2.1 pc = .ok (.ishr, 1)) (kk : xk_X d mc ms M fx out cs ss (pc + 1) ls (.int (x >>> (y &&& 31)) :: st) hs) : xk_X d mc ms M fx out cs ss pc ls (.int y :: .int x :: st) hs :=
  fun G ad0 ad p l e s m args below meth c A H locs la C hf hP hD hS hl O => lv_ishr C.1 C.2.1 hd (kk G ad0 ad p l e s m args below meth c A H locs la C hf hP hD hS hl ⟨O.1, (xk_cs trivial (xk_tl (xk_tl O.2.1))), O.2.2⟩)
theorem xk_iushr {x y : Int32} (hd : decode M.2.1 pc = .ok (.iushr, 1)) (kk : xk_X d mc ms M fx out cs ss (pc + 1) ls (.int ((x.toUInt32 >>> (y.toUInt32 &&& Int32.toUInt32 31)).toInt32) :: st) hs) : xk_X d mc ms M fx out cs ss pc ls (.int y :: .int x :: st) hs :=
  fun G ad0 ad p l e s m args below meth c A H locs la C hf hP hD hS hl O => lv_iushr C.1 C.2.1 hd rfl (kk G ad0 ad p l e s m args below meth c A H locs la C hf hP hD hS hl ⟨O.1, (xk_cs trivial (xk_tl (xk_tl O.2.1))), O.2.2⟩)
theorem xk_lushr {x : Int64} {y : Int32} (hd : decode M.2.1 pc = .ok (.lushr, 1)) (kk : xk_X d mc ms M fx out cs ss (pc + 1) ls (.long ((x.toUInt64 >>> (y.toInt64.toUInt64 &&& Int64.toUInt64 63)).toInt64) :: st) hs) : xk_X d mc ms M fx out cs ss pc ls (.int y :: .long x :: st) hs :=
  fun G ad0 ad p l e s m args below meth c A H locs la C hf hP hD hS hl O => lv_lushr C.1 C.2.1 hd rfl (kk G ad0 ad p l e s m args below meth c A H locs la C hf hP hD hS hl ⟨O.1, (xk_cs trivial (xk_tl (xk_tl O.2.1))), O.2.2⟩)
theorem xk_lshl {x : Int64} {y : Int32} (hd : decode M.2.1 pc = .ok (.lshl, 1)) (kk : xk_X d mc ms M fx out cs ss (pc + 1) ls (.long (x <<< (y.toInt64 &&& 63)) :: st) hs) : xk_X d mc ms M fx out cs ss pc ls (.int y :: .long x :: st) hs :=
  fun G ad0 ad p l e s m args below meth c A H locs la C hf hP hD hS hl O => lv_lshl C.1 C.2.1 hd rfl (kk G ad0 ad p l e s m args below meth c A H locs la C hf hP hD hS hl ⟨O.1, (xk_cs trivial (xk_tl (xk_tl O.2.1))), O.2.2⟩)
theorem xk_i2l {x : Int32} (hd : decode M.2.1 pc = .ok (.i2l, 1)) (kk : xk_X d mc ms M fx out cs ss (pc + 1) ls (.long x.toInt64 :: st) hs) : xk_X d mc ms M fx out cs ss pc ls (.int x :: st) hs :=
  fun G ad0 ad p l e s m args below meth c A H locs la C hf hP hD hS hl O => lv_i2l C.1 C.2.1 hd rfl (kk G ad0 ad p l e s m args below meth c A H locs la C hf hP hD hS hl ⟨O.1, (xk_cs trivial (xk_tl O.2.1)), O.2.2⟩)
theorem xk_l2i {x : Int64} (hd : decode M.2.1 pc = .ok (.l2i, 1)) (kk : xk_X d mc ms M fx out cs ss (pc + 1) ls (.int x.toInt32 :: st) hs) : xk_X d mc ms M fx out cs ss pc ls (.long x :: st) hs :=
  fun G ad0 ad p l e s m args below meth c A H locs la C hf hP hD hS hl O => lv_l2i C.1 C.2.1 hd rfl (kk G ad0 ad p l e s m args below meth c A H locs la C hf hP hD hS hl ⟨O.1, (xk_cs trivial (xk_tl O.2.1)), O.2.2⟩)
theorem xk_lcmp {x y : Int64} (hd : decode M.2.1 pc = .ok (.lcmp, 1)) (kk : xk_X d mc ms M fx out cs ss (pc + 1) ls (.int (lg_cmp x y) :: st) hs) : xk_X d mc ms M fx out cs ss pc ls (.long y :: .long x :: st) hs :=
  fun G ad0 ad p l e s m args below meth c A H locs la C hf hP hD hS hl O => W.lcmp C.1 C.2.1 hd (kk G ad0 ad p l e s m args below meth c A H locs la C hf hP hD hS hl ⟨O.1, (xk_cs trivial (xk_tl (xk_tl O.2.1))), O.2.2⟩)
theorem xk_dup {v : Value} (hd : decode M.2.1 pc = .ok (.dup, 1)) (hc : v.category = 1) (kk : xk_X d mc ms M fx out cs ss (pc + 1) ls (v :: v :: st) hs) : xk_X d mc ms M fx out cs ss pc ls (v :: st) hs :=
  fun G ad0 ad p l e s m args below meth c A H locs la C hf hP hD hS hl O => lv_dup C.1 C.2.1 hd ((xk_cat ad v).trans hc) (kk G ad0 ad p l e s m args below meth c A H locs la C hf hP hD hS hl ⟨O.1, (xk_cs (xk_hd O.2.1) (xk_cs (xk_hd O.2.1) (xk_tl O.2.1))), O.2.2⟩)
theorem xk_if_eq {x : Int32} {off : Int} (tgt : Nat) (hd : decode M.2.1 pc = .ok (.ifCond .eq off, 3)) (ht : (pc : Int) + off = (tgt : Int)) (kt : (x = 0) → xk_X d mc ms M fx out cs ss tgt ls st hs) (kf : (¬ x = 0) → xk_X d mc ms M fx out cs ss (pc + 3) ls st hs) : xk_X d mc ms M fx out cs ss pc ls (.int x :: st) hs :=
  fun G ad0 ad p l e s m args below meth c A H locs la C hf hP hD hS hl O => lv_if_eq C.1 C.2.1 hd ht (fun q => kt q G ad0 ad p l e s m args below meth c A H locs la C hf hP hD hS hl ⟨O.1, xk_tl (O.2.1), O.2.2⟩) (fun q => kf q G ad0 ad p l e s m args below meth c A H locs la C hf hP hD hS hl ⟨O.1, xk_tl (O.2.1), O.2.2⟩)
theorem xk_icmp_eq {x y : Int32} {off : Int} (tgt : Nat) (hd : decode M.2.1 pc = .ok (.if_icmp .eq off, 3)) (ht : (pc : Int) + off = (tgt : Int)) (kt : (x = y) → xk_X d mc ms M fx out cs ss tgt ls st hs) (kf : (¬ x = y) → xk_X d mc ms M fx out cs ss (pc + 3) ls st hs) : xk_X d mc ms M fx out cs ss pc ls (.int y :: .int x :: st) hs :=
  fun G ad0 ad p l e s m args below meth c A H locs la C hf hP hD hS hl O => lv_icmp_eq C.1 C.2.1 hd ht (fun q => kt q G ad0 ad p l e s m args below meth c A H locs la C hf hP hD hS hl ⟨O.1, xk_tl (xk_tl (O.2.1)), O.2.2⟩) (fun q => kf q G ad0 ad p l e s m args below meth c A H locs la C hf hP hD hS hl ⟨O.1, xk_tl (xk_tl (O.2.1)), O.2.2⟩)
theorem xk_if_ne {x : Int32} {off : Int} (tgt : Nat) (hd : decode M.2.1 pc = .ok (.ifCond .ne off, 3)) (ht : (pc : Int) + off = (tgt : Int)) (kt : (¬ x = 0) → xk_X d mc ms M fx out cs ss tgt ls st hs) (kf : (x = 0) → xk_X d mc ms M fx out cs ss (pc + 3) ls st hs) : xk_X d mc ms M fx out cs ss pc ls (.int x :: st) hs :=
  fun G ad0 ad p l e s m args below meth c A H locs la C hf hP hD hS hl O => lv_if_ne C.1 C.2.1 hd ht (fun q => kt q G ad0 ad p l e s m args below meth c A H locs la C hf hP hD hS hl ⟨O.1, xk_tl (O.2.1), O.2.2⟩) (fun q => kf q G ad0 ad p l e s m args below meth c A H locs la C hf hP hD hS hl ⟨O.1, xk_tl (O.2.1), O.2.2⟩)
theorem xk_icmp_ne {x y : Int32} {off : Int} (tgt : Nat) (hd : decode M.2.1 pc = .ok (.if_icmp .ne off, 3)) (ht : (pc : Int) + off = (tgt : Int)) (kt : (¬ x = y) → xk_X d mc ms M fx out cs ss tgt ls st hs) (kf : (x = y) → xk_X d mc ms M fx out cs ss (pc + 3) ls st hs) : xk_X d mc ms M fx out cs ss pc ls (.int y :: .int x :: st) hs :=
  fun G ad0 ad p l e s m args below meth c A H locs la C hf hP hD hS hl O => lv_icmp_ne C.1 C.2.1 hd ht (fun q => kt q G ad0 ad p l e s m args below meth c A H locs la C hf hP hD hS hl ⟨O.1, xk_tl (xk_tl (O.2.1)), O.2.2⟩) (fun q => kf q G ad0 ad p l e s m args below meth c A H locs la C hf hP hD hS hl ⟨O.1, xk_tl (xk_tl (O.2.1)), O.2.2⟩)
theorem xk_if_lt {x : Int32} {off : Int} (tgt : Nat) (hd : decode M.2.1 pc = .ok (.ifCond .lt off, 3)) (ht : (pc : Int) + off = (tgt : Int)) (kt : (x < 0) → xk_X d mc ms M fx out cs ss tgt ls st hs) (kf : (¬ x < 0) → xk_X d mc ms M fx out cs ss (pc + 3) ls st hs) : xk_X d mc ms M fx out cs ss pc ls (.int x :: st) hs :=
  fun G ad0 ad p l e s m args below meth c A H locs la C hf hP hD hS hl O => lv_if_lt C.1 C.2.1 hd ht (fun q => kt q G ad0 ad p l e s m args below meth c A H locs la C hf hP hD hS hl ⟨O.1, xk_tl (O.2.1), O.2.2⟩) (fun q => kf q G ad0 ad p l e s m args below meth c A H locs la C hf hP hD hS hl ⟨O.1, xk_tl (O.2.1), O.2.2⟩)
theorem xk_icmp_lt {x y : Int32} {off : Int} (tgt : Nat) (hd : decode M.2.1 pc = .ok (.if_icmp .lt off, 3)) (ht : (pc : Int) + off = (tgt : Int)) (kt : (x < y) → xk_X d mc ms M fx out cs ss tgt ls st hs) (kf : (¬ x < y) → xk_X d mc ms M fx out cs ss (pc + 3) ls st hs) : xk_X d mc ms M fx out cs ss pc ls (.int y :: .int x :: st) hs :=
  fun G ad0 ad p l e s m args below meth c A H locs la C hf hP hD hS hl O => lv_icmp_lt C.1 C.2.1 hd ht (fun q => kt q G ad0 ad p l e s m args below meth c A H locs la C hf hP hD hS hl ⟨O.1, xk_tl (xk_tl (O.2.1)), O.2.2⟩) (fun q => kf q G ad0 ad p l e s m args below meth c A H locs la C hf hP hD hS hl ⟨O.1, xk_tl (xk_tl (O.2.1)), O.2.2⟩)
theorem xk_if_ge {x : Int32} {off : Int} (tgt : Nat) (hd : decode M.2.1 pc = .ok (.ifCond .ge off, 3)) (ht : (pc : Int) + off = (tgt : Int)) (kt : (0 ≤ x) → xk_X d mc ms M fx out cs ss tgt ls st hs) (kf : (¬ 0 ≤ x) → xk_X d mc ms M fx out cs ss (pc + 3) ls st hs) : xk_X d mc ms M fx out cs ss pc ls (.int x :: st) hs :=
  fun G ad0 ad p l e s m args below meth c A H locs la C hf hP hD hS hl O => lv_if_ge C.1 C.2.1 hd ht (fun q => kt q G ad0 ad p l e s m args below meth c A H locs la C hf hP hD hS hl ⟨O.1, xk_tl (O.2.1), O.2.2⟩) (fun q => kf q G ad0 ad p l e s m args below meth c A H locs la C hf hP hD hS hl ⟨O.1, xk_tl (O.2.1), O.2.2⟩)
theorem xk_icmp_ge {x y : Int32} {off : Int} (tgt : Nat) (hd : decode M.2.1 pc = .ok (.if_icmp .ge off, 3)) (ht : (pc : Int) + off = (tgt : Int)) (kt : (y ≤ x) → xk_X d mc ms M fx out cs ss tgt ls st hs) (kf : (¬ y ≤ x) → xk_X d mc ms M fx out cs ss (pc + 3) ls st hs) : xk_X d mc ms M fx out cs ss pc ls (.int y :: .int x :: st) hs :=
  fun G ad0 ad p l e s m args below meth c A H locs la C hf hP hD hS hl O => lv_icmp_ge C.1 C.2.1 hd ht (fun q => kt q G ad0 ad p l e s m args below meth c A H locs la C hf hP hD hS hl ⟨O.1, xk_tl (xk_tl (O.2.1)), O.2.2⟩) (fun q => kf q G ad0 ad p l e s m args below meth c A H locs la C hf hP hD hS hl ⟨O.1, xk_tl (xk_tl (O.2.1)), O.2.2⟩)
theorem xk_if_gt {x : Int32} {off : Int} (tgt : Nat) (hd : decode M.2.1 pc = .ok (.ifCond .gt off, 3)) (ht : (pc : Int) + off = (tgt : Int)) (kt : (0 < x) → xk_X d mc ms M fx out cs ss tgt ls st hs) (kf : (¬ 0 < x) → xk_X d mc ms M fx out cs ss (pc + 3) ls st hs) : xk_X d mc ms M fx out cs ss pc ls (.int x :: st) hs :=
  fun G ad0 ad p l e s m args below meth c A H locs la C hf hP hD hS hl O => lv_if_gt C.1 C.2.1 hd ht (fun q => kt q G ad0 ad p l e s m args below meth c A H locs la C hf hP hD hS hl ⟨O.1, xk_tl (O.2.1), O.2.2⟩) (fun q => kf q G ad0 ad p l e s m args below meth c A H locs la C hf hP hD hS hl ⟨O.1, xk_tl (O.2.1), O.2.2⟩)
theorem xk_icmp_gt {x y : Int32} {off : Int} (tgt : Nat) (hd : decode M.2.1 pc = .ok (.if_icmp .gt off, 3)) (ht : (pc : Int) + off = (tgt : Int)) (kt : (y < x) → xk_X d mc ms M fx out cs ss tgt ls st hs) (kf : (¬ y < x) → xk_X d mc ms M fx out cs ss (pc + 3) ls st hs) : xk_X d mc ms M fx out cs ss pc ls (.int y :: .int x :: st) hs :=
  fun G ad0 ad p l e s m args below meth c A H locs la C hf hP hD hS hl O => lv_icmp_gt C.1 C.2.1 hd ht (fun q => kt q G ad0 ad p l e s m args below meth c A H locs la C hf hP hD hS hl ⟨O.1, xk_tl (xk_tl (O.2.1)), O.2.2⟩) (fun q => kf q G ad0 ad p l e s m args below meth c A H locs la C hf hP hD hS hl ⟨O.1, xk_tl (xk_tl (O.2.1)), O.2.2⟩)
theorem xk_if_le {x : Int32} {off : Int} (tgt : Nat) (hd : decode M.2.1 pc = .ok (.ifCond .le off, 3)) (ht : (pc : Int) + off = (tgt : Int)) (kt : (x ≤ 0) → xk_X d mc ms M fx out cs ss tgt ls st hs) (kf : (¬ x ≤ 0) → xk_X d mc ms M fx out cs ss (pc + 3) ls st hs) : xk_X d mc ms M fx out cs ss pc ls (.int x :: st) hs :=
  fun G ad0 ad p l e s m args below meth c A H locs la C hf hP hD hS hl O => lv_if_le C.1 C.2.1 hd ht (fun q => kt q G ad0 ad p l e s m args below meth c A H locs la C hf hP hD hS hl ⟨O.1, xk_tl (O.2.1), O.2.2⟩) (fun q => kf q G ad0 ad p l e s m args below meth c A H locs la C hf hP hD hS hl ⟨O.1, xk_tl (O.2.1), O.2.2⟩)
theorem xk_icmp_le {x y : Int32} {off : Int} (tgt : Nat) (hd : decode M.2.1 pc = .ok (.if_icmp .le off, 3)) (ht : (pc : Int) + off = (tgt : Int)) (kt : (x ≤ y) → xk_X d mc ms M fx out cs ss tgt ls st hs) (kf : (¬ x ≤ y) → xk_X d mc ms M fx out cs ss (pc + 3) ls st hs) : xk_X d mc ms M fx out cs ss pc ls (.int y :: .int x :: st) hs :=
  fun G ad0 ad p l e s m args below meth c A H locs la C hf hP hD hS hl O => lv_icmp_le C.1 C.2.1 hd ht (fun q => kt q G ad0 ad p l e s m args below meth c A H locs la C hf hP hD hS hl ⟨O.1, xk_tl (xk_tl (O.2.1)), O.2.2⟩) (fun q => kf q G ad0 ad p l e s m args below meth c A H locs la C hf hP hD hS hl ⟨O.1, xk_tl (xk_tl (O.2.1)), O.2.2⟩)
theorem xk_b_eq0 {b : Bool} : xk_b b = 0 ↔ b = false := by cases b <;> decide
theorem xk_b_nar (b : Bool) : narrow .boolean (.int (xk_b b)) = .int (xk_b b) := by cases b <;> rfl
theorem xk_ifb_eq {b : Bool} {off : Int} (tgt : Nat) (hd : decode M.2.1 pc = .ok (.ifCond .eq off, 3)) (ht : (pc : Int) + off = (tgt : Int)) (kt : b = false → xk_X d mc ms M fx out cs ss tgt ls st hs) (kf : b = true → xk_X d mc ms M fx out cs ss (pc + 3) ls st hs) : xk_X d mc ms M fx out cs ss pc ls (.int (xk_b b) :: st) hs :=
  xk_if_eq tgt hd ht (fun q => kt (by cases b <;> first | rfl | exact absurd q (by decide))) (fun q => kf (by cases b <;> first | rfl | exact absurd q (by decide)))
theorem xk_ifb_ne {b : Bool} {off : Int} (tgt : Nat) (hd : decode M.2.1 pc = .ok (.ifCond .ne off, 3)) (ht : (pc : Int) + off = (tgt : Int)) (kt : b = true → xk_X d mc ms M fx out cs ss tgt ls st hs) (kf : b = false → xk_X d mc ms M fx out cs ss (pc + 3) ls st hs) : xk_X d mc ms M fx out cs ss pc ls (.int (xk_b b) :: st) hs :=
  xk_if_ne tgt hd ht (fun q => kt (by cases b <;> first | rfl | exact absurd q (by decide))) (fun q => kf (by cases b <;> first | rfl | exact absurd q (by decide)))
theorem xk_goto {off : Int} (tgt : Nat) (hd : decode M.2.1 pc = .ok (.goto off, 3)) (ht : (pc : Int) + off = (tgt : Int)) (kk : xk_X d mc ms M fx out cs ss tgt ls st hs) : xk_X d mc ms M fx out cs ss pc ls st hs :=
  fun G ad0 ad p l e s m args below meth c A H locs la C hf hP hD hS hl O => lv_goto C.1 C.2.1 hd ht (kk G ad0 ad p l e s m args below meth c A H locs la C hf hP hD hS hl O)
theorem xk_tabOut {dflt lo hi : Int} {offs : Array Int} {len : Nat} {x : Int32} (tgt : Nat) (hd : decode M.2.1 pc = .ok (.tableswitch dflt lo hi offs, len)) (h : x.toInt < lo ∨ hi < x.toInt) (ht : (pc : Int) + dflt = (tgt : Int)) (kk : xk_X d mc ms M fx out cs ss tgt ls st hs) : xk_X d mc ms M fx out cs ss pc ls (.int x :: st) hs :=
  fun G ad0 ad p l e s m args below meth c A H locs la C hf hP hD hS hl O => lv_tableOut C.1 C.2.1 hd h ht (kk G ad0 ad p l e s m args below meth c A H locs la C hf hP hD hS hl ⟨O.1, xk_tl O.2.1, O.2.2⟩)
theorem xk_tabIn {dflt lo hi : Int} {offs : Array Int} {len : Nat} {x : Int32} {off : Int} (tgt : Nat) (hd : decode M.2.1 pc = .ok (.tableswitch dflt lo hi offs, len)) (h1 : ¬ x.toInt < lo) (h2 : ¬ hi < x.toInt) (ho : offs[(x.toInt - lo).toNat]? = some off) (ht : (pc : Int) + off = (tgt : Int)) (kk : xk_X d mc ms M fx out cs ss tgt ls st hs) : xk_X d mc ms M fx out cs ss pc ls (.int x :: st) hs :=
  fun G ad0 ad p l e s m args below meth c A H locs la C hf hP hD hS hl O => lv_tableIn C.1 C.2.1 hd h1 h2 ho ht (kk G ad0 ad p l e s m args below meth c A H locs la C hf hP hD hS hl ⟨O.1, xk_tl O.2.1, O.2.2⟩)
theorem xk_get {index : Nat} {a ci : Nat} {fs : List Value} {r : vw_C} {v : Value} (k : Nat) (hd : decode M.2.1 pc = .ok (.getfield index, 3)) (hc : vwCl[ci]? = some r) (hin : ∀ w ∈ u_ws r.1 r.2.1 r.2.2, w ∈ xk_WS) (hk : k < r.2.2) (hw : Cond.fieldLink M.1.cls index (r.2.1 k).1 (r.2.1 k).2.1 (r.2.1 k).2.2.1 ∈ xk_WS) (he : hs[a]? = some (.inr (ci, fs))) (hv : fs[k]? = some v) (kk : xk_X d mc ms M fx out cs ss (pc + 3) ls (v :: st) hs) : xk_X d mc ms M fx out cs ss pc ls (.ref a :: st) hs :=
  fun G ad0 ad p l e s m args below meth c A H locs la C hf hP hD hS hl O => va_get C.1 C.2.1 C.2.2.2.2.1 hin C.2.2.2.2.2.1 C.2.2.2.2.2.2.2.2.2.1 hP a (xk_w_get he) hc k hk (C.2.2.2.2.1 _ hw) (fun _ h9 => h9) (v := xk_v ad v) (by rw [List.getElem?_map, hv]; rfl) hd (kk G ad0 ad p l e s m args below meth c A H locs la C hf hP hD hS hl ⟨O.1, xk_cs (xk_okF O.2.2 he _ (List.mem_of_getElem? hv)) (xk_tl O.2.1), O.2.2⟩)
theorem xk_getN {index : Nat} {a ci : Nat} {fs : List Value} {r : vw_C} {v : Value} {host : String} (k : Nat) (hd : decode M.2.1 pc = .ok (.getfield index, 3)) (hc : vwCl[ci]? = some r) (hin : ∀ w ∈ u_ws r.1 r.2.1 r.2.2, w ∈ xk_WS) (hk : k < r.2.2) (hw : Cond.fieldLinkNest M.1.cls index (r.2.1 k).1 (r.2.1 k).2.1 (r.2.1 k).2.2.1 host ∈ xk_nest) (he : hs[a]? = some (.inr (ci, fs))) (hv : fs[k]? = some v) (kk : xk_X d mc ms M fx out cs ss (pc + 3) ls (v :: st) hs) : xk_X d mc ms M fx out cs ss pc ls (.ref a :: st) hs :=
  fun G ad0 ad p l e s m args below meth c A H locs la C hf hP hD hS hl O => va_getN C.1 C.2.1 C.2.2.2.2.1 hin C.2.2.2.2.2.1 C.2.2.2.2.2.2.2.2.2.1 hP a (xk_w_get he) hc k hk (va_Nw.use rfl (C.2.2.2.2.2.2.2.2.2.2.1 _ hw)) (fun _ h9 => h9) (v := xk_v ad v) (by rw [List.getElem?_map, hv]; rfl) hd (kk G ad0 ad p l e s m args below meth c A H locs la C hf hP hD hS hl ⟨O.1, xk_cs (xk_okF O.2.2 he _ (List.mem_of_getElem? hv)) (xk_tl O.2.1), O.2.2⟩)
theorem xk_put {index : Nat} {a ci : Nat} {fs : List Value} {r : vw_C} {v : Value} (k : Nat) (ty0 : Nat → FieldType) (hd : decode M.2.1 pc = .ok (.putfield index, 3)) (hc : vwCl[ci]? = some r) (hin : ∀ w ∈ u_ws r.1 r.2.1 r.2.2, w ∈ xk_WS) (hty : ∀ k, k < r.2.2 → parseFieldDescriptor (r.2.1 k).2.2.1 = some (ty0 k)) (hnm : ∀ a, a < r.2.2 → ∀ b, b < r.2.2 → a ≠ b → (r.2.1 a).2.1 ≠ (r.2.1 b).2.1) (hk : k < r.2.2) (hw : Cond.fieldLink M.1.cls index (r.2.1 k).1 (r.2.1 k).2.1 (r.2.1 k).2.2.1 ∈ xk_WS) (hfin : (r.2.1 k).2.2.2 = false) (hn : ∀ ad, narrow (ty0 k) (xk_v ad v) = xk_v ad v) (hfit : ∀ ad, fits (ty0 k) (xk_v ad v) = true) (he : hs[a]? = some (.inr (ci, fs))) (hl9 : k < fs.length) (kk : xk_X d mc ms M fx out cs ss (pc + 3) ls st (hs.set a (.inr (ci, fs.set k v)))) : xk_X d mc ms M fx out cs ss pc ls (v :: .ref a :: st) hs :=
  fun G ad0 ad p l e s m args below meth c A H locs la C hf hP hD hS hl O => va_put C.1 C.2.1 C.2.2.2.2.1 hin ty0 hty hnm C.2.2.2.2.2.1 C.2.2.2.2.2.2.2.2.2.1 hP hD hS a (xk_w_get he) hc k hk (C.2.2.2.2.1 _ hw) (fun _ h9 => h9) hfin (hty k hk) (hn ad) (hfit ad) (by rw [List.length_map]; exact hl9) hd (fun H locs hP hD hS => kk G ad0 ad p l e s m args below meth c A H locs la C hf (by
    rw [← xk_w_set]
    simpa [xk_e, List.map_set] using hP) (by
    rw [← xk_w_set]
    simpa [xk_e, List.map_set] using hD) hS hl (O.set (xk_tl (xk_tl O.2.1)) (fun w hw => (List.mem_or_eq_of_mem_set hw).elim (xk_okF O.2.2 he w) (fun q => q ▸ xk_hd O.2.1))))
theorem xk_putF {index : Nat} {a ci : Nat} {fs : List Value} {r : vw_C} {v : Value} (k : Nat) (ty0 : Nat → FieldType) (hd : decode M.2.1 pc = .ok (.putfield index, 3)) (hc : vwCl[ci]? = some r) (hin : ∀ w ∈ u_ws r.1 r.2.1 r.2.2, w ∈ xk_WS) (hty : ∀ k, k < r.2.2 → parseFieldDescriptor (r.2.1 k).2.2.1 = some (ty0 k)) (hnm : ∀ a, a < r.2.2 → ∀ b, b < r.2.2 → a ≠ b → (r.2.1 a).2.1 ≠ (r.2.1 b).2.1) (hk : k < r.2.2) (hw : Cond.fieldLink M.1.cls index (r.2.1 k).1 (r.2.1 k).2.1 (r.2.1 k).2.2.1 ∈ xk_WS) (hfin : (r.2.1 k).2.2.2 = true) (hin2 : M.1.name = "<init>") (hdecl : (r.2.1 k).1 = M.1.cls) (hn : ∀ ad, narrow (ty0 k) (xk_v ad v) = xk_v ad v) (hfit : ∀ ad, fits (ty0 k) (xk_v ad v) = true) (he : hs[a]? = some (.inr (ci, fs))) (hl9 : k < fs.length) (kk : xk_X d mc ms M fx out cs ss (pc + 3) ls st (hs.set a (.inr (ci, fs.set k v)))) : xk_X d mc ms M fx out cs ss pc ls (v :: .ref a :: st) hs :=
  fun G ad0 ad p l e s m args below meth c A H locs la C hf hP hD hS hl O => va_putF C.1 C.2.1 C.2.2.2.2.1 hin ty0 hty hnm C.2.2.2.2.2.1 C.2.2.2.2.2.2.2.2.2.1 hP hD hS a (xk_w_get he) hc k hk (C.2.2.2.2.1 _ hw) (fun _ h9 => h9) hfin (C.2.2.2.2.2.2.2.1.trans hin2) hdecl (hty k hk) (hn ad) (hfit ad) (by rw [List.length_map]; exact hl9) hd (fun H locs hP hD hS => kk G ad0 ad p l e s m args below meth c A H locs la C hf (by
    rw [← xk_w_set]
    simpa [xk_e, List.map_set] using hP) (by
    rw [← xk_w_set]
    simpa [xk_e, List.map_set] using hD) hS hl (O.set (xk_tl (xk_tl O.2.1)) (fun w hw => (List.mem_or_eq_of_mem_set hw).elim (xk_okF O.2.2 he w) (fun q => q ▸ xk_hd O.2.1))))
theorem xk_iald {a n : Nat} {f : Nat → Int32} {i : Int32} (hd : decode M.2.1 pc = .ok (.iaload, 1)) (he : hs[a]? = some (.inl (0, n, .inl f))) (hin : vp_in i n) (kk : xk_X d mc ms M fx out cs ss (pc + 1) ls (.int (f i.toNatClampNeg) :: st) hs) : xk_X d mc ms M fx out cs ss pc ls (.int i :: .ref a :: st) hs :=
  fun G ad0 ad p l e s m args below meth c A H locs la C hf hP hD hS hl O => va_iald C.1 C.2.1 C.2.2.2.2.2.2.2.2.2.1 hP a 0 (xk_w_get he) rfl hin hd (kk G ad0 ad p l e s m args below meth c A H locs la C hf hP hD hS hl ⟨O.1, xk_cs trivial (xk_tl (xk_tl O.2.1)), O.2.2⟩)
theorem xk_zald {a n : Nat} {f : Nat → Int32} {i : Int32} (hd : decode M.2.1 pc = .ok (.baload, 1)) (he : hs[a]? = some (.inl (2, n, .inl f))) (hin : vp_in i n) (kk : xk_X d mc ms M fx out cs ss (pc + 1) ls (.int (f i.toNatClampNeg) :: st) hs) : xk_X d mc ms M fx out cs ss pc ls (.int i :: .ref a :: st) hs :=
  fun G ad0 ad p l e s m args below meth c A H locs la C hf hP hD hS hl O => va_zald C.1 C.2.1 C.2.2.2.2.2.2.2.2.2.1 hP a 2 (xk_w_get he) rfl hin hd (kk G ad0 ad p l e s m args below meth c A H locs la C hf hP hD hS hl ⟨O.1, xk_cs trivial (xk_tl (xk_tl O.2.1)), O.2.2⟩)
theorem xk_lald {a n : Nat} {f : Nat → Int64} {i : Int32} (hd : decode M.2.1 pc = .ok (.laload, 1)) (he : hs[a]? = some (.inl (1, n, .inr (.inl f)))) (hin : vp_in i n) (kk : xk_X d mc ms M fx out cs ss (pc + 1) ls (.long (f i.toNatClampNeg) :: st) hs) : xk_X d mc ms M fx out cs ss pc ls (.int i :: .ref a :: st) hs :=
  fun G ad0 ad p l e s m args below meth c A H locs la C hf hP hD hS hl O => va_lald C.1 C.2.1 C.2.2.2.2.2.2.2.2.2.1 hP a 1 (xk_w_get he) rfl hin hd (kk G ad0 ad p l e s m args below meth c A H locs la C hf hP hD hS hl ⟨O.1, xk_cs trivial (xk_tl (xk_tl O.2.1)), O.2.2⟩)
theorem xk_iast {a n : Nat} {f : Nat → Int32} {i : Int32} {x : Int32} (hd : decode M.2.1 pc = .ok (.iastore, 1)) (he : hs[a]? = some (.inl (0, n, .inl f))) (hin : vp_in i n) (kk : xk_X d mc ms M fx out cs ss (pc + 1) ls st (hs.set a (.inl (0, n, .inl (upd f i.toNatClampNeg x))))) : xk_X d mc ms M fx out cs ss pc ls (.int x :: .int i :: .ref a :: st) hs :=
  fun G ad0 ad p l e s m args below meth c A H locs la C hf hP hD hS hl O => va_iast C.1 C.2.1 C.2.2.2.2.2.2.2.2.2.1 hP hD hS a 0 (xk_w_get he) rfl hin hd (fun H locs hP hD hS => kk G ad0 ad p l e s m args below meth c A H locs la C hf (by
    rw [← xk_w_set]
    exact hP) (by
    rw [← xk_w_set]
    exact hD) hS hl (O.set (xk_tl (xk_tl (xk_tl O.2.1))) trivial))
theorem xk_zast {a n : Nat} {f : Nat → Int32} {i : Int32} {x : Int32} (hd : decode M.2.1 pc = .ok (.bastore, 1)) (he : hs[a]? = some (.inl (2, n, .inl f))) (hin : vp_in i n) (kk : xk_X d mc ms M fx out cs ss (pc + 1) ls st (hs.set a (.inl (2, n, .inl (upd f i.toNatClampNeg (vp_nar .boolean x)))))) : xk_X d mc ms M fx out cs ss pc ls (.int x :: .int i :: .ref a :: st) hs :=
  fun G ad0 ad p l e s m args below meth c A H locs la C hf hP hD hS hl O => va_zast C.1 C.2.1 C.2.2.2.2.2.2.2.2.2.1 hP hD hS a 2 (xk_w_get he) rfl hin hd (fun H locs hP hD hS => kk G ad0 ad p l e s m args below meth c A H locs la C hf (by
    rw [← xk_w_set]
    exact hP) (by
    rw [← xk_w_set]
    exact hD) hS hl (O.set (xk_tl (xk_tl (xk_tl O.2.1))) trivial))
theorem xk_last {a n : Nat} {f : Nat → Int64} {i : Int32} {x : Int64} (hd : decode M.2.1 pc = .ok (.lastore, 1)) (he : hs[a]? = some (.inl (1, n, .inr (.inl f)))) (hin : vp_in i n) (kk : xk_X d mc ms M fx out cs ss (pc + 1) ls st (hs.set a (.inl (1, n, .inr (.inl (vp_updL f i.toNatClampNeg x)))))) : xk_X d mc ms M fx out cs ss pc ls (.long x :: .int i :: .ref a :: st) hs :=
  fun G ad0 ad p l e s m args below meth c A H locs la C hf hP hD hS hl O => va_last C.1 C.2.1 C.2.2.2.2.2.2.2.2.2.1 hP hD hS a 1 (xk_w_get he) rfl hin hd (fun H locs hP hD hS => kk G ad0 ad p l e s m args below meth c A H locs la C hf (by
    rw [← xk_w_set]
    exact hP) (by
    rw [← xk_w_set]
    exact hD) hS hl (O.set (xk_tl (xk_tl (xk_tl O.2.1))) trivial))
theorem xk_aaldI {a n b : Nat} {f : Nat → Option Nat} {i : Int32} (hd : decode M.2.1 pc = .ok (.aaload, 1)) (he : hs[a]? = some (.inl (3, n, .inr (.inr (.inr (.inr f)))))) (hin : vp_in i n) (hb : f i.toNatClampNeg = some b) (kk : xk_X d mc ms M fx out cs ss (pc + 1) ls (.ref b :: st) hs) : xk_X d mc ms M fx out cs ss pc ls (.int i :: .ref a :: st) hs :=
  fun G ad0 ad p l e s m args below meth c A H locs la C hf hP hD hS hl O => by
    have hlt : i.toNatClampNeg < n := Nat.not_le.mp fun q => hin (Or.inr q)
    have ha := xk_w_get (K := G.2.1) (ad := ad) he
    refine W.aald (v := .ref (ad b)) (ty := .array .int) C.1 C.2.1 (hP a _ ha) ((C.2.2.2.2.2.2.2.2.2.1.2 3 _ rfl).1 n (fun j => va_rf ((f j).map ad))) rfl (fun q => by cases q) (by show ¬ (i < 0 ∨ (arrV _ _ _).slots.size ≤ _); rw [arrV_size]; exact hin) (by show (arrV _ n _).slots[_]? = _; rw [arrV_read _ _ hlt]; show some (va_rf ((f i.toNatClampNeg).map ad)) = _; rw [hb]; rfl) rfl rfl hd ?_
    exact kk G ad0 ad p l e s m args below meth c A H locs la C hf hP hD hS hl ⟨O.1, xk_cs (xk_okR O.2.2 he hb) (xk_tl (xk_tl O.2.1)), O.2.2⟩
theorem xk_aaldJ {a n b : Nat} {f : Nat → Option Nat} {i : Int32} (hd : decode M.2.1 pc = .ok (.aaload, 1)) (he : hs[a]? = some (.inl (4, n, .inr (.inr (.inr (.inr f)))))) (hin : vp_in i n) (hb : f i.toNatClampNeg = some b) (kk : xk_X d mc ms M fx out cs ss (pc + 1) ls (.ref b :: st) hs) : xk_X d mc ms M fx out cs ss pc ls (.int i :: .ref a :: st) hs :=
  fun G ad0 ad p l e s m args below meth c A H locs la C hf hP hD hS hl O => by
    have hlt : i.toNatClampNeg < n := Nat.not_le.mp fun q => hin (Or.inr q)
    have ha := xk_w_get (K := G.2.1) (ad := ad) he
    refine W.aald (v := .ref (ad b)) (ty := .array .long) C.1 C.2.1 (hP a _ ha) ((C.2.2.2.2.2.2.2.2.2.1.2 4 _ rfl).1 n (fun j => va_rf ((f j).map ad))) rfl (fun q => by cases q) (by show ¬ (i < 0 ∨ (arrV _ _ _).slots.size ≤ _); rw [arrV_size]; exact hin) (by show (arrV _ n _).slots[_]? = _; rw [arrV_read _ _ hlt]; show some (va_rf ((f i.toNatClampNeg).map ad)) = _; rw [hb]; rfl) rfl rfl hd ?_
    exact kk G ad0 ad p l e s m args below meth c A H locs la C hf hP hD hS hl ⟨O.1, xk_cs (xk_okR O.2.2 he hb) (xk_tl (xk_tl O.2.1)), O.2.2⟩
theorem xk_alen {a t0 : Nat} {x : vp_A} {v : Int32} (hd : decode M.2.1 pc = .ok (.arraylength, 1)) (he : hs[a]? = some (.inl (t0, x))) (ht : t0 < 5) (hv : Int32.ofNat x.1 = v) (kk : xk_X d mc ms M fx out cs ss (pc + 1) ls (.int v :: st) hs) : xk_X d mc ms M fx out cs ss pc ls (.ref a :: st) hs :=
  fun G ad0 ad p l e s m args below meth c A H locs la C hf hP hD hS hl O => by
    have h5 : ∃ ty, (xk_t G.2.1)[t0]? = some (G.2.1 t0, ty) := by
      match t0, ht with
      | 0, _ => exact ⟨_, rfl⟩
      | 1, _ => exact ⟨_, rfl⟩
      | 2, _ => exact ⟨_, rfl⟩
      | 3, _ => exact ⟨_, rfl⟩
      | 4, _ => exact ⟨_, rfl⟩
    obtain ⟨ty, h5⟩ := h5
    have h1 : (xk_a ad x).1 = x.1 := by obtain ⟨n, f | f | f | f | f⟩ := x <;> rfl
    exact va_alen C.1 C.2.1 C.2.2.2.2.2.2.2.2.2.1 hP a t0 (xk_w_get he) h5 (by rw [h1]; exact hv) hd (kk G ad0 ad p l e s m args below meth c A H locs la C hf hP hD hS hl ⟨O.1, xk_cs trivial (xk_tl O.2.1), O.2.2⟩)
theorem xk_iret {v : Int32} (hr : M.2.2.2 = some .int) (hd : decode M.2.1 pc = .ok (.ireturn, 1)) (hc : cs ≤ mc) (hs9 : ss ≤ ms) (ho : out (some (.int v)) hs) : xk_X d mc ms M fx out cs ss pc ls [.int v] hs :=
  fun G ad0 ad p l e s m args below meth c A H locs la C hf hP hD hS hl O => W.widen hc hs9 (W.iret C.1 C.2.1 (C.2.2.2.1.trans hr) (fun t ht hW => ⟨⟨(some (.int v)), hs, ad, rfl, ho, ⟨fun _ h => absurd h List.not_mem_nil, O.2.1, O.2.2⟩, hf, by rw [ht]; exact hP, hD⟩, hS.F ht⟩) hS.2.2 hd C.2.2.2.2.2.2.1)
theorem xk_zret {v : Int32} (hr : M.2.2.2 = some .boolean) (hn : narrow .boolean (.int v) = .int v) (hd : decode M.2.1 pc = .ok (.ireturn, 1)) (hc : cs ≤ mc) (hs9 : ss ≤ ms) (ho : out (some (.int v)) hs) : xk_X d mc ms M fx out cs ss pc ls [.int v] hs :=
  fun G ad0 ad p l e s m args below meth c A H locs la C hf hP hD hS hl O => W.widen hc hs9 (W.zret C.1 C.2.1 (C.2.2.2.1.trans hr) hn (fun t ht hW => ⟨⟨(some (.int v)), hs, ad, rfl, ho, ⟨fun _ h => absurd h List.not_mem_nil, O.2.1, O.2.2⟩, hf, by rw [ht]; exact hP, hD⟩, hS.F ht⟩) hS.2.2 hd C.2.2.2.2.2.2.1)
theorem xk_lret {v : Int64} (hr : M.2.2.2 = some .long) (hd : decode M.2.1 pc = .ok (.lreturn, 1)) (hc : cs ≤ mc) (hs9 : ss ≤ ms) (ho : out (some (.long v)) hs) : xk_X d mc ms M fx out cs ss pc ls [.long v] hs :=
  fun G ad0 ad p l e s m args below meth c A H locs la C hf hP hD hS hl O => W.widen hc hs9 (W.lret C.1 C.2.1 (C.2.2.2.1.trans hr) (fun t ht hW => ⟨⟨(some (.long v)), hs, ad, rfl, ho, ⟨fun _ h => absurd h List.not_mem_nil, O.2.1, O.2.2⟩, hf, by rw [ht]; exact hP, hD⟩, hS.F ht⟩) hS.2.2 hd C.2.2.2.2.2.2.1)
theorem xk_vret (hr : M.2.2.2 = none) (hd : decode M.2.1 pc = .ok (.return_, 1)) (hc : cs ≤ mc) (hs9 : ss ≤ ms) (ho : out none hs) : xk_X d mc ms M fx out cs ss pc ls [] hs :=
  fun G ad0 ad p l e s m args below meth c A H locs la C hf hP hD hS hl O => W.widen hc hs9 (W.vret C.1 C.2.1 (C.2.2.2.1.trans hr) (fun t ht hW => ⟨⟨none, hs, ad, rfl, ho, ⟨fun _ h => absurd h List.not_mem_nil, O.2.1, O.2.2⟩, hf, by rw [ht]; exact hP, hD⟩, hS.F ht⟩) hS.2.2 hd C.2.2.2.2.2.2.1)
end XKR
end
section
/-! CALLS over the abstract heap. Own text. -/
theorem xk_nest_on : ∀ w ∈ xk_nest, w.onTables = true := by
  intro w hw
  simp only [xk_nest, List.mem_cons, List.not_mem_nil, or_false] at hw
  rcases hw with rfl | rfl | rfl | rfl | rfl | rfl | rfl | rfl | rfl | rfl <;> rfl
theorem xk_nest_warm {s U : State} (hW : s.WarmedH U.vm) : ∀ w ∈ xk_nest, va_Nw w s → va_Nw w U := by
  intro w hw h
  simp only [xk_nest, List.mem_cons, List.not_mem_nil, or_false] at hw
  rcases hw with rfl | rfl | rfl | rfl | rfl | rfl | rfl | rfl | rfl | rfl
  · exact va_Nw.warmF hW h
  · exact va_Nw.warmF hW h
  · exact va_Nw.warmF hW h
  · exact va_Nw.warmF hW h
  · exact va_Nw.warmF hW h
  · exact va_Nw.warmF hW h
  · exact va_Nw.warmF hW h
  · exact va_Nw.warmF hW h
  · exact va_Nw.warmM hW h
  · exact va_Nw.warmM hW h
theorem xk_K.same {G : xk_G} {A : Nat → Prop} {u U : State} {H : Heap} (hv : u.vm = U.vm) (h : xk_K G A u H) : xk_K G A U H :=
  have ha : u.vm.Alike U.vm := by rw [hv]; exact Vm.Alike.refl _
  ⟨va_K.moved ha h.1, fun w hw => va_Nw.same (xk_nest_on w hw) hv (h.2.1 w hw), va_Z.moved ha h.2.2.1, va_T.moved ha h.2.2.2⟩
theorem xk_K.warm {G : xk_G} {A : Nat → Prop} {u U : State} {H : Heap} (hW : u.WarmedH U.vm) (h : xk_K G A u H) : xk_K G A U H :=
  ⟨va_K.moved hW.alike h.1, fun w hw => xk_nest_warm hW w hw (h.2.1 w hw), va_Z.moved hW.alike h.2.2.1, va_T.moved hW.alike h.2.2.2⟩
theorem xk_K.kept {G : xk_G} {A : Nat → Prop} {U : State} {H H1 : Heap} (h : xk_K G A U H) (hq : ∀ a : Nat, a < H.size → ¬ A a → H1[a]? = H[a]?) : xk_K G A U H1 :=
  ⟨h.1, h.2.1, va_Z.kept h.2.2.1 hq, va_T.kept h.2.2.2 hq⟩
theorem xk_K.narrow {G : xk_G} {A B : Nat → Prop} {U : State} {H : Heap} (h : xk_K G A U H) (hAB : ∀ q, B q → A q) : xk_K G B U H :=
  ⟨h.1, h.2.1, va_Z.narrow h.2.2.1 hAB, va_T.narrow h.2.2.2 hAB⟩
/-- what a callee's words and room must be -/
def xk_CV (M' : xk_M) (n : Nat) : Prop := Cond.code M'.1 M'.2.1 M'.2.2.1 M'.2.2.2 ∈ xk_WS ∧ Cond.initialized M'.1.cls ∈ xk_WS ∧ (M'.1.cls ≠ "java/lang/invoke/MethodHandle" ∧ M'.1.cls ≠ "java/lang/invoke/VarHandle") ∧ (parseMethodDescriptor M'.1.desc).map (fun d => d.parameters.length) = some n ∧ M'.2.2.1 ≤ 20
section XKC
variable {p : Program} {l : Launch} {e : Env} {R : Room} {s : State} {m : MethodId} {args : Array Value} {below : List Frame} {meth : Method} {c : Code} {H : Heap} {locs : List Loc} {cells slots : Nat} {Q : State → Prop}
theorem xk_go {pc : Nat} {la : Array Slot} {rest st0 : List Value} {a : Array Value} {A0 A1 : Nat → Prop} {H0 : Heap} {mc' ms' : Nat} {free : Addr → Prop} {G : xk_G} {fx' : Nat → Prop} {ad : Nat → Nat} {out' : Option Value → xk_H → Prop}
    (hr : va_Run p l e R s m args below meth c H locs cells slots mc' ms' (F0 m pc la st0) rest (xk_Q G fx' ad out' A1 a) free) (hS : va_S A0 H0 H locs) (hA : ∀ q, q < H.size → A1 q → A0 q) (hf : ∀ q, free q → A0 q)
    (kk : ∀ (r : Option Value) (hs' : xk_H) (ad' : Nat → Nat) (H1 : Heap) (locs1 : List Loc), out' r hs' → xk_OK [] r.toList hs' → (∀ k, fx' k → ad' k = ad k) → va_P G.1 vwCl (xk_w G.2.1 ad' hs') H1 → va_D A1 (xk_w G.2.1 ad' hs') → va_S A0 H0 H1 locs1 → W p l e R s m args below meth c H1 locs1 (cells + mc') (slots + ms') Q (F0 m (pc + 3) la ((r.map (xk_v ad')).toList ++ rest))) : W p l e R s m args below meth c H locs cells slots Q (F0 m pc la st0) := by
  intro T hT X
  obtain ⟨v, st₀, t, T', L, h0, X', hL, e1, e2, ⟨⟨r, hs', ad', hv, ho, hok, hf', hP, hD⟩, hz, hk⟩, st⟩ := hr T hT X
  cases hv
  rw [h0] at hz hk
  obtain ⟨t2, a1, b1⟩ := kk r hs' ad' T'.heap (locs ++ L) ho hok hf' (by rw [e1]; exact hP) hD
    ⟨Nat.le_trans hS.1 (by rw [e1]; exact hz), fun q h1 h2 => by rw [e1, hk q (Nat.lt_of_lt_of_le h1 hS.1) (fun z => h2 (hA q (Nat.lt_of_lt_of_le h1 hS.1) z))]; exact hS.2.1 q h1 h2, fun q hq => by
      rcases List.mem_append.mp hq with h | h
      · exact hS.2.2 q h
      · exact hf _ (hL q h)⟩ T' rfl X'
  exact ⟨t2, st t2 a1, b1⟩
theorem xk_callB {M M' : xk_M} {G : xk_G} {A : Nat → Prop} {d d' mc ms mc' ms' n index : Nat} (C : xk_Cx M G p s m args meth c A) (hlk : Cond.methodLink M.1.cls index M'.1 ∈ xk_WS) (hcv : xk_CV M' n) (hdd : d' < d) : CallB (xk_rm d mc ms) s args M.1.cls index M'.1 M'.2.1 M'.2.2.1 M'.2.2.2 (xk_ws M') (xk_rm d' mc' ms') mc' ms' n := by
  have hts := C.2.2.2.2.1
  obtain ⟨h1, h2, h3, h4, h5⟩ := hcv
  refine ⟨rfl, rfl, ?_, ?_, ?_, List.mem_cons_self, hts _ h1, hts _ h2, h3, ?_, hts _ hlk⟩
  · show d' + 1 ≤ d; exact hdd
  · show 8 + (M'.2.2.1 + 11) + 40 * d' ≤ 40 * d; omega
  · intro w hw a' U hW
    rcases List.mem_cons.mp hw with rfl | hw
    · exact word_at hW (xk_good _ h1).2 (hts _ h1)
    · exact word_at hW (xk_good w hw).2 (hts w hw)
  · intro sig h
    rw [h] at h4
    exact (Option.some.inj h4).symm
theorem xk_callN {M M' : xk_M} {G : xk_G} {A : Nat → Prop} {d d' mc ms mc' ms' n index : Nat} {host : String} (C : xk_Cx M G p s m args meth c A) (hlk : Cond.methodLinkNest M.1.cls index M'.1 host ∈ xk_nest) (hcv : xk_CV M' n) (hdd : d' < d) : va_CN (xk_rm d mc ms) s args M.1.cls index M'.1 host M'.2.1 M'.2.2.1 M'.2.2.2 (xk_ws M') (xk_rm d' mc' ms') mc' ms' n := by
  have hts := C.2.2.2.2.1
  obtain ⟨h1, h2, h3, h4, h5⟩ := hcv
  refine ⟨⟨rfl, rfl, ?_, ?_, ?_, List.mem_cons_self⟩, hts _ h1, hts _ h2, h3, ?_, va_Nw.use rfl (C.2.2.2.2.2.2.2.2.2.2.1 _ hlk)⟩
  · show d' + 1 ≤ d; exact hdd
  · show 8 + (M'.2.2.1 + 11) + 40 * d' ≤ 40 * d; omega
  · intro w hw a' U hW
    rcases List.mem_cons.mp hw with rfl | hw
    · exact word_at hW (xk_good _ h1).2 (hts _ h1)
    · exact word_at hW (xk_good w hw).2 (hts w hw)
  · intro sig h
    rw [h] at h4
    exact (Option.some.inj h4).symm
theorem xk_blind {G : xk_G} {ad : Nat → Nat} {av : List Value} {hs : xk_H} {sz : Nat} : FrameBlind (va_Pc (av.map (xk_v ad)) (fun U => U.heap.size = sz ∧ va_P G.1 vwCl (xk_w G.2.1 ad hs) U.heap ∧ va_D (fun _ => True) (xk_w G.2.1 ad hs) ∧ xk_K G (va_A (xk_w G.2.1 ad hs) sz) U U.heap)) :=
  fun a U g mk q => ⟨q.1, q.2.1, q.2.2.1, q.2.2.2.1, xk_K.same (u := U) (U := U.calling g mk a) rfl q.2.2.2.2⟩
theorem xk_allA {M : xk_M} {G : xk_G} {A : Nat → Prop} {ad : Nat → Nat} {hs : xk_H} (C : xk_Cx M G p s m args meth c A) (hD : va_D A (xk_w G.2.1 ad hs)) (hS : va_S A s.heap H locs) : ∀ q, va_A (xk_w G.2.1 ad hs) H.size q → A q := by
  intro q h
  rcases h with ⟨k, e, h⟩ | h
  · exact hD.2 k (q, e) h
  · exact C.2.2.2.2.2.2.2.2.1 q (Nat.le_trans hS.1 h)
theorem xk_preK {M : xk_M} {G : xk_G} {A : Nat → Prop} {ad : Nat → Nat} {hs : xk_H} (C : xk_Cx M G p s m args meth c A) (hP : va_P G.1 vwCl (xk_w G.2.1 ad hs) H) (hD : va_D A (xk_w G.2.1 ad hs)) (hS : va_S A s.heap H locs) (av : List Value) (U : State) (hU : U.heap = H) (hW : s.WarmedH U.vm) : va_Pc (av.map (xk_v ad)) (fun U => U.heap.size = H.size ∧ va_P G.1 vwCl (xk_w G.2.1 ad hs) U.heap ∧ va_D (fun _ => True) (xk_w G.2.1 ad hs) ∧ xk_K G (va_A (xk_w G.2.1 ad hs) H.size) U U.heap) (av.map (xk_v ad)).toArray U := by
  refine ⟨rfl, by rw [hU], by rw [hU]; exact hP, hD.weaken (fun _ _ _ _ => trivial), ?_⟩
  rw [hU]
  exact ((C.2.2.2.2.2.2.2.2.2.kept hS.2.1).narrow (xk_allA C hD hS)).warm hW
end XKC
theorem xk_v_congr {n : Nat} {ad ad' : Nat → Nat} (h : ∀ k, k < n → ad' k = ad k) : ∀ v : Value, xk_ok n v → xk_v ad' v = xk_v ad v
  | .ref k, hv => by show Value.ref (ad' k) = Value.ref (ad k); rw [h k hv]
  | .int _, _ => rfl
  | .long _, _ => rfl
  | .float _, _ => rfl
  | .double _, _ => rfl
  | .null, _ => rfl
  | .retAddr _, _ => rfl
theorem xk_vs_congr {n : Nat} {ad ad' : Nat → Nat} (h : ∀ k, k < n → ad' k = ad k) {st : List Value} (hs : xk_okS n st) : st.map (xk_v ad') = st.map (xk_v ad) := List.map_congr_left fun v hv => xk_v_congr h v (hs v hv)
theorem xk_l_congr {n : Nat} {ad ad' : Nat → Nat} (h : ∀ k, k < n → ad' k = ad k) : ∀ (ls : List (Option Value)) (i : Nat), xk_okL n ls → xk_l ad' i ls = xk_l ad i ls
  | [], _, _ => rfl
  | some v :: ls, i, ho => by
    rw [xk_l, xk_l, xk_v_congr h v (ho v List.mem_cons_self), xk_l_congr h ls (i + 1) (fun w hw => ho w (List.mem_cons_of_mem _ hw))]
  | none :: ls, i, ho => by
    rw [xk_l, xk_l, xk_l_congr h ls (i + 1) (fun w hw => ho w (List.mem_cons_of_mem _ hw))]
theorem xk_e_congr {n : Nat} {K : Nat → ClassId} {ad ad' : Nat → Nat} (h : ∀ k, k < n → ad' k = ad k) : ∀ e : xk_C, xk_okC n e → xk_e K ad' e = xk_e K ad e
  | .inl (t, m, .inl f), _ => rfl
  | .inl (t, m, .inr (.inl f)), _ => rfl
  | .inl (t, m, .inr (.inr (.inl f))), _ => rfl
  | .inl (t, m, .inr (.inr (.inr (.inl f)))), _ => rfl
  | .inl (t, m, .inr (.inr (.inr (.inr f)))), ho => by
    have e1 : (fun j => (f j).map ad') = fun j => (f j).map ad := funext fun j => by
      cases hf : f j with
      | none => rfl
      | some k => show some (ad' k) = some (ad k); rw [h k (ho j k hf)]
    show (Sum.inl (K t, m, Sum.inr (Sum.inr (Sum.inr (Sum.inr (fun j => (f j).map ad'))))) : va_E) = Sum.inl (K t, m, Sum.inr (Sum.inr (Sum.inr (Sum.inr (fun j => (f j).map ad)))))
    rw [e1]
  | .inr (ci, fs), ho => by
    show (Sum.inr (ci, fs.map (xk_v ad')) : va_E) = Sum.inr (ci, fs.map (xk_v ad))
    rw [xk_vs_congr h ho]
theorem xk_w_congr {K : Nat → ClassId} {ad ad' : Nat → Nat} {hs : xk_H} (h : ∀ k, k < hs.length → ad' k = ad k) (ho : xk_okH hs) : xk_w K ad' hs = xk_w K ad hs := by
  apply List.ext_getElem?
  intro j
  rw [xk_w_at, xk_w_at]
  cases hj : hs[j]? with
  | none => rfl
  | some e =>
    have hl : j < hs.length := (List.getElem?_eq_some_iff.mp hj).1
    show some (ad' j, xk_e K ad' e) = some (ad j, xk_e K ad e)
    rw [h j hl, xk_e_congr h e (ho e (List.mem_of_getElem? hj))]
theorem xk_ok_le {n n' : Nat} (h : n ≤ n') : ∀ v : Value, xk_ok n v → xk_ok n' v
  | .ref k, hv => Nat.lt_of_lt_of_le hv h
  | .int _, _ => trivial
  | .long _, _ => trivial
  | .float _, _ => trivial
  | .double _, _ => trivial
  | .null, _ => trivial
  | .retAddr _, _ => trivial
theorem xk_okC_le {n n' : Nat} (h : n ≤ n') : ∀ e : xk_C, xk_okC n e → xk_okC n' e
  | .inl (t, m, .inl f), _ => trivial
  | .inl (t, m, .inr (.inl f)), _ => trivial
  | .inl (t, m, .inr (.inr (.inl f))), _ => trivial
  | .inl (t, m, .inr (.inr (.inr (.inl f)))), _ => trivial
  | .inl (t, m, .inr (.inr (.inr (.inr f)))), ho => fun j k hf => Nat.lt_of_lt_of_le (ho j k hf) h
  | .inr (ci, fs), ho => fun v hv => xk_ok_le h v (ho v hv)
theorem xk_OK.app {ls : List (Option Value)} {st : List Value} {hs es : xk_H} (O : xk_OK ls st hs) (he : ∀ e ∈ es, xk_okC (hs ++ es).length e) : xk_OK ls st (hs ++ es) := by
  have hle : hs.length ≤ (hs ++ es).length := by rw [List.length_append]; omega
  refine ⟨fun v hv => xk_ok_le hle v (O.1 v hv), fun v hv => xk_ok_le hle v (O.2.1 v hv), fun e hx => ?_⟩
  rcases List.mem_append.mp hx with h | h
  · exact xk_okC_le hle e (O.2.2 e h)
  · exact he e h
section XKD
variable {d mc ms : Nat} {M : xk_M} {fx : Nat → Prop} {out : Option Value → xk_H → Prop} {cs ss pc : Nat} {ls : List (Option Value)} {hs : xk_H}
/-- a call of a method of an object, which makes no cell -/
theorem xk_callV {M' : xk_M} {d' n index b ci : Nat} {fs : List Value} {r0 : vw_C} {out' : Option Value → xk_H → Prop} (As rest : List Value) (hd : decode M.2.1 pc = .ok (.invokevirtual index, 3)) (hlk : Cond.methodLink M.1.cls index M'.1 ∈ xk_WS) (hcv : xk_CV M' n) (hin : Cond.instanceMethod M'.1 ∈ xk_WS) (hse : Cond.selects M'.1.cls M'.1 M'.1 ∈ xk_WS) (hdd : d' < d) (hcs : cs ≤ mc) (hss : ss ≤ ms) (he : hs[b]? = some (.inr (ci, fs))) (hc : vwCl[ci]? = some r0) (hcn : r0.1 = M'.1.cls) (hn : As.length = n) (hcat : (rest.map fun v => v.category).sum ≤ 8) (hY : xk_Y d' 0 0 M' false (.ref b :: As) hs out')
    (kk : ∀ (r : Option Value) (hs' : xk_H), out' r hs' → hs.length ≤ hs'.length → xk_X d mc ms M fx out cs ss (pc + 3) ls (r.toList ++ rest) hs') (hlen : ∀ (r : Option Value) (hs' : xk_H), out' r hs' → hs'.length = hs.length) : xk_X d mc ms M fx out cs ss pc ls (As.reverse ++ .ref b :: rest) hs := by
  intro G ad0 ad p l e s m args below meth c A H locs la C hf hP hD hS hl O
  have hO1 : xk_OK [] (.ref b :: As) hs := ⟨fun _ h => absurd h List.not_mem_nil, fun v hv => O.2.1 v (by
    rcases List.mem_cons.mp hv with rfl | hv
    · simp
    · simp [hv]), O.2.2⟩
  have hA := xk_allA C hD hS
  have hcat' : ((rest.map (xk_v ad)).map fun v => v.category).sum ≤ 8 := by
    rw [List.map_map]
    have : ((fun v : Value => v.category) ∘ xk_v ad) = fun v => v.category := funext fun v => xk_cat ad v
    rw [this]
    exact hcat
  refine xk_go (va_runV (As := As.map (xk_v ad)) (rest := rest.map (xk_v ad)) (C := M'.1.cls) (b := ad b) (n := n) ⟨C.1, C.2.1, C.2.2.1, C.2.2.2.2.2.1, C.2.2.2.2.1⟩ (hY hO1 l G ad H.size) ⟨xk_callB C hlk hcv hdd, C.2.2.2.2.1 _ hin, C.2.2.2.2.1 _ hse⟩ ⟨xk_blind, ?_, fun U hU hW => xk_preK C hP hD hS (.ref b :: As) U hU hW⟩ rfl (by rw [List.length_map]; exact hn) hl.1 ?_ (lv_room hcat') hd ⟨hcs, hss⟩) hS (fun q _ h => hA q h) hA (fun r hs' ad' H1 locs1 ho hok hfx hP1 hD1 hS1 => ?_)
  · rw [← hcn]
    exact va_recv C.2.2.2.2.2.2.2.2.2.1 hP hc (xk_w_get he)
  · show List.map (xk_v ad) (As.reverse ++ .ref b :: rest) = _
    rw [List.map_append, List.map_reverse]
    rfl
  · have hadd : ad' = ad := funext fun k => hfx k (fun h => by cases h)
    subst hadd
    have hl2 := hlen r hs' ho
    have h := kk r hs' ho (Nat.le_of_eq hl2.symm) G ad0 ad' p l e s m args below meth c A H1 locs1 la C hf hP1 (hD1.weaken fun _ q _ z => hA q.1 z) hS1 hl ⟨by rw [hl2]; exact O.1, fun v hv => by
      rcases List.mem_append.mp hv with h | h
      · exact hok.2.1 v h
      · rw [hl2]
        exact O.2.1 v (by simp [h]), hok.2.2⟩
    rw [List.map_append] at h
    cases r <;> exact h
/-- a call of a static method, which makes no cell -/
theorem xk_callS {M' : xk_M} {d' n index : Nat} {out' : Option Value → xk_H → Prop} (As rest : List Value) (hd : decode M.2.1 pc = .ok (.invokestatic index, 3)) (hlk : Cond.methodLink M.1.cls index M'.1 ∈ xk_WS) (hcv : xk_CV M' n) (hst : Cond.static M'.1 ∈ xk_WS) (hdd : d' < d) (hcs : cs ≤ mc) (hss : ss ≤ ms) (hn : As.length = n) (hcat : (rest.map fun v => v.category).sum ≤ 8) (hY : xk_Y d' 0 0 M' false As hs out')
    (kk : ∀ (r : Option Value) (hs' : xk_H), out' r hs' → hs.length ≤ hs'.length → xk_X d mc ms M fx out cs ss (pc + 3) ls (r.toList ++ rest) hs') (hlen : ∀ (r : Option Value) (hs' : xk_H), out' r hs' → hs'.length = hs.length) : xk_X d mc ms M fx out cs ss pc ls (As.reverse ++ rest) hs := by
  intro G ad0 ad p l e s m args below meth c A H locs la C hf hP hD hS hl O
  have hO1 : xk_OK [] As hs := ⟨fun _ h => absurd h List.not_mem_nil, fun v hv => O.2.1 v (by simp [hv]), O.2.2⟩
  have hA := xk_allA C hD hS
  have hcat' : ((rest.map (xk_v ad)).map fun v => v.category).sum ≤ 8 := by
    rw [List.map_map]
    have : ((fun v : Value => v.category) ∘ xk_v ad) = fun v => v.category := funext fun v => xk_cat ad v
    rw [this]
    exact hcat
  refine xk_go (va_runS (As := As.map (xk_v ad)) (rest := rest.map (xk_v ad)) (n := n) ⟨C.1, C.2.1, C.2.2.1, C.2.2.2.2.2.1, C.2.2.2.2.1⟩ (hY hO1 l G ad H.size) ⟨xk_callB C hlk hcv hdd, C.2.2.2.2.1 _ hst⟩ ⟨xk_blind, fun U hU hW => xk_preK C hP hD hS As U hU hW⟩ rfl (by rw [List.length_map]; exact hn) hl.1 ?_ (lv_room hcat') hd ⟨hcs, hss⟩) hS (fun q _ h => hA q h) hA (fun r hs' ad' H1 locs1 ho hok hfx hP1 hD1 hS1 => ?_)
  · show List.map (xk_v ad) (As.reverse ++ rest) = _
    rw [List.map_append, List.map_reverse]
  · have hadd : ad' = ad := funext fun k => hfx k (fun h => by cases h)
    subst hadd
    have hl2 := hlen r hs' ho
    have h := kk r hs' ho (Nat.le_of_eq hl2.symm) G ad0 ad' p l e s m args below meth c A H1 locs1 la C hf hP1 (hD1.weaken fun _ q _ z => hA q.1 z) hS1 hl ⟨by rw [hl2]; exact O.1, fun v hv => by
      rcases List.mem_append.mp hv with h | h
      · exact hok.2.1 v h
      · rw [hl2]
        exact O.2.1 v (by simp [h]), hok.2.2⟩
    rw [List.map_append] at h
    cases r <;> exact h
/-- a constructor's call, which may make cells -/
theorem xk_callI {M' : xk_M} {d' n index b mc' ms' : Nat} {out' : Option Value → xk_H → Prop} (As rest : List Value) (hd : decode M.2.1 pc = .ok (.invokespecial index, 3)) (hlk : Cond.methodLink M.1.cls index M'.1 ∈ xk_WS) (hcv : xk_CV M' n) (hin : Cond.instanceMethod M'.1 ∈ xk_WS) (hnm : M'.1.name = "<init>") (hrt : M'.2.2.2 = none) (hdd : d' < d) (hcs : cs + mc' ≤ mc) (hss : ss + ms' ≤ ms) (hn : As.length = n) (hcat : (rest.map fun v => v.category).sum ≤ 8) (hfx0 : ∀ k, fx k → k < hs.length) (hY : xk_Y d' mc' ms' M' true (.ref b :: As) hs out')
    (hlen : ∀ (r : Option Value) (hs' : xk_H), out' r hs' → hs.length ≤ hs'.length) (kk : ∀ (r : Option Value) (hs' : xk_H), out' r hs' → xk_X d mc ms M fx out (cs + mc') (ss + ms') (pc + 3) ls (r.toList ++ rest) hs') : xk_X d mc ms M fx out cs ss pc ls (As.reverse ++ .ref b :: rest) hs := by
  intro G ad0 ad p l e s m args below meth c A H locs la C hf hP hD hS hl O
  have hO1 : xk_OK [] (.ref b :: As) hs := ⟨fun _ h => absurd h List.not_mem_nil, fun v hv => O.2.1 v (by
    rcases List.mem_cons.mp hv with rfl | hv
    · simp
    · simp [hv]), O.2.2⟩
  have hA := xk_allA C hD hS
  have hcat' : ((rest.map (xk_v ad)).map fun v => v.category).sum ≤ 8 := by
    rw [List.map_map]
    have : ((fun v : Value => v.category) ∘ xk_v ad) = fun v => v.category := funext fun v => xk_cat ad v
    rw [this]
    exact hcat
  have hB := xk_callB (M' := M') (mc' := mc') (ms' := ms') (mc := mc) (ms := ms) C hlk hcv hdd
  rw [hrt] at hB
  refine xk_go (va_runI (As := As.map (xk_v ad)) (rest := rest.map (xk_v ad)) (b := ad b) (n := n) ⟨C.1, C.2.1, C.2.2.1, C.2.2.2.2.2.1, C.2.2.2.2.1⟩ (hY hO1 l G ad H.size) ⟨hB, hnm, C.2.2.2.2.1 _ hin⟩ ⟨xk_blind, fun U hU hW => xk_preK C hP hD hS (.ref b :: As) U hU hW⟩ rfl (by rw [List.length_map]; exact hn) hl.1 ?_ (lv_room hcat') hd ⟨hcs, hss⟩) hS (fun q _ h => hA q h) hA (fun r hs' ad' H1 locs1 ho hok hfx hP1 hD1 hS1 => ?_)
  · show List.map (xk_v ad) (As.reverse ++ .ref b :: rest) = _
    rw [List.map_append, List.map_reverse]
    rfl
  · have hadd : ∀ k, k < hs.length → ad' k = ad k := fun k hk => hfx k (fun _ => hk)
    have hl2 := hlen r hs' ho
    have hrest : xk_okS hs.length rest := fun v hv => O.2.1 v (by simp [hv])
    have h := kk r hs' ho G ad0 ad' p l e s m args below meth c A H1 locs1 la C (fun k hk => (hadd k (hfx0 k hk)).trans (hf k hk)) hP1 (hD1.weaken fun _ q _ z => hA q.1 z) hS1 (by rw [xk_l_congr hadd ls 0 O.1]; exact hl) ⟨fun v hv => xk_ok_le hl2 v (O.1 v hv), fun v hv => by
      rcases List.mem_append.mp hv with h | h
      · exact hok.2.1 v h
      · exact xk_ok_le hl2 v (hrest v h), hok.2.2⟩
    rw [List.map_append, xk_vs_congr hadd hrest] at h
    cases r <;> exact h
/-- the same, of a nest mate's private constructor -/
theorem xk_callIN {M' : xk_M} {d' n index b mc' ms' : Nat} {host : String} {out' : Option Value → xk_H → Prop} (As rest : List Value) (hd : decode M.2.1 pc = .ok (.invokespecial index, 3)) (hlk : Cond.methodLinkNest M.1.cls index M'.1 host ∈ xk_nest) (hcv : xk_CV M' n) (hin : Cond.instanceMethod M'.1 ∈ xk_WS) (hnm : M'.1.name = "<init>") (hrt : M'.2.2.2 = none) (hdd : d' < d) (hcs : cs + mc' ≤ mc) (hss : ss + ms' ≤ ms) (hn : As.length = n) (hcat : (rest.map fun v => v.category).sum ≤ 8) (hfx0 : ∀ k, fx k → k < hs.length) (hY : xk_Y d' mc' ms' M' true (.ref b :: As) hs out')
    (hlen : ∀ (r : Option Value) (hs' : xk_H), out' r hs' → hs.length ≤ hs'.length) (kk : ∀ (r : Option Value) (hs' : xk_H), out' r hs' → xk_X d mc ms M fx out (cs + mc') (ss + ms') (pc + 3) ls (r.toList ++ rest) hs') : xk_X d mc ms M fx out cs ss pc ls (As.reverse ++ .ref b :: rest) hs := by
  intro G ad0 ad p l e s m args below meth c A H locs la C hf hP hD hS hl O
  have hO1 : xk_OK [] (.ref b :: As) hs := ⟨fun _ h => absurd h List.not_mem_nil, fun v hv => O.2.1 v (by
    rcases List.mem_cons.mp hv with rfl | hv
    · simp
    · simp [hv]), O.2.2⟩
  have hA := xk_allA C hD hS
  have hcat' : ((rest.map (xk_v ad)).map fun v => v.category).sum ≤ 8 := by
    rw [List.map_map]
    have : ((fun v : Value => v.category) ∘ xk_v ad) = fun v => v.category := funext fun v => xk_cat ad v
    rw [this]
    exact hcat
  have hB := xk_callN (M' := M') (mc' := mc') (ms' := ms') (mc := mc) (ms := ms) C hlk hcv hdd
  rw [hrt] at hB
  refine xk_go (va_runIN (As := As.map (xk_v ad)) (rest := rest.map (xk_v ad)) (b := ad b) (n := n) ⟨C.1, C.2.1, C.2.2.1, C.2.2.2.2.2.1, C.2.2.2.2.1⟩ (hY hO1 l G ad H.size) ⟨hB, hnm, C.2.2.2.2.1 _ hin⟩ ⟨xk_blind, fun U hU hW => xk_preK C hP hD hS (.ref b :: As) U hU hW⟩ rfl (by rw [List.length_map]; exact hn) hl.1 ?_ (lv_room hcat') hd ⟨hcs, hss⟩) hS (fun q _ h => hA q h) hA (fun r hs' ad' H1 locs1 ho hok hfx hP1 hD1 hS1 => ?_)
  · show List.map (xk_v ad) (As.reverse ++ .ref b :: rest) = _
    rw [List.map_append, List.map_reverse]
    rfl
  · have hadd : ∀ k, k < hs.length → ad' k = ad k := fun k hk => hfx k (fun _ => hk)
    have hl2 := hlen r hs' ho
    have hrest : xk_okS hs.length rest := fun v hv => O.2.1 v (by simp [hv])
    have h := kk r hs' ho G ad0 ad' p l e s m args below meth c A H1 locs1 la C (fun k hk => (hadd k (hfx0 k hk)).trans (hf k hk)) hP1 (hD1.weaken fun _ q _ z => hA q.1 z) hS1 (by rw [xk_l_congr hadd ls 0 O.1]; exact hl) ⟨fun v hv => xk_ok_le hl2 v (O.1 v hv), fun v hv => by
      rcases List.mem_append.mp hv with h | h
      · exact hok.2.1 v h
      · exact xk_ok_le hl2 v (hrest v h), hok.2.2⟩
    rw [List.map_append, xk_vs_congr hadd hrest] at h
    cases r <;> exact h
/-- Object's own constructor -/
theorem xk_objInit {idx a : Nat} {st : List Value} (hd : decode M.2.1 pc = .ok (.invokespecial idx, 3)) (hlk : Cond.methodLink M.1.cls idx objectInit ∈ xk_WS) (h1 : 1 ≤ d) (hcat : (st.map fun v => v.category).sum ≤ 8) (kk : xk_X d mc ms M fx out cs ss (pc + 3) ls st hs) : xk_X d mc ms M fx out cs ss pc ls (.ref a :: st) hs := by
  intro G ad0 ad p l e s m args below meth c A H locs la C hf hP hD hS hl O
  have hcat' : ((st.map (xk_v ad)).map fun v => v.category).sum ≤ 8 := by
    rw [List.map_map]
    have : ((fun v : Value => v.category) ∘ xk_v ad) = fun v => v.category := funext fun v => xk_cat ad v
    rw [this]
    exact hcat
  have hts := C.2.2.2.2.1
  refine W.objInit C.1 C.2.1 C.2.2.2.2.2.1 (hts _ hlk) (hts _ wo_instanceMethod_objectInit) (hts _ wo_code_objectInit_0xb1_1_none) rfl (by rw [C.2.2.1]; exact hl.1) rfl hd h1 ?_ (kk G ad0 ad p l e s m args below meth c A H locs la C hf hP hD hS hl ⟨O.1, xk_tl O.2.1, O.2.2⟩)
  have h2 := lv_room (m := m) (pc := pc) (ls := la) (rest := (Value.ref (ad a)) :: st.map (xk_v ad)) hcat'
  show _ + 12 ≤ 40 * d
  have h3 : 2 * (F0 m pc la (List.map (xk_v ad) (Value.ref a :: st))).monitorRoom + (List.map (fun v => v.category) (List.map (xk_v ad) st)).sum ≤ 8 := h2
  omega
end XKD
section XKE
variable {d mc ms : Nat} {M : xk_M} {fx : Nat → Prop} {out : Option Value → xk_H → Prop} {cs ss pc : Nat} {ls : List (Option Value)} {hs : xk_H}
theorem xk_callV0 {M' : xk_M} {d' index b ci : Nat} {fs : List Value} {r0 : vw_C} {out' : Option Value → xk_H → Prop} {rest : List Value} (hd : decode M.2.1 pc = .ok (.invokevirtual index, 3)) (hlk : Cond.methodLink M.1.cls index M'.1 ∈ xk_WS) (hcv : xk_CV M' 0) (hin : Cond.instanceMethod M'.1 ∈ xk_WS) (hse : Cond.selects M'.1.cls M'.1 M'.1 ∈ xk_WS) (hdd : d' < d) (hcs : cs ≤ mc) (hss : ss ≤ ms) (hc : vwCl[ci]? = some r0) (hcn : r0.1 = M'.1.cls) (he : hs[b]? = some (.inr (ci, fs))) (hcat : (rest.map fun v => v.category).sum ≤ 8) (hY : xk_Y d' 0 0 M' false (.ref b :: []) hs out')
    (hlen : ∀ (r : Option Value) (hs' : xk_H), out' r hs' → hs'.length = hs.length) (kk : ∀ (r : Option Value) (hs' : xk_H), out' r hs' → xk_X d mc ms M fx out cs ss (pc + 3) ls (r.toList ++ rest) hs') : xk_X d mc ms M fx out cs ss pc ls (.ref b :: rest) hs :=
  xk_callV [] rest hd hlk hcv hin hse hdd hcs hss he hc hcn rfl hcat hY (fun r hs' ho _ => kk r hs' ho) hlen
theorem xk_callV1 {M' : xk_M} {d' index b ci : Nat} {fs : List Value} {r0 : vw_C} {out' : Option Value → xk_H → Prop} {v0 : Value} {rest : List Value} (hd : decode M.2.1 pc = .ok (.invokevirtual index, 3)) (hlk : Cond.methodLink M.1.cls index M'.1 ∈ xk_WS) (hcv : xk_CV M' 1) (hin : Cond.instanceMethod M'.1 ∈ xk_WS) (hse : Cond.selects M'.1.cls M'.1 M'.1 ∈ xk_WS) (hdd : d' < d) (hcs : cs ≤ mc) (hss : ss ≤ ms) (hc : vwCl[ci]? = some r0) (hcn : r0.1 = M'.1.cls) (he : hs[b]? = some (.inr (ci, fs))) (hcat : (rest.map fun v => v.category).sum ≤ 8) (hY : xk_Y d' 0 0 M' false (.ref b :: [v0]) hs out')
    (hlen : ∀ (r : Option Value) (hs' : xk_H), out' r hs' → hs'.length = hs.length) (kk : ∀ (r : Option Value) (hs' : xk_H), out' r hs' → xk_X d mc ms M fx out cs ss (pc + 3) ls (r.toList ++ rest) hs') : xk_X d mc ms M fx out cs ss pc ls (v0 :: .ref b :: rest) hs :=
  xk_callV [v0] rest hd hlk hcv hin hse hdd hcs hss he hc hcn rfl hcat hY (fun r hs' ho _ => kk r hs' ho) hlen
theorem xk_callV2 {M' : xk_M} {d' index b ci : Nat} {fs : List Value} {r0 : vw_C} {out' : Option Value → xk_H → Prop} {v0 v1 : Value} {rest : List Value} (hd : decode M.2.1 pc = .ok (.invokevirtual index, 3)) (hlk : Cond.methodLink M.1.cls index M'.1 ∈ xk_WS) (hcv : xk_CV M' 2) (hin : Cond.instanceMethod M'.1 ∈ xk_WS) (hse : Cond.selects M'.1.cls M'.1 M'.1 ∈ xk_WS) (hdd : d' < d) (hcs : cs ≤ mc) (hss : ss ≤ ms) (hc : vwCl[ci]? = some r0) (hcn : r0.1 = M'.1.cls) (he : hs[b]? = some (.inr (ci, fs))) (hcat : (rest.map fun v => v.category).sum ≤ 8) (hY : xk_Y d' 0 0 M' false (.ref b :: [v0, v1]) hs out')
    (hlen : ∀ (r : Option Value) (hs' : xk_H), out' r hs' → hs'.length = hs.length) (kk : ∀ (r : Option Value) (hs' : xk_H), out' r hs' → xk_X d mc ms M fx out cs ss (pc + 3) ls (r.toList ++ rest) hs') : xk_X d mc ms M fx out cs ss pc ls (v1 :: v0 :: .ref b :: rest) hs :=
  xk_callV [v0, v1] rest hd hlk hcv hin hse hdd hcs hss he hc hcn rfl hcat hY (fun r hs' ho _ => kk r hs' ho) hlen
theorem xk_callV3 {M' : xk_M} {d' index b ci : Nat} {fs : List Value} {r0 : vw_C} {out' : Option Value → xk_H → Prop} {v0 v1 v2 : Value} {rest : List Value} (hd : decode M.2.1 pc = .ok (.invokevirtual index, 3)) (hlk : Cond.methodLink M.1.cls index M'.1 ∈ xk_WS) (hcv : xk_CV M' 3) (hin : Cond.instanceMethod M'.1 ∈ xk_WS) (hse : Cond.selects M'.1.cls M'.1 M'.1 ∈ xk_WS) (hdd : d' < d) (hcs : cs ≤ mc) (hss : ss ≤ ms) (hc : vwCl[ci]? = some r0) (hcn : r0.1 = M'.1.cls) (he : hs[b]? = some (.inr (ci, fs))) (hcat : (rest.map fun v => v.category).sum ≤ 8) (hY : xk_Y d' 0 0 M' false (.ref b :: [v0, v1, v2]) hs out')
    (hlen : ∀ (r : Option Value) (hs' : xk_H), out' r hs' → hs'.length = hs.length) (kk : ∀ (r : Option Value) (hs' : xk_H), out' r hs' → xk_X d mc ms M fx out cs ss (pc + 3) ls (r.toList ++ rest) hs') : xk_X d mc ms M fx out cs ss pc ls (v2 :: v1 :: v0 :: .ref b :: rest) hs :=
  xk_callV [v0, v1, v2] rest hd hlk hcv hin hse hdd hcs hss he hc hcn rfl hcat hY (fun r hs' ho _ => kk r hs' ho) hlen
theorem xk_callV4 {M' : xk_M} {d' index b ci : Nat} {fs : List Value} {r0 : vw_C} {out' : Option Value → xk_H → Prop} {v0 v1 v2 v3 : Value} {rest : List Value} (hd : decode M.2.1 pc = .ok (.invokevirtual index, 3)) (hlk : Cond.methodLink M.1.cls index M'.1 ∈ xk_WS) (hcv : xk_CV M' 4) (hin : Cond.instanceMethod M'.1 ∈ xk_WS) (hse : Cond.selects M'.1.cls M'.1 M'.1 ∈ xk_WS) (hdd : d' < d) (hcs : cs ≤ mc) (hss : ss ≤ ms) (hc : vwCl[ci]? = some r0) (hcn : r0.1 = M'.1.cls) (he : hs[b]? = some (.inr (ci, fs))) (hcat : (rest.map fun v => v.category).sum ≤ 8) (hY : xk_Y d' 0 0 M' false (.ref b :: [v0, v1, v2, v3]) hs out')
    (hlen : ∀ (r : Option Value) (hs' : xk_H), out' r hs' → hs'.length = hs.length) (kk : ∀ (r : Option Value) (hs' : xk_H), out' r hs' → xk_X d mc ms M fx out cs ss (pc + 3) ls (r.toList ++ rest) hs') : xk_X d mc ms M fx out cs ss pc ls (v3 :: v2 :: v1 :: v0 :: .ref b :: rest) hs :=
  xk_callV [v0, v1, v2, v3] rest hd hlk hcv hin hse hdd hcs hss he hc hcn rfl hcat hY (fun r hs' ho _ => kk r hs' ho) hlen
theorem xk_callV5 {M' : xk_M} {d' index b ci : Nat} {fs : List Value} {r0 : vw_C} {out' : Option Value → xk_H → Prop} {v0 v1 v2 v3 v4 : Value} {rest : List Value} (hd : decode M.2.1 pc = .ok (.invokevirtual index, 3)) (hlk : Cond.methodLink M.1.cls index M'.1 ∈ xk_WS) (hcv : xk_CV M' 5) (hin : Cond.instanceMethod M'.1 ∈ xk_WS) (hse : Cond.selects M'.1.cls M'.1 M'.1 ∈ xk_WS) (hdd : d' < d) (hcs : cs ≤ mc) (hss : ss ≤ ms) (hc : vwCl[ci]? = some r0) (hcn : r0.1 = M'.1.cls) (he : hs[b]? = some (.inr (ci, fs))) (hcat : (rest.map fun v => v.category).sum ≤ 8) (hY : xk_Y d' 0 0 M' false (.ref b :: [v0, v1, v2, v3, v4]) hs out')
    (hlen : ∀ (r : Option Value) (hs' : xk_H), out' r hs' → hs'.length = hs.length) (kk : ∀ (r : Option Value) (hs' : xk_H), out' r hs' → xk_X d mc ms M fx out cs ss (pc + 3) ls (r.toList ++ rest) hs') : xk_X d mc ms M fx out cs ss pc ls (v4 :: v3 :: v2 :: v1 :: v0 :: .ref b :: rest) hs :=
  xk_callV [v0, v1, v2, v3, v4] rest hd hlk hcv hin hse hdd hcs hss he hc hcn rfl hcat hY (fun r hs' ho _ => kk r hs' ho) hlen
theorem xk_callV6 {M' : xk_M} {d' index b ci : Nat} {fs : List Value} {r0 : vw_C} {out' : Option Value → xk_H → Prop} {v0 v1 v2 v3 v4 v5 : Value} {rest : List Value} (hd : decode M.2.1 pc = .ok (.invokevirtual index, 3)) (hlk : Cond.methodLink M.1.cls index M'.1 ∈ xk_WS) (hcv : xk_CV M' 6) (hin : Cond.instanceMethod M'.1 ∈ xk_WS) (hse : Cond.selects M'.1.cls M'.1 M'.1 ∈ xk_WS) (hdd : d' < d) (hcs : cs ≤ mc) (hss : ss ≤ ms) (hc : vwCl[ci]? = some r0) (hcn : r0.1 = M'.1.cls) (he : hs[b]? = some (.inr (ci, fs))) (hcat : (rest.map fun v => v.category).sum ≤ 8) (hY : xk_Y d' 0 0 M' false (.ref b :: [v0, v1, v2, v3, v4, v5]) hs out')
    (hlen : ∀ (r : Option Value) (hs' : xk_H), out' r hs' → hs'.length = hs.length) (kk : ∀ (r : Option Value) (hs' : xk_H), out' r hs' → xk_X d mc ms M fx out cs ss (pc + 3) ls (r.toList ++ rest) hs') : xk_X d mc ms M fx out cs ss pc ls (v5 :: v4 :: v3 :: v2 :: v1 :: v0 :: .ref b :: rest) hs :=
  xk_callV [v0, v1, v2, v3, v4, v5] rest hd hlk hcv hin hse hdd hcs hss he hc hcn rfl hcat hY (fun r hs' ho _ => kk r hs' ho) hlen
theorem xk_callS0 {M' : xk_M} {d' index : Nat} {out' : Option Value → xk_H → Prop} {rest : List Value} (hd : decode M.2.1 pc = .ok (.invokestatic index, 3)) (hlk : Cond.methodLink M.1.cls index M'.1 ∈ xk_WS) (hcv : xk_CV M' 0) (hst : Cond.static M'.1 ∈ xk_WS) (hdd : d' < d) (hcs : cs ≤ mc) (hss : ss ≤ ms) (hcat : (rest.map fun v => v.category).sum ≤ 8) (hY : xk_Y d' 0 0 M' false [] hs out')
    (hlen : ∀ (r : Option Value) (hs' : xk_H), out' r hs' → hs'.length = hs.length) (kk : ∀ (r : Option Value) (hs' : xk_H), out' r hs' → xk_X d mc ms M fx out cs ss (pc + 3) ls (r.toList ++ rest) hs') : xk_X d mc ms M fx out cs ss pc ls (rest) hs :=
  xk_callS [] rest hd hlk hcv hst hdd hcs hss rfl hcat hY (fun r hs' ho _ => kk r hs' ho) hlen
theorem xk_callS1 {M' : xk_M} {d' index : Nat} {out' : Option Value → xk_H → Prop} {v0 : Value} {rest : List Value} (hd : decode M.2.1 pc = .ok (.invokestatic index, 3)) (hlk : Cond.methodLink M.1.cls index M'.1 ∈ xk_WS) (hcv : xk_CV M' 1) (hst : Cond.static M'.1 ∈ xk_WS) (hdd : d' < d) (hcs : cs ≤ mc) (hss : ss ≤ ms) (hcat : (rest.map fun v => v.category).sum ≤ 8) (hY : xk_Y d' 0 0 M' false [v0] hs out')
    (hlen : ∀ (r : Option Value) (hs' : xk_H), out' r hs' → hs'.length = hs.length) (kk : ∀ (r : Option Value) (hs' : xk_H), out' r hs' → xk_X d mc ms M fx out cs ss (pc + 3) ls (r.toList ++ rest) hs') : xk_X d mc ms M fx out cs ss pc ls (v0 :: rest) hs :=
  xk_callS [v0] rest hd hlk hcv hst hdd hcs hss rfl hcat hY (fun r hs' ho _ => kk r hs' ho) hlen
theorem xk_callS2 {M' : xk_M} {d' index : Nat} {out' : Option Value → xk_H → Prop} {v0 v1 : Value} {rest : List Value} (hd : decode M.2.1 pc = .ok (.invokestatic index, 3)) (hlk : Cond.methodLink M.1.cls index M'.1 ∈ xk_WS) (hcv : xk_CV M' 2) (hst : Cond.static M'.1 ∈ xk_WS) (hdd : d' < d) (hcs : cs ≤ mc) (hss : ss ≤ ms) (hcat : (rest.map fun v => v.category).sum ≤ 8) (hY : xk_Y d' 0 0 M' false [v0, v1] hs out')
    (hlen : ∀ (r : Option Value) (hs' : xk_H), out' r hs' → hs'.length = hs.length) (kk : ∀ (r : Option Value) (hs' : xk_H), out' r hs' → xk_X d mc ms M fx out cs ss (pc + 3) ls (r.toList ++ rest) hs') : xk_X d mc ms M fx out cs ss pc ls (v1 :: v0 :: rest) hs :=
  xk_callS [v0, v1] rest hd hlk hcv hst hdd hcs hss rfl hcat hY (fun r hs' ho _ => kk r hs' ho) hlen
theorem xk_callS3 {M' : xk_M} {d' index : Nat} {out' : Option Value → xk_H → Prop} {v0 v1 v2 : Value} {rest : List Value} (hd : decode M.2.1 pc = .ok (.invokestatic index, 3)) (hlk : Cond.methodLink M.1.cls index M'.1 ∈ xk_WS) (hcv : xk_CV M' 3) (hst : Cond.static M'.1 ∈ xk_WS) (hdd : d' < d) (hcs : cs ≤ mc) (hss : ss ≤ ms) (hcat : (rest.map fun v => v.category).sum ≤ 8) (hY : xk_Y d' 0 0 M' false [v0, v1, v2] hs out')
    (hlen : ∀ (r : Option Value) (hs' : xk_H), out' r hs' → hs'.length = hs.length) (kk : ∀ (r : Option Value) (hs' : xk_H), out' r hs' → xk_X d mc ms M fx out cs ss (pc + 3) ls (r.toList ++ rest) hs') : xk_X d mc ms M fx out cs ss pc ls (v2 :: v1 :: v0 :: rest) hs :=
  xk_callS [v0, v1, v2] rest hd hlk hcv hst hdd hcs hss rfl hcat hY (fun r hs' ho _ => kk r hs' ho) hlen
theorem xk_callS4 {M' : xk_M} {d' index : Nat} {out' : Option Value → xk_H → Prop} {v0 v1 v2 v3 : Value} {rest : List Value} (hd : decode M.2.1 pc = .ok (.invokestatic index, 3)) (hlk : Cond.methodLink M.1.cls index M'.1 ∈ xk_WS) (hcv : xk_CV M' 4) (hst : Cond.static M'.1 ∈ xk_WS) (hdd : d' < d) (hcs : cs ≤ mc) (hss : ss ≤ ms) (hcat : (rest.map fun v => v.category).sum ≤ 8) (hY : xk_Y d' 0 0 M' false [v0, v1, v2, v3] hs out')
    (hlen : ∀ (r : Option Value) (hs' : xk_H), out' r hs' → hs'.length = hs.length) (kk : ∀ (r : Option Value) (hs' : xk_H), out' r hs' → xk_X d mc ms M fx out cs ss (pc + 3) ls (r.toList ++ rest) hs') : xk_X d mc ms M fx out cs ss pc ls (v3 :: v2 :: v1 :: v0 :: rest) hs :=
  xk_callS [v0, v1, v2, v3] rest hd hlk hcv hst hdd hcs hss rfl hcat hY (fun r hs' ho _ => kk r hs' ho) hlen
theorem xk_callI0 {M' : xk_M} {d' index b mc' ms' : Nat} {out' : Option Value → xk_H → Prop} {rest : List Value} (hd : decode M.2.1 pc = .ok (.invokespecial index, 3)) (hlk : Cond.methodLink M.1.cls index M'.1 ∈ xk_WS) (hcv : xk_CV M' 0) (hin : Cond.instanceMethod M'.1 ∈ xk_WS) (hnm : M'.1.name = "<init>") (hrt : M'.2.2.2 = none) (hdd : d' < d) (hcs : cs + mc' ≤ mc) (hss : ss + ms' ≤ ms) (hcat : (rest.map fun v => v.category).sum ≤ 8) (hfx0 : ∀ k, fx k → k < hs.length) (hY : xk_Y d' mc' ms' M' true (.ref b :: []) hs out')
    (hlen : ∀ (r : Option Value) (hs' : xk_H), out' r hs' → hs.length ≤ hs'.length) (kk : ∀ (r : Option Value) (hs' : xk_H), out' r hs' → xk_X d mc ms M fx out (cs + mc') (ss + ms') (pc + 3) ls (r.toList ++ rest) hs') : xk_X d mc ms M fx out cs ss pc ls (.ref b :: rest) hs :=
  xk_callI [] rest hd hlk hcv hin hnm hrt hdd hcs hss rfl hcat hfx0 hY hlen kk
theorem xk_callI1 {M' : xk_M} {d' index b mc' ms' : Nat} {out' : Option Value → xk_H → Prop} {v0 : Value} {rest : List Value} (hd : decode M.2.1 pc = .ok (.invokespecial index, 3)) (hlk : Cond.methodLink M.1.cls index M'.1 ∈ xk_WS) (hcv : xk_CV M' 1) (hin : Cond.instanceMethod M'.1 ∈ xk_WS) (hnm : M'.1.name = "<init>") (hrt : M'.2.2.2 = none) (hdd : d' < d) (hcs : cs + mc' ≤ mc) (hss : ss + ms' ≤ ms) (hcat : (rest.map fun v => v.category).sum ≤ 8) (hfx0 : ∀ k, fx k → k < hs.length) (hY : xk_Y d' mc' ms' M' true (.ref b :: [v0]) hs out')
    (hlen : ∀ (r : Option Value) (hs' : xk_H), out' r hs' → hs.length ≤ hs'.length) (kk : ∀ (r : Option Value) (hs' : xk_H), out' r hs' → xk_X d mc ms M fx out (cs + mc') (ss + ms') (pc + 3) ls (r.toList ++ rest) hs') : xk_X d mc ms M fx out cs ss pc ls (v0 :: .ref b :: rest) hs :=
  xk_callI [v0] rest hd hlk hcv hin hnm hrt hdd hcs hss rfl hcat hfx0 hY hlen kk
theorem xk_callIN0 {M' : xk_M} {d' index b mc' ms' : Nat} {host : String} {out' : Option Value → xk_H → Prop} {rest : List Value} (hd : decode M.2.1 pc = .ok (.invokespecial index, 3)) (hlk : Cond.methodLinkNest M.1.cls index M'.1 host ∈ xk_nest) (hcv : xk_CV M' 0) (hin : Cond.instanceMethod M'.1 ∈ xk_WS) (hnm : M'.1.name = "<init>") (hrt : M'.2.2.2 = none) (hdd : d' < d) (hcs : cs + mc' ≤ mc) (hss : ss + ms' ≤ ms) (hcat : (rest.map fun v => v.category).sum ≤ 8) (hfx0 : ∀ k, fx k → k < hs.length) (hY : xk_Y d' mc' ms' M' true (.ref b :: []) hs out')
    (hlen : ∀ (r : Option Value) (hs' : xk_H), out' r hs' → hs.length ≤ hs'.length) (kk : ∀ (r : Option Value) (hs' : xk_H), out' r hs' → xk_X d mc ms M fx out (cs + mc') (ss + ms') (pc + 3) ls (r.toList ++ rest) hs') : xk_X d mc ms M fx out cs ss pc ls (.ref b :: rest) hs :=
  xk_callIN [] rest hd hlk hcv hin hnm hrt hdd hcs hss rfl hcat hfx0 hY hlen kk
theorem xk_callIN1 {M' : xk_M} {d' index b mc' ms' : Nat} {host : String} {out' : Option Value → xk_H → Prop} {v0 : Value} {rest : List Value} (hd : decode M.2.1 pc = .ok (.invokespecial index, 3)) (hlk : Cond.methodLinkNest M.1.cls index M'.1 host ∈ xk_nest) (hcv : xk_CV M' 1) (hin : Cond.instanceMethod M'.1 ∈ xk_WS) (hnm : M'.1.name = "<init>") (hrt : M'.2.2.2 = none) (hdd : d' < d) (hcs : cs + mc' ≤ mc) (hss : ss + ms' ≤ ms) (hcat : (rest.map fun v => v.category).sum ≤ 8) (hfx0 : ∀ k, fx k → k < hs.length) (hY : xk_Y d' mc' ms' M' true (.ref b :: [v0]) hs out')
    (hlen : ∀ (r : Option Value) (hs' : xk_H), out' r hs' → hs.length ≤ hs'.length) (kk : ∀ (r : Option Value) (hs' : xk_H), out' r hs' → xk_X d mc ms M fx out (cs + mc') (ss + ms') (pc + 3) ls (r.toList ++ rest) hs') : xk_X d mc ms M fx out cs ss pc ls (v0 :: .ref b :: rest) hs :=
  xk_callIN [v0] rest hd hlk hcv hin hnm hrt hdd hcs hss rfl hcat hfx0 hY hlen kk
end XKE
end
section
/-! exact contracts: one answer, one heap. Own text. -/
abbrev xk_F (d : Nat) (M : xk_M) (av : List Value) (hs : xk_H) (r : Option Value) (hs' : xk_H) : Prop := xk_Y d 0 0 M false av hs (fun r' h => r' = r ∧ h = hs')
abbrev xk_P (d : Nat) (M : xk_M) (av : List Value) (hs : xk_H) (r : Option Value) (hs' : xk_H) (pc : Nat) (ls : List (Option Value)) (st : List Value) (h : xk_H) : Prop := xk_X d 0 0 M (xk_fx false hs) (fun r' h => r' = r ∧ h = hs') 0 0 pc ls st h
section XKF
variable {d mc ms : Nat} {M : xk_M} {fx : Nat → Prop} {out : Option Value → xk_H → Prop} {cs ss pc : Nat} {ls : List (Option Value)} {hs : xk_H}
theorem xk_v0 {M' : xk_M} {d' index b ci : Nat} {fs : List Value} {r0 : vw_C} {hs' : xk_H} {v : Value} {rest : List Value} (hd : decode M.2.1 pc = .ok (.invokevirtual index, 3)) (hlk : Cond.methodLink M.1.cls index M'.1 ∈ xk_WS) (hcv : xk_CV M' 0) (hin : Cond.instanceMethod M'.1 ∈ xk_WS) (hse : Cond.selects M'.1.cls M'.1 M'.1 ∈ xk_WS) (hdd : d' < d) (hcs : cs ≤ mc) (hss : ss ≤ ms) (hc : vwCl[ci]? = some r0) (hcn : r0.1 = M'.1.cls) (he : hs[b]? = some (.inr (ci, fs))) (hcat : (rest.map fun v => v.category).sum ≤ 8) (hY : xk_F d' M' (.ref b :: []) hs (some v) hs') (hlen : hs'.length = hs.length) (kk : xk_X d mc ms M fx out cs ss (pc + 3) ls (v :: rest) hs') : xk_X d mc ms M fx out cs ss pc ls (.ref b :: rest) hs :=
  xk_callV0 hd hlk hcv hin hse hdd hcs hss hc hcn he hcat hY (fun _ _ h => by rw [h.2]; exact hlen) (fun _ _ h => by rw [h.1, h.2]; exact kk)
theorem xk_v0n {M' : xk_M} {d' index b ci : Nat} {fs : List Value} {r0 : vw_C} {hs' : xk_H} {rest : List Value} (hd : decode M.2.1 pc = .ok (.invokevirtual index, 3)) (hlk : Cond.methodLink M.1.cls index M'.1 ∈ xk_WS) (hcv : xk_CV M' 0) (hin : Cond.instanceMethod M'.1 ∈ xk_WS) (hse : Cond.selects M'.1.cls M'.1 M'.1 ∈ xk_WS) (hdd : d' < d) (hcs : cs ≤ mc) (hss : ss ≤ ms) (hc : vwCl[ci]? = some r0) (hcn : r0.1 = M'.1.cls) (he : hs[b]? = some (.inr (ci, fs))) (hcat : (rest.map fun v => v.category).sum ≤ 8) (hY : xk_F d' M' (.ref b :: []) hs none hs') (hlen : hs'.length = hs.length) (kk : xk_X d mc ms M fx out cs ss (pc + 3) ls rest hs') : xk_X d mc ms M fx out cs ss pc ls (.ref b :: rest) hs :=
  xk_callV0 hd hlk hcv hin hse hdd hcs hss hc hcn he hcat hY (fun _ _ h => by rw [h.2]; exact hlen) (fun _ _ h => by rw [h.1, h.2]; exact kk)
theorem xk_v1 {M' : xk_M} {d' index b ci : Nat} {fs : List Value} {r0 : vw_C} {hs' : xk_H} {v : Value} {v0 : Value} {rest : List Value} (hd : decode M.2.1 pc = .ok (.invokevirtual index, 3)) (hlk : Cond.methodLink M.1.cls index M'.1 ∈ xk_WS) (hcv : xk_CV M' 1) (hin : Cond.instanceMethod M'.1 ∈ xk_WS) (hse : Cond.selects M'.1.cls M'.1 M'.1 ∈ xk_WS) (hdd : d' < d) (hcs : cs ≤ mc) (hss : ss ≤ ms) (hc : vwCl[ci]? = some r0) (hcn : r0.1 = M'.1.cls) (he : hs[b]? = some (.inr (ci, fs))) (hcat : (rest.map fun v => v.category).sum ≤ 8) (hY : xk_F d' M' (.ref b :: [v0]) hs (some v) hs') (hlen : hs'.length = hs.length) (kk : xk_X d mc ms M fx out cs ss (pc + 3) ls (v :: rest) hs') : xk_X d mc ms M fx out cs ss pc ls (v0 :: .ref b :: rest) hs :=
  xk_callV1 hd hlk hcv hin hse hdd hcs hss hc hcn he hcat hY (fun _ _ h => by rw [h.2]; exact hlen) (fun _ _ h => by rw [h.1, h.2]; exact kk)
theorem xk_v1n {M' : xk_M} {d' index b ci : Nat} {fs : List Value} {r0 : vw_C} {hs' : xk_H} {v0 : Value} {rest : List Value} (hd : decode M.2.1 pc = .ok (.invokevirtual index, 3)) (hlk : Cond.methodLink M.1.cls index M'.1 ∈ xk_WS) (hcv : xk_CV M' 1) (hin : Cond.instanceMethod M'.1 ∈ xk_WS) (hse : Cond.selects M'.1.cls M'.1 M'.1 ∈ xk_WS) (hdd : d' < d) (hcs : cs ≤ mc) (hss : ss ≤ ms) (hc : vwCl[ci]? = some r0) (hcn : r0.1 = M'.1.cls) (he : hs[b]? = some (.inr (ci, fs))) (hcat : (rest.map fun v => v.category).sum ≤ 8) (hY : xk_F d' M' (.ref b :: [v0]) hs none hs') (hlen : hs'.length = hs.length) (kk : xk_X d mc ms M fx out cs ss (pc + 3) ls rest hs') : xk_X d mc ms M fx out cs ss pc ls (v0 :: .ref b :: rest) hs :=
  xk_callV1 hd hlk hcv hin hse hdd hcs hss hc hcn he hcat hY (fun _ _ h => by rw [h.2]; exact hlen) (fun _ _ h => by rw [h.1, h.2]; exact kk)
theorem xk_v2 {M' : xk_M} {d' index b ci : Nat} {fs : List Value} {r0 : vw_C} {hs' : xk_H} {v : Value} {v0 v1 : Value} {rest : List Value} (hd : decode M.2.1 pc = .ok (.invokevirtual index, 3)) (hlk : Cond.methodLink M.1.cls index M'.1 ∈ xk_WS) (hcv : xk_CV M' 2) (hin : Cond.instanceMethod M'.1 ∈ xk_WS) (hse : Cond.selects M'.1.cls M'.1 M'.1 ∈ xk_WS) (hdd : d' < d) (hcs : cs ≤ mc) (hss : ss ≤ ms) (hc : vwCl[ci]? = some r0) (hcn : r0.1 = M'.1.cls) (he : hs[b]? = some (.inr (ci, fs))) (hcat : (rest.map fun v => v.category).sum ≤ 8) (hY : xk_F d' M' (.ref b :: [v0, v1]) hs (some v) hs') (hlen : hs'.length = hs.length) (kk : xk_X d mc ms M fx out cs ss (pc + 3) ls (v :: rest) hs') : xk_X d mc ms M fx out cs ss pc ls (v1 :: v0 :: .ref b :: rest) hs :=
  xk_callV2 hd hlk hcv hin hse hdd hcs hss hc hcn he hcat hY (fun _ _ h => by rw [h.2]; exact hlen) (fun _ _ h => by rw [h.1, h.2]; exact kk)
theorem xk_v2n {M' : xk_M} {d' index b ci : Nat} {fs : List Value} {r0 : vw_C} {hs' : xk_H} {v0 v1 : Value} {rest : List Value} (hd : decode M.2.1 pc = .ok (.invokevirtual index, 3)) (hlk : Cond.methodLink M.1.cls index M'.1 ∈ xk_WS) (hcv : xk_CV M' 2) (hin : Cond.instanceMethod M'.1 ∈ xk_WS) (hse : Cond.selects M'.1.cls M'.1 M'.1 ∈ xk_WS) (hdd : d' < d) (hcs : cs ≤ mc) (hss : ss ≤ ms) (hc : vwCl[ci]? = some r0) (hcn : r0.1 = M'.1.cls) (he : hs[b]? = some (.inr (ci, fs))) (hcat : (rest.map fun v => v.category).sum ≤ 8) (hY : xk_F d' M' (.ref b :: [v0, v1]) hs none hs') (hlen : hs'.length = hs.length) (kk : xk_X d mc ms M fx out cs ss (pc + 3) ls rest hs') : xk_X d mc ms M fx out cs ss pc ls (v1 :: v0 :: .ref b :: rest) hs :=
  xk_callV2 hd hlk hcv hin hse hdd hcs hss hc hcn he hcat hY (fun _ _ h => by rw [h.2]; exact hlen) (fun _ _ h => by rw [h.1, h.2]; exact kk)
theorem xk_v3 {M' : xk_M} {d' index b ci : Nat} {fs : List Value} {r0 : vw_C} {hs' : xk_H} {v : Value} {v0 v1 v2 : Value} {rest : List Value} (hd : decode M.2.1 pc = .ok (.invokevirtual index, 3)) (hlk : Cond.methodLink M.1.cls index M'.1 ∈ xk_WS) (hcv : xk_CV M' 3) (hin : Cond.instanceMethod M'.1 ∈ xk_WS) (hse : Cond.selects M'.1.cls M'.1 M'.1 ∈ xk_WS) (hdd : d' < d) (hcs : cs ≤ mc) (hss : ss ≤ ms) (hc : vwCl[ci]? = some r0) (hcn : r0.1 = M'.1.cls) (he : hs[b]? = some (.inr (ci, fs))) (hcat : (rest.map fun v => v.category).sum ≤ 8) (hY : xk_F d' M' (.ref b :: [v0, v1, v2]) hs (some v) hs') (hlen : hs'.length = hs.length) (kk : xk_X d mc ms M fx out cs ss (pc + 3) ls (v :: rest) hs') : xk_X d mc ms M fx out cs ss pc ls (v2 :: v1 :: v0 :: .ref b :: rest) hs :=
  xk_callV3 hd hlk hcv hin hse hdd hcs hss hc hcn he hcat hY (fun _ _ h => by rw [h.2]; exact hlen) (fun _ _ h => by rw [h.1, h.2]; exact kk)
theorem xk_v3n {M' : xk_M} {d' index b ci : Nat} {fs : List Value} {r0 : vw_C} {hs' : xk_H} {v0 v1 v2 : Value} {rest : List Value} (hd : decode M.2.1 pc = .ok (.invokevirtual index, 3)) (hlk : Cond.methodLink M.1.cls index M'.1 ∈ xk_WS) (hcv : xk_CV M' 3) (hin : Cond.instanceMethod M'.1 ∈ xk_WS) (hse : Cond.selects M'.1.cls M'.1 M'.1 ∈ xk_WS) (hdd : d' < d) (hcs : cs ≤ mc) (hss : ss ≤ ms) (hc : vwCl[ci]? = some r0) (hcn : r0.1 = M'.1.cls) (he : hs[b]? = some (.inr (ci, fs))) (hcat : (rest.map fun v => v.category).sum ≤ 8) (hY : xk_F d' M' (.ref b :: [v0, v1, v2]) hs none hs') (hlen : hs'.length = hs.length) (kk : xk_X d mc ms M fx out cs ss (pc + 3) ls rest hs') : xk_X d mc ms M fx out cs ss pc ls (v2 :: v1 :: v0 :: .ref b :: rest) hs :=
  xk_callV3 hd hlk hcv hin hse hdd hcs hss hc hcn he hcat hY (fun _ _ h => by rw [h.2]; exact hlen) (fun _ _ h => by rw [h.1, h.2]; exact kk)
theorem xk_v4 {M' : xk_M} {d' index b ci : Nat} {fs : List Value} {r0 : vw_C} {hs' : xk_H} {v : Value} {v0 v1 v2 v3 : Value} {rest : List Value} (hd : decode M.2.1 pc = .ok (.invokevirtual index, 3)) (hlk : Cond.methodLink M.1.cls index M'.1 ∈ xk_WS) (hcv : xk_CV M' 4) (hin : Cond.instanceMethod M'.1 ∈ xk_WS) (hse : Cond.selects M'.1.cls M'.1 M'.1 ∈ xk_WS) (hdd : d' < d) (hcs : cs ≤ mc) (hss : ss ≤ ms) (hc : vwCl[ci]? = some r0) (hcn : r0.1 = M'.1.cls) (he : hs[b]? = some (.inr (ci, fs))) (hcat : (rest.map fun v => v.category).sum ≤ 8) (hY : xk_F d' M' (.ref b :: [v0, v1, v2, v3]) hs (some v) hs') (hlen : hs'.length = hs.length) (kk : xk_X d mc ms M fx out cs ss (pc + 3) ls (v :: rest) hs') : xk_X d mc ms M fx out cs ss pc ls (v3 :: v2 :: v1 :: v0 :: .ref b :: rest) hs :=
  xk_callV4 hd hlk hcv hin hse hdd hcs hss hc hcn he hcat hY (fun _ _ h => by rw [h.2]; exact hlen) (fun _ _ h => by rw [h.1, h.2]; exact kk)
theorem xk_v4n {M' : xk_M} {d' index b ci : Nat} {fs : List Value} {r0 : vw_C} {hs' : xk_H} {v0 v1 v2 v3 : Value} {rest : List Value} (hd : decode M.2.1 pc = .ok (.invokevirtual index, 3)) (hlk : Cond.methodLink M.1.cls index M'.1 ∈ xk_WS) (hcv : xk_CV M' 4) (hin : Cond.instanceMethod M'.1 ∈ xk_WS) (hse : Cond.selects M'.1.cls M'.1 M'.1 ∈ xk_WS) (hdd : d' < d) (hcs : cs ≤ mc) (hss : ss ≤ ms) (hc : vwCl[ci]? = some r0) (hcn : r0.1 = M'.1.cls) (he : hs[b]? = some (.inr (ci, fs))) (hcat : (rest.map fun v => v.category).sum ≤ 8) (hY : xk_F d' M' (.ref b :: [v0, v1, v2, v3]) hs none hs') (hlen : hs'.length = hs.length) (kk : xk_X d mc ms M fx out cs ss (pc + 3) ls rest hs') : xk_X d mc ms M fx out cs ss pc ls (v3 :: v2 :: v1 :: v0 :: .ref b :: rest) hs :=
  xk_callV4 hd hlk hcv hin hse hdd hcs hss hc hcn he hcat hY (fun _ _ h => by rw [h.2]; exact hlen) (fun _ _ h => by rw [h.1, h.2]; exact kk)
theorem xk_v5 {M' : xk_M} {d' index b ci : Nat} {fs : List Value} {r0 : vw_C} {hs' : xk_H} {v : Value} {v0 v1 v2 v3 v4 : Value} {rest : List Value} (hd : decode M.2.1 pc = .ok (.invokevirtual index, 3)) (hlk : Cond.methodLink M.1.cls index M'.1 ∈ xk_WS) (hcv : xk_CV M' 5) (hin : Cond.instanceMethod M'.1 ∈ xk_WS) (hse : Cond.selects M'.1.cls M'.1 M'.1 ∈ xk_WS) (hdd : d' < d) (hcs : cs ≤ mc) (hss : ss ≤ ms) (hc : vwCl[ci]? = some r0) (hcn : r0.1 = M'.1.cls) (he : hs[b]? = some (.inr (ci, fs))) (hcat : (rest.map fun v => v.category).sum ≤ 8) (hY : xk_F d' M' (.ref b :: [v0, v1, v2, v3, v4]) hs (some v) hs') (hlen : hs'.length = hs.length) (kk : xk_X d mc ms M fx out cs ss (pc + 3) ls (v :: rest) hs') : xk_X d mc ms M fx out cs ss pc ls (v4 :: v3 :: v2 :: v1 :: v0 :: .ref b :: rest) hs :=
  xk_callV5 hd hlk hcv hin hse hdd hcs hss hc hcn he hcat hY (fun _ _ h => by rw [h.2]; exact hlen) (fun _ _ h => by rw [h.1, h.2]; exact kk)
theorem xk_v5n {M' : xk_M} {d' index b ci : Nat} {fs : List Value} {r0 : vw_C} {hs' : xk_H} {v0 v1 v2 v3 v4 : Value} {rest : List Value} (hd : decode M.2.1 pc = .ok (.invokevirtual index, 3)) (hlk : Cond.methodLink M.1.cls index M'.1 ∈ xk_WS) (hcv : xk_CV M' 5) (hin : Cond.instanceMethod M'.1 ∈ xk_WS) (hse : Cond.selects M'.1.cls M'.1 M'.1 ∈ xk_WS) (hdd : d' < d) (hcs : cs ≤ mc) (hss : ss ≤ ms) (hc : vwCl[ci]? = some r0) (hcn : r0.1 = M'.1.cls) (he : hs[b]? = some (.inr (ci, fs))) (hcat : (rest.map fun v => v.category).sum ≤ 8) (hY : xk_F d' M' (.ref b :: [v0, v1, v2, v3, v4]) hs none hs') (hlen : hs'.length = hs.length) (kk : xk_X d mc ms M fx out cs ss (pc + 3) ls rest hs') : xk_X d mc ms M fx out cs ss pc ls (v4 :: v3 :: v2 :: v1 :: v0 :: .ref b :: rest) hs :=
  xk_callV5 hd hlk hcv hin hse hdd hcs hss hc hcn he hcat hY (fun _ _ h => by rw [h.2]; exact hlen) (fun _ _ h => by rw [h.1, h.2]; exact kk)
theorem xk_v6 {M' : xk_M} {d' index b ci : Nat} {fs : List Value} {r0 : vw_C} {hs' : xk_H} {v : Value} {v0 v1 v2 v3 v4 v5 : Value} {rest : List Value} (hd : decode M.2.1 pc = .ok (.invokevirtual index, 3)) (hlk : Cond.methodLink M.1.cls index M'.1 ∈ xk_WS) (hcv : xk_CV M' 6) (hin : Cond.instanceMethod M'.1 ∈ xk_WS) (hse : Cond.selects M'.1.cls M'.1 M'.1 ∈ xk_WS) (hdd : d' < d) (hcs : cs ≤ mc) (hss : ss ≤ ms) (hc : vwCl[ci]? = some r0) (hcn : r0.1 = M'.1.cls) (he : hs[b]? = some (.inr (ci, fs))) (hcat : (rest.map fun v => v.category).sum ≤ 8) (hY : xk_F d' M' (.ref b :: [v0, v1, v2, v3, v4, v5]) hs (some v) hs') (hlen : hs'.length = hs.length) (kk : xk_X d mc ms M fx out cs ss (pc + 3) ls (v :: rest) hs') : xk_X d mc ms M fx out cs ss pc ls (v5 :: v4 :: v3 :: v2 :: v1 :: v0 :: .ref b :: rest) hs :=
  xk_callV6 hd hlk hcv hin hse hdd hcs hss hc hcn he hcat hY (fun _ _ h => by rw [h.2]; exact hlen) (fun _ _ h => by rw [h.1, h.2]; exact kk)
theorem xk_v6n {M' : xk_M} {d' index b ci : Nat} {fs : List Value} {r0 : vw_C} {hs' : xk_H} {v0 v1 v2 v3 v4 v5 : Value} {rest : List Value} (hd : decode M.2.1 pc = .ok (.invokevirtual index, 3)) (hlk : Cond.methodLink M.1.cls index M'.1 ∈ xk_WS) (hcv : xk_CV M' 6) (hin : Cond.instanceMethod M'.1 ∈ xk_WS) (hse : Cond.selects M'.1.cls M'.1 M'.1 ∈ xk_WS) (hdd : d' < d) (hcs : cs ≤ mc) (hss : ss ≤ ms) (hc : vwCl[ci]? = some r0) (hcn : r0.1 = M'.1.cls) (he : hs[b]? = some (.inr (ci, fs))) (hcat : (rest.map fun v => v.category).sum ≤ 8) (hY : xk_F d' M' (.ref b :: [v0, v1, v2, v3, v4, v5]) hs none hs') (hlen : hs'.length = hs.length) (kk : xk_X d mc ms M fx out cs ss (pc + 3) ls rest hs') : xk_X d mc ms M fx out cs ss pc ls (v5 :: v4 :: v3 :: v2 :: v1 :: v0 :: .ref b :: rest) hs :=
  xk_callV6 hd hlk hcv hin hse hdd hcs hss hc hcn he hcat hY (fun _ _ h => by rw [h.2]; exact hlen) (fun _ _ h => by rw [h.1, h.2]; exact kk)
theorem xk_s0c {M' : xk_M} {d' index : Nat} {hs' : xk_H} {v : Value} {rest : List Value} (hd : decode M.2.1 pc = .ok (.invokestatic index, 3)) (hlk : Cond.methodLink M.1.cls index M'.1 ∈ xk_WS) (hcv : xk_CV M' 0) (hst : Cond.static M'.1 ∈ xk_WS) (hdd : d' < d) (hcs : cs ≤ mc) (hss : ss ≤ ms) (hcat : (rest.map fun v => v.category).sum ≤ 8) (hY : xk_F d' M' [] hs (some v) hs') (hlen : hs'.length = hs.length) (kk : xk_X d mc ms M fx out cs ss (pc + 3) ls (v :: rest) hs') : xk_X d mc ms M fx out cs ss pc ls (rest) hs :=
  xk_callS0 hd hlk hcv hst hdd hcs hss hcat hY (fun _ _ h => by rw [h.2]; exact hlen) (fun _ _ h => by rw [h.1, h.2]; exact kk)
theorem xk_s0nc {M' : xk_M} {d' index : Nat} {hs' : xk_H} {rest : List Value} (hd : decode M.2.1 pc = .ok (.invokestatic index, 3)) (hlk : Cond.methodLink M.1.cls index M'.1 ∈ xk_WS) (hcv : xk_CV M' 0) (hst : Cond.static M'.1 ∈ xk_WS) (hdd : d' < d) (hcs : cs ≤ mc) (hss : ss ≤ ms) (hcat : (rest.map fun v => v.category).sum ≤ 8) (hY : xk_F d' M' [] hs none hs') (hlen : hs'.length = hs.length) (kk : xk_X d mc ms M fx out cs ss (pc + 3) ls rest hs') : xk_X d mc ms M fx out cs ss pc ls (rest) hs :=
  xk_callS0 hd hlk hcv hst hdd hcs hss hcat hY (fun _ _ h => by rw [h.2]; exact hlen) (fun _ _ h => by rw [h.1, h.2]; exact kk)
theorem xk_s1c {M' : xk_M} {d' index : Nat} {hs' : xk_H} {v : Value} {v0 : Value} {rest : List Value} (hd : decode M.2.1 pc = .ok (.invokestatic index, 3)) (hlk : Cond.methodLink M.1.cls index M'.1 ∈ xk_WS) (hcv : xk_CV M' 1) (hst : Cond.static M'.1 ∈ xk_WS) (hdd : d' < d) (hcs : cs ≤ mc) (hss : ss ≤ ms) (hcat : (rest.map fun v => v.category).sum ≤ 8) (hY : xk_F d' M' [v0] hs (some v) hs') (hlen : hs'.length = hs.length) (kk : xk_X d mc ms M fx out cs ss (pc + 3) ls (v :: rest) hs') : xk_X d mc ms M fx out cs ss pc ls (v0 :: rest) hs :=
  xk_callS1 hd hlk hcv hst hdd hcs hss hcat hY (fun _ _ h => by rw [h.2]; exact hlen) (fun _ _ h => by rw [h.1, h.2]; exact kk)
theorem xk_s1nc {M' : xk_M} {d' index : Nat} {hs' : xk_H} {v0 : Value} {rest : List Value} (hd : decode M.2.1 pc = .ok (.invokestatic index, 3)) (hlk : Cond.methodLink M.1.cls index M'.1 ∈ xk_WS) (hcv : xk_CV M' 1) (hst : Cond.static M'.1 ∈ xk_WS) (hdd : d' < d) (hcs : cs ≤ mc) (hss : ss ≤ ms) (hcat : (rest.map fun v => v.category).sum ≤ 8) (hY : xk_F d' M' [v0] hs none hs') (hlen : hs'.length = hs.length) (kk : xk_X d mc ms M fx out cs ss (pc + 3) ls rest hs') : xk_X d mc ms M fx out cs ss pc ls (v0 :: rest) hs :=
  xk_callS1 hd hlk hcv hst hdd hcs hss hcat hY (fun _ _ h => by rw [h.2]; exact hlen) (fun _ _ h => by rw [h.1, h.2]; exact kk)
theorem xk_s2c {M' : xk_M} {d' index : Nat} {hs' : xk_H} {v : Value} {v0 v1 : Value} {rest : List Value} (hd : decode M.2.1 pc = .ok (.invokestatic index, 3)) (hlk : Cond.methodLink M.1.cls index M'.1 ∈ xk_WS) (hcv : xk_CV M' 2) (hst : Cond.static M'.1 ∈ xk_WS) (hdd : d' < d) (hcs : cs ≤ mc) (hss : ss ≤ ms) (hcat : (rest.map fun v => v.category).sum ≤ 8) (hY : xk_F d' M' [v0, v1] hs (some v) hs') (hlen : hs'.length = hs.length) (kk : xk_X d mc ms M fx out cs ss (pc + 3) ls (v :: rest) hs') : xk_X d mc ms M fx out cs ss pc ls (v1 :: v0 :: rest) hs :=
  xk_callS2 hd hlk hcv hst hdd hcs hss hcat hY (fun _ _ h => by rw [h.2]; exact hlen) (fun _ _ h => by rw [h.1, h.2]; exact kk)
theorem xk_s2nc {M' : xk_M} {d' index : Nat} {hs' : xk_H} {v0 v1 : Value} {rest : List Value} (hd : decode M.2.1 pc = .ok (.invokestatic index, 3)) (hlk : Cond.methodLink M.1.cls index M'.1 ∈ xk_WS) (hcv : xk_CV M' 2) (hst : Cond.static M'.1 ∈ xk_WS) (hdd : d' < d) (hcs : cs ≤ mc) (hss : ss ≤ ms) (hcat : (rest.map fun v => v.category).sum ≤ 8) (hY : xk_F d' M' [v0, v1] hs none hs') (hlen : hs'.length = hs.length) (kk : xk_X d mc ms M fx out cs ss (pc + 3) ls rest hs') : xk_X d mc ms M fx out cs ss pc ls (v1 :: v0 :: rest) hs :=
  xk_callS2 hd hlk hcv hst hdd hcs hss hcat hY (fun _ _ h => by rw [h.2]; exact hlen) (fun _ _ h => by rw [h.1, h.2]; exact kk)
theorem xk_s3c {M' : xk_M} {d' index : Nat} {hs' : xk_H} {v : Value} {v0 v1 v2 : Value} {rest : List Value} (hd : decode M.2.1 pc = .ok (.invokestatic index, 3)) (hlk : Cond.methodLink M.1.cls index M'.1 ∈ xk_WS) (hcv : xk_CV M' 3) (hst : Cond.static M'.1 ∈ xk_WS) (hdd : d' < d) (hcs : cs ≤ mc) (hss : ss ≤ ms) (hcat : (rest.map fun v => v.category).sum ≤ 8) (hY : xk_F d' M' [v0, v1, v2] hs (some v) hs') (hlen : hs'.length = hs.length) (kk : xk_X d mc ms M fx out cs ss (pc + 3) ls (v :: rest) hs') : xk_X d mc ms M fx out cs ss pc ls (v2 :: v1 :: v0 :: rest) hs :=
  xk_callS3 hd hlk hcv hst hdd hcs hss hcat hY (fun _ _ h => by rw [h.2]; exact hlen) (fun _ _ h => by rw [h.1, h.2]; exact kk)
theorem xk_s3nc {M' : xk_M} {d' index : Nat} {hs' : xk_H} {v0 v1 v2 : Value} {rest : List Value} (hd : decode M.2.1 pc = .ok (.invokestatic index, 3)) (hlk : Cond.methodLink M.1.cls index M'.1 ∈ xk_WS) (hcv : xk_CV M' 3) (hst : Cond.static M'.1 ∈ xk_WS) (hdd : d' < d) (hcs : cs ≤ mc) (hss : ss ≤ ms) (hcat : (rest.map fun v => v.category).sum ≤ 8) (hY : xk_F d' M' [v0, v1, v2] hs none hs') (hlen : hs'.length = hs.length) (kk : xk_X d mc ms M fx out cs ss (pc + 3) ls rest hs') : xk_X d mc ms M fx out cs ss pc ls (v2 :: v1 :: v0 :: rest) hs :=
  xk_callS3 hd hlk hcv hst hdd hcs hss hcat hY (fun _ _ h => by rw [h.2]; exact hlen) (fun _ _ h => by rw [h.1, h.2]; exact kk)
theorem xk_s4c {M' : xk_M} {d' index : Nat} {hs' : xk_H} {v : Value} {v0 v1 v2 v3 : Value} {rest : List Value} (hd : decode M.2.1 pc = .ok (.invokestatic index, 3)) (hlk : Cond.methodLink M.1.cls index M'.1 ∈ xk_WS) (hcv : xk_CV M' 4) (hst : Cond.static M'.1 ∈ xk_WS) (hdd : d' < d) (hcs : cs ≤ mc) (hss : ss ≤ ms) (hcat : (rest.map fun v => v.category).sum ≤ 8) (hY : xk_F d' M' [v0, v1, v2, v3] hs (some v) hs') (hlen : hs'.length = hs.length) (kk : xk_X d mc ms M fx out cs ss (pc + 3) ls (v :: rest) hs') : xk_X d mc ms M fx out cs ss pc ls (v3 :: v2 :: v1 :: v0 :: rest) hs :=
  xk_callS4 hd hlk hcv hst hdd hcs hss hcat hY (fun _ _ h => by rw [h.2]; exact hlen) (fun _ _ h => by rw [h.1, h.2]; exact kk)
theorem xk_s4nc {M' : xk_M} {d' index : Nat} {hs' : xk_H} {v0 v1 v2 v3 : Value} {rest : List Value} (hd : decode M.2.1 pc = .ok (.invokestatic index, 3)) (hlk : Cond.methodLink M.1.cls index M'.1 ∈ xk_WS) (hcv : xk_CV M' 4) (hst : Cond.static M'.1 ∈ xk_WS) (hdd : d' < d) (hcs : cs ≤ mc) (hss : ss ≤ ms) (hcat : (rest.map fun v => v.category).sum ≤ 8) (hY : xk_F d' M' [v0, v1, v2, v3] hs none hs') (hlen : hs'.length = hs.length) (kk : xk_X d mc ms M fx out cs ss (pc + 3) ls rest hs') : xk_X d mc ms M fx out cs ss pc ls (v3 :: v2 :: v1 :: v0 :: rest) hs :=
  xk_callS4 hd hlk hcv hst hdd hcs hss hcat hY (fun _ _ h => by rw [h.2]; exact hlen) (fun _ _ h => by rw [h.1, h.2]; exact kk)
end XKF
abbrev mL_cell : xk_M := (yL_cell, cL_cell, 2, (some .int))
theorem cv_L_cell : xk_CV mL_cell 2 := ⟨wc_L_cell, wn_L, by decide +kernel, by decide +kernel, by decide⟩
abbrev mX8_init : xk_M := (yX8_init, cX8_init, 2, none)
theorem cv_X8_init : xk_CV mX8_init 1 := ⟨wc_X8_init, wn_X8, by decide +kernel, by decide +kernel, by decide⟩
abbrev mX5_init : xk_M := (yX5_init, cX5_init, 3, none)
theorem cv_X5_init : xk_CV mX5_init 1 := ⟨wc_X5_init, wn_X5, by decide +kernel, by decide +kernel, by decide⟩
abbrev mJ7_fill_d0a16 : xk_M := (yJ7_fill_d0a16, cJ7_fill_d0a16, 5, none)
theorem cv_J7_fill_d0a16 : xk_CV mJ7_fill_d0a16 2 := ⟨wc_J7_fill_d0a16, wn_J7, by decide +kernel, by decide +kernel, by decide⟩
abbrev mX7_init : xk_M := (yX7_init, cX7_init, 2, none)
theorem cv_X7_init : xk_CV mX7_init 1 := ⟨wc_X7_init, wn_X7, by decide +kernel, by decide +kernel, by decide⟩
abbrev mX3_init : xk_M := (yX3_init, cX3_init, 2, none)
theorem cv_X3_init : xk_CV mX3_init 1 := ⟨wc_X3_init, wn_X3, by decide +kernel, by decide +kernel, by decide⟩
abbrev mX6_init : xk_M := (yX6_init, cX6_init, 2, none)
theorem cv_X6_init : xk_CV mX6_init 1 := ⟨wc_X6_init, wn_X6, by decide +kernel, by decide +kernel, by decide⟩
abbrev mX2_init : xk_M := (yX2_init, cX2_init, 5, none)
theorem cv_X2_init : xk_CV mX2_init 1 := ⟨wc_X2_init, wn_X2, by decide +kernel, by decide +kernel, by decide⟩
abbrev mX4_init : xk_M := (yX4_init, cX4_init, 1, none)
theorem cv_X4_init : xk_CV mX4_init 0 := ⟨wc_X4_init, wn_X4, by decide +kernel, by decide +kernel, by decide⟩
abbrev mX0_init : xk_M := (yX0_init, cX0_init, 1, none)
theorem cv_X0_init : xk_CV mX0_init 0 := ⟨wc_X0_init, wn_X0, by decide +kernel, by decide +kernel, by decide⟩
abbrev mX9_init : xk_M := (yX9_init, cX9_init, 5, none)
theorem cv_X9_init : xk_CV mX9_init 1 := ⟨wc_X9_init, wn_X9, by decide +kernel, by decide +kernel, by decide⟩
abbrev mX8_say : xk_M := (yX8_say, cX8_say, 7, (some .boolean))
theorem cv_X8_say : xk_CV mX8_say 4 := ⟨wc_X8_say, wn_X8, by decide +kernel, by decide +kernel, by decide⟩
abbrev mX5_isPair : xk_M := (yX5_isPair, cX5_isPair, 3, (some .boolean))
theorem cv_X5_isPair : xk_CV mX5_isPair 2 := ⟨wc_X5_isPair, wn_X5, by decide +kernel, by decide +kernel, by decide⟩
abbrev mX5_isThing : xk_M := (yX5_isThing, cX5_isThing, 2, (some .boolean))
theorem cv_X5_isThing : xk_CV mX5_isThing 1 := ⟨wc_X5_isThing, wn_X5, by decide +kernel, by decide +kernel, by decide⟩
abbrev mX8_isDigit : xk_M := (yX8_isDigit, cX8_isDigit, 1, (some .boolean))
theorem cv_X8_isDigit : xk_CV mX8_isDigit 1 := ⟨wc_X8_isDigit, wn_X8, by decide +kernel, by decide +kernel, by decide⟩
abbrev mX1_of : xk_M := (yX1_of, cX1_of, 4, (some .long))
theorem cv_X1_of : xk_CV mX1_of 2 := ⟨wc_X1_of, wn_X1, by decide +kernel, by decide +kernel, by decide⟩
abbrev mX5_put : xk_M := (yX5_put, cX5_put, 7, none)
theorem cv_X5_put : xk_CV mX5_put 4 := ⟨wc_X5_put, wn_X5, by decide +kernel, by decide +kernel, by decide⟩
abbrev mX5_holds : xk_M := (yX5_holds, cX5_holds, 3, (some .boolean))
theorem cv_X5_holds : xk_CV mX5_holds 2 := ⟨wc_X5_holds, wn_X5, by decide +kernel, by decide +kernel, by decide⟩
abbrev mX1_inverse : xk_M := (yX1_inverse, cX1_inverse, 2, (some .long))
theorem cv_X1_inverse : xk_CV mX1_inverse 1 := ⟨wc_X1_inverse, wn_X1, by decide +kernel, by decide +kernel, by decide⟩
abbrev mX1_bottom : xk_M := (yX1_bottom, cX1_bottom, 2, (some .long))
theorem cv_X1_bottom : xk_CV mX1_bottom 1 := ⟨wc_X1_bottom, wn_X1, by decide +kernel, by decide +kernel, by decide⟩
abbrev mX1_top : xk_M := (yX1_top, cX1_top, 2, (some .long))
theorem cv_X1_top : xk_CV mX1_top 1 := ⟨wc_X1_top, wn_X1, by decide +kernel, by decide +kernel, by decide⟩
abbrev mX9_say : xk_M := (yX9_say, cX9_say, 7, (some .boolean))
theorem cv_X9_say : xk_CV mX9_say 4 := ⟨wc_X9_say, wn_X9, by decide +kernel, by decide +kernel, by decide⟩
abbrev mX9_areTwo : xk_M := (yX9_areTwo, cX9_areTwo, 3, (some .boolean))
theorem cv_X9_areTwo : xk_CV mX9_areTwo 2 := ⟨wc_X9_areTwo, wn_X9, by decide +kernel, by decide +kernel, by decide⟩
abbrev mX9_in : xk_M := (yX9_in, cX9_in, 3, (some .boolean))
theorem cv_X9_in : xk_CV mX9_in 3 := ⟨wc_X9_in, wn_X9, by decide +kernel, by decide +kernel, by decide⟩
abbrev mX9_divisor : xk_M := (yX9_divisor, cX9_divisor, 10, (some .long))
theorem cv_X9_divisor : xk_CV mX9_divisor 2 := ⟨wc_X9_divisor, wn_X9, by decide +kernel, by decide +kernel, by decide⟩
abbrev mX9_pair : xk_M := (yX9_pair, cX9_pair, 6, (some .int))
theorem cv_X9_pair : xk_CV mX9_pair 2 := ⟨wc_X9_pair, wn_X9, by decide +kernel, by decide +kernel, by decide⟩
abbrev mX8_unsay : xk_M := (yX8_unsay, cX8_unsay, 3, (some .boolean))
theorem cv_X8_unsay : xk_CV mX8_unsay 2 := ⟨wc_X8_unsay, wn_X8, by decide +kernel, by decide +kernel, by decide⟩
abbrev mX5_drop : xk_M := (yX5_drop, cX5_drop, 3, (some .boolean))
theorem cv_X5_drop : xk_CV mX5_drop 2 := ⟨wc_X5_drop, wn_X5, by decide +kernel, by decide +kernel, by decide⟩
abbrev mX9_unsay : xk_M := (yX9_unsay, cX9_unsay, 3, (some .boolean))
theorem cv_X9_unsay : xk_CV mX9_unsay 2 := ⟨wc_X9_unsay, wn_X9, by decide +kernel, by decide +kernel, by decide⟩
abbrev mX8_said : xk_M := (yX8_said, cX8_said, 4, (some .int))
theorem cv_X8_said : xk_CV mX8_said 3 := ⟨wc_X8_said, wn_X8, by decide +kernel, by decide +kernel, by decide⟩
abbrev mX8_isPart : xk_M := (yX8_isPart, cX8_isPart, 1, (some .boolean))
theorem cv_X8_isPart : xk_CV mX8_isPart 1 := ⟨wc_X8_isPart, wn_X8, by decide +kernel, by decide +kernel, by decide⟩
abbrev mX5_low : xk_M := (yX5_low, cX5_low, 3, (some .long))
theorem cv_X5_low : xk_CV mX5_low 2 := ⟨wc_X5_low, wn_X5, by decide +kernel, by decide +kernel, by decide⟩
abbrev mX1_part : xk_M := (yX1_part, cX1_part, 7, (some .int))
theorem cv_X1_part : xk_CV mX1_part 2 := ⟨wc_X1_part, wn_X1, by decide +kernel, by decide +kernel, by decide⟩
abbrev mX1_commonDivisor : xk_M := (yX1_commonDivisor, cX1_commonDivisor, 11, (some .long))
theorem cv_X1_commonDivisor : xk_CV mX1_commonDivisor 2 := ⟨wc_X1_commonDivisor, wn_X1, by decide +kernel, by decide +kernel, by decide⟩
abbrev mX9_said : xk_M := (yX9_said, cX9_said, 4, (some .int))
theorem cv_X9_said : xk_CV mX9_said 3 := ⟨wc_X9_said, wn_X9, by decide +kernel, by decide +kernel, by decide⟩
abbrev mX9_isSaid : xk_M := (yX9_isSaid, cX9_isSaid, 3, (some .boolean))
theorem cv_X9_isSaid : xk_CV mX9_isSaid 2 := ⟨wc_X9_isSaid, wn_X9, by decide +kernel, by decide +kernel, by decide⟩
abbrev mX9_topOf : xk_M := (yX9_topOf, cX9_topOf, 3, (some .int))
theorem cv_X9_topOf : xk_CV mX9_topOf 2 := ⟨wc_X9_topOf, wn_X9, by decide +kernel, by decide +kernel, by decide⟩
abbrev mX9_bottomOf : xk_M := (yX9_bottomOf, cX9_bottomOf, 3, (some .int))
theorem cv_X9_bottomOf : xk_CV mX9_bottomOf 2 := ⟨wc_X9_bottomOf, wn_X9, by decide +kernel, by decide +kernel, by decide⟩
abbrev mX8_even : xk_M := (yX8_even, cX8_even, 1, (some .boolean))
theorem cv_X8_even : xk_CV mX8_even 0 := ⟨wc_X8_even, wn_X8, by decide +kernel, by decide +kernel, by decide⟩
abbrev mX3_noneAboveOne : xk_M := (yX3_noneAboveOne, cX3_noneAboveOne, 3, (some .boolean))
theorem cv_X3_noneAboveOne : xk_CV mX3_noneAboveOne 1 := ⟨wc_X3_noneAboveOne, wn_X3, by decide +kernel, by decide +kernel, by decide⟩
abbrev mX3_measure : xk_M := (yX3_measure, cX3_measure, 3, none)
theorem cv_X3_measure : xk_CV mX3_measure 1 := ⟨wc_X3_measure, wn_X3, by decide +kernel, by decide +kernel, by decide⟩
abbrev mX3_extend : xk_M := (yX3_extend, cX3_extend, 11, none)
theorem cv_X3_extend : xk_CV mX3_extend 6 := ⟨wc_X3_extend, wn_X3, by decide +kernel, by decide +kernel, by decide⟩
abbrev mX1_times : xk_M := (yX1_times, cX1_times, 4, (some .long))
theorem cv_X1_times : xk_CV mX1_times 2 := ⟨wc_X1_times, wn_X1, by decide +kernel, by decide +kernel, by decide⟩
abbrev mX3_close : xk_M := (yX3_close, cX3_close, 4, none)
theorem cv_X3_close : xk_CV mX3_close 2 := ⟨wc_X3_close, wn_X3, by decide +kernel, by decide +kernel, by decide⟩
abbrev mX1_isAbove : xk_M := (yX1_isAbove, cX1_isAbove, 4, (some .boolean))
theorem cv_X1_isAbove : xk_CV mX1_isAbove 2 := ⟨wc_X1_isAbove, wn_X1, by decide +kernel, by decide +kernel, by decide⟩
abbrev mX9_even : xk_M := (yX9_even, cX9_even, 1, (some .boolean))
theorem cv_X9_even : xk_CV mX9_even 0 := ⟨wc_X9_even, wn_X9, by decide +kernel, by decide +kernel, by decide⟩
abbrev mX9_all : xk_M := (yX9_all, cX9_all, 3, (some .int))
theorem cv_X9_all : xk_CV mX9_all 0 := ⟨wc_X9_all, wn_X9, by decide +kernel, by decide +kernel, by decide⟩
abbrev mX9_fits : xk_M := (yX9_fits, cX9_fits, 14, (some .boolean))
theorem cv_X9_fits : xk_CV mX9_fits 1 := ⟨wc_X9_fits, wn_X9, by decide +kernel, by decide +kernel, by decide⟩
abbrev mX8_worst : xk_M := (yX8_worst, cX8_worst, 2, (some .int))
theorem cv_X8_worst : xk_CV mX8_worst 1 := ⟨wc_X8_worst, wn_X8, by decide +kernel, by decide +kernel, by decide⟩
abbrev mX7_find : xk_M := (yX7_find, cX7_find, 5, none)
theorem cv_X7_find : xk_CV mX7_find 1 := ⟨wc_X7_find, wn_X7, by decide +kernel, by decide +kernel, by decide⟩
abbrev mX7_compare : xk_M := (yX7_compare, cX7_compare, 7, none)
theorem cv_X7_compare : xk_CV mX7_compare 4 := ⟨wc_X7_compare, wn_X7, by decide +kernel, by decide +kernel, by decide⟩
abbrev mX7_offOf : xk_M := (yX7_offOf, cX7_offOf, 6, (some .long))
theorem cv_X7_offOf : xk_CV mX7_offOf 4 := ⟨wc_X7_offOf, wn_X7, by decide +kernel, by decide +kernel, by decide⟩
abbrev mX9_worst : xk_M := (yX9_worst, cX9_worst, 2, (some .int))
theorem cv_X9_worst : xk_CV mX9_worst 1 := ⟨wc_X9_worst, wn_X9, by decide +kernel, by decide +kernel, by decide⟩
abbrev mX9_findsWorst : xk_M := (yX9_findsWorst, cX9_findsWorst, 10, (some .boolean))
theorem cv_X9_findsWorst : xk_CV mX9_findsWorst 0 := ⟨wc_X9_findsWorst, wn_X9, by decide +kernel, by decide +kernel, by decide⟩
abbrev mX8_trees : xk_M := (yX8_trees, cX8_trees, 1, (some .int))
theorem cv_X8_trees : xk_CV mX8_trees 0 := ⟨wc_X8_trees, wn_X8, by decide +kernel, by decide +kernel, by decide⟩
abbrev mX6_of : xk_M := (yX6_of, cX6_of, 5, (some .int))
theorem cv_X6_of : xk_CV mX6_of 1 := ⟨wc_X6_of, wn_X6, by decide +kernel, by decide +kernel, by decide⟩
abbrev mX6_fill : xk_M := (yX6_fill, cX6_fill, 6, none)
theorem cv_X6_fill : xk_CV mX6_fill 1 := ⟨wc_X6_fill, wn_X6, by decide +kernel, by decide +kernel, by decide⟩
abbrev mX6_eliminate : xk_M := (yX6_eliminate, cX6_eliminate, 7, none)
theorem cv_X6_eliminate : xk_CV mX6_eliminate 3 := ⟨wc_X6_eliminate, wn_X6, by decide +kernel, by decide +kernel, by decide⟩
abbrev mX9_trees : xk_M := (yX9_trees, cX9_trees, 5, (some .int))
theorem cv_X9_trees : xk_CV mX9_trees 0 := ⟨wc_X9_trees, wn_X9, by decide +kernel, by decide +kernel, by decide⟩
abbrev mJ6_bitCount_0f7a4 : xk_M := (yJ6_bitCount_0f7a4, cJ6_bitCount_0f7a4, 1, (some .int))
theorem cv_J6_bitCount_0f7a4 : xk_CV mJ6_bitCount_0f7a4 1 := ⟨wc_J6_bitCount_0f7a4, wn_J6, by decide +kernel, by decide +kernel, by decide⟩
abbrev mX8_few : xk_M := (yX8_few, cX8_few, 1, (some .int))
theorem cv_X8_few : xk_CV mX8_few 0 := ⟨wc_X8_few, wn_X8, by decide +kernel, by decide +kernel, by decide⟩
abbrev mX2_search : xk_M := (yX2_search, cX2_search, 2, none)
theorem cv_X2_search : xk_CV mX2_search 1 := ⟨wc_X2_search, wn_X2, by decide +kernel, by decide +kernel, by decide⟩
abbrev mX2_settle : xk_M := (yX2_settle, cX2_settle, 11, none)
theorem cv_X2_settle : xk_CV mX2_settle 5 := ⟨wc_X2_settle, wn_X2, by decide +kernel, by decide +kernel, by decide⟩
abbrev mX2_logOf : xk_M := (yX2_logOf, cX2_logOf, 2, (some .int))
theorem cv_X2_logOf : xk_CV mX2_logOf 1 := ⟨wc_X2_logOf, wn_X2, by decide +kernel, by decide +kernel, by decide⟩
abbrev mX2_logOfDigit : xk_M := (yX2_logOfDigit, cX2_logOfDigit, 2, (some .int))
theorem cv_X2_logOfDigit : xk_CV mX2_logOfDigit 1 := ⟨wc_X2_logOfDigit, wn_X2, by decide +kernel, by decide +kernel, by decide⟩
abbrev mX2_join : xk_M := (yX2_join, cX2_join, 10, none)
theorem cv_X2_join : xk_CV mX2_join 4 := ⟨wc_X2_join, wn_X2, by decide +kernel, by decide +kernel, by decide⟩
abbrev mX9_few : xk_M := (yX9_few, cX9_few, 1, (some .int))
theorem cv_X9_few : xk_CV mX9_few 0 := ⟨wc_X9_few, wn_X9, by decide +kernel, by decide +kernel, by decide⟩
abbrev mX9_leastHeap : xk_M := (yX9_leastHeap, cX9_leastHeap, 4, (some .int))
theorem cv_X9_leastHeap : xk_CV mX9_leastHeap 0 := ⟨wc_X9_leastHeap, wn_X9, by decide +kernel, by decide +kernel, by decide⟩
abbrev mX8_left : xk_M := (yX8_left, cX8_left, 1, (some .int))
theorem cv_X8_left : xk_CV mX8_left 0 := ⟨wc_X8_left, wn_X8, by decide +kernel, by decide +kernel, by decide⟩
abbrev mX9_left : xk_M := (yX9_left, cX9_left, 1, (some .int))
theorem cv_X9_left : xk_CV mX9_left 0 := ⟨wc_X9_left, wn_X9, by decide +kernel, by decide +kernel, by decide⟩
abbrev mX8_row : xk_M := (yX8_row, cX8_row, 3, (some .int))
theorem cv_X8_row : xk_CV mX8_row 2 := ⟨wc_X8_row, wn_X8, by decide +kernel, by decide +kernel, by decide⟩
abbrev mX5_isFull : xk_M := (yX5_isFull, cX5_isFull, 1, (some .boolean))
theorem cv_X5_isFull : xk_CV mX5_isFull 0 := ⟨wc_X5_isFull, wn_X5, by decide +kernel, by decide +kernel, by decide⟩
abbrev mX8_productOfRow : xk_M := (yX8_productOfRow, cX8_productOfRow, 5, (some .long))
theorem cv_X8_productOfRow : xk_CV mX8_productOfRow 1 := ⟨wc_X8_productOfRow, wn_X8, by decide +kernel, by decide +kernel, by decide⟩
abbrev mX9_row : xk_M := (yX9_row, cX9_row, 3, (some .int))
theorem cv_X9_row : xk_CV mX9_row 2 := ⟨wc_X9_row, wn_X9, by decide +kernel, by decide +kernel, by decide⟩
abbrev mX9_areAllSaid : xk_M := (yX9_areAllSaid, cX9_areAllSaid, 1, (some .boolean))
theorem cv_X9_areAllSaid : xk_CV mX9_areAllSaid 0 := ⟨wc_X9_areAllSaid, wn_X9, by decide +kernel, by decide +kernel, by decide⟩
abbrev mX9_rowPart : xk_M := (yX9_rowPart, cX9_rowPart, 9, (some .long))
theorem cv_X9_rowPart : xk_CV mX9_rowPart 2 := ⟨wc_X9_rowPart, wn_X9, by decide +kernel, by decide +kernel, by decide⟩
abbrev mX8_order : xk_M := (yX8_order, cX8_order, 7, (some .int))
theorem cv_X8_order : xk_CV mX8_order 2 := ⟨wc_X8_order, wn_X8, by decide +kernel, by decide +kernel, by decide⟩
abbrev mX9_order : xk_M := (yX9_order, cX9_order, 7, (some .int))
theorem cv_X9_order : xk_CV mX9_order 2 := ⟨wc_X9_order, wn_X9, by decide +kernel, by decide +kernel, by decide⟩
abbrev mX8_least : xk_M := (yX8_least, cX8_least, 3, (some .int))
theorem cv_X8_least : xk_CV mX8_least 1 := ⟨wc_X8_least, wn_X8, by decide +kernel, by decide +kernel, by decide⟩
abbrev mX8_sizeOfGreatestRoot : xk_M := (yX8_sizeOfGreatestRoot, cX8_sizeOfGreatestRoot, 5, (some .int))
theorem cv_X8_sizeOfGreatestRoot : xk_CV mX8_sizeOfGreatestRoot 0 := ⟨wc_X8_sizeOfGreatestRoot, wn_X8, by decide +kernel, by decide +kernel, by decide⟩
abbrev mX4_isAbove : xk_M := (yX4_isAbove, cX4_isAbove, 7, (some .boolean))
theorem cv_X4_isAbove : xk_CV mX4_isAbove 4 := ⟨wc_X4_isAbove, wn_X4, by decide +kernel, by decide +kernel, by decide⟩
abbrev mX0_reset : xk_M := (yX0_reset, cX0_reset, 1, none)
theorem cv_X0_reset : xk_CV mX0_reset 0 := ⟨wc_X0_reset, wn_X0, by decide +kernel, by decide +kernel, by decide⟩
abbrev mX0_multiply : xk_M := (yX0_multiply, cX0_multiply, 10, none)
theorem cv_X0_multiply : xk_CV mX0_multiply 2 := ⟨wc_X0_multiply, wn_X0, by decide +kernel, by decide +kernel, by decide⟩
abbrev mX0_isAbove : xk_M := (yX0_isAbove, cX0_isAbove, 3, (some .boolean))
theorem cv_X0_isAbove : xk_CV mX0_isAbove 1 := ⟨wc_X0_isAbove, wn_X0, by decide +kernel, by decide +kernel, by decide⟩
abbrev mX9_least : xk_M := (yX9_least, cX9_least, 3, (some .int))
theorem cv_X9_least : xk_CV mX9_least 1 := ⟨wc_X9_least, wn_X9, by decide +kernel, by decide +kernel, by decide⟩
abbrev mX9_rings : xk_M := (yX9_rings, cX9_rings, 10, none)
theorem cv_X9_rings : xk_CV mX9_rings 3 := ⟨wc_X9_rings, wn_X9, by decide +kernel, by decide +kernel, by decide⟩
abbrev mX9_ring : xk_M := (yX9_ring, cX9_ring, 13, none)
theorem cv_X9_ring : xk_CV mX9_ring 3 := ⟨wc_X9_ring, wn_X9, by decide +kernel, by decide +kernel, by decide⟩
abbrev mX9_compare : xk_M := (yX9_compare, cX9_compare, 7, (some .int))
theorem cv_X9_compare : xk_CV mX9_compare 3 := ⟨wc_X9_compare, wn_X9, by decide +kernel, by decide +kernel, by decide⟩
abbrev mX9_one : xk_M := (yX9_one, cX9_one, 2, none)
theorem cv_X9_one : xk_CV mX9_one 1 := ⟨wc_X9_one, wn_X9, by decide +kernel, by decide +kernel, by decide⟩
abbrev mX9_times : xk_M := (yX9_times, cX9_times, 10, none)
theorem cv_X9_times : xk_CV mX9_times 3 := ⟨wc_X9_times, wn_X9, by decide +kernel, by decide +kernel, by decide⟩
abbrev mX8_span : xk_M := (yX8_span, cX8_span, 12, (some .boolean))
theorem cv_X8_span : xk_CV mX8_span 3 := ⟨wc_X8_span, wn_X8, by decide +kernel, by decide +kernel, by decide⟩
abbrev mX9_span : xk_M := (yX9_span, cX9_span, 9, (some .boolean))
theorem cv_X9_span : xk_CV mX9_span 3 := ⟨wc_X9_span, wn_X9, by decide +kernel, by decide +kernel, by decide⟩
abbrev mX8_unspan : xk_M := (yX8_unspan, cX8_unspan, 3, (some .boolean))
theorem cv_X8_unspan : xk_CV mX8_unspan 2 := ⟨wc_X8_unspan, wn_X8, by decide +kernel, by decide +kernel, by decide⟩
abbrev mX9_unspan : xk_M := (yX9_unspan, cX9_unspan, 3, (some .boolean))
theorem cv_X9_unspan : xk_CV mX9_unspan 2 := ⟨wc_X9_unspan, wn_X9, by decide +kernel, by decide +kernel, by decide⟩
abbrev mX8_can : xk_M := (yX8_can, cX8_can, 1, (some .boolean))
theorem cv_X8_can : xk_CV mX8_can 0 := ⟨wc_X8_can, wn_X8, by decide +kernel, by decide +kernel, by decide⟩
abbrev mX9_can : xk_M := (yX9_can, cX9_can, 2, (some .boolean))
theorem cv_X9_can : xk_CV mX9_can 0 := ⟨wc_X9_can, wn_X9, by decide +kernel, by decide +kernel, by decide⟩
abbrev mX9_goes : xk_M := (yX9_goes, cX9_goes, 3, none)
theorem cv_X9_goes : xk_CV mX9_goes 2 := ⟨wc_X9_goes, wn_X9, by decide +kernel, by decide +kernel, by decide⟩
abbrev mX9_ways : xk_M := (yX9_ways, cX9_ways, 11, none)
theorem cv_X9_ways : xk_CV mX9_ways 4 := ⟨wc_X9_ways, wn_X9, by decide +kernel, by decide +kernel, by decide⟩
abbrev mX9_isSpan : xk_M := (yX9_isSpan, cX9_isSpan, 3, (some .boolean))
theorem cv_X9_isSpan : xk_CV mX9_isSpan 2 := ⟨wc_X9_isSpan, wn_X9, by decide +kernel, by decide +kernel, by decide⟩
abbrev mX9_lowOver : xk_M := (yX9_lowOver, cX9_lowOver, 3, (some .int))
theorem cv_X9_lowOver : xk_CV mX9_lowOver 2 := ⟨wc_X9_lowOver, wn_X9, by decide +kernel, by decide +kernel, by decide⟩
abbrev mX9_lowUnder : xk_M := (yX9_lowUnder, cX9_lowUnder, 3, (some .int))
theorem cv_X9_lowUnder : xk_CV mX9_lowUnder 2 := ⟨wc_X9_lowUnder, wn_X9, by decide +kernel, by decide +kernel, by decide⟩
abbrev mX8_bound : xk_M := (yX8_bound, cX8_bound, 6, (some .int))
theorem cv_X8_bound : xk_CV mX8_bound 3 := ⟨wc_X8_bound, wn_X8, by decide +kernel, by decide +kernel, by decide⟩
abbrev mX8_greatestWay : xk_M := (yX8_greatestWay, cX8_greatestWay, 14, (some .long))
theorem cv_X8_greatestWay : xk_CV mX8_greatestWay 5 := ⟨wc_X8_greatestWay, wn_X8, by decide +kernel, by decide +kernel, by decide⟩
abbrev mX9_bound : xk_M := (yX9_bound, cX9_bound, 4, (some .int))
theorem cv_X9_bound : xk_CV mX9_bound 3 := ⟨wc_X9_bound, wn_X9, by decide +kernel, by decide +kernel, by decide⟩
abbrev mX8_count : xk_M := (yX8_count, cX8_count, 2, (some .int))
theorem cv_X8_count : xk_CV mX8_count 1 := ⟨wc_X8_count, wn_X8, by decide +kernel, by decide +kernel, by decide⟩
abbrev mX9_count : xk_M := (yX9_count, cX9_count, 4, (some .int))
theorem cv_X9_count : xk_CV mX9_count 1 := ⟨wc_X9_count, wn_X9, by decide +kernel, by decide +kernel, by decide⟩
abbrev mJ9_min : xk_M := (Lib.Math.min.name, Lib.Math.min.code, 2, (some .int))
theorem cv_J9_min : xk_CV mJ9_min 2 := ⟨wo_code_Lib_Math_min_name_Lib_Math_min_code_2_some_int_, wo_initialized_java_lang_Math_, by decide +kernel, by decide +kernel, by decide⟩
abbrev mJ9_max : xk_M := (Lib.Math.max.name, Lib.Math.max.code, 2, (some .int))
theorem cv_J9_max : xk_CV mJ9_max 2 := ⟨wo_code_Lib_Math_max_name_Lib_Math_max_code_2_some_int_, wo_initialized_java_lang_Math_, by decide +kernel, by decide +kernel, by decide⟩
abbrev mJ9_maxl : xk_M := (Lib.MathLoose.max_long.x, Lib.MathLoose.max_long.code, 4, (some .long))
theorem cv_J9_maxl : xk_CV mJ9_maxl 2 := ⟨wo_code_Lib_MathLoose_max_long_x_Lib_MathLoose_max_long_code_4_, wo_initialized_java_lang_Math_, by decide +kernel, by decide +kernel, by decide⟩
abbrev mJ9_minl : xk_M := (Lib.MathLoose.min_long.x, Lib.MathLoose.min_long.code, 4, (some .long))
theorem cv_J9_minl : xk_CV mJ9_minl 2 := ⟨wo_code_Lib_MathLoose_min_long_x_Lib_MathLoose_min_long_code_4_, wo_initialized_java_lang_Math_, by decide +kernel, by decide +kernel, by decide⟩
end
section
/-! Math.max and min, over the abstract heap. Own text. -/
section XKG
variable {d mc ms : Nat} {M : xk_M} {fx : Nat → Prop} {out : Option Value → xk_H → Prop} {cs ss pc : Nat} {ls : List (Option Value)} {st : List Value} {hs : xk_H}
theorem xk_mmax {index : Nat} {x y : Int32} (hd : decode M.2.1 pc = .ok (.invokestatic index, 3)) (hlk : Cond.methodLink M.1.cls index Lib.Math.max.name ∈ xk_WS) (h1 : 1 ≤ d) (hcs : cs ≤ mc) (hss : ss ≤ ms) (hcat : (st.map fun v => v.category).sum ≤ 8) (kk : xk_X d mc ms M fx out cs ss (pc + 3) ls (.int (if x < y then y else x) :: st) hs) : xk_X d mc ms M fx out cs ss pc ls (.int y :: .int x :: st) hs := by
  intro G ad0 ad p l e s m args below meth c A H locs la C hf hP hD hS hl O
  have hcat' : ((st.map (xk_v ad)).map fun v => v.category).sum ≤ 8 := by
    rw [List.map_map]
    have : ((fun v : Value => v.category) ∘ xk_v ad) = fun v => v.category := funext fun v => xk_cat ad v
    rw [this]
    exact hcat
  have hts := C.2.2.2.2.1
  exact va_mmax C.1 C.2.1 (by rw [C.2.2.1]; exact hl.1.symm) C.2.2.2.2.2.1 (hts _ hlk) (hts _ wo_static_Lib_Math_max_name) (hts _ wo_initialized_java_lang_Math_) (hts _ wo_code_Lib_Math_max_name_Lib_Math_max_code_2_some_int_) h1 (by show _ + 13 ≤ 40 * d; omega) hcs hss hd (kk G ad0 ad p l e s m args below meth c A H locs la C hf hP hD hS hl ⟨O.1, xk_cs trivial (xk_tl (xk_tl O.2.1)), O.2.2⟩)
theorem xk_mmin {index : Nat} {x y : Int32} (hd : decode M.2.1 pc = .ok (.invokestatic index, 3)) (hlk : Cond.methodLink M.1.cls index Lib.Math.min.name ∈ xk_WS) (h1 : 1 ≤ d) (hcs : cs ≤ mc) (hss : ss ≤ ms) (hcat : (st.map fun v => v.category).sum ≤ 8) (kk : xk_X d mc ms M fx out cs ss (pc + 3) ls (.int (if y < x then y else x) :: st) hs) : xk_X d mc ms M fx out cs ss pc ls (.int y :: .int x :: st) hs := by
  intro G ad0 ad p l e s m args below meth c A H locs la C hf hP hD hS hl O
  have hcat' : ((st.map (xk_v ad)).map fun v => v.category).sum ≤ 8 := by
    rw [List.map_map]
    have : ((fun v : Value => v.category) ∘ xk_v ad) = fun v => v.category := funext fun v => xk_cat ad v
    rw [this]
    exact hcat
  have hts := C.2.2.2.2.1
  exact va_mmin C.1 C.2.1 (by rw [C.2.2.1]; exact hl.1.symm) C.2.2.2.2.2.1 (hts _ hlk) (hts _ wo_static_Lib_Math_min_name) (hts _ wo_initialized_java_lang_Math_) (hts _ wo_code_Lib_Math_min_name_Lib_Math_min_code_2_some_int_) h1 (by show _ + 13 ≤ 40 * d; omega) hcs hss hd (kk G ad0 ad p l e s m args below meth c A H locs la C hf hP hD hS hl ⟨O.1, xk_cs trivial (xk_tl (xk_tl O.2.1)), O.2.2⟩)
theorem xk_mmax_long {index : Nat} {x y : Int64} (hd : decode M.2.1 pc = .ok (.invokestatic index, 3)) (hlk : Cond.methodLink M.1.cls index Lib.MathLoose.max_long.x ∈ xk_WS) (h1 : 1 ≤ d) (hcs : cs ≤ mc) (hss : ss ≤ ms) (hcat : (st.map fun v => v.category).sum ≤ 8) (kk : xk_X d mc ms M fx out cs ss (pc + 3) ls (.long (if y < x then x else y) :: st) hs) : xk_X d mc ms M fx out cs ss pc ls (.long y :: .long x :: st) hs := by
  intro G ad0 ad p l e s m args below meth c A H locs la C hf hP hD hS hl O
  have hcat' : ((st.map (xk_v ad)).map fun v => v.category).sum ≤ 8 := by
    rw [List.map_map]
    have : ((fun v : Value => v.category) ∘ xk_v ad) = fun v => v.category := funext fun v => xk_cat ad v
    rw [this]
    exact hcat
  have hts := C.2.2.2.2.1
  exact va_mmax_long C.1 C.2.1 (by rw [C.2.2.1]; exact hl.1.symm) C.2.2.2.2.2.1 (hts _ hlk) (hts _ wo_static_Lib_MathLoose_max_long_x) (hts _ wo_initialized_java_lang_Math_) (hts _ wo_code_Lib_MathLoose_max_long_x_Lib_MathLoose_max_long_code_4_) h1 (by show _ + 15 ≤ 40 * d; omega) hcs hss hd (kk G ad0 ad p l e s m args below meth c A H locs la C hf hP hD hS hl ⟨O.1, xk_cs trivial (xk_tl (xk_tl O.2.1)), O.2.2⟩)
theorem xk_mmin_long {index : Nat} {x y : Int64} (hd : decode M.2.1 pc = .ok (.invokestatic index, 3)) (hlk : Cond.methodLink M.1.cls index Lib.MathLoose.min_long.x ∈ xk_WS) (h1 : 1 ≤ d) (hcs : cs ≤ mc) (hss : ss ≤ ms) (hcat : (st.map fun v => v.category).sum ≤ 8) (kk : xk_X d mc ms M fx out cs ss (pc + 3) ls (.long (if y < x then y else x) :: st) hs) : xk_X d mc ms M fx out cs ss pc ls (.long y :: .long x :: st) hs := by
  intro G ad0 ad p l e s m args below meth c A H locs la C hf hP hD hS hl O
  have hcat' : ((st.map (xk_v ad)).map fun v => v.category).sum ≤ 8 := by
    rw [List.map_map]
    have : ((fun v : Value => v.category) ∘ xk_v ad) = fun v => v.category := funext fun v => xk_cat ad v
    rw [this]
    exact hcat
  have hts := C.2.2.2.2.1
  exact va_mmin_long C.1 C.2.1 (by rw [C.2.2.1]; exact hl.1.symm) C.2.2.2.2.2.1 (hts _ hlk) (hts _ wo_static_Lib_MathLoose_min_long_x) (hts _ wo_initialized_java_lang_Math_) (hts _ wo_code_Lib_MathLoose_min_long_x_Lib_MathLoose_min_long_code_4_) h1 (by show _ + 15 ≤ 40 * d; omega) hcs hss hd (kk G ad0 ad p l e s m args below meth c A H locs la C hf hP hD hS hl ⟨O.1, xk_cs trivial (xk_tl (xk_tl O.2.1)), O.2.2⟩)
end XKG
end
section
/-! Fractions as longs, and Euclid. Own text. -/
def fr (p q : Nat) : Int64 := lN (p * 4294967296 + q)
theorem fr_of {p q : Nat} (hp : p < 2147483648) (hq : q < 4294967296) : (lN p <<< ((32 : Int32).toInt64 &&& 63)) ||| lN q = fr p q := by
  have h1 : lN p <<< ((32 : Int32).toInt64 &&& 63) = lN (p * 2 ^ 32) := wb_shl p (k := 32) (by decide)
  rw [h1]
  exact g_or (k := 32) (p := 2 ^ 32) (a := q) (b := p) rfl hq (by omega)
theorem fr_top {p q : Nat} (hp : p < 2147483648) (hq : q < 4294967296) : ((fr p q).toUInt64 >>> ((32 : Int32).toInt64.toUInt64 &&& Int64.toUInt64 63)).toInt64 = lN p := by
  have h1 : ((fr p q).toUInt64 >>> ((32 : Int32).toInt64.toUInt64 &&& Int64.toUInt64 63)).toInt64 = lN ((p * 4294967296 + q) / 2 ^ 32) := wb_shr (n := p * 4294967296 + q) (k := 32) (by omega) (by decide)
  rw [h1]
  congr 1
  omega
theorem fr_bot {p q : Nat} (hp : p < 2147483648) (hq : q < 4294967296) : fr p q &&& 4294967295 = lN q := by
  have h1 : fr p q &&& 4294967295 = lN ((p * 4294967296 + q) % 4294967296) := g_mask (a := p * 4294967296 + q) (s := 32) (p := 4294967296) rfl (by decide) (by omega)
  rw [h1]
  congr 1
  omega
theorem fr_inj {p q r s : Nat} (hp : p < 2147483648) (hq : q < 4294967296) (hr : r < 2147483648) (hs : s < 4294967296) : fr p q = fr r s ↔ p = r ∧ q = s := by
  unfold fr
  rw [pk_lEQ (by omega) (by omega)]
  constructor
  · intro h; omega
  · rintro ⟨rfl, rfl⟩; rfl
theorem lc_le {a b : Nat} (ha : a < 2 ^ 63) (hb : b < 2 ^ 63) : lg_cmp (lN a) (lN b) ≤ 0 ↔ a ≤ b := by rw [lg_cmp_le, pk_lLE ha hb]
theorem lc_lt {a b : Nat} (ha : a < 2 ^ 63) (hb : b < 2 ^ 63) : lg_cmp (lN a) (lN b) < 0 ↔ a < b := by rw [lg_cmp_lt, pk_lLT ha hb]
theorem lc_gt {a b : Nat} (ha : a < 2 ^ 63) (hb : b < 2 ^ 63) : 0 < lg_cmp (lN a) (lN b) ↔ b < a := by rw [lg_cmp_gt, pk_lLT hb ha]
theorem lc_ge {a b : Nat} (ha : a < 2 ^ 63) (hb : b < 2 ^ 63) : 0 ≤ lg_cmp (lN a) (lN b) ↔ b ≤ a := by rw [lg_cmp_ge, pk_lLE hb ha]
theorem lc_eq {a b : Nat} (ha : a < 2 ^ 63) (hb : b < 2 ^ 63) : lg_cmp (lN a) (lN b) = 0 ↔ a = b := by rw [lg_cmp_eq, pk_lEQ ha hb]
/-- Euclid with so many steps at most -/
def eu : Nat → Nat → Nat → Nat
  | 0, a, _ => a
  | f + 1, a, b => if b = 0 then a else eu f b (a % b)
theorem eu_0 (f a : Nat) : eu f a 0 = a := by cases f <;> rfl
theorem eu_gcd : ∀ (k f a b : Nat), b < 2 ^ k → 2 * k ≤ f → eu f a b = Nat.gcd a b
  | 0, f, a, b, hb, _ => by
    have : b = 0 := by omega
    subst this
    rw [eu_0, Nat.gcd_zero_right]
  | k + 1, 0, a, b, _, hf => by omega
  | k + 1, 1, a, b, _, hf => by omega
  | k + 1, f + 2, a, b, hb, hf => by
    by_cases h0 : b = 0
    · subst h0
      rw [eu_0, Nat.gcd_zero_right]
    · have hlt := Nat.mod_lt a (Nat.pos_of_ne_zero h0)
      rw [eu, if_neg h0]
      have e1 : Nat.gcd a b = Nat.gcd b (a % b) := by rw [Nat.gcd_comm, Nat.gcd_rec, Nat.gcd_comm]
      by_cases h1 : a % b = 0
      · rw [e1, h1, eu_0, Nat.gcd_zero_right]
      · rw [eu, if_neg h1, e1]
        have e2 : Nat.gcd b (a % b) = Nat.gcd (a % b) (b % (a % b)) := by
          rw [Nat.gcd_comm, Nat.gcd_rec, Nat.gcd_comm]
        rw [e2]
        refine eu_gcd k f _ _ ?_ (by omega)
        generalize a % b = r at hlt h1 ⊢
        have hr := Nat.mod_lt b (Nat.pos_of_ne_zero h1)
        have hd := Nat.div_add_mod b r
        have hq : 1 ≤ b / r := Nat.div_pos (Nat.le_of_lt hlt) (Nat.pos_of_ne_zero h1)
        have hm : r * 1 ≤ r * (b / r) := Nat.mul_le_mul_left r hq
        have hp : 2 ^ (k + 1) = 2 * 2 ^ k := by rw [Nat.pow_succ]; omega
        omega
theorem eu_100 {a b : Nat} (hb : b < 2 ^ 40) : eu 100 a b = Nat.gcd a b := eu_gcd 40 100 a b hb (by decide)
/-- the parts of a fraction in lowest terms -/
def lowT (p q : Nat) : Nat := p / Nat.gcd p q
def lowB (p q : Nat) : Nat := q / Nat.gcd p q
theorem xb_t {b : Bool} (h : b = true) : xk_b b = 1 := by rw [h]; rfl
theorem xb_f {b : Bool} (h : b = false) : xk_b b = 0 := by rw [h]; rfl
theorem xd_t {P : Prop} [Decidable P] (h : P) : xk_b (decide P) = 1 := xb_t (decide_eq_true h)
theorem xd_f {P : Prop} [Decidable P] (h : ¬ P) : xk_b (decide P) = 0 := xb_f (decide_eq_false h)
theorem xs_same {hs : xk_H} {a : Nat} {e : xk_C} (h : hs[a]? = some e) : hs.set a e = hs := by
  apply List.ext_getElem?
  intro j
  rw [List.getElem?_set]
  by_cases hj : a = j
  · subst hj
    rw [h, if_pos rfl, if_pos (List.getElem?_eq_some_iff.mp h).1]
  · rw [if_neg hj]
theorem xs_at {hs : xk_H} {a : Nat} {e e0 : xk_C} (h : hs[a]? = some e0) : (hs.set a e)[a]? = some e := by
  rw [List.getElem?_set, if_pos rfl, if_pos (List.getElem?_eq_some_iff.mp h).1]
theorem xs_ne {hs : xk_H} {a b : Nat} {e : xk_C} (h : a ≠ b) : (hs.set a e)[b]? = hs[b]? := List.getElem?_set_ne h
/-- the first so many places hold v -/
def fillF (f : Nat → Int64) (i : Nat) (v : Int64) : Nat → Int64 := fun j => if j < i then v else f j
theorem fillF_0 (f : Nat → Int64) (v : Int64) : fillF f 0 v = f := funext fun j => by simp [fillF]
theorem fillF_s (f : Nat → Int64) (i : Nat) (v : Int64) : vp_updL (fillF f i v) i v = fillF f (i + 1) v := funext fun j => by
  simp only [vp_updL, fillF]
  by_cases h : j = i
  · subst h; simp
  · by_cases h2 : j < i
    · simp [h, h2, Nat.lt_succ_of_lt h2]
    · simp [h, h2, show ¬ j < i + 1 by omega]
theorem xz1 {b : Bool} (h : b = true) : some (Value.int 1) = some (Value.int (xk_b b)) := by rw [xb_t h]
theorem xz0 {b : Bool} (h : b = false) : some (Value.int 0) = some (Value.int (xk_b b)) := by rw [xb_f h]
end
section
/-! Fraction: contracts. Laid by a program of our own. -/
set_option maxHeartbeats 4000000 in
set_option maxRecDepth 100000 in
theorem y_X1_of (d : Nat) {p q : Nat} {hs : xk_H} (hp : p < 2147483648) (hq : q < 4294967296) : xk_F d mX1_of [.long (lN p), .long (lN q)] hs (some (.long (fr p q))) hs := by
  refine xk_Y.ofX (k := 0) (ls := [some (.long (lN p)), none, some (.long (lN q)), none]) (by decide) rfl rfl ?_
  refine xk_lload_n dX1_of_0 rfl ?_
  refine xk_bipush (32) dX1_of_1 (by decide) ?_
  refine xk_lshl dX1_of_3 ?_
  refine xk_lload_n dX1_of_4 rfl ?_
  refine xk_lor dX1_of_5 ?_
  exact xk_lret rfl dX1_of_6 (Nat.le_refl _) (Nat.le_refl _) ⟨by rw [fr_of hp hq], rfl⟩

set_option maxHeartbeats 4000000 in
set_option maxRecDepth 100000 in
theorem y_X1_top (d : Nat) {p q : Nat} {hs : xk_H} (hp : p < 2147483648) (hq : q < 4294967296) : xk_F d mX1_top [.long (fr p q)] hs (some (.long (lN p))) hs := by
  refine xk_Y.ofX (k := 0) (ls := [some (.long (fr p q)), none]) (by decide) rfl rfl ?_
  refine xk_lload_n dX1_top_0 rfl ?_
  refine xk_bipush (32) dX1_top_1 (by decide) ?_
  refine xk_lushr dX1_top_3 ?_
  exact xk_lret rfl dX1_top_4 (Nat.le_refl _) (Nat.le_refl _) ⟨by rw [fr_top hp hq], rfl⟩

set_option maxHeartbeats 4000000 in
set_option maxRecDepth 100000 in
theorem y_X1_bottom (d : Nat) {p q : Nat} {hs : xk_H} (hp : p < 2147483648) (hq : q < 4294967296) : xk_F d mX1_bottom [.long (fr p q)] hs (some (.long (lN q))) hs := by
  refine xk_Y.ofX (k := 0) (ls := [some (.long (fr p q)), none]) (by decide) rfl rfl ?_
  refine xk_lload_n dX1_bottom_0 rfl ?_
  refine xk_ldc2 dX1_bottom_1 wk_X1_7 ?_
  refine xk_land dX1_bottom_4 ?_
  exact xk_lret rfl dX1_bottom_5 (Nat.le_refl _) (Nat.le_refl _) ⟨by rw [fr_bot hp hq], rfl⟩

set_option maxHeartbeats 4000000 in
set_option maxRecDepth 100000 in
theorem y_X1_times (d : Nat) {p q r s : Nat} {hs : xk_H} (hp : p < 2147483648) (hq : q < 2147483648) (hr : r < 2147483648) (hs2 : s < 2147483648) (hpr : p * r < 2147483648) (hqs : q * s < 2147483648) : xk_F (d + 1) mX1_times [.long (fr p q), .long (fr r s)] hs (some (.long (fr (p * r) (q * s)))) hs := by
  refine xk_Y.ofX (k := 0) (ls := [some (.long (fr p q)), none, some (.long (fr r s)), none]) (by decide) rfl rfl ?_
  refine xk_lload_n dX1_times_0 rfl ?_
  refine xk_s1c (M' := mX1_top) (d' := d) dX1_times_1 wm_X1_9 cv_X1_top wt_X1_top (by omega) (Nat.le_refl _) (Nat.le_refl _) (Nat.le_of_ble_eq_true rfl) (y_X1_top d (by omega) (by omega)) rfl ?_
  refine xk_lload_n dX1_times_4 rfl ?_
  refine xk_s1c (M' := mX1_top) (d' := d) dX1_times_5 wm_X1_9 cv_X1_top wt_X1_top (by omega) (Nat.le_refl _) (Nat.le_refl _) (Nat.le_of_ble_eq_true rfl) (y_X1_top d (by omega) (by omega)) rfl ?_
  refine xk_lmul dX1_times_8 ?_
  rw [lN_mul]
  refine xk_lload_n dX1_times_9 rfl ?_
  refine xk_s1c (M' := mX1_bottom) (d' := d) dX1_times_10 wm_X1_15 cv_X1_bottom wt_X1_bottom (by omega) (Nat.le_refl _) (Nat.le_refl _) (Nat.le_of_ble_eq_true rfl) (y_X1_bottom d (by omega) (by omega)) rfl ?_
  refine xk_lload_n dX1_times_13 rfl ?_
  refine xk_s1c (M' := mX1_bottom) (d' := d) dX1_times_14 wm_X1_15 cv_X1_bottom wt_X1_bottom (by omega) (Nat.le_refl _) (Nat.le_refl _) (Nat.le_of_ble_eq_true rfl) (y_X1_bottom d (by omega) (by omega)) rfl ?_
  refine xk_lmul dX1_times_17 ?_
  rw [lN_mul]
  refine xk_s2c (M' := mX1_of) (d' := d) dX1_times_18 wm_X1_18 cv_X1_of wt_X1_of (by omega) (Nat.le_refl _) (Nat.le_refl _) (Nat.le_of_ble_eq_true rfl) (y_X1_of d hpr (by omega)) rfl ?_
  exact xk_lret rfl dX1_times_21 (Nat.le_refl _) (Nat.le_refl _) ⟨rfl, rfl⟩

set_option maxHeartbeats 4000000 in
set_option maxRecDepth 100000 in
theorem y_X1_inverse (d : Nat) {p q : Nat} {hs : xk_H} (hp : p < 2147483648) (hq : q < 2147483648) : xk_F (d + 1) mX1_inverse [.long (fr p q)] hs (some (.long (fr q p))) hs := by
  refine xk_Y.ofX (k := 0) (ls := [some (.long (fr p q)), none]) (by decide) rfl rfl ?_
  refine xk_lload_n dX1_inverse_0 rfl ?_
  refine xk_s1c (M' := mX1_bottom) (d' := d) dX1_inverse_1 wm_X1_15 cv_X1_bottom wt_X1_bottom (by omega) (Nat.le_refl _) (Nat.le_refl _) (Nat.le_of_ble_eq_true rfl) (y_X1_bottom d (by omega) (by omega)) rfl ?_
  refine xk_lload_n dX1_inverse_4 rfl ?_
  refine xk_s1c (M' := mX1_top) (d' := d) dX1_inverse_5 wm_X1_9 cv_X1_top wt_X1_top (by omega) (Nat.le_refl _) (Nat.le_refl _) (Nat.le_of_ble_eq_true rfl) (y_X1_top d (by omega) (by omega)) rfl ?_
  refine xk_s2c (M' := mX1_of) (d' := d) dX1_inverse_8 wm_X1_18 cv_X1_of wt_X1_of (by omega) (Nat.le_refl _) (Nat.le_refl _) (Nat.le_of_ble_eq_true rfl) (y_X1_of d (by omega) (by omega)) rfl ?_
  exact xk_lret rfl dX1_inverse_11 (Nat.le_refl _) (Nat.le_refl _) ⟨rfl, rfl⟩

set_option maxHeartbeats 4000000 in
set_option maxRecDepth 100000 in
theorem y_X1_isAbove (d : Nat) {p q r s : Nat} {hs : xk_H} (hp : p < 2147483648) (hq : q < 2147483648) (hr : r < 2147483648) (hs2 : s < 2147483648) : xk_F (d + 1) mX1_isAbove [.long (fr p q), .long (fr r s)] hs (some (.int (xk_b (decide (r * q < p * s))))) hs := by
  have h1 : p * s < 2 ^ 63 := Nat.lt_of_le_of_lt (Nat.mul_le_mul (Nat.le_of_lt hp) (Nat.le_of_lt hs2)) (by decide)
  have h2 : r * q < 2 ^ 63 := Nat.lt_of_le_of_lt (Nat.mul_le_mul (Nat.le_of_lt hr) (Nat.le_of_lt hq)) (by decide)
  refine xk_Y.ofX (k := 0) (ls := [some (.long (fr p q)), none, some (.long (fr r s)), none]) (by decide) rfl rfl ?_
  refine xk_lload_n dX1_isAbove_0 rfl ?_
  refine xk_s1c (M' := mX1_top) (d' := d) dX1_isAbove_1 wm_X1_9 cv_X1_top wt_X1_top (by omega) (Nat.le_refl _) (Nat.le_refl _) (Nat.le_of_ble_eq_true rfl) (y_X1_top d (by omega) (by omega)) rfl ?_
  refine xk_lload_n dX1_isAbove_4 rfl ?_
  refine xk_s1c (M' := mX1_bottom) (d' := d) dX1_isAbove_5 wm_X1_15 cv_X1_bottom wt_X1_bottom (by omega) (Nat.le_refl _) (Nat.le_refl _) (Nat.le_of_ble_eq_true rfl) (y_X1_bottom d (by omega) (by omega)) rfl ?_
  refine xk_lmul dX1_isAbove_8 ?_
  rw [lN_mul]
  refine xk_lload_n dX1_isAbove_9 rfl ?_
  refine xk_s1c (M' := mX1_top) (d' := d) dX1_isAbove_10 wm_X1_9 cv_X1_top wt_X1_top (by omega) (Nat.le_refl _) (Nat.le_refl _) (Nat.le_of_ble_eq_true rfl) (y_X1_top d (by omega) (by omega)) rfl ?_
  refine xk_lload_n dX1_isAbove_13 rfl ?_
  refine xk_s1c (M' := mX1_bottom) (d' := d) dX1_isAbove_14 wm_X1_15 cv_X1_bottom wt_X1_bottom (by omega) (Nat.le_refl _) (Nat.le_refl _) (Nat.le_of_ble_eq_true rfl) (y_X1_bottom d (by omega) (by omega)) rfl ?_
  refine xk_lmul dX1_isAbove_17 ?_
  rw [lN_mul]
  refine xk_lcmp dX1_isAbove_18 ?_
  refine xk_if_le 26 dX1_isAbove_19 (by decide) (fun c19 => ?_) (fun c19 => ?_)
  · rw [lc_le h1 h2] at c19
    refine xk_iconst (0) dX1_isAbove_26 (by decide) ?_
    exact xk_zret rfl (by rfl) dX1_isAbove_27 (Nat.le_refl _) (Nat.le_refl _) ⟨by first | rw [xd_t (by omega)] | rw [xd_f (by omega)], rfl⟩
  · rw [lc_le h1 h2] at c19
    refine xk_iconst (1) dX1_isAbove_22 (by decide) ?_
    refine xk_goto 27 dX1_isAbove_23 (by decide) ?_
    exact xk_zret rfl (by rfl) dX1_isAbove_27 (Nat.le_refl _) (Nat.le_refl _) ⟨by first | rw [xd_t (by omega)] | rw [xd_f (by omega)], rfl⟩

set_option maxHeartbeats 4000000 in
set_option maxRecDepth 100000 in
/-- the loop of Euclid's steps -/
theorem l_X1_commonDivisor (d : Nat) {hs : xk_H} : ∀ (n a b f : Nat) (o0 o2 o9 : Option Value), a < 2 ^ 62 → b < 2 ^ 62 → f + n = 100 → xk_P d mX1_commonDivisor [] hs (some (.long (lN (eu n a b)))) hs 9 [o0, none, o2, none, some (.long (lN a)), none, some (.long (lN b)), none, some (.int (nI f)), o9, none] [] hs := by
  intro n
  induction n with
  | zero =>
    intro a b f o0 o2 o9 ha hb hfn
    refine xk_iload dX1_commonDivisor_9 rfl ?_
    refine xk_bipush (100) dX1_commonDivisor_11 (by decide) ?_
    refine xk_icmp_ge 44 dX1_commonDivisor_13 (by decide) (fun c13 => ?_) (fun c13 => ?_)
    · refine xk_lload dX1_commonDivisor_44 rfl ?_
      exact xk_lret rfl dX1_commonDivisor_46 (Nat.le_refl _) (Nat.le_refl _) ⟨rfl, rfl⟩
    · exact absurd ((nI_leI (by decide) (by omega)).mpr (by omega : 100 ≤ f)) c13
  | succ n ih =>
    intro a b f o0 o2 o9 ha hb hfn
    refine xk_iload dX1_commonDivisor_9 rfl ?_
    refine xk_bipush (100) dX1_commonDivisor_11 (by decide) ?_
    refine xk_icmp_ge 44 dX1_commonDivisor_13 (by decide) (fun c13 => ?_) (fun c13 => ?_)
    · exact absurd ((nI_leI (a := 100) (b := f) (by decide) (by omega)).mp c13) (by omega)
    · refine xk_lload dX1_commonDivisor_16 rfl ?_
      refine xk_lconst (0) dX1_commonDivisor_18 (by decide) ?_
      refine xk_lcmp dX1_commonDivisor_19 ?_
      refine xk_if_eq 44 dX1_commonDivisor_20 (by decide) (fun c20 => ?_) (fun c20 => ?_)
      · have hb0 : b = 0 := (lc_eq (b := 0) (by omega) (by decide)).mp c20
        subst hb0
        refine xk_lload dX1_commonDivisor_44 rfl ?_
        exact xk_lret rfl dX1_commonDivisor_46 (Nat.le_refl _) (Nat.le_refl _) ⟨by rw [eu_0], rfl⟩
      · have hb0 : ¬ b = 0 := fun q => c20 ((lc_eq (b := 0) (by omega) (by decide)).mpr q)
        refine xk_lload dX1_commonDivisor_23 rfl ?_
        refine xk_lload dX1_commonDivisor_25 rfl ?_
        refine xk_lrem dX1_commonDivisor_27 (fun q => hb0 ((pk_lEQ (by omega) (by decide)).mp q)) ?_
        rw [pk_lRem (by omega) (by omega) (by omega)]
        refine xk_lstore dX1_commonDivisor_28 (by decide) ?_
        dsimp only [xk_s1, xk_s2, xk_kill]
        refine xk_lload dX1_commonDivisor_30 rfl ?_
        refine xk_lstore dX1_commonDivisor_32 (by decide) ?_
        dsimp only [xk_s1, xk_s2, xk_kill]
        refine xk_lload dX1_commonDivisor_34 rfl ?_
        refine xk_lstore dX1_commonDivisor_36 (by decide) ?_
        dsimp only [xk_s1, xk_s2, xk_kill]
        refine xk_iinc (nI (f + 1)) dX1_commonDivisor_38 rfl (nI_1 f) (by decide) ?_
        dsimp only [xk_s1, xk_s2, xk_kill]
        refine xk_goto 9 dX1_commonDivisor_41 (by decide) ?_
        rw [show eu (n + 1) a b = eu n b (a % b) by rw [eu, if_neg hb0]]
        exact ih b (a % b) (f + 1) _ _ _ hb (Nat.lt_trans (Nat.mod_lt _ (Nat.pos_of_ne_zero hb0)) hb) (by omega)

set_option maxHeartbeats 4000000 in
set_option maxRecDepth 100000 in
theorem y_X1_commonDivisor (d : Nat) {a b : Nat} {hs : xk_H} (ha : a < 1099511627776) (hb : b < 1099511627776) : xk_F d mX1_commonDivisor [.long (lN a), .long (lN b)] hs (some (.long (lN (Nat.gcd a b)))) hs := by
  refine xk_Y.ofX (k := 7) (ls := [some (.long (lN a)), none, some (.long (lN b)), none, none, none, none, none, none, none, none]) (by decide) rfl rfl ?_
  refine xk_lload_n dX1_commonDivisor_0 rfl ?_
  refine xk_lstore dX1_commonDivisor_1 (by decide) ?_
  dsimp only [xk_s1, xk_s2, xk_kill]
  refine xk_lload_n dX1_commonDivisor_3 rfl ?_
  refine xk_lstore dX1_commonDivisor_4 (by decide) ?_
  dsimp only [xk_s1, xk_s2, xk_kill]
  refine xk_iconst (0) dX1_commonDivisor_6 (by decide) ?_
  refine xk_istore dX1_commonDivisor_7 (by decide) ?_
  dsimp only [xk_s1, xk_s2, xk_kill]
  rw [← eu_100 (a := a) (b := b) (by omega)]
  exact l_X1_commonDivisor d 100 a b 0 _ _ _ (by omega) (by omega) rfl

set_option maxHeartbeats 4000000 in
set_option maxRecDepth 100000 in
/-- part: a fraction's top or bottom in lowest terms -/
theorem y_X1_part (d : Nat) {p q : Nat} {w : Int32} {hs : xk_H} (hp : p < 2147483648) (hq : q < 2147483648) : xk_F (d + 1) mX1_part [.long (fr p q), .int w] hs (some (.int (nI (if w = 0 then lowT p q else lowB p q)))) hs := by
  have hgp : Nat.gcd p q ≤ p ∨ Nat.gcd p q ≤ q := by
    by_cases h0 : p = 0
    · right; rw [h0, Nat.gcd_zero_left]; exact Nat.le_refl _
    · left; exact Nat.gcd_le_left q (Nat.pos_of_ne_zero h0)
  have j15 : ∀ (x : Nat), x = (if w = 0 then p else q) → xk_P (d + 1) mX1_part [.long (fr p q), .int w] hs (some (.int (nI (if w = 0 then lowT p q else lowB p q)))) hs 15 [some (.long (fr p q)), none, some (.int w), none, none, none, none] [.long (lN x)] hs := by
    intro x hx
    have hxb : x < 2147483648 := by rw [hx]; split <;> assumption
    have hg1 : 1 < Nat.gcd p q → nI (x / Nat.gcd p q) = nI (if w = 0 then lowT p q else lowB p q) := fun _ => by
      rw [hx]; unfold lowT lowB; split <;> rfl
    have hg0 : Nat.gcd p q ≤ 1 → nI x = nI (if w = 0 then lowT p q else lowB p q) := fun h => by
      rw [hx]; unfold lowT lowB
      rcases Nat.lt_or_ge 0 (Nat.gcd p q) with h1 | h1
      · rw [show Nat.gcd p q = 1 by omega, Nat.div_one, Nat.div_one]
      · have h0 := Nat.gcd_eq_zero_iff.mp (show Nat.gcd p q = 0 by omega)
        rw [h0.1, h0.2]; simp
    refine xk_lstore_n dX1_part_15 (by decide) ?_
    dsimp only [xk_s1, xk_s2, xk_kill]
    refine xk_lload_n dX1_part_16 rfl ?_
    refine xk_s1c (M' := mX1_top) (d' := d) dX1_part_17 wm_X1_9 cv_X1_top wt_X1_top (by omega) (Nat.le_refl _) (Nat.le_refl _) (Nat.le_of_ble_eq_true rfl) (y_X1_top d (by omega) (by omega)) rfl ?_
    refine xk_lload_n dX1_part_20 rfl ?_
    refine xk_s1c (M' := mX1_bottom) (d' := d) dX1_part_21 wm_X1_15 cv_X1_bottom wt_X1_bottom (by omega) (Nat.le_refl _) (Nat.le_refl _) (Nat.le_of_ble_eq_true rfl) (y_X1_bottom d (by omega) (by omega)) rfl ?_
    refine xk_s2c (M' := mX1_commonDivisor) (d' := d) dX1_part_24 wm_X1_22 cv_X1_commonDivisor wt_X1_commonDivisor (by omega) (Nat.le_refl _) (Nat.le_refl _) (Nat.le_of_ble_eq_true rfl) (y_X1_commonDivisor d (by omega) (by omega)) rfl ?_
    refine xk_lstore dX1_part_27 (by decide) ?_
    dsimp only [xk_s1, xk_s2, xk_kill]
    refine xk_lload dX1_part_29 rfl ?_
    refine xk_lconst (1) dX1_part_31 (by decide) ?_
    refine xk_lcmp dX1_part_32 ?_
    refine xk_if_le 43 dX1_part_33 (by decide) (fun c33 => ?_) (fun c33 => ?_)
    · have c33 := (lc_le (a := Nat.gcd p q) (b := 1) (by omega) (by decide)).mp c33
      refine xk_lload_n dX1_part_43 rfl ?_
      refine xk_l2i dX1_part_44 ?_
      exact xk_iret rfl dX1_part_45 (Nat.le_refl _) (Nat.le_refl _) ⟨by rw [lN_i]; first | rw [hg1 (by omega)] | rw [hg0 (by omega)], rfl⟩
    · have c33 : ¬ Nat.gcd p q ≤ 1 := fun z => c33 ((lc_le (a := Nat.gcd p q) (b := 1) (by omega) (by decide)).mpr z)
      refine xk_lload_n dX1_part_36 rfl ?_
      refine xk_lload dX1_part_37 rfl ?_
      refine xk_ldiv dX1_part_39 (fun z => absurd ((pk_lEQ (b := 0) (by omega) (by decide)).mp z) (by omega)) ?_
      rw [pk_lDiv (by omega) (by omega) (by omega)]
      refine xk_goto 44 dX1_part_40 (by decide) ?_
      refine xk_l2i dX1_part_44 ?_
      exact xk_iret rfl dX1_part_45 (Nat.le_refl _) (Nat.le_refl _) ⟨by rw [lN_i]; first | rw [hg1 (by omega)] | rw [hg0 (by omega)], rfl⟩
  refine xk_Y.ofX (k := 4) (ls := [some (.long (fr p q)), none, some (.int w), none, none, none, none]) (by decide) rfl rfl ?_
  refine xk_iload_n dX1_part_0 rfl ?_
  refine xk_if_ne 11 dX1_part_1 (by decide) (fun c1 => ?_) (fun c1 => ?_)
  · refine xk_lload_n dX1_part_11 rfl ?_
    refine xk_s1c (M' := mX1_bottom) (d' := d) dX1_part_12 wm_X1_15 cv_X1_bottom wt_X1_bottom (by omega) (Nat.le_refl _) (Nat.le_refl _) (Nat.le_of_ble_eq_true rfl) (y_X1_bottom d (by omega) (by omega)) rfl ?_
    exact j15 _ (by simp [c1])
  · refine xk_lload_n dX1_part_4 rfl ?_
    refine xk_s1c (M' := mX1_top) (d' := d) dX1_part_5 wm_X1_9 cv_X1_top wt_X1_top (by omega) (Nat.le_refl _) (Nat.le_refl _) (Nat.le_of_ble_eq_true rfl) (y_X1_top d (by omega) (by omega)) rfl ?_
    refine xk_goto 15 dX1_part_8 (by decide) ?_
    exact j15 _ (by simp [c1])

set_option maxHeartbeats 4000000 in
set_option maxRecDepth 100000 in
theorem y_J6_bitCount (d : Nat) {x : Int32} {hs : xk_H} : xk_F d mJ6_bitCount_0f7a4 [.int x] hs (some (.int (bitc x))) hs := by
  refine xk_Y.ofX (k := 0) (ls := [some (.int x)]) (by decide) rfl rfl ?_
  refine xk_iload_n dJ6_bitCount_0f7a4_0 rfl ?_
  refine xk_iload_n dJ6_bitCount_0f7a4_1 rfl ?_
  refine xk_iconst (1) dJ6_bitCount_0f7a4_2 (by decide) ?_
  refine xk_iushr dJ6_bitCount_0f7a4_3 ?_
  refine xk_ldcw dJ6_bitCount_0f7a4_4 wk_J6_265 ?_
  refine xk_iand dJ6_bitCount_0f7a4_7 ?_
  refine xk_isub dJ6_bitCount_0f7a4_8 ?_
  refine xk_istore_n dJ6_bitCount_0f7a4_9 (by decide) ?_
  dsimp only [xk_s1, xk_s2, xk_kill]
  refine xk_iload_n dJ6_bitCount_0f7a4_10 rfl ?_
  refine xk_ldcw dJ6_bitCount_0f7a4_11 wk_J6_266 ?_
  refine xk_iand dJ6_bitCount_0f7a4_14 ?_
  refine xk_iload_n dJ6_bitCount_0f7a4_15 rfl ?_
  refine xk_iconst (2) dJ6_bitCount_0f7a4_16 (by decide) ?_
  refine xk_iushr dJ6_bitCount_0f7a4_17 ?_
  refine xk_ldcw dJ6_bitCount_0f7a4_18 wk_J6_266 ?_
  refine xk_iand dJ6_bitCount_0f7a4_21 ?_
  refine xk_iadd dJ6_bitCount_0f7a4_22 ?_
  refine xk_istore_n dJ6_bitCount_0f7a4_23 (by decide) ?_
  dsimp only [xk_s1, xk_s2, xk_kill]
  refine xk_iload_n dJ6_bitCount_0f7a4_24 rfl ?_
  refine xk_iload_n dJ6_bitCount_0f7a4_25 rfl ?_
  refine xk_iconst (4) dJ6_bitCount_0f7a4_26 (by decide) ?_
  refine xk_iushr dJ6_bitCount_0f7a4_27 ?_
  refine xk_iadd dJ6_bitCount_0f7a4_28 ?_
  refine xk_ldcw dJ6_bitCount_0f7a4_29 wk_J6_267 ?_
  refine xk_iand dJ6_bitCount_0f7a4_32 ?_
  refine xk_istore_n dJ6_bitCount_0f7a4_33 (by decide) ?_
  dsimp only [xk_s1, xk_s2, xk_kill]
  refine xk_iload_n dJ6_bitCount_0f7a4_34 rfl ?_
  refine xk_iload_n dJ6_bitCount_0f7a4_35 rfl ?_
  refine xk_bipush (8) dJ6_bitCount_0f7a4_36 (by decide) ?_
  refine xk_iushr dJ6_bitCount_0f7a4_38 ?_
  refine xk_iadd dJ6_bitCount_0f7a4_39 ?_
  refine xk_istore_n dJ6_bitCount_0f7a4_40 (by decide) ?_
  dsimp only [xk_s1, xk_s2, xk_kill]
  refine xk_iload_n dJ6_bitCount_0f7a4_41 rfl ?_
  refine xk_iload_n dJ6_bitCount_0f7a4_42 rfl ?_
  refine xk_bipush (16) dJ6_bitCount_0f7a4_43 (by decide) ?_
  refine xk_iushr dJ6_bitCount_0f7a4_45 ?_
  refine xk_iadd dJ6_bitCount_0f7a4_46 ?_
  refine xk_istore_n dJ6_bitCount_0f7a4_47 (by decide) ?_
  dsimp only [xk_s1, xk_s2, xk_kill]
  refine xk_iload_n dJ6_bitCount_0f7a4_48 rfl ?_
  refine xk_bipush (63) dJ6_bitCount_0f7a4_49 (by decide) ?_
  refine xk_iand dJ6_bitCount_0f7a4_51 ?_
  exact xk_iret rfl dJ6_bitCount_0f7a4_52 (Nat.le_refl _) (Nat.le_refl _) ⟨rfl, rfl⟩

set_option maxHeartbeats 4000000 in
set_option maxRecDepth 100000 in
/-- the loop of Arrays.fill -/
theorem l_J7_fill (d : Nat) {hs : xk_H} {a n : Nat} {v : Int64} {f : Nat → Int64} (hn : n < 2147483648) (he : hs[a]? = some (.inl (1, n, .inr (.inl f)))) : ∀ (m i : Nat), i + m = n → xk_P d mJ7_fill_d0a16 [] hs none (hs.set a (.inl (1, n, .inr (.inl (fillF f n v))))) 6 [some (.ref a), some (.long v), none, some (.int (nI i)), some (.int (nI n))] [] (hs.set a (.inl (1, n, .inr (.inl (fillF f i v))))) := by
  intro m
  induction m with
  | zero =>
    intro i hi
    obtain rfl : i = n := by omega
    refine xk_iload_n dJ7_fill_d0a16_6 rfl ?_
    refine xk_iload dJ7_fill_d0a16_7 rfl ?_
    refine xk_icmp_ge 22 dJ7_fill_d0a16_9 (by decide) (fun c9 => ?_) (fun c9 => ?_)
    · exact xk_vret rfl dJ7_fill_d0a16_22 (Nat.le_refl _) (Nat.le_refl _) ⟨rfl, rfl⟩
    · exact absurd (nI_le (Nat.le_refl i) hn) c9
  | succ m ih =>
    intro i hi
    refine xk_iload_n dJ7_fill_d0a16_6 rfl ?_
    refine xk_iload dJ7_fill_d0a16_7 rfl ?_
    refine xk_icmp_ge 22 dJ7_fill_d0a16_9 (by decide) (fun c9 => ?_) (fun c9 => ?_)
    · exact absurd c9 (nI_ge (by omega) hn)
    · refine xk_aload_n dJ7_fill_d0a16_12 rfl ?_
      refine xk_iload_n dJ7_fill_d0a16_13 rfl ?_
      refine xk_lload_n dJ7_fill_d0a16_14 rfl ?_
      refine xk_last dJ7_fill_d0a16_15 (xs_at he) (vp_in_nI (by omega) hn) ?_
      rw [nI_clamp (by omega), fillF_s, List.set_set]
      refine xk_iinc (nI (i + 1)) dJ7_fill_d0a16_16 rfl (nI_1 i) (by decide) ?_
      dsimp only [xk_s1, xk_s2, xk_kill]
      refine xk_goto 6 dJ7_fill_d0a16_19 (by decide) ?_
      exact ih (i + 1) (by omega)

set_option maxHeartbeats 4000000 in
set_option maxRecDepth 100000 in
theorem y_J7_fill (d : Nat) {hs : xk_H} {a n : Nat} {v : Int64} {f : Nat → Int64} (hn : n < 2147483648) (he : hs[a]? = some (.inl (1, n, .inr (.inl f)))) : xk_F d mJ7_fill_d0a16 [.ref a, .long v] hs none (hs.set a (.inl (1, n, .inr (.inl (fillF f n v))))) := by
  refine xk_Y.ofX (k := 2) (ls := [some (.ref a), some (.long v), none, none, none]) (by decide) rfl rfl ?_
  refine xk_iconst (0) dJ7_fill_d0a16_0 (by decide) ?_
  refine xk_istore_n dJ7_fill_d0a16_1 (by decide) ?_
  dsimp only [xk_s1, xk_s2, xk_kill]
  refine xk_aload_n dJ7_fill_d0a16_2 rfl ?_
  refine xk_alen dJ7_fill_d0a16_3 he (by decide) rfl ?_
  refine xk_istore dJ7_fill_d0a16_4 (by decide) ?_
  dsimp only [xk_s1, xk_s2, xk_kill]
  have h := l_J7_fill d (v := v) hn he n 0 (by omega)
  rw [fillF_0, xs_same he] at h
  exact h
end
section
/-! Tables: what their cells hold. Own text. -/
/-- heaps of one length that agree but at the places of S -/
def xfr (S : Nat → Prop) (hs h : xk_H) : Prop := h.length = hs.length ∧ ∀ k, ¬ S k → h[k]? = hs[k]?
theorem xfr.rf {S : Nat → Prop} {hs : xk_H} : xfr S hs hs := ⟨rfl, fun _ _ => rfl⟩
theorem xfr.set {S : Nat → Prop} {hs h : xk_H} {a : Nat} {e : xk_C} (H : xfr S hs h) (ha : S a) : xfr S hs (h.set a e) := ⟨by rw [List.length_set]; exact H.1, fun k hk => (xs_ne (show a ≠ k from fun q => hk (by rw [← q]; exact ha))).trans (H.2 k hk)⟩
theorem xfr.tr {S : Nat → Prop} {a b c : xk_H} (H : xfr S a b) (H2 : xfr S b c) : xfr S a c := ⟨H2.1.trans H.1, fun k hk => (H2.2 k hk).trans (H.2 k hk)⟩
theorem xfr.mono {S S' : Nat → Prop} {a b : xk_H} (H : xfr S a b) (h : ∀ k, S k → S' k) : xfr S' a b := ⟨H.1, fun k hk => H.2 k (fun z => hk (h k z))⟩
/-- the world of a table: what is said of i over j, (0, 1) for nothing -/
abbrev tbW : Type := Nat → Nat → Nat × Nat
def tbRow (w : tbW) (i : Nat) : Nat → Int64 := fun j => fr (w i j).1 (w i j).2
def tbA (hs : xk_H) (t n : Nat) (w : tbW) (fl : Nat) : Prop :=
  hs[t]? = some (.inr (4, [.int (nI n), .ref (t + 1), .int (nI fl)])) ∧ hs[t + 1]? = some (.inl (4, n, .inr (.inr (.inr (.inr (fun i => if i < n then some (t + 2 + i) else none)))))) ∧ ∀ i, i < n → hs[t + 2 + i]? = some (.inl (1, n, .inr (.inl (tbRow w i))))
/-- nothing, or digits -/
def tbOK (n : Nat) (w : tbW) : Prop := ∀ i j, i < n → j < n → w i j = (0, 1) ∨ (1 ≤ (w i j).1 ∧ (w i j).1 ≤ 9 ∧ 1 ≤ (w i j).2 ∧ (w i j).2 ≤ 9)
def tIn (n : Nat) (x : Int32) : Bool := decide (0 ≤ x) && decide (x < nI n)
def tPair (n : Nat) (x y : Int32) : Bool := tIn n x && tIn n y && decide (x ≠ y)
def tHas (n : Nat) (w : tbW) (x y : Int32) : Bool := tPair n x y && decide (w x.toNatClampNeg y.toNatClampNeg ≠ (0, 1))
def tLow (n : Nat) (w : tbW) (x y : Int32) : Nat × Nat := if tPair n x y = true then w x.toNatClampNeg y.toNatClampNeg else (0, 1)
theorem tIn_nI {n i : Nat} (hn : n ≤ 6) (hi : i < 2147483648) : tIn n (nI i) = decide (i < n) := by
  unfold tIn
  rw [decide_eq_true (nI_pos' hi), Bool.true_and]
  exact decide_eq_decide.mpr (nI_ltI hi (by omega))
theorem tIn_of {n : Nat} {x : Int32} (hn : n ≤ 6) (h : tIn n x = true) : ∃ i, i < n ∧ x = nI i := by
  unfold tIn at h
  simp only [Bool.and_eq_true, decide_eq_true_eq] at h
  rcases pk_ix x (n := n) (by omega) with h1 | h1 | ⟨j, h1, h2⟩
  · exact absurd h.1 (by rw [Int32.not_le]; exact h1)
  · exact absurd h.2 (by rw [Int32.not_lt]; exact h1)
  · exact ⟨j, h1, h2⟩
theorem tPair_nI {n i j : Nat} (hn : n ≤ 6) (hi : i < 2147483648) (hj : j < 2147483648) : tPair n (nI i) (nI j) = (decide (i < n) && decide (j < n) && decide (i ≠ j)) := by
  unfold tPair
  rw [tIn_nI hn hi, tIn_nI hn hj]
  congr 1
  exact decide_eq_decide.mpr (not_congr (nI_eq hi hj))
theorem tPair_t {n i j : Nat} (hn : n ≤ 6) (hi : i < n) (hj : j < n) (hij : i ≠ j) : tPair n (nI i) (nI j) = true := by
  rw [tPair_nI hn (by omega) (by omega)]
  simp [hi, hj, hij]
theorem tPair_of {n : Nat} {x y : Int32} (hn : n ≤ 6) (h : tPair n x y = true) : ∃ i j, i < n ∧ j < n ∧ i ≠ j ∧ x = nI i ∧ y = nI j := by
  unfold tPair at h
  simp only [Bool.and_eq_true, decide_eq_true_eq] at h
  obtain ⟨i, h1, rfl⟩ := tIn_of hn h.1.1
  obtain ⟨j, h2, rfl⟩ := tIn_of hn h.1.2
  exact ⟨i, j, h1, h2, fun q => h.2 (by rw [q]), rfl, rfl⟩
theorem tHas_nI {n i j : Nat} {w : tbW} (hn : n ≤ 6) (hi : i < 2147483648) (hj : j < 2147483648) : tHas n w (nI i) (nI j) = (decide (i < n) && decide (j < n) && decide (i ≠ j) && decide (w i j ≠ (0, 1))) := by
  unfold tHas
  rw [tPair_nI hn hi hj, nI_clamp hi, nI_clamp hj]
theorem tHas_of {n : Nat} {w : tbW} {x y : Int32} (hn : n ≤ 6) (h : tHas n w x y = true) : ∃ i j, i < n ∧ j < n ∧ i ≠ j ∧ x = nI i ∧ y = nI j ∧ w i j ≠ (0, 1) := by
  unfold tHas at h
  simp only [Bool.and_eq_true, decide_eq_true_eq] at h
  obtain ⟨i, j, h1, h2, h3, rfl, rfl⟩ := tPair_of hn h.1
  refine ⟨i, j, h1, h2, h3, rfl, rfl, ?_⟩
  have := h.2
  rwa [nI_clamp (by omega), nI_clamp (by omega)] at this
theorem tLow_nI {n i j : Nat} {w : tbW} (hn : n ≤ 6) (hi : i < n) (hj : j < n) (hij : i ≠ j) : tLow n w (nI i) (nI j) = w i j := by
  unfold tLow
  rw [if_pos (tPair_t hn hi hj hij), nI_clamp (by omega), nI_clamp (by omega)]
theorem fr_nothing {n i j : Nat} {w : tbW} (ho : tbOK n w) (hi : i < n) (hj : j < n) : fr (w i j).1 (w i j).2 = 1 ↔ w i j = (0, 1) := by
  have h1 : (1 : Int64) = fr 0 1 := rfl
  rw [h1]
  rcases ho i j hi hj with h | ⟨a1, a2, a3, a4⟩
  · rw [h]; simp
  · rw [fr_inj (by omega) (by omega) (by omega) (by omega)]
    constructor
    · intro q; exact absurd q.1 (by omega)
    · intro q; rw [q]; simp
theorem tbOK.lt {n i j : Nat} {w : tbW} (ho : tbOK n w) (hi : i < n) (hj : j < n) : (w i j).1 ≤ 9 ∧ (w i j).2 ≤ 9 ∧ 1 ≤ (w i j).2 := by
  rcases ho i j hi hj with h | ⟨a1, a2, a3, a4⟩
  · rw [h]; decide
  · exact ⟨a2, a4, a3⟩
/-- i over j becomes a, j over i becomes b -/
def tbSet (w : tbW) (i j : Nat) (a b : Nat × Nat) : tbW := fun x y => if x = i ∧ y = j then a else if x = j ∧ y = i then b else w x y
theorem tbRow_upd (w : tbW) (i j : Nat) (a : Nat × Nat) : vp_updL (tbRow w i) j (fr a.1 a.2) = tbRow (fun x y => if x = i ∧ y = j then a else w x y) i := funext fun k => by
  simp only [vp_updL, tbRow]
  by_cases h : k = j
  · simp [h]
  · simp [h]
theorem tbRow_ne (w : tbW) (i j x : Nat) (a : Nat × Nat) (h : x ≠ i) : tbRow (fun x y => if x = i ∧ y = j then a else w x y) x = tbRow w x := funext fun k => by
  simp [tbRow, h]
theorem tbSet_eq (w : tbW) (i j : Nat) (a b : Nat × Nat) (hij : i ≠ j) : (fun x y => if x = j ∧ y = i then b else (fun x y => if x = i ∧ y = j then a else w x y) x y) = tbSet w i j a b := funext fun x => funext fun y => by
  simp only [tbSet]
  by_cases h1 : x = i ∧ y = j
  · obtain ⟨rfl, rfl⟩ := h1
    simp [hij]
  · simp [h1]
/-- a table behind the stores of put and drop -/
theorem tbA.put {hs : xk_H} {t n fl fl' i j : Nat} {w : tbW} {a b : Nat × Nat} (h : tbA hs t n w fl) (hi : i < n) (hj : j < n) (hij : i ≠ j) :
    tbA (((hs.set t (.inr (4, [.int (nI n), .ref (t + 1), .int (nI fl')]))).set (t + 2 + i) (.inl (1, n, .inr (.inl (vp_updL (tbRow w i) j (fr a.1 a.2)))))).set (t + 2 + j) (.inl (1, n, .inr (.inl (vp_updL (tbRow w j) i (fr b.1 b.2)))))) t n (tbSet w i j a b) fl' := by
  refine ⟨?_, ?_, fun k hk => ?_⟩
  · rw [xs_ne (by omega), xs_ne (by omega)]; exact xs_at h.1
  · rw [xs_ne (by omega), xs_ne (by omega), xs_ne (by omega)]; exact h.2.1
  · rw [← tbSet_eq w i j a b hij]
    by_cases h1 : k = j
    · subst h1
      have e0 : ((hs.set t (.inr (4, [.int (nI n), .ref (t + 1), .int (nI fl')]))).set (t + 2 + i) (.inl (1, n, .inr (.inl (vp_updL (tbRow w i) k (fr a.1 a.2))))))[t + 2 + k]? = some (.inl (1, n, .inr (.inl (tbRow w k)))) := by
        rw [xs_ne (by omega), xs_ne (by omega)]; exact h.2.2 k hk
      rw [xs_at e0, ← tbRow_upd, tbRow_ne w i k k a (Ne.symm hij)]
    · rw [xs_ne (by omega)]
      by_cases h2 : k = i
      · subst h2
        have e0 : (hs.set t (.inr (4, [.int (nI n), .ref (t + 1), .int (nI fl')])))[t + 2 + k]? = some (.inl (1, n, .inr (.inl (tbRow w k)))) := by
          rw [xs_ne (by omega)]; exact h.2.2 k hk
        rw [xs_at e0, tbRow_upd, tbRow_ne _ j k k b hij]
      · rw [xs_ne (by omega), xs_ne (by omega), h.2.2 k hk, tbRow_ne _ j i k b h1, tbRow_ne _ i j k a h2]
/-- the places of a table -/
def tbS (t n : Nat) : Nat → Prop := fun k => t ≤ k ∧ k < t + 2 + n
theorem tbA.kept {hs h : xk_H} {t n fl : Nat} {w : tbW} {S : Nat → Prop} (H : tbA hs t n w fl) (hf : xfr S hs h) (hS : ∀ k, tbS t n k → ¬ S k) : tbA h t n w fl := by
  refine ⟨?_, ?_, fun i hi => ?_⟩
  · rw [hf.2 _ (hS _ ⟨by omega, by omega⟩)]; exact H.1
  · by_cases h0 : n = 0
    · subst h0
      rw [hf.2 _ (hS _ ⟨by omega, by omega⟩)]; exact H.2.1
    · rw [hf.2 _ (hS _ ⟨by omega, by omega⟩)]; exact H.2.1
  · rw [hf.2 _ (hS _ ⟨by omega, by omega⟩)]; exact H.2.2 i hi
end
section
/-! Table: contracts. Laid by a program of our own. -/
set_option maxHeartbeats 4000000 in
set_option maxRecDepth 100000 in
theorem y_X5_isThing (d : Nat) {hs : xk_H} {t n fl : Nat} {w : tbW} {x : Int32} (hT : tbA hs t n w fl) : xk_F d mX5_isThing [.ref t, .int x] hs (some (.int (xk_b (tIn n x)))) hs := by
  refine xk_Y.ofX (k := 0) (ls := [some (.ref t), some (.int x)]) (by decide) rfl rfl ?_
  refine xk_iload_n dX5_isThing_0 rfl ?_
  refine xk_if_lt 16 dX5_isThing_1 (by decide) (fun c1 => ?_) (fun c1 => ?_)
  · refine xk_iconst (0) dX5_isThing_16 (by decide) ?_
    exact xk_zret rfl (by rfl) dX5_isThing_17 (Nat.le_refl _) (Nat.le_refl _) ⟨by first | (refine xz1 ?_; unfold tIn; simp; exact ⟨Int32.not_lt.mp c1, Int32.not_le.mp c9⟩; done) | (refine xz0 ?_; unfold tIn; simp; exact ⟨Int32.not_lt.mp c1, Int32.not_le.mp c9⟩; done) | (refine xz1 ?_; unfold tIn; simp; intro _; assumption; done) | (refine xz0 ?_; unfold tIn; simp; intro _; assumption; done) | (refine xz1 ?_; unfold tIn; simp; intro q; exact absurd c1 (Int32.not_lt.mpr q); done) | (refine xz0 ?_; unfold tIn; simp; intro q; exact absurd c1 (Int32.not_lt.mpr q); done), rfl⟩
  · refine xk_iload_n dX5_isThing_4 rfl ?_
    refine xk_aload_n dX5_isThing_5 rfl ?_
    refine xk_get (ci := 4) (r := (RX5, TX5, 3)) 0 dX5_isThing_6 rfl inX5 (by decide) wf_X5_7 hT.1 rfl ?_
    refine xk_icmp_ge 16 dX5_isThing_9 (by decide) (fun c9 => ?_) (fun c9 => ?_)
    · refine xk_iconst (0) dX5_isThing_16 (by decide) ?_
      exact xk_zret rfl (by rfl) dX5_isThing_17 (Nat.le_refl _) (Nat.le_refl _) ⟨by first | (refine xz1 ?_; unfold tIn; simp; exact ⟨Int32.not_lt.mp c1, Int32.not_le.mp c9⟩; done) | (refine xz0 ?_; unfold tIn; simp; exact ⟨Int32.not_lt.mp c1, Int32.not_le.mp c9⟩; done) | (refine xz1 ?_; unfold tIn; simp; intro _; assumption; done) | (refine xz0 ?_; unfold tIn; simp; intro _; assumption; done) | (refine xz1 ?_; unfold tIn; simp; intro q; exact absurd c1 (Int32.not_lt.mpr q); done) | (refine xz0 ?_; unfold tIn; simp; intro q; exact absurd c1 (Int32.not_lt.mpr q); done), rfl⟩
    · refine xk_iconst (1) dX5_isThing_12 (by decide) ?_
      refine xk_goto 17 dX5_isThing_13 (by decide) ?_
      exact xk_zret rfl (by rfl) dX5_isThing_17 (Nat.le_refl _) (Nat.le_refl _) ⟨by first | (refine xz1 ?_; unfold tIn; simp; exact ⟨Int32.not_lt.mp c1, Int32.not_le.mp c9⟩; done) | (refine xz0 ?_; unfold tIn; simp; exact ⟨Int32.not_lt.mp c1, Int32.not_le.mp c9⟩; done) | (refine xz1 ?_; unfold tIn; simp; intro _; assumption; done) | (refine xz0 ?_; unfold tIn; simp; intro _; assumption; done) | (refine xz1 ?_; unfold tIn; simp; intro q; exact absurd c1 (Int32.not_lt.mpr q); done) | (refine xz0 ?_; unfold tIn; simp; intro q; exact absurd c1 (Int32.not_lt.mpr q); done), rfl⟩

set_option maxHeartbeats 4000000 in
set_option maxRecDepth 100000 in
theorem y_X5_isPair (d : Nat) {hs : xk_H} {t n fl : Nat} {w : tbW} {x y : Int32} (hT : tbA hs t n w fl) : xk_F (d + 1) mX5_isPair [.ref t, .int x, .int y] hs (some (.int (xk_b (tPair n x y)))) hs := by
  refine xk_Y.ofX (k := 0) (ls := [some (.ref t), some (.int x), some (.int y)]) (by decide) rfl rfl ?_
  refine xk_aload_n dX5_isPair_0 rfl ?_
  refine xk_iload_n dX5_isPair_1 rfl ?_
  refine xk_v1 (M' := mX5_isThing) (d' := d) (ci := 4) (r0 := (RX5, TX5, 3)) dX5_isPair_2 wm_X5_26 cv_X5_isThing wi_X5_isThing wl_X5_isThing (by omega) (Nat.le_refl _) (Nat.le_refl _) rfl rfl hT.1 (Nat.le_of_ble_eq_true rfl) (y_X5_isThing d hT) rfl ?_
  refine xk_ifb_eq 25 dX5_isPair_5 (by decide) (fun c5 => ?_) (fun c5 => ?_)
  · refine xk_iconst (0) dX5_isPair_25 (by decide) ?_
    exact xk_zret rfl (by rfl) dX5_isPair_26 (Nat.le_refl _) (Nat.le_refl _) ⟨by first | (refine xz1 ?_; unfold tPair; simp_all; done) | (refine xz0 ?_; unfold tPair; simp_all; done), rfl⟩
  · refine xk_aload_n dX5_isPair_8 rfl ?_
    refine xk_iload_n dX5_isPair_9 rfl ?_
    refine xk_v1 (M' := mX5_isThing) (d' := d) (ci := 4) (r0 := (RX5, TX5, 3)) dX5_isPair_10 wm_X5_26 cv_X5_isThing wi_X5_isThing wl_X5_isThing (by omega) (Nat.le_refl _) (Nat.le_refl _) rfl rfl hT.1 (Nat.le_of_ble_eq_true rfl) (y_X5_isThing d hT) rfl ?_
    refine xk_ifb_eq 25 dX5_isPair_13 (by decide) (fun c13 => ?_) (fun c13 => ?_)
    · refine xk_iconst (0) dX5_isPair_25 (by decide) ?_
      exact xk_zret rfl (by rfl) dX5_isPair_26 (Nat.le_refl _) (Nat.le_refl _) ⟨by first | (refine xz1 ?_; unfold tPair; simp_all; done) | (refine xz0 ?_; unfold tPair; simp_all; done), rfl⟩
    · refine xk_iload_n dX5_isPair_16 rfl ?_
      refine xk_iload_n dX5_isPair_17 rfl ?_
      refine xk_icmp_eq 25 dX5_isPair_18 (by decide) (fun c18 => ?_) (fun c18 => ?_)
      · refine xk_iconst (0) dX5_isPair_25 (by decide) ?_
        exact xk_zret rfl (by rfl) dX5_isPair_26 (Nat.le_refl _) (Nat.le_refl _) ⟨by first | (refine xz1 ?_; unfold tPair; simp_all; done) | (refine xz0 ?_; unfold tPair; simp_all; done), rfl⟩
      · refine xk_iconst (1) dX5_isPair_21 (by decide) ?_
        refine xk_goto 26 dX5_isPair_22 (by decide) ?_
        exact xk_zret rfl (by rfl) dX5_isPair_26 (Nat.le_refl _) (Nat.le_refl _) ⟨by first | (refine xz1 ?_; unfold tPair; simp_all; done) | (refine xz0 ?_; unfold tPair; simp_all; done), rfl⟩

set_option maxHeartbeats 4000000 in
set_option maxRecDepth 100000 in
theorem y_X5_holds (d : Nat) {hs : xk_H} {t n fl : Nat} {w : tbW} {x y : Int32} (hn : n ≤ 6) (hT : tbA hs t n w fl) (ho : tbOK n w) : xk_F (d + 2) mX5_holds [.ref t, .int x, .int y] hs (some (.int (xk_b (tHas n w x y)))) hs := by
  refine xk_Y.ofX (k := 0) (ls := [some (.ref t), some (.int x), some (.int y)]) (by decide) rfl rfl ?_
  refine xk_aload_n dX5_holds_0 rfl ?_
  refine xk_iload_n dX5_holds_1 rfl ?_
  refine xk_iload_n dX5_holds_2 rfl ?_
  refine xk_v2 (M' := mX5_isPair) (d' := d + 1) (ci := 4) (r0 := (RX5, TX5, 3)) dX5_holds_3 wm_X5_30 cv_X5_isPair wi_X5_isPair wl_X5_isPair (by omega) (Nat.le_refl _) (Nat.le_refl _) rfl rfl hT.1 (Nat.le_of_ble_eq_true rfl) (y_X5_isPair d hT) rfl ?_
  refine xk_ifb_eq 26 dX5_holds_6 (by decide) (fun c6 => ?_) (fun c6 => ?_)
  · refine xk_iconst (0) dX5_holds_26 (by decide) ?_
    exact xk_zret rfl (by rfl) dX5_holds_27 (Nat.le_refl _) (Nat.le_refl _) ⟨by first | (refine xz1 ?_; rw [tHas_nI hn (by omega) (by omega)]; simp [hi, hj, hij, c20]; done) | (refine xz0 ?_; rw [tHas_nI hn (by omega) (by omega)]; simp [hi, hj, hij, c20]; done) | (refine xz1 ?_; unfold tHas; simp [c6]; done) | (refine xz0 ?_; unfold tHas; simp [c6]; done), rfl⟩
  · obtain ⟨i, j, hi, hj, hij, rfl, rfl⟩ := tPair_of hn c6
    have q1 : vp_in (nI i) n := vp_in_nI hi (by omega)
    have q2 : vp_in (nI j) n := vp_in_nI hj (by omega)
    have q3 : (nI i).toNatClampNeg = i := nI_clamp (by omega)
    have q4 : (nI j).toNatClampNeg = j := nI_clamp (by omega)
    have q5 : (if (nI i).toNatClampNeg < n then some (t + 2 + (nI i).toNatClampNeg) else none) = some (t + 2 + i) := by rw [q3, if_pos hi]
    refine xk_aload_n dX5_holds_9 rfl ?_
    refine xk_get (ci := 4) (r := (RX5, TX5, 3)) 1 dX5_holds_10 rfl inX5 (by decide) wf_X5_15 hT.1 rfl ?_
    refine xk_iload_n dX5_holds_13 rfl ?_
    refine xk_aaldJ dX5_holds_14 hT.2.1 q1 q5 ?_
    refine xk_iload_n dX5_holds_15 rfl ?_
    refine xk_lald dX5_holds_16 (hT.2.2 i hi) q2 ?_
    refine xk_lconst (1) dX5_holds_17 (by decide) ?_
    refine xk_lcmp dX5_holds_18 ?_
    refine xk_if_eq 26 dX5_holds_19 (by decide) (fun c19 => ?_) (fun c19 => ?_)
    · rw [q4] at c19
      have c20 := (fr_nothing ho hi hj).mp ((lg_cmp_eq _ _).mp c19)
      refine xk_iconst (0) dX5_holds_26 (by decide) ?_
      exact xk_zret rfl (by rfl) dX5_holds_27 (Nat.le_refl _) (Nat.le_refl _) ⟨by first | (refine xz1 ?_; rw [tHas_nI hn (by omega) (by omega)]; simp [hi, hj, hij, c20]; done) | (refine xz0 ?_; rw [tHas_nI hn (by omega) (by omega)]; simp [hi, hj, hij, c20]; done) | (refine xz1 ?_; unfold tHas; simp [c6]; done) | (refine xz0 ?_; unfold tHas; simp [c6]; done), rfl⟩
    · rw [q4] at c19
      have c20 : ¬ w i j = (0, 1) := fun z => c19 ((lg_cmp_eq _ _).mpr ((fr_nothing ho hi hj).mpr z))
      refine xk_iconst (1) dX5_holds_22 (by decide) ?_
      refine xk_goto 27 dX5_holds_23 (by decide) ?_
      exact xk_zret rfl (by rfl) dX5_holds_27 (Nat.le_refl _) (Nat.le_refl _) ⟨by first | (refine xz1 ?_; rw [tHas_nI hn (by omega) (by omega)]; simp [hi, hj, hij, c20]; done) | (refine xz0 ?_; rw [tHas_nI hn (by omega) (by omega)]; simp [hi, hj, hij, c20]; done) | (refine xz1 ?_; unfold tHas; simp [c6]; done) | (refine xz0 ?_; unfold tHas; simp [c6]; done), rfl⟩

set_option maxHeartbeats 4000000 in
set_option maxRecDepth 100000 in
theorem y_X5_low (d : Nat) {hs : xk_H} {t n fl : Nat} {w : tbW} {x y : Int32} (hn : n ≤ 6) (hT : tbA hs t n w fl) : xk_F (d + 2) mX5_low [.ref t, .int x, .int y] hs (some (.long (fr (tLow n w x y).1 (tLow n w x y).2))) hs := by
  refine xk_Y.ofX (k := 0) (ls := [some (.ref t), some (.int x), some (.int y)]) (by decide) rfl rfl ?_
  refine xk_aload_n dX5_low_0 rfl ?_
  refine xk_iload_n dX5_low_1 rfl ?_
  refine xk_iload_n dX5_low_2 rfl ?_
  refine xk_v2 (M' := mX5_isPair) (d' := d + 1) (ci := 4) (r0 := (RX5, TX5, 3)) dX5_low_3 wm_X5_30 cv_X5_isPair wi_X5_isPair wl_X5_isPair (by omega) (Nat.le_refl _) (Nat.le_refl _) rfl rfl hT.1 (Nat.le_of_ble_eq_true rfl) (y_X5_isPair d hT) rfl ?_
  refine xk_ifb_eq 20 dX5_low_6 (by decide) (fun c6 => ?_) (fun c6 => ?_)
  · refine xk_lconst (1) dX5_low_20 (by decide) ?_
    exact xk_lret rfl dX5_low_21 (Nat.le_refl _) (Nat.le_refl _) ⟨by first | (rw [tLow_nI hn hi hj hij, q4]; rfl) | (unfold tLow; rw [if_neg (by rw [c6]; decide)]; rfl), rfl⟩
  · obtain ⟨i, j, hi, hj, hij, rfl, rfl⟩ := tPair_of hn c6
    have q1 : vp_in (nI i) n := vp_in_nI hi (by omega)
    have q2 : vp_in (nI j) n := vp_in_nI hj (by omega)
    have q3 : (nI i).toNatClampNeg = i := nI_clamp (by omega)
    have q4 : (nI j).toNatClampNeg = j := nI_clamp (by omega)
    have q5 : (if (nI i).toNatClampNeg < n then some (t + 2 + (nI i).toNatClampNeg) else none) = some (t + 2 + i) := by rw [q3, if_pos hi]
    refine xk_aload_n dX5_low_9 rfl ?_
    refine xk_get (ci := 4) (r := (RX5, TX5, 3)) 1 dX5_low_10 rfl inX5 (by decide) wf_X5_15 hT.1 rfl ?_
    refine xk_iload_n dX5_low_13 rfl ?_
    refine xk_aaldJ dX5_low_14 hT.2.1 q1 q5 ?_
    refine xk_iload_n dX5_low_15 rfl ?_
    refine xk_lald dX5_low_16 (hT.2.2 i hi) q2 ?_
    refine xk_goto 21 dX5_low_17 (by decide) ?_
    exact xk_lret rfl dX5_low_21 (Nat.le_refl _) (Nat.le_refl _) ⟨by first | (rw [tLow_nI hn hi hj hij, q4]; rfl) | (unfold tLow; rw [if_neg (by rw [c6]; decide)]; rfl), rfl⟩

set_option maxHeartbeats 4000000 in
set_option maxRecDepth 100000 in
theorem y_X5_isFull (d : Nat) {hs : xk_H} {t n fl : Nat} {w : tbW} (hn : n ≤ 6) (hT : tbA hs t n w fl) (h2 : 2 ≤ n) (hfl : fl < 100) : xk_F d mX5_isFull [.ref t] hs (some (.int (xk_b (decide (fl = n * (n - 1) / 2))))) hs := by
  have e1 : nI n * (nI n - 1) / 2 = nI (n * (n - 1) / 2) := by
    rw [show (1 : Int32) = nI 1 from rfl, pk_sub (by omega), pk_mul, show (2 : Int32) = nI 2 from rfl, pk_div (Nat.lt_of_le_of_lt (Nat.mul_le_mul hn (show n - 1 ≤ 6 by omega)) (by decide)) (by decide) (by decide)]
  have e2 : n * (n - 1) / 2 < 100 := Nat.lt_of_le_of_lt (Nat.div_le_self _ _) (Nat.lt_of_le_of_lt (Nat.mul_le_mul hn (show n - 1 ≤ 6 by omega)) (by decide))
  refine xk_Y.ofX (k := 0) (ls := [some (.ref t)]) (by decide) rfl rfl ?_
  refine xk_aload_n dX5_isFull_0 rfl ?_
  refine xk_get (ci := 4) (r := (RX5, TX5, 3)) 2 dX5_isFull_1 rfl inX5 (by decide) wf_X5_34 hT.1 rfl ?_
  refine xk_aload_n dX5_isFull_4 rfl ?_
  refine xk_get (ci := 4) (r := (RX5, TX5, 3)) 0 dX5_isFull_5 rfl inX5 (by decide) wf_X5_7 hT.1 rfl ?_
  refine xk_aload_n dX5_isFull_8 rfl ?_
  refine xk_get (ci := 4) (r := (RX5, TX5, 3)) 0 dX5_isFull_9 rfl inX5 (by decide) wf_X5_7 hT.1 rfl ?_
  refine xk_iconst (1) dX5_isFull_12 (by decide) ?_
  refine xk_isub dX5_isFull_13 ?_
  refine xk_imul dX5_isFull_14 ?_
  refine xk_iconst (2) dX5_isFull_15 (by decide) ?_
  refine xk_idiv dX5_isFull_16 (by decide) ?_
  rw [e1]
  refine xk_icmp_ne 24 dX5_isFull_17 (by decide) (fun c17 => ?_) (fun c17 => ?_)
  · rw [nI_eq (by omega) (by omega)] at c17
    refine xk_iconst (0) dX5_isFull_24 (by decide) ?_
    exact xk_zret rfl (by rfl) dX5_isFull_25 (Nat.le_refl _) (Nat.le_refl _) ⟨by first | rw [xd_t c17] | rw [xd_f c17], rfl⟩
  · rw [nI_eq (by omega) (by omega)] at c17
    refine xk_iconst (1) dX5_isFull_20 (by decide) ?_
    refine xk_goto 25 dX5_isFull_21 (by decide) ?_
    exact xk_zret rfl (by rfl) dX5_isFull_25 (Nat.le_refl _) (Nat.le_refl _) ⟨by first | rw [xd_t c17] | rw [xd_f c17], rfl⟩

set_option maxHeartbeats 4000000 in
set_option maxRecDepth 100000 in
theorem y_X5_put (d : Nat) {hs : xk_H} {t n fl : Nat} {w : tbW} {i j p q r s : Nat} (hn : n ≤ 6) (hT : tbA hs t n w fl) (ho : tbOK n w) (hi : i < n) (hj : j < n) (hij : i ≠ j) (hp : p ≤ 9) (hq : q ≤ 9) (hr : r ≤ 9) (hs2 : s ≤ 9) : xk_Y (d + 3) 0 0 mX5_put false [.ref t, .int (nI i), .int (nI j), .long (fr p q), .long (fr r s)] hs (fun r' h => r' = none ∧ tbA h t n (tbSet w i j (p, q) (s, r)) (if w i j = (0, 1) then fl + 1 else fl) ∧ xfr (tbS t n) hs h) := by
  have q1 : vp_in (nI i) n := vp_in_nI hi (by omega)
  have q2 : vp_in (nI j) n := vp_in_nI hj (by omega)
  have q3 : (nI i).toNatClampNeg = i := nI_clamp (by omega)
  have q4 : (nI j).toNatClampNeg = j := nI_clamp (by omega)
  have q5 : (if (nI i).toNatClampNeg < n then some (t + 2 + (nI i).toNatClampNeg) else none) = some (t + 2 + i) := by rw [q3, if_pos hi]
  have q6 : (if (nI j).toNatClampNeg < n then some (t + 2 + (nI j).toNatClampNeg) else none) = some (t + 2 + j) := by rw [q4, if_pos hj]
  have hH : tHas n w (nI i) (nI j) = decide (w i j ≠ (0, 1)) := by rw [tHas_nI hn (by omega) (by omega)]; simp [hi, hj, hij]
  have j29 : ∀ (fl' : Nat) (hs1 : xk_H), hs1 = hs.set t (.inr (4, [.int (nI n), .ref (t + 1), .int (nI fl')])) → fl' = (if w i j = (0, 1) then fl + 1 else fl) → xk_X (d + 3) 0 0 mX5_put (xk_fx false hs) (fun r' h => r' = none ∧ tbA h t n (tbSet w i j (p, q) (s, r)) (if w i j = (0, 1) then fl + 1 else fl) ∧ xfr (tbS t n) hs h) 0 0 29 [some (.ref t), some (.int (nI i)), some (.int (nI j)), some (.long (fr p q)), none, some (.long (fr r s)), none] [] hs1 := by
    intro fl' hs1 e1 e2
    subst e1
    have g1 := xs_at (e := .inr (4, [.int (nI n), .ref (t + 1), .int (nI fl')])) hT.1
    have g2 : (hs.set t (.inr (4, [.int (nI n), .ref (t + 1), .int (nI fl')])))[t + 1]? = _ := (xs_ne (by omega)).trans hT.2.1
    have g3 : (hs.set t (.inr (4, [.int (nI n), .ref (t + 1), .int (nI fl')])))[t + 2 + i]? = _ := (xs_ne (by omega)).trans (hT.2.2 i hi)
    refine xk_aload_n dX5_put_29 rfl ?_
    refine xk_get (ci := 4) (r := (RX5, TX5, 3)) 1 dX5_put_30 rfl inX5 (by decide) wf_X5_15 g1 rfl ?_
    refine xk_iload_n dX5_put_33 rfl ?_
    refine xk_aaldJ dX5_put_34 g2 q1 q5 ?_
    refine xk_iload_n dX5_put_35 rfl ?_
    refine xk_lload_n dX5_put_36 rfl ?_
    refine xk_last dX5_put_37 g3 q2 ?_
    rw [q4]
    refine xk_aload_n dX5_put_38 rfl ?_
    refine xk_get (ci := 4) (r := (RX5, TX5, 3)) 1 dX5_put_39 rfl inX5 (by decide) wf_X5_15 ((xs_ne (by omega)).trans g1) rfl ?_
    refine xk_iload_n dX5_put_42 rfl ?_
    refine xk_aaldJ dX5_put_43 ((xs_ne (by omega)).trans g2) q2 q6 ?_
    refine xk_iload_n dX5_put_44 rfl ?_
    refine xk_lload dX5_put_45 rfl ?_
    refine xk_s1c (M' := mX1_inverse) (d' := (d + 1) + 1) dX5_put_47 wm_X5_40 cv_X1_inverse wt_X1_inverse (by omega) (Nat.le_refl _) (Nat.le_refl _) (Nat.le_of_ble_eq_true rfl) (y_X1_inverse (d + 1) (by omega) (by omega)) rfl ?_
    have g4 : ((hs.set t (.inr (4, [.int (nI n), .ref (t + 1), .int (nI fl')]))).set (t + 2 + i) (.inl (1, n, .inr (.inl (vp_updL (tbRow w i) j (fr p q))))))[t + 2 + j]? = _ := (xs_ne (by omega)).trans ((xs_ne (by omega)).trans (hT.2.2 j hj))
    refine xk_last dX5_put_50 g4 q1 ?_
    rw [q3]
    exact xk_vret rfl dX5_put_51 (Nat.le_refl _) (Nat.le_refl _) ⟨rfl, by rw [← e2]; exact hT.put (a := (p, q)) (b := (s, r)) hi hj hij, ((xfr.rf.set ⟨by omega, by omega⟩).set ⟨by omega, by omega⟩).set ⟨by omega, by omega⟩⟩
  refine xk_Y.ofX (k := 0) (ls := [some (.ref t), some (.int (nI i)), some (.int (nI j)), some (.long (fr p q)), none, some (.long (fr r s)), none]) (by decide) rfl rfl ?_
  refine xk_aload_n dX5_put_0 rfl ?_
  refine xk_iload_n dX5_put_1 rfl ?_
  refine xk_iload_n dX5_put_2 rfl ?_
  refine xk_v2 (M' := mX5_isPair) (d' := (d + 1) + 1) (ci := 4) (r0 := (RX5, TX5, 3)) dX5_put_3 wm_X5_30 cv_X5_isPair wi_X5_isPair wl_X5_isPair (by omega) (Nat.le_refl _) (Nat.le_refl _) rfl rfl hT.1 (Nat.le_of_ble_eq_true rfl) (y_X5_isPair (d + 1) hT) rfl ?_
  refine xk_ifb_ne 10 dX5_put_6 (by decide) (fun c6 => ?_) (fun c6 => ?_)
  · refine xk_aload_n dX5_put_10 rfl ?_
    refine xk_iload_n dX5_put_11 rfl ?_
    refine xk_iload_n dX5_put_12 rfl ?_
    refine xk_v2 (M' := mX5_holds) (d' := d + 2) (ci := 4) (r0 := (RX5, TX5, 3)) dX5_put_13 wm_X5_37 cv_X5_holds wi_X5_holds wl_X5_holds (by omega) (Nat.le_refl _) (Nat.le_refl _) rfl rfl hT.1 (Nat.le_of_ble_eq_true rfl) (y_X5_holds d hn hT ho) rfl ?_
    refine xk_ifb_ne 29 dX5_put_16 (by decide) (fun c16 => ?_) (fun c16 => ?_)
    · rw [hH] at c16
      have c17 : ¬ w i j = (0, 1) := of_decide_eq_true c16
      first | exact j29 (fl + 1) _ rfl (by rw [if_pos c17]) | exact j29 fl _ (xs_same hT.1).symm (by rw [if_neg c17])
    · rw [hH] at c16
      have c17 : w i j = (0, 1) := by simpa using c16
      refine xk_aload_n dX5_put_19 rfl ?_
      refine xk_dup dX5_put_20 rfl ?_
      refine xk_get (ci := 4) (r := (RX5, TX5, 3)) 2 dX5_put_21 rfl inX5 (by decide) wf_X5_34 hT.1 rfl ?_
      refine xk_iconst (1) dX5_put_24 (by decide) ?_
      refine xk_iadd dX5_put_25 ?_
      rw [nI_1]
      refine xk_put (ci := 4) (r := (RX5, TX5, 3)) 2 tyX5 dX5_put_26 rfl inX5 tyX5_ok nmX5 (by decide) wf_X5_34 rfl (fun _ => rfl) (fun _ => rfl) hT.1 (Nat.le_of_ble_eq_true rfl) ?_
      dsimp only [List.set]
      first | exact j29 (fl + 1) _ rfl (by rw [if_pos c17]) | exact j29 fl _ (xs_same hT.1).symm (by rw [if_neg c17])
  · exact absurd c6 (by rw [tPair_t hn hi hj hij]; decide)

set_option maxHeartbeats 4000000 in
set_option maxRecDepth 100000 in
theorem y_X5_drop (d : Nat) {hs : xk_H} {t n fl : Nat} {w : tbW} {x y : Int32} (hn : n ≤ 6) (hT : tbA hs t n w fl) (ho : tbOK n w) (hfl : tHas n w x y = true → 1 ≤ fl) : xk_Y (d + 3) 0 0 mX5_drop false [.ref t, .int x, .int y] hs (fun r' h => r' = some (.int (xk_b (tHas n w x y))) ∧ (if tHas n w x y = true then tbA h t n (tbSet w x.toNatClampNeg y.toNatClampNeg (0, 1) (0, 1)) (fl - 1) ∧ xfr (tbS t n) hs h else h = hs)) := by
  refine xk_Y.ofX (k := 0) (ls := [some (.ref t), some (.int x), some (.int y)]) (by decide) rfl rfl ?_
  refine xk_aload_n dX5_drop_0 rfl ?_
  refine xk_iload_n dX5_drop_1 rfl ?_
  refine xk_iload_n dX5_drop_2 rfl ?_
  refine xk_v2 (M' := mX5_holds) (d' := d + 2) (ci := 4) (r0 := (RX5, TX5, 3)) dX5_drop_3 wm_X5_37 cv_X5_holds wi_X5_holds wl_X5_holds (by omega) (Nat.le_refl _) (Nat.le_refl _) rfl rfl hT.1 (Nat.le_of_ble_eq_true rfl) (y_X5_holds d hn hT ho) rfl ?_
  refine xk_ifb_ne 11 dX5_drop_6 (by decide) (fun c6 => ?_) (fun c6 => ?_)
  · obtain ⟨i, j, hi, hj, hij, rfl, rfl, c7⟩ := tHas_of hn c6
    have q1 : vp_in (nI i) n := vp_in_nI hi (by omega)
    have q2 : vp_in (nI j) n := vp_in_nI hj (by omega)
    have q3 : (nI i).toNatClampNeg = i := nI_clamp (by omega)
    have q4 : (nI j).toNatClampNeg = j := nI_clamp (by omega)
    have q5 : (if (nI i).toNatClampNeg < n then some (t + 2 + (nI i).toNatClampNeg) else none) = some (t + 2 + i) := by rw [q3, if_pos hi]
    have q6 : (if (nI j).toNatClampNeg < n then some (t + 2 + (nI j).toNatClampNeg) else none) = some (t + 2 + j) := by rw [q4, if_pos hj]
    skip
    refine xk_aload_n dX5_drop_11 rfl ?_
    refine xk_dup dX5_drop_12 rfl ?_
    refine xk_get (ci := 4) (r := (RX5, TX5, 3)) 2 dX5_drop_13 rfl inX5 (by decide) wf_X5_34 hT.1 rfl ?_
    refine xk_iconst (1) dX5_drop_16 (by decide) ?_
    refine xk_isub dX5_drop_17 ?_
    rw [show (1 : Int32) = nI 1 from rfl, pk_sub (hfl c6)]
    refine xk_put (ci := 4) (r := (RX5, TX5, 3)) 2 tyX5 dX5_drop_18 rfl inX5 tyX5_ok nmX5 (by decide) wf_X5_34 rfl (fun _ => rfl) (fun _ => rfl) hT.1 (Nat.le_of_ble_eq_true rfl) ?_
    dsimp only [List.set]
    have g1 := xs_at (e := .inr (4, [.int (nI n), .ref (t + 1), .int (nI (fl - 1))])) hT.1
    have g2 : (hs.set t (.inr (4, [.int (nI n), .ref (t + 1), .int (nI (fl - 1))])))[t + 1]? = _ := (xs_ne (by omega)).trans hT.2.1
    have g3 : (hs.set t (.inr (4, [.int (nI n), .ref (t + 1), .int (nI (fl - 1))])))[t + 2 + i]? = _ := (xs_ne (by omega)).trans (hT.2.2 i hi)
    refine xk_aload_n dX5_drop_21 rfl ?_
    refine xk_get (ci := 4) (r := (RX5, TX5, 3)) 1 dX5_drop_22 rfl inX5 (by decide) wf_X5_15 g1 rfl ?_
    refine xk_iload_n dX5_drop_25 rfl ?_
    refine xk_aaldJ dX5_drop_26 g2 q1 q5 ?_
    refine xk_iload_n dX5_drop_27 rfl ?_
    refine xk_lconst (1) dX5_drop_28 (by decide) ?_
    refine xk_last dX5_drop_29 g3 q2 ?_
    rw [q4]
    have g4 : ((hs.set t (.inr (4, [.int (nI n), .ref (t + 1), .int (nI (fl - 1))]))).set (t + 2 + i) (.inl (1, n, .inr (.inl (vp_updL (tbRow w i) j 1)))))[t + 2 + j]? = _ := (xs_ne (by omega)).trans ((xs_ne (by omega)).trans (hT.2.2 j hj))
    refine xk_aload_n dX5_drop_30 rfl ?_
    refine xk_get (ci := 4) (r := (RX5, TX5, 3)) 1 dX5_drop_31 rfl inX5 (by decide) wf_X5_15 ((xs_ne (by omega)).trans g1) rfl ?_
    refine xk_iload_n dX5_drop_34 rfl ?_
    refine xk_aaldJ dX5_drop_35 ((xs_ne (by omega)).trans g2) q2 q6 ?_
    refine xk_iload_n dX5_drop_36 rfl ?_
    refine xk_lconst (1) dX5_drop_37 (by decide) ?_
    refine xk_last dX5_drop_38 g4 q1 ?_
    rw [q3]
    refine xk_iconst (1) dX5_drop_39 (by decide) ?_
    exact xk_zret rfl (by rfl) dX5_drop_40 (Nat.le_refl _) (Nat.le_refl _) ⟨by rw [xb_t c6], by rw [if_pos c6]; exact ⟨hT.put (a := (0, 1)) (b := (0, 1)) hi hj hij, ((xfr.rf.set ⟨by omega, by omega⟩).set ⟨by omega, by omega⟩).set ⟨by omega, by omega⟩⟩⟩
  · refine xk_iconst (0) dX5_drop_9 (by decide) ?_
    exact xk_zret rfl (by rfl) dX5_drop_10 (Nat.le_refl _) (Nat.le_refl _) ⟨by rw [xb_f c6], by rw [if_neg (by rw [c6]; decide)]⟩
end
section
/-! WorstThree: what it computes. Own text. -/
/-- m rounds of a loop whose counter begins at i -/
def itr {σ : Type} (f : Nat → σ → σ) : Nat → Nat → σ → σ
  | 0, _, s => s
  | m + 1, i, s => itr f m (i + 1) (f i s)
theorem itr_inv {σ : Type} {f : Nat → σ → σ} (I : σ → Prop) : ∀ (m i : Nat) (s : σ), (∀ k s, i ≤ k → k < i + m → I s → I (f k s)) → I s → I (itr f m i s)
  | 0, _, _, _, h => h
  | m + 1, i, s, hf, h => itr_inv I m (i + 1) (f i s) (fun k s h1 h2 => hf k s (by omega) (by omega)) (hf i s (Nat.le_refl _) (by omega) h)
theorem tbA.set1 {hs : xk_H} {t n fl a : Nat} {w : tbW} {e : xk_C} (H : tbA hs t n w fl) (ha : ¬ tbS t n a) : tbA (hs.set a e) t n w fl := H.kept (S := fun k => k = a) (xfr.rf.set rfl) (fun k hk q => ha (q ▸ hk))
def hasN (w : tbW) (i j : Nat) : Bool := decide (w i j ≠ (0, 1))
theorem tHas_N {n i j : Nat} {w : tbW} (hn : n ≤ 6) (hi : i < n) (hj : j < n) (hij : i ≠ j) : tHas n w (nI i) (nI j) = hasN w i j := by
  rw [tHas_nI hn (by omega) (by omega)]
  simp [hasN, hi, hj, hij]
def mul2 (a b : Nat × Nat) : Nat × Nat := (a.1 * b.1, a.2 * b.2)
/-- what three things are off; (0, 1) if they aren't all said -/
def offW (w : tbW) (a b c : Nat) : Nat × Nat :=
  if (hasN w a b && hasN w b c && hasN w c a) = true then
    (let p := mul2 (mul2 (w a b) (w b c)) (w c a); if p.1 < p.2 then (p.2, p.1) else p)
  else (0, 1)
abbrev woS : Type := Int32 × Int32 × Int32 × Nat × Nat
def woO (n : Nat) (s : woS) : xk_C := .inr (6, [.int (nI n), .int s.1, .int s.2.1, .int s.2.2.1, .long (fr s.2.2.2.1 s.2.2.2.2)])
def woB (s : woS) : Prop := s.2.2.2.1 ≤ 729 ∧ s.2.2.2.2 ≤ 729
def woC (w : tbW) (a b c : Nat) (s : woS) : woS := if s.2.2.2.1 * (offW w a b c).2 < (offW w a b c).1 * s.2.2.2.2 then (nI a, nI b, nI c, (offW w a b c).1, (offW w a b c).2) else s
def woF (w : tbW) (n : Nat) (s : woS) : woS :=
  itr (fun a s => itr (fun b s => itr (fun c s => woC w a b c s) (n - (b + 1)) (b + 1) s) (n - (a + 1)) (a + 1) s) n 0 (s.1, s.2.1, s.2.2.1, 0, 1)
theorem mul_le9 {a b x y : Nat} (h1 : a ≤ x) (h2 : b ≤ y) : a * b ≤ x * y := Nat.mul_le_mul h1 h2
theorem offW_b {n a b c : Nat} {w : tbW} (ho : tbOK n w) (ha : a < n) (hb : b < n) (hc : c < n) : (offW w a b c).1 ≤ 729 ∧ (offW w a b c).2 ≤ 729 := by
  unfold offW
  split
  · have h1 := ho.lt ha hb
    have h2 := ho.lt hb hc
    have h3 := ho.lt hc ha
    have e1 : (mul2 (mul2 (w a b) (w b c)) (w c a)).1 ≤ 9 * 9 * 9 := mul_le9 (mul_le9 h1.1 h2.1) h3.1
    have e2 : (mul2 (mul2 (w a b) (w b c)) (w c a)).2 ≤ 9 * 9 * 9 := mul_le9 (mul_le9 h1.2.1 h2.2.1) h3.2.1
    dsimp only
    split
    · exact ⟨e2, e1⟩
    · exact ⟨e1, e2⟩
  · decide
theorem woC_b {n a b c : Nat} {w : tbW} {s : woS} (ho : tbOK n w) (ha : a < n) (hb : b < n) (hc : c < n) (h : woB s) : woB (woC w a b c s) := by
  unfold woC
  split
  · exact offW_b ho ha hb hc
  · exact h
end
section
/-! WorstThree: contracts. Laid by a program of our own. -/
set_option maxHeartbeats 4000000 in
set_option maxRecDepth 100000 in
theorem y_X7_offOf (d : Nat) {hs : xk_H} {t n fl : Nat} {w : tbW} {a b c : Nat} (hn : n ≤ 6) (hT : tbA hs t n w fl) (ho : tbOK n w) (ha : a < n) (hb : b < n) (hc : c < n) (hab : a ≠ b) (hbc : b ≠ c) (hac : a ≠ c) : xk_F (d + 3) mX7_offOf [.ref t, .int (nI a), .int (nI b), .int (nI c)] hs (some (.long (fr (offW w a b c).1 (offW w a b c).2))) hs := by
  have b1 := ho.lt ha hb
  have b2 := ho.lt hb hc
  have b3 := ho.lt hc ha
  have p1 : (w a b).1 * (w b c).1 ≤ 81 := mul_le9 b1.1 b2.1
  have p2 : (w a b).2 * (w b c).2 ≤ 81 := mul_le9 b1.2.1 b2.2.1
  have p3 : (w a b).1 * (w b c).1 * (w c a).1 ≤ 729 := mul_le9 p1 b3.1
  have p4 : (w a b).2 * (w b c).2 * (w c a).2 ≤ 729 := mul_le9 p2 b3.2.1
  have e1 := tHas_N (w := w) hn ha hb hab
  have e2 := tHas_N (w := w) hn hb hc hbc
  have e3 := tHas_N (w := w) hn hc ha (Ne.symm hac)
  have f1 := tLow_nI (w := w) hn ha hb hab
  have f2 := tLow_nI (w := w) hn hb hc hbc
  have f3 := tLow_nI (w := w) hn hc ha (Ne.symm hac)
  refine xk_Y.ofX (k := 2) (ls := [some (.ref t), some (.int (nI a)), some (.int (nI b)), some (.int (nI c)), none, none]) (by decide) rfl rfl ?_
  refine xk_aload_n dX7_offOf_0 rfl ?_
  refine xk_iload_n dX7_offOf_1 rfl ?_
  refine xk_iload_n dX7_offOf_2 rfl ?_
  refine xk_v2 (M' := mX5_holds) (d' := d + 2) (ci := 4) (r0 := (RX5, TX5, 3)) dX7_offOf_3 wm_X7_40 cv_X5_holds wi_X5_holds wl_X5_holds (by omega) (Nat.le_refl _) (Nat.le_refl _) rfl rfl hT.1 (Nat.le_of_ble_eq_true rfl) (y_X5_holds d hn hT ho) rfl ?_
  refine xk_ifb_eq 27 dX7_offOf_6 (by decide) (fun c6 => ?_) (fun c6 => ?_)
  · rw [e1] at c6
    refine xk_lconst (1) dX7_offOf_27 (by decide) ?_
    exact xk_lret rfl dX7_offOf_28 (Nat.le_refl _) (Nat.le_refl _) ⟨by simp [offW, *]; rfl, rfl⟩
  · rw [e1] at c6
    refine xk_aload_n dX7_offOf_9 rfl ?_
    refine xk_iload_n dX7_offOf_10 rfl ?_
    refine xk_iload_n dX7_offOf_11 rfl ?_
    refine xk_v2 (M' := mX5_holds) (d' := d + 2) (ci := 4) (r0 := (RX5, TX5, 3)) dX7_offOf_12 wm_X7_40 cv_X5_holds wi_X5_holds wl_X5_holds (by omega) (Nat.le_refl _) (Nat.le_refl _) rfl rfl hT.1 (Nat.le_of_ble_eq_true rfl) (y_X5_holds d hn hT ho) rfl ?_
    refine xk_ifb_eq 27 dX7_offOf_15 (by decide) (fun c15 => ?_) (fun c15 => ?_)
    · rw [e2] at c15
      refine xk_lconst (1) dX7_offOf_27 (by decide) ?_
      exact xk_lret rfl dX7_offOf_28 (Nat.le_refl _) (Nat.le_refl _) ⟨by simp [offW, *]; rfl, rfl⟩
    · rw [e2] at c15
      refine xk_aload_n dX7_offOf_18 rfl ?_
      refine xk_iload_n dX7_offOf_19 rfl ?_
      refine xk_iload_n dX7_offOf_20 rfl ?_
      refine xk_v2 (M' := mX5_holds) (d' := d + 2) (ci := 4) (r0 := (RX5, TX5, 3)) dX7_offOf_21 wm_X7_40 cv_X5_holds wi_X5_holds wl_X5_holds (by omega) (Nat.le_refl _) (Nat.le_refl _) rfl rfl hT.1 (Nat.le_of_ble_eq_true rfl) (y_X5_holds d hn hT ho) rfl ?_
      refine xk_ifb_ne 29 dX7_offOf_24 (by decide) (fun c24 => ?_) (fun c24 => ?_)
      · rw [e3] at c24
        refine xk_aload_n dX7_offOf_29 rfl ?_
        refine xk_iload_n dX7_offOf_30 rfl ?_
        refine xk_iload_n dX7_offOf_31 rfl ?_
        refine xk_v2 (M' := mX5_low) (d' := d + 2) (ci := 4) (r0 := (RX5, TX5, 3)) dX7_offOf_32 wm_X7_46 cv_X5_low wi_X5_low wl_X5_low (by omega) (Nat.le_refl _) (Nat.le_refl _) rfl rfl hT.1 (Nat.le_of_ble_eq_true rfl) (y_X5_low d hn hT) rfl ?_
        rw [f1]
        refine xk_aload_n dX7_offOf_35 rfl ?_
        refine xk_iload_n dX7_offOf_36 rfl ?_
        refine xk_iload_n dX7_offOf_37 rfl ?_
        refine xk_v2 (M' := mX5_low) (d' := d + 2) (ci := 4) (r0 := (RX5, TX5, 3)) dX7_offOf_38 wm_X7_46 cv_X5_low wi_X5_low wl_X5_low (by omega) (Nat.le_refl _) (Nat.le_refl _) rfl rfl hT.1 (Nat.le_of_ble_eq_true rfl) (y_X5_low d hn hT) rfl ?_
        rw [f2]
        refine xk_s2c (M' := mX1_times) (d' := (d + 1) + 1) dX7_offOf_41 wm_X7_50 cv_X1_times wt_X1_times (by omega) (Nat.le_refl _) (Nat.le_refl _) (Nat.le_of_ble_eq_true rfl) (y_X1_times (d + 1) (by omega) (by omega) (by omega) (by omega) (by omega) (by omega)) rfl ?_
        refine xk_lstore dX7_offOf_44 (by decide) ?_
        dsimp only [xk_s1, xk_s2, xk_kill]
        refine xk_lload dX7_offOf_46 rfl ?_
        refine xk_aload_n dX7_offOf_48 rfl ?_
        refine xk_iload_n dX7_offOf_49 rfl ?_
        refine xk_iload_n dX7_offOf_50 rfl ?_
        refine xk_v2 (M' := mX5_low) (d' := d + 2) (ci := 4) (r0 := (RX5, TX5, 3)) dX7_offOf_51 wm_X7_46 cv_X5_low wi_X5_low wl_X5_low (by omega) (Nat.le_refl _) (Nat.le_refl _) rfl rfl hT.1 (Nat.le_of_ble_eq_true rfl) (y_X5_low d hn hT) rfl ?_
        rw [f3]
        refine xk_s2c (M' := mX1_times) (d' := (d + 1) + 1) dX7_offOf_54 wm_X7_50 cv_X1_times wt_X1_times (by omega) (Nat.le_refl _) (Nat.le_refl _) (Nat.le_of_ble_eq_true rfl) (y_X1_times (d + 1) (by omega) (by omega) (by omega) (by omega) (by omega) (by omega)) rfl ?_
        refine xk_lstore dX7_offOf_57 (by decide) ?_
        dsimp only [xk_s1, xk_s2, xk_kill]
        refine xk_ldc2 dX7_offOf_59 wk_X7_54 ?_
        rw [show (4294967297 : Int64) = fr 1 1 from rfl]
        refine xk_lload dX7_offOf_62 rfl ?_
        refine xk_s2c (M' := mX1_isAbove) (d' := (d + 1) + 1) dX7_offOf_64 wm_X7_27 cv_X1_isAbove wt_X1_isAbove (by omega) (Nat.le_refl _) (Nat.le_refl _) (Nat.le_of_ble_eq_true rfl) (y_X1_isAbove (d + 1) (by omega) (by omega) (by omega) (by omega)) rfl ?_
        refine xk_ifb_eq 78 dX7_offOf_67 (by decide) (fun c67 => ?_) (fun c67 => ?_)
        · have c68 : ¬ (w a b).1 * (w b c).1 * (w c a).1 < (w a b).2 * (w b c).2 * (w c a).2 := by
            have := of_decide_eq_false c67
            omega
          refine xk_lload dX7_offOf_78 rfl ?_
          exact xk_lret rfl dX7_offOf_80 (Nat.le_refl _) (Nat.le_refl _) ⟨by simp [offW, mul2, *], rfl⟩
        · have c68 : (w a b).1 * (w b c).1 * (w c a).1 < (w a b).2 * (w b c).2 * (w c a).2 := by
            have := of_decide_eq_true c67
            omega
          refine xk_lload dX7_offOf_70 rfl ?_
          refine xk_s1c (M' := mX1_inverse) (d' := (d + 1) + 1) dX7_offOf_72 wm_X7_56 cv_X1_inverse wt_X1_inverse (by omega) (Nat.le_refl _) (Nat.le_refl _) (Nat.le_of_ble_eq_true rfl) (y_X1_inverse (d + 1) (by omega) (by omega)) rfl ?_
          refine xk_goto 80 dX7_offOf_75 (by decide) ?_
          exact xk_lret rfl dX7_offOf_80 (Nat.le_refl _) (Nat.le_refl _) ⟨by simp [offW, mul2, *], rfl⟩
      · rw [e3] at c24
        refine xk_lconst (1) dX7_offOf_27 (by decide) ?_
        exact xk_lret rfl dX7_offOf_28 (Nat.le_refl _) (Nat.le_refl _) ⟨by simp [offW, *]; rfl, rfl⟩

set_option maxHeartbeats 4000000 in
set_option maxRecDepth 100000 in
theorem y_X7_compare (d : Nat) {hs : xk_H} {t n fl : Nat} {w : tbW} {u : Nat} {s : woS} {a b c : Nat} (hn : n ≤ 6) (hT : tbA hs t n w fl) (ho : tbOK n w) (hu : hs[u]? = some (woO n s)) (hs2 : woB s) (ha : a < n) (hb : b < n) (hc : c < n) (hab : a ≠ b) (hbc : b ≠ c) (hac : a ≠ c) : xk_F (d + 4) mX7_compare [.ref u, .ref t, .int (nI a), .int (nI b), .int (nI c)] hs none (hs.set u (woO n (woC w a b c s))) := by
  have bb := offW_b ho ha hb hc (w := w)
  have hs1 := hs2.1
  have hs3 := hs2.2
  refine xk_Y.ofX (k := 2) (ls := [some (.ref u), some (.ref t), some (.int (nI a)), some (.int (nI b)), some (.int (nI c)), none, none]) (by decide) rfl rfl ?_
  refine xk_aload_n dX7_compare_0 rfl ?_
  refine xk_iload_n dX7_compare_1 rfl ?_
  refine xk_iload_n dX7_compare_2 rfl ?_
  refine xk_iload dX7_compare_3 rfl ?_
  refine xk_s4c (M' := mX7_offOf) (d' := d + 3) dX7_compare_5 wm_X7_23 cv_X7_offOf wt_X7_offOf (by omega) (Nat.le_refl _) (Nat.le_refl _) (Nat.le_of_ble_eq_true rfl) (y_X7_offOf d hn hT ho ha hb hc hab hbc hac) rfl ?_
  refine xk_lstore dX7_compare_8 (by decide) ?_
  dsimp only [xk_s1, xk_s2, xk_kill]
  refine xk_lload dX7_compare_10 rfl ?_
  refine xk_aload_n dX7_compare_12 rfl ?_
  refine xk_get (ci := 6) (r := (RX7, TX7, 5)) 4 dX7_compare_13 rfl inX7 (by decide) wf_X7_15 hu rfl ?_
  refine xk_s2c (M' := mX1_isAbove) (d' := (d + 2) + 1) dX7_compare_16 wm_X7_27 cv_X1_isAbove wt_X1_isAbove (by omega) (Nat.le_refl _) (Nat.le_refl _) (Nat.le_of_ble_eq_true rfl) (y_X1_isAbove (d + 2) (by omega) (by omega) (by omega) (by omega)) rfl ?_
  refine xk_ifb_eq 44 dX7_compare_19 (by decide) (fun c19 => ?_) (fun c19 => ?_)
  · have c20 := of_decide_eq_false c19
    exact xk_vret rfl dX7_compare_44 (Nat.le_refl _) (Nat.le_refl _) ⟨rfl, by first | (unfold woC; rw [if_pos c20]; rfl) | (unfold woC; rw [if_neg c20]; exact (xs_same hu).symm)⟩
  · have c20 := of_decide_eq_true c19
    refine xk_aload_n dX7_compare_22 rfl ?_
    refine xk_iload_n dX7_compare_23 rfl ?_
    refine xk_put (ci := 6) (r := (RX7, TX7, 5)) 1 tyX7 dX7_compare_24 rfl inX7 tyX7_ok nmX7 (by decide) wf_X7_31 rfl (fun _ => rfl) (fun _ => rfl) hu (Nat.le_of_ble_eq_true rfl) ?_
    dsimp only [List.set]
    refine xk_aload_n dX7_compare_27 rfl ?_
    refine xk_iload_n dX7_compare_28 rfl ?_
    refine xk_put (ci := 6) (r := (RX7, TX7, 5)) 2 tyX7 dX7_compare_29 rfl inX7 tyX7_ok nmX7 (by decide) wf_X7_34 rfl (fun _ => rfl) (fun _ => rfl) (xs_at hu) (Nat.le_of_ble_eq_true rfl) ?_
    dsimp only [List.set]
    rw [List.set_set]
    refine xk_aload_n dX7_compare_32 rfl ?_
    refine xk_iload dX7_compare_33 rfl ?_
    refine xk_put (ci := 6) (r := (RX7, TX7, 5)) 3 tyX7 dX7_compare_35 rfl inX7 tyX7_ok nmX7 (by decide) wf_X7_37 rfl (fun _ => rfl) (fun _ => rfl) (xs_at hu) (Nat.le_of_ble_eq_true rfl) ?_
    dsimp only [List.set]
    rw [List.set_set]
    refine xk_aload_n dX7_compare_38 rfl ?_
    refine xk_lload dX7_compare_39 rfl ?_
    refine xk_put (ci := 6) (r := (RX7, TX7, 5)) 4 tyX7 dX7_compare_41 rfl inX7 tyX7_ok nmX7 (by decide) wf_X7_15 rfl (fun _ => rfl) (fun _ => rfl) (xs_at hu) (Nat.le_of_ble_eq_true rfl) ?_
    dsimp only [List.set]
    rw [List.set_set]
    exact xk_vret rfl dX7_compare_44 (Nat.le_refl _) (Nat.le_refl _) ⟨rfl, by first | (unfold woC; rw [if_pos c20]; rfl) | (unfold woC; rw [if_neg c20]; exact (xs_same hu).symm)⟩

set_option maxHeartbeats 4000000 in
set_option maxRecDepth 100000 in
/-- find: all threes, in their order -/
theorem y_X7_find (d : Nat) {hs : xk_H} {t n fl : Nat} {w : tbW} {u : Nat} {s : woS} (hn : n ≤ 6) (hT : tbA hs t n w fl) (ho : tbOK n w) (hu : hs[u]? = some (woO n s)) (hut : ¬ tbS t n u) : xk_F (d + 5) mX7_find [.ref u, .ref t] hs none (hs.set u (woO n (woF w n s))) := by
  have hT2 : ∀ e : xk_C, tbA (hs.set u e) t n w fl := fun e => hT.set1 hut
  have l32 : ∀ (m c : Nat) (s1 : woS) (a b : Nat), c + m = n → a < b → b < c → b < n → woB s1 → (∀ v : Int32, xk_P (d + 5) mX7_find [.ref u, .ref t] hs none (hs.set u (woO n (woF w n s))) 56 [some (.ref u), some (.ref t), some (.int (nI a)), some (.int (nI b)), some (.int v)] [] (hs.set u (woO n (itr (fun c s => woC w a b c s) m c s1)))) → xk_P (d + 5) mX7_find [.ref u, .ref t] hs none (hs.set u (woO n (woF w n s))) 32 [some (.ref u), some (.ref t), some (.int (nI a)), some (.int (nI b)), some (.int (nI c))] [] (hs.set u (woO n s1)) := by
    intro m
    induction m with
    | zero =>
      intro c s1 a b h1 hab hbc hbn hB K
      refine xk_iload dX7_find_32 rfl ?_
      refine xk_aload_n dX7_find_34 rfl ?_
      refine xk_get (ci := 6) (r := (RX7, TX7, 5)) 0 dX7_find_35 rfl inX7 (by decide) wf_X7_7 (xs_at hu) rfl ?_
      refine xk_icmp_ge 56 dX7_find_38 (by decide) (fun c38 => ?_) (fun c38 => ?_)
      · exact K _
      · exact absurd (nI_le (by omega) (by omega)) c38
    | succ m ih =>
      intro c s1 a b h1 hab hbc hbn hB K
      refine xk_iload dX7_find_32 rfl ?_
      refine xk_aload_n dX7_find_34 rfl ?_
      refine xk_get (ci := 6) (r := (RX7, TX7, 5)) 0 dX7_find_35 rfl inX7 (by decide) wf_X7_7 (xs_at hu) rfl ?_
      refine xk_icmp_ge 56 dX7_find_38 (by decide) (fun c38 => ?_) (fun c38 => ?_)
      · exact absurd c38 (nI_ge (by omega) (by omega))
      · refine xk_aload_n dX7_find_41 rfl ?_
        refine xk_aload_n dX7_find_42 rfl ?_
        refine xk_iload_n dX7_find_43 rfl ?_
        refine xk_iload_n dX7_find_44 rfl ?_
        refine xk_iload dX7_find_45 rfl ?_
        refine xk_v4n (M' := mX7_compare) (d' := d + 4) (ci := 6) (r0 := (RX7, TX7, 5)) dX7_find_47 wm_X7_19 cv_X7_compare wi_X7_compare wl_X7_compare (by omega) (Nat.le_refl _) (Nat.le_refl _) rfl rfl (xs_at hu) (Nat.le_of_ble_eq_true rfl) (y_X7_compare d hn (hT2 _) ho (xs_at hu) hB (by omega) (by omega) (by omega) (by omega) (by omega) (by omega)) (by simp) ?_
        rw [List.set_set]
        refine xk_iinc (nI (c + 1)) dX7_find_50 rfl (nI_1 c) (by decide) ?_
        dsimp only [xk_s1, xk_s2, xk_kill]
        refine xk_goto 32 dX7_find_53 (by decide) ?_
        exact ih (c + 1) _ a b (by omega) hab (by omega) hbn (woC_b ho (by omega) (by omega) (by omega) hB) K
  have l19 : ∀ (m b : Nat) (s1 : woS) (a : Nat) (o4 : Option Value), b + m = n → a < b → woB s1 → (∀ (v : Int32) (o4 : Option Value), xk_P (d + 5) mX7_find [.ref u, .ref t] hs none (hs.set u (woO n (woF w n s))) 62 [some (.ref u), some (.ref t), some (.int (nI a)), some (.int v), o4] [] (hs.set u (woO n (itr (fun b s => itr (fun c s => woC w a b c s) (n - (b + 1)) (b + 1) s) m b s1)))) → xk_P (d + 5) mX7_find [.ref u, .ref t] hs none (hs.set u (woO n (woF w n s))) 19 [some (.ref u), some (.ref t), some (.int (nI a)), some (.int (nI b)), o4] [] (hs.set u (woO n s1)) := by
    intro m
    induction m with
    | zero =>
      intro b s1 a o4 h1 hab hB K
      refine xk_iload_n dX7_find_19 rfl ?_
      refine xk_aload_n dX7_find_20 rfl ?_
      refine xk_get (ci := 6) (r := (RX7, TX7, 5)) 0 dX7_find_21 rfl inX7 (by decide) wf_X7_7 (xs_at hu) rfl ?_
      refine xk_icmp_ge 62 dX7_find_24 (by decide) (fun c24 => ?_) (fun c24 => ?_)
      · exact K _ _
      · exact absurd (nI_le (by omega) (by omega)) c24
    | succ m ih =>
      intro b s1 a o4 h1 hab hB K
      refine xk_iload_n dX7_find_19 rfl ?_
      refine xk_aload_n dX7_find_20 rfl ?_
      refine xk_get (ci := 6) (r := (RX7, TX7, 5)) 0 dX7_find_21 rfl inX7 (by decide) wf_X7_7 (xs_at hu) rfl ?_
      refine xk_icmp_ge 62 dX7_find_24 (by decide) (fun c24 => ?_) (fun c24 => ?_)
      · exact absurd c24 (nI_ge (by omega) (by omega))
      · refine xk_iload_n dX7_find_27 rfl ?_
        refine xk_iconst (1) dX7_find_28 (by decide) ?_
        refine xk_iadd dX7_find_29 ?_
        rw [nI_1]
        refine xk_istore dX7_find_30 (by decide) ?_
        dsimp only [xk_s1, xk_s2, xk_kill]
        refine l32 (n - (b + 1)) (b + 1) s1 a b (by omega) hab (by omega) (by omega) hB (fun v => ?_)
        refine xk_iinc (nI (b + 1)) dX7_find_56 rfl (nI_1 b) (by decide) ?_
        dsimp only [xk_s1, xk_s2, xk_kill]
        refine xk_goto 19 dX7_find_59 (by decide) ?_
        exact ih (b + 1) _ a _ (by omega) (by omega) (itr_inv woB _ _ _ (fun k s h1 h2 => woC_b ho (by omega) (by omega) (by omega)) hB) K
  have l7 : ∀ (m a : Nat) (s1 : woS) (o3 o4 : Option Value), a + m = n → woB s1 → (itr (fun a s => itr (fun b s => itr (fun c s => woC w a b c s) (n - (b + 1)) (b + 1) s) (n - (a + 1)) (a + 1) s) m a s1) = woF w n s → xk_P (d + 5) mX7_find [.ref u, .ref t] hs none (hs.set u (woO n (woF w n s))) 7 [some (.ref u), some (.ref t), some (.int (nI a)), o3, o4] [] (hs.set u (woO n s1)) := by
    intro m
    induction m with
    | zero =>
      intro a s1 o3 o4 h1 hB hF
      refine xk_iload_n dX7_find_7 rfl ?_
      refine xk_aload_n dX7_find_8 rfl ?_
      refine xk_get (ci := 6) (r := (RX7, TX7, 5)) 0 dX7_find_9 rfl inX7 (by decide) wf_X7_7 (xs_at hu) rfl ?_
      refine xk_icmp_ge 68 dX7_find_12 (by decide) (fun c12 => ?_) (fun c12 => ?_)
      · exact xk_vret rfl dX7_find_68 (Nat.le_refl _) (Nat.le_refl _) ⟨rfl, by rw [← hF]; rfl⟩
      · exact absurd (nI_le (by omega) (by omega)) c12
    | succ m ih =>
      intro a s1 o3 o4 h1 hB hF
      refine xk_iload_n dX7_find_7 rfl ?_
      refine xk_aload_n dX7_find_8 rfl ?_
      refine xk_get (ci := 6) (r := (RX7, TX7, 5)) 0 dX7_find_9 rfl inX7 (by decide) wf_X7_7 (xs_at hu) rfl ?_
      refine xk_icmp_ge 68 dX7_find_12 (by decide) (fun c12 => ?_) (fun c12 => ?_)
      · exact absurd c12 (nI_ge (by omega) (by omega))
      · refine xk_iload_n dX7_find_15 rfl ?_
        refine xk_iconst (1) dX7_find_16 (by decide) ?_
        refine xk_iadd dX7_find_17 ?_
        rw [nI_1]
        refine xk_istore_n dX7_find_18 (by decide) ?_
        dsimp only [xk_s1, xk_s2, xk_kill]
        refine l19 (n - (a + 1)) (a + 1) s1 a _ (by omega) (by omega) hB (fun v o => ?_)
        refine xk_iinc (nI (a + 1)) dX7_find_62 rfl (nI_1 a) (by decide) ?_
        dsimp only [xk_s1, xk_s2, xk_kill]
        refine xk_goto 7 dX7_find_65 (by decide) ?_
        exact ih (a + 1) _ _ _ (by omega) (itr_inv woB _ _ _ (fun k s h1 h2 h3 => itr_inv woB _ _ _ (fun k2 s h4 h5 => woC_b ho (by omega) (by omega) (by omega)) h3) hB) hF
  refine xk_Y.ofX (k := 3) (ls := [some (.ref u), some (.ref t), none, none, none]) (by decide) rfl rfl ?_
  refine xk_aload_n dX7_find_0 rfl ?_
  refine xk_lconst (1) dX7_find_1 (by decide) ?_
  rw [show (1 : Int64) = fr 0 1 from rfl]
  refine xk_put (ci := 6) (r := (RX7, TX7, 5)) 4 tyX7 dX7_find_2 rfl inX7 tyX7_ok nmX7 (by decide) wf_X7_15 rfl (fun _ => rfl) (fun _ => rfl) hu (Nat.le_of_ble_eq_true rfl) ?_
  dsimp only [List.set]
  refine xk_iconst (0) dX7_find_5 (by decide) ?_
  refine xk_istore_n dX7_find_6 (by decide) ?_
  dsimp only [xk_s1, xk_s2, xk_kill]
  exact l7 n 0 (s.1, s.2.1, s.2.2.1, 0, 1) _ _ (by omega) ⟨Nat.le_of_ble_eq_true rfl, Nat.le_of_ble_eq_true rfl⟩ rfl
end
section
/-! Rings: what it computes. Own text. -/
theorem mk_all : ∀ m, m < 64 → ∀ k, k < 6 → ((((nI m >>> (nI k &&& 31)) &&& 1) = 0 ↔ m.testBit k = false) ∧ nI m ||| ((1 : Int32) <<< (nI k &&& 31)) = nI (m ||| 2 ^ k) ∧ m ||| 2 ^ k < 64 ∧ ((1 : Int32) <<< (nI k &&& 31)) = nI (2 ^ k)) := by decide +kernel
abbrev gS : Type := Nat → Nat × Nat
def gw (n : Nat) (g : gS) : xk_C := .inl (1, n + 1, .inr (.inl (fun j => fr (g j).1 (g j).2)))
def gB (g : gS) : Prop := ∀ j, (g j).1 ≤ 531441 ∧ (g j).2 ≤ 531441
def gUp (g : gS) (z : Nat) (p : Nat × Nat) : gS := fun j => if j = z then p else g j
def closeG (g : gS) (z : Nat) (p : Nat × Nat) : gS := if (g z).1 * p.2 < p.1 * (g z).2 then gUp g z p else g
def tH (w : tbW) (i j : Nat) : Bool := decide (i ≠ j) && hasN w i j
theorem tHas_H {n i j : Nat} {w : tbW} (hn : n ≤ 6) (hi : i < n) (hj : j < n) : tHas n w (nI i) (nI j) = tH w i j := by
  rw [tHas_nI hn (by omega) (by omega)]
  simp [tH, hasN, hi, hj]
theorem tH_ne {i j : Nat} {w : tbW} (h : tH w i j = true) : i ≠ j := by
  simp only [tH, Bool.and_eq_true, decide_eq_true_eq] at h
  exact h.1
def clG (w : tbW) (a b z : Nat) (p : Nat × Nat) (g : gS) : gS := if 3 ≤ z ∧ tH w b a = true then closeG g z (mul2 p (w b a)) else g
/-- all rings that go on from b, with so many things still free; a is the least -/
def extG (w : tbW) (n a : Nat) : Nat → Nat → Nat → Nat → Nat × Nat → gS → gS
  | 0, b, _, z, p, g => clG w a b z p g
  | f + 1, b, m, z, p, g => itr (fun k g => if m.testBit k = false ∧ tH w b k = true then extG w n a f k (m ||| 2 ^ k) (z + 1) (mul2 p (w b k)) g else g) (n - (a + 1)) (a + 1) (clG w a b z p g)
def measG (w : tbW) (n : Nat) (g : gS) : gS := itr (fun a g => extG w n a (n - 1) a (2 ^ a) 1 (1, 1) g) n 0 (fun j => if j < n + 1 then (0, 1) else g j)
theorem gUp_w (n : Nat) (g : gS) (z : Nat) (p : Nat × Nat) : (.inl (1, n + 1, .inr (.inl (vp_updL (fun j => fr (g j).1 (g j).2) z (fr p.1 p.2)))) : xk_C) = gw n (gUp g z p) := by
  unfold gw
  refine congrArg (fun x => (Sum.inl (1, n + 1, Sum.inr (Sum.inl x)) : xk_C)) (funext fun j => ?_)
  simp only [vp_updL, gUp]
  split <;> rfl
theorem gB_up {g : gS} {z : Nat} {p : Nat × Nat} (h : gB g) (h1 : p.1 ≤ 531441) (h2 : p.2 ≤ 531441) : gB (gUp g z p) := fun j => by
  unfold gUp
  split
  · exact ⟨h1, h2⟩
  · exact h j
theorem gB_close {g : gS} {z : Nat} {p : Nat × Nat} (h : gB g) (h1 : p.1 ≤ 531441) (h2 : p.2 ≤ 531441) : gB (closeG g z p) := by
  unfold closeG
  split
  · exact gB_up h h1 h2
  · exact h
/-- a product of z - 1 digits -/
def pB (z : Nat) (p : Nat × Nat) : Prop := p.1 * 9 ≤ 9 ^ z ∧ p.2 * 9 ≤ 9 ^ z
theorem pB_mul {z : Nat} {p x : Nat × Nat} (h : pB z p) (h1 : x.1 ≤ 9) (h2 : x.2 ≤ 9) : (mul2 p x).1 ≤ 9 ^ z ∧ (mul2 p x).2 ≤ 9 ^ z := ⟨Nat.le_trans (Nat.mul_le_mul_left _ h1) h.1, Nat.le_trans (Nat.mul_le_mul_left _ h2) h.2⟩
theorem pB_s {z : Nat} {p x : Nat × Nat} (h : pB z p) (h1 : x.1 ≤ 9) (h2 : x.2 ≤ 9) : pB (z + 1) (mul2 p x) := by
  have h3 := pB_mul h h1 h2
  exact ⟨by rw [Nat.pow_succ]; exact Nat.mul_le_mul_right 9 h3.1, by rw [Nat.pow_succ]; exact Nat.mul_le_mul_right 9 h3.2⟩
theorem p9 {z : Nat} (h : z ≤ 6) : 9 ^ z ≤ 531441 := Nat.le_trans (Nat.pow_le_pow_right (by decide) h) (by decide)
theorem pB_6 {z : Nat} {p : Nat × Nat} (hz : z ≤ 6) (h : pB z p) : p.1 ≤ 531441 ∧ p.2 ≤ 531441 := by
  have := p9 hz
  have h1 := h.1
  have h2 := h.2
  omega
theorem gB_cl {n a b z : Nat} {w : tbW} {p : Nat × Nat} {g : gS} (ho : tbOK n w) (ha : a < n) (hb : b < n) (hz : z ≤ 6) (hp : pB z p) (h : gB g) : gB (clG w a b z p g) := by
  unfold clG
  split
  · have h1 := ho.lt hb ha
    have h2 := pB_mul hp h1.1 h1.2.1
    have h3 := p9 hz
    exact gB_close h (by omega) (by omega)
  · exact h
theorem gB_ext {n a : Nat} {w : tbW} (ho : tbOK n w) (hn : n ≤ 6) (ha : a < n) : ∀ (f b m z : Nat) (p : Nat × Nat) (g : gS), b < n → z + f = n → pB z p → gB g → gB (extG w n a f b m z p g)
  | 0, b, m, z, p, g, hb, hz, hp, h => gB_cl ho ha hb (by omega) hp h
  | f + 1, b, m, z, p, g, hb, hz, hp, h => by
    refine itr_inv gB _ _ _ (fun k s h1 h2 h3 => ?_) (gB_cl ho ha hb (by omega) hp h)
    have h4 := ho.lt hb (show k < n by omega)
    split
    · exact gB_ext ho hn ha f k _ (z + 1) _ s (by omega) (by omega) (pB_s hp h4.1 h4.2.1) h3
    · exact h3
theorem fill_gw (n : Nat) (g : gS) : (.inl (1, n + 1, .inr (.inl (fillF (fun j => fr (g j).1 (g j).2) (n + 1) (fr 0 1)))) : xk_C) = gw n (fun j => if j < n + 1 then (0, 1) else g j) := by
  unfold gw
  refine congrArg (fun x => (Sum.inl (1, n + 1, Sum.inr (Sum.inl x)) : xk_C)) (funext fun j => ?_)
  simp only [fillF]
  split <;> rfl
theorem gB_fill {n : Nat} {g : gS} (h : gB g) : gB (fun j => if j < n + 1 then (0, 1) else g j) := fun j => by
  dsimp only
  split
  · decide
  · exact h j
theorem gB_meas {n : Nat} {w : tbW} {g : gS} (ho : tbOK n w) (hn : n ≤ 6) (h : gB g) : gB (measG w n g) := by
  refine itr_inv gB _ _ _ (fun k s h1 h2 h3 => ?_) (gB_fill h)
  exact gB_ext ho hn (by omega) (n - 1) k _ 1 (1, 1) s (by omega) (by omega) ⟨by decide, by decide⟩ h3
/-- no ring of z things or more (r sizes) is above 1 -/
def noneG (g : gS) : Nat → Nat → Bool
  | 0, _ => true
  | r + 1, z => if (g z).2 < (g z).1 then false else noneG g r (z + 1)
end
section
/-! Rings: contracts. Laid by a program of our own. -/
set_option maxHeartbeats 4000000 in
set_option maxRecDepth 100000 in
theorem y_X3_close (d : Nat) {hs : xk_H} {u n z : Nat} {g : gS} {p : Nat × Nat} (hn : n ≤ 6) (hz : z ≤ n) (hu : hs[u]? = some (.inr (2, [.int (nI n), .ref (u + 1)]))) (hg : hs[u + 1]? = some (gw n g)) (hB : gB g) (h1 : p.1 ≤ 531441) (h2 : p.2 ≤ 531441) : xk_F (d + 2) mX3_close [.ref u, .int (nI z), .long (fr p.1 p.2)] hs none (hs.set (u + 1) (gw n (closeG g z p))) := by
  have hBz := hB z
  have q1 : vp_in (nI z) (n + 1) := vp_in_nI (by omega) (by omega)
  have q2 : (nI z).toNatClampNeg = z := nI_clamp (by omega)
  refine xk_Y.ofX (k := 0) (ls := [some (.ref u), some (.int (nI z)), some (.long (fr p.1 p.2)), none]) (by decide) rfl rfl ?_
  refine xk_iload_n dX3_close_0 rfl ?_
  refine xk_aload_n dX3_close_1 rfl ?_
  refine xk_get (ci := 2) (r := (RX3, TX3, 2)) 1 dX3_close_2 rfl inX3 (by decide) wf_X3_15 hu rfl ?_
  refine xk_alen dX3_close_5 hg (by decide) rfl ?_
  refine xk_icmp_ge 29 dX3_close_6 (by decide) (fun c6 => ?_) (fun c6 => ?_)
  · exact absurd c6 (nI_ge (by omega) (by omega))
  · refine xk_lload_n dX3_close_9 rfl ?_
    refine xk_aload_n dX3_close_10 rfl ?_
    refine xk_get (ci := 2) (r := (RX3, TX3, 2)) 1 dX3_close_11 rfl inX3 (by decide) wf_X3_15 hu rfl ?_
    refine xk_iload_n dX3_close_14 rfl ?_
    refine xk_lald dX3_close_15 hg q1 ?_
    rw [q2]
    refine xk_s2c (M' := mX1_isAbove) (d' := d + 1) dX3_close_16 wm_X3_27 cv_X1_isAbove wt_X1_isAbove (by omega) (Nat.le_refl _) (Nat.le_refl _) (Nat.le_of_ble_eq_true rfl) (y_X1_isAbove d (by omega) (by omega) (by omega) (by omega)) rfl ?_
    refine xk_ifb_eq 29 dX3_close_19 (by decide) (fun c19 => ?_) (fun c19 => ?_)
    · have c20 := of_decide_eq_false c19
      exact xk_vret rfl dX3_close_29 (Nat.le_refl _) (Nat.le_refl _) ⟨rfl, by first | (unfold closeG; rw [if_pos c20]) | (unfold closeG; rw [if_neg c20]; exact (xs_same hg).symm)⟩
    · have c20 := of_decide_eq_true c19
      refine xk_aload_n dX3_close_22 rfl ?_
      refine xk_get (ci := 2) (r := (RX3, TX3, 2)) 1 dX3_close_23 rfl inX3 (by decide) wf_X3_15 hu rfl ?_
      refine xk_iload_n dX3_close_26 rfl ?_
      refine xk_lload_n dX3_close_27 rfl ?_
      refine xk_last dX3_close_28 hg q1 ?_
      rw [q2, gUp_w]
      exact xk_vret rfl dX3_close_29 (Nat.le_refl _) (Nat.le_refl _) ⟨rfl, by first | (unfold closeG; rw [if_pos c20]) | (unfold closeG; rw [if_neg c20]; exact (xs_same hg).symm)⟩

set_option maxHeartbeats 4000000 in
set_option maxRecDepth 100000 in
/-- extend, by how many things are free still -/
theorem y_X3_extend (d : Nat) {t n fl u a : Nat} {w : tbW} (hn : n ≤ 6) (ho : tbOK n w) (ha : a < n) (hut : ¬ tbS t n (u + 1)) : ∀ (f b m z : Nat) (p : Nat × Nat) (g : gS) (hs : xk_H), tbA hs t n w fl → hs[u]? = some (.inr (2, [.int (nI n), .ref (u + 1)])) → hs[u + 1]? = some (gw n g) → gB g → b < n → m < 64 → z + f = n → 1 ≤ z → pB z p →
    xk_F (d + 3 + f) mX3_extend [.ref u, .ref t, .int (nI a), .int (nI b), .int (nI m), .int (nI z), .long (fr p.1 p.2)] hs none (hs.set (u + 1) (gw n (extG w n a f b m z p g))) := by
  intro f
  induction f with
  | zero =>
    intro b m z p g hs hT hu hg hB hb hm hz hz1 hp
    have hT2 : ∀ e : xk_C, tbA (hs.set (u + 1) e) t n w fl := fun e => hT.set1 hut
    have hu2 : ∀ e : xk_C, (hs.set (u + 1) e)[u]? = some (.inr (2, [.int (nI n), .ref (u + 1)])) := fun e => (xs_ne (by omega)).trans hu
    have hp6 := pB_6 (show z ≤ 6 by omega) hp
    have hba := ho.lt hb ha
    have hq := pB_mul hp hba.1 hba.2.1
    have h96 := p9 (show z ≤ 6 by omega)
    have hq1 : (mul2 p (w b a)).1 ≤ 531441 := by omega
    have hq2 : (mul2 p (w b a)).2 ≤ 531441 := by omega
    have eH := tHas_H (w := w) hn hb ha
    have hq3 : p.1 * (w b a).1 ≤ 531441 := hq1
    have hq4 : p.2 * (w b a).2 ≤ 531441 := hq2
    have j32 : ∀ h : xk_H, h = hs.set (u + 1) (gw n (clG w a b z p g)) → xk_P (d + 3 + 0) mX3_extend [.ref u, .ref t, .int (nI a), .int (nI b), .int (nI m), .int (nI z), .long (fr p.1 p.2)] hs none (hs.set (u + 1) (gw n (extG w n a 0 b m z p g))) 32 [some (.ref u), some (.ref t), some (.int (nI a)), some (.int (nI b)), some (.int (nI m)), some (.int (nI z)), some (.long (fr p.1 p.2)), none, none, none, none] [] h := by
      intro h eh
      subst eh
      refine xk_iload dX3_extend_32 rfl ?_
      refine xk_aload_n dX3_extend_34 rfl ?_
      refine xk_get (ci := 2) (r := (RX3, TX3, 2)) 0 dX3_extend_35 rfl inX3 (by decide) wf_X3_9 (hu2 _) rfl ?_
      refine xk_icmp_lt 42 dX3_extend_38 (by decide) (fun c38 => ?_) (fun c38 => ?_)
      · exact absurd c38 (nI_nlt (by omega) (by omega))
      · exact xk_vret rfl dX3_extend_41 (Nat.le_refl _) (Nat.le_refl _) ⟨rfl, rfl⟩
    refine xk_Y.ofX (k := 3) (ls := [some (.ref u), some (.ref t), some (.int (nI a)), some (.int (nI b)), some (.int (nI m)), some (.int (nI z)), some (.long (fr p.1 p.2)), none, none, none, none]) (by decide) rfl rfl ?_
    refine xk_iload dX3_extend_0 rfl ?_
    refine xk_iconst (3) dX3_extend_2 (by decide) ?_
    refine xk_icmp_lt 32 dX3_extend_3 (by decide) (fun c3 => ?_) (fun c3 => ?_)
    · have c4 : ¬ 3 ≤ z := by
        intro q
        exact absurd c3 (nI_nlt (a := z) (b := 3) q (by omega))
      first | exact j32 _ (by unfold clG; rw [if_neg (by omega)]; exact (xs_same hg).symm) | exact j32 _ (by unfold clG; rw [if_neg (by rw [c12]; exact fun q => absurd q.2 (by decide))]; exact (xs_same hg).symm) | exact j32 _ (by unfold clG; rw [if_pos ⟨c4, c12⟩])
    · have c4 : 3 ≤ z := by
        rcases Nat.lt_or_ge z 3 with q | q
        · exact absurd (nI_lt (b := 3) q (by decide)) c3
        · exact q
      refine xk_aload_n dX3_extend_6 rfl ?_
      refine xk_iload_n dX3_extend_7 rfl ?_
      refine xk_iload_n dX3_extend_8 rfl ?_
      refine xk_v2 (M' := mX5_holds)  (ci := 4) (r0 := (RX5, TX5, 3)) dX3_extend_9 wm_X3_41 cv_X5_holds wi_X5_holds wl_X5_holds (by omega) (Nat.le_refl _) (Nat.le_refl _) rfl rfl hT.1 (Nat.le_of_ble_eq_true rfl) (y_X5_holds (d + 0) hn hT ho) rfl ?_
      refine xk_ifb_eq 32 dX3_extend_12 (by decide) (fun c12 => ?_) (fun c12 => ?_)
      · rw [eH] at c12
        first | exact j32 _ (by unfold clG; rw [if_neg (by omega)]; exact (xs_same hg).symm) | exact j32 _ (by unfold clG; rw [if_neg (by rw [c12]; exact fun q => absurd q.2 (by decide))]; exact (xs_same hg).symm) | exact j32 _ (by unfold clG; rw [if_pos ⟨c4, c12⟩])
      · rw [eH] at c12
        refine xk_aload_n dX3_extend_15 rfl ?_
        refine xk_iload dX3_extend_16 rfl ?_
        refine xk_lload dX3_extend_18 rfl ?_
        refine xk_aload_n dX3_extend_20 rfl ?_
        refine xk_iload_n dX3_extend_21 rfl ?_
        refine xk_iload_n dX3_extend_22 rfl ?_
        refine xk_v2 (M' := mX5_low)  (ci := 4) (r0 := (RX5, TX5, 3)) dX3_extend_23 wm_X3_47 cv_X5_low wi_X5_low wl_X5_low (by omega) (Nat.le_refl _) (Nat.le_refl _) rfl rfl hT.1 (Nat.le_of_ble_eq_true rfl) (y_X5_low (d + 0) hn hT) rfl ?_
        rw [tLow_nI hn hb ha (tH_ne c12)]
        refine xk_s2c (M' := mX1_times)  dX3_extend_26 wm_X3_51 cv_X1_times wt_X1_times (by omega) (Nat.le_refl _) (Nat.le_refl _) (Nat.le_of_ble_eq_true rfl) (y_X1_times (d + 0 + 1) (by omega) (by omega) (by omega) (by omega) (by omega) (by omega)) rfl ?_
        refine xk_v2n (M' := mX3_close)  (ci := 2) (r0 := (RX3, TX3, 2)) dX3_extend_29 wm_X3_55 cv_X3_close wi_X3_close wl_X3_close (by omega) (Nat.le_refl _) (Nat.le_refl _) rfl rfl hu (Nat.le_of_ble_eq_true rfl) (y_X3_close (d + 0) (p := mul2 p (w b a)) hn (by omega) hu hg hB hq1 hq2) (by simp) ?_
        first | exact j32 _ (by unfold clG; rw [if_neg (by omega)]; exact (xs_same hg).symm) | exact j32 _ (by unfold clG; rw [if_neg (by rw [c12]; exact fun q => absurd q.2 (by decide))]; exact (xs_same hg).symm) | exact j32 _ (by unfold clG; rw [if_pos ⟨c4, c12⟩])
  | succ f ih =>
    intro b m z p g hs hT hu hg hB hb hm hz hz1 hp
    have hT2 : ∀ e : xk_C, tbA (hs.set (u + 1) e) t n w fl := fun e => hT.set1 hut
    have hu2 : ∀ e : xk_C, (hs.set (u + 1) e)[u]? = some (.inr (2, [.int (nI n), .ref (u + 1)])) := fun e => (xs_ne (by omega)).trans hu
    have hp6 := pB_6 (show z ≤ 6 by omega) hp
    have hba := ho.lt hb ha
    have hq := pB_mul hp hba.1 hba.2.1
    have h96 := p9 (show z ≤ 6 by omega)
    have hq1 : (mul2 p (w b a)).1 ≤ 531441 := by omega
    have hq2 : (mul2 p (w b a)).2 ≤ 531441 := by omega
    have eH := tHas_H (w := w) hn hb ha
    have hq3 : p.1 * (w b a).1 ≤ 531441 := hq1
    have hq4 : p.2 * (w b a).2 ≤ 531441 := hq2
    have l47 : ∀ (r k : Nat) (g1 : gS) (o : Option Value), k + r = n → a < k → gB g1 → itr (fun k g => if m.testBit k = false ∧ tH w b k = true then extG w n a f k (m ||| 2 ^ k) (z + 1) (mul2 p (w b k)) g else g) r k g1 = extG w n a (f + 1) b m z p g → xk_P (d + 3 + (f + 1)) mX3_extend [.ref u, .ref t, .int (nI a), .int (nI b), .int (nI m), .int (nI z), .long (fr p.1 p.2)] hs none (hs.set (u + 1) (gw n (extG w n a (f + 1) b m z p g))) 47 [some (.ref u), some (.ref t), some (.int (nI a)), some (.int (nI b)), some (.int (nI m)), some (.int (nI z)), some (.long (fr p.1 p.2)), none, some (.int (nI k)), o, none] [] (hs.set (u + 1) (gw n g1)) := by
      intro r
      induction r with
      | zero =>
        intro k g1 o h1 h2 h3 h4
        refine xk_iload dX3_extend_47 rfl ?_
        refine xk_aload_n dX3_extend_49 rfl ?_
        refine xk_get (ci := 2) (r := (RX3, TX3, 2)) 0 dX3_extend_50 rfl inX3 (by decide) wf_X3_9 (hu2 _) rfl ?_
        refine xk_icmp_ge 117 dX3_extend_53 (by decide) (fun c53 => ?_) (fun c53 => ?_)
        · exact xk_vret rfl dX3_extend_117 (Nat.le_refl _) (Nat.le_refl _) ⟨rfl, by rw [← h4]; rfl⟩
        · exact absurd (nI_le (by omega) (by omega)) c53
      | succ r ihr =>
        intro k g1 o h1 h2 h3 h4
        have hmk := mk_all m hm k (by omega)
        have hbk := ho.lt hb (show k < n by omega)
        have hqk := pB_mul hp hbk.1 hbk.2.1
        have hqk1 : p.1 * (w b k).1 ≤ 531441 := Nat.le_trans hqk.1 h96
        have hqk2 : p.2 * (w b k).2 ≤ 531441 := Nat.le_trans hqk.2 h96
        have eK := tHas_H (w := w) hn hb (show k < n by omega)
        refine xk_iload dX3_extend_47 rfl ?_
        refine xk_aload_n dX3_extend_49 rfl ?_
        refine xk_get (ci := 2) (r := (RX3, TX3, 2)) 0 dX3_extend_50 rfl inX3 (by decide) wf_X3_9 (hu2 _) rfl ?_
        refine xk_icmp_ge 117 dX3_extend_53 (by decide) (fun c53 => ?_) (fun c53 => ?_)
        · exact absurd c53 (nI_ge (by omega) (by omega))
        · refine xk_iload dX3_extend_56 rfl ?_
          refine xk_iload dX3_extend_58 rfl ?_
          refine xk_ishr dX3_extend_60 ?_
          refine xk_iconst (1) dX3_extend_61 (by decide) ?_
          refine xk_iand dX3_extend_62 ?_
          refine xk_if_ne 111 dX3_extend_63 (by decide) (fun c63 => ?_) (fun c63 => ?_)
          · have c64 : ¬ m.testBit k = false := fun q => c63 (hmk.1.mpr q)
            refine xk_iinc (nI (k + 1)) dX3_extend_111 rfl (nI_1 k) (by decide) ?_
            dsimp only [xk_s1, xk_s2, xk_kill]
            refine xk_goto 47 dX3_extend_114 (by decide) ?_
            first
            | (refine ihr (k + 1) _ _ (by omega) (by omega) (gB_ext ho hn ha f k _ (z + 1) _ _ (by omega) (by omega) (pB_s hp hbk.1 hbk.2.1) h3) ?_; rw [← h4, itr, if_pos ⟨c64, c73⟩]; done)
            | (refine ihr (k + 1) _ _ (by omega) (by omega) h3 ?_; rw [← h4, itr, if_neg (fun q => c64 q.1)]; done)
            | (refine ihr (k + 1) _ _ (by omega) (by omega) h3 ?_; rw [← h4, itr, if_neg (fun q => absurd q.2 (by rw [c73]; decide))]; done)
          · have c64 : m.testBit k = false := hmk.1.mp c63
            refine xk_aload_n dX3_extend_66 rfl ?_
            refine xk_iload_n dX3_extend_67 rfl ?_
            refine xk_iload dX3_extend_68 rfl ?_
            refine xk_v2 (M' := mX5_holds)  (ci := 4) (r0 := (RX5, TX5, 3)) dX3_extend_70 wm_X3_41 cv_X5_holds wi_X5_holds wl_X5_holds (by omega) (Nat.le_refl _) (Nat.le_refl _) rfl rfl (hT2 _).1 (Nat.le_of_ble_eq_true rfl) (y_X5_holds (d + f + 1) hn (hT2 _) ho) rfl ?_
            refine xk_ifb_eq 111 dX3_extend_73 (by decide) (fun c73 => ?_) (fun c73 => ?_)
            · rw [eK] at c73
              refine xk_iinc (nI (k + 1)) dX3_extend_111 rfl (nI_1 k) (by decide) ?_
              dsimp only [xk_s1, xk_s2, xk_kill]
              refine xk_goto 47 dX3_extend_114 (by decide) ?_
              first
              | (refine ihr (k + 1) _ _ (by omega) (by omega) (gB_ext ho hn ha f k _ (z + 1) _ _ (by omega) (by omega) (pB_s hp hbk.1 hbk.2.1) h3) ?_; rw [← h4, itr, if_pos ⟨c64, c73⟩]; done)
              | (refine ihr (k + 1) _ _ (by omega) (by omega) h3 ?_; rw [← h4, itr, if_neg (fun q => c64 q.1)]; done)
              | (refine ihr (k + 1) _ _ (by omega) (by omega) h3 ?_; rw [← h4, itr, if_neg (fun q => absurd q.2 (by rw [c73]; decide))]; done)
            · rw [eK] at c73
              refine xk_lload dX3_extend_76 rfl ?_
              refine xk_aload_n dX3_extend_78 rfl ?_
              refine xk_iload_n dX3_extend_79 rfl ?_
              refine xk_iload dX3_extend_80 rfl ?_
              refine xk_v2 (M' := mX5_low)  (ci := 4) (r0 := (RX5, TX5, 3)) dX3_extend_82 wm_X3_47 cv_X5_low wi_X5_low wl_X5_low (by omega) (Nat.le_refl _) (Nat.le_refl _) rfl rfl (hT2 _).1 (Nat.le_of_ble_eq_true rfl) (y_X5_low (d + f + 1) hn (hT2 _)) rfl ?_
              rw [tLow_nI hn hb (show k < n by omega) (tH_ne c73)]
              refine xk_s2c (M' := mX1_times)  dX3_extend_85 wm_X3_51 cv_X1_times wt_X1_times (by omega) (Nat.le_refl _) (Nat.le_refl _) (Nat.le_of_ble_eq_true rfl) (y_X1_times (d + f + 2) (by omega) (by omega) (by omega) (by omega) (by omega) (by omega)) rfl ?_
              refine xk_lstore dX3_extend_88 (by decide) ?_
              dsimp only [xk_s1, xk_s2, xk_kill]
              refine xk_aload_n dX3_extend_90 rfl ?_
              refine xk_aload_n dX3_extend_91 rfl ?_
              refine xk_iload_n dX3_extend_92 rfl ?_
              refine xk_iload dX3_extend_93 rfl ?_
              refine xk_iload dX3_extend_95 rfl ?_
              refine xk_iconst (1) dX3_extend_97 (by decide) ?_
              refine xk_iload dX3_extend_98 rfl ?_
              refine xk_ishl dX3_extend_100 ?_
              refine xk_ior dX3_extend_101 ?_
              rw [hmk.2.1]
              refine xk_iload dX3_extend_102 rfl ?_
              refine xk_iconst (1) dX3_extend_104 (by decide) ?_
              refine xk_iadd dX3_extend_105 ?_
              rw [nI_1]
              refine xk_lload dX3_extend_106 rfl ?_
              refine xk_v6n (M' := mX3_extend)  (ci := 2) (r0 := (RX3, TX3, 2)) dX3_extend_108 wm_X3_37 cv_X3_extend wi_X3_extend wl_X3_extend (by omega) (Nat.le_refl _) (Nat.le_refl _) rfl rfl (hu2 _) (Nat.le_of_ble_eq_true rfl) (ih k (m ||| 2 ^ k) (z + 1) (mul2 p (w b k)) g1 _ (hT2 _) (hu2 _) (xs_at hg) h3 (by omega) hmk.2.2.1 (by omega) (by omega) (pB_s hp hbk.1 hbk.2.1)) (by simp) ?_
              rw [List.set_set]
              refine xk_iinc (nI (k + 1)) dX3_extend_111 rfl (nI_1 k) (by decide) ?_
              dsimp only [xk_s1, xk_s2, xk_kill]
              refine xk_goto 47 dX3_extend_114 (by decide) ?_
              first
              | (refine ihr (k + 1) _ _ (by omega) (by omega) (gB_ext ho hn ha f k _ (z + 1) _ _ (by omega) (by omega) (pB_s hp hbk.1 hbk.2.1) h3) ?_; rw [← h4, itr, if_pos ⟨c64, c73⟩]; done)
              | (refine ihr (k + 1) _ _ (by omega) (by omega) h3 ?_; rw [← h4, itr, if_neg (fun q => c64 q.1)]; done)
              | (refine ihr (k + 1) _ _ (by omega) (by omega) h3 ?_; rw [← h4, itr, if_neg (fun q => absurd q.2 (by rw [c73]; decide))]; done)
    have j32 : ∀ h : xk_H, h = hs.set (u + 1) (gw n (clG w a b z p g)) → xk_P (d + 3 + (f + 1)) mX3_extend [.ref u, .ref t, .int (nI a), .int (nI b), .int (nI m), .int (nI z), .long (fr p.1 p.2)] hs none (hs.set (u + 1) (gw n (extG w n a (f + 1) b m z p g))) 32 [some (.ref u), some (.ref t), some (.int (nI a)), some (.int (nI b)), some (.int (nI m)), some (.int (nI z)), some (.long (fr p.1 p.2)), none, none, none, none] [] h := by
      intro h eh
      subst eh
      refine xk_iload dX3_extend_32 rfl ?_
      refine xk_aload_n dX3_extend_34 rfl ?_
      refine xk_get (ci := 2) (r := (RX3, TX3, 2)) 0 dX3_extend_35 rfl inX3 (by decide) wf_X3_9 (hu2 _) rfl ?_
      refine xk_icmp_lt 42 dX3_extend_38 (by decide) (fun c38 => ?_) (fun c38 => ?_)
      · refine xk_iload_n dX3_extend_42 rfl ?_
        refine xk_iconst (1) dX3_extend_43 (by decide) ?_
        refine xk_iadd dX3_extend_44 ?_
        rw [nI_1]
        refine xk_istore dX3_extend_45 (by decide) ?_
        dsimp only [xk_s1, xk_s2, xk_kill]
        refine l47 (n - (a + 1)) (a + 1) _ _ (by omega) (by omega) (gB_cl ho ha hb (by omega) hp hB) rfl
      · exact absurd (nI_lt (by omega) (by omega)) c38
    refine xk_Y.ofX (k := 3) (ls := [some (.ref u), some (.ref t), some (.int (nI a)), some (.int (nI b)), some (.int (nI m)), some (.int (nI z)), some (.long (fr p.1 p.2)), none, none, none, none]) (by decide) rfl rfl ?_
    refine xk_iload dX3_extend_0 rfl ?_
    refine xk_iconst (3) dX3_extend_2 (by decide) ?_
    refine xk_icmp_lt 32 dX3_extend_3 (by decide) (fun c3 => ?_) (fun c3 => ?_)
    · have c4 : ¬ 3 ≤ z := by
        intro q
        exact absurd c3 (nI_nlt (a := z) (b := 3) q (by omega))
      first | exact j32 _ (by unfold clG; rw [if_neg (by omega)]; exact (xs_same hg).symm) | exact j32 _ (by unfold clG; rw [if_neg (by rw [c12]; exact fun q => absurd q.2 (by decide))]; exact (xs_same hg).symm) | exact j32 _ (by unfold clG; rw [if_pos ⟨c4, c12⟩])
    · have c4 : 3 ≤ z := by
        rcases Nat.lt_or_ge z 3 with q | q
        · exact absurd (nI_lt (b := 3) q (by decide)) c3
        · exact q
      refine xk_aload_n dX3_extend_6 rfl ?_
      refine xk_iload_n dX3_extend_7 rfl ?_
      refine xk_iload_n dX3_extend_8 rfl ?_
      refine xk_v2 (M' := mX5_holds)  (ci := 4) (r0 := (RX5, TX5, 3)) dX3_extend_9 wm_X3_41 cv_X5_holds wi_X5_holds wl_X5_holds (by omega) (Nat.le_refl _) (Nat.le_refl _) rfl rfl hT.1 (Nat.le_of_ble_eq_true rfl) (y_X5_holds (d + (f + 1)) hn hT ho) rfl ?_
      refine xk_ifb_eq 32 dX3_extend_12 (by decide) (fun c12 => ?_) (fun c12 => ?_)
      · rw [eH] at c12
        first | exact j32 _ (by unfold clG; rw [if_neg (by omega)]; exact (xs_same hg).symm) | exact j32 _ (by unfold clG; rw [if_neg (by rw [c12]; exact fun q => absurd q.2 (by decide))]; exact (xs_same hg).symm) | exact j32 _ (by unfold clG; rw [if_pos ⟨c4, c12⟩])
      · rw [eH] at c12
        refine xk_aload_n dX3_extend_15 rfl ?_
        refine xk_iload dX3_extend_16 rfl ?_
        refine xk_lload dX3_extend_18 rfl ?_
        refine xk_aload_n dX3_extend_20 rfl ?_
        refine xk_iload_n dX3_extend_21 rfl ?_
        refine xk_iload_n dX3_extend_22 rfl ?_
        refine xk_v2 (M' := mX5_low)  (ci := 4) (r0 := (RX5, TX5, 3)) dX3_extend_23 wm_X3_47 cv_X5_low wi_X5_low wl_X5_low (by omega) (Nat.le_refl _) (Nat.le_refl _) rfl rfl hT.1 (Nat.le_of_ble_eq_true rfl) (y_X5_low (d + (f + 1)) hn hT) rfl ?_
        rw [tLow_nI hn hb ha (tH_ne c12)]
        refine xk_s2c (M' := mX1_times)  dX3_extend_26 wm_X3_51 cv_X1_times wt_X1_times (by omega) (Nat.le_refl _) (Nat.le_refl _) (Nat.le_of_ble_eq_true rfl) (y_X1_times (d + (f + 1) + 1) (by omega) (by omega) (by omega) (by omega) (by omega) (by omega)) rfl ?_
        refine xk_v2n (M' := mX3_close)  (ci := 2) (r0 := (RX3, TX3, 2)) dX3_extend_29 wm_X3_55 cv_X3_close wi_X3_close wl_X3_close (by omega) (Nat.le_refl _) (Nat.le_refl _) rfl rfl hu (Nat.le_of_ble_eq_true rfl) (y_X3_close (d + (f + 1)) (p := mul2 p (w b a)) hn (by omega) hu hg hB hq1 hq2) (by simp) ?_
        first | exact j32 _ (by unfold clG; rw [if_neg (by omega)]; exact (xs_same hg).symm) | exact j32 _ (by unfold clG; rw [if_neg (by rw [c12]; exact fun q => absurd q.2 (by decide))]; exact (xs_same hg).symm) | exact j32 _ (by unfold clG; rw [if_pos ⟨c4, c12⟩])
end
section
/-! Rings: measure, noneAboveOne. Laid by a program of our own. -/
set_option maxHeartbeats 4000000 in
set_option maxRecDepth 100000 in
/-- measure -/
theorem y_X3_measure (d : Nat) {hs : xk_H} {t n fl u : Nat} {w : tbW} {g : gS} (hn : n ≤ 6) (h2 : 2 ≤ n) (hT : tbA hs t n w fl) (ho : tbOK n w) (hu : hs[u]? = some (.inr (2, [.int (nI n), .ref (u + 1)]))) (hg : hs[u + 1]? = some (gw n g)) (hB : gB g) (hut : ¬ tbS t n (u + 1)) : xk_F (d + 9) mX3_measure [.ref u, .ref t] hs none (hs.set (u + 1) (gw n (measG w n g))) := by
  have hT2 : ∀ e : xk_C, tbA (hs.set (u + 1) e) t n w fl := fun e => hT.set1 hut
  have hu2 : ∀ e : xk_C, (hs.set (u + 1) e)[u]? = some (.inr (2, [.int (nI n), .ref (u + 1)])) := fun e => (xs_ne (by omega)).trans hu
  have l10 : ∀ (r a : Nat) (g1 : gS), a + r = n → gB g1 → itr (fun a g => extG w n a (n - 1) a (2 ^ a) 1 (1, 1) g) r a g1 = measG w n g → xk_P (d + 9) mX3_measure [.ref u, .ref t] hs none (hs.set (u + 1) (gw n (measG w n g))) 10 [some (.ref u), some (.ref t), some (.int (nI a))] [] (hs.set (u + 1) (gw n g1)) := by
    intro r
    induction r with
    | zero =>
      intro a g1 h1 h3 h4
      refine xk_iload_n dX3_measure_10 rfl ?_
      refine xk_aload_n dX3_measure_11 rfl ?_
      refine xk_get (ci := 2) (r := (RX3, TX3, 2)) 0 dX3_measure_12 rfl inX3 (by decide) wf_X3_9 (hu2 _) rfl ?_
      refine xk_icmp_ge 38 dX3_measure_15 (by decide) (fun c15 => ?_) (fun c15 => ?_)
      · exact xk_vret rfl dX3_measure_38 (Nat.le_refl _) (Nat.le_refl _) ⟨rfl, by rw [← h4]; rfl⟩
      · exact absurd (nI_le (by omega) (by omega)) c15
    | succ r ih =>
      intro a g1 h1 h3 h4
      have hmk := mk_all 0 (by decide) a (by omega)
      refine xk_iload_n dX3_measure_10 rfl ?_
      refine xk_aload_n dX3_measure_11 rfl ?_
      refine xk_get (ci := 2) (r := (RX3, TX3, 2)) 0 dX3_measure_12 rfl inX3 (by decide) wf_X3_9 (hu2 _) rfl ?_
      refine xk_icmp_ge 38 dX3_measure_15 (by decide) (fun c15 => ?_) (fun c15 => ?_)
      · exact absurd c15 (nI_ge (by omega) (by omega))
      · refine xk_aload_n dX3_measure_18 rfl ?_
        refine xk_aload_n dX3_measure_19 rfl ?_
        refine xk_iload_n dX3_measure_20 rfl ?_
        refine xk_iload_n dX3_measure_21 rfl ?_
        refine xk_iconst (1) dX3_measure_22 (by decide) ?_
        refine xk_iload_n dX3_measure_23 rfl ?_
        refine xk_ishl dX3_measure_24 ?_
        rw [hmk.2.2.2]
        refine xk_iconst (1) dX3_measure_25 (by decide) ?_
        refine xk_ldc2 dX3_measure_26 wk_X3_25 ?_
        rw [show (4294967297 : Int64) = fr 1 1 from rfl]
        refine xk_v6n (M' := mX3_extend)  (ci := 2) (r0 := (RX3, TX3, 2)) dX3_measure_29 wm_X3_37 cv_X3_extend wi_X3_extend wl_X3_extend (by omega) (Nat.le_refl _) (Nat.le_refl _) rfl rfl (hu2 _) (Nat.le_of_ble_eq_true rfl) (y_X3_extend d hn ho (by omega) hut (n - 1) a (2 ^ a) 1 (1, 1) g1 _ (hT2 _) (hu2 _) (xs_at hg) h3 (by omega) (Nat.lt_of_le_of_lt (Nat.pow_le_pow_right (by decide) (show a ≤ 5 by omega)) (by decide)) (by omega) (by omega) ⟨by decide, by decide⟩) (by simp) ?_
        rw [List.set_set]
        refine xk_iinc (nI (a + 1)) dX3_measure_32 rfl (nI_1 a) (by decide) ?_
        dsimp only [xk_s1, xk_s2, xk_kill]
        refine xk_goto 10 dX3_measure_35 (by decide) ?_
        exact ih (a + 1) _ (by omega) (gB_ext ho hn (by omega) (n - 1) a _ 1 (1, 1) g1 (by omega) (by omega) ⟨by decide, by decide⟩ h3) (by rw [← h4, itr])
  refine xk_Y.ofX (k := 1) (ls := [some (.ref u), some (.ref t), none]) (by decide) rfl rfl ?_
  refine xk_aload_n dX3_measure_0 rfl ?_
  refine xk_get (ci := 2) (r := (RX3, TX3, 2)) 1 dX3_measure_1 rfl inX3 (by decide) wf_X3_15 hu rfl ?_
  refine xk_lconst (1) dX3_measure_4 (by decide) ?_
  rw [show (1 : Int64) = fr 0 1 from rfl]
  refine xk_s2nc (M' := mJ7_fill_d0a16)  dX3_measure_5 wm_X3_31 cv_J7_fill_d0a16 wt_J7_fill_d0a16 (by omega) (Nat.le_refl _) (Nat.le_refl _) (Nat.le_of_ble_eq_true rfl) (y_J7_fill d (by omega) hg) (by simp) ?_
  rw [fill_gw]
  refine xk_iconst (0) dX3_measure_8 (by decide) ?_
  refine xk_istore_n dX3_measure_9 (by decide) ?_
  dsimp only [xk_s1, xk_s2, xk_kill]
  exact l10 n 0 _ (by omega) (gB_fill hB) rfl

set_option maxHeartbeats 4000000 in
set_option maxRecDepth 100000 in
/-- noneAboveOne -/
theorem y_X3_noneAboveOne (d : Nat) {hs : xk_H} {t n fl u : Nat} {w : tbW} {g : gS} (hn : n ≤ 6) (h2 : 2 ≤ n) (hT : tbA hs t n w fl) (ho : tbOK n w) (hu : hs[u]? = some (.inr (2, [.int (nI n), .ref (u + 1)]))) (hg : hs[u + 1]? = some (gw n g)) (hB : gB g) (hut : ¬ tbS t n (u + 1)) : xk_F (d + 10) mX3_noneAboveOne [.ref u, .ref t] hs (some (.int (xk_b (noneG (measG w n g) (n - 2) 3)))) (hs.set (u + 1) (gw n (measG w n g))) := by
  have hu2 : ∀ e : xk_C, (hs.set (u + 1) e)[u]? = some (.inr (2, [.int (nI n), .ref (u + 1)])) := fun e => (xs_ne (by omega)).trans hu
  have hB2 := gB_meas ho hn hB (w := w)
  have l7 : ∀ (r z : Nat), z + r = n + 1 → noneG (measG w n g) r z = noneG (measG w n g) (n - 2) 3 → xk_P (d + 10) mX3_noneAboveOne [.ref u, .ref t] hs (some (.int (xk_b (noneG (measG w n g) (n - 2) 3)))) (hs.set (u + 1) (gw n (measG w n g))) 7 [some (.ref u), some (.ref t), some (.int (nI z))] [] (hs.set (u + 1) (gw n (measG w n g))) := by
    intro r
    induction r with
    | zero =>
      intro z h1 h3
      refine xk_iload_n dX3_noneAboveOne_7 rfl ?_
      refine xk_aload_n dX3_noneAboveOne_8 rfl ?_
      refine xk_get (ci := 2) (r := (RX3, TX3, 2)) 0 dX3_noneAboveOne_9 rfl inX3 (by decide) wf_X3_9 (hu2 _) rfl ?_
      refine xk_icmp_gt 38 dX3_noneAboveOne_12 (by decide) (fun c12 => ?_) (fun c12 => ?_)
      · refine xk_iconst (1) dX3_noneAboveOne_38 (by decide) ?_
        exact xk_zret rfl (by rfl) dX3_noneAboveOne_39 (Nat.le_refl _) (Nat.le_refl _) ⟨by rw [← h3]; rfl, rfl⟩
      · exact absurd (nI_lt (by omega) (by omega)) c12
    | succ r ih =>
      intro z h1 h3
      have hBz := hB2 z
      refine xk_iload_n dX3_noneAboveOne_7 rfl ?_
      refine xk_aload_n dX3_noneAboveOne_8 rfl ?_
      refine xk_get (ci := 2) (r := (RX3, TX3, 2)) 0 dX3_noneAboveOne_9 rfl inX3 (by decide) wf_X3_9 (hu2 _) rfl ?_
      refine xk_icmp_gt 38 dX3_noneAboveOne_12 (by decide) (fun c12 => ?_) (fun c12 => ?_)
      · exact absurd c12 (nI_nlt (by omega) (by omega))
      · refine xk_aload_n dX3_noneAboveOne_15 rfl ?_
        refine xk_get (ci := 2) (r := (RX3, TX3, 2)) 1 dX3_noneAboveOne_16 rfl inX3 (by decide) wf_X3_15 (hu2 _) rfl ?_
        refine xk_iload_n dX3_noneAboveOne_19 rfl ?_
        refine xk_lald dX3_noneAboveOne_20 (xs_at hg) (vp_in_nI (by omega) (by omega)) ?_
        rw [nI_clamp (by omega)]
        refine xk_ldc2 dX3_noneAboveOne_21 wk_X3_25 ?_
        rw [show (4294967297 : Int64) = fr 1 1 from rfl]
        refine xk_s2c (M' := mX1_isAbove) (d' := (d + 8) + 1) dX3_noneAboveOne_24 wm_X3_27 cv_X1_isAbove wt_X1_isAbove (by omega) (Nat.le_refl _) (Nat.le_refl _) (Nat.le_of_ble_eq_true rfl) (y_X1_isAbove (d + 8) (by omega) (by omega) (by omega) (by omega)) rfl ?_
        refine xk_ifb_eq 32 dX3_noneAboveOne_27 (by decide) (fun c27 => ?_) (fun c27 => ?_)
        · have c28 : ¬ (measG w n g z).2 < (measG w n g z).1 := by
            have := of_decide_eq_false c27
            omega
          refine xk_iinc (nI (z + 1)) dX3_noneAboveOne_32 rfl (nI_1 z) (by decide) ?_
          dsimp only [xk_s1, xk_s2, xk_kill]
          refine xk_goto 7 dX3_noneAboveOne_35 (by decide) ?_
          exact ih (z + 1) (by omega) (by rw [← h3]; conv => rhs; rw [noneG, if_neg c28])
        · have c28 : (measG w n g z).2 < (measG w n g z).1 := by
            have := of_decide_eq_true c27
            omega
          refine xk_iconst (0) dX3_noneAboveOne_30 (by decide) ?_
          exact xk_zret rfl (by rfl) dX3_noneAboveOne_31 (Nat.le_refl _) (Nat.le_refl _) ⟨by rw [← h3, noneG, if_pos c28]; rfl, rfl⟩
  refine xk_Y.ofX (k := 1) (ls := [some (.ref u), some (.ref t), none]) (by decide) rfl rfl ?_
  refine xk_aload_n dX3_noneAboveOne_0 rfl ?_
  refine xk_aload_n dX3_noneAboveOne_1 rfl ?_
  refine xk_v1n (M' := mX3_measure) (d' := d + 9) (ci := 2) (r0 := (RX3, TX3, 2)) dX3_noneAboveOne_2 wm_X3_19 cv_X3_measure wi_X3_measure wl_X3_measure (by omega) (Nat.le_refl _) (Nat.le_refl _) rfl rfl hu (Nat.le_of_ble_eq_true rfl) (y_X3_measure d hn h2 hT ho hu hg hB hut) (by simp) ?_
  refine xk_iconst (3) dX3_noneAboveOne_5 (by decide) ?_
  refine xk_istore_n dX3_noneAboveOne_6 (by decide) ?_
  dsimp only [xk_s1, xk_s2, xk_kill]
  exact l7 (n - 2) 3 (by omega) rfl
end
section
/-! Big: numbers in limbs of 30 bits. Own text. -/
def limb (N : Nat) : Nat → Nat := fun j => N / 2 ^ (30 * j) % 1073741824
def bw (N : Nat) : xk_C := .inl (1, 8, .inr (.inl (fun j => lN (limb N j))))
theorem limb_lt (N j : Nat) : limb N j < 1073741824 := Nat.mod_lt _ (by decide)
theorem limb_hi {N j : Nat} (hN : N < 2 ^ 240) (hj : 8 ≤ j) : limb N j = 0 := by
  unfold limb
  have h1 : 2 ^ 240 ≤ 2 ^ (30 * j) := Nat.pow_le_pow_right (by decide) (by omega)
  rw [Nat.div_eq_of_lt (by omega), Nat.zero_mod]
/-- the carry behind k limbs of N * f -/
def carr (N f k : Nat) : Nat := (N % 2 ^ (30 * k)) * f / 2 ^ (30 * k)
theorem carr_0 (N f : Nat) : carr N f 0 = 0 := by simp [carr, Nat.mod_one]
theorem pow30 (k : Nat) : 2 ^ (30 * (k + 1)) = 2 ^ (30 * k) * 1073741824 := by rw [show 30 * (k + 1) = 30 * k + 30 by omega, Nat.pow_add]
theorem carr_sum (N f k : Nat) : limb N k * f + carr N f k = (N % 2 ^ (30 * (k + 1))) * f / 2 ^ (30 * k) := by
  have hB : 0 < 2 ^ (30 * k) := Nat.pow_pos (by decide)
  rw [pow30, Nat.mod_mul]
  unfold limb carr
  rw [Nat.add_mul, Nat.mul_assoc, Nat.add_mul_div_left _ _ hB, Nat.add_comm]
theorem carr_s (N f k : Nat) : (limb N k * f + carr N f k) / 1073741824 = carr N f (k + 1) := by
  rw [carr_sum, Nat.div_div_eq_div_mul, ← pow30]
  rfl
theorem limb_s (N f k : Nat) : (limb N k * f + carr N f k) % 1073741824 = limb (N * f) k := by
  have hB : 0 < 2 ^ (30 * k) := Nat.pow_pos (by decide)
  rw [carr_sum]
  unfold limb
  have h1 := Nat.div_add_mod N (2 ^ (30 * (k + 1)))
  generalize N % 2 ^ (30 * (k + 1)) = r at h1 ⊢
  generalize N / 2 ^ (30 * (k + 1)) = q at h1
  rw [← h1, pow30, Nat.add_mul, show 2 ^ (30 * k) * 1073741824 * q * f = 2 ^ (30 * k) * (1073741824 * (q * f)) by simp only [Nat.mul_assoc], Nat.mul_add_div hB, Nat.mul_add_mod]
theorem carr_lt (N f k : Nat) : carr N f k ≤ f := by
  have hB : 0 < 2 ^ (30 * k) := Nat.pow_pos (by decide)
  unfold carr
  have h1 : N % 2 ^ (30 * k) < 2 ^ (30 * k) := Nat.mod_lt _ hB
  apply Nat.div_le_of_le_mul
  exact Nat.mul_le_mul_right f (Nat.le_of_lt h1)
/-- k limbs of N * f, then those of N -/
def mixL (N f k : Nat) : Nat → Nat := fun j => if j < k then limb (N * f) j else limb N j
def bwM (N f k : Nat) : xk_C := .inl (1, 8, .inr (.inl (fun j => lN (mixL N f k j))))
theorem bwM_0 (N f : Nat) : bwM N f 0 = bw N := by
  unfold bwM bw
  refine congrArg (fun x => (Sum.inl (1, 8, Sum.inr (Sum.inl x)) : xk_C)) (funext fun j => ?_)
  simp [mixL]
theorem bwM_8 {N f : Nat} (h1 : N < 2 ^ 240) (h2 : N * f < 2 ^ 240) : bwM N f 8 = bw (N * f) := by
  unfold bwM bw
  refine congrArg (fun x => (Sum.inl (1, 8, Sum.inr (Sum.inl x)) : xk_C)) (funext fun j => ?_)
  unfold mixL
  by_cases h : j < 8
  · rw [if_pos h]
  · rw [if_neg h, limb_hi h1 (by omega), limb_hi h2 (by omega)]
theorem bwM_s (N f k : Nat) : (.inl (1, 8, .inr (.inl (vp_updL (fun j => lN (mixL N f k j)) k (lN (limb (N * f) k))))) : xk_C) = bwM N f (k + 1) := by
  unfold bwM
  refine congrArg (fun x => (Sum.inl (1, 8, Sum.inr (Sum.inl x)) : xk_C)) (funext fun j => ?_)
  simp only [vp_updL, mixL]
  by_cases h : j = k
  · subst h; simp
  · by_cases h2 : j < k
    · simp [h, h2, Nat.lt_succ_of_lt h2]
    · simp [h, h2, show ¬ j < k + 1 by omega]
theorem bw_reset (N : Nat) (hN : N < 2 ^ 240) : (.inl (1, 8, .inr (.inl (vp_updL (fillF (fun j => lN (limb N j)) 8 0) 0 1))) : xk_C) = bw 1 := by
  unfold bw
  refine congrArg (fun x => (Sum.inl (1, 8, Sum.inr (Sum.inl x)) : xk_C)) (funext fun j => ?_)
  simp only [vp_updL, fillF]
  have e1 : limb 1 j = if j = 0 then 1 else 0 := by
    unfold limb
    by_cases h : j = 0
    · subst h; decide
    · rw [if_neg h]
      have h1 : 2 ^ 1 ≤ 2 ^ (30 * j) := Nat.pow_le_pow_right (by decide) (by omega)
      rw [Nat.div_eq_of_lt (by omega), Nat.zero_mod]
  rw [e1]
  by_cases h : j = 0
  · subst h; rfl
  · rw [if_neg h, if_neg h]
    by_cases h2 : j < 8
    · rw [if_pos h2]; rfl
    · rw [if_neg h2, limb_hi hN (by omega)]
theorem limb_cmp {N N' k : Nat} (h : N / 2 ^ (30 * (k + 1)) = N' / 2 ^ (30 * (k + 1))) : (limb N' k < limb N k → N' < N) ∧ (limb N k = limb N' k → N / 2 ^ (30 * k) = N' / 2 ^ (30 * k)) := by
  rw [pow30, ← Nat.div_div_eq_div_mul, ← Nat.div_div_eq_div_mul] at h
  unfold limb
  generalize ha : N / 2 ^ (30 * k) = a at h ⊢
  generalize hb : N' / 2 ^ (30 * k) = b at h ⊢
  refine ⟨fun h2 => ?_, fun h2 => by omega⟩
  have h3 : b < a := by omega
  rcases Nat.lt_or_ge N' N with q | q
  · exact q
  · have := Nat.div_le_div_right (c := 2 ^ (30 * k)) q
    omega
end
section
/-! Big, Roots: contracts. Laid by a program of our own. -/
set_option maxHeartbeats 4000000 in
set_option maxRecDepth 100000 in
theorem y_X0_reset (d : Nat) {hs : xk_H} {b N : Nat} (hN : N < 2 ^ 240) (hb : hs[b]? = some (.inr (0, [.ref (b + 1)]))) (hl : hs[b + 1]? = some (bw N)) : xk_F (d + 1) mX0_reset [.ref b] hs none (hs.set (b + 1) (bw 1)) := by
  refine xk_Y.ofX (k := 0) (ls := [some (.ref b)]) (by decide) rfl rfl ?_
  refine xk_aload_n dX0_reset_0 rfl ?_
  refine xk_get (ci := 0) (r := (RX0, TX0, 1)) 0 dX0_reset_1 rfl inX0 (by decide) wf_X0_9 hb rfl ?_
  refine xk_lconst (0) dX0_reset_4 (by decide) ?_
  refine xk_s2nc (M' := mJ7_fill_d0a16) (d' := d) dX0_reset_5 wm_X0_13 cv_J7_fill_d0a16 wt_J7_fill_d0a16 (by omega) (Nat.le_refl _) (Nat.le_refl _) (Nat.le_of_ble_eq_true rfl) (y_J7_fill d (by omega) hl) (by simp) ?_
  refine xk_aload_n dX0_reset_8 rfl ?_
  refine xk_get (ci := 0) (r := (RX0, TX0, 1)) 0 dX0_reset_9 rfl inX0 (by decide) wf_X0_9 ((xs_ne (by omega)).trans hb) rfl ?_
  refine xk_iconst (0) dX0_reset_12 (by decide) ?_
  refine xk_lconst (1) dX0_reset_13 (by decide) ?_
  refine xk_last dX0_reset_14 (xs_at hl) (vp_in_nI (n := 0) (by decide) (by decide)) ?_
  rw [show (0 : Int32).toNatClampNeg = 0 from rfl, List.set_set, bw_reset N hN]
  exact xk_vret rfl dX0_reset_15 (Nat.le_refl _) (Nat.le_refl _) ⟨rfl, rfl⟩

set_option maxHeartbeats 4000000 in
set_option maxRecDepth 100000 in
/-- multiply: so many times by a factor -/
theorem y_X0_multiply (d : Nat) {hs : xk_H} {b N f k : Nat} (hf : f < 1048576) (hk : k < 100) (hN : N * f ^ k < 2 ^ 240) (h1 : 1 ≤ f) (hb : hs[b]? = some (.inr (0, [.ref (b + 1)]))) (hl : hs[b + 1]? = some (bw N)) : xk_F d mX0_multiply [.ref b, .long (lN f), .int (nI k)] hs none (hs.set (b + 1) (bw (N * f ^ k))) := by
  have hb2 : ∀ e : xk_C, (hs.set (b + 1) e)[b]? = some (.inr (0, [.ref (b + 1)])) := fun e => (xs_ne (by omega)).trans hb
  have l15 : ∀ (r j P c0 : Nat) (o8 : Option Value), j + r = 8 → xk_P d mX0_multiply [.ref b, .long (lN f), .int (nI k)] hs none (hs.set (b + 1) (bw (N * f ^ k))) 62 [some (.ref b), some (.long (lN f)), none, some (.int (nI k)), some (.int (nI c0)), none, none, none, none, none] [] (hs.set (b + 1) (bwM P f 8)) → xk_P d mX0_multiply [.ref b, .long (lN f), .int (nI k)] hs none (hs.set (b + 1) (bw (N * f ^ k))) 15 [some (.ref b), some (.long (lN f)), none, some (.int (nI k)), some (.int (nI c0)), some (.long (lN (carr P f j))), none, some (.int (nI j)), o8, none] [] (hs.set (b + 1) (bwM P f j)) := by
    intro r
    induction r with
    | zero =>
      intro j P c0 o8 hj K
      obtain rfl : j = 8 := by omega
      refine xk_iload dX0_multiply_15 rfl ?_
      refine xk_bipush (8) dX0_multiply_17 (by decide) ?_
      refine xk_icmp_ge 62 dX0_multiply_19 (by decide) (fun c19 => ?_) (fun c19 => ?_)
      · refine xk_sub K ?_
        simp [xk_le]
      · exact absurd (nI_le (a := 8) (b := 8) (by decide) (by decide)) c19
    | succ r ih =>
      intro j P c0 o8 hj K
      have q0 := limb_lt P j
      have q1 := carr_lt P f j
      have q2 : limb P j * f ≤ 1073741824 * 1048576 := Nat.mul_le_mul (Nat.le_of_lt q0) (Nat.le_of_lt hf)
      have e0 : mixL P f j j = limb P j := by simp [mixL]
      refine xk_iload dX0_multiply_15 rfl ?_
      refine xk_bipush (8) dX0_multiply_17 (by decide) ?_
      refine xk_icmp_ge 62 dX0_multiply_19 (by decide) (fun c19 => ?_) (fun c19 => ?_)
      · exact absurd c19 (nI_ge (a := j) (b := 8) (by omega) (by decide))
      · refine xk_aload_n dX0_multiply_22 rfl ?_
        refine xk_get (ci := 0) (r := (RX0, TX0, 1)) 0 dX0_multiply_23 rfl inX0 (by decide) wf_X0_9 (hb2 _) rfl ?_
        refine xk_iload dX0_multiply_26 rfl ?_
        refine xk_lald dX0_multiply_28 (xs_at hl) (vp_in_nI (by omega) (by decide)) ?_
        rw [nI_clamp (by omega), e0]
        refine xk_lload_n dX0_multiply_29 rfl ?_
        refine xk_lmul dX0_multiply_30 ?_
        rw [lN_mul]
        refine xk_lload dX0_multiply_31 rfl ?_
        refine xk_ladd dX0_multiply_33 ?_
        rw [lN_add]
        refine xk_lstore dX0_multiply_34 (by decide) ?_
        dsimp only [xk_s1, xk_s2, xk_kill]
        refine xk_aload_n dX0_multiply_36 rfl ?_
        refine xk_get (ci := 0) (r := (RX0, TX0, 1)) 0 dX0_multiply_37 rfl inX0 (by decide) wf_X0_9 (hb2 _) rfl ?_
        refine xk_iload dX0_multiply_40 rfl ?_
        refine xk_lload dX0_multiply_42 rfl ?_
        refine xk_ldc2 dX0_multiply_44 wk_X0_19 ?_
        refine xk_land dX0_multiply_47 ?_
        rw [show lN (limb P j * f + carr P f j) &&& 1073741823 = lN ((limb P j * f + carr P f j) % 1073741824) from g_mask (s := 30) (p := 1073741824) rfl (by decide) (by omega), limb_s]
        refine xk_last dX0_multiply_48 (xs_at hl) (vp_in_nI (by omega) (by decide)) ?_
        rw [nI_clamp (by omega), bwM_s, List.set_set]
        refine xk_lload dX0_multiply_49 rfl ?_
        refine xk_bipush (30) dX0_multiply_51 (by decide) ?_
        refine xk_lushr dX0_multiply_53 ?_
        rw [show ((lN (limb P j * f + carr P f j)).toUInt64 >>> ((30 : Int32).toInt64.toUInt64 &&& Int64.toUInt64 63)).toInt64 = lN ((limb P j * f + carr P f j) / 2 ^ 30) from wb_shr (k := 30) (by omega) (by decide), show (limb P j * f + carr P f j) / 2 ^ 30 = carr P f (j + 1) from carr_s P f j]
        refine xk_lstore dX0_multiply_54 (by decide) ?_
        dsimp only [xk_s1, xk_s2, xk_kill]
        refine xk_iinc (nI (j + 1)) dX0_multiply_56 rfl (nI_1 j) (by decide) ?_
        dsimp only [xk_s1, xk_s2, xk_kill]
        refine xk_goto 15 dX0_multiply_59 (by decide) ?_
        exact ih (j + 1) P c0 _ (by omega) K
  have l3 : ∀ (r c0 : Nat) (o5 o7 o8 : Option Value), c0 + r = k → xk_P d mX0_multiply [.ref b, .long (lN f), .int (nI k)] hs none (hs.set (b + 1) (bw (N * f ^ k))) 3 [some (.ref b), some (.long (lN f)), none, some (.int (nI k)), some (.int (nI c0)), none, none, none, none, none] [] (hs.set (b + 1) (bw (N * f ^ c0))) := by
    intro r
    induction r with
    | zero =>
      intro c0 o5 o7 o8 h
      obtain rfl : c0 = k := by omega
      refine xk_iload dX0_multiply_3 rfl ?_
      refine xk_iload_n dX0_multiply_5 rfl ?_
      refine xk_icmp_ge 68 dX0_multiply_6 (by decide) (fun c6 => ?_) (fun c6 => ?_)
      · exact xk_vret rfl dX0_multiply_68 (Nat.le_refl _) (Nat.le_refl _) ⟨rfl, rfl⟩
      · exact absurd (nI_le (Nat.le_refl c0) (by omega)) c6
    | succ r ih =>
      intro c0 o5 o7 o8 h
      have hp1 : f ^ (c0 + 1) ≤ f ^ k := Nat.pow_le_pow_right h1 (by omega)
      have hp2 : N * f ^ (c0 + 1) < 2 ^ 240 := Nat.lt_of_le_of_lt (Nat.mul_le_mul_left N hp1) hN
      have hp3 : N * f ^ c0 < 2 ^ 240 := Nat.lt_of_le_of_lt (Nat.mul_le_mul_left N (Nat.pow_le_pow_right h1 (by omega))) hN
      have e1 : N * f ^ c0 * f = N * f ^ (c0 + 1) := by rw [Nat.pow_succ, Nat.mul_assoc]
      refine xk_iload dX0_multiply_3 rfl ?_
      refine xk_iload_n dX0_multiply_5 rfl ?_
      refine xk_icmp_ge 68 dX0_multiply_6 (by decide) (fun c6 => ?_) (fun c6 => ?_)
      · exact absurd c6 (nI_ge (by omega) (by omega))
      · refine xk_lconst (0) dX0_multiply_9 (by decide) ?_
        refine xk_lstore dX0_multiply_10 (by decide) ?_
        dsimp only [xk_s1, xk_s2, xk_kill]
        refine xk_iconst (0) dX0_multiply_12 (by decide) ?_
        refine xk_istore dX0_multiply_13 (by decide) ?_
        dsimp only [xk_s1, xk_s2, xk_kill]
        have hK := l15 8 0 (N * f ^ c0) c0 none (by decide) ?_
        · rw [carr_0, bwM_0] at hK
          exact hK
        · rw [bwM_8 hp3 (by rw [e1]; exact hp2), e1]
          refine xk_iinc (nI (c0 + 1)) dX0_multiply_62 rfl (nI_1 c0) (by decide) ?_
          dsimp only [xk_s1, xk_s2, xk_kill]
          refine xk_goto 3 dX0_multiply_65 (by decide) ?_
          exact ih (c0 + 1) none none none (by omega)
  refine xk_Y.ofX (k := 6) (ls := [some (.ref b), some (.long (lN f)), none, some (.int (nI k)), none, none, none, none, none, none]) (by decide) rfl rfl ?_
  refine xk_iconst (0) dX0_multiply_0 (by decide) ?_
  refine xk_istore dX0_multiply_1 (by decide) ?_
  dsimp only [xk_s1, xk_s2, xk_kill]
  have hK := l3 k 0 none none none (by omega)
  rw [Nat.pow_zero, Nat.mul_one, xs_same hl] at hK
  exact hK

set_option maxHeartbeats 4000000 in
set_option maxRecDepth 100000 in
/-- isAbove -/
theorem y_X0_isAbove (d : Nat) {hs : xk_H} {b N b2 N2 : Nat} (hN : N < 2 ^ 240) (hN2 : N2 < 2 ^ 240) (hb : hs[b]? = some (.inr (0, [.ref (b + 1)]))) (hl : hs[b + 1]? = some (bw N)) (hb2 : hs[b2]? = some (.inr (0, [.ref (b2 + 1)]))) (hl2 : hs[b2 + 1]? = some (bw N2)) : xk_F d mX0_isAbove [.ref b, .ref b2] hs (some (.int (xk_b (decide (N2 < N))))) hs := by
  have l3 : ∀ (r : Nat), r ≤ 8 → N / 2 ^ (30 * r) = N2 / 2 ^ (30 * r) → xk_P d mX0_isAbove [.ref b, .ref b2] hs (some (.int (xk_b (decide (N2 < N))))) hs 3 [some (.ref b), some (.ref b2), some (.int (nI r + (-1)))] [] hs := by
    intro r
    induction r with
    | zero =>
      intro h8 he
      refine xk_iload_n dX0_isAbove_3 rfl ?_
      refine xk_if_lt 51 dX0_isAbove_4 (by decide) (fun c4 => ?_) (fun c4 => ?_)
      · refine xk_iconst (0) dX0_isAbove_51 (by decide) ?_
        exact xk_zret rfl (by rfl) dX0_isAbove_52 (Nat.le_refl _) (Nat.le_refl _) ⟨by rw [xd_f (by simp at he; omega)], rfl⟩
      · exact absurd (by decide) c4
    | succ r ih =>
      intro h8 he
      have q0 := limb_lt N r
      have q1 := limb_lt N2 r
      have g1 := limb_cmp (N := N) (N' := N2) he
      have g2 := limb_cmp (N := N2) (N' := N) he.symm
      have q3 : (nI r).toNatClampNeg = r := nI_clamp (by omega)
      rw [pk_m1]
      refine xk_iload_n dX0_isAbove_3 rfl ?_
      refine xk_if_lt 51 dX0_isAbove_4 (by decide) (fun c4 => ?_) (fun c4 => ?_)
      · exact absurd c4 (nI_pos (by omega))
      · refine xk_aload_n dX0_isAbove_7 rfl ?_
        refine xk_get (ci := 0) (r := (RX0, TX0, 1)) 0 dX0_isAbove_8 rfl inX0 (by decide) wf_X0_9 hb rfl ?_
        refine xk_iload_n dX0_isAbove_11 rfl ?_
        refine xk_lald dX0_isAbove_12 hl (vp_in_nI (by omega) (by decide)) ?_
        rw [q3]
        refine xk_aload_n dX0_isAbove_13 rfl ?_
        refine xk_get (ci := 0) (r := (RX0, TX0, 1)) 0 dX0_isAbove_14 rfl inX0 (by decide) wf_X0_9 hb2 rfl ?_
        refine xk_iload_n dX0_isAbove_17 rfl ?_
        refine xk_lald dX0_isAbove_18 hl2 (vp_in_nI (by omega) (by decide)) ?_
        try rw [q3]
        refine xk_lcmp dX0_isAbove_19 ?_
        refine xk_if_eq 45 dX0_isAbove_20 (by decide) (fun c20 => ?_) (fun c20 => ?_)
        · rw [lc_eq (by omega) (by omega)] at c20
          refine xk_iinc (nI r + (-1)) dX0_isAbove_45 rfl rfl (by decide) ?_
          dsimp only [xk_s1, xk_s2, xk_kill]
          refine xk_goto 3 dX0_isAbove_48 (by decide) ?_
          exact ih (by omega) (g1.2 c20)
        · rw [lc_eq (by omega) (by omega)] at c20
          refine xk_aload_n dX0_isAbove_23 rfl ?_
          refine xk_get (ci := 0) (r := (RX0, TX0, 1)) 0 dX0_isAbove_24 rfl inX0 (by decide) wf_X0_9 hb rfl ?_
          refine xk_iload_n dX0_isAbove_27 rfl ?_
          refine xk_lald dX0_isAbove_28 hl (vp_in_nI (by omega) (by decide)) ?_
          try rw [q3]
          refine xk_aload_n dX0_isAbove_29 rfl ?_
          refine xk_get (ci := 0) (r := (RX0, TX0, 1)) 0 dX0_isAbove_30 rfl inX0 (by decide) wf_X0_9 hb2 rfl ?_
          refine xk_iload_n dX0_isAbove_33 rfl ?_
          refine xk_lald dX0_isAbove_34 hl2 (vp_in_nI (by omega) (by decide)) ?_
          try rw [q3]
          refine xk_lcmp dX0_isAbove_35 ?_
          refine xk_if_le 43 dX0_isAbove_36 (by decide) (fun c36 => ?_) (fun c36 => ?_)
          · rw [lc_le (by omega) (by omega)] at c36
            refine xk_iconst (0) dX0_isAbove_43 (by decide) ?_
            exact xk_zret rfl (by rfl) dX0_isAbove_44 (Nat.le_refl _) (Nat.le_refl _) ⟨by first | rw [xd_t (g1.1 (by omega))] | rw [xd_f (by have := g2.1 (by omega); omega)], rfl⟩
          · rw [lc_le (by omega) (by omega)] at c36
            refine xk_iconst (1) dX0_isAbove_39 (by decide) ?_
            refine xk_goto 44 dX0_isAbove_40 (by decide) ?_
            exact xk_zret rfl (by rfl) dX0_isAbove_44 (Nat.le_refl _) (Nat.le_refl _) ⟨by first | rw [xd_t (g1.1 (by omega))] | rw [xd_f (by have := g2.1 (by omega); omega)], rfl⟩
  refine xk_Y.ofX (k := 1) (ls := [some (.ref b), some (.ref b2), none]) (by decide) rfl rfl ?_
  refine xk_bipush (7) dX0_isAbove_0 (by decide) ?_
  refine xk_istore_n dX0_isAbove_2 (by decide) ?_
  dsimp only [xk_s1, xk_s2, xk_kill]
  exact l3 8 (Nat.le_refl _) (by rw [Nat.div_eq_of_lt hN, Nat.div_eq_of_lt hN2])
end
section
/-! Roots.isAbove. Laid by a program of our own. -/
set_option maxHeartbeats 4000000 in
set_option maxRecDepth 100000 in
theorem y_X4_isAbove (d : Nat) {hs : xk_H} {r N1 N2 ta ba tb bb ra rb : Nat} (hN1 : N1 < 2 ^ 240) (hN2 : N2 < 2 ^ 240) (hr : hs[r]? = some (.inr (3, [.ref (r + 1), .ref (r + 3)]))) (h1 : hs[r + 1]? = some (.inr (0, [.ref (r + 1 + 1)]))) (hl1 : hs[r + 1 + 1]? = some (bw N1)) (h2 : hs[r + 3]? = some (.inr (0, [.ref (r + 3 + 1)]))) (hl2 : hs[r + 3 + 1]? = some (bw N2)) (hta : 1 ≤ ta ∧ ta < 1048576) (hba : 1 ≤ ba ∧ ba < 1048576) (htb : 1 ≤ tb ∧ tb < 1048576) (hbb : 1 ≤ bb ∧ bb < 1048576) (hra : ra < 100) (hrb : rb < 100) (ho1 : ta ^ rb * bb ^ ra < 2 ^ 240) (ho2 : tb ^ ra * ba ^ rb < 2 ^ 240) : xk_F (d + 2) mX4_isAbove [.ref r, .long (fr ta ba), .int (nI ra), .long (fr tb bb), .int (nI rb)] hs (some (.int (xk_b (decide (tb ^ ra * ba ^ rb < ta ^ rb * bb ^ ra))))) ((hs.set (r + 1 + 1) (bw (ta ^ rb * bb ^ ra))).set (r + 3 + 1) (bw (tb ^ ra * ba ^ rb))) := by
  have A1 : ∀ a : xk_C, (hs.set (r + 1 + 1) a)[r]? = some (.inr (3, [.ref (r + 1), .ref (r + 3)])) := fun a => (xs_ne (by omega)).trans hr
  have A2 : ∀ a b : xk_C, ((hs.set (r + 1 + 1) a).set (r + 3 + 1) b)[r]? = some (.inr (3, [.ref (r + 1), .ref (r + 3)])) := fun a b => (xs_ne (by omega)).trans (A1 a)
  have E1 : ∀ a : xk_C, (hs.set (r + 1 + 1) a)[r + 1]? = some (.inr (0, [.ref (r + 1 + 1)])) := fun a => (xs_ne (by omega)).trans h1
  have E2 : ∀ a b : xk_C, ((hs.set (r + 1 + 1) a).set (r + 3 + 1) b)[r + 1]? = some (.inr (0, [.ref (r + 1 + 1)])) := fun a b => (xs_ne (by omega)).trans (E1 a)
  have F1 : ∀ a : xk_C, (hs.set (r + 1 + 1) a)[r + 3]? = some (.inr (0, [.ref (r + 3 + 1)])) := fun a => (xs_ne (by omega)).trans h2
  have F2 : ∀ a b : xk_C, ((hs.set (r + 1 + 1) a).set (r + 3 + 1) b)[r + 3]? = some (.inr (0, [.ref (r + 3 + 1)])) := fun a b => (xs_ne (by omega)).trans (F1 a)
  have L1 : ∀ a : xk_C, (hs.set (r + 1 + 1) a)[r + 1 + 1]? = some a := fun a => xs_at hl1
  have L2 : ∀ a b : xk_C, ((hs.set (r + 1 + 1) a).set (r + 3 + 1) b)[r + 1 + 1]? = some a := fun a b => (xs_ne (by omega)).trans (L1 a)
  have M1 : ∀ a : xk_C, (hs.set (r + 1 + 1) a)[r + 3 + 1]? = some (bw N2) := fun a => (xs_ne (by omega)).trans hl2
  have M2 : ∀ a b : xk_C, ((hs.set (r + 1 + 1) a).set (r + 3 + 1) b)[r + 3 + 1]? = some b := fun a b => xs_at (M1 a)
  have k1 : 1 * ta ^ rb < 2 ^ 240 := by
    rw [Nat.one_mul]
    exact Nat.lt_of_le_of_lt (Nat.le_mul_of_pos_right _ (Nat.pow_pos hbb.1)) ho1
  have k2 : 1 * ta ^ rb * bb ^ ra < 2 ^ 240 := by rw [Nat.one_mul]; exact ho1
  have k3 : 1 * tb ^ ra < 2 ^ 240 := by
    rw [Nat.one_mul]
    exact Nat.lt_of_le_of_lt (Nat.le_mul_of_pos_right _ (Nat.pow_pos hba.1)) ho2
  have k4 : 1 * tb ^ ra * ba ^ rb < 2 ^ 240 := by rw [Nat.one_mul]; exact ho2
  refine xk_Y.ofX (k := 0) (ls := [some (.ref r), some (.long (fr ta ba)), none, some (.int (nI ra)), some (.long (fr tb bb)), none, some (.int (nI rb))]) (by decide) rfl rfl ?_
  refine xk_aload_n dX4_isAbove_0 rfl ?_
  refine xk_get (ci := 3) (r := (RX4, TX4, 2)) 0 dX4_isAbove_1 rfl inX4 (by decide) wf_X4_10 hr rfl ?_
  refine xk_v0n (M' := mX0_reset) (d' := d + 1) (ci := 0) (r0 := (RX0, TX0, 1)) dX4_isAbove_4 wm_X4_19 cv_X0_reset wi_X0_reset wl_X0_reset (by omega) (Nat.le_refl _) (Nat.le_refl _) rfl rfl h1 (Nat.le_of_ble_eq_true rfl) (y_X0_reset d hN1 h1 hl1) (by simp) ?_
  refine xk_aload_n dX4_isAbove_7 rfl ?_
  refine xk_get (ci := 3) (r := (RX4, TX4, 2)) 0 dX4_isAbove_8 rfl inX4 (by decide) wf_X4_10 (A1 _) rfl ?_
  refine xk_lload_n dX4_isAbove_11 rfl ?_
  refine xk_s1c (M' := mX1_top) (d' := (d + 1)) dX4_isAbove_12 wm_X4_22 cv_X1_top wt_X1_top (by omega) (Nat.le_refl _) (Nat.le_refl _) (Nat.le_of_ble_eq_true rfl) (y_X1_top (d + 1) (by omega) (by omega)) rfl ?_
  refine xk_iload dX4_isAbove_15 rfl ?_
  refine xk_v2n (M' := mX0_multiply) (d' := (d + 1)) (ci := 0) (r0 := (RX0, TX0, 1)) dX4_isAbove_17 wm_X4_28 cv_X0_multiply wi_X0_multiply wl_X0_multiply (by omega) (Nat.le_refl _) (Nat.le_refl _) rfl rfl (E1 _) (Nat.le_of_ble_eq_true rfl) (y_X0_multiply (d + 1) hta.2 hrb k1 hta.1 (E1 _) (L1 _)) (by simp) ?_
  rw [List.set_set]
  refine xk_aload_n dX4_isAbove_20 rfl ?_
  refine xk_get (ci := 3) (r := (RX4, TX4, 2)) 0 dX4_isAbove_21 rfl inX4 (by decide) wf_X4_10 (A1 _) rfl ?_
  refine xk_lload dX4_isAbove_24 rfl ?_
  refine xk_s1c (M' := mX1_bottom) (d' := (d + 1)) dX4_isAbove_26 wm_X4_32 cv_X1_bottom wt_X1_bottom (by omega) (Nat.le_refl _) (Nat.le_refl _) (Nat.le_of_ble_eq_true rfl) (y_X1_bottom (d + 1) (by omega) (by omega)) rfl ?_
  refine xk_iload_n dX4_isAbove_29 rfl ?_
  refine xk_v2n (M' := mX0_multiply) (d' := (d + 1)) (ci := 0) (r0 := (RX0, TX0, 1)) dX4_isAbove_30 wm_X4_28 cv_X0_multiply wi_X0_multiply wl_X0_multiply (by omega) (Nat.le_refl _) (Nat.le_refl _) rfl rfl (E1 _) (Nat.le_of_ble_eq_true rfl) (y_X0_multiply (d + 1) hbb.2 hra k2 hbb.1 (E1 _) (L1 _)) (by simp) ?_
  rw [List.set_set, Nat.one_mul]
  refine xk_aload_n dX4_isAbove_33 rfl ?_
  refine xk_get (ci := 3) (r := (RX4, TX4, 2)) 1 dX4_isAbove_34 rfl inX4 (by decide) wf_X4_16 (A1 _) rfl ?_
  refine xk_v0n (M' := mX0_reset) (d' := d + 1) (ci := 0) (r0 := (RX0, TX0, 1)) dX4_isAbove_37 wm_X4_19 cv_X0_reset wi_X0_reset wl_X0_reset (by omega) (Nat.le_refl _) (Nat.le_refl _) rfl rfl (F1 _) (Nat.le_of_ble_eq_true rfl) (y_X0_reset d hN2 (F1 _) (M1 _)) (by simp) ?_
  refine xk_aload_n dX4_isAbove_40 rfl ?_
  refine xk_get (ci := 3) (r := (RX4, TX4, 2)) 1 dX4_isAbove_41 rfl inX4 (by decide) wf_X4_16 (A2 _ _) rfl ?_
  refine xk_lload dX4_isAbove_44 rfl ?_
  refine xk_s1c (M' := mX1_top) (d' := (d + 1)) dX4_isAbove_46 wm_X4_22 cv_X1_top wt_X1_top (by omega) (Nat.le_refl _) (Nat.le_refl _) (Nat.le_of_ble_eq_true rfl) (y_X1_top (d + 1) (by omega) (by omega)) rfl ?_
  refine xk_iload_n dX4_isAbove_49 rfl ?_
  refine xk_v2n (M' := mX0_multiply) (d' := (d + 1)) (ci := 0) (r0 := (RX0, TX0, 1)) dX4_isAbove_50 wm_X4_28 cv_X0_multiply wi_X0_multiply wl_X0_multiply (by omega) (Nat.le_refl _) (Nat.le_refl _) rfl rfl (F2 _ _) (Nat.le_of_ble_eq_true rfl) (y_X0_multiply (d + 1) htb.2 hra k3 htb.1 (F2 _ _) (M2 _ _)) (by simp) ?_
  rw [List.set_set]
  refine xk_aload_n dX4_isAbove_53 rfl ?_
  refine xk_get (ci := 3) (r := (RX4, TX4, 2)) 1 dX4_isAbove_54 rfl inX4 (by decide) wf_X4_16 (A2 _ _) rfl ?_
  refine xk_lload_n dX4_isAbove_57 rfl ?_
  refine xk_s1c (M' := mX1_bottom) (d' := (d + 1)) dX4_isAbove_58 wm_X4_32 cv_X1_bottom wt_X1_bottom (by omega) (Nat.le_refl _) (Nat.le_refl _) (Nat.le_of_ble_eq_true rfl) (y_X1_bottom (d + 1) (by omega) (by omega)) rfl ?_
  refine xk_iload dX4_isAbove_61 rfl ?_
  refine xk_v2n (M' := mX0_multiply) (d' := (d + 1)) (ci := 0) (r0 := (RX0, TX0, 1)) dX4_isAbove_63 wm_X4_28 cv_X0_multiply wi_X0_multiply wl_X0_multiply (by omega) (Nat.le_refl _) (Nat.le_refl _) rfl rfl (F2 _ _) (Nat.le_of_ble_eq_true rfl) (y_X0_multiply (d + 1) hba.2 hrb k4 hba.1 (F2 _ _) (M2 _ _)) (by simp) ?_
  rw [List.set_set, Nat.one_mul]
  refine xk_aload_n dX4_isAbove_66 rfl ?_
  refine xk_get (ci := 3) (r := (RX4, TX4, 2)) 0 dX4_isAbove_67 rfl inX4 (by decide) wf_X4_10 (A2 _ _) rfl ?_
  refine xk_aload_n dX4_isAbove_70 rfl ?_
  refine xk_get (ci := 3) (r := (RX4, TX4, 2)) 1 dX4_isAbove_71 rfl inX4 (by decide) wf_X4_16 (A2 _ _) rfl ?_
  refine xk_v1 (M' := mX0_isAbove) (d' := (d + 1)) (ci := 0) (r0 := (RX0, TX0, 1)) dX4_isAbove_74 wm_X4_35 cv_X0_isAbove wi_X0_isAbove wl_X0_isAbove (by omega) (Nat.le_refl _) (Nat.le_refl _) rfl rfl (E2 _ _) (Nat.le_of_ble_eq_true rfl) (y_X0_isAbove (d + 1) ho1 ho2 (E2 _ _) (L2 _ _) (F2 _ _) (M2 _ _)) rfl ?_
  exact xk_zret rfl (xk_b_nar _) dX4_isAbove_77 (Nat.le_refl _) (Nat.le_refl _) ⟨rfl, rfl⟩
end
section
/-! TreeCount: what it computes. Own text. -/
abbrev mtM : Type := Nat → Nat → Int32
def mtA (hs : xk_H) (u s : Nat) (M : mtM) : Prop :=
  hs[u]? = some (.inr (5, [.int (nI s), .ref (u + 1)])) ∧ hs[u + 1]? = some (.inl (3, s, .inr (.inr (.inr (.inr (fun i => if i < s then some (u + 2 + i) else none)))))) ∧ ∀ i, i < s → ∃ f : Nat → Int32, hs[u + 2 + i]? = some (.inl (0, s, .inl f)) ∧ ∀ j, j < s → f j = M i j
def mtS (u s : Nat) : Nat → Prop := fun k => u ≤ k ∧ k < u + 2 + s
theorem mtA.put {hs : xk_H} {u s i j : Nat} {M : mtM} {f : Nat → Int32} {x : Int32} (h : mtA hs u s M) (hi : i < s) (hf : hs[u + 2 + i]? = some (.inl (0, s, .inl f))) : mtA (hs.set (u + 2 + i) (.inl (0, s, .inl (upd f j x)))) u s (fun a b => if a = i ∧ b = j then x else M a b) := by
  refine ⟨(xs_ne (by omega)).trans h.1, (xs_ne (by omega)).trans h.2.1, fun k hk => ?_⟩
  by_cases e : k = i
  · subst e
    refine ⟨_, xs_at hf, fun b hb => ?_⟩
    obtain ⟨f2, h1, h2⟩ := h.2.2 k hk
    rw [hf] at h1
    have e2 : f = f2 := by injection h1 with h1; injection h1 with h1; injection h1 with _ h1; injection h1 with _ h1; injection h1
    subst e2
    by_cases e3 : b = j
    · simp [upd, e3]
    · simp [upd, e3, h2 b hb]
  · obtain ⟨f2, h1, h2⟩ := h.2.2 k hk
    exact ⟨f2, (xs_ne (by omega)).trans h1, fun b hb => by simp [e, h2 b hb]⟩
theorem mtA.to {hs : xk_H} {u s : Nat} {M M' : mtM} (h : mtA hs u s M) (e : ∀ a b, a < s → b < s → M a b = M' a b) : mtA hs u s M' := by
  refine ⟨h.1, h.2.1, fun i hi => ?_⟩
  obtain ⟨f, h1, h2⟩ := h.2.2 i hi
  exact ⟨f, h1, fun j hj => (h2 j hj).trans (e i j hi hj)⟩
theorem mtA.kept {hs h : xk_H} {u s : Nat} {M : mtM} {S : Nat → Prop} (H : mtA hs u s M) (hf : xfr S hs h) (hS : ∀ k, mtS u s k → ¬ S k) : mtA h u s M := by
  refine ⟨?_, ?_, fun i hi => ?_⟩
  · rw [hf.2 _ (hS _ ⟨by omega, by omega⟩)]; exact H.1
  · rw [hf.2 _ (hS _ ⟨by omega, by omega⟩)]; exact H.2.1
  · obtain ⟨f, h1, h2⟩ := H.2.2 i hi
    exact ⟨f, by rw [hf.2 _ (hS _ ⟨by omega, by omega⟩)]; exact h1, h2⟩
/-- how many of the first j things are said with i -/
def cntT (w : tbW) (i : Nat) : Nat → Nat
  | 0 => 0
  | j + 1 => cntT w i j + (if tH w i j = true then 1 else 0)
theorem cntT_le (w : tbW) (i : Nat) : ∀ j, cntT w i j ≤ j
  | 0 => Nat.le_refl _
  | j + 1 => by
    have := cntT_le w i j
    rw [cntT]
    split <;> omega
def offV (w : tbW) (a b : Nat) : Int32 := if tH w a b = true then -1 else 0
/-- the matrix of the things but the last one -/
def lapM (w : tbW) (s : Nat) : mtM := fun a b => if a = b then nI ((if tH w a s = true then 1 else 0) + cntT w a s) else offV w a b
def elV (M : mtM) (st : Nat) (pv bf : Int32) (a b : Nat) : Int32 := (M a b * pv - M a st * M st b) / bf
def elimM (M : mtM) (st : Nat) (pv bf : Int32) : mtM := fun a b => if st < a ∧ st < b then elV M st pv bf a b else M a b
def ofM (s : Nat) : Nat → Nat → Int32 → mtM → Int32
  | 0, _, _, M => M (s - 1) (s - 1)
  | r + 1, st, bf, M => if M st st = 0 then 0 else ofM s r (st + 1) (M st st) (elimM M st (M st st) bf)
end
section
/-! TreeCount: contracts. Laid by a program of our own. -/
set_option maxHeartbeats 4000000 in
set_option maxRecDepth 100000 in
/-- fill -/
theorem y_X6_fill (d : Nat) {hs : xk_H} {t n fl u s : Nat} {w : tbW} {M : mtM} (hn : n ≤ 6) (hns : n = s + 1) (hT : tbA hs t n w fl) (ho : tbOK n w) (hM : mtA hs u s M) (hd : ∀ k, tbS t n k → ¬ mtS u s k) : xk_Y (d + 3) 0 0 mX6_fill false [.ref u, .ref t] hs (fun r' h => r' = none ∧ mtA h u s (lapM w s) ∧ xfr (mtS u s) hs h) := by
  have hT2 : ∀ h : xk_H, xfr (mtS u s) hs h → tbA h t n w fl := fun h hf => hT.kept hf hd
  have l31 : ∀ (r j i ti : Nat) (M1 : mtM) (h : xk_H) (o : Option Value), j + r = s → i < s → ti = (if tH w i s = true then 1 else 0) + cntT w i j → mtA h u s M1 → xfr (mtS u s) hs h → (∀ b, b < j → M1 i b = offV w i b) → (∀ a b, a < i → b < s → M1 a b = lapM w s a b) →
      (∀ (M2 : mtM) (h2 : xk_H) (o4 o5 : Option Value), mtA h2 u s M2 → xfr (mtS u s) hs h2 → (∀ b, b < s → M2 i b = offV w i b) → (∀ a b, a < i → b < s → M2 a b = lapM w s a b) → xk_X (d + 3) 0 0 mX6_fill (xk_fx false hs) (fun r' h => r' = none ∧ mtA h u s (lapM w s) ∧ xfr (mtS u s) hs h) 0 0 87 [some (.ref u), some (.ref t), some (.int (nI i)), some (.int (nI ((if tH w i s = true then 1 else 0) + cntT w i s))), o4, o5] [] h2) → xk_X (d + 3) 0 0 mX6_fill (xk_fx false hs) (fun r' h => r' = none ∧ mtA h u s (lapM w s) ∧ xfr (mtS u s) hs h) 0 0 31 [some (.ref u), some (.ref t), some (.int (nI i)), some (.int (nI ti)), some (.int (nI j)), o] [] h := by
    intro r
    induction r with
    | zero =>
      intro j i ti M1 h o h1 hi hti hm hf p1 p2 K
      obtain rfl : j = s := by omega
      subst hti
      refine xk_iload dX6_fill_31 rfl ?_
      refine xk_aload_n dX6_fill_33 rfl ?_
      refine xk_get (ci := 5) (r := (RX6, TX6, 2)) 0 dX6_fill_34 rfl inX6 (by decide) wf_X6_7 hm.1 rfl ?_
      refine xk_icmp_ge 87 dX6_fill_37 (by decide) (fun c37 => ?_) (fun c37 => ?_)
      · exact K M1 h _ _ hm hf p1 p2
      · exact absurd (nI_le (Nat.le_refl j) (by omega)) c37
    | succ r ih =>
      intro j i ti M1 h o h1 hi hti hm hf p1 p2 K
      obtain ⟨f, hf1, hf2⟩ := hm.2.2 i hi
      have q1 : vp_in (nI i) s := vp_in_nI hi (by omega)
      have q2 : vp_in (nI j) s := vp_in_nI (by omega) (by omega)
      have q3 : (nI i).toNatClampNeg = i := nI_clamp (by omega)
      have q4 : (nI j).toNatClampNeg = j := nI_clamp (by omega)
      have q5 : (if (nI i).toNatClampNeg < s then some (u + 2 + (nI i).toNatClampNeg) else none) = some (u + 2 + i) := by rw [q3, if_pos hi]
      have eH := tHas_H (w := w) hn (show i < n by omega) (show j < n by omega)
      refine xk_iload dX6_fill_31 rfl ?_
      refine xk_aload_n dX6_fill_33 rfl ?_
      refine xk_get (ci := 5) (r := (RX6, TX6, 2)) 0 dX6_fill_34 rfl inX6 (by decide) wf_X6_7 hm.1 rfl ?_
      refine xk_icmp_ge 87 dX6_fill_37 (by decide) (fun c37 => ?_) (fun c37 => ?_)
      · exact absurd c37 (nI_ge (by omega) (by omega))
      · refine xk_aload_n dX6_fill_40 rfl ?_
        refine xk_iload_n dX6_fill_41 rfl ?_
        refine xk_iload dX6_fill_42 rfl ?_
        refine xk_v2 (M' := mX5_holds) (d' := d + 2) (ci := 4) (r0 := (RX5, TX5, 3)) dX6_fill_44 wm_X6_26 cv_X5_holds wi_X5_holds wl_X5_holds (by omega) (Nat.le_refl _) (Nat.le_refl _) rfl rfl (hT2 _ hf).1 (Nat.le_of_ble_eq_true rfl) (y_X5_holds d hn (hT2 _ hf) ho) rfl ?_
        rw [eH]
        cases hb : tH w i j
        · refine xk_istore dX6_fill_47 (by decide) ?_
          dsimp only [xk_s1, xk_s2, xk_kill]
          refine xk_aload_n dX6_fill_49 rfl ?_
          refine xk_get (ci := 5) (r := (RX6, TX6, 2)) 1 dX6_fill_50 rfl inX6 (by decide) wf_X6_15 hm.1 rfl ?_
          refine xk_iload_n dX6_fill_53 rfl ?_
          refine xk_aaldI dX6_fill_54 hm.2.1 q1 q5 ?_
          refine xk_iload dX6_fill_55 rfl ?_
          refine xk_iload dX6_fill_57 rfl ?_
          refine xk_ifb_eq 66 dX6_fill_59 (by decide) (fun c59 => ?_) (fun c59 => ?_)
          · refine xk_iconst (0) dX6_fill_66 (by decide) ?_
            refine xk_iast dX6_fill_67 hf1 q2 ?_
            rw [q4]
            refine xk_iload_n dX6_fill_68 rfl ?_
            refine xk_iload dX6_fill_69 rfl ?_
            refine xk_ifb_eq 78 dX6_fill_71 (by decide) (fun c71 => ?_) (fun c71 => ?_)
            · refine xk_iconst (0) dX6_fill_78 (by decide) ?_
              refine xk_iadd dX6_fill_79 ?_
              rw [show nI ti + 0 = nI ti from by rw [show (0 : Int32) = nI 0 from rfl, nI_add]; rfl]
              refine xk_istore_n dX6_fill_80 (by decide) ?_
              dsimp only [xk_s1, xk_s2, xk_kill]
              refine xk_iinc (nI (j + 1)) dX6_fill_81 rfl (nI_1 j) (by decide) ?_
              dsimp only [xk_s1, xk_s2, xk_kill]
              refine xk_goto 31 dX6_fill_84 (by decide) ?_
              refine ih (j + 1) i _ _ _ _ (by omega) hi ?_ (hm.put (j := j) (x := 0) hi hf1) (hf.set ⟨by omega, by omega⟩) ?_ ?_ K
              · rw [cntT, hb, hti]; simp
              · intro b hb2
                by_cases e : b = j
                · simp [e, offV, hb]
                · simp [e, p1 b (by omega)]
              · intro a b ha hb2
                have e : a ≠ i := by omega
                simp [e, p2 a b ha hb2]
            · exact absurd c71 (by decide)
          · exact absurd c59 (by decide)
        · refine xk_istore dX6_fill_47 (by decide) ?_
          dsimp only [xk_s1, xk_s2, xk_kill]
          refine xk_aload_n dX6_fill_49 rfl ?_
          refine xk_get (ci := 5) (r := (RX6, TX6, 2)) 1 dX6_fill_50 rfl inX6 (by decide) wf_X6_15 hm.1 rfl ?_
          refine xk_iload_n dX6_fill_53 rfl ?_
          refine xk_aaldI dX6_fill_54 hm.2.1 q1 q5 ?_
          refine xk_iload dX6_fill_55 rfl ?_
          refine xk_iload dX6_fill_57 rfl ?_
          refine xk_ifb_eq 66 dX6_fill_59 (by decide) (fun c59 => ?_) (fun c59 => ?_)
          · exact absurd c59 (by decide)
          · refine xk_iconst (-1) dX6_fill_62 (by decide) ?_
            refine xk_goto 67 dX6_fill_63 (by decide) ?_
            refine xk_iast dX6_fill_67 hf1 q2 ?_
            rw [q4]
            refine xk_iload_n dX6_fill_68 rfl ?_
            refine xk_iload dX6_fill_69 rfl ?_
            refine xk_ifb_eq 78 dX6_fill_71 (by decide) (fun c71 => ?_) (fun c71 => ?_)
            · exact absurd c71 (by decide)
            · refine xk_iconst (1) dX6_fill_74 (by decide) ?_
              refine xk_goto 79 dX6_fill_75 (by decide) ?_
              refine xk_iadd dX6_fill_79 ?_
              rw [nI_1]
              refine xk_istore_n dX6_fill_80 (by decide) ?_
              dsimp only [xk_s1, xk_s2, xk_kill]
              refine xk_iinc (nI (j + 1)) dX6_fill_81 rfl (nI_1 j) (by decide) ?_
              dsimp only [xk_s1, xk_s2, xk_kill]
              refine xk_goto 31 dX6_fill_84 (by decide) ?_
              refine ih (j + 1) i _ _ _ _ (by omega) hi ?_ (hm.put (j := j) (x := (-1)) hi hf1) (hf.set ⟨by omega, by omega⟩) ?_ ?_ K
              · rw [cntT, hb, hti]; simp only [if_true]; omega
              · intro b hb2
                by_cases e : b = j
                · simp [e, offV, hb]
                · simp [e, p1 b (by omega)]
              · intro a b ha hb2
                have e : a ≠ i := by omega
                simp [e, p2 a b ha hb2]
  have l2 : ∀ (r i : Nat) (M1 : mtM) (h : xk_H) (o3 o4 o5 : Option Value), i + r = s → mtA h u s M1 → xfr (mtS u s) hs h → (∀ a b, a < i → b < s → M1 a b = lapM w s a b) → xk_X (d + 3) 0 0 mX6_fill (xk_fx false hs) (fun r' h => r' = none ∧ mtA h u s (lapM w s) ∧ xfr (mtS u s) hs h) 0 0 2 [some (.ref u), some (.ref t), some (.int (nI i)), o3, o4, o5] [] h := by
    intro r
    induction r with
    | zero =>
      intro i M1 h o3 o4 o5 h1 hm hf p2
      obtain rfl : i = s := by omega
      refine xk_iload_n dX6_fill_2 rfl ?_
      refine xk_aload_n dX6_fill_3 rfl ?_
      refine xk_get (ci := 5) (r := (RX6, TX6, 2)) 0 dX6_fill_4 rfl inX6 (by decide) wf_X6_7 hm.1 rfl ?_
      refine xk_icmp_ge 102 dX6_fill_7 (by decide) (fun c7 => ?_) (fun c7 => ?_)
      · exact xk_vret rfl dX6_fill_102 (Nat.le_refl _) (Nat.le_refl _) ⟨rfl, hm.to (fun a b ha hb => p2 a b ha hb), hf⟩
      · exact absurd (nI_le (Nat.le_refl i) (by omega)) c7
    | succ r ih =>
      intro i M1 h o3 o4 o5 h1 hm hf p2
      have eS := tHas_H (w := w) hn (show i < n by omega) (show s < n by omega)
      have q1 : vp_in (nI i) s := vp_in_nI (by omega) (by omega)
      have q3 : (nI i).toNatClampNeg = i := nI_clamp (by omega)
      have q5 : (if (nI i).toNatClampNeg < s then some (u + 2 + (nI i).toNatClampNeg) else none) = some (u + 2 + i) := by rw [q3, if_pos (by omega)]
      have K : ∀ (M2 : mtM) (h2 : xk_H) (o4 o5 : Option Value), mtA h2 u s M2 → xfr (mtS u s) hs h2 → (∀ b, b < s → M2 i b = offV w i b) → (∀ a b, a < i → b < s → M2 a b = lapM w s a b) → xk_X (d + 3) 0 0 mX6_fill (xk_fx false hs) (fun r' h => r' = none ∧ mtA h u s (lapM w s) ∧ xfr (mtS u s) hs h) 0 0 87 [some (.ref u), some (.ref t), some (.int (nI i)), some (.int (nI ((if tH w i s = true then 1 else 0) + cntT w i s))), o4, o5] [] h2 := by
        intro M2 h2 o4 o5 hm2 hf2 p3 p4
        obtain ⟨f, hf1, -⟩ := hm2.2.2 i (by omega)
        refine xk_aload_n dX6_fill_87 rfl ?_
        refine xk_get (ci := 5) (r := (RX6, TX6, 2)) 1 dX6_fill_88 rfl inX6 (by decide) wf_X6_15 hm2.1 rfl ?_
        refine xk_iload_n dX6_fill_91 rfl ?_
        refine xk_aaldI dX6_fill_92 hm2.2.1 q1 q5 ?_
        refine xk_iload_n dX6_fill_93 rfl ?_
        refine xk_iload_n dX6_fill_94 rfl ?_
        refine xk_iast dX6_fill_95 hf1 q1 ?_
        rw [q3]
        refine xk_iinc (nI (i + 1)) dX6_fill_96 rfl (nI_1 i) (by decide) ?_
        dsimp only [xk_s1, xk_s2, xk_kill]
        refine xk_goto 2 dX6_fill_99 (by decide) ?_
        refine ih (i + 1) _ _ _ _ _ (by omega) (hm2.put (j := i) (x := nI ((if tH w i s = true then 1 else 0) + cntT w i s)) (by omega) hf1) (hf2.set ⟨by omega, by omega⟩) ?_
        intro a b ha hb
        by_cases e : a = i
        · subst e
          by_cases e2 : b = a
          · simp [e2, lapM]
          · have e3 : ¬ a = b := fun z => e2 z.symm
            simp [e2, e3, lapM, p3 b hb]
        · simp [e, p4 a b (by omega) hb]
      refine xk_iload_n dX6_fill_2 rfl ?_
      refine xk_aload_n dX6_fill_3 rfl ?_
      refine xk_get (ci := 5) (r := (RX6, TX6, 2)) 0 dX6_fill_4 rfl inX6 (by decide) wf_X6_7 hm.1 rfl ?_
      refine xk_icmp_ge 102 dX6_fill_7 (by decide) (fun c7 => ?_) (fun c7 => ?_)
      · exact absurd c7 (nI_ge (by omega) (by omega))
      · refine xk_aload_n dX6_fill_10 rfl ?_
        refine xk_iload_n dX6_fill_11 rfl ?_
        refine xk_aload_n dX6_fill_12 rfl ?_
        refine xk_get (ci := 5) (r := (RX6, TX6, 2)) 0 dX6_fill_13 rfl inX6 (by decide) wf_X6_7 hm.1 rfl ?_
        refine xk_v2 (M' := mX5_holds) (d' := d + 2) (ci := 4) (r0 := (RX5, TX5, 3)) dX6_fill_16 wm_X6_26 cv_X5_holds wi_X5_holds wl_X5_holds (by omega) (Nat.le_refl _) (Nat.le_refl _) rfl rfl (hT2 _ hf).1 (Nat.le_of_ble_eq_true rfl) (y_X5_holds d hn (hT2 _ hf) ho) rfl ?_
        refine xk_ifb_eq 26 dX6_fill_19 (by decide) (fun c19 => ?_) (fun c19 => ?_)
        · rw [eS] at c19
          refine xk_iconst (0) dX6_fill_26 (by decide) ?_
          refine xk_istore_n dX6_fill_27 (by decide) ?_
          dsimp only [xk_s1, xk_s2, xk_kill]
          refine xk_iconst (0) dX6_fill_28 (by decide) ?_
          refine xk_istore dX6_fill_29 (by decide) ?_
          dsimp only [xk_s1, xk_s2, xk_kill]
          first
          | exact l31 s 0 i 0 M1 h _ (by omega) (by omega) (by simp [cntT, c19]; done) hm hf (fun b hb => absurd hb (by omega)) p2 K
          | exact l31 s 0 i 1 M1 h _ (by omega) (by omega) (by simp [cntT, c19]; done) hm hf (fun b hb => absurd hb (by omega)) p2 K
        · rw [eS] at c19
          refine xk_iconst (1) dX6_fill_22 (by decide) ?_
          refine xk_goto 27 dX6_fill_23 (by decide) ?_
          refine xk_istore_n dX6_fill_27 (by decide) ?_
          dsimp only [xk_s1, xk_s2, xk_kill]
          refine xk_iconst (0) dX6_fill_28 (by decide) ?_
          refine xk_istore dX6_fill_29 (by decide) ?_
          dsimp only [xk_s1, xk_s2, xk_kill]
          first
          | exact l31 s 0 i 0 M1 h _ (by omega) (by omega) (by simp [cntT, c19]; done) hm hf (fun b hb => absurd hb (by omega)) p2 K
          | exact l31 s 0 i 1 M1 h _ (by omega) (by omega) (by simp [cntT, c19]; done) hm hf (fun b hb => absurd hb (by omega)) p2 K
  refine xk_Y.ofX (k := 4) (ls := [some (.ref u), some (.ref t), none, none, none, none]) (by decide) rfl rfl ?_
  refine xk_iconst (0) dX6_fill_0 (by decide) ?_
  refine xk_istore_n dX6_fill_1 (by decide) ?_
  dsimp only [xk_s1, xk_s2, xk_kill]
  exact l2 s 0 M hs _ _ _ (by omega) hM xfr.rf (fun a b ha => absurd ha (by omega))
end
section
/-! TreeCount: eliminate, of. Laid by a program of our own. -/
set_option maxHeartbeats 4000000 in
set_option maxRecDepth 100000 in
/-- eliminate -/
theorem y_X6_eliminate (d : Nat) {hs : xk_H} {u s st : Nat} {pv bf : Int32} {M : mtM} (hs6 : s ≤ 6) (hst : st < s) (hM : mtA hs u s M) (hbf : ¬ bf = 0) : xk_Y d 0 0 mX6_eliminate false [.ref u, .int (nI st), .int pv, .int bf] hs (fun r' h => r' = none ∧ mtA h u s (elimM M st pv bf) ∧ xfr (mtS u s) hs h) := by
  have l24 : ∀ (r j i : Nat) (M1 : mtM) (h : xk_H) (o : Option Value), j + r = s → st < j → st < i → i < s → mtA h u s M1 → xfr (mtS u s) hs h → (∀ a b, a < s → b < s → M1 a b = if st < a ∧ st < b ∧ (a < i ∨ (a = i ∧ b < j)) then elV M st pv bf a b else M a b) →
      (∀ (M2 : mtM) (h2 : xk_H) (o5 o6 : Option Value), mtA h2 u s M2 → xfr (mtS u s) hs h2 → (∀ a b, a < s → b < s → M2 a b = if st < a ∧ st < b ∧ a < i + 1 then elV M st pv bf a b else M a b) → xk_X d 0 0 mX6_eliminate (xk_fx false hs) (fun r' h => r' = none ∧ mtA h u s (elimM M st pv bf) ∧ xfr (mtS u s) hs h) 0 0 87 [some (.ref u), some (.int (nI st)), some (.int pv), some (.int bf), some (.int (nI i)), o5, o6] [] h2) → xk_X d 0 0 mX6_eliminate (xk_fx false hs) (fun r' h => r' = none ∧ mtA h u s (elimM M st pv bf) ∧ xfr (mtS u s) hs h) 0 0 24 [some (.ref u), some (.int (nI st)), some (.int pv), some (.int bf), some (.int (nI i)), some (.int (nI j)), o] [] h := by
    intro r
    induction r with
    | zero =>
      intro j i M1 h o h1 hj hi his hm hf p K
      obtain rfl : j = s := by omega
      refine xk_iload dX6_eliminate_24 rfl ?_
      refine xk_aload_n dX6_eliminate_26 rfl ?_
      refine xk_get (ci := 5) (r := (RX6, TX6, 2)) 0 dX6_eliminate_27 rfl inX6 (by decide) wf_X6_7 hm.1 rfl ?_
      refine xk_icmp_ge 87 dX6_eliminate_30 (by decide) (fun c30 => ?_) (fun c30 => ?_)
      · refine K M1 h _ _ hm hf (fun a b ha hb => ?_)
        rw [p a b ha hb]
        by_cases c : st < a ∧ st < b ∧ a < i + 1
        · rw [if_pos c, if_pos (by omega)]
        · rw [if_neg c, if_neg (by omega)]
      · exact absurd (nI_le (Nat.le_refl j) (by omega)) c30
    | succ r ih =>
      intro j i M1 h o h1 hj hi his hm hf p K
      obtain ⟨fi, hfi, hfi2⟩ := hm.2.2 i his
      obtain ⟨fs, hfs, hfs2⟩ := hm.2.2 st hst
      have q1 : vp_in (nI i) s := vp_in_nI his (by omega)
      have q2 : vp_in (nI j) s := vp_in_nI (by omega) (by omega)
      have q7 : vp_in (nI st) s := vp_in_nI hst (by omega)
      have q3 : (nI i).toNatClampNeg = i := nI_clamp (by omega)
      have q4 : (nI j).toNatClampNeg = j := nI_clamp (by omega)
      have q8 : (nI st).toNatClampNeg = st := nI_clamp (by omega)
      have q5 : (if (nI i).toNatClampNeg < s then some (u + 2 + (nI i).toNatClampNeg) else none) = some (u + 2 + i) := by rw [q3, if_pos his]
      have q6 : (if (nI st).toNatClampNeg < s then some (u + 2 + (nI st).toNatClampNeg) else none) = some (u + 2 + st) := by rw [q8, if_pos hst]
      have e1 : fi j = M i j := by rw [hfi2 j (by omega), p i j his (by omega), if_neg (by omega)]
      have e2 : fi st = M i st := by rw [hfi2 st hst, p i st his hst, if_neg (by omega)]
      have e3 : fs j = M st j := by rw [hfs2 j (by omega), p st j hst (by omega), if_neg (by omega)]
      refine xk_iload dX6_eliminate_24 rfl ?_
      refine xk_aload_n dX6_eliminate_26 rfl ?_
      refine xk_get (ci := 5) (r := (RX6, TX6, 2)) 0 dX6_eliminate_27 rfl inX6 (by decide) wf_X6_7 hm.1 rfl ?_
      refine xk_icmp_ge 87 dX6_eliminate_30 (by decide) (fun c30 => ?_) (fun c30 => ?_)
      · exact absurd c30 (nI_ge (by omega) (by omega))
      · refine xk_aload_n dX6_eliminate_33 rfl ?_
        refine xk_get (ci := 5) (r := (RX6, TX6, 2)) 1 dX6_eliminate_34 rfl inX6 (by decide) wf_X6_15 hm.1 rfl ?_
        refine xk_iload dX6_eliminate_37 rfl ?_
        refine xk_aaldI dX6_eliminate_39 hm.2.1 q1 q5 ?_
        refine xk_iload dX6_eliminate_40 rfl ?_
        refine xk_iald dX6_eliminate_42 hfi q2 ?_
        rw [q4, e1]
        refine xk_iload_n dX6_eliminate_43 rfl ?_
        refine xk_imul dX6_eliminate_44 ?_
        refine xk_aload_n dX6_eliminate_45 rfl ?_
        refine xk_get (ci := 5) (r := (RX6, TX6, 2)) 1 dX6_eliminate_46 rfl inX6 (by decide) wf_X6_15 hm.1 rfl ?_
        refine xk_iload dX6_eliminate_49 rfl ?_
        refine xk_aaldI dX6_eliminate_51 hm.2.1 q1 q5 ?_
        refine xk_iload_n dX6_eliminate_52 rfl ?_
        refine xk_iald dX6_eliminate_53 hfi q7 ?_
        rw [q8, e2]
        refine xk_aload_n dX6_eliminate_54 rfl ?_
        refine xk_get (ci := 5) (r := (RX6, TX6, 2)) 1 dX6_eliminate_55 rfl inX6 (by decide) wf_X6_15 hm.1 rfl ?_
        refine xk_iload_n dX6_eliminate_58 rfl ?_
        refine xk_aaldI dX6_eliminate_59 hm.2.1 q7 q6 ?_
        refine xk_iload dX6_eliminate_60 rfl ?_
        refine xk_iald dX6_eliminate_62 hfs q2 ?_
        try rw [q4]
        rw [e3]
        refine xk_imul dX6_eliminate_63 ?_
        refine xk_isub dX6_eliminate_64 ?_
        refine xk_istore dX6_eliminate_65 (by decide) ?_
        dsimp only [xk_s1, xk_s2, xk_kill]
        refine xk_aload_n dX6_eliminate_67 rfl ?_
        refine xk_get (ci := 5) (r := (RX6, TX6, 2)) 1 dX6_eliminate_68 rfl inX6 (by decide) wf_X6_15 hm.1 rfl ?_
        refine xk_iload dX6_eliminate_71 rfl ?_
        refine xk_aaldI dX6_eliminate_73 hm.2.1 q1 q5 ?_
        refine xk_iload dX6_eliminate_74 rfl ?_
        refine xk_iload dX6_eliminate_76 rfl ?_
        refine xk_iload_n dX6_eliminate_78 rfl ?_
        refine xk_idiv dX6_eliminate_79 hbf ?_
        refine xk_iast dX6_eliminate_80 hfi q2 ?_
        try rw [q4]
        refine xk_iinc (nI (j + 1)) dX6_eliminate_81 rfl (nI_1 j) (by decide) ?_
        dsimp only [xk_s1, xk_s2, xk_kill]
        refine xk_goto 24 dX6_eliminate_84 (by decide) ?_
        refine ih (j + 1) i _ _ _ (by omega) (by omega) hi his (hm.put (j := j) (x := elV M st pv bf i j) his hfi) (hf.set ⟨by omega, by omega⟩) (fun a b ha hb => ?_) K
        by_cases c : a = i ∧ b = j
        · obtain ⟨rfl, rfl⟩ := c
          rw [if_pos ⟨rfl, rfl⟩, if_pos (by omega)]
        · rw [if_neg c, p a b ha hb]
          by_cases c2 : st < a ∧ st < b ∧ (a < i ∨ (a = i ∧ b < j))
          · rw [if_pos c2, if_pos (by omega)]
          · rw [if_neg c2, if_neg (by omega)]
  have l10 : ∀ (r i : Nat) (M1 : mtM) (h : xk_H) (o5 o6 : Option Value), i + r = s → st < i → mtA h u s M1 → xfr (mtS u s) hs h → (∀ a b, a < s → b < s → M1 a b = if st < a ∧ st < b ∧ a < i then elV M st pv bf a b else M a b) → xk_X d 0 0 mX6_eliminate (xk_fx false hs) (fun r' h => r' = none ∧ mtA h u s (elimM M st pv bf) ∧ xfr (mtS u s) hs h) 0 0 10 [some (.ref u), some (.int (nI st)), some (.int pv), some (.int bf), some (.int (nI i)), o5, o6] [] h := by
    intro r
    induction r with
    | zero =>
      intro i M1 h o5 o6 h1 hi hm hf p
      obtain rfl : i = s := by omega
      have hE : ∀ a b, a < i → b < i → (∀ a b, a < i → b < i → M1 a b = if st < a ∧ st < b ∧ a < i then elV M st pv bf a b else M a b) → M1 a b = elimM M st pv bf a b := by
        intro a b ha hb p
        rw [p a b ha hb]
        unfold elimM
        by_cases c : st < a ∧ st < b
        · rw [if_pos c, if_pos (by omega)]
        · rw [if_neg c, if_neg (by omega)]
      refine xk_iload dX6_eliminate_10 rfl ?_
      refine xk_aload_n dX6_eliminate_12 rfl ?_
      refine xk_get (ci := 5) (r := (RX6, TX6, 2)) 0 dX6_eliminate_13 rfl inX6 (by decide) wf_X6_7 hm.1 rfl ?_
      refine xk_icmp_ge 93 dX6_eliminate_16 (by decide) (fun c16 => ?_) (fun c16 => ?_)
      · exact xk_vret rfl dX6_eliminate_93 (Nat.le_refl _) (Nat.le_refl _) ⟨rfl, hm.to (fun a b ha hb => hE a b ha hb p), hf⟩
      · exact absurd (nI_le (Nat.le_refl i) (by omega)) c16
    | succ r ih =>
      intro i M1 h o5 o6 h1 hi hm hf p
      refine xk_iload dX6_eliminate_10 rfl ?_
      refine xk_aload_n dX6_eliminate_12 rfl ?_
      refine xk_get (ci := 5) (r := (RX6, TX6, 2)) 0 dX6_eliminate_13 rfl inX6 (by decide) wf_X6_7 hm.1 rfl ?_
      refine xk_icmp_ge 93 dX6_eliminate_16 (by decide) (fun c16 => ?_) (fun c16 => ?_)
      · exact absurd c16 (nI_ge (by omega) (by omega))
      · refine xk_iload_n dX6_eliminate_19 rfl ?_
        refine xk_iconst (1) dX6_eliminate_20 (by decide) ?_
        refine xk_iadd dX6_eliminate_21 ?_
        rw [nI_1]
        refine xk_istore dX6_eliminate_22 (by decide) ?_
        dsimp only [xk_s1, xk_s2, xk_kill]
        refine l24 (s - (st + 1)) (st + 1) i M1 h _ (by omega) (by omega) hi (by omega) hm hf (fun a b ha hb => ?_) (fun M2 h2 o5 o6 hm2 hf2 p2 => ?_)
        · rw [p a b ha hb]
          by_cases c : st < a ∧ st < b ∧ a < i
          · rw [if_pos c, if_pos (by omega)]
          · rw [if_neg c, if_neg (by omega)]
        · refine xk_iinc (nI (i + 1)) dX6_eliminate_87 rfl (nI_1 i) (by decide) ?_
          dsimp only [xk_s1, xk_s2, xk_kill]
          refine xk_goto 10 dX6_eliminate_90 (by decide) ?_
          exact ih (i + 1) M2 h2 _ _ (by omega) (by omega) hm2 hf2 p2
  refine xk_Y.ofX (k := 3) (ls := [some (.ref u), some (.int (nI st)), some (.int pv), some (.int bf), none, none, none]) (by decide) rfl rfl ?_
  refine xk_iload_n dX6_eliminate_0 rfl ?_
  refine xk_if_ne 5 dX6_eliminate_1 (by decide) (fun c1 => ?_) (fun c1 => ?_)
  · refine xk_iload_n dX6_eliminate_5 rfl ?_
    refine xk_iconst (1) dX6_eliminate_6 (by decide) ?_
    refine xk_iadd dX6_eliminate_7 ?_
    rw [nI_1]
    refine xk_istore dX6_eliminate_8 (by decide) ?_
    dsimp only [xk_s1, xk_s2, xk_kill]
    exact l10 (s - (st + 1)) (st + 1) M hs _ _ (by omega) (by omega) hM xfr.rf (fun a b ha hb => by rw [if_neg (by omega)])
  · exact absurd c1 hbf

set_option maxHeartbeats 4000000 in
set_option maxRecDepth 100000 in
/-- of: how many trees -/
theorem y_X6_of (d : Nat) {hs : xk_H} {t n fl u s : Nat} {w : tbW} {M : mtM} (hn : n ≤ 6) (hns : n = s + 1) (hs1 : 1 ≤ s) (hT : tbA hs t n w fl) (ho : tbOK n w) (hM : mtA hs u s M) (hd : ∀ k, tbS t n k → ¬ mtS u s k) : xk_Y (d + 4) 0 0 mX6_of false [.ref u, .ref t] hs (fun r' h => r' = some (.int (ofM s (s - 1) 0 1 (lapM w s))) ∧ (∃ M2, mtA h u s M2) ∧ xfr (mtS u s) hs h) := by
  have e0 : nI s - 1 = nI (s - 1) := pk_sub (a := s) (b := 1) hs1
  have l9 : ∀ (r st : Nat) (bf : Int32) (M1 : mtM) (h : xk_H) (o : Option Value), st + r + 1 = s → ¬ bf = 0 → mtA h u s M1 → xfr (mtS u s) hs h → ofM s r st bf M1 = ofM s (s - 1) 0 1 (lapM w s) → xk_X (d + 4) 0 0 mX6_of (xk_fx false hs) (fun r' h => r' = some (.int (ofM s (s - 1) 0 1 (lapM w s))) ∧ (∃ M2, mtA h u s M2) ∧ xfr (mtS u s) hs h) 0 0 9 [some (.ref u), some (.ref t), some (.int bf), some (.int (nI st)), o] [] h := by
    intro r
    induction r with
    | zero =>
      intro st bf M1 h o h1 hbf hm hf hE
      obtain rfl : st = s - 1 := by omega
      obtain ⟨f, hf1, hf2⟩ := hm.2.2 (s - 1) (by omega)
      have q3 : (nI (s - 1)).toNatClampNeg = s - 1 := nI_clamp (by omega)
      have q1 : vp_in (nI (s - 1)) s := vp_in_nI (by omega) (by omega)
      have q5 : (if (nI (s - 1)).toNatClampNeg < s then some (u + 2 + (nI (s - 1)).toNatClampNeg) else none) = some (u + 2 + (s - 1)) := by rw [q3, if_pos (by omega)]
      refine xk_iload_n dX6_of_9 rfl ?_
      refine xk_aload_n dX6_of_10 rfl ?_
      refine xk_get (ci := 5) (r := (RX6, TX6, 2)) 0 dX6_of_11 rfl inX6 (by decide) wf_X6_7 hm.1 rfl ?_
      refine xk_iconst (1) dX6_of_14 (by decide) ?_
      refine xk_isub dX6_of_15 ?_
      rw [e0]
      refine xk_icmp_ge 53 dX6_of_16 (by decide) (fun c16 => ?_) (fun c16 => ?_)
      · refine xk_aload_n dX6_of_53 rfl ?_
        refine xk_get (ci := 5) (r := (RX6, TX6, 2)) 1 dX6_of_54 rfl inX6 (by decide) wf_X6_15 hm.1 rfl ?_
        refine xk_aload_n dX6_of_57 rfl ?_
        refine xk_get (ci := 5) (r := (RX6, TX6, 2)) 0 dX6_of_58 rfl inX6 (by decide) wf_X6_7 hm.1 rfl ?_
        refine xk_iconst (1) dX6_of_61 (by decide) ?_
        refine xk_isub dX6_of_62 ?_
        rw [e0]
        refine xk_aaldI dX6_of_63 hm.2.1 q1 q5 ?_
        refine xk_aload_n dX6_of_64 rfl ?_
        refine xk_get (ci := 5) (r := (RX6, TX6, 2)) 0 dX6_of_65 rfl inX6 (by decide) wf_X6_7 hm.1 rfl ?_
        refine xk_iconst (1) dX6_of_68 (by decide) ?_
        refine xk_isub dX6_of_69 ?_
        rw [e0]
        refine xk_iald dX6_of_70 hf1 q1 ?_
        rw [q3]
        exact xk_iret rfl dX6_of_71 (Nat.le_refl _) (Nat.le_refl _) ⟨by rw [← hE, hf2 (s - 1) (by omega)]; rfl, ⟨M1, hm⟩, hf⟩
      · exact absurd (nI_le (Nat.le_refl (s - 1)) (by omega)) c16
    | succ r ih =>
      intro st bf M1 h o h1 hbf hm hf hE
      obtain ⟨f, hf1, hf2⟩ := hm.2.2 st (by omega)
      have q3 : (nI st).toNatClampNeg = st := nI_clamp (by omega)
      have q1 : vp_in (nI st) s := vp_in_nI (by omega) (by omega)
      have q5 : (if (nI st).toNatClampNeg < s then some (u + 2 + (nI st).toNatClampNeg) else none) = some (u + 2 + st) := by rw [q3, if_pos (by omega)]
      have e1 : f st = M1 st st := hf2 st (by omega)
      refine xk_iload_n dX6_of_9 rfl ?_
      refine xk_aload_n dX6_of_10 rfl ?_
      refine xk_get (ci := 5) (r := (RX6, TX6, 2)) 0 dX6_of_11 rfl inX6 (by decide) wf_X6_7 hm.1 rfl ?_
      refine xk_iconst (1) dX6_of_14 (by decide) ?_
      refine xk_isub dX6_of_15 ?_
      rw [e0]
      refine xk_icmp_ge 53 dX6_of_16 (by decide) (fun c16 => ?_) (fun c16 => ?_)
      · exact absurd c16 (nI_ge (by omega) (by omega))
      · refine xk_aload_n dX6_of_19 rfl ?_
        refine xk_get (ci := 5) (r := (RX6, TX6, 2)) 1 dX6_of_20 rfl inX6 (by decide) wf_X6_15 hm.1 rfl ?_
        refine xk_iload_n dX6_of_23 rfl ?_
        refine xk_aaldI dX6_of_24 hm.2.1 q1 q5 ?_
        refine xk_iload_n dX6_of_25 rfl ?_
        refine xk_iald dX6_of_26 hf1 q1 ?_
        rw [q3, e1]
        refine xk_istore dX6_of_27 (by decide) ?_
        dsimp only [xk_s1, xk_s2, xk_kill]
        refine xk_iload dX6_of_29 rfl ?_
        refine xk_if_ne 36 dX6_of_31 (by decide) (fun c31 => ?_) (fun c31 => ?_)
        · refine xk_aload_n dX6_of_36 rfl ?_
          refine xk_iload_n dX6_of_37 rfl ?_
          refine xk_iload dX6_of_38 rfl ?_
          refine xk_iload_n dX6_of_40 rfl ?_
          refine xk_callV3 (M' := mX6_eliminate) (d' := d) (ci := 5) (r0 := (RX6, TX6, 2)) dX6_of_41 wm_X6_22 cv_X6_eliminate wi_X6_eliminate wl_X6_eliminate (by omega) (Nat.le_refl _) (Nat.le_refl _) rfl rfl hm.1 (Nat.le_of_ble_eq_true rfl) (y_X6_eliminate d (by omega) (by omega) hm hbf) (fun _ _ z => z.2.2.1) (fun r0 h2 z => ?_)
          obtain ⟨rfl, hm2, hf2⟩ := z
          refine xk_iload dX6_of_44 rfl ?_
          refine xk_istore_n dX6_of_46 (by decide) ?_
          dsimp only [xk_s1, xk_s2, xk_kill]
          refine xk_iinc (nI (st + 1)) dX6_of_47 rfl (nI_1 st) (by decide) ?_
          dsimp only [xk_s1, xk_s2, xk_kill]
          refine xk_goto 9 dX6_of_50 (by decide) ?_
          refine ih (st + 1) (M1 st st) _ h2 _ (by omega) c31 hm2 (hf.tr hf2) ?_
          rw [← hE, ofM, if_neg c31]
        · refine xk_iconst (0) dX6_of_34 (by decide) ?_
          exact xk_iret rfl dX6_of_35 (Nat.le_refl _) (Nat.le_refl _) ⟨by rw [← hE, ofM, if_pos c31], ⟨M1, hm⟩, hf⟩
  refine xk_Y.ofX (k := 3) (ls := [some (.ref u), some (.ref t), none, none, none]) (by decide) rfl rfl ?_
  refine xk_aload_n dX6_of_0 rfl ?_
  refine xk_aload_n dX6_of_1 rfl ?_
  refine xk_callV1 (M' := mX6_fill) (d' := d + 3) (ci := 5) (r0 := (RX6, TX6, 2)) dX6_of_2 wm_X6_18 cv_X6_fill wi_X6_fill wl_X6_fill (by omega) (Nat.le_refl _) (Nat.le_refl _) rfl rfl hM.1 (Nat.le_of_ble_eq_true rfl) (y_X6_fill d hn hns hT ho hM hd) (fun _ _ z => z.2.2.1) (fun r0 h2 z => ?_)
  obtain ⟨rfl, hm2, hf2⟩ := z
  refine xk_iconst (1) dX6_of_5 (by decide) ?_
  refine xk_istore_n dX6_of_6 (by decide) ?_
  dsimp only [xk_s1, xk_s2, xk_kill]
  refine xk_iconst (0) dX6_of_7 (by decide) ?_
  refine xk_istore_n dX6_of_8 (by decide) ?_
  dsimp only [xk_s1, xk_s2, xk_kill]
  exact l9 (s - 1) 0 1 _ h2 _ (by omega) (by decide) hm2 hf2 rfl
end
section
/-! Leaving: the static row of logarithms; what its cells hold; what it computes. Own text. -/
def logD (a : Nat) : Int32 := ([0, 0, 1, 64, 2, 4096, 65, 262144, 3, 128] : List Int32).getD a 0
theorem xk_logsLen {d mc ms : Nat} {M : xk_M} {fx : Nat → Prop} {out : Option Value → xk_H → Prop} {cs ss pc : Nat} {ls : List (Option Value)} {st : List Value} {hs : xk_H} {index : Nat} (hd : decode M.2.1 pc = .ok (.getstatic index, 3)) (hd2 : decode M.2.1 (pc + 3) = .ok (.arraylength, 1)) (hw : Cond.fieldLink M.1.cls index "PairScales$Leaving" "LOGS" "[I" ∈ xk_WS) (kk : xk_X d mc ms M fx out cs ss (pc + 4) ls (.int 10 :: st) hs) : xk_X d mc ms M fx out cs ss pc ls st hs := by
  intro G ad0 ad p l e s m args below meth c A H locs la C hf hP hD hS hl O
  obtain ⟨-, -, hZ, hT⟩ := C.2.2.2.2.2.2.2.2.2
  refine va_gets C.1 C.2.1 hZ hS C.2.2.2.2.2.1 (C.2.2.2.2.1 _ hw) (fun _ h => h) hd ?_
  refine va_tlen C.1 C.2.1 hT hS (v := 10) rfl hd2 ?_
  exact kk G ad0 ad p l e s m args below meth c A H locs la C hf hP hD hS hl ⟨O.1, xk_cs trivial O.2.1, O.2.2⟩
theorem xk_logsAt {d mc ms : Nat} {M : xk_M} {fx : Nat → Prop} {out : Option Value → xk_H → Prop} {cs ss pc : Nat} {ls : List (Option Value)} {st : List Value} {hs : xk_H} {index a : Nat} {k : Fin 4} (ha : a < 10) (hd : decode M.2.1 pc = .ok (.getstatic index, 3)) (hd2 : decode M.2.1 (pc + 3) = .ok (.lload_n k, 1)) (hd3 : decode M.2.1 (pc + 3 + 1) = .ok (.l2i, 1)) (hd4 : decode M.2.1 (pc + 3 + 1 + 1) = .ok (.iaload, 1)) (hw : Cond.fieldLink M.1.cls index "PairScales$Leaving" "LOGS" "[I" ∈ xk_WS) (hv : ls[(k : Nat)]? = some (some (.long (lN a)))) (kk : xk_X d mc ms M fx out cs ss (pc + 3 + 1 + 1 + 1) ls (.int (logD a) :: st) hs) : xk_X d mc ms M fx out cs ss pc ls st hs := by
  intro G ad0 ad p l e s m args below meth c A H locs la C hf hP hD hS hl O
  obtain ⟨-, -, hZ, hT⟩ := C.2.2.2.2.2.2.2.2.2
  refine va_gets C.1 C.2.1 hZ hS C.2.2.2.2.2.1 (C.2.2.2.2.1 _ hw) (fun _ h => h) hd ?_
  refine lv_lload_n C.1 C.2.1 hd2 rfl (xk_l_at hl hv) ?_
  refine lv_l2i C.1 C.2.1 hd3 (lN_i a) ?_
  refine va_ti C.1 C.2.1 hT hS (vp_in_nI ha (by decide)) (v := .int (logD a)) ?_ hd4 ?_
  · rw [nI_clamp (by omega)]; rfl
  exact kk G ad0 ad p l e s m args below meth c A H locs la C hf hP hD hS hl ⟨O.1, xk_cs trivial O.2.1, O.2.2⟩
/-- the pairs, in their order -/
def prs (n : Nat) : List (Nat × Nat) := (List.range n).flatMap fun i => (List.range n).filterMap fun j => if i < j then some (i, j) else none
def pu (n k : Nat) : Nat := ((prs n).getD k (0, 0)).1
def pl (n k : Nat) : Nat := ((prs n).getD k (0, 0)).2
theorem prs_ok : ∀ n, n < 7 → 2 ≤ n → ∀ k, k < n * (n - 1) / 2 → pu n k < pl n k ∧ pl n k < n := by decide +kernel
theorem np_ok : ∀ n, n < 7 → n * (n - 1) / 2 ≤ 15 := by decide
def joinG (gr : Nat → Nat) (i j : Nat) : Nat → Nat := fun x => if gr x = gr j then gr i else gr x
def joinW (gr : Nat → Nat) (wt : Nat → Int32) (i j : Nat) (lg : Int32) : Nat → Int32 := fun x => wt x + (if gr x = gr j then wt i - lg - wt j else 0)
def logW (w : tbW) (i j : Nat) : Int32 := logD (w i j).1 - logD (w i j).2
/-- settle: k pairs are still to be settled -/
def setF (w : tbW) (n : Nat) : Nat → Nat → (Nat → Nat) → (Nat → Int32) → Nat → Nat → Nat × Nat → Nat × Nat
  | 0, _, _, _, hp, sz, b => if b.1 ≤ sz then b else (sz, hp)
  | k + 1, jn, gr, wt, hp, sz, b =>
    if b.1 ≤ sz then b
    else if tH w (pu n k) (pl n k) = false then setF w n k jn gr wt hp sz b
    else if ¬ gr (pu n k) = gr (pl n k) ∧ jn + 1 < n then
      setF w n k jn gr wt (hp ||| 2 ^ k) (sz + 1) (setF w n k (jn + 1) (joinG gr (pu n k) (pl n k)) (joinW gr wt (pu n k) (pl n k) (logW w (pu n k) (pl n k))) hp sz b)
    else if gr (pu n k) = gr (pl n k) ∧ wt (pu n k) - wt (pl n k) = logW w (pu n k) (pl n k) then setF w n k jn gr wt hp sz b
    else setF w n k jn gr wt (hp ||| 2 ^ k) (sz + 1) b
theorem setF_congr (w : tbW) (n : Nat) (hn : n < 7) (h2 : 2 ≤ n) : ∀ (k jn : Nat) (gr gr' : Nat → Nat) (wt wt' : Nat → Int32) (hp sz : Nat) (b : Nat × Nat), k ≤ n * (n - 1) / 2 → (∀ x, x < n → gr x = gr' x) → (∀ x, x < n → wt x = wt' x) → setF w n k jn gr wt hp sz b = setF w n k jn gr' wt' hp sz b
  | 0, jn, gr, gr', wt, wt', hp, sz, b, _, _, _ => rfl
  | k + 1, jn, gr, gr', wt, wt', hp, sz, b, hk, h3, h4 => by
    have hpr := prs_ok n hn h2 k (by omega)
    have e1 := h3 (pu n k) (by omega)
    have e2 := h3 (pl n k) (by omega)
    have e3 := h4 (pu n k) (by omega)
    have e4 := h4 (pl n k) (by omega)
    have i1 := fun hp sz b => setF_congr w n hn h2 k jn gr gr' wt wt' hp sz b (by omega) h3 h4
    have i2 := setF_congr w n hn h2 k (jn + 1) (joinG gr (pu n k) (pl n k)) (joinG gr' (pu n k) (pl n k)) (joinW gr wt (pu n k) (pl n k) (logW w (pu n k) (pl n k))) (joinW gr' wt' (pu n k) (pl n k) (logW w (pu n k) (pl n k))) hp sz b (by omega) (fun x hx => by simp only [joinG, h3 x hx, e1, e2]) (fun x hx => by simp only [joinW, h3 x hx, h4 x hx, e2, e3, e4])
    rw [setF, setF, i2]
    simp only [i1, e1, e2, e3, e4]
/-- the cells of a Leaving at v -/
def lvA (hs : xk_H) (v n : Nat) (G : Nat → Nat → Nat) (Wt : Nat → Nat → Int32) (fw lh : Nat) : Prop :=
  hs[v]? = some (.inr (1, [.int (nI n), .int (nI (n * (n - 1) / 2)), .ref (v + 1), .ref (v + 2), .ref (v + 3), .ref (v + 4 + n), .int (nI fw), .int (nI lh)])) ∧
  (∃ f : Nat → Int32, hs[v + 1]? = some (.inl (0, n * (n - 1) / 2, .inl f)) ∧ ∀ k, k < n * (n - 1) / 2 → f k = nI (pu n k)) ∧
  (∃ f : Nat → Int32, hs[v + 2]? = some (.inl (0, n * (n - 1) / 2, .inl f)) ∧ ∀ k, k < n * (n - 1) / 2 → f k = nI (pl n k)) ∧
  hs[v + 3]? = some (.inl (3, n, .inr (.inr (.inr (.inr (fun i => if i < n then some (v + 4 + i) else none)))))) ∧
  hs[v + 4 + n]? = some (.inl (3, n, .inr (.inr (.inr (.inr (fun i => if i < n then some (v + 5 + n + i) else none)))))) ∧
  (∀ i, i < n → ∃ f : Nat → Int32, hs[v + 4 + i]? = some (.inl (0, n, .inl f)) ∧ ∀ j, j < n → f j = nI (G i j)) ∧
  (∀ i, i < n → ∃ f : Nat → Int32, hs[v + 5 + n + i]? = some (.inl (0, n, .inl f)) ∧ ∀ j, j < n → f j = Wt i j)
def lvS (v n : Nat) : Nat → Prop := fun k => v ≤ k ∧ k < v + 5 + n + n
theorem arr_inj {t n t' n' : Nat} {f f' : Nat → Int32} (h : some (.inl (t, n, .inl f) : xk_C) = some (.inl (t', n', .inl f'))) : f = f' := by
  injection h with h1; injection h1 with h1; injection h1 with _ h1; injection h1 with _ h1; injection h1
theorem lvA.putG {hs : xk_H} {v n fw lh i j : Nat} {G : Nat → Nat → Nat} {Wt : Nat → Nat → Int32} {f : Nat → Int32} {x : Nat} (h : lvA hs v n G Wt fw lh) (hi : i < n) (hf : hs[v + 4 + i]? = some (.inl (0, n, .inl f))) : lvA (hs.set (v + 4 + i) (.inl (0, n, .inl (upd f j (nI x))))) v n (fun a b => if a = i ∧ b = j then x else G a b) Wt fw lh := by
  obtain ⟨h1, ⟨f1, h2, h3⟩, ⟨f2, h4, h5⟩, h6, h7, h8, h9⟩ := h
  refine ⟨(xs_ne (by omega)).trans h1, ⟨f1, (xs_ne (by omega)).trans h2, h3⟩, ⟨f2, (xs_ne (by omega)).trans h4, h5⟩, (xs_ne (by omega)).trans h6, (xs_ne (by omega)).trans h7, fun k hk => ?_, fun k hk => ?_⟩
  · by_cases e : k = i
    · subst e
      obtain ⟨g, g1, g2⟩ := h8 k hk
      have e2 := arr_inj (hf.symm.trans g1)
      subst e2
      refine ⟨_, xs_at hf, fun b hb => ?_⟩
      by_cases e3 : b = j
      · simp [upd, e3]
      · simp [upd, e3, g2 b hb]
    · obtain ⟨g, g1, g2⟩ := h8 k hk
      exact ⟨g, (xs_ne (by omega)).trans g1, fun b hb => by simp [e, g2 b hb]⟩
  · obtain ⟨g, g1, g2⟩ := h9 k hk
    exact ⟨g, (xs_ne (by omega)).trans g1, g2⟩
theorem lvA.putW {hs : xk_H} {v n fw lh i j : Nat} {G : Nat → Nat → Nat} {Wt : Nat → Nat → Int32} {f : Nat → Int32} {x : Int32} (h : lvA hs v n G Wt fw lh) (hi : i < n) (hf : hs[v + 5 + n + i]? = some (.inl (0, n, .inl f))) : lvA (hs.set (v + 5 + n + i) (.inl (0, n, .inl (upd f j x)))) v n G (fun a b => if a = i ∧ b = j then x else Wt a b) fw lh := by
  obtain ⟨h1, ⟨f1, h2, h3⟩, ⟨f2, h4, h5⟩, h6, h7, h8, h9⟩ := h
  refine ⟨(xs_ne (by omega)).trans h1, ⟨f1, (xs_ne (by omega)).trans h2, h3⟩, ⟨f2, (xs_ne (by omega)).trans h4, h5⟩, (xs_ne (by omega)).trans h6, (xs_ne (by omega)).trans h7, fun k hk => ?_, fun k hk => ?_⟩
  · obtain ⟨g, g1, g2⟩ := h8 k hk
    exact ⟨g, (xs_ne (by omega)).trans g1, g2⟩
  · by_cases e : k = i
    · subst e
      obtain ⟨g, g1, g2⟩ := h9 k hk
      have e2 := arr_inj (hf.symm.trans g1)
      subst e2
      refine ⟨_, xs_at hf, fun b hb => ?_⟩
      by_cases e3 : b = j
      · simp [upd, e3]
      · simp [upd, e3, g2 b hb]
    · obtain ⟨g, g1, g2⟩ := h9 k hk
      exact ⟨g, (xs_ne (by omega)).trans g1, fun b hb => by simp [e, g2 b hb]⟩
theorem lvA.obj {hs : xk_H} {v n fw lh fw' lh' : Nat} {G : Nat → Nat → Nat} {Wt : Nat → Nat → Int32} (h : lvA hs v n G Wt fw lh) : lvA (hs.set v (.inr (1, [.int (nI n), .int (nI (n * (n - 1) / 2)), .ref (v + 1), .ref (v + 2), .ref (v + 3), .ref (v + 4 + n), .int (nI fw'), .int (nI lh')]))) v n G Wt fw' lh' := by
  obtain ⟨h1, ⟨f1, h2, h3⟩, ⟨f2, h4, h5⟩, h6, h7, h8, h9⟩ := h
  refine ⟨xs_at h1, ⟨f1, (xs_ne (by omega)).trans h2, h3⟩, ⟨f2, (xs_ne (by omega)).trans h4, h5⟩, (xs_ne (by omega)).trans h6, (xs_ne (by omega)).trans h7, fun k hk => ?_, fun k hk => ?_⟩
  · obtain ⟨g, g1, g2⟩ := h8 k hk
    exact ⟨g, (xs_ne (by omega)).trans g1, g2⟩
  · obtain ⟨g, g1, g2⟩ := h9 k hk
    exact ⟨g, (xs_ne (by omega)).trans g1, g2⟩
theorem lvA.to {hs : xk_H} {v n fw lh : Nat} {G G' : Nat → Nat → Nat} {Wt Wt' : Nat → Nat → Int32} (h : lvA hs v n G Wt fw lh) (e1 : ∀ a b, a < n → b < n → G a b = G' a b) (e2 : ∀ a b, a < n → b < n → Wt a b = Wt' a b) : lvA hs v n G' Wt' fw lh := by
  obtain ⟨h1, h2, h4, h6, h7, h8, h9⟩ := h
  refine ⟨h1, h2, h4, h6, h7, fun k hk => ?_, fun k hk => ?_⟩
  · obtain ⟨g, g1, g2⟩ := h8 k hk
    exact ⟨g, g1, fun j hj => by rw [g2 j hj, e1 k j hk hj]⟩
  · obtain ⟨g, g1, g2⟩ := h9 k hk
    exact ⟨g, g1, fun j hj => by rw [g2 j hj, e2 k j hk hj]⟩
theorem lvA.kept {hs h : xk_H} {v n fw lh : Nat} {G : Nat → Nat → Nat} {Wt : Nat → Nat → Int32} {S : Nat → Prop} (H : lvA hs v n G Wt fw lh) (hf : xfr S hs h) (hS : ∀ k, lvS v n k → ¬ S k) : lvA h v n G Wt fw lh := by
  obtain ⟨h1, ⟨f1, h2, h3⟩, ⟨f2, h4, h5⟩, h6, h7, h8, h9⟩ := H
  refine ⟨by rw [hf.2 _ (hS _ ⟨by omega, by omega⟩)]; exact h1, ⟨f1, by rw [hf.2 _ (hS _ ⟨by omega, by omega⟩)]; exact h2, h3⟩, ⟨f2, by rw [hf.2 _ (hS _ ⟨by omega, by omega⟩)]; exact h4, h5⟩, by rw [hf.2 _ (hS _ ⟨by omega, by omega⟩)]; exact h6, by rw [hf.2 _ (hS _ ⟨by omega, by omega⟩)]; exact h7, fun k hk => ?_, fun k hk => ?_⟩
  · obtain ⟨g, g1, g2⟩ := h8 k hk
    exact ⟨g, by rw [hf.2 _ (hS _ ⟨by omega, by omega⟩)]; exact g1, g2⟩
  · obtain ⟨g, g1, g2⟩ := h9 k hk
    exact ⟨g, by rw [hf.2 _ (hS _ ⟨by omega, by omega⟩)]; exact g1, g2⟩
end
section
/-! Leaving: logOfDigit, logOf, join. Laid by a program of our own. -/
set_option maxHeartbeats 4000000 in
set_option maxRecDepth 100000 in
theorem y_X2_logOfDigit (d : Nat) {hs : xk_H} {a : Nat} (ha : a < 10) : xk_F d mX2_logOfDigit [.long (lN a)] hs (some (.int (logD a))) hs := by
  refine xk_Y.ofX (k := 0) (ls := [some (.long (lN a)), none]) (by decide) rfl rfl ?_
  refine xk_lload_n dX2_logOfDigit_0 rfl ?_
  refine xk_lconst (0) dX2_logOfDigit_1 (by decide) ?_
  refine xk_lcmp dX2_logOfDigit_2 ?_
  refine xk_if_lt 25 dX2_logOfDigit_3 (by decide) (fun c3 => ?_) (fun c3 => ?_)
  · exact absurd ((lc_lt (a := a) (b := 0) (by omega) (by decide)).mp c3) (by omega)
  · refine xk_lload_n dX2_logOfDigit_6 rfl ?_
    refine xk_logsLen dX2_logOfDigit_7 dX2_logOfDigit_10 wf_X2_71 ?_
    refine xk_i2l dX2_logOfDigit_11 ?_
    refine xk_lcmp dX2_logOfDigit_12 ?_
    refine xk_if_ge 25 dX2_logOfDigit_13 (by decide) (fun c13 => ?_) (fun c13 => ?_)
    · exact absurd ((lc_ge (a := a) (b := 10) (by omega) (by decide)).mp c13) (by omega)
    · refine xk_logsAt ha dX2_logOfDigit_16 dX2_logOfDigit_19 dX2_logOfDigit_20 dX2_logOfDigit_21 wf_X2_71 rfl ?_
      refine xk_goto 26 dX2_logOfDigit_22 (by decide) ?_
      exact xk_iret rfl dX2_logOfDigit_26 (Nat.le_refl _) (Nat.le_refl _) ⟨rfl, rfl⟩

set_option maxHeartbeats 4000000 in
set_option maxRecDepth 100000 in
theorem y_X2_logOf (d : Nat) {hs : xk_H} {p q : Nat} (hp : p < 10) (hq : q < 10) : xk_F (d + 1) mX2_logOf [.long (fr p q)] hs (some (.int (logD p - logD q))) hs := by
  refine xk_Y.ofX (k := 0) (ls := [some (.long (fr p q)), none]) (by decide) rfl rfl ?_
  refine xk_lload_n dX2_logOf_0 rfl ?_
  refine xk_s1c (M' := mX1_top) (d' := d) dX2_logOf_1 wm_X2_59 cv_X1_top wt_X1_top (by omega) (Nat.le_refl _) (Nat.le_refl _) (Nat.le_of_ble_eq_true rfl) (y_X1_top d (by omega) (by omega)) rfl ?_
  refine xk_s1c (M' := mX2_logOfDigit) (d' := d) dX2_logOf_4 wm_X2_65 cv_X2_logOfDigit wt_X2_logOfDigit (by omega) (Nat.le_refl _) (Nat.le_refl _) (Nat.le_of_ble_eq_true rfl) (y_X2_logOfDigit d hp) rfl ?_
  refine xk_lload_n dX2_logOf_7 rfl ?_
  refine xk_s1c (M' := mX1_bottom) (d' := d) dX2_logOf_8 wm_X2_68 cv_X1_bottom wt_X1_bottom (by omega) (Nat.le_refl _) (Nat.le_refl _) (Nat.le_of_ble_eq_true rfl) (y_X1_bottom d (by omega) (by omega)) rfl ?_
  refine xk_s1c (M' := mX2_logOfDigit) (d' := d) dX2_logOf_11 wm_X2_65 cv_X2_logOfDigit wt_X2_logOfDigit (by omega) (Nat.le_refl _) (Nat.le_refl _) (Nat.le_of_ble_eq_true rfl) (y_X2_logOfDigit d hq) rfl ?_
  refine xk_isub dX2_logOf_14 ?_
  exact xk_iret rfl dX2_logOf_15 (Nat.le_refl _) (Nat.le_refl _) ⟨rfl, rfl⟩

set_option maxHeartbeats 4000000 in
set_option maxRecDepth 100000 in
/-- join: the next level's groups and worths -/
theorem y_X2_join (d : Nat) {hs : xk_H} {v n fw lh jn i j : Nat} {lg : Int32} {G : Nat → Nat → Nat} {Wt : Nat → Nat → Int32} (hn : n ≤ 6) (hL : lvA hs v n G Wt fw lh) (hj1 : jn + 1 < n) (hi : i < n) (hj : j < n) (hG : ∀ a b, G a b < 6) : xk_Y d 0 0 mX2_join false [.ref v, .int (nI jn), .int (nI i), .int (nI j), .int lg] hs (fun r' h => r' = none ∧ lvA h v n (fun a b => if a = jn + 1 then joinG (G jn) i j b else G a b) (fun a b => if a = jn + 1 then joinW (G jn) (Wt jn) i j lg b else Wt a b) fw lh ∧ xfr (lvS v n) hs h) := by
  have a1 : (nI jn).toNatClampNeg = jn := nI_clamp (by omega)
  have a2 : (nI i).toNatClampNeg = i := nI_clamp (by omega)
  have a3 : (nI j).toNatClampNeg = j := nI_clamp (by omega)
  have a4 : (nI (jn + 1)).toNatClampNeg = jn + 1 := nI_clamp (by omega)
  have b1 : vp_in (nI jn) n := vp_in_nI (by omega) (by omega)
  have b2 : vp_in (nI i) n := vp_in_nI hi (by omega)
  have b3 : vp_in (nI j) n := vp_in_nI hj (by omega)
  have b4 : vp_in (nI (jn + 1)) n := vp_in_nI hj1 (by omega)
  have g1 : (if (nI jn).toNatClampNeg < n then some (v + 4 + (nI jn).toNatClampNeg) else none) = some (v + 4 + jn) := by rw [a1, if_pos (by omega)]
  have g2 : (if (nI jn).toNatClampNeg < n then some (v + 5 + n + (nI jn).toNatClampNeg) else none) = some (v + 5 + n + jn) := by rw [a1, if_pos (by omega)]
  have g3 : (if (nI (jn + 1)).toNatClampNeg < n then some (v + 4 + (nI (jn + 1)).toNatClampNeg) else none) = some (v + 4 + (jn + 1)) := by rw [a4, if_pos hj1]
  have g4 : (if (nI (jn + 1)).toNatClampNeg < n then some (v + 5 + n + (nI (jn + 1)).toNatClampNeg) else none) = some (v + 5 + n + (jn + 1)) := by rw [a4, if_pos hj1]
  have l45 : ∀ (r x : Nat) (G1 : Nat → Nat → Nat) (W1 : Nat → Nat → Int32) (h : xk_H) (o : Option Value), x + r = n → lvA h v n G1 W1 fw lh → xfr (lvS v n) hs h → (∀ a b, a < n → b < n → G1 a b = if a = jn + 1 ∧ b < x then joinG (G jn) i j b else G a b) → (∀ a b, a < n → b < n → W1 a b = if a = jn + 1 ∧ b < x then joinW (G jn) (Wt jn) i j lg b else Wt a b) → xk_X d 0 0 mX2_join (xk_fx false hs) (fun r' h => r' = none ∧ lvA h v n (fun a b => if a = jn + 1 then joinG (G jn) i j b else G a b) (fun a b => if a = jn + 1 then joinW (G jn) (Wt jn) i j lg b else Wt a b) fw lh ∧ xfr (lvS v n) hs h) 0 0 45 [some (.ref v), some (.int (nI jn)), some (.int (nI i)), some (.int (nI j)), some (.int lg), some (.int (nI (G jn i))), some (.int (nI (G jn j))), some (.int (Wt jn i - lg - Wt jn j)), some (.int (nI x)), o] [] h := by
    intro r
    induction r with
    | zero =>
      intro x G1 W1 h o h1 hl hf p1 p2
      obtain rfl : x = n := by omega
      refine xk_iload dX2_join_45 rfl ?_
      refine xk_aload_n dX2_join_47 rfl ?_
      refine xk_get (ci := 1) (r := (RX2, TX2, 8)) 0 dX2_join_48 rfl inX2 (by decide) wf_X2_7 hl.1 rfl ?_
      refine xk_icmp_ge 143 dX2_join_51 (by decide) (fun c51 => ?_) (fun c51 => ?_)
      · exact xk_vret rfl dX2_join_143 (Nat.le_refl _) (Nat.le_refl _) ⟨rfl, hl.to (fun a b ha hb => by rw [p1 a b ha hb]; simp [hb]) (fun a b ha hb => by rw [p2 a b ha hb]; simp [hb]), hf⟩
      · exact absurd (nI_le (Nat.le_refl x) (by omega)) c51
    | succ r ih =>
      intro x G1 W1 h o h1 hl hf p1 p2
      have a5 : (nI x).toNatClampNeg = x := nI_clamp (by omega)
      have b5 : vp_in (nI x) n := vp_in_nI (by omega) (by omega)
      obtain ⟨f0, f01, f02⟩ := hl.2.2.2.2.2.1 jn (by omega)
      obtain ⟨f1, f11, f12⟩ := hl.2.2.2.2.2.1 (jn + 1) hj1
      obtain ⟨k0, k01, k02⟩ := hl.2.2.2.2.2.2 jn (by omega)
      obtain ⟨k1, k11, k12⟩ := hl.2.2.2.2.2.2 (jn + 1) hj1
      have e0 : f0 x = nI (G jn x) := by rw [f02 x (by omega), p1 jn x (by omega) (by omega), if_neg (by omega)]
      have e1 : k0 x = Wt jn x := by rw [k02 x (by omega), p2 jn x (by omega) (by omega), if_neg (by omega)]
      have hc : nI (G jn x) = nI (G jn j) ↔ G jn x = G jn j := nI_eq (by have := hG jn x; omega) (by have := hG jn j; omega)
      refine xk_iload dX2_join_45 rfl ?_
      refine xk_aload_n dX2_join_47 rfl ?_
      refine xk_get (ci := 1) (r := (RX2, TX2, 8)) 0 dX2_join_48 rfl inX2 (by decide) wf_X2_7 hl.1 rfl ?_
      refine xk_icmp_ge 143 dX2_join_51 (by decide) (fun c51 => ?_) (fun c51 => ?_)
      · exact absurd c51 (nI_ge (by omega) (by omega))
      · refine xk_aload_n dX2_join_54 rfl ?_
        refine xk_get (ci := 1) (r := (RX2, TX2, 8)) 4 dX2_join_55 rfl inX2 (by decide) wf_X2_25 hl.1 rfl ?_
        refine xk_iload_n dX2_join_58 rfl ?_
        refine xk_aaldI dX2_join_59 hl.2.2.2.1 b1 g1 ?_
        refine xk_iload dX2_join_60 rfl ?_
        refine xk_iald dX2_join_62 f01 b5 ?_
        rw [a5, e0]
        refine xk_iload dX2_join_63 rfl ?_
        refine xk_icmp_ne 72 dX2_join_65 (by decide) (fun c65 => ?_) (fun c65 => ?_)
        · have cc : ¬ G jn x = G jn j := fun q => c65 (hc.mpr q)
          refine xk_iconst (0) dX2_join_72 (by decide) ?_
          refine xk_istore dX2_join_73 (by decide) ?_
          dsimp only [xk_s1, xk_s2, xk_kill]
          refine xk_aload_n dX2_join_75 rfl ?_
          refine xk_get (ci := 1) (r := (RX2, TX2, 8)) 4 dX2_join_76 rfl inX2 (by decide) wf_X2_25 hl.1 rfl ?_
          refine xk_iload_n dX2_join_79 rfl ?_
          refine xk_iconst (1) dX2_join_80 (by decide) ?_
          refine xk_iadd dX2_join_81 ?_
          rw [nI_1]
          refine xk_aaldI dX2_join_82 hl.2.2.2.1 b4 g3 ?_
          refine xk_iload dX2_join_83 rfl ?_
          refine xk_iload dX2_join_85 rfl ?_
          refine xk_if_eq 95 dX2_join_87 (by decide) (fun c87 => ?_) (fun c87 => ?_)
          · refine xk_aload_n dX2_join_95 rfl ?_
            refine xk_get (ci := 1) (r := (RX2, TX2, 8)) 4 dX2_join_96 rfl inX2 (by decide) wf_X2_25 hl.1 rfl ?_
            refine xk_iload_n dX2_join_99 rfl ?_
            refine xk_aaldI dX2_join_100 hl.2.2.2.1 b1 g1 ?_
            refine xk_iload dX2_join_101 rfl ?_
            refine xk_iald dX2_join_103 f01 b5 ?_
            try rw [a5]
            rw [e0]
            refine xk_iast dX2_join_104 f11 b5 ?_
            try rw [a5]
            have hlG := hl.putG (j := x) (x := (G jn x)) hj1 f11
            refine xk_aload_n dX2_join_105 rfl ?_
            refine xk_get (ci := 1) (r := (RX2, TX2, 8)) 5 dX2_join_106 rfl inX2 (by decide) wf_X2_28 hlG.1 rfl ?_
            refine xk_iload_n dX2_join_109 rfl ?_
            refine xk_iconst (1) dX2_join_110 (by decide) ?_
            refine xk_iadd dX2_join_111 ?_
            rw [nI_1]
            refine xk_aaldI dX2_join_112 hlG.2.2.2.2.1 b4 g4 ?_
            refine xk_iload dX2_join_113 rfl ?_
            refine xk_aload_n dX2_join_115 rfl ?_
            refine xk_get (ci := 1) (r := (RX2, TX2, 8)) 5 dX2_join_116 rfl inX2 (by decide) wf_X2_28 hlG.1 rfl ?_
            refine xk_iload_n dX2_join_119 rfl ?_
            refine xk_aaldI dX2_join_120 hlG.2.2.2.2.1 b1 g2 ?_
            refine xk_iload dX2_join_121 rfl ?_
            refine xk_iald dX2_join_123 ((xs_ne (by omega)).trans k01) b5 ?_
            try rw [a5]
            rw [e1]
            refine xk_iload dX2_join_124 rfl ?_
            refine xk_if_eq 134 dX2_join_126 (by decide) (fun c126 => ?_) (fun c126 => ?_)
            · refine xk_iconst (0) dX2_join_134 (by decide) ?_
              refine xk_iadd dX2_join_135 ?_
              refine xk_iast dX2_join_136 ((xs_ne (by omega)).trans k11) b5 ?_
              try rw [a5]
              refine xk_iinc (nI (x + 1)) dX2_join_137 rfl (nI_1 x) (by decide) ?_
              dsimp only [xk_s1, xk_s2, xk_kill]
              refine xk_goto 45 dX2_join_140 (by decide) ?_
              have hl2 := hl.putG (j := x) (x := (G jn x)) hj1 f11
              have hl3 := hl2.putW (j := x) (x := (Wt jn x + 0)) hj1 ((xs_ne (by omega)).trans k11)
              refine ih (x + 1) _ _ _ _ (by omega) hl3 ((hf.set ⟨by omega, by omega⟩).set ⟨by omega, by omega⟩) ?_ ?_
              · intro a b ha hb
                by_cases c : a = jn + 1 ∧ b = x
                · obtain ⟨rfl, rfl⟩ := c
                  rw [if_pos ⟨rfl, rfl⟩, if_pos ⟨rfl, by omega⟩, joinG, if_neg cc]
                · rw [if_neg c, p1 a b ha hb]
                  by_cases c2 : a = jn + 1 ∧ b < x
                  · rw [if_pos c2, if_pos ⟨c2.1, by omega⟩]
                  · rw [if_neg c2, if_neg (by omega)]
              · intro a b ha hb
                by_cases c : a = jn + 1 ∧ b = x
                · obtain ⟨rfl, rfl⟩ := c
                  rw [if_pos ⟨rfl, rfl⟩, if_pos ⟨rfl, by omega⟩, joinW, if_neg cc]
                · rw [if_neg c, p2 a b ha hb]
                  by_cases c2 : a = jn + 1 ∧ b < x
                  · rw [if_pos c2, if_pos ⟨c2.1, by omega⟩]
                  · rw [if_neg c2, if_neg (by omega)]
            · exact absurd rfl c126
          · exact absurd rfl c87
        · have cc : G jn x = G jn j := hc.mp c65
          refine xk_iconst (1) dX2_join_68 (by decide) ?_
          refine xk_goto 73 dX2_join_69 (by decide) ?_
          refine xk_istore dX2_join_73 (by decide) ?_
          dsimp only [xk_s1, xk_s2, xk_kill]
          refine xk_aload_n dX2_join_75 rfl ?_
          refine xk_get (ci := 1) (r := (RX2, TX2, 8)) 4 dX2_join_76 rfl inX2 (by decide) wf_X2_25 hl.1 rfl ?_
          refine xk_iload_n dX2_join_79 rfl ?_
          refine xk_iconst (1) dX2_join_80 (by decide) ?_
          refine xk_iadd dX2_join_81 ?_
          rw [nI_1]
          refine xk_aaldI dX2_join_82 hl.2.2.2.1 b4 g3 ?_
          refine xk_iload dX2_join_83 rfl ?_
          refine xk_iload dX2_join_85 rfl ?_
          refine xk_if_eq 95 dX2_join_87 (by decide) (fun c87 => ?_) (fun c87 => ?_)
          · exact absurd c87 (by decide)
          · refine xk_iload dX2_join_90 rfl ?_
            refine xk_goto 104 dX2_join_92 (by decide) ?_
            refine xk_iast dX2_join_104 f11 b5 ?_
            try rw [a5]
            have hlG := hl.putG (j := x) (x := (G jn i)) hj1 f11
            refine xk_aload_n dX2_join_105 rfl ?_
            refine xk_get (ci := 1) (r := (RX2, TX2, 8)) 5 dX2_join_106 rfl inX2 (by decide) wf_X2_28 hlG.1 rfl ?_
            refine xk_iload_n dX2_join_109 rfl ?_
            refine xk_iconst (1) dX2_join_110 (by decide) ?_
            refine xk_iadd dX2_join_111 ?_
            rw [nI_1]
            refine xk_aaldI dX2_join_112 hlG.2.2.2.2.1 b4 g4 ?_
            refine xk_iload dX2_join_113 rfl ?_
            refine xk_aload_n dX2_join_115 rfl ?_
            refine xk_get (ci := 1) (r := (RX2, TX2, 8)) 5 dX2_join_116 rfl inX2 (by decide) wf_X2_28 hlG.1 rfl ?_
            refine xk_iload_n dX2_join_119 rfl ?_
            refine xk_aaldI dX2_join_120 hlG.2.2.2.2.1 b1 g2 ?_
            refine xk_iload dX2_join_121 rfl ?_
            refine xk_iald dX2_join_123 ((xs_ne (by omega)).trans k01) b5 ?_
            try rw [a5]
            rw [e1]
            refine xk_iload dX2_join_124 rfl ?_
            refine xk_if_eq 134 dX2_join_126 (by decide) (fun c126 => ?_) (fun c126 => ?_)
            · exact absurd c126 (by decide)
            · refine xk_iload dX2_join_129 rfl ?_
              refine xk_goto 135 dX2_join_131 (by decide) ?_
              refine xk_iadd dX2_join_135 ?_
              refine xk_iast dX2_join_136 ((xs_ne (by omega)).trans k11) b5 ?_
              try rw [a5]
              refine xk_iinc (nI (x + 1)) dX2_join_137 rfl (nI_1 x) (by decide) ?_
              dsimp only [xk_s1, xk_s2, xk_kill]
              refine xk_goto 45 dX2_join_140 (by decide) ?_
              have hl2 := hl.putG (j := x) (x := (G jn i)) hj1 f11
              have hl3 := hl2.putW (j := x) (x := (Wt jn x + (Wt jn i - lg - Wt jn j))) hj1 ((xs_ne (by omega)).trans k11)
              refine ih (x + 1) _ _ _ _ (by omega) hl3 ((hf.set ⟨by omega, by omega⟩).set ⟨by omega, by omega⟩) ?_ ?_
              · intro a b ha hb
                by_cases c : a = jn + 1 ∧ b = x
                · obtain ⟨rfl, rfl⟩ := c
                  rw [if_pos ⟨rfl, rfl⟩, if_pos ⟨rfl, by omega⟩, joinG, if_pos cc]
                · rw [if_neg c, p1 a b ha hb]
                  by_cases c2 : a = jn + 1 ∧ b < x
                  · rw [if_pos c2, if_pos ⟨c2.1, by omega⟩]
                  · rw [if_neg c2, if_neg (by omega)]
              · intro a b ha hb
                by_cases c : a = jn + 1 ∧ b = x
                · obtain ⟨rfl, rfl⟩ := c
                  rw [if_pos ⟨rfl, rfl⟩, if_pos ⟨rfl, by omega⟩, joinW, if_pos cc]
                · rw [if_neg c, p2 a b ha hb]
                  by_cases c2 : a = jn + 1 ∧ b < x
                  · rw [if_pos c2, if_pos ⟨c2.1, by omega⟩]
                  · rw [if_neg c2, if_neg (by omega)]
  obtain ⟨f0, f01, f02⟩ := hL.2.2.2.2.2.1 jn (by omega)
  obtain ⟨k0, k01, k02⟩ := hL.2.2.2.2.2.2 jn (by omega)
  refine xk_Y.ofX (k := 5) (ls := [some (.ref v), some (.int (nI jn)), some (.int (nI i)), some (.int (nI j)), some (.int lg), none, none, none, none, none]) (by decide) rfl rfl ?_
  refine xk_aload_n dX2_join_0 rfl ?_
  refine xk_get (ci := 1) (r := (RX2, TX2, 8)) 4 dX2_join_1 rfl inX2 (by decide) wf_X2_25 hL.1 rfl ?_
  refine xk_iload_n dX2_join_4 rfl ?_
  refine xk_aaldI dX2_join_5 hL.2.2.2.1 b1 g1 ?_
  refine xk_iload_n dX2_join_6 rfl ?_
  refine xk_iald dX2_join_7 f01 b2 ?_
  rw [a2, f02 i hi]
  refine xk_istore dX2_join_8 (by decide) ?_
  dsimp only [xk_s1, xk_s2, xk_kill]
  refine xk_aload_n dX2_join_10 rfl ?_
  refine xk_get (ci := 1) (r := (RX2, TX2, 8)) 4 dX2_join_11 rfl inX2 (by decide) wf_X2_25 hL.1 rfl ?_
  refine xk_iload_n dX2_join_14 rfl ?_
  refine xk_aaldI dX2_join_15 hL.2.2.2.1 b1 g1 ?_
  refine xk_iload_n dX2_join_16 rfl ?_
  refine xk_iald dX2_join_17 f01 b3 ?_
  rw [a3, f02 j hj]
  refine xk_istore dX2_join_18 (by decide) ?_
  dsimp only [xk_s1, xk_s2, xk_kill]
  refine xk_aload_n dX2_join_20 rfl ?_
  refine xk_get (ci := 1) (r := (RX2, TX2, 8)) 5 dX2_join_21 rfl inX2 (by decide) wf_X2_28 hL.1 rfl ?_
  refine xk_iload_n dX2_join_24 rfl ?_
  refine xk_aaldI dX2_join_25 hL.2.2.2.2.1 b1 g2 ?_
  refine xk_iload_n dX2_join_26 rfl ?_
  refine xk_iald dX2_join_27 k01 b2 ?_
  try rw [a2]
  rw [k02 i hi]
  refine xk_iload dX2_join_28 rfl ?_
  refine xk_isub dX2_join_30 ?_
  refine xk_aload_n dX2_join_31 rfl ?_
  refine xk_get (ci := 1) (r := (RX2, TX2, 8)) 5 dX2_join_32 rfl inX2 (by decide) wf_X2_28 hL.1 rfl ?_
  refine xk_iload_n dX2_join_35 rfl ?_
  refine xk_aaldI dX2_join_36 hL.2.2.2.2.1 b1 g2 ?_
  refine xk_iload_n dX2_join_37 rfl ?_
  refine xk_iald dX2_join_38 k01 b3 ?_
  try rw [a3]
  rw [k02 j hj]
  refine xk_isub dX2_join_39 ?_
  refine xk_istore dX2_join_40 (by decide) ?_
  dsimp only [xk_s1, xk_s2, xk_kill]
  refine xk_iconst (0) dX2_join_42 (by decide) ?_
  refine xk_istore dX2_join_43 (by decide) ?_
  dsimp only [xk_s1, xk_s2, xk_kill]
  refine l45 n 0 G Wt hs _ (by omega) hL xfr.rf (fun a b ha hb => by rw [if_neg (by omega)]) (fun a b ha hb => by rw [if_neg (by omega)])
end
section
/-! Leaving.settle: the steps of what it computes. Own text. -/
theorem nI_or (a b : Nat) : nI a ||| nI b = nI (a ||| b) := Int32.toBitVec_inj.mp (by
  rw [Int32.toBitVec_or]
  show BitVec.ofNat 32 a ||| BitVec.ofNat 32 b = BitVec.ofNat 32 (a ||| b)
  apply BitVec.eq_of_getLsbD_eq
  intro i hi
  simp [Nat.testBit_or])
theorem nI_pow : ∀ k, k < 31 → ((1 : Int32) <<< (nI k &&& 31)) = nI (2 ^ k) := by decide +kernel
theorem or_lt15 {a k : Nat} (ha : a < 32768) (hk : k < 15) : a ||| 2 ^ k < 32768 := by
  have h1 : 2 ^ k < 2 ^ 15 := Nat.pow_lt_pow_right (by decide) hk
  exact Nat.or_lt_two_pow (n := 15) ha h1
theorem setF_done {w : tbW} {n jn hp sz : Nat} {gr : Nat → Nat} {wt : Nat → Int32} {b : Nat × Nat} (h : b.1 ≤ sz) : ∀ k, setF w n k jn gr wt hp sz b = b
  | 0 => by rw [setF, if_pos h]
  | k + 1 => by rw [setF, if_pos h]
theorem setF_fst (w : tbW) (n : Nat) : ∀ (k jn : Nat) (gr : Nat → Nat) (wt : Nat → Int32) (hp sz : Nat) (b : Nat × Nat), (setF w n k jn gr wt hp sz b).1 ≤ b.1
  | 0, jn, gr, wt, hp, sz, b => by
    rw [setF]
    split
    · exact Nat.le_refl _
    · show sz ≤ b.1; omega
  | k + 1, jn, gr, wt, hp, sz, b => by
    rw [setF]
    split
    · exact Nat.le_refl _
    · split
      · exact setF_fst w n k _ _ _ _ _ _
      · split
        · exact Nat.le_trans (setF_fst w n k _ _ _ _ _ _) (setF_fst w n k _ _ _ _ _ _)
        · split
          · exact setF_fst w n k _ _ _ _ _ _
          · exact setF_fst w n k _ _ _ _ _ _
section SETF
variable {w : tbW} {n k jn hp sz : Nat} {gr : Nat → Nat} {wt : Nat → Int32} {b : Nat × Nat}
theorem setF_1 (h : ¬ b.1 ≤ sz) (h1 : tH w (pu n k) (pl n k) = false) : setF w n (k + 1) jn gr wt hp sz b = setF w n k jn gr wt hp sz b := by rw [setF, if_neg h, if_pos h1]
theorem setF_2 (h : ¬ b.1 ≤ sz) (h1 : tH w (pu n k) (pl n k) = true) (h2 : ¬ gr (pu n k) = gr (pl n k)) (h3 : jn + 1 < n) : setF w n (k + 1) jn gr wt hp sz b = setF w n k jn gr wt (hp ||| 2 ^ k) (sz + 1) (setF w n k (jn + 1) (joinG gr (pu n k) (pl n k)) (joinW gr wt (pu n k) (pl n k) (logW w (pu n k) (pl n k))) hp sz b) := by rw [setF, if_neg h, if_neg (by rw [h1]; decide), if_pos ⟨h2, h3⟩]
theorem setF_3 (h : ¬ b.1 ≤ sz) (h1 : tH w (pu n k) (pl n k) = true) (h2 : gr (pu n k) = gr (pl n k)) (h3 : wt (pu n k) - wt (pl n k) = logW w (pu n k) (pl n k)) : setF w n (k + 1) jn gr wt hp sz b = setF w n k jn gr wt hp sz b := by rw [setF, if_neg h, if_neg (by rw [h1]; decide), if_neg (fun q => q.1 h2), if_pos ⟨h2, h3⟩]
theorem setF_4 (h : ¬ b.1 ≤ sz) (h1 : tH w (pu n k) (pl n k) = true) (h2 : ¬ (¬ gr (pu n k) = gr (pl n k) ∧ jn + 1 < n)) (h3 : ¬ (gr (pu n k) = gr (pl n k) ∧ wt (pu n k) - wt (pl n k) = logW w (pu n k) (pl n k))) : setF w n (k + 1) jn gr wt hp sz b = setF w n k jn gr wt (hp ||| 2 ^ k) (sz + 1) b := by rw [setF, if_neg h, if_neg (by rw [h1]; decide), if_neg h2, if_neg h3]
end SETF
/-- what settle leaves -/
def stO (w : tbW) (n v jn : Nat) (G : Nat → Nat → Nat) (Wt : Nat → Nat → Int32) (b : Nat × Nat) (hs : xk_H) (r : Option Value) (h : xk_H) : Prop :=
  r = none ∧ (∃ (G' : Nat → Nat → Nat) (W' : Nat → Nat → Int32), lvA h v n G' W' b.1 b.2 ∧ (∀ x y, G' x y < 6) ∧ (∀ x y, x ≤ jn → y < n → G' x y = G x y ∧ W' x y = Wt x y)) ∧ xfr (lvS v n) hs h
theorem joinG_lt {gr : Nat → Nat} (h : ∀ x, gr x < 6) (i j x : Nat) : joinG gr i j x < 6 := by
  unfold joinG
  split
  · exact h i
  · exact h x
theorem joinA_lt {G : Nat → Nat → Nat} (h : ∀ x y, G x y < 6) (jn i j x y : Nat) : (if x = jn + 1 then joinG (G jn) i j y else G x y) < 6 := by
  split
  · exact joinG_lt (h jn) i j y
  · exact h x y
/-- how many are to be left out, and which -/
def leaveF (w : tbW) (n : Nat) : Nat × Nat := setF w n (n * (n - 1) / 2) 0 id (fun _ => 0) 0 0 (n * (n - 1) / 2 + 1, 0)
end
section
/-! Leaving: settle, search. Laid by a program of our own. -/
set_option maxHeartbeats 4000000 in
set_option maxRecDepth 100000 in
/-- settle, by how many pairs are still to be settled -/
theorem y_X2_settle (d : Nat) {t n fl v : Nat} {w : tbW} (hn : n ≤ 6) (h2 : 2 ≤ n) (ho : tbOK n w) (hdj : ∀ k, tbS t n k → ¬ lvS v n k) : ∀ (k jn hp sz : Nat) (G : Nat → Nat → Nat) (Wt : Nat → Nat → Int32) (fw lh : Nat) (hs : xk_H), tbA hs t n w fl → lvA hs v n G Wt fw lh → (∀ x y, G x y < 6) → k ≤ n * (n - 1) / 2 → jn < n → hp < 32768 → sz + k ≤ 15 → fw ≤ 16 →
    xk_Y (d + 3 + k) 0 0 mX2_settle false [.ref v, .ref t, .int (nI k - 1), .int (nI jn), .int (nI hp), .int (nI sz)] hs (stO w n v jn G Wt (setF w n k jn (G jn) (Wt jn) hp sz (fw, lh)) hs) := by
  intro k
  induction k with
  | zero =>
    intro jn hp sz G Wt fw lh hs hT hL hG hk hjn hhp hsz hfw
    refine xk_Y.ofX (k := 5) (ls := [some (.ref v), some (.ref t), some (.int (nI 0 - 1)), some (.int (nI jn)), some (.int (nI hp)), some (.int (nI sz)), none, none, none, none, none]) (by decide) rfl rfl ?_
    refine xk_iload dX2_settle_0 rfl ?_
    refine xk_aload_n dX2_settle_2 rfl ?_
    refine xk_get (ci := 1) (r := (RX2, TX2, 8)) 6 dX2_settle_3 rfl inX2 (by decide) wf_X2_31 hL.1 rfl ?_
    refine xk_icmp_lt 10 dX2_settle_6 (by decide) (fun c6 => ?_) (fun c6 => ?_)
    · have c7 : ¬ fw ≤ sz := fun q => absurd c6 (nI_nlt q (by omega))
      refine xk_iload_n dX2_settle_10 rfl ?_
      refine xk_if_ge 27 dX2_settle_11 (by decide) (fun c11 => ?_) (fun c11 => ?_)
      · exact absurd c11 (by decide)
      · refine xk_aload_n dX2_settle_14 rfl ?_
        refine xk_iload dX2_settle_15 rfl ?_
        refine xk_put (ci := 1) (r := (RX2, TX2, 8)) 6 tyX2 dX2_settle_17 rfl inX2 tyX2_ok nmX2 (by decide) wf_X2_31 rfl (fun _ => rfl) (fun _ => rfl) hL.1 (Nat.le_of_ble_eq_true rfl) ?_
        dsimp only [List.set]
        refine xk_aload_n dX2_settle_20 rfl ?_
        refine xk_iload dX2_settle_21 rfl ?_
        refine xk_put (ci := 1) (r := (RX2, TX2, 8)) 7 tyX2 dX2_settle_23 rfl inX2 tyX2_ok nmX2 (by decide) wf_X2_34 rfl (fun _ => rfl) (fun _ => rfl) (xs_at hL.1) (Nat.le_of_ble_eq_true rfl) ?_
        dsimp only [List.set]
        rw [List.set_set]
        exact xk_vret rfl dX2_settle_26 (Nat.le_refl _) (Nat.le_refl _) ⟨rfl, ⟨G, Wt, by rw [setF, if_neg (show ¬ (fw, lh).1 ≤ sz from c7)]; exact hL.obj, hG, fun x y _ _ => ⟨rfl, rfl⟩⟩, xfr.rf.set ⟨by omega, by omega⟩⟩
    · have c7 : fw ≤ sz := by
        rcases Nat.lt_or_ge sz fw with q | q
        · exact absurd (nI_lt q (by omega)) c6
        · exact q
      exact xk_vret rfl dX2_settle_9 (Nat.le_refl _) (Nat.le_refl _) ⟨rfl, ⟨G, Wt, by rw [setF_done (b := (fw, lh)) c7]; exact hL, hG, fun x y _ _ => ⟨rfl, rfl⟩⟩, xfr.rf⟩
  | succ k ih =>
    intro jn hp sz G Wt fw lh hs hT hL hG hk hjn hhp hsz hfw
    have hnp := np_ok n (by omega)
    have hpr := prs_ok n (by omega) h2 k (by omega)
    obtain ⟨f1, f11, f12⟩ := hL.2.1
    obtain ⟨f2, f21, f22⟩ := hL.2.2.1
    obtain ⟨gf, gf1, gf2⟩ := hL.2.2.2.2.2.1 jn hjn
    obtain ⟨wf, wf1, wf2⟩ := hL.2.2.2.2.2.2 jn hjn
    have a0 : (nI k).toNatClampNeg = k := nI_clamp (by omega)
    have a1 : (nI jn).toNatClampNeg = jn := nI_clamp (by omega)
    have a2 : (nI (pu n k)).toNatClampNeg = pu n k := nI_clamp (by omega)
    have a3 : (nI (pl n k)).toNatClampNeg = pl n k := nI_clamp (by omega)
    have b0 : vp_in (nI k) (n * (n - 1) / 2) := vp_in_nI (by omega) (by omega)
    have b1 : vp_in (nI jn) n := vp_in_nI hjn (by omega)
    have b2 : vp_in (nI (pu n k)) n := vp_in_nI (by omega) (by omega)
    have b3 : vp_in (nI (pl n k)) n := vp_in_nI (by omega) (by omega)
    have g1 : (if (nI jn).toNatClampNeg < n then some (v + 4 + (nI jn).toNatClampNeg) else none) = some (v + 4 + jn) := by rw [a1, if_pos hjn]
    have g2 : (if (nI jn).toNatClampNeg < n then some (v + 5 + n + (nI jn).toNatClampNeg) else none) = some (v + 5 + n + jn) := by rw [a1, if_pos hjn]
    have eH := tHas_H (w := w) hn (show pu n k < n by omega) (show pl n k < n by omega)
    have eL := tLow_nI (w := w) hn (show pu n k < n by omega) (show pl n k < n by omega) (show pu n k ≠ pl n k by omega)
    have dg := ho.lt (show pu n k < n by omega) (show pl n k < n by omega)
    have hc : nI (G jn (pu n k)) = nI (G jn (pl n k)) ↔ G jn (pu n k) = G jn (pl n k) := nI_eq (by have := hG jn (pu n k); omega) (by have := hG jn (pl n k); omega)
    have hor : nI hp ||| ((1 : Int32) <<< (nI k &&& 31)) = nI (hp ||| 2 ^ k) := by rw [nI_pow k (by omega), nI_or]
    rw [nI_pred]
    refine xk_Y.ofX (k := 5) (ls := [some (.ref v), some (.ref t), some (.int (nI k)), some (.int (nI jn)), some (.int (nI hp)), some (.int (nI sz)), none, none, none, none, none]) (by decide) rfl rfl ?_
    refine xk_iload dX2_settle_0 rfl ?_
    refine xk_aload_n dX2_settle_2 rfl ?_
    refine xk_get (ci := 1) (r := (RX2, TX2, 8)) 6 dX2_settle_3 rfl inX2 (by decide) wf_X2_31 hL.1 rfl ?_
    refine xk_icmp_lt 10 dX2_settle_6 (by decide) (fun c6 => ?_) (fun c6 => ?_)
    · have c7 : ¬ (fw, lh).1 ≤ sz := fun q => absurd c6 (nI_nlt q (by omega))
      refine xk_iload_n dX2_settle_10 rfl ?_
      refine xk_if_ge 27 dX2_settle_11 (by decide) (fun c11 => ?_) (fun c11 => ?_)
      · refine xk_aload_n dX2_settle_27 rfl ?_
        refine xk_get (ci := 1) (r := (RX2, TX2, 8)) 2 dX2_settle_28 rfl inX2 (by decide) wf_X2_16 hL.1 rfl ?_
        refine xk_iload_n dX2_settle_31 rfl ?_
        refine xk_iald dX2_settle_32 f11 b0 ?_
        rw [a0, f12 k (by omega)]
        refine xk_istore dX2_settle_33 (by decide) ?_
        dsimp only [xk_s1, xk_s2, xk_kill]
        refine xk_aload_n dX2_settle_35 rfl ?_
        refine xk_get (ci := 1) (r := (RX2, TX2, 8)) 3 dX2_settle_36 rfl inX2 (by decide) wf_X2_20 hL.1 rfl ?_
        refine xk_iload_n dX2_settle_39 rfl ?_
        refine xk_iald dX2_settle_40 f21 b0 ?_
        try rw [a0]
        rw [f22 k (by omega)]
        refine xk_istore dX2_settle_41 (by decide) ?_
        dsimp only [xk_s1, xk_s2, xk_kill]
        refine xk_aload_n dX2_settle_43 rfl ?_
        refine xk_iload dX2_settle_44 rfl ?_
        refine xk_iload dX2_settle_46 rfl ?_
        refine xk_v2 (M' := mX5_holds)  (ci := 4) (r0 := (RX5, TX5, 3)) dX2_settle_48 wm_X2_41 cv_X5_holds wi_X5_holds wl_X5_holds (by omega) (Nat.le_refl _) (Nat.le_refl _) rfl rfl hT.1 (Nat.le_of_ble_eq_true rfl) (y_X5_holds (d + k + 1) hn hT ho) rfl ?_
        refine xk_ifb_ne 68 dX2_settle_51 (by decide) (fun c51 => ?_) (fun c51 => ?_)
        · rw [eH] at c51
          refine xk_aload_n dX2_settle_68 rfl ?_
          refine xk_iload dX2_settle_69 rfl ?_
          refine xk_iload dX2_settle_71 rfl ?_
          refine xk_v2 (M' := mX5_low)  (ci := 4) (r0 := (RX5, TX5, 3)) dX2_settle_73 wm_X2_47 cv_X5_low wi_X5_low wl_X5_low (by omega) (Nat.le_refl _) (Nat.le_refl _) rfl rfl hT.1 (Nat.le_of_ble_eq_true rfl) (y_X5_low (d + k + 1) hn hT) rfl ?_
          rw [eL]
          refine xk_s1c (M' := mX2_logOf)  dX2_settle_76 wm_X2_51 cv_X2_logOf wt_X2_logOf (by omega) (Nat.le_refl _) (Nat.le_refl _) (Nat.le_of_ble_eq_true rfl) (y_X2_logOf (d + k + 1) (by omega) (by omega)) rfl ?_
          refine xk_istore dX2_settle_79 (by decide) ?_
          dsimp only [xk_s1, xk_s2, xk_kill]
          refine xk_aload_n dX2_settle_81 rfl ?_
          refine xk_get (ci := 1) (r := (RX2, TX2, 8)) 4 dX2_settle_82 rfl inX2 (by decide) wf_X2_25 hL.1 rfl ?_
          refine xk_iload_n dX2_settle_85 rfl ?_
          refine xk_aaldI dX2_settle_86 hL.2.2.2.1 b1 g1 ?_
          refine xk_iload dX2_settle_87 rfl ?_
          refine xk_iald dX2_settle_89 gf1 b2 ?_
          rw [a2, gf2 _ (by omega)]
          refine xk_aload_n dX2_settle_90 rfl ?_
          refine xk_get (ci := 1) (r := (RX2, TX2, 8)) 4 dX2_settle_91 rfl inX2 (by decide) wf_X2_25 hL.1 rfl ?_
          refine xk_iload_n dX2_settle_94 rfl ?_
          refine xk_aaldI dX2_settle_95 hL.2.2.2.1 b1 g1 ?_
          refine xk_iload dX2_settle_96 rfl ?_
          refine xk_iald dX2_settle_98 gf1 b3 ?_
          rw [a3, gf2 _ (by omega)]
          refine xk_icmp_ne 106 dX2_settle_99 (by decide) (fun c99 => ?_) (fun c99 => ?_)
          · have c99 : ¬ G jn (pu n k) = G jn (pl n k) := fun q => c99 (hc.mpr q)
            refine xk_iconst (0) dX2_settle_106 (by decide) ?_
            refine xk_istore dX2_settle_107 (by decide) ?_
            dsimp only [xk_s1, xk_s2, xk_kill]
            refine xk_aload_n dX2_settle_109 rfl ?_
            refine xk_get (ci := 1) (r := (RX2, TX2, 8)) 5 dX2_settle_110 rfl inX2 (by decide) wf_X2_28 hL.1 rfl ?_
            refine xk_iload_n dX2_settle_113 rfl ?_
            refine xk_aaldI dX2_settle_114 hL.2.2.2.2.1 b1 g2 ?_
            refine xk_iload dX2_settle_115 rfl ?_
            refine xk_iald dX2_settle_117 wf1 b2 ?_
            try rw [a2]
            rw [wf2 _ (by omega)]
            refine xk_aload_n dX2_settle_118 rfl ?_
            refine xk_get (ci := 1) (r := (RX2, TX2, 8)) 5 dX2_settle_119 rfl inX2 (by decide) wf_X2_28 hL.1 rfl ?_
            refine xk_iload_n dX2_settle_122 rfl ?_
            refine xk_aaldI dX2_settle_123 hL.2.2.2.2.1 b1 g2 ?_
            refine xk_iload dX2_settle_124 rfl ?_
            refine xk_iald dX2_settle_126 wf1 b3 ?_
            try rw [a3]
            rw [wf2 _ (by omega)]
            refine xk_isub dX2_settle_127 ?_
            refine xk_iload dX2_settle_128 rfl ?_
            refine xk_icmp_ne 137 dX2_settle_130 (by decide) (fun c130 => ?_) (fun c130 => ?_)
            · have c130 : ¬ Wt jn (pu n k) - Wt jn (pl n k) = logW w (pu n k) (pl n k) := c130
              refine xk_iconst (0) dX2_settle_137 (by decide) ?_
              refine xk_istore dX2_settle_138 (by decide) ?_
              dsimp only [xk_s1, xk_s2, xk_kill]
              refine xk_iload dX2_settle_140 rfl ?_
              refine xk_if_ne 184 dX2_settle_142 (by decide) (fun c142 => ?_) (fun c142 => ?_)
              · exact absurd rfl c142
              · refine xk_iload_n dX2_settle_145 rfl ?_
                refine xk_iconst (1) dX2_settle_146 (by decide) ?_
                refine xk_iadd dX2_settle_147 ?_
                rw [nI_1]
                refine xk_aload_n dX2_settle_148 rfl ?_
                refine xk_get (ci := 1) (r := (RX2, TX2, 8)) 0 dX2_settle_149 rfl inX2 (by decide) wf_X2_7 hL.1 rfl ?_
                refine xk_icmp_ge 184 dX2_settle_152 (by decide) (fun c152 => ?_) (fun c152 => ?_)
                · have c152 : ¬ jn + 1 < n := fun q => absurd c152 (nI_ge q (by omega))
                  refine xk_iload dX2_settle_184 rfl ?_
                  refine xk_if_eq 208 dX2_settle_186 (by decide) (fun c186 => ?_) (fun c186 => ?_)
                  · refine xk_aload_n dX2_settle_208 rfl ?_
                    refine xk_aload_n dX2_settle_209 rfl ?_
                    refine xk_iload_n dX2_settle_210 rfl ?_
                    refine xk_iconst (1) dX2_settle_211 (by decide) ?_
                    refine xk_isub dX2_settle_212 ?_
                    refine xk_iload_n dX2_settle_213 rfl ?_
                    refine xk_iload dX2_settle_214 rfl ?_
                    refine xk_iconst (1) dX2_settle_216 (by decide) ?_
                    refine xk_iload_n dX2_settle_217 rfl ?_
                    refine xk_ishl dX2_settle_218 ?_
                    refine xk_ior dX2_settle_219 ?_
                    rw [hor]
                    refine xk_iload dX2_settle_220 rfl ?_
                    refine xk_iconst (1) dX2_settle_222 (by decide) ?_
                    refine xk_iadd dX2_settle_223 ?_
                    rw [nI_1]
                    refine xk_callV5 (M' := mX2_settle) (ci := 1) (r0 := (RX2, TX2, 8)) dX2_settle_224 wm_X2_37 cv_X2_settle wi_X2_settle wl_X2_settle (by omega) (Nat.le_refl _) (Nat.le_refl _) rfl rfl hL.1 (Nat.le_of_ble_eq_true rfl) (ih jn (hp ||| 2 ^ k) (sz + 1) G Wt fw lh hs hT hL hG (by omega) (by omega) (or_lt15 hhp (by omega)) (by omega) hfw) (fun _ _ z => z.2.2.1) (fun r0 hz z => ?_)
                    obtain ⟨rfl, ⟨G3, W3, z1, z2, z3⟩, z4⟩ := z
                    refine xk_vret rfl dX2_settle_227 (Nat.le_refl _) (Nat.le_refl _) ⟨rfl, ⟨G3, W3, ?_, z2, z3⟩, z4⟩
                    first
                    | (rw [setF_4 (b := (fw, lh)) c7 c51 (fun q => c152 q.2) (fun q => c99 q.1)]; exact z1)
                    | (rw [setF_4 (b := (fw, lh)) c7 c51 (fun q => q.1 c99) (fun q => c130 q.2)]; exact z1)
                  · exact absurd rfl c186
                · have c152 : jn + 1 < n := by
                    rcases Nat.lt_or_ge (jn + 1) n with q | q
                    · exact q
                    · exact absurd (nI_le q (by omega)) c152
                  refine xk_aload_n dX2_settle_155 rfl ?_
                  refine xk_iload_n dX2_settle_156 rfl ?_
                  refine xk_iload dX2_settle_157 rfl ?_
                  refine xk_iload dX2_settle_159 rfl ?_
                  refine xk_iload dX2_settle_161 rfl ?_
                  refine xk_callV4 (M' := mX2_join) (ci := 1) (r0 := (RX2, TX2, 8)) dX2_settle_163 wm_X2_55 cv_X2_join wi_X2_join wl_X2_join (by omega) (Nat.le_refl _) (Nat.le_refl _) rfl rfl hL.1 (Nat.le_of_ble_eq_true rfl) (y_X2_join d hn hL c152 (by omega) (by omega) hG) (fun _ _ z => z.2.2.1) (fun r0 hz z => ?_)
                  obtain ⟨rfl, hL1, hf1⟩ := z
                  have hT1 := hT.kept hf1 hdj
                  refine xk_aload_n dX2_settle_166 rfl ?_
                  refine xk_aload_n dX2_settle_167 rfl ?_
                  refine xk_iload_n dX2_settle_168 rfl ?_
                  refine xk_iconst (1) dX2_settle_169 (by decide) ?_
                  refine xk_isub dX2_settle_170 ?_
                  refine xk_iload_n dX2_settle_171 rfl ?_
                  refine xk_iconst (1) dX2_settle_172 (by decide) ?_
                  refine xk_iadd dX2_settle_173 ?_
                  rw [nI_1]
                  refine xk_iload dX2_settle_174 rfl ?_
                  refine xk_iload dX2_settle_176 rfl ?_
                  refine xk_callV5 (M' := mX2_settle) (ci := 1) (r0 := (RX2, TX2, 8)) dX2_settle_178 wm_X2_37 cv_X2_settle wi_X2_settle wl_X2_settle (by omega) (Nat.le_refl _) (Nat.le_refl _) rfl rfl hL1.1 (Nat.le_of_ble_eq_true rfl) (ih (jn + 1) hp sz _ _ fw lh _ hT1 hL1 (fun x y => joinA_lt hG jn _ _ x y) (by omega) (by omega) hhp (by omega) hfw) (fun _ _ z => z.2.2.1) (fun r0 h2z z => ?_)
                  obtain ⟨rfl, ⟨G3, W3, hL2, hG2, hS2⟩, hf2⟩ := z
                  have hT2 := hT1.kept hf2 hdj
                  have e3 : (setF w n k (jn + 1) (fun b => if jn + 1 = jn + 1 then joinG (G jn) (pu n k) (pl n k) b else G (jn + 1) b) (fun b => if jn + 1 = jn + 1 then joinW (G jn) (Wt jn) (pu n k) (pl n k) (logW w (pu n k) (pl n k)) b else Wt (jn + 1) b) hp sz (fw, lh)) = setF w n k (jn + 1) (joinG (G jn) (pu n k) (pl n k)) (joinW (G jn) (Wt jn) (pu n k) (pl n k) (logW w (pu n k) (pl n k))) hp sz (fw, lh) := by simp
                  have hL2 := e3 ▸ hL2
                  have hfs := setF_fst w n k (jn + 1) (joinG (G jn) (pu n k) (pl n k)) (joinW (G jn) (Wt jn) (pu n k) (pl n k) (logW w (pu n k) (pl n k))) hp sz (fw, lh)
                  refine xk_goto 208 dX2_settle_181 (by decide) ?_
                  refine xk_aload_n dX2_settle_208 rfl ?_
                  refine xk_aload_n dX2_settle_209 rfl ?_
                  refine xk_iload_n dX2_settle_210 rfl ?_
                  refine xk_iconst (1) dX2_settle_211 (by decide) ?_
                  refine xk_isub dX2_settle_212 ?_
                  refine xk_iload_n dX2_settle_213 rfl ?_
                  refine xk_iload dX2_settle_214 rfl ?_
                  refine xk_iconst (1) dX2_settle_216 (by decide) ?_
                  refine xk_iload_n dX2_settle_217 rfl ?_
                  refine xk_ishl dX2_settle_218 ?_
                  refine xk_ior dX2_settle_219 ?_
                  rw [hor]
                  refine xk_iload dX2_settle_220 rfl ?_
                  refine xk_iconst (1) dX2_settle_222 (by decide) ?_
                  refine xk_iadd dX2_settle_223 ?_
                  rw [nI_1]
                  refine xk_callV5 (M' := mX2_settle) (ci := 1) (r0 := (RX2, TX2, 8)) dX2_settle_224 wm_X2_37 cv_X2_settle wi_X2_settle wl_X2_settle (by omega) (Nat.le_refl _) (Nat.le_refl _) rfl rfl hL2.1 (Nat.le_of_ble_eq_true rfl) (ih jn (hp ||| 2 ^ k) (sz + 1) G3 W3 _ _ _ hT2 hL2 hG2 (by omega) (by omega) (or_lt15 hhp (by omega)) (by omega) (by dsimp only at hfs; omega)) (fun _ _ z => z.2.2.1) (fun r0 hz z => ?_)
                  obtain ⟨rfl, ⟨G4, W4, z1, z2, z3⟩, z4⟩ := z
                  refine xk_vret rfl dX2_settle_227 (Nat.le_refl _) (Nat.le_refl _) ⟨rfl, ⟨G4, W4, ?_, z2, fun x y hx hy => ?_⟩, (hf1.tr hf2).tr z4⟩
                  · rw [setF_2 (b := (fw, lh)) c7 c51 c99 c152]
                    rw [setF_congr w n (by omega) h2 k jn (G3 jn) (G jn) (W3 jn) (Wt jn) (hp ||| 2 ^ k) (sz + 1) _ (by omega) (fun x hx => by have := (hS2 jn x (by omega) hx).1; simpa using this) (fun x hx => by have := (hS2 jn x (by omega) hx).2; simpa using this)] at z1
                    exact z1
                  · have q1 := z3 x y hx hy
                    have q2 := hS2 x y (by omega) hy
                    dsimp only at q2
                    rw [if_neg (by omega), if_neg (by omega)] at q2
                    exact ⟨q1.1.trans q2.1, q1.2.trans q2.2⟩
            · have c130 : Wt jn (pu n k) - Wt jn (pl n k) = logW w (pu n k) (pl n k) := c130
              refine xk_iconst (1) dX2_settle_133 (by decide) ?_
              refine xk_goto 138 dX2_settle_134 (by decide) ?_
              refine xk_istore dX2_settle_138 (by decide) ?_
              dsimp only [xk_s1, xk_s2, xk_kill]
              refine xk_iload dX2_settle_140 rfl ?_
              refine xk_if_ne 184 dX2_settle_142 (by decide) (fun c142 => ?_) (fun c142 => ?_)
              · exact absurd rfl c142
              · refine xk_iload_n dX2_settle_145 rfl ?_
                refine xk_iconst (1) dX2_settle_146 (by decide) ?_
                refine xk_iadd dX2_settle_147 ?_
                rw [nI_1]
                refine xk_aload_n dX2_settle_148 rfl ?_
                refine xk_get (ci := 1) (r := (RX2, TX2, 8)) 0 dX2_settle_149 rfl inX2 (by decide) wf_X2_7 hL.1 rfl ?_
                refine xk_icmp_ge 184 dX2_settle_152 (by decide) (fun c152 => ?_) (fun c152 => ?_)
                · have c152 : ¬ jn + 1 < n := fun q => absurd c152 (nI_ge q (by omega))
                  refine xk_iload dX2_settle_184 rfl ?_
                  refine xk_if_eq 208 dX2_settle_186 (by decide) (fun c186 => ?_) (fun c186 => ?_)
                  · refine xk_aload_n dX2_settle_208 rfl ?_
                    refine xk_aload_n dX2_settle_209 rfl ?_
                    refine xk_iload_n dX2_settle_210 rfl ?_
                    refine xk_iconst (1) dX2_settle_211 (by decide) ?_
                    refine xk_isub dX2_settle_212 ?_
                    refine xk_iload_n dX2_settle_213 rfl ?_
                    refine xk_iload dX2_settle_214 rfl ?_
                    refine xk_iconst (1) dX2_settle_216 (by decide) ?_
                    refine xk_iload_n dX2_settle_217 rfl ?_
                    refine xk_ishl dX2_settle_218 ?_
                    refine xk_ior dX2_settle_219 ?_
                    rw [hor]
                    refine xk_iload dX2_settle_220 rfl ?_
                    refine xk_iconst (1) dX2_settle_222 (by decide) ?_
                    refine xk_iadd dX2_settle_223 ?_
                    rw [nI_1]
                    refine xk_callV5 (M' := mX2_settle) (ci := 1) (r0 := (RX2, TX2, 8)) dX2_settle_224 wm_X2_37 cv_X2_settle wi_X2_settle wl_X2_settle (by omega) (Nat.le_refl _) (Nat.le_refl _) rfl rfl hL.1 (Nat.le_of_ble_eq_true rfl) (ih jn (hp ||| 2 ^ k) (sz + 1) G Wt fw lh hs hT hL hG (by omega) (by omega) (or_lt15 hhp (by omega)) (by omega) hfw) (fun _ _ z => z.2.2.1) (fun r0 hz z => ?_)
                    obtain ⟨rfl, ⟨G3, W3, z1, z2, z3⟩, z4⟩ := z
                    refine xk_vret rfl dX2_settle_227 (Nat.le_refl _) (Nat.le_refl _) ⟨rfl, ⟨G3, W3, ?_, z2, z3⟩, z4⟩
                    first
                    | (rw [setF_4 (b := (fw, lh)) c7 c51 (fun q => c152 q.2) (fun q => c99 q.1)]; exact z1)
                    | (rw [setF_4 (b := (fw, lh)) c7 c51 (fun q => q.1 c99) (fun q => c130 q.2)]; exact z1)
                  · exact absurd rfl c186
                · have c152 : jn + 1 < n := by
                    rcases Nat.lt_or_ge (jn + 1) n with q | q
                    · exact q
                    · exact absurd (nI_le q (by omega)) c152
                  refine xk_aload_n dX2_settle_155 rfl ?_
                  refine xk_iload_n dX2_settle_156 rfl ?_
                  refine xk_iload dX2_settle_157 rfl ?_
                  refine xk_iload dX2_settle_159 rfl ?_
                  refine xk_iload dX2_settle_161 rfl ?_
                  refine xk_callV4 (M' := mX2_join) (ci := 1) (r0 := (RX2, TX2, 8)) dX2_settle_163 wm_X2_55 cv_X2_join wi_X2_join wl_X2_join (by omega) (Nat.le_refl _) (Nat.le_refl _) rfl rfl hL.1 (Nat.le_of_ble_eq_true rfl) (y_X2_join d hn hL c152 (by omega) (by omega) hG) (fun _ _ z => z.2.2.1) (fun r0 hz z => ?_)
                  obtain ⟨rfl, hL1, hf1⟩ := z
                  have hT1 := hT.kept hf1 hdj
                  refine xk_aload_n dX2_settle_166 rfl ?_
                  refine xk_aload_n dX2_settle_167 rfl ?_
                  refine xk_iload_n dX2_settle_168 rfl ?_
                  refine xk_iconst (1) dX2_settle_169 (by decide) ?_
                  refine xk_isub dX2_settle_170 ?_
                  refine xk_iload_n dX2_settle_171 rfl ?_
                  refine xk_iconst (1) dX2_settle_172 (by decide) ?_
                  refine xk_iadd dX2_settle_173 ?_
                  rw [nI_1]
                  refine xk_iload dX2_settle_174 rfl ?_
                  refine xk_iload dX2_settle_176 rfl ?_
                  refine xk_callV5 (M' := mX2_settle) (ci := 1) (r0 := (RX2, TX2, 8)) dX2_settle_178 wm_X2_37 cv_X2_settle wi_X2_settle wl_X2_settle (by omega) (Nat.le_refl _) (Nat.le_refl _) rfl rfl hL1.1 (Nat.le_of_ble_eq_true rfl) (ih (jn + 1) hp sz _ _ fw lh _ hT1 hL1 (fun x y => joinA_lt hG jn _ _ x y) (by omega) (by omega) hhp (by omega) hfw) (fun _ _ z => z.2.2.1) (fun r0 h2z z => ?_)
                  obtain ⟨rfl, ⟨G3, W3, hL2, hG2, hS2⟩, hf2⟩ := z
                  have hT2 := hT1.kept hf2 hdj
                  have e3 : (setF w n k (jn + 1) (fun b => if jn + 1 = jn + 1 then joinG (G jn) (pu n k) (pl n k) b else G (jn + 1) b) (fun b => if jn + 1 = jn + 1 then joinW (G jn) (Wt jn) (pu n k) (pl n k) (logW w (pu n k) (pl n k)) b else Wt (jn + 1) b) hp sz (fw, lh)) = setF w n k (jn + 1) (joinG (G jn) (pu n k) (pl n k)) (joinW (G jn) (Wt jn) (pu n k) (pl n k) (logW w (pu n k) (pl n k))) hp sz (fw, lh) := by simp
                  have hL2 := e3 ▸ hL2
                  have hfs := setF_fst w n k (jn + 1) (joinG (G jn) (pu n k) (pl n k)) (joinW (G jn) (Wt jn) (pu n k) (pl n k) (logW w (pu n k) (pl n k))) hp sz (fw, lh)
                  refine xk_goto 208 dX2_settle_181 (by decide) ?_
                  refine xk_aload_n dX2_settle_208 rfl ?_
                  refine xk_aload_n dX2_settle_209 rfl ?_
                  refine xk_iload_n dX2_settle_210 rfl ?_
                  refine xk_iconst (1) dX2_settle_211 (by decide) ?_
                  refine xk_isub dX2_settle_212 ?_
                  refine xk_iload_n dX2_settle_213 rfl ?_
                  refine xk_iload dX2_settle_214 rfl ?_
                  refine xk_iconst (1) dX2_settle_216 (by decide) ?_
                  refine xk_iload_n dX2_settle_217 rfl ?_
                  refine xk_ishl dX2_settle_218 ?_
                  refine xk_ior dX2_settle_219 ?_
                  rw [hor]
                  refine xk_iload dX2_settle_220 rfl ?_
                  refine xk_iconst (1) dX2_settle_222 (by decide) ?_
                  refine xk_iadd dX2_settle_223 ?_
                  rw [nI_1]
                  refine xk_callV5 (M' := mX2_settle) (ci := 1) (r0 := (RX2, TX2, 8)) dX2_settle_224 wm_X2_37 cv_X2_settle wi_X2_settle wl_X2_settle (by omega) (Nat.le_refl _) (Nat.le_refl _) rfl rfl hL2.1 (Nat.le_of_ble_eq_true rfl) (ih jn (hp ||| 2 ^ k) (sz + 1) G3 W3 _ _ _ hT2 hL2 hG2 (by omega) (by omega) (or_lt15 hhp (by omega)) (by omega) (by dsimp only at hfs; omega)) (fun _ _ z => z.2.2.1) (fun r0 hz z => ?_)
                  obtain ⟨rfl, ⟨G4, W4, z1, z2, z3⟩, z4⟩ := z
                  refine xk_vret rfl dX2_settle_227 (Nat.le_refl _) (Nat.le_refl _) ⟨rfl, ⟨G4, W4, ?_, z2, fun x y hx hy => ?_⟩, (hf1.tr hf2).tr z4⟩
                  · rw [setF_2 (b := (fw, lh)) c7 c51 c99 c152]
                    rw [setF_congr w n (by omega) h2 k jn (G3 jn) (G jn) (W3 jn) (Wt jn) (hp ||| 2 ^ k) (sz + 1) _ (by omega) (fun x hx => by have := (hS2 jn x (by omega) hx).1; simpa using this) (fun x hx => by have := (hS2 jn x (by omega) hx).2; simpa using this)] at z1
                    exact z1
                  · have q1 := z3 x y hx hy
                    have q2 := hS2 x y (by omega) hy
                    dsimp only at q2
                    rw [if_neg (by omega), if_neg (by omega)] at q2
                    exact ⟨q1.1.trans q2.1, q1.2.trans q2.2⟩
          · have c99 := hc.mp c99
            refine xk_iconst (1) dX2_settle_102 (by decide) ?_
            refine xk_goto 107 dX2_settle_103 (by decide) ?_
            refine xk_istore dX2_settle_107 (by decide) ?_
            dsimp only [xk_s1, xk_s2, xk_kill]
            refine xk_aload_n dX2_settle_109 rfl ?_
            refine xk_get (ci := 1) (r := (RX2, TX2, 8)) 5 dX2_settle_110 rfl inX2 (by decide) wf_X2_28 hL.1 rfl ?_
            refine xk_iload_n dX2_settle_113 rfl ?_
            refine xk_aaldI dX2_settle_114 hL.2.2.2.2.1 b1 g2 ?_
            refine xk_iload dX2_settle_115 rfl ?_
            refine xk_iald dX2_settle_117 wf1 b2 ?_
            try rw [a2]
            rw [wf2 _ (by omega)]
            refine xk_aload_n dX2_settle_118 rfl ?_
            refine xk_get (ci := 1) (r := (RX2, TX2, 8)) 5 dX2_settle_119 rfl inX2 (by decide) wf_X2_28 hL.1 rfl ?_
            refine xk_iload_n dX2_settle_122 rfl ?_
            refine xk_aaldI dX2_settle_123 hL.2.2.2.2.1 b1 g2 ?_
            refine xk_iload dX2_settle_124 rfl ?_
            refine xk_iald dX2_settle_126 wf1 b3 ?_
            try rw [a3]
            rw [wf2 _ (by omega)]
            refine xk_isub dX2_settle_127 ?_
            refine xk_iload dX2_settle_128 rfl ?_
            refine xk_icmp_ne 137 dX2_settle_130 (by decide) (fun c130 => ?_) (fun c130 => ?_)
            · have c130 : ¬ Wt jn (pu n k) - Wt jn (pl n k) = logW w (pu n k) (pl n k) := c130
              refine xk_iconst (0) dX2_settle_137 (by decide) ?_
              refine xk_istore dX2_settle_138 (by decide) ?_
              dsimp only [xk_s1, xk_s2, xk_kill]
              refine xk_iload dX2_settle_140 rfl ?_
              refine xk_if_ne 184 dX2_settle_142 (by decide) (fun c142 => ?_) (fun c142 => ?_)
              · refine xk_iload dX2_settle_184 rfl ?_
                refine xk_if_eq 208 dX2_settle_186 (by decide) (fun c186 => ?_) (fun c186 => ?_)
                · exact absurd c186 (by decide)
                · refine xk_iload dX2_settle_189 rfl ?_
                  refine xk_if_eq 208 dX2_settle_191 (by decide) (fun c191 => ?_) (fun c191 => ?_)
                  · refine xk_aload_n dX2_settle_208 rfl ?_
                    refine xk_aload_n dX2_settle_209 rfl ?_
                    refine xk_iload_n dX2_settle_210 rfl ?_
                    refine xk_iconst (1) dX2_settle_211 (by decide) ?_
                    refine xk_isub dX2_settle_212 ?_
                    refine xk_iload_n dX2_settle_213 rfl ?_
                    refine xk_iload dX2_settle_214 rfl ?_
                    refine xk_iconst (1) dX2_settle_216 (by decide) ?_
                    refine xk_iload_n dX2_settle_217 rfl ?_
                    refine xk_ishl dX2_settle_218 ?_
                    refine xk_ior dX2_settle_219 ?_
                    rw [hor]
                    refine xk_iload dX2_settle_220 rfl ?_
                    refine xk_iconst (1) dX2_settle_222 (by decide) ?_
                    refine xk_iadd dX2_settle_223 ?_
                    rw [nI_1]
                    refine xk_callV5 (M' := mX2_settle) (ci := 1) (r0 := (RX2, TX2, 8)) dX2_settle_224 wm_X2_37 cv_X2_settle wi_X2_settle wl_X2_settle (by omega) (Nat.le_refl _) (Nat.le_refl _) rfl rfl hL.1 (Nat.le_of_ble_eq_true rfl) (ih jn (hp ||| 2 ^ k) (sz + 1) G Wt fw lh hs hT hL hG (by omega) (by omega) (or_lt15 hhp (by omega)) (by omega) hfw) (fun _ _ z => z.2.2.1) (fun r0 hz z => ?_)
                    obtain ⟨rfl, ⟨G3, W3, z1, z2, z3⟩, z4⟩ := z
                    refine xk_vret rfl dX2_settle_227 (Nat.le_refl _) (Nat.le_refl _) ⟨rfl, ⟨G3, W3, ?_, z2, z3⟩, z4⟩
                    first
                    | (rw [setF_4 (b := (fw, lh)) c7 c51 (fun q => c152 q.2) (fun q => c99 q.1)]; exact z1)
                    | (rw [setF_4 (b := (fw, lh)) c7 c51 (fun q => q.1 c99) (fun q => c130 q.2)]; exact z1)
                  · exact absurd rfl c191
              · exact absurd c142 (by decide)
            · have c130 : Wt jn (pu n k) - Wt jn (pl n k) = logW w (pu n k) (pl n k) := c130
              refine xk_iconst (1) dX2_settle_133 (by decide) ?_
              refine xk_goto 138 dX2_settle_134 (by decide) ?_
              refine xk_istore dX2_settle_138 (by decide) ?_
              dsimp only [xk_s1, xk_s2, xk_kill]
              refine xk_iload dX2_settle_140 rfl ?_
              refine xk_if_ne 184 dX2_settle_142 (by decide) (fun c142 => ?_) (fun c142 => ?_)
              · refine xk_iload dX2_settle_184 rfl ?_
                refine xk_if_eq 208 dX2_settle_186 (by decide) (fun c186 => ?_) (fun c186 => ?_)
                · exact absurd c186 (by decide)
                · refine xk_iload dX2_settle_189 rfl ?_
                  refine xk_if_eq 208 dX2_settle_191 (by decide) (fun c191 => ?_) (fun c191 => ?_)
                  · exact absurd c191 (by decide)
                  · refine xk_aload_n dX2_settle_194 rfl ?_
                    refine xk_aload_n dX2_settle_195 rfl ?_
                    refine xk_iload_n dX2_settle_196 rfl ?_
                    refine xk_iconst (1) dX2_settle_197 (by decide) ?_
                    refine xk_isub dX2_settle_198 ?_
                    refine xk_iload_n dX2_settle_199 rfl ?_
                    refine xk_iload dX2_settle_200 rfl ?_
                    refine xk_iload dX2_settle_202 rfl ?_
                    refine xk_callV5 (M' := mX2_settle) (ci := 1) (r0 := (RX2, TX2, 8)) dX2_settle_204 wm_X2_37 cv_X2_settle wi_X2_settle wl_X2_settle (by omega) (Nat.le_refl _) (Nat.le_refl _) rfl rfl hL.1 (Nat.le_of_ble_eq_true rfl) (ih jn hp sz G Wt fw lh hs hT hL hG (by omega) (by omega) hhp (by omega) hfw) (fun _ _ z => z.2.2.1) (fun r0 hz z => ?_)
                    obtain ⟨rfl, ⟨G3, W3, z1, z2, z3⟩, z4⟩ := z
                    exact xk_vret rfl dX2_settle_207 (Nat.le_refl _) (Nat.le_refl _) ⟨rfl, ⟨G3, W3, by rw [setF_3 (b := (fw, lh)) c7 c51 c99 c130]; exact z1, z2, z3⟩, z4⟩
              · exact absurd c142 (by decide)
        · rw [eH] at c51
          refine xk_aload_n dX2_settle_54 rfl ?_
          refine xk_aload_n dX2_settle_55 rfl ?_
          refine xk_iload_n dX2_settle_56 rfl ?_
          refine xk_iconst (1) dX2_settle_57 (by decide) ?_
          refine xk_isub dX2_settle_58 ?_
          refine xk_iload_n dX2_settle_59 rfl ?_
          refine xk_iload dX2_settle_60 rfl ?_
          refine xk_iload dX2_settle_62 rfl ?_
          refine xk_callV5 (M' := mX2_settle) (ci := 1) (r0 := (RX2, TX2, 8)) dX2_settle_64 wm_X2_37 cv_X2_settle wi_X2_settle wl_X2_settle (by omega) (Nat.le_refl _) (Nat.le_refl _) rfl rfl hL.1 (Nat.le_of_ble_eq_true rfl) (ih jn hp sz G Wt fw lh hs hT hL hG (by omega) (by omega) hhp (by omega) hfw) (fun _ _ z => z.2.2.1) (fun r0 hz z => ?_)
          obtain ⟨rfl, ⟨G3, W3, z1, z2, z3⟩, z4⟩ := z
          exact xk_vret rfl dX2_settle_67 (Nat.le_refl _) (Nat.le_refl _) ⟨rfl, ⟨G3, W3, by rw [setF_1 (b := (fw, lh)) c7 c51]; exact z1, z2, z3⟩, z4⟩
      · exact absurd (nI_pos' (by omega)) c11
    · have c7 : fw ≤ sz := by
        rcases Nat.lt_or_ge sz fw with q | q
        · exact absurd (nI_lt q (by omega)) c6
        · exact q
      exact xk_vret rfl dX2_settle_9 (Nat.le_refl _) (Nat.le_refl _) ⟨rfl, ⟨G, Wt, by rw [setF_done (b := (fw, lh)) c7]; exact hL, hG, fun x y _ _ => ⟨rfl, rfl⟩⟩, xfr.rf⟩

set_option maxHeartbeats 4000000 in
set_option maxRecDepth 100000 in
/-- search -/
theorem y_X2_search (d : Nat) {hs : xk_H} {t n fl v fw lh : Nat} {w : tbW} {G : Nat → Nat → Nat} {Wt : Nat → Nat → Int32} (hn : n ≤ 6) (h2 : 2 ≤ n) (ho : tbOK n w) (hdj : ∀ k, tbS t n k → ¬ lvS v n k) (hT : tbA hs t n w fl) (hL : lvA hs v n G Wt fw lh) (hG : ∀ x y, G x y < 6) (h0 : ∀ x, x < n → G 0 x = x ∧ Wt 0 x = 0) : xk_Y (d + 19) 0 0 mX2_search false [.ref v, .ref t] hs (fun r' h => r' = none ∧ (∃ (G' : Nat → Nat → Nat) (W' : Nat → Nat → Int32), lvA h v n G' W' (leaveF w n).1 (leaveF w n).2 ∧ (∀ x y, G' x y < 6) ∧ ∀ x, x < n → G' 0 x = x ∧ W' 0 x = 0) ∧ xfr (lvS v n) hs h) := by
  have hnp := np_ok n (by omega)
  have hL1 : lvA _ v n G Wt (n * (n - 1) / 2 + 1) lh := hL.obj (fw' := n * (n - 1) / 2 + 1) (lh' := lh)
  have hL2 : lvA _ v n G Wt (n * (n - 1) / 2 + 1) 0 := hL.obj (fw' := n * (n - 1) / 2 + 1) (lh' := 0)
  have hT2 := hT.set1 (e := .inr (1, [.int (nI n), .int (nI (n * (n - 1) / 2)), .ref (v + 1), .ref (v + 2), .ref (v + 3), .ref (v + 4 + n), .int (nI (n * (n - 1) / 2 + 1)), .int (nI 0)])) (a := v) (fun q => hdj v q ⟨by omega, by omega⟩)
  refine xk_Y.ofX (k := 0) (ls := [some (.ref v), some (.ref t)]) (by decide) rfl rfl ?_
  refine xk_aload_n dX2_search_0 rfl ?_
  refine xk_aload_n dX2_search_1 rfl ?_
  refine xk_get (ci := 1) (r := (RX2, TX2, 8)) 1 dX2_search_2 rfl inX2 (by decide) wf_X2_13 hL.1 rfl ?_
  refine xk_iconst (1) dX2_search_5 (by decide) ?_
  refine xk_iadd dX2_search_6 ?_
  rw [nI_1]
  refine xk_put (ci := 1) (r := (RX2, TX2, 8)) 6 tyX2 dX2_search_7 rfl inX2 tyX2_ok nmX2 (by decide) wf_X2_31 rfl (fun _ => rfl) (fun _ => rfl) hL.1 (Nat.le_of_ble_eq_true rfl) ?_
  dsimp only [List.set]
  refine xk_aload_n dX2_search_10 rfl ?_
  refine xk_iconst (0) dX2_search_11 (by decide) ?_
  refine xk_put (ci := 1) (r := (RX2, TX2, 8)) 7 tyX2 dX2_search_12 rfl inX2 tyX2_ok nmX2 (by decide) wf_X2_34 rfl (fun _ => rfl) (fun _ => rfl) hL1.1 (Nat.le_of_ble_eq_true rfl) ?_
  dsimp only [List.set]
  rw [List.set_set]
  refine xk_aload_n dX2_search_15 rfl ?_
  refine xk_aload_n dX2_search_16 rfl ?_
  refine xk_aload_n dX2_search_17 rfl ?_
  refine xk_get (ci := 1) (r := (RX2, TX2, 8)) 1 dX2_search_18 rfl inX2 (by decide) wf_X2_13 hL2.1 rfl ?_
  refine xk_iconst (1) dX2_search_21 (by decide) ?_
  refine xk_isub dX2_search_22 ?_
  refine xk_iconst (0) dX2_search_23 (by decide) ?_
  refine xk_iconst (0) dX2_search_24 (by decide) ?_
  refine xk_iconst (0) dX2_search_25 (by decide) ?_
  refine xk_callV5 (M' := mX2_settle) (ci := 1) (r0 := (RX2, TX2, 8)) dX2_search_26 wm_X2_37 cv_X2_settle wi_X2_settle wl_X2_settle (by omega) (Nat.le_refl _) (Nat.le_refl _) rfl rfl hL2.1 (Nat.le_of_ble_eq_true rfl) (y_X2_settle d hn h2 ho hdj (n * (n - 1) / 2) 0 0 0 G Wt (n * (n - 1) / 2 + 1) 0 _ hT2 hL2 hG (by omega) (by omega) (by decide) (by omega) (by omega)) (fun _ _ z => z.2.2.1) (fun r0 hz z => ?_)
  obtain ⟨rfl, ⟨G3, W3, z1, z2, z3⟩, z4⟩ := z
  refine xk_vret rfl dX2_search_29 (Nat.le_refl _) (Nat.le_refl _) ⟨rfl, ⟨G3, W3, ?_, z2, fun x hx => ?_⟩, (xfr.rf.set ⟨by omega, by omega⟩).tr z4⟩
  · rw [setF_congr w n (by omega) h2 _ 0 (G 0) id (Wt 0) (fun _ => 0) 0 0 _ (by omega) (fun x hx => (h0 x hx).1) (fun x hx => (h0 x hx).2)] at z1
    exact z1
  · have q := z3 0 x (by omega) hx
    exact ⟨q.1.trans (h0 x hx).1, q.2.trans (h0 x hx).2⟩
end
section
/-! PairScales: all its cells. Own text. -/
def rtA (hs : xk_H) (r : Nat) : Prop :=
  hs[r]? = some (.inr (3, [.ref (r + 1), .ref (r + 3)])) ∧ hs[r + 1]? = some (.inr (0, [.ref (r + 1 + 1)])) ∧ (∃ N, N < 2 ^ 240 ∧ hs[r + 1 + 1]? = some (bw N)) ∧ hs[r + 3]? = some (.inr (0, [.ref (r + 3 + 1)])) ∧ ∃ N, N < 2 ^ 240 ∧ hs[r + 3 + 1]? = some (bw N)
def rtS (r : Nat) : Nat → Prop := fun k => r ≤ k ∧ k < r + 5
theorem rtA.kept {hs h : xk_H} {r : Nat} {S : Nat → Prop} (H : rtA hs r) (hf : xfr S hs h) (hS : ∀ k, rtS r k → ¬ S k) : rtA h r := by
  obtain ⟨h1, h2, ⟨N, h3, h4⟩, h5, N2, h6, h7⟩ := H
  exact ⟨by rw [hf.2 _ (hS _ ⟨by omega, by omega⟩)]; exact h1, by rw [hf.2 _ (hS _ ⟨by omega, by omega⟩)]; exact h2, ⟨N, h3, by rw [hf.2 _ (hS _ ⟨by omega, by omega⟩)]; exact h4⟩, by rw [hf.2 _ (hS _ ⟨by omega, by omega⟩)]; exact h5, N2, h6, by rw [hf.2 _ (hS _ ⟨by omega, by omega⟩)]; exact h7⟩
def xsO (hs : xk_H) (x n : Nat) : Prop := hs[x]? = some (.inr (7, [.int (nI n), .ref (x + 1), .ref (x + n + 3), .ref (x + 2 * n + 5), .ref (x + 2 * n + 6), .ref (x + 2 * n + 8), .ref (x + 3 * n + 9), .ref (x + 5 * n + 14)]))
def xsW (hs : xk_H) (x n : Nat) : Prop := ∃ s : woS, hs[x + 2 * n + 5]? = some (woO n s) ∧ woB s
def xsG (hs : xk_H) (x n : Nat) : Prop := hs[x + 2 * n + 6]? = some (.inr (2, [.int (nI n), .ref (x + 2 * n + 6 + 1)])) ∧ ∃ g, hs[x + 2 * n + 6 + 1]? = some (gw n g) ∧ gB g
def xsL (hs : xk_H) (x n : Nat) : Prop := ∃ (G : Nat → Nat → Nat) (Wt : Nat → Nat → Int32) (fw lh : Nat), lvA hs (x + 3 * n + 9) n G Wt fw lh ∧ (∀ a b, G a b < 6) ∧ ∀ y, y < n → G 0 y = y ∧ Wt 0 y = 0
def xsA (hs : xk_H) (x n : Nat) (w : tbW) (fl : Nat) (v : tbW) (fv : Nat) : Prop :=
  xsO hs x n ∧ tbA hs (x + 1) n w fl ∧ tbA hs (x + n + 3) n v fv ∧ xsW hs x n ∧ xsG hs x n ∧ (∃ M, mtA hs (x + 2 * n + 8) (n - 1) M) ∧ xsL hs x n ∧ rtA hs (x + 5 * n + 14)
def xsS (x n : Nat) : Nat → Prop := fun k => x ≤ k ∧ k < x + 5 * n + 19
theorem xsO.kept {hs h : xk_H} {x n : Nat} {S : Nat → Prop} (H : xsO hs x n) (hf : xfr S hs h) (hS : ¬ S x) : xsO h x n := (hf.2 _ hS).trans H
theorem xsW.kept {hs h : xk_H} {x n : Nat} {S : Nat → Prop} (H : xsW hs x n) (hf : xfr S hs h) (hS : ¬ S (x + 2 * n + 5)) : xsW h x n := by
  obtain ⟨s, h1, h2⟩ := H
  exact ⟨s, (hf.2 _ hS).trans h1, h2⟩
theorem xsG.kept {hs h : xk_H} {x n : Nat} {S : Nat → Prop} (H : xsG hs x n) (hf : xfr S hs h) (hS : ¬ S (x + 2 * n + 6)) (hS2 : ¬ S (x + 2 * n + 6 + 1)) : xsG h x n := by
  obtain ⟨h1, g, h2, h3⟩ := H
  exact ⟨(hf.2 _ hS).trans h1, g, (hf.2 _ hS2).trans h2, h3⟩
theorem xsL.kept {hs h : xk_H} {x n : Nat} {S : Nat → Prop} (H : xsL hs x n) (hf : xfr S hs h) (hS : ∀ k, lvS (x + 3 * n + 9) n k → ¬ S k) : xsL h x n := by
  obtain ⟨G, Wt, fw, lh, h1, h2⟩ := H
  exact ⟨G, Wt, fw, lh, h1.kept hf hS, h2⟩
theorem xsM.kept {hs h : xk_H} {u s : Nat} {S : Nat → Prop} (H : ∃ M, mtA hs u s M) (hf : xfr S hs h) (hS : ∀ k, mtS u s k → ¬ S k) : ∃ M, mtA h u s M := by
  obtain ⟨M, h1⟩ := H
  exact ⟨M, h1.kept hf hS⟩
section XSA
variable {hs h : xk_H} {x n : Nat} {w v w' v' : tbW} {fl fv fl' fv' : Nat}
theorem xsA.say (H : xsA hs x n w fl v fv) (hn : 2 ≤ n) (hf : xfr (tbS (x + 1) n) hs h) (hT : tbA h (x + 1) n w' fl') : xsA h x n w' fl' v fv := by
  obtain ⟨h1, h2, h3, h4, h5, h6, h7, h8⟩ := H
  exact ⟨h1.kept hf (by unfold tbS; omega), hT, h3.kept hf (by unfold tbS; omega), h4.kept hf (by unfold tbS; omega), h5.kept hf (by unfold tbS; omega) (by unfold tbS; omega), xsM.kept h6 hf (by unfold tbS mtS; omega), h7.kept hf (by unfold tbS lvS; omega), h8.kept hf (by unfold tbS rtS; omega)⟩
theorem xsA.spn (H : xsA hs x n w fl v fv) (hn : 2 ≤ n) (hf : xfr (tbS (x + n + 3) n) hs h) (hT : tbA h (x + n + 3) n v' fv') : xsA h x n w fl v' fv' := by
  obtain ⟨h1, h2, h3, h4, h5, h6, h7, h8⟩ := H
  exact ⟨h1.kept hf (by unfold tbS; omega), h2.kept hf (by unfold tbS; omega), hT, h4.kept hf (by unfold tbS; omega), h5.kept hf (by unfold tbS; omega) (by unfold tbS; omega), xsM.kept h6 hf (by unfold tbS mtS; omega), h7.kept hf (by unfold tbS lvS; omega), h8.kept hf (by unfold tbS rtS; omega)⟩
theorem xsA.wst (H : xsA hs x n w fl v fv) (hn : 2 ≤ n) {s : woS} (hB : woB s) : xsA (hs.set (x + 2 * n + 5) (woO n s)) x n w fl v fv := by
  obtain ⟨h1, h2, h3, ⟨s0, h4, h4b⟩, h5, h6, h7, h8⟩ := H
  have hf : xfr (fun k => k = x + 2 * n + 5) hs (hs.set (x + 2 * n + 5) (woO n s)) := xfr.rf.set rfl
  exact ⟨h1.kept hf (by omega), h2.kept hf (by unfold tbS; omega), h3.kept hf (by unfold tbS; omega), ⟨s, xs_at h4, hB⟩, h5.kept hf (by omega) (by omega), xsM.kept h6 hf (by unfold mtS; omega), h7.kept hf (by unfold lvS; omega), h8.kept hf (by unfold rtS; omega)⟩
theorem xsA.rng (H : xsA hs x n w fl v fv) (hn : 2 ≤ n) {g : gS} (hB : gB g) : xsA (hs.set (x + 2 * n + 6 + 1) (gw n g)) x n w fl v fv := by
  obtain ⟨h1, h2, h3, h4, ⟨h5, g0, h5b, h5c⟩, h6, h7, h8⟩ := H
  have hf : xfr (fun k => k = x + 2 * n + 6 + 1) hs (hs.set (x + 2 * n + 6 + 1) (gw n g)) := xfr.rf.set rfl
  exact ⟨h1.kept hf (by omega), h2.kept hf (by unfold tbS; omega), h3.kept hf (by unfold tbS; omega), h4.kept hf (by omega), ⟨(xs_ne (by omega)).trans h5, g, xs_at h5b, hB⟩, xsM.kept h6 hf (by unfold mtS; omega), h7.kept hf (by unfold lvS; omega), h8.kept hf (by unfold rtS; omega)⟩
theorem xsA.tre (H : xsA hs x n w fl v fv) (hn : 2 ≤ n) (hf : xfr (mtS (x + 2 * n + 8) (n - 1)) hs h) (hM : ∃ M, mtA h (x + 2 * n + 8) (n - 1) M) : xsA h x n w fl v fv := by
  obtain ⟨h1, h2, h3, h4, h5, h6, h7, h8⟩ := H
  exact ⟨h1.kept hf (by unfold mtS; omega), h2.kept hf (by unfold mtS tbS; omega), h3.kept hf (by unfold mtS tbS; omega), h4.kept hf (by unfold mtS; omega), h5.kept hf (by unfold mtS; omega) (by unfold mtS; omega), hM, h7.kept hf (by unfold mtS lvS; omega), h8.kept hf (by unfold mtS rtS; omega)⟩
theorem xsA.lev (H : xsA hs x n w fl v fv) (hn : 2 ≤ n) (hf : xfr (lvS (x + 3 * n + 9) n) hs h) (hL : xsL h x n) : xsA h x n w fl v fv := by
  obtain ⟨h1, h2, h3, h4, h5, h6, h7, h8⟩ := H
  exact ⟨h1.kept hf (by unfold lvS; omega), h2.kept hf (by unfold lvS tbS; omega), h3.kept hf (by unfold lvS tbS; omega), h4.kept hf (by unfold lvS; omega), h5.kept hf (by unfold lvS; omega) (by unfold lvS; omega), xsM.kept h6 hf (by unfold lvS mtS; omega), hL, h8.kept hf (by unfold lvS rtS; omega)⟩
theorem xsA.rot (H : xsA hs x n w fl v fv) (hn : 2 ≤ n) {N N2 : Nat} (hN : N < 2 ^ 240) (hN2 : N2 < 2 ^ 240) : xsA ((hs.set (x + 5 * n + 14 + 1 + 1) (bw N)).set (x + 5 * n + 14 + 3 + 1) (bw N2)) x n w fl v fv := by
  obtain ⟨h1, h2, h3, h4, h5, h6, h7, r1, r2, ⟨M1, r3, r4⟩, r5, M2, r6, r7⟩ := H
  have hf : xfr (rtS (x + 5 * n + 14)) hs ((hs.set (x + 5 * n + 14 + 1 + 1) (bw N)).set (x + 5 * n + 14 + 3 + 1) (bw N2)) := (xfr.rf.set ⟨by omega, by omega⟩).set ⟨by omega, by omega⟩
  exact ⟨h1.kept hf (by unfold rtS; omega), h2.kept hf (by unfold rtS tbS; omega), h3.kept hf (by unfold rtS tbS; omega), h4.kept hf (by unfold rtS; omega), h5.kept hf (by unfold rtS; omega) (by unfold rtS; omega), xsM.kept h6 hf (by unfold rtS mtS; omega), h7.kept hf (by unfold rtS lvS; omega), (xs_ne (by omega)).trans ((xs_ne (by omega)).trans r1), (xs_ne (by omega)).trans ((xs_ne (by omega)).trans r2), ⟨N, hN, (xs_ne (by omega)).trans (xs_at r4)⟩, (xs_ne (by omega)).trans ((xs_ne (by omega)).trans r5), N2, hN2, xs_at ((xs_ne (by omega)).trans r7)⟩
end XSA
def dig (x : Int32) : Bool := decide (1 ≤ x) && decide (x ≤ 9)
theorem dig_of {x : Int32} (h : dig x = true) : ∃ a, 1 ≤ a ∧ a ≤ 9 ∧ x = nI a := by
  unfold dig at h
  simp only [Bool.and_eq_true, decide_eq_true_eq] at h
  have h0 : ¬ x < 0 := by
    have h1 := Int32.le_iff_toInt_le.mp h.1
    intro q
    have h2 := Int32.lt_iff_toInt_lt.mp q
    have e1 : (1 : Int32).toInt = 1 := by decide
    have e2 : (0 : Int32).toInt = 0 := by decide
    omega
  obtain ⟨j, h1, rfl⟩ := nI_of h0
  have h3 := (nI_leI (a := 1) (b := j) (by decide) h1).mp h.1
  have h4 := (nI_leI (a := j) (b := 9) h1 (by decide)).mp h.2
  exact ⟨j, h3, h4, rfl⟩
def isPt (x : Int32) : Bool := decide (x = 0) || decide (x = 1)
/-- what say does to the sayings -/
def sayC (n : Nat) (i j p q : Int32) : Bool := tPair n i j && (dig p && dig q)
def sayW (n : Nat) (w : tbW) (i j p q : Int32) : tbW := if sayC n i j p q = true then tbSet w i.toNatClampNeg j.toNatClampNeg (p.toNatClampNeg, q.toNatClampNeg) (q.toNatClampNeg, p.toNatClampNeg) else w
def sayN (n : Nat) (w : tbW) (fl : Nat) (i j p q : Int32) : Nat := if sayC n i j p q = true ∧ w i.toNatClampNeg j.toNatClampNeg = (0, 1) then fl + 1 else fl
/-- what unsay does -/
def dropW (n : Nat) (w : tbW) (i j : Int32) : tbW := if tHas n w i j = true then tbSet w i.toNatClampNeg j.toNatClampNeg (0, 1) (0, 1) else w
def dropN (n : Nat) (w : tbW) (fl : Nat) (i j : Int32) : Nat := if tHas n w i j = true then fl - 1 else fl
/-- what said answers -/
def saidV (n : Nat) (w : tbW) (i j q : Int32) : Int32 :=
  if (isPt q && tHas n w i j) = true then nI (if q = 0 then lowT (w i.toNatClampNeg j.toNatClampNeg).1 (w i.toNatClampNeg j.toNatClampNeg).2 else lowB (w i.toNatClampNeg j.toNatClampNeg).1 (w i.toNatClampNeg j.toNatClampNeg).2) else -1
theorem saidV_n {n : Nat} {w : tbW} {i j q : Int32} (h : (isPt q && tHas n w i j) = false) : saidV n w i j q = -1 := by
  unfold saidV
  rw [if_neg (by rw [h]; decide)]
theorem saidV_y {n a b : Nat} {w : tbW} {q : Int32} (hn : n ≤ 6) (ha : a < n) (hb : b < n) (hab : a ≠ b) (h1 : isPt q = true) (h2 : tHas n w (nI a) (nI b) = true) : saidV n w (nI a) (nI b) q = nI (if q = 0 then lowT (w a b).1 (w a b).2 else lowB (w a b).1 (w a b).2) := by
  unfold saidV
  rw [if_pos (by rw [h1, h2]; rfl), nI_clamp (by omega), nI_clamp (by omega)]
theorem tab3 {q : Int32} (q0 : ¬ q = 0) (q1 : ¬ q = 1) (q2 : ¬ q = 2) : q.toInt < 0 ∨ 2 < q.toInt := by
  have e0 : ¬ q.toInt = 0 := fun z => q0 (Int32.toInt_inj.mp (z.trans (by decide)))
  have e1 : ¬ q.toInt = 1 := fun z => q1 (Int32.toInt_inj.mp (z.trans (by decide)))
  have e2 : ¬ q.toInt = 2 := fun z => q2 (Int32.toInt_inj.mp (z.trans (by decide)))
  omega
end
section
/-! PairScales: contracts, first half. Laid by a program of our own. -/
set_option maxHeartbeats 4000000 in
set_option maxRecDepth 100000 in
theorem y_X8_isDigit (d : Nat) {hs : xk_H} {p : Int32} : xk_F d mX8_isDigit [.int p] hs (some (.int (xk_b (dig p)))) hs := by
  refine xk_Y.ofX (k := 0) (ls := [some (.int p)]) (by decide) rfl rfl ?_
  refine xk_iload_n dX8_isDigit_0 rfl ?_
  refine xk_iconst (1) dX8_isDigit_1 (by decide) ?_
  refine xk_icmp_lt 15 dX8_isDigit_2 (by decide) (fun c2 => ?_) (fun c2 => ?_)
  · refine xk_iconst (0) dX8_isDigit_15 (by decide) ?_
    exact xk_zret rfl (by rfl) dX8_isDigit_16 (Nat.le_refl _) (Nat.le_refl _) ⟨by first | (refine xz1 ?_; unfold dig; simp; exact ⟨Int32.not_lt.mp c2, Int32.not_lt.mp c8⟩; done) | (refine xz0 ?_; unfold dig; simp; exact ⟨Int32.not_lt.mp c2, Int32.not_lt.mp c8⟩; done) | (refine xz1 ?_; unfold dig; simp; intro q; exact absurd c2 (Int32.not_lt.mpr q); done) | (refine xz0 ?_; unfold dig; simp; intro q; exact absurd c2 (Int32.not_lt.mpr q); done) | (refine xz1 ?_; unfold dig; simp; intro _; exact c8; done) | (refine xz0 ?_; unfold dig; simp; intro _; exact c8; done), rfl⟩
  · refine xk_iload_n dX8_isDigit_5 rfl ?_
    refine xk_bipush (9) dX8_isDigit_6 (by decide) ?_
    refine xk_icmp_gt 15 dX8_isDigit_8 (by decide) (fun c8 => ?_) (fun c8 => ?_)
    · refine xk_iconst (0) dX8_isDigit_15 (by decide) ?_
      exact xk_zret rfl (by rfl) dX8_isDigit_16 (Nat.le_refl _) (Nat.le_refl _) ⟨by first | (refine xz1 ?_; unfold dig; simp; exact ⟨Int32.not_lt.mp c2, Int32.not_lt.mp c8⟩; done) | (refine xz0 ?_; unfold dig; simp; exact ⟨Int32.not_lt.mp c2, Int32.not_lt.mp c8⟩; done) | (refine xz1 ?_; unfold dig; simp; intro q; exact absurd c2 (Int32.not_lt.mpr q); done) | (refine xz0 ?_; unfold dig; simp; intro q; exact absurd c2 (Int32.not_lt.mpr q); done) | (refine xz1 ?_; unfold dig; simp; intro _; exact c8; done) | (refine xz0 ?_; unfold dig; simp; intro _; exact c8; done), rfl⟩
    · refine xk_iconst (1) dX8_isDigit_11 (by decide) ?_
      refine xk_goto 16 dX8_isDigit_12 (by decide) ?_
      exact xk_zret rfl (by rfl) dX8_isDigit_16 (Nat.le_refl _) (Nat.le_refl _) ⟨by first | (refine xz1 ?_; unfold dig; simp; exact ⟨Int32.not_lt.mp c2, Int32.not_lt.mp c8⟩; done) | (refine xz0 ?_; unfold dig; simp; exact ⟨Int32.not_lt.mp c2, Int32.not_lt.mp c8⟩; done) | (refine xz1 ?_; unfold dig; simp; intro q; exact absurd c2 (Int32.not_lt.mpr q); done) | (refine xz0 ?_; unfold dig; simp; intro q; exact absurd c2 (Int32.not_lt.mpr q); done) | (refine xz1 ?_; unfold dig; simp; intro _; exact c8; done) | (refine xz0 ?_; unfold dig; simp; intro _; exact c8; done), rfl⟩

set_option maxHeartbeats 4000000 in
set_option maxRecDepth 100000 in
theorem y_X8_isPart (d : Nat) {hs : xk_H} {p : Int32} : xk_F d mX8_isPart [.int p] hs (some (.int (xk_b (isPt p)))) hs := by
  refine xk_Y.ofX (k := 0) (ls := [some (.int p)]) (by decide) rfl rfl ?_
  refine xk_iload_n dX8_isPart_0 rfl ?_
  refine xk_if_eq 9 dX8_isPart_1 (by decide) (fun c1 => ?_) (fun c1 => ?_)
  · refine xk_iconst (1) dX8_isPart_9 (by decide) ?_
    refine xk_goto 14 dX8_isPart_10 (by decide) ?_
    exact xk_zret rfl (by rfl) dX8_isPart_14 (Nat.le_refl _) (Nat.le_refl _) ⟨by first | (refine xz1 ?_; unfold isPt; simp_all; done) | (refine xz0 ?_; unfold isPt; simp_all; done) | (refine xz1 ?_; unfold isPt; simp [*]; done) | (refine xz0 ?_; unfold isPt; simp [*]; done), rfl⟩
  · refine xk_iload_n dX8_isPart_4 rfl ?_
    refine xk_iconst (1) dX8_isPart_5 (by decide) ?_
    refine xk_icmp_ne 13 dX8_isPart_6 (by decide) (fun c6 => ?_) (fun c6 => ?_)
    · refine xk_iconst (0) dX8_isPart_13 (by decide) ?_
      exact xk_zret rfl (by rfl) dX8_isPart_14 (Nat.le_refl _) (Nat.le_refl _) ⟨by first | (refine xz1 ?_; unfold isPt; simp_all; done) | (refine xz0 ?_; unfold isPt; simp_all; done) | (refine xz1 ?_; unfold isPt; simp [*]; done) | (refine xz0 ?_; unfold isPt; simp [*]; done), rfl⟩
    · refine xk_iconst (1) dX8_isPart_9 (by decide) ?_
      refine xk_goto 14 dX8_isPart_10 (by decide) ?_
      exact xk_zret rfl (by rfl) dX8_isPart_14 (Nat.le_refl _) (Nat.le_refl _) ⟨by first | (refine xz1 ?_; unfold isPt; simp_all; done) | (refine xz0 ?_; unfold isPt; simp_all; done) | (refine xz1 ?_; unfold isPt; simp [*]; done) | (refine xz0 ?_; unfold isPt; simp [*]; done), rfl⟩

set_option maxHeartbeats 4000000 in
set_option maxRecDepth 100000 in
theorem y_X8_say (d : Nat) {hs : xk_H} {x n fl fv : Nat} {w v : tbW} (hn : n ≤ 6) (h2 : 2 ≤ n) (hX : xsA hs x n w fl v fv) (ho : tbOK n w) (hov : tbOK n v) {i j p q : Int32} : xk_Y (d + 4) 0 0 mX8_say false [.ref x, .int i, .int j, .int p, .int q] hs (fun r' h => r' = some (.int (xk_b (sayC n i j p q))) ∧ xsA h x n (sayW n w i j p q) (sayN n w fl i j p q) v fv ∧ xfr (xsS x n) hs h) := by
  have cF : (tPair n i j && (dig p && dig q)) = false → sayC n i j p q = false := fun q => q
  have cW : sayC n i j p q = false → sayW n w i j p q = w := fun q => by unfold sayW; rw [if_neg (by rw [q]; decide)]
  have cN : sayC n i j p q = false → sayN n w fl i j p q = fl := fun q => by unfold sayN; rw [if_neg (by rw [q]; exact fun z => absurd z.1 (by decide))]
  refine xk_Y.ofX (k := 2) (ls := [some (.ref x), some (.int i), some (.int j), some (.int p), some (.int q), none, none]) (by decide) rfl rfl ?_
  refine xk_aload_n dX8_say_0 rfl ?_
  refine xk_get (ci := 7) (r := (RX8, TX8, 8)) 1 dX8_say_1 rfl inX8 (by decide) wf_X8_27 hX.1 rfl ?_
  refine xk_iload_n dX8_say_4 rfl ?_
  refine xk_iload_n dX8_say_5 rfl ?_
  refine xk_v2 (M' := mX5_isPair) (d' := (d + 2) + 1) (ci := 4) (r0 := (RX5, TX5, 3)) dX8_say_6 wm_X8_69 cv_X5_isPair wi_X5_isPair wl_X5_isPair (by omega) (Nat.le_refl _) (Nat.le_refl _) rfl rfl hX.2.1.1 (Nat.le_of_ble_eq_true rfl) (y_X5_isPair (d + 2) hX.2.1) rfl ?_
  refine xk_ifb_eq 27 dX8_say_9 (by decide) (fun c9 => ?_) (fun c9 => ?_)
  · refine xk_iconst (0) dX8_say_27 (by decide) ?_
    exact xk_zret rfl (by rfl) dX8_say_28 (Nat.le_refl _) (Nat.le_refl _) ⟨by rw [xb_f (cF (by simp [*]))], by rw [cW (cF (by simp [*])), cN (cF (by simp [*]))]; exact hX, xfr.rf⟩
  · refine xk_iload_n dX8_say_12 rfl ?_
    refine xk_s1c (M' := mX8_isDigit) (d' := (d + 3)) dX8_say_13 wm_X8_73 cv_X8_isDigit wt_X8_isDigit (by omega) (Nat.le_refl _) (Nat.le_refl _) (Nat.le_of_ble_eq_true rfl) (y_X8_isDigit (d + 3)) rfl ?_
    refine xk_ifb_eq 27 dX8_say_16 (by decide) (fun c16 => ?_) (fun c16 => ?_)
    · refine xk_iconst (0) dX8_say_27 (by decide) ?_
      exact xk_zret rfl (by rfl) dX8_say_28 (Nat.le_refl _) (Nat.le_refl _) ⟨by rw [xb_f (cF (by simp [*]))], by rw [cW (cF (by simp [*])), cN (cF (by simp [*]))]; exact hX, xfr.rf⟩
    · refine xk_iload dX8_say_19 rfl ?_
      refine xk_s1c (M' := mX8_isDigit) (d' := (d + 3)) dX8_say_21 wm_X8_73 cv_X8_isDigit wt_X8_isDigit (by omega) (Nat.le_refl _) (Nat.le_refl _) (Nat.le_of_ble_eq_true rfl) (y_X8_isDigit (d + 3)) rfl ?_
      refine xk_ifb_ne 29 dX8_say_24 (by decide) (fun c24 => ?_) (fun c24 => ?_)
      · obtain ⟨a, b, ha, hb, hab, rfl, rfl⟩ := tPair_of hn c9
        obtain ⟨p0, hp1, hp2, rfl⟩ := dig_of c16
        obtain ⟨q0, hq1, hq2, rfl⟩ := dig_of c24
        have cS : sayC n (nI a) (nI b) (nI p0) (nI q0) = true := by unfold sayC; simp [c9, c16, c24]
        have e1 : (nI a).toNatClampNeg = a := nI_clamp (by omega)
        have e2 : (nI b).toNatClampNeg = b := nI_clamp (by omega)
        have e3 : (nI p0).toNatClampNeg = p0 := nI_clamp (by omega)
        have e4 : (nI q0).toNatClampNeg = q0 := nI_clamp (by omega)
        refine xk_iload_n dX8_say_29 rfl ?_
        refine xk_i2l dX8_say_30 ?_
        rw [nI_l (by omega)]
        refine xk_iload dX8_say_31 rfl ?_
        refine xk_i2l dX8_say_33 ?_
        rw [nI_l (by omega)]
        refine xk_s2c (M' := mX1_of) (d' := (d + 3)) dX8_say_34 wm_X8_77 cv_X1_of wt_X1_of (by omega) (Nat.le_refl _) (Nat.le_refl _) (Nat.le_of_ble_eq_true rfl) (y_X1_of (d + 3) (by omega) (by omega)) rfl ?_
        refine xk_lstore dX8_say_37 (by decide) ?_
        dsimp only [xk_s1, xk_s2, xk_kill]
        refine xk_aload_n dX8_say_39 rfl ?_
        refine xk_get (ci := 7) (r := (RX8, TX8, 8)) 1 dX8_say_40 rfl inX8 (by decide) wf_X8_27 hX.1 rfl ?_
        refine xk_iload_n dX8_say_43 rfl ?_
        refine xk_iload_n dX8_say_44 rfl ?_
        refine xk_lload dX8_say_45 rfl ?_
        refine xk_lload dX8_say_47 rfl ?_
        refine xk_callV4 (M' := mX5_put) (ci := 4) (r0 := (RX5, TX5, 3)) dX8_say_49 wm_X8_83 cv_X5_put wi_X5_put wl_X5_put (by omega) (Nat.le_refl _) (Nat.le_refl _) rfl rfl hX.2.1.1 (Nat.le_of_ble_eq_true rfl) (y_X5_put d hn hX.2.1 ho ha hb hab hp2 hq2 hp2 hq2) (fun _ _ z => z.2.2.1) (fun r0 hz z => ?_)
        obtain ⟨rfl, z1, z2⟩ := z
        refine xk_iconst (1) dX8_say_52 (by decide) ?_
        refine xk_zret rfl (by rfl) dX8_say_53 (Nat.le_refl _) (Nat.le_refl _) ⟨by rw [xb_t cS], ?_, z2.mono (by unfold tbS xsS; omega)⟩
        unfold sayW sayN
        rw [if_pos cS, e1, e2, e3, e4]
        have hz2 := hX.say h2 z2 z1
        by_cases c : w a b = (0, 1)
        · rw [if_pos ⟨cS, c⟩]
          rw [if_pos c] at hz2
          exact hz2
        · rw [if_neg (fun q => c q.2)]
          rw [if_neg c] at hz2
          exact hz2
      · refine xk_iconst (0) dX8_say_27 (by decide) ?_
        exact xk_zret rfl (by rfl) dX8_say_28 (Nat.le_refl _) (Nat.le_refl _) ⟨by rw [xb_f (cF (by simp [*]))], by rw [cW (cF (by simp [*])), cN (cF (by simp [*]))]; exact hX, xfr.rf⟩

set_option maxHeartbeats 4000000 in
set_option maxRecDepth 100000 in
theorem y_X8_unsay (d : Nat) {hs : xk_H} {x n fl fv : Nat} {w v : tbW} (hn : n ≤ 6) (h2 : 2 ≤ n) (hX : xsA hs x n w fl v fv) (ho : tbOK n w) (hov : tbOK n v) {i j : Int32} (hfl : tHas n w i j = true → 1 ≤ fl) : xk_Y (d + 4) 0 0 mX8_unsay false [.ref x, .int i, .int j] hs (fun r' h => r' = some (.int (xk_b (tHas n w i j))) ∧ xsA h x n (dropW n w i j) (dropN n w fl i j) v fv ∧ xfr (xsS x n) hs h) := by
  refine xk_Y.ofX (k := 0) (ls := [some (.ref x), some (.int i), some (.int j)]) (by decide) rfl rfl ?_
  refine xk_aload_n dX8_unsay_0 rfl ?_
  refine xk_get (ci := 7) (r := (RX8, TX8, 8)) 1 dX8_unsay_1 rfl inX8 (by decide) wf_X8_27 hX.1 rfl ?_
  refine xk_iload_n dX8_unsay_4 rfl ?_
  refine xk_iload_n dX8_unsay_5 rfl ?_
  refine xk_callV2 (M' := mX5_drop) (ci := 4) (r0 := (RX5, TX5, 3)) dX8_unsay_6 wm_X8_87 cv_X5_drop wi_X5_drop wl_X5_drop (by omega) (Nat.le_refl _) (Nat.le_refl _) rfl rfl hX.2.1.1 (Nat.le_of_ble_eq_true rfl) (y_X5_drop d hn hX.2.1 ho hfl) (fun _ _ z => by by_cases c : tHas n w i j = true; (have h9 := z.2; rw [if_pos c] at h9; exact h9.2.1); (have h9 := z.2; rw [if_neg c] at h9; rw [h9])) (fun r0 hz z => ?_)
  obtain ⟨rfl, z1⟩ := z
  refine xk_zret rfl (xk_b_nar _) dX8_unsay_9 (Nat.le_refl _) (Nat.le_refl _) ?_
  by_cases c : tHas n w i j = true
  · rw [if_pos c] at z1
    refine ⟨rfl, ?_, z1.2.mono (by unfold tbS xsS; omega)⟩
    unfold dropW dropN
    rw [if_pos c, if_pos c]
    exact hX.say h2 z1.2 z1.1
  · rw [if_neg c] at z1
    subst z1
    refine ⟨rfl, ?_, xfr.rf⟩
    unfold dropW dropN
    rw [if_neg c, if_neg c]
    exact hX

set_option maxHeartbeats 4000000 in
set_option maxRecDepth 100000 in
theorem y_X8_unspan (d : Nat) {hs : xk_H} {x n fl fv : Nat} {w v : tbW} (hn : n ≤ 6) (h2 : 2 ≤ n) (hX : xsA hs x n w fl v fv) (ho : tbOK n w) (hov : tbOK n v) {i j : Int32} (hfl : tHas n v i j = true → 1 ≤ fv) : xk_Y (d + 4) 0 0 mX8_unspan false [.ref x, .int i, .int j] hs (fun r' h => r' = some (.int (xk_b (tHas n v i j))) ∧ xsA h x n w fl (dropW n v i j) (dropN n v fv i j) ∧ xfr (xsS x n) hs h) := by
  refine xk_Y.ofX (k := 0) (ls := [some (.ref x), some (.int i), some (.int j)]) (by decide) rfl rfl ?_
  refine xk_aload_n dX8_unspan_0 rfl ?_
  refine xk_get (ci := 7) (r := (RX8, TX8, 8)) 2 dX8_unspan_1 rfl inX8 (by decide) wf_X8_31 hX.1 rfl ?_
  refine xk_iload_n dX8_unspan_4 rfl ?_
  refine xk_iload_n dX8_unspan_5 rfl ?_
  refine xk_callV2 (M' := mX5_drop) (ci := 4) (r0 := (RX5, TX5, 3)) dX8_unspan_6 wm_X8_87 cv_X5_drop wi_X5_drop wl_X5_drop (by omega) (Nat.le_refl _) (Nat.le_refl _) rfl rfl hX.2.2.1.1 (Nat.le_of_ble_eq_true rfl) (y_X5_drop d hn hX.2.2.1 hov hfl) (fun _ _ z => by by_cases c : tHas n v i j = true; (have h9 := z.2; rw [if_pos c] at h9; exact h9.2.1); (have h9 := z.2; rw [if_neg c] at h9; rw [h9])) (fun r0 hz z => ?_)
  obtain ⟨rfl, z1⟩ := z
  refine xk_zret rfl (xk_b_nar _) dX8_unspan_9 (Nat.le_refl _) (Nat.le_refl _) ?_
  by_cases c : tHas n v i j = true
  · rw [if_pos c] at z1
    refine ⟨rfl, ?_, z1.2.mono (by unfold tbS xsS; omega)⟩
    unfold dropW dropN
    rw [if_pos c, if_pos c]
    exact hX.spn h2 z1.2 z1.1
  · rw [if_neg c] at z1
    subst z1
    refine ⟨rfl, ?_, xfr.rf⟩
    unfold dropW dropN
    rw [if_neg c, if_neg c]
    exact hX

set_option maxHeartbeats 4000000 in
set_option maxRecDepth 100000 in
theorem y_X8_said (d : Nat) {hs : xk_H} {x n fl fv : Nat} {w v : tbW} (hn : n ≤ 6) (h2 : 2 ≤ n) (hX : xsA hs x n w fl v fv) (ho : tbOK n w) (hov : tbOK n v) {i j q : Int32} : xk_Y (d + 3) 0 0 mX8_said false [.ref x, .int i, .int j, .int q] hs (fun r' h => r' = some (.int (saidV n w i j q)) ∧ xsA h x n w fl v fv ∧ xfr (xsS x n) hs h) := by
  refine xk_Y.ofX (k := 0) (ls := [some (.ref x), some (.int i), some (.int j), some (.int q)]) (by decide) rfl rfl ?_
  refine xk_iload_n dX8_said_0 rfl ?_
  refine xk_s1c (M' := mX8_isPart) (d' := (d + 2)) dX8_said_1 wm_X8_90 cv_X8_isPart wt_X8_isPart (by omega) (Nat.le_refl _) (Nat.le_refl _) (Nat.le_of_ble_eq_true rfl) (y_X8_isPart (d + 2)) rfl ?_
  refine xk_ifb_eq 19 dX8_said_4 (by decide) (fun c4 => ?_) (fun c4 => ?_)
  · refine xk_iconst (-1) dX8_said_19 (by decide) ?_
    exact xk_iret rfl dX8_said_20 (Nat.le_refl _) (Nat.le_refl _) ⟨by rw [saidV_n (by simp [*])], hX, xfr.rf⟩
  · refine xk_aload_n dX8_said_7 rfl ?_
    refine xk_get (ci := 7) (r := (RX8, TX8, 8)) 1 dX8_said_8 rfl inX8 (by decide) wf_X8_27 hX.1 rfl ?_
    refine xk_iload_n dX8_said_11 rfl ?_
    refine xk_iload_n dX8_said_12 rfl ?_
    refine xk_v2 (M' := mX5_holds) (d' := d + 2) (ci := 4) (r0 := (RX5, TX5, 3)) dX8_said_13 wm_X8_93 cv_X5_holds wi_X5_holds wl_X5_holds (by omega) (Nat.le_refl _) (Nat.le_refl _) rfl rfl hX.2.1.1 (Nat.le_of_ble_eq_true rfl) (y_X5_holds d hn hX.2.1 ho) rfl ?_
    refine xk_ifb_ne 21 dX8_said_16 (by decide) (fun c16 => ?_) (fun c16 => ?_)
    · obtain ⟨a, b, ha, hb, hab, rfl, rfl, hw9⟩ := tHas_of hn c16
      have dg := ho.lt ha hb
      refine xk_aload_n dX8_said_21 rfl ?_
      refine xk_get (ci := 7) (r := (RX8, TX8, 8)) 1 dX8_said_22 rfl inX8 (by decide) wf_X8_27 hX.1 rfl ?_
      refine xk_iload_n dX8_said_25 rfl ?_
      refine xk_iload_n dX8_said_26 rfl ?_
      refine xk_v2 (M' := mX5_low) (d' := d + 2) (ci := 4) (r0 := (RX5, TX5, 3)) dX8_said_27 wm_X8_96 cv_X5_low wi_X5_low wl_X5_low (by omega) (Nat.le_refl _) (Nat.le_refl _) rfl rfl hX.2.1.1 (Nat.le_of_ble_eq_true rfl) (y_X5_low d hn hX.2.1) rfl ?_
      rw [tLow_nI hn ha hb hab]
      refine xk_iload_n dX8_said_30 rfl ?_
      refine xk_s2c (M' := mX1_part) (d' := (d + 1) + 1) dX8_said_31 wm_X8_100 cv_X1_part wt_X1_part (by omega) (Nat.le_refl _) (Nat.le_refl _) (Nat.le_of_ble_eq_true rfl) (y_X1_part (d + 1) (by omega) (by omega)) rfl ?_
      exact xk_iret rfl dX8_said_34 (Nat.le_refl _) (Nat.le_refl _) ⟨by rw [saidV_y hn ha hb hab c4 c16], hX, xfr.rf⟩
    · refine xk_iconst (-1) dX8_said_19 (by decide) ?_
      exact xk_iret rfl dX8_said_20 (Nat.le_refl _) (Nat.le_refl _) ⟨by rw [saidV_n (by simp [*])], hX, xfr.rf⟩

set_option maxHeartbeats 4000000 in
set_option maxRecDepth 100000 in
theorem y_X8_even (d : Nat) {hs : xk_H} {x n fl fv : Nat} {w v : tbW} (hn : n ≤ 6) (h2 : 2 ≤ n) (hX : xsA hs x n w fl v fv) (ho : tbOK n w) (hov : tbOK n v) : xk_Y (d + 11) 0 0 mX8_even false [.ref x] hs (fun r' h => (∃ g, gB g ∧ r' = some (.int (xk_b (noneG (measG w n g) (n - 2) 3)))) ∧ xsA h x n w fl v fv ∧ xfr (xsS x n) hs h) := by
  obtain ⟨hg0, g, hg1, hg2⟩ := hX.2.2.2.2.1
  refine xk_Y.ofX (k := 0) (ls := [some (.ref x)]) (by decide) rfl rfl ?_
  refine xk_aload_n dX8_even_0 rfl ?_
  refine xk_get (ci := 7) (r := (RX8, TX8, 8)) 4 dX8_even_1 rfl inX8 (by decide) wf_X8_44 hX.1 rfl ?_
  refine xk_aload_n dX8_even_4 rfl ?_
  refine xk_get (ci := 7) (r := (RX8, TX8, 8)) 1 dX8_even_5 rfl inX8 (by decide) wf_X8_27 hX.1 rfl ?_
  refine xk_v1 (M' := mX3_noneAboveOne) (d' := d + 10) (ci := 2) (r0 := (RX3, TX3, 2)) dX8_even_8 wm_X8_104 cv_X3_noneAboveOne wi_X3_noneAboveOne wl_X3_noneAboveOne (by omega) (Nat.le_refl _) (Nat.le_refl _) rfl rfl hX.2.2.2.2.1.1 (Nat.le_of_ble_eq_true rfl) (y_X3_noneAboveOne d hn h2 hX.2.1 ho hg0 hg1 hg2 (by unfold tbS; omega)) (by simp) ?_
  exact xk_zret rfl (xk_b_nar _) dX8_even_11 (Nat.le_refl _) (Nat.le_refl _) ⟨⟨g, hg2, rfl⟩, hX.rng h2 (gB_meas ho hn hg2), xfr.rf.set ⟨by omega, by omega⟩⟩

set_option maxHeartbeats 4000000 in
set_option maxRecDepth 100000 in
theorem y_X8_can (d : Nat) {hs : xk_H} {x n fl fv : Nat} {w v : tbW} (hn : n ≤ 6) (h2 : 2 ≤ n) (hX : xsA hs x n w fl v fv) (ho : tbOK n w) (hov : tbOK n v) : xk_Y (d + 11) 0 0 mX8_can false [.ref x] hs (fun r' h => (∃ g, gB g ∧ r' = some (.int (xk_b (noneG (measG v n g) (n - 2) 3)))) ∧ xsA h x n w fl v fv ∧ xfr (xsS x n) hs h) := by
  obtain ⟨hg0, g, hg1, hg2⟩ := hX.2.2.2.2.1
  refine xk_Y.ofX (k := 0) (ls := [some (.ref x)]) (by decide) rfl rfl ?_
  refine xk_aload_n dX8_can_0 rfl ?_
  refine xk_get (ci := 7) (r := (RX8, TX8, 8)) 4 dX8_can_1 rfl inX8 (by decide) wf_X8_44 hX.1 rfl ?_
  refine xk_aload_n dX8_can_4 rfl ?_
  refine xk_get (ci := 7) (r := (RX8, TX8, 8)) 2 dX8_can_5 rfl inX8 (by decide) wf_X8_31 hX.1 rfl ?_
  refine xk_v1 (M' := mX3_noneAboveOne) (d' := d + 10) (ci := 2) (r0 := (RX3, TX3, 2)) dX8_can_8 wm_X8_104 cv_X3_noneAboveOne wi_X3_noneAboveOne wl_X3_noneAboveOne (by omega) (Nat.le_refl _) (Nat.le_refl _) rfl rfl hX.2.2.2.2.1.1 (Nat.le_of_ble_eq_true rfl) (y_X3_noneAboveOne d hn h2 hX.2.2.1 hov hg0 hg1 hg2 (by unfold tbS; omega)) (by simp) ?_
  exact xk_zret rfl (xk_b_nar _) dX8_can_11 (Nat.le_refl _) (Nat.le_refl _) ⟨⟨g, hg2, rfl⟩, hX.rng h2 (gB_meas hov hn hg2), xfr.rf.set ⟨by omega, by omega⟩⟩

set_option maxHeartbeats 4000000 in
set_option maxRecDepth 100000 in
theorem y_X8_trees (d : Nat) {hs : xk_H} {x n fl fv : Nat} {w v : tbW} (hn : n ≤ 6) (h2 : 2 ≤ n) (hX : xsA hs x n w fl v fv) (ho : tbOK n w) (hov : tbOK n v) : xk_Y (d + 5) 0 0 mX8_trees false [.ref x] hs (fun r' h => r' = some (.int (ofM (n - 1) (n - 1 - 1) 0 1 (lapM w (n - 1)))) ∧ xsA h x n w fl v fv ∧ xfr (xsS x n) hs h) := by
  obtain ⟨M, hM⟩ := hX.2.2.2.2.2.1
  refine xk_Y.ofX (k := 0) (ls := [some (.ref x)]) (by decide) rfl rfl ?_
  refine xk_aload_n dX8_trees_0 rfl ?_
  refine xk_get (ci := 7) (r := (RX8, TX8, 8)) 5 dX8_trees_1 rfl inX8 (by decide) wf_X8_51 hX.1 rfl ?_
  refine xk_aload_n dX8_trees_4 rfl ?_
  refine xk_get (ci := 7) (r := (RX8, TX8, 8)) 1 dX8_trees_5 rfl inX8 (by decide) wf_X8_27 hX.1 rfl ?_
  refine xk_callV1 (M' := mX6_of) (ci := 5) (r0 := (RX6, TX6, 2)) dX8_trees_8 wm_X8_125 cv_X6_of wi_X6_of wl_X6_of (by omega) (Nat.le_refl _) (Nat.le_refl _) rfl rfl hM.1 (Nat.le_of_ble_eq_true rfl) (y_X6_of d hn (s := n - 1) (by omega) (by omega) hX.2.1 ho hM (by unfold tbS mtS; omega)) (fun _ _ z => z.2.2.1) (fun r0 hz z => ?_)
  obtain ⟨rfl, z1, z2⟩ := z
  exact xk_iret rfl dX8_trees_11 (Nat.le_refl _) (Nat.le_refl _) ⟨rfl, hX.tre h2 z2 z1, z2.mono (by unfold mtS xsS; omega)⟩

set_option maxHeartbeats 4000000 in
set_option maxRecDepth 100000 in
theorem y_X8_few (d : Nat) {hs : xk_H} {x n fl fv : Nat} {w v : tbW} (hn : n ≤ 6) (h2 : 2 ≤ n) (hX : xsA hs x n w fl v fv) (ho : tbOK n w) (hov : tbOK n v) : xk_Y (d + 20) 0 0 mX8_few false [.ref x] hs (fun r' h => r' = some (.int (nI (leaveF w n).1)) ∧ xsA h x n w fl v fv ∧ xfr (xsS x n) hs h) := by
  obtain ⟨G, Wt, fw, lh, hL, hG, h0⟩ := hX.2.2.2.2.2.2.1
  refine xk_Y.ofX (k := 0) (ls := [some (.ref x)]) (by decide) rfl rfl ?_
  refine xk_aload_n dX8_few_0 rfl ?_
  refine xk_get (ci := 7) (r := (RX8, TX8, 8)) 6 dX8_few_1 rfl inX8 (by decide) wf_X8_58 hX.1 rfl ?_
  refine xk_aload_n dX8_few_4 rfl ?_
  refine xk_get (ci := 7) (r := (RX8, TX8, 8)) 1 dX8_few_5 rfl inX8 (by decide) wf_X8_27 hX.1 rfl ?_
  refine xk_callV1 (M' := mX2_search) (ci := 1) (r0 := (RX2, TX2, 8)) dX8_few_8 wm_X8_128 cv_X2_search wi_X2_search wl_X2_search (by omega) (Nat.le_refl _) (Nat.le_refl _) rfl rfl hL.1 (Nat.le_of_ble_eq_true rfl) (y_X2_search d hn h2 ho (by unfold tbS lvS; omega) hX.2.1 hL hG h0) (fun _ _ z => z.2.2.1) (fun r0 hz z => ?_)
  obtain ⟨rfl, ⟨G3, W3, z1, z2, z3⟩, z4⟩ := z
  have hX2 := hX.lev h2 z4 ⟨G3, W3, _, _, z1, z2, z3⟩
  refine xk_aload_n dX8_few_11 rfl ?_
  refine xk_get (ci := 7) (r := (RX8, TX8, 8)) 6 dX8_few_12 rfl inX8 (by decide) wf_X8_58 hX2.1 rfl ?_
  refine xk_getN (ci := 1) (r := (RX2, TX2, 8)) (host := "PairScales") 6 dX8_few_15 rfl inX2 (by decide) (List.mem_of_getElem? (i := 6) rfl) z1.1 rfl ?_
  exact xk_iret rfl dX8_few_18 (Nat.le_refl _) (Nat.le_refl _) ⟨rfl, hX2, z4.mono (by unfold lvS xsS; omega)⟩

set_option maxHeartbeats 4000000 in
set_option maxRecDepth 100000 in
theorem y_X8_left (d : Nat) {hs : xk_H} {x n fl fv : Nat} {w v : tbW} (hn : n ≤ 6) (h2 : 2 ≤ n) (hX : xsA hs x n w fl v fv) (ho : tbOK n w) (hov : tbOK n v) : xk_Y (d + 20) 0 0 mX8_left false [.ref x] hs (fun r' h => r' = some (.int (nI (leaveF w n).2)) ∧ xsA h x n w fl v fv ∧ xfr (xsS x n) hs h) := by
  obtain ⟨G, Wt, fw, lh, hL, hG, h0⟩ := hX.2.2.2.2.2.2.1
  refine xk_Y.ofX (k := 0) (ls := [some (.ref x)]) (by decide) rfl rfl ?_
  refine xk_aload_n dX8_left_0 rfl ?_
  refine xk_get (ci := 7) (r := (RX8, TX8, 8)) 6 dX8_left_1 rfl inX8 (by decide) wf_X8_58 hX.1 rfl ?_
  refine xk_aload_n dX8_left_4 rfl ?_
  refine xk_get (ci := 7) (r := (RX8, TX8, 8)) 1 dX8_left_5 rfl inX8 (by decide) wf_X8_27 hX.1 rfl ?_
  refine xk_callV1 (M' := mX2_search) (ci := 1) (r0 := (RX2, TX2, 8)) dX8_left_8 wm_X8_128 cv_X2_search wi_X2_search wl_X2_search (by omega) (Nat.le_refl _) (Nat.le_refl _) rfl rfl hL.1 (Nat.le_of_ble_eq_true rfl) (y_X2_search d hn h2 ho (by unfold tbS lvS; omega) hX.2.1 hL hG h0) (fun _ _ z => z.2.2.1) (fun r0 hz z => ?_)
  obtain ⟨rfl, ⟨G3, W3, z1, z2, z3⟩, z4⟩ := z
  have hX2 := hX.lev h2 z4 ⟨G3, W3, _, _, z1, z2, z3⟩
  refine xk_aload_n dX8_left_11 rfl ?_
  refine xk_get (ci := 7) (r := (RX8, TX8, 8)) 6 dX8_left_12 rfl inX8 (by decide) wf_X8_58 hX2.1 rfl ?_
  refine xk_getN (ci := 1) (r := (RX2, TX2, 8)) (host := "PairScales") 7 dX8_left_15 rfl inX2 (by decide) (List.mem_of_getElem? (i := 7) rfl) z1.1 rfl ?_
  exact xk_iret rfl dX8_left_18 (Nat.le_refl _) (Nat.le_refl _) ⟨rfl, hX2, z4.mono (by unfold lvS xsS; omega)⟩

set_option maxHeartbeats 4000000 in
set_option maxRecDepth 100000 in
theorem y_X8_count (d : Nat) {hs : xk_H} {x n fl fv : Nat} {w v : tbW} (hn : n ≤ 6) (h2 : 2 ≤ n) (hX : xsA hs x n w fl v fv) (ho : tbOK n w) (hov : tbOK n v) {q : Int32} : xk_Y d 0 0 mX8_count false [.ref x, .int q] hs (fun r' h => r' = some (.int (if q = 0 then nI n else if q = 1 then nI fl else if q = 2 then nI fv else -1)) ∧ xsA h x n w fl v fv ∧ xfr (xsS x n) hs h) := by
  refine xk_Y.ofX (k := 0) (ls := [some (.ref x), some (.int q)]) (by decide) rfl rfl ?_
  refine xk_iload_n dX8_count_0 rfl ?_
  by_cases q0 : q = 0
  · subst q0
    refine xk_tabIn (off := 27) 28 dX8_count_1 (x := 0) (by decide) (by decide) (by decide) (by decide) ?_
    refine xk_aload_n dX8_count_28 rfl ?_
    refine xk_get (ci := 7) (r := (RX8, TX8, 8)) 0 dX8_count_29 rfl inX8 (by decide) wf_X8_18 hX.1 rfl ?_
    exact xk_iret rfl dX8_count_32 (Nat.le_refl _) (Nat.le_refl _) ⟨rfl, hX, xfr.rf⟩
  · by_cases q1 : q = 1
    · subst q1
      refine xk_tabIn (off := 32) 33 dX8_count_1 (x := 1) (by decide) (by decide) (by decide) (by decide) ?_
      refine xk_aload_n dX8_count_33 rfl ?_
      refine xk_get (ci := 7) (r := (RX8, TX8, 8)) 1 dX8_count_34 rfl inX8 (by decide) wf_X8_27 hX.1 rfl ?_
      refine xk_getN (ci := 4) (r := (RX5, TX5, 3)) (host := "PairScales") 2 dX8_count_37 rfl inX5 (by decide) (List.mem_of_getElem? (i := 0) rfl) hX.2.1.1 rfl ?_
      exact xk_iret rfl dX8_count_40 (Nat.le_refl _) (Nat.le_refl _) ⟨rfl, hX, xfr.rf⟩
    · by_cases q2 : q = 2
      · subst q2
        refine xk_tabIn (off := 40) 41 dX8_count_1 (x := 2) (by decide) (by decide) (by decide) (by decide) ?_
        refine xk_aload_n dX8_count_41 rfl ?_
        refine xk_get (ci := 7) (r := (RX8, TX8, 8)) 2 dX8_count_42 rfl inX8 (by decide) wf_X8_31 hX.1 rfl ?_
        refine xk_getN (ci := 4) (r := (RX5, TX5, 3)) (host := "PairScales") 2 dX8_count_45 rfl inX5 (by decide) (List.mem_of_getElem? (i := 0) rfl) hX.2.2.1.1 rfl ?_
        exact xk_iret rfl dX8_count_48 (Nat.le_refl _) (Nat.le_refl _) ⟨rfl, hX, xfr.rf⟩
      · refine xk_tabOut 49 dX8_count_1 (tab3 q0 q1 q2) (by decide) ?_
        refine xk_iconst (-1) dX8_count_49 (by decide) ?_
        exact xk_iret rfl dX8_count_50 (Nat.le_refl _) (Nat.le_refl _) ⟨by simp [q0, q1, q2], hX, xfr.rf⟩
end
section
/-! PairScales: rows, ways, roots: what they compute. Own text. -/
def worstV (s : woS) (q : Int32) : Int32 :=
  if (0 ≤ q ∧ q ≤ 4) ∧ ¬ (s.2.2.2.1 = 0 ∧ s.2.2.2.2 = 1) then (if q = 0 then s.1 else if q = 1 then s.2.1 else if q = 2 then s.2.2.1 else nI (if q - 3 = 0 then lowT s.2.2.2.1 s.2.2.2.2 else lowB s.2.2.2.1 s.2.2.2.2)) else -1
theorem woF_b {n : Nat} {w : tbW} {s : woS} (ho : tbOK n w) : woB (woF w n s) := by
  refine itr_inv woB _ _ _ (fun a s h1 h2 h3 => itr_inv woB _ _ _ (fun b s h4 h5 h6 => itr_inv woB _ _ _ (fun c s h7 h8 h9 => woC_b ho (by omega) (by omega) (by omega) h9) h6) h3) ⟨Nat.le_of_ble_eq_true rfl, Nat.le_of_ble_eq_true rfl⟩
/-- the product of a row -/
def rowP (w : tbW) (n i : Nat) : Nat × Nat := itr (fun j p => if tH w i j = true then mul2 p (w i j) else p) n 0 (1, 1)
def rowB (j : Nat) (p : Nat × Nat) : Prop := p.1 ≤ 9 ^ j ∧ p.2 ≤ 9 ^ j
theorem rowB_s {n i j : Nat} {w : tbW} {p : Nat × Nat} (ho : tbOK n w) (hi : i < n) (hj : j < n) (h : rowB j p) : rowB (j + 1) (if tH w i j = true then mul2 p (w i j) else p) := by
  have h1 := ho.lt hi hj
  have e : 9 ^ (j + 1) = 9 ^ j * 9 := Nat.pow_succ 9 j
  split
  · exact ⟨by rw [e]; exact Nat.mul_le_mul h.1 h1.1, by rw [e]; exact Nat.mul_le_mul h.2 h1.2.1⟩
  · exact ⟨by rw [e]; have := h.1; omega, by rw [e]; have := h.2; omega⟩
theorem rowB_6 {j : Nat} {p : Nat × Nat} (hj : j ≤ 6) (h : rowB j p) : p.1 ≤ 531441 ∧ p.2 ≤ 531441 := ⟨Nat.le_trans h.1 (p9 hj), Nat.le_trans h.2 (p9 hj)⟩
theorem rowP_b {n i : Nat} {w : tbW} (ho : tbOK n w) (hn : n ≤ 6) (hi : i < n) : (rowP w n i).1 ≤ 531441 ∧ (rowP w n i).2 ≤ 531441 := by
  have key : ∀ (m j : Nat) (p : Nat × Nat), j + m = n → rowB j p → rowB n (itr (fun j p => if tH w i j = true then mul2 p (w i j) else p) m j p) := by
    intro m
    induction m with
    | zero =>
      intro j p h1 h2
      obtain rfl : j = n := by omega
      exact h2
    | succ m ih =>
      intro j p h1 h2
      exact ih (j + 1) _ (by omega) (rowB_s ho hi (by omega) h2)
  exact rowB_6 hn (key n 0 (1, 1) (by omega) ⟨by decide, by decide⟩)
def rowV (n : Nat) (w : tbW) (fl : Nat) (i q : Int32) : Int32 :=
  if (isPt q && tIn n i && decide (fl = n * (n - 1) / 2)) = true then nI (if q = 0 then lowT (rowP w n i.toNatClampNeg).1 (rowP w n i.toNatClampNeg).2 else lowB (rowP w n i.toNatClampNeg).1 (rowP w n i.toNatClampNeg).2) else -1
theorem rowV_n {n fl : Nat} {w : tbW} {i q : Int32} (h : (isPt q && tIn n i && decide (fl = n * (n - 1) / 2)) = false) : rowV n w fl i q = -1 := by
  unfold rowV
  rw [if_neg (by rw [h]; decide)]
def ordV (n : Nat) (w : tbW) (fl : Nat) (i j : Int32) : Int32 :=
  if (tIn n i && tIn n j && decide (fl = n * (n - 1) / 2)) = true then
    (if (rowP w n j.toNatClampNeg).1 * (rowP w n i.toNatClampNeg).2 < (rowP w n i.toNatClampNeg).1 * (rowP w n j.toNatClampNeg).2 then 1
     else if (rowP w n i.toNatClampNeg).1 * (rowP w n j.toNatClampNeg).2 < (rowP w n j.toNatClampNeg).1 * (rowP w n i.toNatClampNeg).2 then 2 else 0)
  else -1
theorem ordV_n {n fl : Nat} {w : tbW} {i j : Int32} (h : (tIn n i && tIn n j && decide (fl = n * (n - 1) / 2)) = false) : ordV n w fl i j = -1 := by
  unfold ordV
  rw [if_neg (by rw [h]; decide)]
def maxP (b y : Nat × Nat) : Nat × Nat := if b.1 * y.2 < y.1 * b.2 then y else b
/-- the greatest way from a thing on, with so many things still free; (0, 1) if there is none -/
def wayF (v : tbW) (n goal : Nat) : Nat → Nat → Nat → Nat × Nat → Nat × Nat
  | 0, a, _, p => if a = goal then p else (0, 1)
  | f + 1, a, m, p => if a = goal then p else itr (fun k b => if m.testBit k = false ∧ tH v a k = true then maxP b (wayF v n goal f k (m ||| 2 ^ k) (mul2 p (v a k))) else b) n 0 (0, 1)
def b6 (p : Nat × Nat) : Prop := p.1 ≤ 531441 ∧ p.2 ≤ 531441
theorem maxP_b {b y : Nat × Nat} (h1 : b6 b) (h2 : b6 y) : b6 (maxP b y) := by
  unfold maxP
  split
  · exact h2
  · exact h1
theorem wayF_b {n goal : Nat} {v : tbW} (ho : tbOK n v) (hn : n ≤ 6) : ∀ (f a m z : Nat) (p : Nat × Nat), a < n → z + f = n → pB z p → b6 (wayF v n goal f a m p)
  | 0, a, m, z, p, ha, hz, hp => by
    rw [wayF]
    split
    · exact pB_6 (by omega) hp
    · exact ⟨by decide, by decide⟩
  | f + 1, a, m, z, p, ha, hz, hp => by
    rw [wayF]
    split
    · exact pB_6 (by omega) hp
    · refine itr_inv b6 _ _ _ (fun k s h1 h2 h3 => ?_) ⟨by decide, by decide⟩
      have h4 := ho.lt ha (show k < n by omega)
      split
      · exact maxP_b h3 (wayF_b ho hn f k _ (z + 1) _ (by omega) (by omega) (pB_s hp h4.1 h4.2.1))
      · exact h3
def bndV (n : Nat) (v : tbW) (ok : Bool) (i j q : Int32) : Int32 :=
  if (isPt q && tPair n i j && ok) = true then
    (let y := wayF v n j.toNatClampNeg (n - 1) i.toNatClampNeg (2 ^ i.toNatClampNeg) (1, 1)
     if y = (0, 1) then -1 else nI (if q = 0 then lowT y.1 y.2 else lowB y.1 y.2))
  else -1
theorem bndV_n {n : Nat} {v : tbW} {ok : Bool} {i j q : Int32} (h : (isPt q && tPair n i j && ok) = false) : bndV n v ok i j q = -1 := by
  unfold bndV
  rw [if_neg (by rw [h]; decide)]
/-- rings' products by their sizes -/
def gZ (n : Nat) (g : gS) : Prop := ∀ j, j ≤ n → (g j).1 ≤ 9 ^ j ∧ 1 ≤ (g j).2 ∧ (g j).2 ≤ 9 ^ j
theorem gZ_up {n z : Nat} {g : gS} {p : Nat × Nat} (h : gZ n g) (h1 : p.1 ≤ 9 ^ z) (h2 : 1 ≤ p.2) (h3 : p.2 ≤ 9 ^ z) : gZ n (closeG g z p) := by
  unfold closeG
  split
  · intro j hj
    unfold gUp
    split
    · next e => rw [e]; exact ⟨h1, h2, h3⟩
    · exact h j hj
  · exact h
theorem gZ_cl {n a b z : Nat} {w : tbW} {p : Nat × Nat} {g : gS} (ho : tbOK n w) (ha : a < n) (hb : b < n) (hp : pB z p) (hp1 : 1 ≤ p.2) (h : gZ n g) : gZ n (clG w a b z p g) := by
  unfold clG
  split
  · have h1 := ho.lt hb ha
    have h2 := pB_mul hp h1.1 h1.2.1
    exact gZ_up h h2.1 (Nat.mul_pos hp1 h1.2.2) h2.2
  · exact h
theorem gZ_ext {n a : Nat} {w : tbW} (ho : tbOK n w) (ha : a < n) : ∀ (f b m z : Nat) (p : Nat × Nat) (g : gS), b < n → z + f = n → pB z p → 1 ≤ p.2 → gZ n g → gZ n (extG w n a f b m z p g)
  | 0, b, m, z, p, g, hb, hz, hp, hp1, h => gZ_cl ho ha hb hp hp1 h
  | f + 1, b, m, z, p, g, hb, hz, hp, hp1, h => by
    refine itr_inv (gZ n) _ _ _ (fun k s h1 h2 h3 => ?_) (gZ_cl ho ha hb hp hp1 h)
    have h4 := ho.lt hb (show k < n by omega)
    split
    · exact gZ_ext ho ha f k _ (z + 1) _ s (by omega) (by omega) (pB_s hp h4.1 h4.2.1) (Nat.mul_pos hp1 h4.2.2) h3
    · exact h3
theorem gZ_meas {n : Nat} {w : tbW} {g : gS} (ho : tbOK n w) : gZ n (measG w n g) := by
  refine itr_inv (gZ n) _ _ _ (fun k s h1 h2 h3 => ?_) ?_
  · exact gZ_ext ho (by omega) (n - 1) k _ 1 (1, 1) s (by omega) (by omega) ⟨by decide, by decide⟩ (by decide) h3
  · intro j hj
    dsimp only
    rw [if_pos (by omega)]
    exact ⟨Nat.zero_le _, Nat.le_refl _, Nat.pow_pos (by decide)⟩
/-- the root of a is above that of b -/
def rtAb (a : Nat × Nat) (ra : Nat) (b : Nat × Nat) (rb : Nat) : Bool := decide (b.1 ^ ra * a.2 ^ rb < a.1 ^ rb * b.2 ^ ra)
def rootF (g : gS) : Nat → Nat → Nat → Nat
  | 0, _, b => b
  | r + 1, z, b => rootF g r (z + 1) (if (g z).2 < (g z).1 ∧ (b = 0 ∨ rtAb (g z) z (g b) b = true) then z else b)
theorem pow_bd {a b x y z : Nat} (ha : a ≤ 9 ^ x) (hb : b ≤ 9 ^ y) (hz : x * y ≤ z) : a ^ y * b ^ x ≤ 9 ^ (z + z) := by
  have h1 : a ^ y ≤ 9 ^ z := Nat.le_trans (Nat.pow_le_pow_left ha y) (by rw [← Nat.pow_mul]; exact Nat.pow_le_pow_right (by decide) hz)
  have h2 : b ^ x ≤ 9 ^ z := Nat.le_trans (Nat.pow_le_pow_left hb x) (by rw [← Nat.pow_mul, Nat.mul_comm]; exact Nat.pow_le_pow_right (by decide) hz)
  rw [Nat.pow_add]
  exact Nat.mul_le_mul h1 h2
def leaV (g : gS) (n : Nat) (q : Int32) : Int32 :=
  if 0 ≤ q ∧ q ≤ 2 then
    (if q = 2 then nI (rootF g (n - 2) 3 0)
     else if rootF g (n - 2) 3 0 = 0 then 1
     else nI (if q = 0 then lowT (g (rootF g (n - 2) 3 0)).1 (g (rootF g (n - 2) 3 0)).2 else lowB (g (rootF g (n - 2) 3 0)).1 (g (rootF g (n - 2) 3 0)).2))
  else -1
theorem rootF_le {g : gS} {n : Nat} : ∀ (r z b : Nat), z + r = n + 1 → b ≤ n → rootF g r z b ≤ n
  | 0, _, _, _, h => h
  | r + 1, z, b, hz, h => by
    rw [rootF]
    refine rootF_le r (z + 1) _ (by omega) ?_
    split
    · omega
    · exact h
/-- what span does -/
def spC (n : Nat) (i j e : Int32) : Bool := tPair n i j && (dig (e / 1000) && (dig (e / 100 - e / 100 / 10 * 10) && (dig (e / 10 - e / 10 / 10 * 10) && dig (e - e / 10 * 10))))
def spA (e : Int32) : Nat := (e / 1000).toNatClampNeg
def spB (e : Int32) : Nat := (e / 100 - e / 100 / 10 * 10).toNatClampNeg
def spP (e : Int32) : Nat := (e / 10 - e / 10 / 10 * 10).toNatClampNeg
def spQ (e : Int32) : Nat := (e - e / 10 * 10).toNatClampNeg
def spOk (n : Nat) (i j e : Int32) : Bool := spC n i j e && decide (¬ spP e * spB e < spA e * spQ e)
def spW (n : Nat) (v : tbW) (i j e : Int32) : tbW := if spOk n i j e = true then tbSet v i.toNatClampNeg j.toNatClampNeg (spA e, spB e) (spQ e, spP e) else v
def spN (n : Nat) (v : tbW) (fv : Nat) (i j e : Int32) : Nat := if spOk n i j e = true ∧ v i.toNatClampNeg j.toNatClampNeg = (0, 1) then fv + 1 else fv
theorem worstV_3 {s : woS} {q : Int32} (h : (0 ≤ q ∧ q ≤ 4) ∧ ¬ (s.2.2.2.1 = 0 ∧ s.2.2.2.2 = 1)) (q0 : ¬ q = 0) (q1 : ¬ q = 1) (q2 : ¬ q = 2) : worstV s q = nI (if q - 3 = 0 then lowT s.2.2.2.1 s.2.2.2.2 else lowB s.2.2.2.1 s.2.2.2.2) := by
  unfold worstV
  rw [if_pos h, if_neg q0, if_neg q1, if_neg q2]
theorem rowV_y {n fl a : Nat} {w : tbW} {q : Int32} (ha : a < 6) (h : (isPt q && tIn n (nI a) && decide (fl = n * (n - 1) / 2)) = true) : rowV n w fl (nI a) q = nI (if q = 0 then lowT (rowP w n a).1 (rowP w n a).2 else lowB (rowP w n a).1 (rowP w n a).2) := by
  unfold rowV
  rw [if_pos h, nI_clamp (by omega)]
theorem leaV_2 {g : gS} {n : Nat} {q : Int32} (h : 0 ≤ q ∧ q ≤ 2) (h2 : q = 2) : leaV g n q = nI (rootF g (n - 2) 3 0) := by
  unfold leaV
  rw [if_pos h, if_pos h2]
theorem leaV_1 {g : gS} {n : Nat} {q : Int32} (h : 0 ≤ q ∧ q ≤ 2) (h2 : ¬ q = 2) (h3 : rootF g (n - 2) 3 0 = 0) : leaV g n q = 1 := by
  unfold leaV
  rw [if_pos h, if_neg h2, if_pos h3]
theorem leaV_0 {g : gS} {n : Nat} {q : Int32} (h : 0 ≤ q ∧ q ≤ 2) (h2 : ¬ q = 2) (h3 : ¬ rootF g (n - 2) 3 0 = 0) : leaV g n q = nI (if q = 0 then lowT (g (rootF g (n - 2) 3 0)).1 (g (rootF g (n - 2) 3 0)).2 else lowB (g (rootF g (n - 2) 3 0)).1 (g (rootF g (n - 2) 3 0)).2) := by
  unfold leaV
  rw [if_pos h, if_neg h2, if_neg h3]
end
section
/-! PairScales: contracts, second half. Laid by a program of our own. -/
set_option maxHeartbeats 4000000 in
set_option maxRecDepth 100000 in
theorem y_X8_worst (d : Nat) {hs : xk_H} {x n fl fv : Nat} {w v : tbW} (hn : n ≤ 6) (h2 : 2 ≤ n) (hX : xsA hs x n w fl v fv) (ho : tbOK n w) (hov : tbOK n v) {q : Int32} : xk_Y (d + 6) 0 0 mX8_worst false [.ref x, .int q] hs (fun r' h => (∃ s, woB s ∧ r' = some (.int (worstV (woF w n s) q))) ∧ xsA h x n w fl v fv ∧ xfr (xsS x n) hs h) := by
  obtain ⟨s, hs1, hs2⟩ := hX.2.2.2.1
  have hB := woF_b (s := s) ho
  have hB1 := hB.1
  have hB2 := hB.2
  refine xk_Y.ofX (k := 0) (ls := [some (.ref x), some (.int q)]) (by decide) rfl rfl ?_
  refine xk_iload_n dX8_worst_0 rfl ?_
  refine xk_if_lt 9 dX8_worst_1 (by decide) (fun c1 => ?_) (fun c1 => ?_)
  · have cq : ¬ ((0 ≤ q ∧ q ≤ 4)) := fun z => absurd z.1 (Int32.not_le.mpr c1)
    refine xk_iconst (-1) dX8_worst_9 (by decide) ?_
    exact xk_iret rfl dX8_worst_10 (Nat.le_refl _) (Nat.le_refl _) ⟨⟨s, hs2, by unfold worstV; rw [if_neg (fun z => cq z.1)]⟩, hX, xfr.rf⟩
  · refine xk_iload_n dX8_worst_4 rfl ?_
    refine xk_iconst (4) dX8_worst_5 (by decide) ?_
    refine xk_icmp_le 11 dX8_worst_6 (by decide) (fun c6 => ?_) (fun c6 => ?_)
    · refine xk_aload_n dX8_worst_11 rfl ?_
      refine xk_get (ci := 7) (r := (RX8, TX8, 8)) 3 dX8_worst_12 rfl inX8 (by decide) wf_X8_37 hX.1 rfl ?_
      refine xk_aload_n dX8_worst_15 rfl ?_
      refine xk_get (ci := 7) (r := (RX8, TX8, 8)) 1 dX8_worst_16 rfl inX8 (by decide) wf_X8_27 hX.1 rfl ?_
      refine xk_v1n (M' := mX7_find) (d' := d + 5) (ci := 6) (r0 := (RX7, TX7, 5)) dX8_worst_19 wm_X8_108 cv_X7_find wi_X7_find wl_X7_find (by omega) (Nat.le_refl _) (Nat.le_refl _) rfl rfl hs1 (Nat.le_of_ble_eq_true rfl) (y_X7_find d hn hX.2.1 ho hs1 (by unfold tbS; omega)) (by simp) ?_
      have hX2 := hX.wst (s := woF w n s) h2 hB
      have hs3 : (hs.set (x + 2 * n + 5) (woO n (woF w n s)))[x + 2 * n + 5]? = some (woO n (woF w n s)) := xs_at hs1
      refine xk_aload_n dX8_worst_22 rfl ?_
      refine xk_get (ci := 7) (r := (RX8, TX8, 8)) 3 dX8_worst_23 rfl inX8 (by decide) wf_X8_37 hX2.1 rfl ?_
      refine xk_getN (ci := 6) (r := (RX7, TX7, 5)) (host := "PairScales") 4 dX8_worst_26 rfl inX7 (by decide) (List.mem_of_getElem? (i := 4) rfl) hs3 rfl ?_
      refine xk_lconst (1) dX8_worst_29 (by decide) ?_
      refine xk_lcmp dX8_worst_30 ?_
      refine xk_if_ne 36 dX8_worst_31 (by decide) (fun c31 => ?_) (fun c31 => ?_)
      · have c32 : ¬ ((woF w n s).2.2.2.1 = 0 ∧ (woF w n s).2.2.2.2 = 1) := fun z => c31 ((lg_cmp_eq _ _).mpr (by rw [z.1, z.2]; rfl))
        refine xk_iload_n dX8_worst_36 rfl ?_
        by_cases q0 : q = 0
        · subst q0
          refine xk_tabIn (off := 27) 64 dX8_worst_37 (x := 0) (by decide) (by decide) (by decide) (by decide) ?_
          refine xk_aload_n dX8_worst_64 rfl ?_
          refine xk_get (ci := 7) (r := (RX8, TX8, 8)) 3 dX8_worst_65 rfl inX8 (by decide) wf_X8_37 hX2.1 rfl ?_
          refine xk_getN (ci := 6) (r := (RX7, TX7, 5)) (host := "PairScales") 1 dX8_worst_68 rfl inX7 (by decide) (List.mem_of_getElem? (i := 1) rfl) hs3 rfl ?_
          exact xk_iret rfl dX8_worst_71 (Nat.le_refl _) (Nat.le_refl _) ⟨⟨s, hs2, by unfold worstV; rw [if_pos ⟨⟨Int32.not_lt.mp c1, c6⟩, c32⟩]; rfl⟩, hX2, xfr.rf.set ⟨by omega, by omega⟩⟩
        · by_cases q1 : q = 1
          · subst q1
            refine xk_tabIn (off := 35) 72 dX8_worst_37 (x := 1) (by decide) (by decide) (by decide) (by decide) ?_
            refine xk_aload_n dX8_worst_72 rfl ?_
            refine xk_get (ci := 7) (r := (RX8, TX8, 8)) 3 dX8_worst_73 rfl inX8 (by decide) wf_X8_37 hX2.1 rfl ?_
            refine xk_getN (ci := 6) (r := (RX7, TX7, 5)) (host := "PairScales") 2 dX8_worst_76 rfl inX7 (by decide) (List.mem_of_getElem? (i := 2) rfl) hs3 rfl ?_
            exact xk_iret rfl dX8_worst_79 (Nat.le_refl _) (Nat.le_refl _) ⟨⟨s, hs2, by unfold worstV; rw [if_pos ⟨⟨Int32.not_lt.mp c1, c6⟩, c32⟩]; rfl⟩, hX2, xfr.rf.set ⟨by omega, by omega⟩⟩
          · by_cases q2 : q = 2
            · subst q2
              refine xk_tabIn (off := 43) 80 dX8_worst_37 (x := 2) (by decide) (by decide) (by decide) (by decide) ?_
              refine xk_aload_n dX8_worst_80 rfl ?_
              refine xk_get (ci := 7) (r := (RX8, TX8, 8)) 3 dX8_worst_81 rfl inX8 (by decide) wf_X8_37 hX2.1 rfl ?_
              refine xk_getN (ci := 6) (r := (RX7, TX7, 5)) (host := "PairScales") 3 dX8_worst_84 rfl inX7 (by decide) (List.mem_of_getElem? (i := 3) rfl) hs3 rfl ?_
              exact xk_iret rfl dX8_worst_87 (Nat.le_refl _) (Nat.le_refl _) ⟨⟨s, hs2, by unfold worstV; rw [if_pos ⟨⟨Int32.not_lt.mp c1, c6⟩, c32⟩]; rfl⟩, hX2, xfr.rf.set ⟨by omega, by omega⟩⟩
            · refine xk_tabOut 88 dX8_worst_37 (tab3 q0 q1 q2) (by decide) ?_
              refine xk_aload_n dX8_worst_88 rfl ?_
              refine xk_get (ci := 7) (r := (RX8, TX8, 8)) 3 dX8_worst_89 rfl inX8 (by decide) wf_X8_37 hX2.1 rfl ?_
              refine xk_getN (ci := 6) (r := (RX7, TX7, 5)) (host := "PairScales") 4 dX8_worst_92 rfl inX7 (by decide) (List.mem_of_getElem? (i := 4) rfl) hs3 rfl ?_
              refine xk_iload_n dX8_worst_95 rfl ?_
              refine xk_iconst (3) dX8_worst_96 (by decide) ?_
              refine xk_isub dX8_worst_97 ?_
              refine xk_s2c (M' := mX1_part) (d' := (d + 4) + 1) dX8_worst_98 wm_X8_100 cv_X1_part wt_X1_part (by omega) (Nat.le_refl _) (Nat.le_refl _) (Nat.le_of_ble_eq_true rfl) (y_X1_part (d + 4) (by omega) (by omega)) rfl ?_
              exact xk_iret rfl dX8_worst_101 (Nat.le_refl _) (Nat.le_refl _) ⟨⟨s, hs2, by rw [worstV_3 ⟨⟨Int32.not_lt.mp c1, c6⟩, c32⟩ q0 q1 q2]⟩, hX2, xfr.rf.set ⟨by omega, by omega⟩⟩
      · have c32 : (woF w n s).2.2.2.1 = 0 ∧ (woF w n s).2.2.2.2 = 1 := (fr_inj (by omega) (by omega) (by decide) (by decide)).mp ((lg_cmp_eq _ _).mp c31)
        refine xk_iconst (-1) dX8_worst_34 (by decide) ?_
        exact xk_iret rfl dX8_worst_35 (Nat.le_refl _) (Nat.le_refl _) ⟨⟨s, hs2, by unfold worstV; rw [if_neg (fun z => z.2 c32)]⟩, hX2, xfr.rf.set ⟨by omega, by omega⟩⟩
    · have cq : ¬ ((0 ≤ q ∧ q ≤ 4)) := fun z => absurd z.2 c6
      refine xk_iconst (-1) dX8_worst_9 (by decide) ?_
      exact xk_iret rfl dX8_worst_10 (Nat.le_refl _) (Nat.le_refl _) ⟨⟨s, hs2, by unfold worstV; rw [if_neg (fun z => cq z.1)]⟩, hX, xfr.rf⟩

set_option maxHeartbeats 4000000 in
set_option maxRecDepth 100000 in
/-- productOfRow -/
theorem y_X8_productOfRow (d : Nat) {hs : xk_H} {x n fl fv : Nat} {w v : tbW} (hn : n ≤ 6) (h2 : 2 ≤ n) (hX : xsA hs x n w fl v fv) (ho : tbOK n w) (hov : tbOK n v) {i : Nat} (hi : i < n) : xk_F (d + 3) mX8_productOfRow [.ref x, .int (nI i)] hs (some (.long (fr (rowP w n i).1 (rowP w n i).2))) hs := by
  have l7 : ∀ (r j : Nat) (p : Nat × Nat), j + r = n → rowB j p → itr (fun j p => if tH w i j = true then mul2 p (w i j) else p) r j p = rowP w n i → xk_P (d + 3) mX8_productOfRow [.ref x, .int (nI i)] hs (some (.long (fr (rowP w n i).1 (rowP w n i).2))) hs 7 [some (.ref x), some (.int (nI i)), some (.long (fr p.1 p.2)), none, some (.int (nI j))] [] hs := by
    intro r
    induction r with
    | zero =>
      intro j p h1 h3 h4
      refine xk_iload dX8_productOfRow_7 rfl ?_
      refine xk_aload_n dX8_productOfRow_9 rfl ?_
      refine xk_get (ci := 7) (r := (RX8, TX8, 8)) 0 dX8_productOfRow_10 rfl inX8 (by decide) wf_X8_18 hX.1 rfl ?_
      refine xk_icmp_ge 50 dX8_productOfRow_13 (by decide) (fun c13 => ?_) (fun c13 => ?_)
      · refine xk_lload_n dX8_productOfRow_50 rfl ?_
        exact xk_lret rfl dX8_productOfRow_51 (Nat.le_refl _) (Nat.le_refl _) ⟨by rw [← h4]; rfl, rfl⟩
      · exact absurd (nI_le (by omega) (by omega)) c13
    | succ r ih =>
      intro j p h1 h3 h4
      have hp6 := rowB_6 (show j ≤ 6 by omega) h3
      have hij := ho.lt hi (show j < n by omega)
      have hp5 := rowB_6 (show j ≤ 6 by omega) h3
      have hpj := p9 (show j ≤ 6 by omega)
      have m1 : p.1 * (w i j).1 ≤ 531441 * 9 := Nat.mul_le_mul hp6.1 hij.1
      have m2 : p.2 * (w i j).2 ≤ 531441 * 9 := Nat.mul_le_mul hp6.2 hij.2.1
      have eK := tHas_H (w := w) hn hi (show j < n by omega)
      refine xk_iload dX8_productOfRow_7 rfl ?_
      refine xk_aload_n dX8_productOfRow_9 rfl ?_
      refine xk_get (ci := 7) (r := (RX8, TX8, 8)) 0 dX8_productOfRow_10 rfl inX8 (by decide) wf_X8_18 hX.1 rfl ?_
      refine xk_icmp_ge 50 dX8_productOfRow_13 (by decide) (fun c13 => ?_) (fun c13 => ?_)
      · exact absurd c13 (nI_ge (by omega) (by omega))
      · refine xk_aload_n dX8_productOfRow_16 rfl ?_
        refine xk_get (ci := 7) (r := (RX8, TX8, 8)) 1 dX8_productOfRow_17 rfl inX8 (by decide) wf_X8_27 hX.1 rfl ?_
        refine xk_iload_n dX8_productOfRow_20 rfl ?_
        refine xk_iload dX8_productOfRow_21 rfl ?_
        refine xk_v2 (M' := mX5_holds) (d' := d + 2) (ci := 4) (r0 := (RX5, TX5, 3)) dX8_productOfRow_23 wm_X8_93 cv_X5_holds wi_X5_holds wl_X5_holds (by omega) (Nat.le_refl _) (Nat.le_refl _) rfl rfl hX.2.1.1 (Nat.le_of_ble_eq_true rfl) (y_X5_holds d hn hX.2.1 ho) rfl ?_
        refine xk_ifb_eq 44 dX8_productOfRow_26 (by decide) (fun c26 => ?_) (fun c26 => ?_)
        · rw [eK] at c26
          refine xk_iinc (nI (j + 1)) dX8_productOfRow_44 rfl (nI_1 j) (by decide) ?_
          dsimp only [xk_s1, xk_s2, xk_kill]
          refine xk_goto 7 dX8_productOfRow_47 (by decide) ?_
          have hB := rowB_s ho hi (show j < n by omega) h3
          first
          | (rw [if_pos c26] at hB; exact ih (j + 1) (mul2 p (w i j)) (by omega) hB (by rw [← h4, itr, if_pos c26]))
          | (rw [if_neg (by rw [c26]; decide)] at hB; exact ih (j + 1) p (by omega) hB (by rw [← h4, itr, if_neg (by rw [c26]; decide)]))
        · rw [eK] at c26
          refine xk_lload_n dX8_productOfRow_29 rfl ?_
          refine xk_aload_n dX8_productOfRow_30 rfl ?_
          refine xk_get (ci := 7) (r := (RX8, TX8, 8)) 1 dX8_productOfRow_31 rfl inX8 (by decide) wf_X8_27 hX.1 rfl ?_
          refine xk_iload_n dX8_productOfRow_34 rfl ?_
          refine xk_iload dX8_productOfRow_35 rfl ?_
          refine xk_v2 (M' := mX5_low) (d' := d + 2) (ci := 4) (r0 := (RX5, TX5, 3)) dX8_productOfRow_37 wm_X8_96 cv_X5_low wi_X5_low wl_X5_low (by omega) (Nat.le_refl _) (Nat.le_refl _) rfl rfl hX.2.1.1 (Nat.le_of_ble_eq_true rfl) (y_X5_low d hn hX.2.1) rfl ?_
          rw [tLow_nI hn hi (show j < n by omega) (tH_ne c26)]
          refine xk_s2c (M' := mX1_times) (d' := (d + 1) + 1) dX8_productOfRow_40 wm_X8_169 cv_X1_times wt_X1_times (by omega) (Nat.le_refl _) (Nat.le_refl _) (Nat.le_of_ble_eq_true rfl) (y_X1_times (d + 1) (by omega) (by omega) (by omega) (by omega) (by omega) (by omega)) rfl ?_
          refine xk_lstore_n dX8_productOfRow_43 (by decide) ?_
          dsimp only [xk_s1, xk_s2, xk_kill]
          refine xk_iinc (nI (j + 1)) dX8_productOfRow_44 rfl (nI_1 j) (by decide) ?_
          dsimp only [xk_s1, xk_s2, xk_kill]
          refine xk_goto 7 dX8_productOfRow_47 (by decide) ?_
          have hB := rowB_s ho hi (show j < n by omega) h3
          first
          | (rw [if_pos c26] at hB; exact ih (j + 1) (mul2 p (w i j)) (by omega) hB (by rw [← h4, itr, if_pos c26]))
          | (rw [if_neg (by rw [c26]; decide)] at hB; exact ih (j + 1) p (by omega) hB (by rw [← h4, itr, if_neg (by rw [c26]; decide)]))
  refine xk_Y.ofX (k := 3) (ls := [some (.ref x), some (.int (nI i)), none, none, none]) (by decide) rfl rfl ?_
  refine xk_ldc2 dX8_productOfRow_0 wk_X8_160 ?_
  rw [show (4294967297 : Int64) = fr 1 1 from rfl]
  refine xk_lstore_n dX8_productOfRow_3 (by decide) ?_
  dsimp only [xk_s1, xk_s2, xk_kill]
  refine xk_iconst (0) dX8_productOfRow_4 (by decide) ?_
  refine xk_istore dX8_productOfRow_5 (by decide) ?_
  dsimp only [xk_s1, xk_s2, xk_kill]
  exact l7 n 0 (1, 1) (by omega) ⟨by decide, by decide⟩ rfl

set_option maxHeartbeats 4000000 in
set_option maxRecDepth 100000 in
theorem y_X8_row (d : Nat) {hs : xk_H} {x n fl fv : Nat} {w v : tbW} (hn : n ≤ 6) (h2 : 2 ≤ n) (hX : xsA hs x n w fl v fv) (ho : tbOK n w) (hov : tbOK n v) {i q : Int32} (hfl : fl < 100) : xk_Y (d + 4) 0 0 mX8_row false [.ref x, .int i, .int q] hs (fun r' h => r' = some (.int (rowV n w fl i q)) ∧ xsA h x n w fl v fv ∧ xfr (xsS x n) hs h) := by
  refine xk_Y.ofX (k := 0) (ls := [some (.ref x), some (.int i), some (.int q)]) (by decide) rfl rfl ?_
  refine xk_iload_n dX8_row_0 rfl ?_
  refine xk_s1c (M' := mX8_isPart) (d' := (d + 3)) dX8_row_1 wm_X8_90 cv_X8_isPart wt_X8_isPart (by omega) (Nat.le_refl _) (Nat.le_refl _) (Nat.le_of_ble_eq_true rfl) (y_X8_isPart (d + 3)) rfl ?_
  refine xk_ifb_eq 28 dX8_row_4 (by decide) (fun c4 => ?_) (fun c4 => ?_)
  · refine xk_iconst (-1) dX8_row_28 (by decide) ?_
    exact xk_iret rfl dX8_row_29 (Nat.le_refl _) (Nat.le_refl _) ⟨by rw [rowV_n (by simp [*])], hX, xfr.rf⟩
  · refine xk_aload_n dX8_row_7 rfl ?_
    refine xk_get (ci := 7) (r := (RX8, TX8, 8)) 1 dX8_row_8 rfl inX8 (by decide) wf_X8_27 hX.1 rfl ?_
    refine xk_iload_n dX8_row_11 rfl ?_
    refine xk_v1 (M' := mX5_isThing) (d' := (d + 3)) (ci := 4) (r0 := (RX5, TX5, 3)) dX8_row_12 wm_X8_137 cv_X5_isThing wi_X5_isThing wl_X5_isThing (by omega) (Nat.le_refl _) (Nat.le_refl _) rfl rfl hX.2.1.1 (Nat.le_of_ble_eq_true rfl) (y_X5_isThing (d + 3) hX.2.1) rfl ?_
    refine xk_ifb_eq 28 dX8_row_15 (by decide) (fun c15 => ?_) (fun c15 => ?_)
    · refine xk_iconst (-1) dX8_row_28 (by decide) ?_
      exact xk_iret rfl dX8_row_29 (Nat.le_refl _) (Nat.le_refl _) ⟨by rw [rowV_n (by simp [*])], hX, xfr.rf⟩
    · refine xk_aload_n dX8_row_18 rfl ?_
      refine xk_get (ci := 7) (r := (RX8, TX8, 8)) 1 dX8_row_19 rfl inX8 (by decide) wf_X8_27 hX.1 rfl ?_
      refine xk_v0 (M' := mX5_isFull) (d' := (d + 3)) (ci := 4) (r0 := (RX5, TX5, 3)) dX8_row_22 wm_X8_140 cv_X5_isFull wi_X5_isFull wl_X5_isFull (by omega) (Nat.le_refl _) (Nat.le_refl _) rfl rfl hX.2.1.1 (Nat.le_of_ble_eq_true rfl) (y_X5_isFull (d + 3) hn hX.2.1 h2 hfl) rfl ?_
      refine xk_ifb_ne 30 dX8_row_25 (by decide) (fun c25 => ?_) (fun c25 => ?_)
      · obtain ⟨a, ha, rfl⟩ := tIn_of hn c15
        have bb := rowP_b ho hn ha
        refine xk_aload_n dX8_row_30 rfl ?_
        refine xk_iload_n dX8_row_31 rfl ?_
        refine xk_v1 (M' := mX8_productOfRow) (d' := d + 3) (ci := 7) (r0 := (RX8, TX8, 8)) dX8_row_32 wm_X8_144 cv_X8_productOfRow wi_X8_productOfRow wl_X8_productOfRow (by omega) (Nat.le_refl _) (Nat.le_refl _) rfl rfl hX.1 (Nat.le_of_ble_eq_true rfl) (y_X8_productOfRow d hn h2 hX ho hov ha) rfl ?_
        refine xk_iload_n dX8_row_35 rfl ?_
        refine xk_s2c (M' := mX1_part) (d' := (d + 2) + 1) dX8_row_36 wm_X8_100 cv_X1_part wt_X1_part (by omega) (Nat.le_refl _) (Nat.le_refl _) (Nat.le_of_ble_eq_true rfl) (y_X1_part (d + 2) (by omega) (by omega)) rfl ?_
        exact xk_iret rfl dX8_row_39 (Nat.le_refl _) (Nat.le_refl _) ⟨by rw [rowV_y (by omega) (by rw [c4, c15, c25]; rfl)], hX, xfr.rf⟩
      · refine xk_iconst (-1) dX8_row_28 (by decide) ?_
        exact xk_iret rfl dX8_row_29 (Nat.le_refl _) (Nat.le_refl _) ⟨by rw [rowV_n (by simp [*])], hX, xfr.rf⟩

set_option maxHeartbeats 4000000 in
set_option maxRecDepth 100000 in
theorem y_X8_order (d : Nat) {hs : xk_H} {x n fl fv : Nat} {w v : tbW} (hn : n ≤ 6) (h2 : 2 ≤ n) (hX : xsA hs x n w fl v fv) (ho : tbOK n w) (hov : tbOK n v) {i j : Int32} (hfl : fl < 100) : xk_Y (d + 4) 0 0 mX8_order false [.ref x, .int i, .int j] hs (fun r' h => r' = some (.int (ordV n w fl i j)) ∧ xsA h x n w fl v fv ∧ xfr (xsS x n) hs h) := by
  refine xk_Y.ofX (k := 4) (ls := [some (.ref x), some (.int i), some (.int j), none, none, none, none]) (by decide) rfl rfl ?_
  refine xk_aload_n dX8_order_0 rfl ?_
  refine xk_get (ci := 7) (r := (RX8, TX8, 8)) 1 dX8_order_1 rfl inX8 (by decide) wf_X8_27 hX.1 rfl ?_
  refine xk_iload_n dX8_order_4 rfl ?_
  refine xk_v1 (M' := mX5_isThing) (d' := (d + 3)) (ci := 4) (r0 := (RX5, TX5, 3)) dX8_order_5 wm_X8_137 cv_X5_isThing wi_X5_isThing wl_X5_isThing (by omega) (Nat.le_refl _) (Nat.le_refl _) rfl rfl hX.2.1.1 (Nat.le_of_ble_eq_true rfl) (y_X5_isThing (d + 3) hX.2.1) rfl ?_
  refine xk_ifb_eq 32 dX8_order_8 (by decide) (fun c8 => ?_) (fun c8 => ?_)
  · refine xk_iconst (-1) dX8_order_32 (by decide) ?_
    exact xk_iret rfl dX8_order_33 (Nat.le_refl _) (Nat.le_refl _) ⟨by rw [ordV_n (by simp [*])], hX, xfr.rf⟩
  · refine xk_aload_n dX8_order_11 rfl ?_
    refine xk_get (ci := 7) (r := (RX8, TX8, 8)) 1 dX8_order_12 rfl inX8 (by decide) wf_X8_27 hX.1 rfl ?_
    refine xk_iload_n dX8_order_15 rfl ?_
    refine xk_v1 (M' := mX5_isThing) (d' := (d + 3)) (ci := 4) (r0 := (RX5, TX5, 3)) dX8_order_16 wm_X8_137 cv_X5_isThing wi_X5_isThing wl_X5_isThing (by omega) (Nat.le_refl _) (Nat.le_refl _) rfl rfl hX.2.1.1 (Nat.le_of_ble_eq_true rfl) (y_X5_isThing (d + 3) hX.2.1) rfl ?_
    refine xk_ifb_eq 32 dX8_order_19 (by decide) (fun c19 => ?_) (fun c19 => ?_)
    · refine xk_iconst (-1) dX8_order_32 (by decide) ?_
      exact xk_iret rfl dX8_order_33 (Nat.le_refl _) (Nat.le_refl _) ⟨by rw [ordV_n (by simp [*])], hX, xfr.rf⟩
    · refine xk_aload_n dX8_order_22 rfl ?_
      refine xk_get (ci := 7) (r := (RX8, TX8, 8)) 1 dX8_order_23 rfl inX8 (by decide) wf_X8_27 hX.1 rfl ?_
      refine xk_v0 (M' := mX5_isFull) (d' := (d + 3)) (ci := 4) (r0 := (RX5, TX5, 3)) dX8_order_26 wm_X8_140 cv_X5_isFull wi_X5_isFull wl_X5_isFull (by omega) (Nat.le_refl _) (Nat.le_refl _) rfl rfl hX.2.1.1 (Nat.le_of_ble_eq_true rfl) (y_X5_isFull (d + 3) hn hX.2.1 h2 hfl) rfl ?_
      refine xk_ifb_ne 34 dX8_order_29 (by decide) (fun c29 => ?_) (fun c29 => ?_)
      · obtain ⟨a, ha, rfl⟩ := tIn_of hn c8
        obtain ⟨b, hb, rfl⟩ := tIn_of hn c19
        have ba := rowP_b ho hn ha
        have bb := rowP_b ho hn hb
        have cC : (tIn n (nI a) && tIn n (nI b) && decide (fl = n * (n - 1) / 2)) = true := by rw [c8, c19, c29]; rfl
        have e1 : (nI a).toNatClampNeg = a := nI_clamp (by omega)
        have e2 : (nI b).toNatClampNeg = b := nI_clamp (by omega)
        refine xk_aload_n dX8_order_34 rfl ?_
        refine xk_iload_n dX8_order_35 rfl ?_
        refine xk_v1 (M' := mX8_productOfRow) (d' := d + 3) (ci := 7) (r0 := (RX8, TX8, 8)) dX8_order_36 wm_X8_144 cv_X8_productOfRow wi_X8_productOfRow wl_X8_productOfRow (by omega) (Nat.le_refl _) (Nat.le_refl _) rfl rfl hX.1 (Nat.le_of_ble_eq_true rfl) (y_X8_productOfRow d hn h2 hX ho hov ha) rfl ?_
        refine xk_lstore_n dX8_order_39 (by decide) ?_
        dsimp only [xk_s1, xk_s2, xk_kill]
        refine xk_aload_n dX8_order_40 rfl ?_
        refine xk_iload_n dX8_order_41 rfl ?_
        refine xk_v1 (M' := mX8_productOfRow) (d' := d + 3) (ci := 7) (r0 := (RX8, TX8, 8)) dX8_order_42 wm_X8_144 cv_X8_productOfRow wi_X8_productOfRow wl_X8_productOfRow (by omega) (Nat.le_refl _) (Nat.le_refl _) rfl rfl hX.1 (Nat.le_of_ble_eq_true rfl) (y_X8_productOfRow d hn h2 hX ho hov hb) rfl ?_
        refine xk_lstore dX8_order_45 (by decide) ?_
        dsimp only [xk_s1, xk_s2, xk_kill]
        refine xk_lload_n dX8_order_47 rfl ?_
        refine xk_lload dX8_order_48 rfl ?_
        refine xk_s2c (M' := mX1_isAbove) (d' := (d + 2) + 1) dX8_order_50 wm_X8_148 cv_X1_isAbove wt_X1_isAbove (by omega) (Nat.le_refl _) (Nat.le_refl _) (Nat.le_of_ble_eq_true rfl) (y_X1_isAbove (d + 2) (by omega) (by omega) (by omega) (by omega)) rfl ?_
        refine xk_ifb_eq 58 dX8_order_53 (by decide) (fun c53 => ?_) (fun c53 => ?_)
        · have c54 := of_decide_eq_false c53
          refine xk_lload dX8_order_58 rfl ?_
          refine xk_lload_n dX8_order_60 rfl ?_
          refine xk_s2c (M' := mX1_isAbove) (d' := (d + 2) + 1) dX8_order_61 wm_X8_148 cv_X1_isAbove wt_X1_isAbove (by omega) (Nat.le_refl _) (Nat.le_refl _) (Nat.le_of_ble_eq_true rfl) (y_X1_isAbove (d + 2) (by omega) (by omega) (by omega) (by omega)) rfl ?_
          refine xk_ifb_eq 71 dX8_order_64 (by decide) (fun c64 => ?_) (fun c64 => ?_)
          · have c65 := of_decide_eq_false c64
            refine xk_iconst (0) dX8_order_71 (by decide) ?_
            exact xk_iret rfl dX8_order_72 (Nat.le_refl _) (Nat.le_refl _) ⟨by unfold ordV; rw [if_pos cC, e1, e2, if_neg c54]; first | rw [if_pos c65] | rw [if_neg c65], hX, xfr.rf⟩
          · have c65 := of_decide_eq_true c64
            refine xk_iconst (2) dX8_order_67 (by decide) ?_
            refine xk_goto 72 dX8_order_68 (by decide) ?_
            exact xk_iret rfl dX8_order_72 (Nat.le_refl _) (Nat.le_refl _) ⟨by unfold ordV; rw [if_pos cC, e1, e2, if_neg c54]; first | rw [if_pos c65] | rw [if_neg c65], hX, xfr.rf⟩
        · have c54 := of_decide_eq_true c53
          refine xk_iconst (1) dX8_order_56 (by decide) ?_
          exact xk_iret rfl dX8_order_57 (Nat.le_refl _) (Nat.le_refl _) ⟨by unfold ordV; rw [if_pos cC, e1, e2, if_pos c54], hX, xfr.rf⟩
      · refine xk_iconst (-1) dX8_order_32 (by decide) ?_
        exact xk_iret rfl dX8_order_33 (Nat.le_refl _) (Nat.le_refl _) ⟨by rw [ordV_n (by simp [*])], hX, xfr.rf⟩

set_option maxHeartbeats 4000000 in
set_option maxRecDepth 100000 in
theorem y_X8_span (d : Nat) {hs : xk_H} {x n fl fv : Nat} {w v : tbW} (hn : n ≤ 6) (h2 : 2 ≤ n) (hX : xsA hs x n w fl v fv) (ho : tbOK n w) (hov : tbOK n v) {i j e : Int32} : xk_Y (d + 4) 0 0 mX8_span false [.ref x, .int i, .int j, .int e] hs (fun r' h => r' = some (.int (xk_b (spOk n i j e))) ∧ xsA h x n w fl (spW n v i j e) (spN n v fv i j e) ∧ xfr (xsS x n) hs h) := by
  have cF : spOk n i j e = false → spOk n i j e = false := fun q => q
  have cW : spOk n i j e = false → spW n v i j e = v := fun q => by unfold spW; rw [if_neg (by rw [q]; decide)]
  have cN : spOk n i j e = false → spN n v fv i j e = fv := fun q => by unfold spN; rw [if_neg (by rw [q]; exact fun z => absurd z.1 (by decide))]
  refine xk_Y.ofX (k := 8) (ls := [some (.ref x), some (.int i), some (.int j), some (.int e), none, none, none, none, none, none, none, none]) (by decide) rfl rfl ?_
  refine xk_iload_n dX8_span_0 rfl ?_
  refine xk_sipush (1000) dX8_span_1 (by decide) ?_
  refine xk_idiv dX8_span_4 (by decide) ?_
  refine xk_istore dX8_span_5 (by decide) ?_
  dsimp only [xk_s1, xk_s2, xk_kill]
  refine xk_iload_n dX8_span_7 rfl ?_
  refine xk_bipush (100) dX8_span_8 (by decide) ?_
  refine xk_idiv dX8_span_10 (by decide) ?_
  refine xk_bipush (10) dX8_span_11 (by decide) ?_
  refine xk_irem dX8_span_13 (by decide) ?_
  refine xk_istore dX8_span_14 (by decide) ?_
  dsimp only [xk_s1, xk_s2, xk_kill]
  refine xk_iload_n dX8_span_16 rfl ?_
  refine xk_bipush (10) dX8_span_17 (by decide) ?_
  refine xk_idiv dX8_span_19 (by decide) ?_
  refine xk_bipush (10) dX8_span_20 (by decide) ?_
  refine xk_irem dX8_span_22 (by decide) ?_
  refine xk_istore dX8_span_23 (by decide) ?_
  dsimp only [xk_s1, xk_s2, xk_kill]
  refine xk_iload_n dX8_span_25 rfl ?_
  refine xk_bipush (10) dX8_span_26 (by decide) ?_
  refine xk_irem dX8_span_28 (by decide) ?_
  refine xk_istore dX8_span_29 (by decide) ?_
  dsimp only [xk_s1, xk_s2, xk_kill]
  refine xk_aload_n dX8_span_31 rfl ?_
  refine xk_get (ci := 7) (r := (RX8, TX8, 8)) 2 dX8_span_32 rfl inX8 (by decide) wf_X8_31 hX.1 rfl ?_
  refine xk_iload_n dX8_span_35 rfl ?_
  refine xk_iload_n dX8_span_36 rfl ?_
  refine xk_v2 (M' := mX5_isPair) (d' := (d + 2) + 1) (ci := 4) (r0 := (RX5, TX5, 3)) dX8_span_37 wm_X8_69 cv_X5_isPair wi_X5_isPair wl_X5_isPair (by omega) (Nat.le_refl _) (Nat.le_refl _) rfl rfl hX.2.2.1.1 (Nat.le_of_ble_eq_true rfl) (y_X5_isPair (d + 2) hX.2.2.1) rfl ?_
  refine xk_ifb_eq 75 dX8_span_40 (by decide) (fun c40 => ?_) (fun c40 => ?_)
  · refine xk_iconst (0) dX8_span_75 (by decide) ?_
    exact xk_zret rfl (by rfl) dX8_span_76 (Nat.le_refl _) (Nat.le_refl _) ⟨by rw [xb_f (cF (by unfold spOk spC; simp [*]))], by rw [cW (cF (by unfold spOk spC; simp [*])), cN (cF (by unfold spOk spC; simp [*]))]; exact hX, xfr.rf⟩
  · refine xk_iload dX8_span_43 rfl ?_
    refine xk_s1c (M' := mX8_isDigit) (d' := (d + 3)) dX8_span_45 wm_X8_73 cv_X8_isDigit wt_X8_isDigit (by omega) (Nat.le_refl _) (Nat.le_refl _) (Nat.le_of_ble_eq_true rfl) (y_X8_isDigit (d + 3)) rfl ?_
    refine xk_ifb_eq 75 dX8_span_48 (by decide) (fun c48 => ?_) (fun c48 => ?_)
    · refine xk_iconst (0) dX8_span_75 (by decide) ?_
      exact xk_zret rfl (by rfl) dX8_span_76 (Nat.le_refl _) (Nat.le_refl _) ⟨by rw [xb_f (cF (by unfold spOk spC; simp [*]))], by rw [cW (cF (by unfold spOk spC; simp [*])), cN (cF (by unfold spOk spC; simp [*]))]; exact hX, xfr.rf⟩
    · refine xk_iload dX8_span_51 rfl ?_
      refine xk_s1c (M' := mX8_isDigit) (d' := (d + 3)) dX8_span_53 wm_X8_73 cv_X8_isDigit wt_X8_isDigit (by omega) (Nat.le_refl _) (Nat.le_refl _) (Nat.le_of_ble_eq_true rfl) (y_X8_isDigit (d + 3)) rfl ?_
      refine xk_ifb_eq 75 dX8_span_56 (by decide) (fun c56 => ?_) (fun c56 => ?_)
      · refine xk_iconst (0) dX8_span_75 (by decide) ?_
        exact xk_zret rfl (by rfl) dX8_span_76 (Nat.le_refl _) (Nat.le_refl _) ⟨by rw [xb_f (cF (by unfold spOk spC; simp [*]))], by rw [cW (cF (by unfold spOk spC; simp [*])), cN (cF (by unfold spOk spC; simp [*]))]; exact hX, xfr.rf⟩
      · refine xk_iload dX8_span_59 rfl ?_
        refine xk_s1c (M' := mX8_isDigit) (d' := (d + 3)) dX8_span_61 wm_X8_73 cv_X8_isDigit wt_X8_isDigit (by omega) (Nat.le_refl _) (Nat.le_refl _) (Nat.le_of_ble_eq_true rfl) (y_X8_isDigit (d + 3)) rfl ?_
        refine xk_ifb_eq 75 dX8_span_64 (by decide) (fun c64 => ?_) (fun c64 => ?_)
        · refine xk_iconst (0) dX8_span_75 (by decide) ?_
          exact xk_zret rfl (by rfl) dX8_span_76 (Nat.le_refl _) (Nat.le_refl _) ⟨by rw [xb_f (cF (by unfold spOk spC; simp [*]))], by rw [cW (cF (by unfold spOk spC; simp [*])), cN (cF (by unfold spOk spC; simp [*]))]; exact hX, xfr.rf⟩
        · refine xk_iload dX8_span_67 rfl ?_
          refine xk_s1c (M' := mX8_isDigit) (d' := (d + 3)) dX8_span_69 wm_X8_73 cv_X8_isDigit wt_X8_isDigit (by omega) (Nat.le_refl _) (Nat.le_refl _) (Nat.le_of_ble_eq_true rfl) (y_X8_isDigit (d + 3)) rfl ?_
          refine xk_ifb_ne 77 dX8_span_72 (by decide) (fun c72 => ?_) (fun c72 => ?_)
          · obtain ⟨a, b, ha, hb, hab, rfl, rfl⟩ := tPair_of hn c40
            obtain ⟨p0, hp01, hp02, ep0⟩ := dig_of c48
            obtain ⟨q0, hq01, hq02, eq0⟩ := dig_of c56
            obtain ⟨r0, hr01, hr02, er0⟩ := dig_of c64
            obtain ⟨s0, hs01, hs02, es0⟩ := dig_of c72
            have cC : spC n (nI a) (nI b) e = true := by unfold spC; rw [c40, c48, c56, c64, c72]; rfl
            rw [ep0, eq0, er0, es0]
            have kA : spA e = p0 := by unfold spA; rw [ep0, nI_clamp (by omega)]
            have kB : spB e = q0 := by unfold spB; rw [eq0, nI_clamp (by omega)]
            have kP : spP e = r0 := by unfold spP; rw [er0, nI_clamp (by omega)]
            have kQ : spQ e = s0 := by unfold spQ; rw [es0, nI_clamp (by omega)]
            have e1 : (nI a).toNatClampNeg = a := nI_clamp (by omega)
            have e2 : (nI b).toNatClampNeg = b := nI_clamp (by omega)
            refine xk_iload dX8_span_77 rfl ?_
            refine xk_i2l dX8_span_79 ?_
            rw [nI_l (by omega)]
            refine xk_iload dX8_span_80 rfl ?_
            refine xk_i2l dX8_span_82 ?_
            rw [nI_l (by omega)]
            refine xk_s2c (M' := mX1_of) (d' := (d + 3)) dX8_span_83 wm_X8_77 cv_X1_of wt_X1_of (by omega) (Nat.le_refl _) (Nat.le_refl _) (Nat.le_of_ble_eq_true rfl) (y_X1_of (d + 3) (by omega) (by omega)) rfl ?_
            refine xk_lstore dX8_span_86 (by decide) ?_
            dsimp only [xk_s1, xk_s2, xk_kill]
            refine xk_iload dX8_span_88 rfl ?_
            refine xk_i2l dX8_span_90 ?_
            rw [nI_l (by omega)]
            refine xk_iload dX8_span_91 rfl ?_
            refine xk_i2l dX8_span_93 ?_
            rw [nI_l (by omega)]
            refine xk_s2c (M' := mX1_of) (d' := (d + 3)) dX8_span_94 wm_X8_77 cv_X1_of wt_X1_of (by omega) (Nat.le_refl _) (Nat.le_refl _) (Nat.le_of_ble_eq_true rfl) (y_X1_of (d + 3) (by omega) (by omega)) rfl ?_
            refine xk_lstore dX8_span_97 (by decide) ?_
            dsimp only [xk_s1, xk_s2, xk_kill]
            refine xk_lload dX8_span_99 rfl ?_
            refine xk_lload dX8_span_101 rfl ?_
            refine xk_s2c (M' := mX1_isAbove) (d' := (d + 2) + 1) dX8_span_103 wm_X8_148 cv_X1_isAbove wt_X1_isAbove (by omega) (Nat.le_refl _) (Nat.le_refl _) (Nat.le_of_ble_eq_true rfl) (y_X1_isAbove (d + 2) (by omega) (by omega) (by omega) (by omega)) rfl ?_
            refine xk_ifb_eq 111 dX8_span_106 (by decide) (fun c106 => ?_) (fun c106 => ?_)
            · have c107 := of_decide_eq_false c106
              have cS : spOk n (nI a) (nI b) e = true := by unfold spOk; rw [cC, kA, kB, kP, kQ]; simp only [Bool.true_and, decide_eq_true_eq]; exact c107
              refine xk_aload_n dX8_span_111 rfl ?_
              refine xk_get (ci := 7) (r := (RX8, TX8, 8)) 2 dX8_span_112 rfl inX8 (by decide) wf_X8_31 hX.1 rfl ?_
              refine xk_iload_n dX8_span_115 rfl ?_
              refine xk_iload_n dX8_span_116 rfl ?_
              refine xk_lload dX8_span_117 rfl ?_
              refine xk_lload dX8_span_119 rfl ?_
              refine xk_callV4 (M' := mX5_put) (ci := 4) (r0 := (RX5, TX5, 3)) dX8_span_121 wm_X8_83 cv_X5_put wi_X5_put wl_X5_put (by omega) (Nat.le_refl _) (Nat.le_refl _) rfl rfl hX.2.2.1.1 (Nat.le_of_ble_eq_true rfl) (y_X5_put d hn hX.2.2.1 hov ha hb hab hp02 hq02 hr02 hs02) (fun _ _ z => z.2.2.1) (fun r0 hz z => ?_)
              obtain ⟨rfl, z1, z2⟩ := z
              refine xk_iconst (1) dX8_span_124 (by decide) ?_
              refine xk_zret rfl (by rfl) dX8_span_125 (Nat.le_refl _) (Nat.le_refl _) ⟨by rw [xb_t cS], ?_, z2.mono (by unfold tbS xsS; omega)⟩
              unfold spW spN
              rw [if_pos cS, e1, e2, kA, kB, kP, kQ]
              have hz2 := hX.spn h2 z2 z1
              by_cases c : v a b = (0, 1)
              · rw [if_pos ⟨cS, c⟩]
                rw [if_pos c] at hz2
                exact hz2
              · rw [if_neg (fun q => c q.2)]
                rw [if_neg c] at hz2
                exact hz2
            · have c107 := of_decide_eq_true c106
              have cS : spOk n (nI a) (nI b) e = false := by unfold spOk; rw [cC, kA, kB, kP, kQ]; simp only [Bool.true_and, decide_eq_false_iff_not]; exact fun z => z c107
              refine xk_iconst (0) dX8_span_109 (by decide) ?_
              exact xk_zret rfl (by rfl) dX8_span_110 (Nat.le_refl _) (Nat.le_refl _) ⟨by rw [xb_f (cF (cS))], by rw [cW (cF (cS)), cN (cF (cS))]; exact hX, xfr.rf⟩
          · refine xk_iconst (0) dX8_span_75 (by decide) ?_
            exact xk_zret rfl (by rfl) dX8_span_76 (Nat.le_refl _) (Nat.le_refl _) ⟨by rw [xb_f (cF (by unfold spOk spC; simp [*]))], by rw [cW (cF (by unfold spOk spC; simp [*])), cN (cF (by unfold spOk spC; simp [*]))]; exact hX, xfr.rf⟩
end
section
/-! PairScales: ways and roots. Laid by a program of our own. -/
set_option maxHeartbeats 4000000 in
set_option maxRecDepth 100000 in
/-- greatestWay, by how many things are free still -/
theorem y_X8_greatestWay (d : Nat) {hs : xk_H} {x n fl fv : Nat} {w v : tbW} (hn : n ≤ 6) (h2 : 2 ≤ n) (hX : xsA hs x n w fl v fv) (ho : tbOK n w) (hov : tbOK n v) {gl : Nat} (hgl : gl < n) : ∀ (f a m z : Nat) (p : Nat × Nat), a < n → m < 64 → z + f = n → pB z p → xk_F (d + 3 + f) mX8_greatestWay [.ref x, .int (nI a), .int (nI gl), .int (nI m), .int (nI z), .long (fr p.1 p.2)] hs (some (.long (fr (wayF v n gl f a m p).1 (wayF v n gl f a m p).2))) hs := by
  intro f
  induction f with
  | zero =>
    intro a m z p ha hm hz hp
    have hc : nI a = nI gl ↔ a = gl := nI_eq (by omega) (by omega)
    refine xk_Y.ofX (k := 7) (ls := [some (.ref x), some (.int (nI a)), some (.int (nI gl)), some (.int (nI m)), some (.int (nI z)), some (.long (fr p.1 p.2)), none, none, none, none, none, none, none, none]) (by decide) rfl rfl ?_
    refine xk_iload_n dX8_greatestWay_0 rfl ?_
    refine xk_iload_n dX8_greatestWay_1 rfl ?_
    refine xk_icmp_ne 8 dX8_greatestWay_2 (by decide) (fun c2 => ?_) (fun c2 => ?_)
    · have c3 : ¬ a = gl := fun q => c2 (hc.mpr q)
      refine xk_lconst (1) dX8_greatestWay_8 (by decide) ?_
      refine xk_lstore dX8_greatestWay_9 (by decide) ?_
      dsimp only [xk_s1, xk_s2, xk_kill]
      refine xk_iload dX8_greatestWay_11 rfl ?_
      refine xk_aload_n dX8_greatestWay_13 rfl ?_
      refine xk_get (ci := 7) (r := (RX8, TX8, 8)) 0 dX8_greatestWay_14 rfl inX8 (by decide) wf_X8_18 hX.1 rfl ?_
      refine xk_icmp_lt 23 dX8_greatestWay_17 (by decide) (fun c17 => ?_) (fun c17 => ?_)
      · exact absurd c17 (nI_nlt (by omega) (by omega))
      · refine xk_lload dX8_greatestWay_20 rfl ?_
        exact xk_lret rfl dX8_greatestWay_22 (Nat.le_refl _) (Nat.le_refl _) ⟨by rw [wayF, if_neg c3]; rfl, rfl⟩
    · have c3 : a = gl := hc.mp c2
      refine xk_lload dX8_greatestWay_5 rfl ?_
      exact xk_lret rfl dX8_greatestWay_7 (Nat.le_refl _) (Nat.le_refl _) ⟨by rw [wayF, if_pos c3], rfl⟩
  | succ f ih =>
    intro a m z p ha hm hz hp
    have hc : nI a = nI gl ↔ a = gl := nI_eq (by omega) (by omega)
    have hp6 := pB_6 (show z ≤ 6 by omega) hp
    have h96 := p9 (show z ≤ 6 by omega)
    have l26 : ¬ a = gl → ∀ (r k : Nat) (b : Nat × Nat) (o10 o12 : Option Value), k + r = n → b6 b → itr (fun k b => if m.testBit k = false ∧ tH v a k = true then maxP b (wayF v n gl f k (m ||| 2 ^ k) (mul2 p (v a k))) else b) r k b = wayF v n gl (f + 1) a m p → xk_P (d + 3 + (f + 1)) mX8_greatestWay [.ref x, .int (nI a), .int (nI gl), .int (nI m), .int (nI z), .long (fr p.1 p.2)] hs (some (.long (fr (wayF v n gl (f + 1) a m p).1 (wayF v n gl (f + 1) a m p).2))) hs 26 [some (.ref x), some (.int (nI a)), some (.int (nI gl)), some (.int (nI m)), some (.int (nI z)), some (.long (fr p.1 p.2)), none, some (.long (fr b.1 b.2)), none, some (.int (nI k)), o10, none, o12, none] [] hs := by
      intro c3 r
      induction r with
      | zero =>
        intro k b o10 o12 h1 h3 h4
        refine xk_iload dX8_greatestWay_26 rfl ?_
        refine xk_aload_n dX8_greatestWay_28 rfl ?_
        refine xk_get (ci := 7) (r := (RX8, TX8, 8)) 0 dX8_greatestWay_29 rfl inX8 (by decide) wf_X8_18 hX.1 rfl ?_
        refine xk_icmp_ge 115 dX8_greatestWay_32 (by decide) (fun c32 => ?_) (fun c32 => ?_)
        · refine xk_lload dX8_greatestWay_115 rfl ?_
          exact xk_lret rfl dX8_greatestWay_117 (Nat.le_refl _) (Nat.le_refl _) ⟨by rw [← h4]; rfl, rfl⟩
        · exact absurd (nI_le (by omega) (by omega)) c32
      | succ r ihr =>
        intro k b o10 o12 h1 h3 h4
        have hmk := mk_all m hm k (by omega)
        have hbk := hov.lt ha (show k < n by omega)
        have hqk := pB_mul hp hbk.1 hbk.2.1
        have hqk1 : p.1 * (v a k).1 ≤ 531441 := Nat.le_trans hqk.1 h96
        have hqk2 : p.2 * (v a k).2 ≤ 531441 := Nat.le_trans hqk.2 h96
        have eK := tHas_H (w := v) hn ha (show k < n by omega)
        have hy := wayF_b (goal := gl) hov hn f k (m ||| 2 ^ k) (z + 1) (mul2 p (v a k)) (by omega) (by omega) (pB_s hp hbk.1 hbk.2.1)
        have hy1 := hy.1
        have hy2 := hy.2
        have hb1 := h3.1
        have hb2 := h3.2
        refine xk_iload dX8_greatestWay_26 rfl ?_
        refine xk_aload_n dX8_greatestWay_28 rfl ?_
        refine xk_get (ci := 7) (r := (RX8, TX8, 8)) 0 dX8_greatestWay_29 rfl inX8 (by decide) wf_X8_18 hX.1 rfl ?_
        refine xk_icmp_ge 115 dX8_greatestWay_32 (by decide) (fun c32 => ?_) (fun c32 => ?_)
        · exact absurd c32 (nI_ge (by omega) (by omega))
        · refine xk_iload_n dX8_greatestWay_35 rfl ?_
          refine xk_iload dX8_greatestWay_36 rfl ?_
          refine xk_ishr dX8_greatestWay_38 ?_
          refine xk_iconst (1) dX8_greatestWay_39 (by decide) ?_
          refine xk_iand dX8_greatestWay_40 ?_
          refine xk_if_ne 109 dX8_greatestWay_41 (by decide) (fun c41 => ?_) (fun c41 => ?_)
          · have c64 : ¬ m.testBit k = false := fun q => c41 (hmk.1.mpr q)
            refine xk_iinc (nI (k + 1)) dX8_greatestWay_109 rfl (nI_1 k) (by decide) ?_
            dsimp only [xk_s1, xk_s2, xk_kill]
            refine xk_goto 26 dX8_greatestWay_112 (by decide) ?_
            first
            | (have q9 : b.1 * (wayF v n gl f k (m ||| 2 ^ k) (mul2 p (v a k))).2 < (wayF v n gl f k (m ||| 2 ^ k) (mul2 p (v a k))).1 * b.2 := c103; refine ihr (k + 1) (wayF v n gl f k (m ||| 2 ^ k) (mul2 p (v a k))) _ _ (by omega) hy ?_; rw [← h4, itr, if_pos ⟨c64, c54⟩, maxP, if_pos c103]; done)
            | (have q9 : ¬ b.1 * (wayF v n gl f k (m ||| 2 ^ k) (mul2 p (v a k))).2 < (wayF v n gl f k (m ||| 2 ^ k) (mul2 p (v a k))).1 * b.2 := c103; refine ihr (k + 1) b _ _ (by omega) h3 ?_; rw [← h4, itr, if_pos ⟨c64, c54⟩, maxP, if_neg c103]; done)
            | (have q9 : ¬ m.testBit k = false := c64; refine ihr (k + 1) b _ _ (by omega) h3 ?_; rw [← h4, itr, if_neg (fun q => c64 q.1)]; done)
            | (refine ihr (k + 1) b _ _ (by omega) h3 ?_; rw [← h4, itr, if_neg (fun q => absurd q.2 (by rw [c54]; decide))]; done)
          · have c64 : m.testBit k = false := hmk.1.mp c41
            refine xk_aload_n dX8_greatestWay_44 rfl ?_
            refine xk_get (ci := 7) (r := (RX8, TX8, 8)) 2 dX8_greatestWay_45 rfl inX8 (by decide) wf_X8_31 hX.1 rfl ?_
            refine xk_iload_n dX8_greatestWay_48 rfl ?_
            refine xk_iload dX8_greatestWay_49 rfl ?_
            refine xk_v2 (M' := mX5_holds)  (ci := 4) (r0 := (RX5, TX5, 3)) dX8_greatestWay_51 wm_X8_93 cv_X5_holds wi_X5_holds wl_X5_holds (by omega) (Nat.le_refl _) (Nat.le_refl _) rfl rfl hX.2.2.1.1 (Nat.le_of_ble_eq_true rfl) (y_X5_holds (d + f + 1) hn hX.2.2.1 hov) rfl ?_
            refine xk_ifb_eq 109 dX8_greatestWay_54 (by decide) (fun c54 => ?_) (fun c54 => ?_)
            · rw [eK] at c54
              refine xk_iinc (nI (k + 1)) dX8_greatestWay_109 rfl (nI_1 k) (by decide) ?_
              dsimp only [xk_s1, xk_s2, xk_kill]
              refine xk_goto 26 dX8_greatestWay_112 (by decide) ?_
              first
              | (have q9 : b.1 * (wayF v n gl f k (m ||| 2 ^ k) (mul2 p (v a k))).2 < (wayF v n gl f k (m ||| 2 ^ k) (mul2 p (v a k))).1 * b.2 := c103; refine ihr (k + 1) (wayF v n gl f k (m ||| 2 ^ k) (mul2 p (v a k))) _ _ (by omega) hy ?_; rw [← h4, itr, if_pos ⟨c64, c54⟩, maxP, if_pos c103]; done)
              | (have q9 : ¬ b.1 * (wayF v n gl f k (m ||| 2 ^ k) (mul2 p (v a k))).2 < (wayF v n gl f k (m ||| 2 ^ k) (mul2 p (v a k))).1 * b.2 := c103; refine ihr (k + 1) b _ _ (by omega) h3 ?_; rw [← h4, itr, if_pos ⟨c64, c54⟩, maxP, if_neg c103]; done)
              | (have q9 : ¬ m.testBit k = false := c64; refine ihr (k + 1) b _ _ (by omega) h3 ?_; rw [← h4, itr, if_neg (fun q => c64 q.1)]; done)
              | (refine ihr (k + 1) b _ _ (by omega) h3 ?_; rw [← h4, itr, if_neg (fun q => absurd q.2 (by rw [c54]; decide))]; done)
            · rw [eK] at c54
              refine xk_lload dX8_greatestWay_57 rfl ?_
              refine xk_aload_n dX8_greatestWay_59 rfl ?_
              refine xk_get (ci := 7) (r := (RX8, TX8, 8)) 2 dX8_greatestWay_60 rfl inX8 (by decide) wf_X8_31 hX.1 rfl ?_
              refine xk_iload_n dX8_greatestWay_63 rfl ?_
              refine xk_iload dX8_greatestWay_64 rfl ?_
              refine xk_v2 (M' := mX5_low)  (ci := 4) (r0 := (RX5, TX5, 3)) dX8_greatestWay_66 wm_X8_96 cv_X5_low wi_X5_low wl_X5_low (by omega) (Nat.le_refl _) (Nat.le_refl _) rfl rfl hX.2.2.1.1 (Nat.le_of_ble_eq_true rfl) (y_X5_low (d + f + 1) hn hX.2.2.1) rfl ?_
              rw [tLow_nI hn ha (show k < n by omega) (tH_ne c54)]
              refine xk_s2c (M' := mX1_times)  dX8_greatestWay_69 wm_X8_169 cv_X1_times wt_X1_times (by omega) (Nat.le_refl _) (Nat.le_refl _) (Nat.le_of_ble_eq_true rfl) (y_X1_times (d + f + 2) (by omega) (by omega) (by omega) (by omega) (by omega) (by omega)) rfl ?_
              refine xk_lstore dX8_greatestWay_72 (by decide) ?_
              dsimp only [xk_s1, xk_s2, xk_kill]
              refine xk_aload_n dX8_greatestWay_74 rfl ?_
              refine xk_iload dX8_greatestWay_75 rfl ?_
              refine xk_iload_n dX8_greatestWay_77 rfl ?_
              refine xk_iload_n dX8_greatestWay_78 rfl ?_
              refine xk_iconst (1) dX8_greatestWay_79 (by decide) ?_
              refine xk_iload dX8_greatestWay_80 rfl ?_
              refine xk_ishl dX8_greatestWay_82 ?_
              refine xk_ior dX8_greatestWay_83 ?_
              rw [hmk.2.1]
              refine xk_iload dX8_greatestWay_84 rfl ?_
              refine xk_iconst (1) dX8_greatestWay_86 (by decide) ?_
              refine xk_iadd dX8_greatestWay_87 ?_
              rw [nI_1]
              refine xk_lload dX8_greatestWay_88 rfl ?_
              refine xk_v5 (M' := mX8_greatestWay)  (ci := 7) (r0 := (RX8, TX8, 8)) dX8_greatestWay_90 wm_X8_162 cv_X8_greatestWay wi_X8_greatestWay wl_X8_greatestWay (by omega) (Nat.le_refl _) (Nat.le_refl _) rfl rfl hX.1 (Nat.le_of_ble_eq_true rfl) (ih k (m ||| 2 ^ k) (z + 1) (mul2 p (v a k)) (by omega) hmk.2.2.1 (by omega) (pB_s hp hbk.1 hbk.2.1)) rfl ?_
              refine xk_lstore dX8_greatestWay_93 (by decide) ?_
              dsimp only [xk_s1, xk_s2, xk_kill]
              refine xk_lload dX8_greatestWay_95 rfl ?_
              refine xk_lload dX8_greatestWay_97 rfl ?_
              refine xk_s2c (M' := mX1_isAbove)  dX8_greatestWay_99 wm_X8_148 cv_X1_isAbove wt_X1_isAbove (by omega) (Nat.le_refl _) (Nat.le_refl _) (Nat.le_of_ble_eq_true rfl) (y_X1_isAbove (d + f + 2) (by omega) (by omega) (by omega) (by omega)) rfl ?_
              refine xk_ifb_eq 109 dX8_greatestWay_102 (by decide) (fun c102 => ?_) (fun c102 => ?_)
              · have c103 := of_decide_eq_false c102
                refine xk_iinc (nI (k + 1)) dX8_greatestWay_109 rfl (nI_1 k) (by decide) ?_
                dsimp only [xk_s1, xk_s2, xk_kill]
                refine xk_goto 26 dX8_greatestWay_112 (by decide) ?_
                first
                | (have q9 : b.1 * (wayF v n gl f k (m ||| 2 ^ k) (mul2 p (v a k))).2 < (wayF v n gl f k (m ||| 2 ^ k) (mul2 p (v a k))).1 * b.2 := c103; refine ihr (k + 1) (wayF v n gl f k (m ||| 2 ^ k) (mul2 p (v a k))) _ _ (by omega) hy ?_; rw [← h4, itr, if_pos ⟨c64, c54⟩, maxP, if_pos c103]; done)
                | (have q9 : ¬ b.1 * (wayF v n gl f k (m ||| 2 ^ k) (mul2 p (v a k))).2 < (wayF v n gl f k (m ||| 2 ^ k) (mul2 p (v a k))).1 * b.2 := c103; refine ihr (k + 1) b _ _ (by omega) h3 ?_; rw [← h4, itr, if_pos ⟨c64, c54⟩, maxP, if_neg c103]; done)
                | (have q9 : ¬ m.testBit k = false := c64; refine ihr (k + 1) b _ _ (by omega) h3 ?_; rw [← h4, itr, if_neg (fun q => c64 q.1)]; done)
                | (refine ihr (k + 1) b _ _ (by omega) h3 ?_; rw [← h4, itr, if_neg (fun q => absurd q.2 (by rw [c54]; decide))]; done)
              · have c103 := of_decide_eq_true c102
                refine xk_lload dX8_greatestWay_105 rfl ?_
                refine xk_lstore dX8_greatestWay_107 (by decide) ?_
                dsimp only [xk_s1, xk_s2, xk_kill]
                refine xk_iinc (nI (k + 1)) dX8_greatestWay_109 rfl (nI_1 k) (by decide) ?_
                dsimp only [xk_s1, xk_s2, xk_kill]
                refine xk_goto 26 dX8_greatestWay_112 (by decide) ?_
                first
                | (have q9 : b.1 * (wayF v n gl f k (m ||| 2 ^ k) (mul2 p (v a k))).2 < (wayF v n gl f k (m ||| 2 ^ k) (mul2 p (v a k))).1 * b.2 := c103; refine ihr (k + 1) (wayF v n gl f k (m ||| 2 ^ k) (mul2 p (v a k))) _ _ (by omega) hy ?_; rw [← h4, itr, if_pos ⟨c64, c54⟩, maxP, if_pos c103]; done)
                | (have q9 : ¬ b.1 * (wayF v n gl f k (m ||| 2 ^ k) (mul2 p (v a k))).2 < (wayF v n gl f k (m ||| 2 ^ k) (mul2 p (v a k))).1 * b.2 := c103; refine ihr (k + 1) b _ _ (by omega) h3 ?_; rw [← h4, itr, if_pos ⟨c64, c54⟩, maxP, if_neg c103]; done)
                | (have q9 : ¬ m.testBit k = false := c64; refine ihr (k + 1) b _ _ (by omega) h3 ?_; rw [← h4, itr, if_neg (fun q => c64 q.1)]; done)
                | (refine ihr (k + 1) b _ _ (by omega) h3 ?_; rw [← h4, itr, if_neg (fun q => absurd q.2 (by rw [c54]; decide))]; done)
    refine xk_Y.ofX (k := 7) (ls := [some (.ref x), some (.int (nI a)), some (.int (nI gl)), some (.int (nI m)), some (.int (nI z)), some (.long (fr p.1 p.2)), none, none, none, none, none, none, none, none]) (by decide) rfl rfl ?_
    refine xk_iload_n dX8_greatestWay_0 rfl ?_
    refine xk_iload_n dX8_greatestWay_1 rfl ?_
    refine xk_icmp_ne 8 dX8_greatestWay_2 (by decide) (fun c2 => ?_) (fun c2 => ?_)
    · have c3 : ¬ a = gl := fun q => c2 (hc.mpr q)
      refine xk_lconst (1) dX8_greatestWay_8 (by decide) ?_
      rw [show (1 : Int64) = fr 0 1 from rfl]
      refine xk_lstore dX8_greatestWay_9 (by decide) ?_
      dsimp only [xk_s1, xk_s2, xk_kill]
      refine xk_iload dX8_greatestWay_11 rfl ?_
      refine xk_aload_n dX8_greatestWay_13 rfl ?_
      refine xk_get (ci := 7) (r := (RX8, TX8, 8)) 0 dX8_greatestWay_14 rfl inX8 (by decide) wf_X8_18 hX.1 rfl ?_
      refine xk_icmp_lt 23 dX8_greatestWay_17 (by decide) (fun c17 => ?_) (fun c17 => ?_)
      · refine xk_iconst (0) dX8_greatestWay_23 (by decide) ?_
        refine xk_istore dX8_greatestWay_24 (by decide) ?_
        dsimp only [xk_s1, xk_s2, xk_kill]
        exact l26 c3 n 0 (0, 1) _ _ (by omega) ⟨by decide, by decide⟩ (by rw [wayF, if_neg c3])
      · exact absurd (nI_lt (by omega) (by omega)) c17
    · have c3 : a = gl := hc.mp c2
      refine xk_lload dX8_greatestWay_5 rfl ?_
      exact xk_lret rfl dX8_greatestWay_7 (Nat.le_refl _) (Nat.le_refl _) ⟨by rw [wayF, if_pos c3], rfl⟩

set_option maxHeartbeats 4000000 in
set_option maxRecDepth 100000 in
theorem y_X8_bound (d : Nat) {hs : xk_H} {x n fl fv : Nat} {w v : tbW} (hn : n ≤ 6) (h2 : 2 ≤ n) (hX : xsA hs x n w fl v fv) (ho : tbOK n w) (hov : tbOK n v) {i j q : Int32} : xk_Y (d + 11) 0 0 mX8_bound false [.ref x, .int i, .int j, .int q] hs (fun r' h => (∃ g, gB g ∧ r' = some (.int (bndV n v (noneG (measG v n g) (n - 2) 3) i j q))) ∧ xsA h x n w fl v fv ∧ xfr (xsS x n) hs h) := by
  obtain ⟨hg0, g, hg1, hg2⟩ := hX.2.2.2.2.1
  refine xk_Y.ofX (k := 2) (ls := [some (.ref x), some (.int i), some (.int j), some (.int q), none, none]) (by decide) rfl rfl ?_
  refine xk_iload_n dX8_bound_0 rfl ?_
  refine xk_s1c (M' := mX8_isPart) (d' := (d + 10)) dX8_bound_1 wm_X8_90 cv_X8_isPart wt_X8_isPart (by omega) (Nat.le_refl _) (Nat.le_refl _) (Nat.le_of_ble_eq_true rfl) (y_X8_isPart (d + 10)) rfl ?_
  refine xk_ifb_eq 33 dX8_bound_4 (by decide) (fun c4 => ?_) (fun c4 => ?_)
  · refine xk_iconst (-1) dX8_bound_33 (by decide) ?_
    exact xk_iret rfl dX8_bound_34 (Nat.le_refl _) (Nat.le_refl _) ⟨⟨g, hg2, by rw [bndV_n (by simp [*])]⟩, hX, xfr.rf⟩
  · refine xk_aload_n dX8_bound_7 rfl ?_
    refine xk_get (ci := 7) (r := (RX8, TX8, 8)) 2 dX8_bound_8 rfl inX8 (by decide) wf_X8_31 hX.1 rfl ?_
    refine xk_iload_n dX8_bound_11 rfl ?_
    refine xk_iload_n dX8_bound_12 rfl ?_
    refine xk_v2 (M' := mX5_isPair) (d' := (d + 9) + 1) (ci := 4) (r0 := (RX5, TX5, 3)) dX8_bound_13 wm_X8_69 cv_X5_isPair wi_X5_isPair wl_X5_isPair (by omega) (Nat.le_refl _) (Nat.le_refl _) rfl rfl hX.2.2.1.1 (Nat.le_of_ble_eq_true rfl) (y_X5_isPair (d + 9) hX.2.2.1) rfl ?_
    refine xk_ifb_eq 33 dX8_bound_16 (by decide) (fun c16 => ?_) (fun c16 => ?_)
    · refine xk_iconst (-1) dX8_bound_33 (by decide) ?_
      exact xk_iret rfl dX8_bound_34 (Nat.le_refl _) (Nat.le_refl _) ⟨⟨g, hg2, by rw [bndV_n (by simp [*])]⟩, hX, xfr.rf⟩
    · refine xk_aload_n dX8_bound_19 rfl ?_
      refine xk_get (ci := 7) (r := (RX8, TX8, 8)) 4 dX8_bound_20 rfl inX8 (by decide) wf_X8_44 hX.1 rfl ?_
      refine xk_aload_n dX8_bound_23 rfl ?_
      refine xk_get (ci := 7) (r := (RX8, TX8, 8)) 2 dX8_bound_24 rfl inX8 (by decide) wf_X8_31 hX.1 rfl ?_
      refine xk_v1 (M' := mX3_noneAboveOne) (d' := d + 10) (ci := 2) (r0 := (RX3, TX3, 2)) dX8_bound_27 wm_X8_104 cv_X3_noneAboveOne wi_X3_noneAboveOne wl_X3_noneAboveOne (by omega) (Nat.le_refl _) (Nat.le_refl _) rfl rfl hX.2.2.2.2.1.1 (Nat.le_of_ble_eq_true rfl) (y_X3_noneAboveOne d hn h2 hX.2.2.1 hov hg0 hg1 hg2 (by unfold tbS; omega)) (by simp) ?_
      have hX2 := hX.rng h2 (gB_meas (g := g) hov hn hg2)
      refine xk_ifb_ne 35 dX8_bound_30 (by decide) (fun c30 => ?_) (fun c30 => ?_)
      · obtain ⟨a, b, ha, hb, hab, rfl, rfl⟩ := tPair_of hn c16
        have hmk := mk_all 0 (by decide) a (by omega)
        have e1 : (nI a).toNatClampNeg = a := nI_clamp (by omega)
        have e2 : (nI b).toNatClampNeg = b := nI_clamp (by omega)
        obtain ⟨y0, hy0⟩ : ∃ y, y = wayF v n b (n - 1) a (2 ^ a) (1, 1) := ⟨_, rfl⟩
        have hyb := wayF_b (goal := b) hov hn (n - 1) a (2 ^ a) 1 (1, 1) ha (by omega) ⟨by decide, by decide⟩
        have hyb1 := hyb.1
        have hyb2 := hyb.2
        have cC : (isPt q && tPair n (nI a) (nI b) && noneG (measG v n g) (n - 2) 3) = true := by rw [c4, c16, c30]; rfl
        refine xk_aload_n dX8_bound_35 rfl ?_
        refine xk_iload_n dX8_bound_36 rfl ?_
        refine xk_iload_n dX8_bound_37 rfl ?_
        refine xk_iconst (1) dX8_bound_38 (by decide) ?_
        refine xk_iload_n dX8_bound_39 rfl ?_
        refine xk_ishl dX8_bound_40 ?_
        rw [hmk.2.2.2]
        refine xk_iconst (1) dX8_bound_41 (by decide) ?_
        refine xk_ldc2 dX8_bound_42 wk_X8_160 ?_
        rw [show (4294967297 : Int64) = fr 1 1 from rfl]
        refine xk_v5 (M' := mX8_greatestWay)  (ci := 7) (r0 := (RX8, TX8, 8)) dX8_bound_45 wm_X8_162 cv_X8_greatestWay wi_X8_greatestWay wl_X8_greatestWay (by omega) (Nat.le_refl _) (Nat.le_refl _) rfl rfl hX2.1 (Nat.le_of_ble_eq_true rfl) (y_X8_greatestWay d hn h2 hX2 ho hov hb (n - 1) a (2 ^ a) 1 (1, 1) ha (Nat.lt_of_le_of_lt (Nat.pow_le_pow_right (by decide) (show a ≤ 5 by omega)) (by decide)) (by omega) ⟨by decide, by decide⟩) rfl ?_
        refine xk_lstore dX8_bound_48 (by decide) ?_
        dsimp only [xk_s1, xk_s2, xk_kill]
        refine xk_lload dX8_bound_50 rfl ?_
        refine xk_lconst (1) dX8_bound_52 (by decide) ?_
        refine xk_lcmp dX8_bound_53 ?_
        refine xk_if_ne 61 dX8_bound_54 (by decide) (fun c54 => ?_) (fun c54 => ?_)
        · have c55 : ¬ wayF v n b (n - 1) a (2 ^ a) (1, 1) = (0, 1) := fun z => c54 ((lg_cmp_eq _ _).mpr (by rw [z]; rfl))
          refine xk_lload dX8_bound_61 rfl ?_
          refine xk_iload_n dX8_bound_63 rfl ?_
          refine xk_s2c (M' := mX1_part) (d' := (d + 9) + 1) dX8_bound_64 wm_X8_100 cv_X1_part wt_X1_part (by omega) (Nat.le_refl _) (Nat.le_refl _) (Nat.le_of_ble_eq_true rfl) (y_X1_part (d + 9) (by omega) (by omega)) rfl ?_
          exact xk_iret rfl dX8_bound_67 (Nat.le_refl _) (Nat.le_refl _) ⟨⟨g, hg2, by unfold bndV; rw [if_pos cC, e1, e2]; first | (rw [if_pos c55]; done) | (rw [if_neg c55]; done)⟩, hX2, xfr.rf.set ⟨by omega, by omega⟩⟩
        · have c55 : wayF v n b (n - 1) a (2 ^ a) (1, 1) = (0, 1) := by
            have h9 := (fr_inj (p := (wayF v n b (n - 1) a (2 ^ a) (1, 1)).1) (q := (wayF v n b (n - 1) a (2 ^ a) (1, 1)).2) (r := 0) (s := 1) (by omega) (by omega) (by decide) (by decide)).mp ((lg_cmp_eq _ _).mp c54)
            exact Prod.ext h9.1 h9.2
          refine xk_iconst (-1) dX8_bound_57 (by decide) ?_
          refine xk_goto 67 dX8_bound_58 (by decide) ?_
          exact xk_iret rfl dX8_bound_67 (Nat.le_refl _) (Nat.le_refl _) ⟨⟨g, hg2, by unfold bndV; rw [if_pos cC, e1, e2]; first | (rw [if_pos c55]; done) | (rw [if_neg c55]; done)⟩, hX2, xfr.rf.set ⟨by omega, by omega⟩⟩
      · refine xk_iconst (-1) dX8_bound_33 (by decide) ?_
        exact xk_iret rfl dX8_bound_34 (Nat.le_refl _) (Nat.le_refl _) ⟨⟨g, hg2, by rw [bndV_n (by simp [*])]⟩, hX2, xfr.rf.set ⟨by omega, by omega⟩⟩

set_option maxHeartbeats 4000000 in
set_option maxRecDepth 100000 in
/-- sizeOfGreatestRoot -/
theorem y_X8_sizeOfGreatestRoot (d : Nat) {hs : xk_H} {x n fl fv : Nat} {w v : tbW} (hn : n ≤ 6) (h2 : 2 ≤ n) (hX : xsA hs x n w fl v fv) (ho : tbOK n w) (hov : tbOK n v) : xk_Y (d + 10) 0 0 mX8_sizeOfGreatestRoot false [.ref x] hs (fun r' h => ∃ g, gB g ∧ r' = some (.int (nI (rootF (measG w n g) (n - 2) 3 0))) ∧ xsA h x n w fl v fv ∧ xfr (xsS x n) hs h ∧ h[x + 2 * n + 6 + 1]? = some (gw n (measG w n g))) := by
  obtain ⟨hg0, g, hg1, hg2⟩ := hX.2.2.2.2.1
  have hB2 := gB_meas (g := g) ho hn hg2
  have hZ := gZ_meas (g := g) ho
  have l15 : ∀ (r z b : Nat) (h : xk_H) (o3 : Option Value), z + r = n + 1 → 3 ≤ z → b < z → (b = 0 ∨ (measG w n g b).2 < (measG w n g b).1) → rootF (measG w n g) r z b = rootF (measG w n g) (n - 2) 3 0 → xsA h x n w fl v fv → xfr (xsS x n) hs h → h[x + 2 * n + 6 + 1]? = some (gw n (measG w n g)) → xk_X (d + 10) 0 0 mX8_sizeOfGreatestRoot (xk_fx false hs) (fun r' h => ∃ g, gB g ∧ r' = some (.int (nI (rootF (measG w n g) (n - 2) 3 0))) ∧ xsA h x n w fl v fv ∧ xfr (xsS x n) hs h ∧ h[x + 2 * n + 6 + 1]? = some (gw n (measG w n g))) 0 0 15 [some (.ref x), some (.int (nI b)), some (.int (nI z)), o3, none] [] h := by
    intro r
    induction r with
    | zero =>
      intro z b h o3 h1 hz3 hbz hb0 hE hX2 hf hg
      refine xk_iload_n dX8_sizeOfGreatestRoot_15 rfl ?_
      refine xk_aload_n dX8_sizeOfGreatestRoot_16 rfl ?_
      refine xk_get (ci := 7) (r := (RX8, TX8, 8)) 0 dX8_sizeOfGreatestRoot_17 rfl inX8 (by decide) wf_X8_18 hX2.1 rfl ?_
      refine xk_icmp_gt 77 dX8_sizeOfGreatestRoot_20 (by decide) (fun c20 => ?_) (fun c20 => ?_)
      · refine xk_iload_n dX8_sizeOfGreatestRoot_77 rfl ?_
        exact xk_iret rfl dX8_sizeOfGreatestRoot_78 (Nat.le_refl _) (Nat.le_refl _) ⟨g, hg2, by rw [← hE]; rfl, hX2, hf, hg⟩
      · exact absurd (nI_lt (by omega) (by omega)) c20
    | succ r ih =>
      intro z b h o3 h1 hz3 hbz hb0 hE hX2 hf hg
      have hBz := hB2 z
      have hZz := hZ z (by omega)
      have hZb := hZ b (by omega)
      have hBb := hB2 b
      have q1 : (nI z).toNatClampNeg = z := nI_clamp (by omega)
      have q2 : (nI b).toNatClampNeg = b := nI_clamp (by omega)
      have hxy : z * b ≤ 30 := Nat.le_trans (Nat.mul_le_mul (show z ≤ 6 by omega) (show b ≤ 5 by omega)) (by decide)
      have hxy2 : b * z ≤ 30 := by rw [Nat.mul_comm]; exact hxy
      have o1 : (measG w n g z).1 ^ b * (measG w n g b).2 ^ z < 2 ^ 240 := Nat.lt_of_le_of_lt (pow_bd hZz.1 hZb.2.2 hxy) (by decide)
      have o2 : (measG w n g b).1 ^ z * (measG w n g z).2 ^ b < 2 ^ 240 := Nat.lt_of_le_of_lt (pow_bd hZb.1 hZz.2.2 hxy2) (by decide)
      obtain ⟨rt1, rt2, ⟨N1, rt3, rt4⟩, rt5, N2, rt6, rt7⟩ := hX2.2.2.2.2.2.2.2
      refine xk_iload_n dX8_sizeOfGreatestRoot_15 rfl ?_
      refine xk_aload_n dX8_sizeOfGreatestRoot_16 rfl ?_
      refine xk_get (ci := 7) (r := (RX8, TX8, 8)) 0 dX8_sizeOfGreatestRoot_17 rfl inX8 (by decide) wf_X8_18 hX2.1 rfl ?_
      refine xk_icmp_gt 77 dX8_sizeOfGreatestRoot_20 (by decide) (fun c20 => ?_) (fun c20 => ?_)
      · exact absurd c20 (nI_nlt (by omega) (by omega))
      · refine xk_aload_n dX8_sizeOfGreatestRoot_23 rfl ?_
        refine xk_get (ci := 7) (r := (RX8, TX8, 8)) 4 dX8_sizeOfGreatestRoot_24 rfl inX8 (by decide) wf_X8_44 hX2.1 rfl ?_
        refine xk_getN (ci := 2) (r := (RX3, TX3, 2)) (host := "PairScales") 1 dX8_sizeOfGreatestRoot_27 rfl inX3 (by decide) (List.mem_of_getElem? (i := 5) rfl) hX2.2.2.2.2.1.1 rfl ?_
        refine xk_iload_n dX8_sizeOfGreatestRoot_30 rfl ?_
        refine xk_lald dX8_sizeOfGreatestRoot_31 hg (vp_in_nI (by omega) (by omega)) ?_
        rw [q1]
        refine xk_lstore_n dX8_sizeOfGreatestRoot_32 (by decide) ?_
        dsimp only [xk_s1, xk_s2, xk_kill]
        refine xk_lload_n dX8_sizeOfGreatestRoot_33 rfl ?_
        refine xk_ldc2 dX8_sizeOfGreatestRoot_34 wk_X8_160 ?_
        rw [show (4294967297 : Int64) = fr 1 1 from rfl]
        refine xk_s2c (M' := mX1_isAbove) (d' := (d + 8) + 1) dX8_sizeOfGreatestRoot_37 wm_X8_148 cv_X1_isAbove wt_X1_isAbove (by omega) (Nat.le_refl _) (Nat.le_refl _) (Nat.le_of_ble_eq_true rfl) (y_X1_isAbove (d + 8) (by omega) (by omega) (by omega) (by omega)) rfl ?_
        refine xk_ifb_eq 71 dX8_sizeOfGreatestRoot_40 (by decide) (fun c40 => ?_) (fun c40 => ?_)
        · have c41 : ¬ (measG w n g z).2 < (measG w n g z).1 := by
            have := of_decide_eq_false c40
            omega
          refine xk_iinc (nI (z + 1)) dX8_sizeOfGreatestRoot_71 rfl (nI_1 z) (by decide) ?_
          dsimp only [xk_s1, xk_s2, xk_kill]
          refine xk_goto 15 dX8_sizeOfGreatestRoot_74 (by decide) ?_
          first
          | exact ih (z + 1) z _ _ (by omega) (by omega) (by omega) (Or.inr c41) (by rw [← hE, rootF, if_pos ⟨c41, Or.inl c45⟩]) hX2 hf hg
          | exact ih (z + 1) z _ _ (by omega) (by omega) (by omega) (Or.inr c41) (by rw [← hE, rootF, if_pos ⟨c41, Or.inr c66⟩]) (hX2.rot h2 o1 o2) ((hf.set ⟨by omega, by omega⟩).set ⟨by omega, by omega⟩) ((xs_ne (by omega)).trans ((xs_ne (by omega)).trans hg))
          | exact ih (z + 1) b _ _ (by omega) (by omega) (by omega) hb0 (by rw [← hE, rootF, if_neg (fun q => q.2.elim c45 (fun y => absurd (y.symm.trans c66) (by decide)))]) (hX2.rot h2 o1 o2) ((hf.set ⟨by omega, by omega⟩).set ⟨by omega, by omega⟩) ((xs_ne (by omega)).trans ((xs_ne (by omega)).trans hg))
          | exact ih (z + 1) b _ _ (by omega) (by omega) (by omega) hb0 (by rw [← hE, rootF, if_neg (fun q => c41 q.1)]) hX2 hf hg
        · have c41 : (measG w n g z).2 < (measG w n g z).1 := by
            have := of_decide_eq_true c40
            omega
          refine xk_iload_n dX8_sizeOfGreatestRoot_43 rfl ?_
          refine xk_if_eq 69 dX8_sizeOfGreatestRoot_44 (by decide) (fun c44 => ?_) (fun c44 => ?_)
          · have c45 : b = 0 := (nI_eq (b := 0) (by omega) (by decide)).mp c44
            refine xk_iload_n dX8_sizeOfGreatestRoot_69 rfl ?_
            refine xk_istore_n dX8_sizeOfGreatestRoot_70 (by decide) ?_
            dsimp only [xk_s1, xk_s2, xk_kill]
            refine xk_iinc (nI (z + 1)) dX8_sizeOfGreatestRoot_71 rfl (nI_1 z) (by decide) ?_
            dsimp only [xk_s1, xk_s2, xk_kill]
            refine xk_goto 15 dX8_sizeOfGreatestRoot_74 (by decide) ?_
            first
            | exact ih (z + 1) z _ _ (by omega) (by omega) (by omega) (Or.inr c41) (by rw [← hE, rootF, if_pos ⟨c41, Or.inl c45⟩]) hX2 hf hg
            | exact ih (z + 1) z _ _ (by omega) (by omega) (by omega) (Or.inr c41) (by rw [← hE, rootF, if_pos ⟨c41, Or.inr c66⟩]) (hX2.rot h2 o1 o2) ((hf.set ⟨by omega, by omega⟩).set ⟨by omega, by omega⟩) ((xs_ne (by omega)).trans ((xs_ne (by omega)).trans hg))
            | exact ih (z + 1) b _ _ (by omega) (by omega) (by omega) hb0 (by rw [← hE, rootF, if_neg (fun q => q.2.elim c45 (fun y => absurd (y.symm.trans c66) (by decide)))]) (hX2.rot h2 o1 o2) ((hf.set ⟨by omega, by omega⟩).set ⟨by omega, by omega⟩) ((xs_ne (by omega)).trans ((xs_ne (by omega)).trans hg))
            | exact ih (z + 1) b _ _ (by omega) (by omega) (by omega) hb0 (by rw [← hE, rootF, if_neg (fun q => c41 q.1)]) hX2 hf hg
          · have c45 : ¬ b = 0 := fun q => c44 (by rw [q]; rfl)
            have hb1 : (measG w n g b).2 < (measG w n g b).1 := hb0.resolve_left c45
            refine xk_aload_n dX8_sizeOfGreatestRoot_47 rfl ?_
            refine xk_get (ci := 7) (r := (RX8, TX8, 8)) 7 dX8_sizeOfGreatestRoot_48 rfl inX8 (by decide) wf_X8_65 hX2.1 rfl ?_
            refine xk_lload_n dX8_sizeOfGreatestRoot_51 rfl ?_
            refine xk_iload_n dX8_sizeOfGreatestRoot_52 rfl ?_
            refine xk_aload_n dX8_sizeOfGreatestRoot_53 rfl ?_
            refine xk_get (ci := 7) (r := (RX8, TX8, 8)) 4 dX8_sizeOfGreatestRoot_54 rfl inX8 (by decide) wf_X8_44 hX2.1 rfl ?_
            refine xk_getN (ci := 2) (r := (RX3, TX3, 2)) (host := "PairScales") 1 dX8_sizeOfGreatestRoot_57 rfl inX3 (by decide) (List.mem_of_getElem? (i := 5) rfl) hX2.2.2.2.2.1.1 rfl ?_
            refine xk_iload_n dX8_sizeOfGreatestRoot_60 rfl ?_
            refine xk_lald dX8_sizeOfGreatestRoot_61 hg (vp_in_nI (by omega) (by omega)) ?_
            rw [q2]
            refine xk_iload_n dX8_sizeOfGreatestRoot_62 rfl ?_
            refine xk_v4 (M' := mX4_isAbove)  (ci := 3) (r0 := (RX4, TX4, 2)) dX8_sizeOfGreatestRoot_63 wm_X8_175 cv_X4_isAbove wi_X4_isAbove wl_X4_isAbove (by omega) (Nat.le_refl _) (Nat.le_refl _) rfl rfl rt1 (Nat.le_of_ble_eq_true rfl) (y_X4_isAbove (d + 7) (N1 := N1) (N2 := N2) rt3 rt6 rt1 rt2 rt4 rt5 rt7 (by omega) (by omega) (by omega) (by omega) (by omega) (by omega) o1 o2) (by simp) ?_
            refine xk_ifb_eq 71 dX8_sizeOfGreatestRoot_66 (by decide) (fun c66 => ?_) (fun c66 => ?_)
            · refine xk_iinc (nI (z + 1)) dX8_sizeOfGreatestRoot_71 rfl (nI_1 z) (by decide) ?_
              dsimp only [xk_s1, xk_s2, xk_kill]
              refine xk_goto 15 dX8_sizeOfGreatestRoot_74 (by decide) ?_
              first
              | exact ih (z + 1) z _ _ (by omega) (by omega) (by omega) (Or.inr c41) (by rw [← hE, rootF, if_pos ⟨c41, Or.inl c45⟩]) hX2 hf hg
              | exact ih (z + 1) z _ _ (by omega) (by omega) (by omega) (Or.inr c41) (by rw [← hE, rootF, if_pos ⟨c41, Or.inr c66⟩]) (hX2.rot h2 o1 o2) ((hf.set ⟨by omega, by omega⟩).set ⟨by omega, by omega⟩) ((xs_ne (by omega)).trans ((xs_ne (by omega)).trans hg))
              | exact ih (z + 1) b _ _ (by omega) (by omega) (by omega) hb0 (by rw [← hE, rootF, if_neg (fun q => q.2.elim c45 (fun y => absurd (y.symm.trans c66) (by decide)))]) (hX2.rot h2 o1 o2) ((hf.set ⟨by omega, by omega⟩).set ⟨by omega, by omega⟩) ((xs_ne (by omega)).trans ((xs_ne (by omega)).trans hg))
              | exact ih (z + 1) b _ _ (by omega) (by omega) (by omega) hb0 (by rw [← hE, rootF, if_neg (fun q => c41 q.1)]) hX2 hf hg
            · refine xk_iload_n dX8_sizeOfGreatestRoot_69 rfl ?_
              refine xk_istore_n dX8_sizeOfGreatestRoot_70 (by decide) ?_
              dsimp only [xk_s1, xk_s2, xk_kill]
              refine xk_iinc (nI (z + 1)) dX8_sizeOfGreatestRoot_71 rfl (nI_1 z) (by decide) ?_
              dsimp only [xk_s1, xk_s2, xk_kill]
              refine xk_goto 15 dX8_sizeOfGreatestRoot_74 (by decide) ?_
              first
              | exact ih (z + 1) z _ _ (by omega) (by omega) (by omega) (Or.inr c41) (by rw [← hE, rootF, if_pos ⟨c41, Or.inl c45⟩]) hX2 hf hg
              | exact ih (z + 1) z _ _ (by omega) (by omega) (by omega) (Or.inr c41) (by rw [← hE, rootF, if_pos ⟨c41, Or.inr c66⟩]) (hX2.rot h2 o1 o2) ((hf.set ⟨by omega, by omega⟩).set ⟨by omega, by omega⟩) ((xs_ne (by omega)).trans ((xs_ne (by omega)).trans hg))
              | exact ih (z + 1) b _ _ (by omega) (by omega) (by omega) hb0 (by rw [← hE, rootF, if_neg (fun q => q.2.elim c45 (fun y => absurd (y.symm.trans c66) (by decide)))]) (hX2.rot h2 o1 o2) ((hf.set ⟨by omega, by omega⟩).set ⟨by omega, by omega⟩) ((xs_ne (by omega)).trans ((xs_ne (by omega)).trans hg))
              | exact ih (z + 1) b _ _ (by omega) (by omega) (by omega) hb0 (by rw [← hE, rootF, if_neg (fun q => c41 q.1)]) hX2 hf hg
  refine xk_Y.ofX (k := 4) (ls := [some (.ref x), none, none, none, none]) (by decide) rfl rfl ?_
  refine xk_aload_n dX8_sizeOfGreatestRoot_0 rfl ?_
  refine xk_get (ci := 7) (r := (RX8, TX8, 8)) 4 dX8_sizeOfGreatestRoot_1 rfl inX8 (by decide) wf_X8_44 hX.1 rfl ?_
  refine xk_aload_n dX8_sizeOfGreatestRoot_4 rfl ?_
  refine xk_get (ci := 7) (r := (RX8, TX8, 8)) 1 dX8_sizeOfGreatestRoot_5 rfl inX8 (by decide) wf_X8_27 hX.1 rfl ?_
  refine xk_v1n (M' := mX3_measure) (d' := d + 9) (ci := 2) (r0 := (RX3, TX3, 2)) dX8_sizeOfGreatestRoot_8 wm_X8_172 cv_X3_measure wi_X3_measure wl_X3_measure (by omega) (Nat.le_refl _) (Nat.le_refl _) rfl rfl hX.2.2.2.2.1.1 (Nat.le_of_ble_eq_true rfl) (y_X3_measure d hn h2 hX.2.1 ho hg0 hg1 hg2 (by unfold tbS; omega)) (by simp) ?_
  refine xk_iconst (0) dX8_sizeOfGreatestRoot_11 (by decide) ?_
  refine xk_istore_n dX8_sizeOfGreatestRoot_12 (by decide) ?_
  dsimp only [xk_s1, xk_s2, xk_kill]
  refine xk_iconst (3) dX8_sizeOfGreatestRoot_13 (by decide) ?_
  refine xk_istore_n dX8_sizeOfGreatestRoot_14 (by decide) ?_
  dsimp only [xk_s1, xk_s2, xk_kill]
  exact l15 (n - 2) 3 0 _ _ (by omega) (by omega) (by omega) (Or.inl rfl) rfl (hX.rng h2 hB2) (xfr.rf.set ⟨by omega, by omega⟩) (xs_at hg1)

set_option maxHeartbeats 4000000 in
set_option maxRecDepth 100000 in
theorem y_X8_least (d : Nat) {hs : xk_H} {x n fl fv : Nat} {w v : tbW} (hn : n ≤ 6) (h2 : 2 ≤ n) (hX : xsA hs x n w fl v fv) (ho : tbOK n w) (hov : tbOK n v) {q : Int32} : xk_Y (d + 11) 0 0 mX8_least false [.ref x, .int q] hs (fun r' h => (∃ g, gB g ∧ r' = some (.int (leaV (measG w n g) n q))) ∧ xsA h x n w fl v fv ∧ xfr (xsS x n) hs h) := by
  obtain ⟨-, g1, -, hg3⟩ := hX.2.2.2.2.1
  refine xk_Y.ofX (k := 1) (ls := [some (.ref x), some (.int q), none]) (by decide) rfl rfl ?_
  refine xk_iload_n dX8_least_0 rfl ?_
  refine xk_if_lt 9 dX8_least_1 (by decide) (fun c1 => ?_) (fun c1 => ?_)
  · have cq : ¬ ((0 ≤ q ∧ q ≤ 2)) := fun z => absurd z.1 (Int32.not_le.mpr c1)
    refine xk_iconst (-1) dX8_least_9 (by decide) ?_
    exact xk_iret rfl dX8_least_10 (Nat.le_refl _) (Nat.le_refl _) ⟨⟨g1, hg3, by unfold leaV; rw [if_neg cq]⟩, hX, xfr.rf⟩
  · refine xk_iload_n dX8_least_4 rfl ?_
    refine xk_iconst (2) dX8_least_5 (by decide) ?_
    refine xk_icmp_le 11 dX8_least_6 (by decide) (fun c6 => ?_) (fun c6 => ?_)
    · refine xk_aload_n dX8_least_11 rfl ?_
      refine xk_callV0 (M' := mX8_sizeOfGreatestRoot) (ci := 7) (r0 := (RX8, TX8, 8)) dX8_least_12 wm_X8_152 cv_X8_sizeOfGreatestRoot wi_X8_sizeOfGreatestRoot wl_X8_sizeOfGreatestRoot (by omega) (Nat.le_refl _) (Nat.le_refl _) rfl rfl hX.1 (Nat.le_of_ble_eq_true rfl) (y_X8_sizeOfGreatestRoot d hn h2 hX ho hov) (fun _ _ z => by obtain ⟨_, _, _, _, z5, _⟩ := z; exact z5.1) (fun r0 hz z => ?_)
      obtain ⟨g, hg2, rfl, hX2, hf, hg⟩ := z
      have hle : rootF (measG w n g) (n - 2) 3 0 ≤ n := rootF_le (n - 2) 3 0 (by omega) (by omega)
      have hBm := gB_meas (g := g) ho hn hg2 (rootF (measG w n g) (n - 2) 3 0)
      have cR : 0 ≤ q ∧ q ≤ 2 := ⟨Int32.not_lt.mp c1, c6⟩
      refine xk_istore_n dX8_least_15 (by decide) ?_
      dsimp only [xk_s1, xk_s2, xk_kill]
      refine xk_iload_n dX8_least_16 rfl ?_
      refine xk_iconst (2) dX8_least_17 (by decide) ?_
      refine xk_icmp_ne 23 dX8_least_18 (by decide) (fun c18 => ?_) (fun c18 => ?_)
      · refine xk_iload_n dX8_least_23 rfl ?_
        refine xk_if_ne 31 dX8_least_24 (by decide) (fun c24 => ?_) (fun c24 => ?_)
        · have c25 : ¬ rootF (measG w n g) (n - 2) 3 0 = 0 := fun z => c24 (by rw [z]; rfl)
          refine xk_aload_n dX8_least_31 rfl ?_
          refine xk_get (ci := 7) (r := (RX8, TX8, 8)) 4 dX8_least_32 rfl inX8 (by decide) wf_X8_44 hX2.1 rfl ?_
          refine xk_getN (ci := 2) (r := (RX3, TX3, 2)) (host := "PairScales") 1 dX8_least_35 rfl inX3 (by decide) (List.mem_of_getElem? (i := 5) rfl) hX2.2.2.2.2.1.1 rfl ?_
          refine xk_iload_n dX8_least_38 rfl ?_
          refine xk_lald dX8_least_39 hg (vp_in_nI (by omega) (by omega)) ?_
          rw [nI_clamp (by omega)]
          refine xk_iload_n dX8_least_40 rfl ?_
          refine xk_s2c (M' := mX1_part) (d' := (d + 9) + 1) dX8_least_41 wm_X8_100 cv_X1_part wt_X1_part (by omega) (Nat.le_refl _) (Nat.le_refl _) (Nat.le_of_ble_eq_true rfl) (y_X1_part (d + 9) (by omega) (by omega)) rfl ?_
          exact xk_iret rfl dX8_least_44 (Nat.le_refl _) (Nat.le_refl _) ⟨⟨g, hg2, by first | rw [leaV_1 cR c18 c25] | rw [leaV_0 cR c18 c25]⟩, hX2, hf⟩
        · have c25 : rootF (measG w n g) (n - 2) 3 0 = 0 := (nI_eq (b := 0) (by omega) (by decide)).mp c24
          refine xk_iconst (1) dX8_least_27 (by decide) ?_
          refine xk_goto 44 dX8_least_28 (by decide) ?_
          exact xk_iret rfl dX8_least_44 (Nat.le_refl _) (Nat.le_refl _) ⟨⟨g, hg2, by first | rw [leaV_1 cR c18 c25] | rw [leaV_0 cR c18 c25]⟩, hX2, hf⟩
      · refine xk_iload_n dX8_least_21 rfl ?_
        exact xk_iret rfl dX8_least_22 (Nat.le_refl _) (Nat.le_refl _) ⟨⟨g, hg2, by rw [leaV_2 cR c18]⟩, hX2, hf⟩
    · have cq : ¬ ((0 ≤ q ∧ q ≤ 2)) := fun z => absurd z.2 c6
      refine xk_iconst (-1) dX8_least_9 (by decide) ?_
      exact xk_iret rfl dX8_least_10 (Nat.le_refl _) (Nat.le_refl _) ⟨⟨g1, hg3, by unfold leaV; rw [if_neg cq]⟩, hX, xfr.rf⟩
end
