/-! THE MACHINE UNDER AN ABSTRACT HEAP. Own text. An abstract heap is a list of cells; references are places in it. xk_X: from here on the method comes to its end, with an answer and a heap of which 'out' holds. xk_Y: a method's contract over abstract heaps. -/
abbrev xk_M : Type := MethodName × ByteArray × Nat × Option FieldType
abbrev xk_C : Type := (Nat × vp_A) ⊕ (Nat × List Value)
abbrev xk_H : Type := List xk_C
abbrev xk_G : Type := va_G × (Nat → ClassId) × Nat
def xk_v (ad : Nat → Nat) : Value → Value
  | .ref k => .ref (ad k)
  | .int x => .int x
  | .long x => .long x
  | .float x => .float x
  | .double x => .double x
  | .null => .null
  | .retAddr x => .retAddr x
def xk_a (ad : Nat → Nat) : vp_A → vp_A
  | (n, .inl f) => (n, .inl f)
  | (n, .inr (.inl f)) => (n, .inr (.inl f))
  | (n, .inr (.inr (.inl f))) => (n, .inr (.inr (.inl f)))
  | (n, .inr (.inr (.inr (.inl f)))) => (n, .inr (.inr (.inr (.inl f))))
  | (n, .inr (.inr (.inr (.inr f)))) => (n, .inr (.inr (.inr (.inr (fun j => (f j).map ad)))))
def xk_e (K : Nat → ClassId) (ad : Nat → Nat) : xk_C → va_E
  | .inl q => .inl (K q.1, xk_a ad q.2)
  | .inr o => .inr (o.1, o.2.map (xk_v ad))
def xk_w (K : Nat → ClassId) (ad : Nat → Nat) (hs : xk_H) : va_W := hs.mapIdx fun k e => (ad k, xk_e K ad e)
theorem xk_w_at (K : Nat → ClassId) (ad : Nat → Nat) (hs : xk_H) (k : Nat) : (xk_w K ad hs)[k]? = (hs[k]?).map fun e => (ad k, xk_e K ad e) := by
  unfold xk_w
  rw [List.getElem?_mapIdx]
theorem xk_w_get {K : Nat → ClassId} {ad : Nat → Nat} {hs : xk_H} {k : Nat} {e : xk_C} (h : hs[k]? = some e) : (xk_w K ad hs)[k]? = some (ad k, xk_e K ad e) := by
  rw [xk_w_at, h]
  rfl
theorem xk_w_set (K : Nat → ClassId) (ad : Nat → Nat) (hs : xk_H) (k : Nat) (e : xk_C) : (xk_w K ad hs).set k (ad k, xk_e K ad e) = xk_w K ad (hs.set k e) := by
  apply List.ext_getElem?
  intro j
  rw [xk_w_at, List.getElem?_set, List.getElem?_set, xk_w_at]
  have hlen : (xk_w K ad hs).length = hs.length := by unfold xk_w; exact List.length_mapIdx
  rw [hlen]
  by_cases hj : k = j
  · subst hj
    by_cases hk : k < hs.length
    · simp [hk]
    · simp [hk]
  · simp [hj]
/-- the array classes: ints, longs, booleans, arrays of ints, arrays of longs -/
def xk_t (K : Nat → ClassId) : List (ClassId × FieldType) := [(K 0, .int), (K 1, .long), (K 2, .boolean), (K 3, .array .int), (K 4, .array .long)]
/-- the words by which nest mates are reached -/
def xk_nest : List Cond := [(Jvm.Cond.fieldLinkNest "PairScales" (166 : Nat) "PairScales$Table" "filled" "I" "PairScales"), (Jvm.Cond.fieldLinkNest "PairScales" (116 : Nat) "PairScales$WorstThree" "i" "I" "PairScales"), (Jvm.Cond.fieldLinkNest "PairScales" (119 : Nat) "PairScales$WorstThree" "j" "I" "PairScales"), (Jvm.Cond.fieldLinkNest "PairScales" (122 : Nat) "PairScales$WorstThree" "k" "I" "PairScales"), (Jvm.Cond.fieldLinkNest "PairScales" (112 : Nat) "PairScales$WorstThree" "off" "J" "PairScales"), (Jvm.Cond.fieldLinkNest "PairScales" (156 : Nat) "PairScales$Rings" "greatest" "[J" "PairScales"), (Jvm.Cond.fieldLinkNest "PairScales" (131 : Nat) "PairScales$Leaving" "fewest" "I" "PairScales"), (Jvm.Cond.fieldLinkNest "PairScales" (134 : Nat) "PairScales$Leaving" "leastHeap" "I" "PairScales"), (Jvm.Cond.methodLinkNest "PairScales" (64 : Nat) ({ cls := "PairScales$Roots", name := "<init>", desc := "()V" } : Jvm.MethodName) "PairScales"), (Jvm.Cond.methodLinkNest "PairScales$Roots" (9 : Nat) ({ cls := "PairScales$Big", name := "<init>", desc := "()V" } : Jvm.MethodName) "PairScales")]
def xk_logs : Nat → Value := fun j => .int (([0, 0, 1, 64, 2, 4096, 65, 262144, 3, 128] : List Int32).getD j 0)
/-- arrays of arrays of longs and of ints have been made -/
def xk_O (U : State) : Prop := va_AOA .long U ∧ va_AOA .int U
/-- what is known of the tables and the static array at a state -/
def xk_K (G : xk_G) (A : Nat → Prop) (U : State) (H : Heap) : Prop := va_K G.1 vwCl (xk_t G.2.1) U ∧ (∀ w ∈ xk_nest, va_Nw w U) ∧ va_Z "PairScales$Leaving" "LOGS" "[I" (.ref G.2.2) A U H ∧ va_T .int G.2.2 10 xk_logs A U H ∧ xk_O U
def xk_ws (M : xk_M) : List Cond := Cond.code M.1 M.2.1 M.2.2.1 M.2.2.2 :: xk_WS
def xk_rm (d mc ms : Nat) : Room := { frames := d, cells := mc, slots := ms, locals := 40 * d }
/-- what stays through a method: machine, code, words, tables -/
def xk_Cx (M : xk_M) (G : xk_G) (p : Program) (s : State) (m : MethodId) (args : Array Value) (meth : Method) (c : Code) (A : Nat → Prop) : Prop :=
  p.tables.exec = Jvm.exec ∧ c.code = M.2.1 ∧ c.maxLocals = M.2.2.1 ∧ meth.sig.returnType = M.2.2.2 ∧ (∀ w ∈ xk_WS, w.before args s = true) ∧ s.vm.findClass M.1.cls = some m.cls ∧ meth.locks = false ∧ meth.name = M.1.name ∧ (∀ q : Nat, s.heap.size ≤ q → A q) ∧ xk_K G A s s.heap
/-- the locals, by their places -/
def xk_l (ad : Nat → Nat) : Nat → List (Option Value) → List (Nat × Value)
  | _, [] => []
  | i, some v :: ls => (i, xk_v ad v) :: xk_l ad (i + 1) ls
  | i, none :: ls => xk_l ad (i + 1) ls
def xk_two : Option Value → Bool
  | some (.long _) => true
  | some (.double _) => true
  | _ => false
/-- what stays of a value whose second half is overwritten -/
def xk_kill : Option Value → Option Value
  | some (.long _) => none
  | some (.double _) => none
  | some (.int x) => some (.int x)
  | some (.ref x) => some (.ref x)
  | some (.float x) => some (.float x)
  | some .null => some .null
  | some (.retAddr x) => some (.retAddr x)
  | none => none
theorem xk_kill_eq (o : Option Value) : xk_kill o = if xk_two o then none else o := by
  rcases o with _ | v
  · rfl
  · cases v <;> rfl
/-- a value of one word is stored -/
def xk_s1 : List (Option Value) → Nat → Value → List (Option Value)
  | [], _, _ => []
  | _ :: ls, 0, v => some v :: ls
  | o :: ls, 1, v => xk_kill o :: xk_s1 ls 0 v
  | o :: ls, i + 2, v => o :: xk_s1 ls (i + 1) v
/-- a value of two words is stored -/
def xk_s2 : List (Option Value) → Nat → Value → List (Option Value)
  | [], _, _ => []
  | [_], 0, v => [some v]
  | _ :: _ :: ls, 0, v => some v :: none :: ls
  | o :: ls, 1, v => xk_kill o :: xk_s2 ls 0 v
  | o :: ls, i + 2, v => o :: xk_s2 ls (i + 1) v
theorem xk_l_mem (ad : Nat → Nat) : ∀ (ls : List (Option Value)) (i : Nat) (q : Nat × Value), q ∈ xk_l ad i ls ↔ ∃ (k : Nat) (v : Value), ls[k]? = some (some v) ∧ q = (i + k, xk_v ad v)
  | [], i, q => by simp [xk_l]
  | some w :: ls, i, q => by
    rw [xk_l, List.mem_cons, xk_l_mem ad ls (i + 1) q]
    constructor
    · rintro (rfl | ⟨k, v, h1, rfl⟩)
      · exact ⟨0, w, rfl, rfl⟩
      · exact ⟨k + 1, v, by simpa using h1, by rw [Nat.add_assoc, Nat.add_comm 1 k]⟩
    · rintro ⟨k, v, h1, rfl⟩
      cases k with
      | zero => left; simp at h1; rw [h1]; rfl
      | succ k => right; exact ⟨k, v, by simpa using h1, by rw [Nat.add_assoc, Nat.add_comm 1 k]⟩
  | none :: ls, i, q => by
    rw [xk_l, xk_l_mem ad ls (i + 1) q]
    constructor
    · rintro ⟨k, v, h1, rfl⟩
      exact ⟨k + 1, v, by simpa using h1, by rw [Nat.add_assoc, Nat.add_comm 1 k]⟩
    · rintro ⟨k, v, h1, rfl⟩
      cases k with
      | zero => simp at h1
      | succ k => exact ⟨k, v, by simpa using h1, by rw [Nat.add_assoc, Nat.add_comm 1 k]⟩
theorem xk_cat (ad : Nat → Nat) (v : Value) : (xk_v ad v).category = v.category := by cases v <;> rfl
theorem xk_two_cat (v : Value) : xk_two (some v) = (v.category == 2) := by cases v <;> rfl
theorem xk_s1_at (v : Value) : ∀ (ls : List (Option Value)) (i k : Nat) (w : Value), (xk_s1 ls i v)[k]? = some (some w) → (k = i ∧ w = v) ∨ (ls[k]? = some (some w) ∧ k ≠ i ∧ ¬ (k + 1 = i ∧ w.category = 2))
  | [], i, k, w, h => by simp [xk_s1] at h
  | o :: ls, 0, k, w, h => by
    cases k with
    | zero => left; simp [xk_s1] at h; exact ⟨rfl, h.symm⟩
    | succ k => right; simp [xk_s1] at h; exact ⟨by simpa using h, by omega, by omega⟩
  | o :: ls, 1, k, w, h => by
    cases k with
    | zero =>
      right
      simp only [xk_s1, xk_kill_eq, List.getElem?_cons_zero] at h
      by_cases ho : xk_two o = true
      · simp [ho] at h
      · simp only [ho] at h
        have h' : o = some w := by simpa using h
        subst h'
        refine ⟨by simp, by omega, fun q => ho ?_⟩
        rw [xk_two_cat]
        simp [q.2]
    | succ k =>
      simp only [xk_s1, List.getElem?_cons_succ] at h
      rcases xk_s1_at v ls 0 k w h with ⟨h1, h2⟩ | ⟨h1, h2, h3⟩
      · exact Or.inl ⟨by omega, h2⟩
      · exact Or.inr ⟨by simpa using h1, by omega, by omega⟩
  | o :: ls, i + 2, k, w, h => by
    cases k with
    | zero => right; simp [xk_s1] at h; exact ⟨by simp [h], by omega, by omega⟩
    | succ k =>
      simp only [xk_s1, List.getElem?_cons_succ] at h
      rcases xk_s1_at v ls (i + 1) k w h with ⟨h1, h2⟩ | ⟨h1, h2, h3⟩
      · exact Or.inl ⟨by omega, h2⟩
      · exact Or.inr ⟨by simpa using h1, by omega, fun q => h3 ⟨by omega, q.2⟩⟩
theorem xk_s2_at (v : Value) : ∀ (ls : List (Option Value)) (i k : Nat) (w : Value), (xk_s2 ls i v)[k]? = some (some w) → (k = i ∧ w = v) ∨ (ls[k]? = some (some w) ∧ k ≠ i ∧ k ≠ i + 1 ∧ ¬ (k + 1 = i ∧ w.category = 2))
  | [], i, k, w, h => by simp [xk_s2] at h
  | [o], 0, k, w, h => by
    cases k with
    | zero => left; simp [xk_s2] at h; exact ⟨rfl, h.symm⟩
    | succ k => simp [xk_s2] at h
  | o :: o2 :: ls, 0, k, w, h => by
    cases k with
    | zero => left; simp [xk_s2] at h; exact ⟨rfl, h.symm⟩
    | succ k =>
      cases k with
      | zero => simp [xk_s2] at h
      | succ k => right; simp [xk_s2] at h; exact ⟨by simpa using h, by omega, by omega, by omega⟩
  | o :: ls, 1, k, w, h => by
    cases k with
    | zero =>
      right
      simp only [xk_s2, xk_kill_eq, List.getElem?_cons_zero] at h
      by_cases ho : xk_two o = true
      · simp [ho] at h
      · simp only [ho] at h
        have h' : o = some w := by simpa using h
        subst h'
        refine ⟨by simp, by omega, by omega, fun q => ho ?_⟩
        rw [xk_two_cat]
        simp [q.2]
    | succ k =>
      simp only [xk_s2, List.getElem?_cons_succ] at h
      rcases xk_s2_at v ls 0 k w h with ⟨h1, h2⟩ | ⟨h1, h2, h3, h4⟩
      · exact Or.inl ⟨by omega, h2⟩
      · exact Or.inr ⟨by simpa using h1, by omega, by omega, by omega⟩
  | o :: ls, i + 2, k, w, h => by
    cases k with
    | zero => right; simp [xk_s2] at h; exact ⟨by simp [h], by omega, by omega, by omega⟩
    | succ k =>
      simp only [xk_s2, List.getElem?_cons_succ] at h
      rcases xk_s2_at v ls (i + 1) k w h with ⟨h1, h2⟩ | ⟨h1, h2, h3, h4⟩
      · exact Or.inl ⟨by omega, h2⟩
      · exact Or.inr ⟨by simpa using h1, by omega, by omega, fun q => h4 ⟨by omega, q.2⟩⟩
theorem xk_l_at {ad : Nat → Nat} {la : Array Slot} {nL : Nat} {ls : List (Option Value)} (h : lv_has la nL (xk_l ad 0 ls)) {i : Nat} {v : Value} (hv : ls[i]? = some (some v)) : la[i]? = some (.val (xk_v ad v)) :=
  h.2.2 (i, xk_v ad v) ((xk_l_mem ad ls 0 _).mpr ⟨i, v, hv, by rw [Nat.zero_add]⟩)
theorem xk_l_s1 {ad : Nat → Nat} {la : Array Slot} {nL i : Nat} {ls : List (Option Value)} {v : Value} (h : lv_has la nL ((i, xk_v ad v) :: (xk_l ad 0 ls).filter (fun q => !(q.1 == i) && !(q.1 + 1 == i && q.2.category == 2)))) : lv_has la nL (xk_l ad 0 (xk_s1 ls i v)) := by
  refine ⟨h.1, h.2.1, fun q hq => h.2.2 q ?_⟩
  obtain ⟨k, w, h1, rfl⟩ := (xk_l_mem ad _ 0 q).mp hq
  rw [Nat.zero_add]
  rcases xk_s1_at v ls i k w h1 with ⟨rfl, rfl⟩ | ⟨h2, h3, h4⟩
  · exact List.mem_cons_self
  · refine List.mem_cons_of_mem _ (List.mem_filter.mpr ⟨(xk_l_mem ad ls 0 _).mpr ⟨k, w, h2, by rw [Nat.zero_add]⟩, ?_⟩)
    rw [xk_cat]
    by_cases h5 : k + 1 = i
    · have h6 : ¬ w.category = 2 := fun z => h4 ⟨h5, z⟩
      simp [h3, h6]
    · simp [h3, h5]
theorem xk_l_s2 {ad : Nat → Nat} {la : Array Slot} {nL i : Nat} {ls : List (Option Value)} {v : Value} (h : lv_has la nL ((i, xk_v ad v) :: (xk_l ad 0 ls).filter (fun q => !(q.1 == i) && (!(q.1 == i + 1) && !(q.1 + 1 == i && q.2.category == 2))))) : lv_has la nL (xk_l ad 0 (xk_s2 ls i v)) := by
  refine ⟨h.1, h.2.1, fun q hq => h.2.2 q ?_⟩
  obtain ⟨k, w, h1, rfl⟩ := (xk_l_mem ad _ 0 q).mp hq
  rw [Nat.zero_add]
  rcases xk_s2_at v ls i k w h1 with ⟨rfl, rfl⟩ | ⟨h2, h3, h4, h5⟩
  · exact List.mem_cons_self
  · refine List.mem_cons_of_mem _ (List.mem_filter.mpr ⟨(xk_l_mem ad ls 0 _).mpr ⟨k, w, h2, by rw [Nat.zero_add]⟩, ?_⟩)
    rw [xk_cat]
    by_cases h6 : k + 1 = i
    · have h7 : ¬ w.category = 2 := fun z => h5 ⟨h6, z⟩
      simp [h3, h4, h7]
    · simp [h3, h4, h6]
/-- fewer locals are known -/
def xk_le : List (Option Value) → List (Option Value) → Prop
  | [], _ => True
  | none :: a, _ :: b => xk_le a b
  | some v :: a, some w :: b => v = w ∧ xk_le a b
  | none :: a, [] => xk_le a []
  | some _ :: _, none :: _ => False
  | some _ :: _, [] => False
theorem xk_le_at : ∀ (a b : List (Option Value)), xk_le a b → ∀ (k : Nat) (v : Value), a[k]? = some (some v) → b[k]? = some (some v)
  | [], b, _, k, v, hv => by simp at hv
  | none :: a, x :: b, h, k, v, hv => by
    cases k with
    | zero => simp at hv
    | succ k => simpa using xk_le_at a b h k v (by simpa using hv)
  | none :: a, [], h, k, v, hv => by
    cases k with
    | zero => simp at hv
    | succ k => have := xk_le_at a [] h k v (by simpa using hv); simp at this
  | some y :: a, some w :: b, h, k, v, hv => by
    cases k with
    | zero => rw [← h.1]; simpa using hv
    | succ k => simpa using xk_le_at a b h.2 k v (by simpa using hv)
  | some y :: a, none :: b, h, k, v, hv => h.elim
  | some y :: a, [], h, k, v, hv => h.elim
/-- a boolean as the machine holds it -/
def xk_b (b : Bool) : Int32 := match b with
  | true => 1
  | false => 0
/-- references lie within -/
def xk_ok (n : Nat) : Value → Prop
  | .ref k => k < n
  | .int _ => True
  | .long _ => True
  | .float _ => True
  | .double _ => True
  | .null => True
  | .retAddr _ => True
def xk_okC (n : Nat) : xk_C → Prop
  | .inl (_, _, .inr (.inr (.inr (.inr f)))) => ∀ (j k : Nat), f j = some k → k < n
  | .inl (_, _, .inl _) => True
  | .inl (_, _, .inr (.inl _)) => True
  | .inl (_, _, .inr (.inr (.inl _))) => True
  | .inl (_, _, .inr (.inr (.inr (.inl _)))) => True
  | .inr (_, fs) => ∀ v ∈ fs, xk_ok n v
def xk_okS (n : Nat) (st : List Value) : Prop := ∀ v ∈ st, xk_ok n v
def xk_okL (n : Nat) (ls : List (Option Value)) : Prop := ∀ v : Value, some v ∈ ls → xk_ok n v
def xk_okH (hs : xk_H) : Prop := ∀ e ∈ hs, xk_okC hs.length e
def xk_OK (ls : List (Option Value)) (st : List Value) (hs : xk_H) : Prop := xk_okL hs.length ls ∧ xk_okS hs.length st ∧ xk_okH hs
theorem xk_tl {n : Nat} {v : Value} {st : List Value} (h : xk_okS n (v :: st)) : xk_okS n st := fun w hw => h w (List.mem_cons_of_mem _ hw)
theorem xk_hd {n : Nat} {v : Value} {st : List Value} (h : xk_okS n (v :: st)) : xk_ok n v := h v List.mem_cons_self
theorem xk_cs {n : Nat} {v : Value} {st : List Value} (hv : xk_ok n v) (h : xk_okS n st) : xk_okS n (v :: st) := fun w hw => (List.mem_cons.mp hw).elim (fun e => e ▸ hv) (h w)
theorem xk_okL_at {n i : Nat} {ls : List (Option Value)} {v : Value} (h : xk_okL n ls) (hv : ls[i]? = some (some v)) : xk_ok n v := h v (List.mem_of_getElem? hv)
theorem xk_okL_s1 {n i : Nat} {ls : List (Option Value)} {v : Value} (h : xk_okL n ls) (hv : xk_ok n v) : xk_okL n (xk_s1 ls i v) := fun w hw => by
  obtain ⟨k, hk⟩ := List.getElem?_of_mem hw
  rcases xk_s1_at v ls i k w hk with ⟨-, rfl⟩ | ⟨h1, -⟩
  · exact hv
  · exact xk_okL_at h h1
theorem xk_okL_s2 {n i : Nat} {ls : List (Option Value)} {v : Value} (h : xk_okL n ls) (hv : xk_ok n v) : xk_okL n (xk_s2 ls i v) := fun w hw => by
  obtain ⟨k, hk⟩ := List.getElem?_of_mem hw
  rcases xk_s2_at v ls i k w hk with ⟨-, rfl⟩ | ⟨h1, -⟩
  · exact hv
  · exact xk_okL_at h h1
theorem xk_okH_set {hs : xk_H} {a : Nat} {e : xk_C} (h : xk_okH hs) (he : xk_okC hs.length e) : xk_okH (hs.set a e) := fun x hx => by
  rw [List.length_set]
  rcases List.mem_or_eq_of_mem_set hx with h1 | rfl
  · exact h x h1
  · exact he
theorem xk_OK.set {ls : List (Option Value)} {st st' : List Value} {hs : xk_H} {a : Nat} {e : xk_C} (O : xk_OK ls st' hs) (h1 : xk_okS hs.length st) (he : xk_okC hs.length e) : xk_OK ls st (hs.set a e) := by
  refine ⟨?_, ?_, xk_okH_set O.2.2 he⟩
  · rw [List.length_set]; exact O.1
  · rw [List.length_set]; exact h1
theorem xk_okF {hs : xk_H} {a ci : Nat} {fs : List Value} (h : xk_okH hs) (he : hs[a]? = some (.inr (ci, fs))) : ∀ v ∈ fs, xk_ok hs.length v := h _ (List.mem_of_getElem? he)
theorem xk_okR {hs : xk_H} {a t n j k : Nat} {f : Nat → Option Nat} (h : xk_okH hs) (he : hs[a]? = some (.inl (t, n, .inr (.inr (.inr (.inr f)))))) (hf : f j = some k) : k < hs.length := h _ (List.mem_of_getElem? he) j k hf
def xk_Q (G : xk_G) (fx : Nat → Prop) (ad : Nat → Nat) (out : Option Value → xk_H → Prop) (A : Nat → Prop) : Array Value → State → Outcome → State → Prop := fun _ st oc t =>
  (∃ (r : Option Value) (hs' : xk_H) (ad' : Nat → Nat), oc = .returned (r.map (xk_v ad')) ∧ out r hs' ∧ xk_OK [] r.toList hs' ∧ (∀ k, fx k → ad' k = ad k) ∧ va_P G.1 vwCl (xk_w G.2.1 ad' hs') t.heap ∧ va_D A (xk_w G.2.1 ad' hs')) ∧ va_F A st t
/-- THE JUDGEMENT -/
def xk_X (d mc ms : Nat) (M : xk_M) (fx : Nat → Prop) (out : Option Value → xk_H → Prop) (cs ss pc : Nat) (ls : List (Option Value)) (st : List Value) (hs : xk_H) : Prop :=
  ∀ (G : xk_G) (ad0 ad : Nat → Nat) (p : Program) (l : Launch) (e : Env) (s : State) (m : MethodId) (args : Array Value) (below : List Frame) (meth : Method) (c : Code) (A : Nat → Prop) (H : Heap) (locs : List Loc) (la : Array Slot),
    xk_Cx M G p s m args meth c A → (∀ k, fx k → ad k = ad0 k) → va_P G.1 vwCl (xk_w G.2.1 ad hs) H → va_D A (xk_w G.2.1 ad hs) → va_S A s.heap H locs → lv_has la M.2.2.1 (xk_l ad 0 ls) → xk_OK ls st hs →
    W p l e (xk_rm d mc ms) s m args below meth c H locs cs ss (MQ below (xk_Q G fx ad0 out A) args s mc ms A) (F0 m pc la (st.map (xk_v ad)))
/-- which addresses a method leaves as they are: all, or (where it makes cells) those of the cells that were there -/
def xk_fx (al : Bool) (hs : xk_H) (k : Nat) : Prop := al = true → k < hs.length
/-- A CONTRACT -/
def xk_Y (d mc ms : Nat) (M : xk_M) (al : Bool) (av : List Value) (hs : xk_H) (out : Option Value → xk_H → Prop) : Prop :=
  xk_OK [] av hs → ∀ (l : Launch) (G : xk_G) (ad : Nat → Nat) (sz : Nat), Met l M.1 (xk_ws M) (xk_rm d mc ms) (va_Pc (av.map (xk_v ad)) (fun U => U.heap.size = sz ∧ va_P G.1 vwCl (xk_w G.2.1 ad hs) U.heap ∧ va_D (fun _ => True) (xk_w G.2.1 ad hs) ∧ xk_K G (va_A (xk_w G.2.1 ad hs) sz) U U.heap)) (xk_Q G (xk_fx al hs) ad out (va_A (xk_w G.2.1 ad hs) sz)) mc ms (va_A (xk_w G.2.1 ad hs) sz)
/-- the locals at a method's entry -/
def xk_ent : List Value → List (Option Value)
  | [] => []
  | v :: vs => if v.category = 2 then some v :: none :: xk_ent vs else some v :: xk_ent vs
theorem xk_ent_mem (ad : Nat → Nat) (k : Nat) : ∀ (vs : List Value) (i : Nat) (q : Nat × Value), q ∈ xk_l ad i (xk_ent vs ++ List.replicate k none) → q ∈ lv_args i (vs.map (xk_v ad))
  | [], i, q, h => by
    obtain ⟨j, v, h1, -⟩ := (xk_l_mem ad _ i q).mp h
    simp [xk_ent, List.getElem?_replicate] at h1
  | v :: vs, i, q, h => by
    rw [List.map_cons, lv_args, xk_cat]
    by_cases hc : v.category = 2
    · rw [xk_ent, if_pos hc] at h
      rw [if_pos hc]
      simp only [List.cons_append, xk_l] at h
      rcases List.mem_cons.mp h with h | h
      · exact List.mem_cons.mpr (Or.inl h)
      · exact List.mem_cons_of_mem _ (xk_ent_mem ad k vs (i + 2) q h)
    · rw [xk_ent, if_neg hc] at h
      rw [if_neg hc]
      simp only [List.cons_append, xk_l] at h
      rcases List.mem_cons.mp h with h | h
      · exact List.mem_cons.mpr (Or.inl h)
      · exact List.mem_cons_of_mem _ (xk_ent_mem ad k vs (i + 1) q h)
theorem xk_ent_len (ad : Nat → Nat) : ∀ vs : List Value, (lg_sl (vs.map (xk_v ad))).length = (xk_ent vs).length
  | [] => rfl
  | v :: vs => by
    have ih := xk_ent_len ad vs
    by_cases hc : v.category = 2
    · simp [lg_sl, xk_ent, xk_cat, hc] at ih ⊢
      omega
    · simp [lg_sl, xk_ent, xk_cat, hc] at ih ⊢
      omega
theorem xk_ent_ok (n k : Nat) : ∀ vs : List Value, xk_okS n vs → xk_okL n (xk_ent vs ++ List.replicate k none)
  | [], _ => fun v hv => by simp [xk_ent] at hv
  | v :: vs, h => by
    have ih := xk_ent_ok n k vs (xk_tl h)
    intro w hw
    by_cases hc : v.category = 2
    · rw [xk_ent, if_pos hc] at hw
      simp only [List.cons_append, List.mem_cons, reduceCtorEq, false_or, Option.some.injEq] at hw
      rcases hw with rfl | hw
      · exact xk_hd h
      · exact ih w hw
    · rw [xk_ent, if_neg hc] at hw
      simp only [List.cons_append, List.mem_cons, Option.some.injEq] at hw
      rcases hw with rfl | hw
      · exact xk_hd h
      · exact ih w hw
theorem xk_Y.ofX {d mc ms : Nat} {M : xk_M} {al : Bool} {av : List Value} {hs : xk_H} {out : Option Value → xk_H → Prop} {k : Nat} {ls : List (Option Value)} (hy : plainName M.1.cls = true) (hl : xk_ent av ++ List.replicate k none = ls) (hn : (xk_ent av).length + k = M.2.2.1) (h : xk_X d mc ms M (xk_fx al hs) out 0 0 0 ls [] hs) : xk_Y d mc ms M al av hs out := by
  intro O l G ad sz
  refine Met.ofW (cc := M.2.1) (maxL := M.2.2.1) (ret := M.2.2.2) hy rfl ?_
  intro p e s m args below meth c s₁ B hml hv
  obtain ⟨rfl, hsz, hP, hD0, hK⟩ := hv
  subst hsz
  have hts := atoms_spec (ws := xk_ws M) B.pre
  have hD := hD0.self (sz := s.heap.size)
  have h0 : (lg_sl (av.map (xk_v ad))).length ≤ M.2.2.1 := by rw [xk_ent_len]; omega
  have hle := lv_entry (av.map (xk_v ad)) (n := M.2.2.1) h0
  rw [lg_entry_eq]
  refine h G ad ad p l e s m _ below meth c _ s.heap [] _ ⟨B.exec, B.bytes, hml, B.returns, fun w hw => hts w (List.mem_cons_of_mem _ hw), findClass_of_methodNamed B.named, B.notSynchronized, (name_of_methodNamed B.named B.method).1, fun q hq => Or.inr hq, hK⟩ (fun _ _ => rfl) hP hD va_S.rf ⟨hle.1, hle.2.1, fun q hq => hle.2.2 q ?_⟩ ⟨by rw [← hl]; exact xk_ent_ok _ k av O.2.1, fun v hv => absurd hv List.not_mem_nil, O.2.2⟩
  rw [← hl] at hq
  exact xk_ent_mem ad k av 0 q hq
section XKR
variable {d mc ms : Nat} {M : xk_M} {fx : Nat → Prop} {out : Option Value → xk_H → Prop} {cs ss pc : Nat} {ls : List (Option Value)} {st : List Value} {hs : xk_H}
/-- with fewer known locals -/
theorem xk_sub {ls' : List (Option Value)} (k : xk_X d mc ms M fx out cs ss pc ls' st hs) (h : xk_le ls' ls) : xk_X d mc ms M fx out cs ss pc ls st hs :=
  fun G ad0 ad p l e s m args below meth c A H locs la C hf hP hD hS hl O => k G ad0 ad p l e s m args below meth c A H locs la C hf hP hD hS ⟨hl.1, hl.2.1, fun q hq => by
    obtain ⟨j, v, h1, rfl⟩ := (xk_l_mem ad _ 0 q).mp hq
    rw [Nat.zero_add]
    exact xk_l_at hl (xk_le_at _ _ h j v h1)⟩ ⟨fun v hv => by
    obtain ⟨j, hj⟩ := List.getElem?_of_mem hv
    exact xk_okL_at O.1 (xk_le_at _ _ h j v hj), O.2⟩
theorem xk_pc {pc' : Nat} (h : pc' = pc) (k : xk_X d mc ms M fx out cs ss pc' ls st hs) : xk_X d mc ms M fx out cs ss pc ls st hs := h ▸ k
theorem xk_iconst {n : Int} (v : Int32) (hd : decode M.2.1 pc = .ok (.iconst n, 1)) (hv : Int32.ofInt n = v) (k : xk_X d mc ms M fx out cs ss (pc + 1) ls (.int v :: st) hs) : xk_X d mc ms M fx out cs ss pc ls st hs :=
  fun G ad0 ad p l e s m args below meth c A H locs la C hf hP hD hS hl O => lv_iconst C.1 C.2.1 hd hv (k G ad0 ad p l e s m args below meth c A H locs la C hf hP hD hS hl ⟨O.1, (xk_cs trivial O.2.1), O.2.2⟩)
theorem xk_bipush {n : Int} (v : Int32) (hd : decode M.2.1 pc = .ok (.bipush n, 2)) (hv : (Int8.ofInt n).toInt32 = v) (k : xk_X d mc ms M fx out cs ss (pc + 2) ls (.int v :: st) hs) : xk_X d mc ms M fx out cs ss pc ls st hs :=
  fun G ad0 ad p l e s m args below meth c A H locs la C hf hP hD hS hl O => lv_bipush C.1 C.2.1 hd hv (k G ad0 ad p l e s m args below meth c A H locs la C hf hP hD hS hl ⟨O.1, (xk_cs trivial O.2.1), O.2.2⟩)
theorem xk_sipush {n : Int} (v : Int32) (hd : decode M.2.1 pc = .ok (.sipush n, 3)) (hv : (Int16.ofInt n).toInt32 = v) (k : xk_X d mc ms M fx out cs ss (pc + 3) ls (.int v :: st) hs) : xk_X d mc ms M fx out cs ss pc ls st hs :=
  fun G ad0 ad p l e s m args below meth c A H locs la C hf hP hD hS hl O => lv_sipush C.1 C.2.1 hd hv (k G ad0 ad p l e s m args below meth c A H locs la C hf hP hD hS hl ⟨O.1, (xk_cs trivial O.2.1), O.2.2⟩)
theorem xk_lconst {n : Fin 2} (v : Int64) (hd : decode M.2.1 pc = .ok (.lconst n, 1)) (hv : Int64.ofNat (n : Nat) = v) (k : xk_X d mc ms M fx out cs ss (pc + 1) ls (.long v :: st) hs) : xk_X d mc ms M fx out cs ss pc ls st hs :=
  fun G ad0 ad p l e s m args below meth c A H locs la C hf hP hD hS hl O => lv_lconst C.1 C.2.1 hd hv (k G ad0 ad p l e s m args below meth c A H locs la C hf hP hD hS hl ⟨O.1, (xk_cs trivial O.2.1), O.2.2⟩)
theorem xk_ldc2 {i : Nat} {v : Int64} (hd : decode M.2.1 pc = .ok (.ldc2_w i, 3)) (hw : Cond.constantLong M.1.cls i v ∈ xk_WS) (k : xk_X d mc ms M fx out cs ss (pc + 3) ls (.long v :: st) hs) : xk_X d mc ms M fx out cs ss pc ls st hs :=
  fun G ad0 ad p l e s m args below meth c A H locs la C hf hP hD hS hl O => lv_ldc2 C.1 C.2.1 C.2.2.2.2.2.1 (C.2.2.2.2.1 _ hw) hd (k G ad0 ad p l e s m args below meth c A H locs la C hf hP hD hS hl ⟨O.1, (xk_cs trivial O.2.1), O.2.2⟩)
theorem xk_ldcw {i : Nat} {v : Int32} (hd : decode M.2.1 pc = .ok (.ldc_w i, 3)) (hw : Cond.constant M.1.cls i v ∈ xk_WS) (k : xk_X d mc ms M fx out cs ss (pc + 3) ls (.int v :: st) hs) : xk_X d mc ms M fx out cs ss pc ls st hs :=
  fun G ad0 ad p l e s m args below meth c A H locs la C hf hP hD hS hl O => lv_ldcw C.1 C.2.1 C.2.2.2.2.2.1 (C.2.2.2.2.1 _ hw) hd (k G ad0 ad p l e s m args below meth c A H locs la C hf hP hD hS hl ⟨O.1, (xk_cs trivial O.2.1), O.2.2⟩)
theorem xk_iload_n {k : Fin 4} {x : Int32} (hd : decode M.2.1 pc = .ok (.iload_n k, 1)) (hv : ls[(k : Nat)]? = some (some (.int x))) (kk : xk_X d mc ms M fx out cs ss (pc + 1) ls (.int x :: st) hs) : xk_X d mc ms M fx out cs ss pc ls st hs :=
  fun G ad0 ad p l e s m args below meth c A H locs la C hf hP hD hS hl O => lv_iload_n C.1 C.2.1 hd rfl (xk_l_at hl hv) (kk G ad0 ad p l e s m args below meth c A H locs la C hf hP hD hS hl ⟨O.1, (xk_cs trivial O.2.1), O.2.2⟩)
theorem xk_iload {i : Nat} {x : Int32} (hd : decode M.2.1 pc = .ok (.iload i, 2)) (hv : ls[i]? = some (some (.int x))) (k : xk_X d mc ms M fx out cs ss (pc + 2) ls (.int x :: st) hs) : xk_X d mc ms M fx out cs ss pc ls st hs :=
  fun G ad0 ad p l e s m args below meth c A H locs la C hf hP hD hS hl O => lv_iload C.1 C.2.1 hd (xk_l_at hl hv) (k G ad0 ad p l e s m args below meth c A H locs la C hf hP hD hS hl ⟨O.1, (xk_cs trivial O.2.1), O.2.2⟩)
theorem xk_lload_n {k : Fin 4} {x : Int64} (hd : decode M.2.1 pc = .ok (.lload_n k, 1)) (hv : ls[(k : Nat)]? = some (some (.long x))) (kk : xk_X d mc ms M fx out cs ss (pc + 1) ls (.long x :: st) hs) : xk_X d mc ms M fx out cs ss pc ls st hs :=
  fun G ad0 ad p l e s m args below meth c A H locs la C hf hP hD hS hl O => lv_lload_n C.1 C.2.1 hd rfl (xk_l_at hl hv) (kk G ad0 ad p l e s m args below meth c A H locs la C hf hP hD hS hl ⟨O.1, (xk_cs trivial O.2.1), O.2.2⟩)
theorem xk_lload {i : Nat} {x : Int64} (hd : decode M.2.1 pc = .ok (.lload i, 2)) (hv : ls[i]? = some (some (.long x))) (k : xk_X d mc ms M fx out cs ss (pc + 2) ls (.long x :: st) hs) : xk_X d mc ms M fx out cs ss pc ls st hs :=
  fun G ad0 ad p l e s m args below meth c A H locs la C hf hP hD hS hl O => lv_lload C.1 C.2.1 hd (xk_l_at hl hv) (k G ad0 ad p l e s m args below meth c A H locs la C hf hP hD hS hl ⟨O.1, (xk_cs trivial O.2.1), O.2.2⟩)
theorem xk_aload_n {k : Fin 4} {a : Nat} (hd : decode M.2.1 pc = .ok (.aload_n k, 1)) (hv : ls[(k : Nat)]? = some (some (.ref a))) (kk : xk_X d mc ms M fx out cs ss (pc + 1) ls (.ref a :: st) hs) : xk_X d mc ms M fx out cs ss pc ls st hs :=
  fun G ad0 ad p l e s m args below meth c A H locs la C hf hP hD hS hl O => lv_aload_n C.1 C.2.1 hd rfl (xk_l_at hl hv) (kk G ad0 ad p l e s m args below meth c A H locs la C hf hP hD hS hl ⟨O.1, (xk_cs (xk_okL_at O.1 hv) O.2.1), O.2.2⟩)
theorem xk_aload {i : Nat} {a : Nat} (hd : decode M.2.1 pc = .ok (.aload i, 2)) (hv : ls[i]? = some (some (.ref a))) (kk : xk_X d mc ms M fx out cs ss (pc + 2) ls (.ref a :: st) hs) : xk_X d mc ms M fx out cs ss pc ls st hs :=
  fun G ad0 ad p l e s m args below meth c A H locs la C hf hP hD hS hl O => lv_aload C.1 C.2.1 hd (xk_l_at hl hv) (kk G ad0 ad p l e s m args below meth c A H locs la C hf hP hD hS hl ⟨O.1, (xk_cs (xk_okL_at O.1 hv) O.2.1), O.2.2⟩)
theorem xk_istore_n {k : Fin 4} {x : Int32} (hd : decode M.2.1 pc = .ok (.istore_n k, 1)) (hn : (k : Nat) < M.2.2.1) (kk : xk_X d mc ms M fx out cs ss (pc + 1) (xk_s1 ls (k : Nat) (.int x)) st hs) : xk_X d mc ms M fx out cs ss pc ls (.int x :: st) hs :=
  fun G ad0 ad p l e s m args below meth c A H locs la C hf hP hD hS hl O => lv_istore_n C.1 C.2.1 hd rfl hl hn rfl (fun la hl => kk G ad0 ad p l e s m args below meth c A H locs la C hf hP hD hS (xk_l_s1 (v := .int x) hl) ⟨xk_okL_s1 O.1 (xk_hd O.2.1), xk_tl O.2.1, O.2.2⟩)
theorem xk_istore {i : Nat} {x : Int32} (hd : decode M.2.1 pc = .ok (.istore i, 2)) (hn : i < M.2.2.1) (kk : xk_X d mc ms M fx out cs ss (pc + 2) (xk_s1 ls i (.int x)) st hs) : xk_X d mc ms M fx out cs ss pc ls (.int x :: st) hs :=
  fun G ad0 ad p l e s m args below meth c A H locs la C hf hP hD hS hl O => lv_istore C.1 C.2.1 hd hl hn rfl (fun la hl => kk G ad0 ad p l e s m args below meth c A H locs la C hf hP hD hS (xk_l_s1 (v := .int x) hl) ⟨xk_okL_s1 O.1 (xk_hd O.2.1), xk_tl O.2.1, O.2.2⟩)
theorem xk_lstore_n {k : Fin 4} {x : Int64} (hd : decode M.2.1 pc = .ok (.lstore_n k, 1)) (hn : (k : Nat) + 1 < M.2.2.1) (kk : xk_X d mc ms M fx out cs ss (pc + 1) (xk_s2 ls (k : Nat) (.long x)) st hs) : xk_X d mc ms M fx out cs ss pc ls (.long x :: st) hs :=
  fun G ad0 ad p l e s m args below meth c A H locs la C hf hP hD hS hl O => lv_lstore_n C.1 C.2.1 hd rfl hl hn rfl (fun la hl => kk G ad0 ad p l e s m args below meth c A H locs la C hf hP hD hS (xk_l_s2 (v := .long x) hl) ⟨xk_okL_s2 O.1 (xk_hd O.2.1), xk_tl O.2.1, O.2.2⟩)
theorem xk_lstore {i : Nat} {x : Int64} (hd : decode M.2.1 pc = .ok (.lstore i, 2)) (hn : i + 1 < M.2.2.1) (kk : xk_X d mc ms M fx out cs ss (pc + 2) (xk_s2 ls i (.long x)) st hs) : xk_X d mc ms M fx out cs ss pc ls (.long x :: st) hs :=
  fun G ad0 ad p l e s m args below meth c A H locs la C hf hP hD hS hl O => lv_lstore C.1 C.2.1 hd hl hn rfl (fun la hl => kk G ad0 ad p l e s m args below meth c A H locs la C hf hP hD hS (xk_l_s2 (v := .long x) hl) ⟨xk_okL_s2 O.1 (xk_hd O.2.1), xk_tl O.2.1, O.2.2⟩)
theorem xk_astore_n {k : Fin 4} {x : Nat} (hd : decode M.2.1 pc = .ok (.astore_n k, 1)) (hn : (k : Nat) < M.2.2.1) (kk : xk_X d mc ms M fx out cs ss (pc + 1) (xk_s1 ls (k : Nat) (.ref x)) st hs) : xk_X d mc ms M fx out cs ss pc ls (.ref x :: st) hs :=
  fun G ad0 ad p l e s m args below meth c A H locs la C hf hP hD hS hl O => lv_astore_n C.1 C.2.1 hd rfl hl hn rfl (fun la hl => kk G ad0 ad p l e s m args below meth c A H locs la C hf hP hD hS (xk_l_s1 (v := .ref x) hl) ⟨xk_okL_s1 O.1 (xk_hd O.2.1), xk_tl O.2.1, O.2.2⟩)
theorem xk_astore {i : Nat} {x : Nat} (hd : decode M.2.1 pc = .ok (.astore i, 2)) (hn : i < M.2.2.1) (kk : xk_X d mc ms M fx out cs ss (pc + 2) (xk_s1 ls i (.ref x)) st hs) : xk_X d mc ms M fx out cs ss pc ls (.ref x :: st) hs :=
  fun G ad0 ad p l e s m args below meth c A H locs la C hf hP hD hS hl O => lv_astore C.1 C.2.1 hd hl hn rfl (fun la hl => kk G ad0 ad p l e s m args below meth c A H locs la C hf hP hD hS (xk_l_s1 (v := .ref x) hl) ⟨xk_okL_s1 O.1 (xk_hd O.2.1), xk_tl O.2.1, O.2.2⟩)
theorem xk_iinc {i : Nat} {n : Int} {x : Int32} (v : Int32) (hd : decode M.2.1 pc = .ok (.iinc i n, 3)) (hx : ls[i]? = some (some (.int x))) (hv : x + Int32.ofInt n = v) (hn : i < M.2.2.1) (kk : xk_X d mc ms M fx out cs ss (pc + 3) (xk_s1 ls i (.int v)) st hs) : xk_X d mc ms M fx out cs ss pc ls st hs :=
  fun G ad0 ad p l e s m args below meth c A H locs la C hf hP hD hS hl O => by
    obtain ⟨j, hj⟩ := List.getElem?_of_mem ((xk_l_mem ad ls 0 (i, .int x)).mpr ⟨i, .int x, hx, by rw [Nat.zero_add]; rfl⟩)
    exact lv_iinc (k := j) C.1 C.2.1 hd hl hj hv hn rfl (fun la hl => kk G ad0 ad p l e s m args below meth c A H locs la C hf hP hD hS (xk_l_s1 (v := .int v) hl) ⟨xk_okL_s1 O.1 trivial, O.2⟩)
theorem xk_iadd {x y : Int32} (hd : decode M.2.1 pc = .ok (.iadd, 1)) (kk : xk_X d mc ms M fx out cs ss (pc + 1) ls (.int (x + y) :: st) hs) : xk_X d mc ms M fx out cs ss pc ls (.int y :: .int x :: st) hs :=
  fun G ad0 ad p l e s m args below meth c A H locs la C hf hP hD hS hl O => lv_iadd C.1 C.2.1 hd (kk G ad0 ad p l e s m args below meth c A H locs la C hf hP hD hS hl ⟨O.1, (xk_cs trivial (xk_tl (xk_tl O.2.1))), O.2.2⟩)
theorem xk_isub {x y : Int32} (hd : decode M.2.1 pc = .ok (.isub, 1)) (kk : xk_X d mc ms M fx out cs ss (pc + 1) ls (.int (x - y) :: st) hs) : xk_X d mc ms M fx out cs ss pc ls (.int y :: .int x :: st) hs :=
  fun G ad0 ad p l e s m args below meth c A H locs la C hf hP hD hS hl O => lv_isub C.1 C.2.1 hd (kk G ad0 ad p l e s m args below meth c A H locs la C hf hP hD hS hl ⟨O.1, (xk_cs trivial (xk_tl (xk_tl O.2.1))), O.2.2⟩)
theorem xk_imul {x y : Int32} (hd : decode M.2.1 pc = .ok (.imul, 1)) (kk : xk_X d mc ms M fx out cs ss (pc + 1) ls (.int (x * y) :: st) hs) : xk_X d mc ms M fx out cs ss pc ls (.int y :: .int x :: st) hs :=
  fun G ad0 ad p l e s m args below meth c A H locs la C hf hP hD hS hl O => lv_imul C.1 C.2.1 hd (kk G ad0 ad p l e s m args below meth c A H locs la C hf hP hD hS hl ⟨O.1, (xk_cs trivial (xk_tl (xk_tl O.2.1))), O.2.2⟩)
theorem xk_iand {x y : Int32} (hd : decode M.2.1 pc = .ok (.iand, 1)) (kk : xk_X d mc ms M fx out cs ss (pc + 1) ls (.int (x &&& y) :: st) hs) : xk_X d mc ms M fx out cs ss pc ls (.int y :: .int x :: st) hs :=
  fun G ad0 ad p l e s m args below meth c A H locs la C hf hP hD hS hl O => lv_iand C.1 C.2.1 hd (kk G ad0 ad p l e s m args below meth c A H locs la C hf hP hD hS hl ⟨O.1, (xk_cs trivial (xk_tl (xk_tl O.2.1))), O.2.2⟩)
theorem xk_ior {x y : Int32} (hd : decode M.2.1 pc = .ok (.ior, 1)) (kk : xk_X d mc ms M fx out cs ss (pc + 1) ls (.int (x ||| y) :: st) hs) : xk_X d mc ms M fx out cs ss pc ls (.int y :: .int x :: st) hs :=
  fun G ad0 ad p l e s m args below meth c A H locs la C hf hP hD hS hl O => lv_ior C.1 C.2.1 hd (kk G ad0 ad p l e s m args below meth c A H locs la C hf hP hD hS hl ⟨O.1, (xk_cs trivial (xk_tl (xk_tl O.2.1))), O.2.2⟩)
theorem xk_ixor {x y : Int32} (hd : decode M.2.1 pc = .ok (.ixor, 1)) (kk : xk_X d mc ms M fx out cs ss (pc + 1) ls (.int (x ^^^ y) :: st) hs) : xk_X d mc ms M fx out cs ss pc ls (.int y :: .int x :: st) hs :=
  fun G ad0 ad p l e s m args below meth c A H locs la C hf hP hD hS hl O => lv_ixor C.1 C.2.1 hd (kk G ad0 ad p l e s m args below meth c A H locs la C hf hP hD hS hl ⟨O.1, (xk_cs trivial (xk_tl (xk_tl O.2.1))), O.2.2⟩)
theorem xk_ladd {x y : Int64} (hd : decode M.2.1 pc = .ok (.ladd, 1)) (kk : xk_X d mc ms M fx out cs ss (pc + 1) ls (.long (x + y) :: st) hs) : xk_X d mc ms M fx out cs ss pc ls (.long y :: .long x :: st) hs :=
  fun G ad0 ad p l e s m args below meth c A H locs la C hf hP hD hS hl O => lv_ladd C.1 C.2.1 hd (kk G ad0 ad p l e s m args below meth c A H locs la C hf hP hD hS hl ⟨O.1, (xk_cs trivial (xk_tl (xk_tl O.2.1))), O.2.2⟩)
theorem xk_lsub {x y : Int64} (hd : decode M.2.1 pc = .ok (.lsub, 1)) (kk : xk_X d mc ms M fx out cs ss (pc + 1) ls (.long (x - y) :: st) hs) : xk_X d mc ms M fx out cs ss pc ls (.long y :: .long x :: st) hs :=
  fun G ad0 ad p l e s m args below meth c A H locs la C hf hP hD hS hl O => lv_lsub C.1 C.2.1 hd (kk G ad0 ad p l e s m args below meth c A H locs la C hf hP hD hS hl ⟨O.1, (xk_cs trivial (xk_tl (xk_tl O.2.1))), O.2.2⟩)
theorem xk_lmul {x y : Int64} (hd : decode M.2.1 pc = .ok (.lmul, 1)) (kk : xk_X d mc ms M fx out cs ss (pc + 1) ls (.long (x * y) :: st) hs) : xk_X d mc ms M fx out cs ss pc ls (.long y :: .long x :: st) hs :=
  fun G ad0 ad p l e s m args below meth c A H locs la C hf hP hD hS hl O => lv_lmul C.1 C.2.1 hd (kk G ad0 ad p l e s m args below meth c A H locs la C hf hP hD hS hl ⟨O.1, (xk_cs trivial (xk_tl (xk_tl O.2.1))), O.2.2⟩)
theorem xk_land {x y : Int64} (hd : decode M.2.1 pc = .ok (.land, 1)) (kk : xk_X d mc ms M fx out cs ss (pc + 1) ls (.long (x &&& y) :: st) hs) : xk_X d mc ms M fx out cs ss pc ls (.long y :: .long x :: st) hs :=
  fun G ad0 ad p l e s m args below meth c A H locs la C hf hP hD hS hl O => lv_land C.1 C.2.1 hd (kk G ad0 ad p l e s m args below meth c A H locs la C hf hP hD hS hl ⟨O.1, (xk_cs trivial (xk_tl (xk_tl O.2.1))), O.2.2⟩)
theorem xk_lor {x y : Int64} (hd : decode M.2.1 pc = .ok (.lor, 1)) (kk : xk_X d mc ms M fx out cs ss (pc + 1) ls (.long (x ||| y) :: st) hs) : xk_X d mc ms M fx out cs ss pc ls (.long y :: .long x :: st) hs :=
  fun G ad0 ad p l e s m args below meth c A H locs la C hf hP hD hS hl O => lv_lor C.1 C.2.1 hd (kk G ad0 ad p l e s m args below meth c A H locs la C hf hP hD hS hl ⟨O.1, (xk_cs trivial (xk_tl (xk_tl O.2.1))), O.2.2⟩)
theorem xk_lxor {x y : Int64} (hd : decode M.2.1 pc = .ok (.lxor, 1)) (kk : xk_X d mc ms M fx out cs ss (pc + 1) ls (.long (x ^^^ y) :: st) hs) : xk_X d mc ms M fx out cs ss pc ls (.long y :: .long x :: st) hs :=
  fun G ad0 ad p l e s m args below meth c A H locs la C hf hP hD hS hl O => lv_lxor C.1 C.2.1 hd (kk G ad0 ad p l e s m args below meth c A H locs la C hf hP hD hS hl ⟨O.1, (xk_cs trivial (xk_tl (xk_tl O.2.1))), O.2.2⟩)
theorem xk_idiv {x y : Int32} (hd : decode M.2.1 pc = .ok (.idiv, 1)) (hne : ¬ y = 0) (kk : xk_X d mc ms M fx out cs ss (pc + 1) ls (.int (x / y) :: st) hs) : xk_X d mc ms M fx out cs ss pc ls (.int y :: .int x :: st) hs :=
  fun G ad0 ad p l e s m args below meth c A H locs la C hf hP hD hS hl O => lv_idiv C.1 C.2.1 hd hne (kk G ad0 ad p l e s m args below meth c A H locs la C hf hP hD hS hl ⟨O.1, (xk_cs trivial (xk_tl (xk_tl O.2.1))), O.2.2⟩)
theorem xk_irem {x y : Int32} (hd : decode M.2.1 pc = .ok (.irem, 1)) (hne : ¬ y = 0) (kk : xk_X d mc ms M fx out cs ss (pc + 1) ls (.int (x - x / y * y) :: st) hs) : xk_X d mc ms M fx out cs ss pc ls (.int y :: .int x :: st) hs :=
  fun G ad0 ad p l e s m args below meth c A H locs la C hf hP hD hS hl O => lv_irem C.1 C.2.1 hd hne (kk G ad0 ad p l e s m args below meth c A H locs la C hf hP hD hS hl ⟨O.1, (xk_cs trivial (xk_tl (xk_tl O.2.1))), O.2.2⟩)
theorem xk_ldiv {x y : Int64} (hd : decode M.2.1 pc = .ok (.ldiv, 1)) (hne : ¬ y = 0) (kk : xk_X d mc ms M fx out cs ss (pc + 1) ls (.long (x / y) :: st) hs) : xk_X d mc ms M fx out cs ss pc ls (.long y :: .long x :: st) hs :=
  fun G ad0 ad p l e s m args below meth c A H locs la C hf hP hD hS hl O => lv_ldiv C.1 C.2.1 hd hne (kk G ad0 ad p l e s m args below meth c A H locs la C hf hP hD hS hl ⟨O.1, (xk_cs trivial (xk_tl (xk_tl O.2.1))), O.2.2⟩)
theorem xk_lrem {x y : Int64} (hd : decode M.2.1 pc = .ok (.lrem, 1)) (hne : ¬ y = 0) (kk : xk_X d mc ms M fx out cs ss (pc + 1) ls (.long (x - x / y * y) :: st) hs) : xk_X d mc ms M fx out cs ss pc ls (.long y :: .long x :: st) hs :=
  fun G ad0 ad p l e s m args below meth c A H locs la C hf hP hD hS hl O => lv_lrem C.1 C.2.1 hd hne (kk G ad0 ad p l e s m args below meth c A H locs la C hf hP hD hS hl ⟨O.1, (xk_cs trivial (xk_tl (xk_tl O.2.1))), O.2.2⟩)
theorem xk_ishl {x y : Int32} (hd : decode M.2.1 pc = .ok (.ishl, 1)) (kk : xk_X d mc ms M fx out cs ss (pc + 1) ls (.int (x <<< (y &&& 31)) :: st) hs) : xk_X d mc ms M fx out cs ss pc ls (.int y :: .int x :: st) hs :=
  fun G ad0 ad p l e s m args below meth c A H locs la C hf hP hD hS hl O => lv_ishl C.1 C.2.1 hd (kk G ad0 ad p l e s m args below meth c A H locs la C hf hP hD hS hl ⟨O.1, (xk_cs trivial (xk_tl (xk_tl O.2.1))), O.2.2⟩)
theorem xk_ishr {x y : Int32} (hd : decode M.2.1 pc = .ok (.ishr, 1)) (kk : xk_X d mc ms M fx out cs ss (pc + 1) ls (.int (x >>> (y &&& 31)) :: st) hs) : xk_X d mc ms M fx out cs ss pc ls (.int y :: .int x :: st) hs :=
  fun G ad0 ad p l e s m args below meth c A H locs la C hf hP hD hS hl O => lv_ishr C.1 C.2.1 hd (kk G ad0 ad p l e s m args below meth c A H locs la C hf hP hD hS hl ⟨O.1, (xk_cs trivial (xk_tl (xk_tl O.2.1))), O.2.2⟩)
theorem xk_iushr {x y : Int32} (hd : decode M.2.1 pc = .ok (.iushr, 1)) (kk : xk_X d mc ms M fx out cs ss (pc + 1) ls (.int ((x.toUInt32 >>> (y.toUInt32 &&& Int32.toUInt32 31)).toInt32) :: st) hs) : xk_X d mc ms M fx out cs ss pc ls (.int y :: .int x :: st) hs :=
  fun G ad0 ad p l e s m args below meth c A H locs la C hf hP hD hS hl O => lv_iushr C.1 C.2.1 hd rfl (kk G ad0 ad p l e s m args below meth c A H locs la C hf hP hD hS hl ⟨O.1, (xk_cs trivial (xk_tl (xk_tl O.2.1))), O.2.2⟩)
theorem xk_lushr {x : Int64} {y : Int32} (hd : decode M.2.1 pc = .ok (.lushr, 1)) (kk : xk_X d mc ms M fx out cs ss (pc + 1) ls (.long ((x.toUInt64 >>> (y.toInt64.toUInt64 &&& Int64.toUInt64 63)).toInt64) :: st) hs) : xk_X d mc ms M fx out cs ss pc ls (.int y :: .long x :: st) hs :=
  fun G ad0 ad p l e s m args below meth c A H locs la C hf hP hD hS hl O => lv_lushr C.1 C.2.1 hd rfl (kk G ad0 ad p l e s m args below meth c A H locs la C hf hP hD hS hl ⟨O.1, (xk_cs trivial (xk_tl (xk_tl O.2.1))), O.2.2⟩)
theorem xk_lshl {x : Int64} {y : Int32} (hd : decode M.2.1 pc = .ok (.lshl, 1)) (kk : xk_X d mc ms M fx out cs ss (pc + 1) ls (.long (x <<< (y.toInt64 &&& 63)) :: st) hs) : xk_X d mc ms M fx out cs ss pc ls (.int y :: .long x :: st) hs :=
  fun G ad0 ad p l e s m args below meth c A H locs la C hf hP hD hS hl O => lv_lshl C.1 C.2.1 hd rfl (kk G ad0 ad p l e s m args below meth c A H locs la C hf hP hD hS hl ⟨O.1, (xk_cs trivial (xk_tl (xk_tl O.2.1))), O.2.2⟩)
theorem xk_i2l {x : Int32} (hd : decode M.2.1 pc = .ok (.i2l, 1)) (kk : xk_X d mc ms M fx out cs ss (pc + 1) ls (.long x.toInt64 :: st) hs) : xk_X d mc ms M fx out cs ss pc ls (.int x :: st) hs :=
  fun G ad0 ad p l e s m args below meth c A H locs la C hf hP hD hS hl O => lv_i2l C.1 C.2.1 hd rfl (kk G ad0 ad p l e s m args below meth c A H locs la C hf hP hD hS hl ⟨O.1, (xk_cs trivial (xk_tl O.2.1)), O.2.2⟩)
theorem xk_l2i {x : Int64} (hd : decode M.2.1 pc = .ok (.l2i, 1)) (kk : xk_X d mc ms M fx out cs ss (pc + 1) ls (.int x.toInt32 :: st) hs) : xk_X d mc ms M fx out cs ss pc ls (.long x :: st) hs :=
  fun G ad0 ad p l e s m args below meth c A H locs la C hf hP hD hS hl O => lv_l2i C.1 C.2.1 hd rfl (kk G ad0 ad p l e s m args below meth c A H locs la C hf hP hD hS hl ⟨O.1, (xk_cs trivial (xk_tl O.2.1)), O.2.2⟩)
theorem xk_lcmp {x y : Int64} (hd : decode M.2.1 pc = .ok (.lcmp, 1)) (kk : xk_X d mc ms M fx out cs ss (pc + 1) ls (.int (lg_cmp x y) :: st) hs) : xk_X d mc ms M fx out cs ss pc ls (.long y :: .long x :: st) hs :=
  fun G ad0 ad p l e s m args below meth c A H locs la C hf hP hD hS hl O => W.lcmp C.1 C.2.1 hd (kk G ad0 ad p l e s m args below meth c A H locs la C hf hP hD hS hl ⟨O.1, (xk_cs trivial (xk_tl (xk_tl O.2.1))), O.2.2⟩)
theorem xk_dup {v : Value} (hd : decode M.2.1 pc = .ok (.dup, 1)) (hc : v.category = 1) (kk : xk_X d mc ms M fx out cs ss (pc + 1) ls (v :: v :: st) hs) : xk_X d mc ms M fx out cs ss pc ls (v :: st) hs :=
  fun G ad0 ad p l e s m args below meth c A H locs la C hf hP hD hS hl O => lv_dup C.1 C.2.1 hd ((xk_cat ad v).trans hc) (kk G ad0 ad p l e s m args below meth c A H locs la C hf hP hD hS hl ⟨O.1, (xk_cs (xk_hd O.2.1) (xk_cs (xk_hd O.2.1) (xk_tl O.2.1))), O.2.2⟩)
theorem xk_if_eq {x : Int32} {off : Int} (tgt : Nat) (hd : decode M.2.1 pc = .ok (.ifCond .eq off, 3)) (ht : (pc : Int) + off = (tgt : Int)) (kt : (x = 0) → xk_X d mc ms M fx out cs ss tgt ls st hs) (kf : (¬ x = 0) → xk_X d mc ms M fx out cs ss (pc + 3) ls st hs) : xk_X d mc ms M fx out cs ss pc ls (.int x :: st) hs :=
  fun G ad0 ad p l e s m args below meth c A H locs la C hf hP hD hS hl O => lv_if_eq C.1 C.2.1 hd ht (fun q => kt q G ad0 ad p l e s m args below meth c A H locs la C hf hP hD hS hl ⟨O.1, xk_tl (O.2.1), O.2.2⟩) (fun q => kf q G ad0 ad p l e s m args below meth c A H locs la C hf hP hD hS hl ⟨O.1, xk_tl (O.2.1), O.2.2⟩)
theorem xk_icmp_eq {x y : Int32} {off : Int} (tgt : Nat) (hd : decode M.2.1 pc = .ok (.if_icmp .eq off, 3)) (ht : (pc : Int) + off = (tgt : Int)) (kt : (x = y) → xk_X d mc ms M fx out cs ss tgt ls st hs) (kf : (¬ x = y) → xk_X d mc ms M fx out cs ss (pc + 3) ls st hs) : xk_X d mc ms M fx out cs ss pc ls (.int y :: .int x :: st) hs :=
  fun G ad0 ad p l e s m args below meth c A H locs la C hf hP hD hS hl O => lv_icmp_eq C.1 C.2.1 hd ht (fun q => kt q G ad0 ad p l e s m args below meth c A H locs la C hf hP hD hS hl ⟨O.1, xk_tl (xk_tl (O.2.1)), O.2.2⟩) (fun q => kf q G ad0 ad p l e s m args below meth c A H locs la C hf hP hD hS hl ⟨O.1, xk_tl (xk_tl (O.2.1)), O.2.2⟩)
theorem xk_if_ne {x : Int32} {off : Int} (tgt : Nat) (hd : decode M.2.1 pc = .ok (.ifCond .ne off, 3)) (ht : (pc : Int) + off = (tgt : Int)) (kt : (¬ x = 0) → xk_X d mc ms M fx out cs ss tgt ls st hs) (kf : (x = 0) → xk_X d mc ms M fx out cs ss (pc + 3) ls st hs) : xk_X d mc ms M fx out cs ss pc ls (.int x :: st) hs :=
  fun G ad0 ad p l e s m args below meth c A H locs la C hf hP hD hS hl O => lv_if_ne C.1 C.2.1 hd ht (fun q => kt q G ad0 ad p l e s m args below meth c A H locs la C hf hP hD hS hl ⟨O.1, xk_tl (O.2.1), O.2.2⟩) (fun q => kf q G ad0 ad p l e s m args below meth c A H locs la C hf hP hD hS hl ⟨O.1, xk_tl (O.2.1), O.2.2⟩)
theorem xk_icmp_ne {x y : Int32} {off : Int} (tgt : Nat) (hd : decode M.2.1 pc = .ok (.if_icmp .ne off, 3)) (ht : (pc : Int) + off = (tgt : Int)) (kt : (¬ x = y) → xk_X d mc ms M fx out cs ss tgt ls st hs) (kf : (x = y) → xk_X d mc ms M fx out cs ss (pc + 3) ls st hs) : xk_X d mc ms M fx out cs ss pc ls (.int y :: .int x :: st) hs :=
  fun G ad0 ad p l e s m args below meth c A H locs la C hf hP hD hS hl O => lv_icmp_ne C.1 C.2.1 hd ht (fun q => kt q G ad0 ad p l e s m args below meth c A H locs la C hf hP hD hS hl ⟨O.1, xk_tl (xk_tl (O.2.1)), O.2.2⟩) (fun q => kf q G ad0 ad p l e s m args below meth c A H locs la C hf hP hD hS hl ⟨O.1, xk_tl (xk_tl (O.2.1)), O.2.2⟩)
theorem xk_if_lt {x : Int32} {off : Int} (tgt : Nat) (hd : decode M.2.1 pc = .ok (.ifCond .lt off, 3)) (ht : (pc : Int) + off = (tgt : Int)) (kt : (x < 0) → xk_X d mc ms M fx out cs ss tgt ls st hs) (kf : (¬ x < 0) → xk_X d mc ms M fx out cs ss (pc + 3) ls st hs) : xk_X d mc ms M fx out cs ss pc ls (.int x :: st) hs :=
  fun G ad0 ad p l e s m args below meth c A H locs la C hf hP hD hS hl O => lv_if_lt C.1 C.2.1 hd ht (fun q => kt q G ad0 ad p l e s m args below meth c A H locs la C hf hP hD hS hl ⟨O.1, xk_tl (O.2.1), O.2.2⟩) (fun q => kf q G ad0 ad p l e s m args below meth c A H locs la C hf hP hD hS hl ⟨O.1, xk_tl (O.2.1), O.2.2⟩)
theorem xk_icmp_lt {x y : Int32} {off : Int} (tgt : Nat) (hd : decode M.2.1 pc = .ok (.if_icmp .lt off, 3)) (ht : (pc : Int) + off = (tgt : Int)) (kt : (x < y) → xk_X d mc ms M fx out cs ss tgt ls st hs) (kf : (¬ x < y) → xk_X d mc ms M fx out cs ss (pc + 3) ls st hs) : xk_X d mc ms M fx out cs ss pc ls (.int y :: .int x :: st) hs :=
  fun G ad0 ad p l e s m args below meth c A H locs la C hf hP hD hS hl O => lv_icmp_lt C.1 C.2.1 hd ht (fun q => kt q G ad0 ad p l e s m args below meth c A H locs la C hf hP hD hS hl ⟨O.1, xk_tl (xk_tl (O.2.1)), O.2.2⟩) (fun q => kf q G ad0 ad p l e s m args below meth c A H locs la C hf hP hD hS hl ⟨O.1, xk_tl (xk_tl (O.2.1)), O.2.2⟩)
theorem xk_if_ge {x : Int32} {off : Int} (tgt : Nat) (hd : decode M.2.1 pc = .ok (.ifCond .ge off, 3)) (ht : (pc : Int) + off = (tgt : Int)) (kt : (0 ≤ x) → xk_X d mc ms M fx out cs ss tgt ls st hs) (kf : (¬ 0 ≤ x) → xk_X d mc ms M fx out cs ss (pc + 3) ls st hs) : xk_X d mc ms M fx out cs ss pc ls (.int x :: st) hs :=
  fun G ad0 ad p l e s m args below meth c A H locs la C hf hP hD hS hl O => lv_if_ge C.1 C.2.1 hd ht (fun q => kt q G ad0 ad p l e s m args below meth c A H locs la C hf hP hD hS hl ⟨O.1, xk_tl (O.2.1), O.2.2⟩) (fun q => kf q G ad0 ad p l e s m args below meth c A H locs la C hf hP hD hS hl ⟨O.1, xk_tl (O.2.1), O.2.2⟩)
theorem xk_icmp_ge {x y : Int32} {off : Int} (tgt : Nat) (hd : decode M.2.1 pc = .ok (.if_icmp .ge off, 3)) (ht : (pc : Int) + off = (tgt : Int)) (kt : (y ≤ x) → xk_X d mc ms M fx out cs ss tgt ls st hs) (kf : (¬ y ≤ x) → xk_X d mc ms M fx out cs ss (pc + 3) ls st hs) : xk_X d mc ms M fx out cs ss pc ls (.int y :: .int x :: st) hs :=
  fun G ad0 ad p l e s m args below meth c A H locs la C hf hP hD hS hl O => lv_icmp_ge C.1 C.2.1 hd ht (fun q => kt q G ad0 ad p l e s m args below meth c A H locs la C hf hP hD hS hl ⟨O.1, xk_tl (xk_tl (O.2.1)), O.2.2⟩) (fun q => kf q G ad0 ad p l e s m args below meth c A H locs la C hf hP hD hS hl ⟨O.1, xk_tl (xk_tl (O.2.1)), O.2.2⟩)
theorem xk_if_gt {x : Int32} {off : Int} (tgt : Nat) (hd : decode M.2.1 pc = .ok (.ifCond .gt off, 3)) (ht : (pc : Int) + off = (tgt : Int)) (kt : (0 < x) → xk_X d mc ms M fx out cs ss tgt ls st hs) (kf : (¬ 0 < x) → xk_X d mc ms M fx out cs ss (pc + 3) ls st hs) : xk_X d mc ms M fx out cs ss pc ls (.int x :: st) hs :=
  fun G ad0 ad p l e s m args below meth c A H locs la C hf hP hD hS hl O => lv_if_gt C.1 C.2.1 hd ht (fun q => kt q G ad0 ad p l e s m args below meth c A H locs la C hf hP hD hS hl ⟨O.1, xk_tl (O.2.1), O.2.2⟩) (fun q => kf q G ad0 ad p l e s m args below meth c A H locs la C hf hP hD hS hl ⟨O.1, xk_tl (O.2.1), O.2.2⟩)
theorem xk_icmp_gt {x y : Int32} {off : Int} (tgt : Nat) (hd : decode M.2.1 pc = .ok (.if_icmp .gt off, 3)) (ht : (pc : Int) + off = (tgt : Int)) (kt : (y < x) → xk_X d mc ms M fx out cs ss tgt ls st hs) (kf : (¬ y < x) → xk_X d mc ms M fx out cs ss (pc + 3) ls st hs) : xk_X d mc ms M fx out cs ss pc ls (.int y :: .int x :: st) hs :=
  fun G ad0 ad p l e s m args below meth c A H locs la C hf hP hD hS hl O => lv_icmp_gt C.1 C.2.1 hd ht (fun q => kt q G ad0 ad p l e s m args below meth c A H locs la C hf hP hD hS hl ⟨O.1, xk_tl (xk_tl (O.2.1)), O.2.2⟩) (fun q => kf q G ad0 ad p l e s m args below meth c A H locs la C hf hP hD hS hl ⟨O.1, xk_tl (xk_tl (O.2.1)), O.2.2⟩)
theorem xk_if_le {x : Int32} {off : Int} (tgt : Nat) (hd : decode M.2.1 pc = .ok (.ifCond .le off, 3)) (ht : (pc : Int) + off = (tgt : Int)) (kt : (x ≤ 0) → xk_X d mc ms M fx out cs ss tgt ls st hs) (kf : (¬ x ≤ 0) → xk_X d mc ms M fx out cs ss (pc + 3) ls st hs) : xk_X d mc ms M fx out cs ss pc ls (.int x :: st) hs :=
  fun G ad0 ad p l e s m args below meth c A H locs la C hf hP hD hS hl O => lv_if_le C.1 C.2.1 hd ht (fun q => kt q G ad0 ad p l e s m args below meth c A H locs la C hf hP hD hS hl ⟨O.1, xk_tl (O.2.1), O.2.2⟩) (fun q => kf q G ad0 ad p l e s m args below meth c A H locs la C hf hP hD hS hl ⟨O.1, xk_tl (O.2.1), O.2.2⟩)
theorem xk_icmp_le {x y : Int32} {off : Int} (tgt : Nat) (hd : decode M.2.1 pc = .ok (.if_icmp .le off, 3)) (ht : (pc : Int) + off = (tgt : Int)) (kt : (x ≤ y) → xk_X d mc ms M fx out cs ss tgt ls st hs) (kf : (¬ x ≤ y) → xk_X d mc ms M fx out cs ss (pc + 3) ls st hs) : xk_X d mc ms M fx out cs ss pc ls (.int y :: .int x :: st) hs :=
  fun G ad0 ad p l e s m args below meth c A H locs la C hf hP hD hS hl O => lv_icmp_le C.1 C.2.1 hd ht (fun q => kt q G ad0 ad p l e s m args below meth c A H locs la C hf hP hD hS hl ⟨O.1, xk_tl (xk_tl (O.2.1)), O.2.2⟩) (fun q => kf q G ad0 ad p l e s m args below meth c A H locs la C hf hP hD hS hl ⟨O.1, xk_tl (xk_tl (O.2.1)), O.2.2⟩)
theorem xk_b_eq0 {b : Bool} : xk_b b = 0 ↔ b = false := by cases b <;> decide
theorem xk_b_nar (b : Bool) : narrow .boolean (.int (xk_b b)) = .int (xk_b b) := by cases b <;> rfl
theorem xk_ifb_eq {b : Bool} {off : Int} (tgt : Nat) (hd : decode M.2.1 pc = .ok (.ifCond .eq off, 3)) (ht : (pc : Int) + off = (tgt : Int)) (kt : b = false → xk_X d mc ms M fx out cs ss tgt ls st hs) (kf : b = true → xk_X d mc ms M fx out cs ss (pc + 3) ls st hs) : xk_X d mc ms M fx out cs ss pc ls (.int (xk_b b) :: st) hs :=
  xk_if_eq tgt hd ht (fun q => kt (by cases b <;> first | rfl | exact absurd q (by decide))) (fun q => kf (by cases b <;> first | rfl | exact absurd q (by decide)))
theorem xk_ifb_ne {b : Bool} {off : Int} (tgt : Nat) (hd : decode M.2.1 pc = .ok (.ifCond .ne off, 3)) (ht : (pc : Int) + off = (tgt : Int)) (kt : b = true → xk_X d mc ms M fx out cs ss tgt ls st hs) (kf : b = false → xk_X d mc ms M fx out cs ss (pc + 3) ls st hs) : xk_X d mc ms M fx out cs ss pc ls (.int (xk_b b) :: st) hs :=
  xk_if_ne tgt hd ht (fun q => kt (by cases b <;> first | rfl | exact absurd q (by decide))) (fun q => kf (by cases b <;> first | rfl | exact absurd q (by decide)))
theorem xk_goto {off : Int} (tgt : Nat) (hd : decode M.2.1 pc = .ok (.goto off, 3)) (ht : (pc : Int) + off = (tgt : Int)) (kk : xk_X d mc ms M fx out cs ss tgt ls st hs) : xk_X d mc ms M fx out cs ss pc ls st hs :=
  fun G ad0 ad p l e s m args below meth c A H locs la C hf hP hD hS hl O => lv_goto C.1 C.2.1 hd ht (kk G ad0 ad p l e s m args below meth c A H locs la C hf hP hD hS hl O)
theorem xk_tabOut {dflt lo hi : Int} {offs : Array Int} {len : Nat} {x : Int32} (tgt : Nat) (hd : decode M.2.1 pc = .ok (.tableswitch dflt lo hi offs, len)) (h : x.toInt < lo ∨ hi < x.toInt) (ht : (pc : Int) + dflt = (tgt : Int)) (kk : xk_X d mc ms M fx out cs ss tgt ls st hs) : xk_X d mc ms M fx out cs ss pc ls (.int x :: st) hs :=
  fun G ad0 ad p l e s m args below meth c A H locs la C hf hP hD hS hl O => lv_tableOut C.1 C.2.1 hd h ht (kk G ad0 ad p l e s m args below meth c A H locs la C hf hP hD hS hl ⟨O.1, xk_tl O.2.1, O.2.2⟩)
theorem xk_tabIn {dflt lo hi : Int} {offs : Array Int} {len : Nat} {x : Int32} {off : Int} (tgt : Nat) (hd : decode M.2.1 pc = .ok (.tableswitch dflt lo hi offs, len)) (h1 : ¬ x.toInt < lo) (h2 : ¬ hi < x.toInt) (ho : offs[(x.toInt - lo).toNat]? = some off) (ht : (pc : Int) + off = (tgt : Int)) (kk : xk_X d mc ms M fx out cs ss tgt ls st hs) : xk_X d mc ms M fx out cs ss pc ls (.int x :: st) hs :=
  fun G ad0 ad p l e s m args below meth c A H locs la C hf hP hD hS hl O => lv_tableIn C.1 C.2.1 hd h1 h2 ho ht (kk G ad0 ad p l e s m args below meth c A H locs la C hf hP hD hS hl ⟨O.1, xk_tl O.2.1, O.2.2⟩)
theorem xk_get {index : Nat} {a ci : Nat} {fs : List Value} {r : vw_C} {v : Value} (k : Nat) (hd : decode M.2.1 pc = .ok (.getfield index, 3)) (hc : vwCl[ci]? = some r) (hin : ∀ w ∈ u_ws r.1 r.2.1 r.2.2, w ∈ xk_WS) (hk : k < r.2.2) (hw : Cond.fieldLink M.1.cls index (r.2.1 k).1 (r.2.1 k).2.1 (r.2.1 k).2.2.1 ∈ xk_WS) (he : hs[a]? = some (.inr (ci, fs))) (hv : fs[k]? = some v) (kk : xk_X d mc ms M fx out cs ss (pc + 3) ls (v :: st) hs) : xk_X d mc ms M fx out cs ss pc ls (.ref a :: st) hs :=
  fun G ad0 ad p l e s m args below meth c A H locs la C hf hP hD hS hl O => va_get C.1 C.2.1 C.2.2.2.2.1 hin C.2.2.2.2.2.1 C.2.2.2.2.2.2.2.2.2.1 hP a (xk_w_get he) hc k hk (C.2.2.2.2.1 _ hw) (fun _ h9 => h9) (v := xk_v ad v) (by rw [List.getElem?_map, hv]; rfl) hd (kk G ad0 ad p l e s m args below meth c A H locs la C hf hP hD hS hl ⟨O.1, xk_cs (xk_okF O.2.2 he _ (List.mem_of_getElem? hv)) (xk_tl O.2.1), O.2.2⟩)
theorem xk_getN {index : Nat} {a ci : Nat} {fs : List Value} {r : vw_C} {v : Value} {host : String} (k : Nat) (hd : decode M.2.1 pc = .ok (.getfield index, 3)) (hc : vwCl[ci]? = some r) (hin : ∀ w ∈ u_ws r.1 r.2.1 r.2.2, w ∈ xk_WS) (hk : k < r.2.2) (hw : Cond.fieldLinkNest M.1.cls index (r.2.1 k).1 (r.2.1 k).2.1 (r.2.1 k).2.2.1 host ∈ xk_nest) (he : hs[a]? = some (.inr (ci, fs))) (hv : fs[k]? = some v) (kk : xk_X d mc ms M fx out cs ss (pc + 3) ls (v :: st) hs) : xk_X d mc ms M fx out cs ss pc ls (.ref a :: st) hs :=
  fun G ad0 ad p l e s m args below meth c A H locs la C hf hP hD hS hl O => va_getN C.1 C.2.1 C.2.2.2.2.1 hin C.2.2.2.2.2.1 C.2.2.2.2.2.2.2.2.2.1 hP a (xk_w_get he) hc k hk (va_Nw.use rfl (C.2.2.2.2.2.2.2.2.2.2.1 _ hw)) (fun _ h9 => h9) (v := xk_v ad v) (by rw [List.getElem?_map, hv]; rfl) hd (kk G ad0 ad p l e s m args below meth c A H locs la C hf hP hD hS hl ⟨O.1, xk_cs (xk_okF O.2.2 he _ (List.mem_of_getElem? hv)) (xk_tl O.2.1), O.2.2⟩)
theorem xk_put {index : Nat} {a ci : Nat} {fs : List Value} {r : vw_C} {v : Value} (k : Nat) (ty0 : Nat → FieldType) (hd : decode M.2.1 pc = .ok (.putfield index, 3)) (hc : vwCl[ci]? = some r) (hin : ∀ w ∈ u_ws r.1 r.2.1 r.2.2, w ∈ xk_WS) (hty : ∀ k, k < r.2.2 → parseFieldDescriptor (r.2.1 k).2.2.1 = some (ty0 k)) (hnm : ∀ a, a < r.2.2 → ∀ b, b < r.2.2 → a ≠ b → (r.2.1 a).2.1 ≠ (r.2.1 b).2.1) (hk : k < r.2.2) (hw : Cond.fieldLink M.1.cls index (r.2.1 k).1 (r.2.1 k).2.1 (r.2.1 k).2.2.1 ∈ xk_WS) (hfin : (r.2.1 k).2.2.2 = false) (hn : ∀ ad, narrow (ty0 k) (xk_v ad v) = xk_v ad v) (hfit : ∀ ad, fits (ty0 k) (xk_v ad v) = true) (he : hs[a]? = some (.inr (ci, fs))) (hl9 : k < fs.length) (kk : xk_X d mc ms M fx out cs ss (pc + 3) ls st (hs.set a (.inr (ci, fs.set k v)))) : xk_X d mc ms M fx out cs ss pc ls (v :: .ref a :: st) hs :=
  fun G ad0 ad p l e s m args below meth c A H locs la C hf hP hD hS hl O => va_put C.1 C.2.1 C.2.2.2.2.1 hin ty0 hty hnm C.2.2.2.2.2.1 C.2.2.2.2.2.2.2.2.2.1 hP hD hS a (xk_w_get he) hc k hk (C.2.2.2.2.1 _ hw) (fun _ h9 => h9) hfin (hty k hk) (hn ad) (hfit ad) (by rw [List.length_map]; exact hl9) hd (fun H locs hP hD hS => kk G ad0 ad p l e s m args below meth c A H locs la C hf (by
    rw [← xk_w_set]
    simpa [xk_e, List.map_set] using hP) (by
    rw [← xk_w_set]
    simpa [xk_e, List.map_set] using hD) hS hl (O.set (xk_tl (xk_tl O.2.1)) (fun w hw => (List.mem_or_eq_of_mem_set hw).elim (xk_okF O.2.2 he w) (fun q => q ▸ xk_hd O.2.1))))
theorem xk_putF {index : Nat} {a ci : Nat} {fs : List Value} {r : vw_C} {v : Value} (k : Nat) (ty0 : Nat → FieldType) (hd : decode M.2.1 pc = .ok (.putfield index, 3)) (hc : vwCl[ci]? = some r) (hin : ∀ w ∈ u_ws r.1 r.2.1 r.2.2, w ∈ xk_WS) (hty : ∀ k, k < r.2.2 → parseFieldDescriptor (r.2.1 k).2.2.1 = some (ty0 k)) (hnm : ∀ a, a < r.2.2 → ∀ b, b < r.2.2 → a ≠ b → (r.2.1 a).2.1 ≠ (r.2.1 b).2.1) (hk : k < r.2.2) (hw : Cond.fieldLink M.1.cls index (r.2.1 k).1 (r.2.1 k).2.1 (r.2.1 k).2.2.1 ∈ xk_WS) (hfin : (r.2.1 k).2.2.2 = true) (hin2 : M.1.name = "<init>") (hdecl : (r.2.1 k).1 = M.1.cls) (hn : ∀ ad, narrow (ty0 k) (xk_v ad v) = xk_v ad v) (hfit : ∀ ad, fits (ty0 k) (xk_v ad v) = true) (he : hs[a]? = some (.inr (ci, fs))) (hl9 : k < fs.length) (kk : xk_X d mc ms M fx out cs ss (pc + 3) ls st (hs.set a (.inr (ci, fs.set k v)))) : xk_X d mc ms M fx out cs ss pc ls (v :: .ref a :: st) hs :=
  fun G ad0 ad p l e s m args below meth c A H locs la C hf hP hD hS hl O => va_putF C.1 C.2.1 C.2.2.2.2.1 hin ty0 hty hnm C.2.2.2.2.2.1 C.2.2.2.2.2.2.2.2.2.1 hP hD hS a (xk_w_get he) hc k hk (C.2.2.2.2.1 _ hw) (fun _ h9 => h9) hfin (C.2.2.2.2.2.2.2.1.trans hin2) hdecl (hty k hk) (hn ad) (hfit ad) (by rw [List.length_map]; exact hl9) hd (fun H locs hP hD hS => kk G ad0 ad p l e s m args below meth c A H locs la C hf (by
    rw [← xk_w_set]
    simpa [xk_e, List.map_set] using hP) (by
    rw [← xk_w_set]
    simpa [xk_e, List.map_set] using hD) hS hl (O.set (xk_tl (xk_tl O.2.1)) (fun w hw => (List.mem_or_eq_of_mem_set hw).elim (xk_okF O.2.2 he w) (fun q => q ▸ xk_hd O.2.1))))
theorem xk_iald {a n : Nat} {f : Nat → Int32} {i : Int32} (hd : decode M.2.1 pc = .ok (.iaload, 1)) (he : hs[a]? = some (.inl (0, n, .inl f))) (hin : vp_in i n) (kk : xk_X d mc ms M fx out cs ss (pc + 1) ls (.int (f i.toNatClampNeg) :: st) hs) : xk_X d mc ms M fx out cs ss pc ls (.int i :: .ref a :: st) hs :=
  fun G ad0 ad p l e s m args below meth c A H locs la C hf hP hD hS hl O => va_iald C.1 C.2.1 C.2.2.2.2.2.2.2.2.2.1 hP a 0 (xk_w_get he) rfl hin hd (kk G ad0 ad p l e s m args below meth c A H locs la C hf hP hD hS hl ⟨O.1, xk_cs trivial (xk_tl (xk_tl O.2.1)), O.2.2⟩)
theorem xk_zald {a n : Nat} {f : Nat → Int32} {i : Int32} (hd : decode M.2.1 pc = .ok (.baload, 1)) (he : hs[a]? = some (.inl (2, n, .inl f))) (hin : vp_in i n) (kk : xk_X d mc ms M fx out cs ss (pc + 1) ls (.int (f i.toNatClampNeg) :: st) hs) : xk_X d mc ms M fx out cs ss pc ls (.int i :: .ref a :: st) hs :=
  fun G ad0 ad p l e s m args below meth c A H locs la C hf hP hD hS hl O => va_zald C.1 C.2.1 C.2.2.2.2.2.2.2.2.2.1 hP a 2 (xk_w_get he) rfl hin hd (kk G ad0 ad p l e s m args below meth c A H locs la C hf hP hD hS hl ⟨O.1, xk_cs trivial (xk_tl (xk_tl O.2.1)), O.2.2⟩)
theorem xk_lald {a n : Nat} {f : Nat → Int64} {i : Int32} (hd : decode M.2.1 pc = .ok (.laload, 1)) (he : hs[a]? = some (.inl (1, n, .inr (.inl f)))) (hin : vp_in i n) (kk : xk_X d mc ms M fx out cs ss (pc + 1) ls (.long (f i.toNatClampNeg) :: st) hs) : xk_X d mc ms M fx out cs ss pc ls (.int i :: .ref a :: st) hs :=
  fun G ad0 ad p l e s m args below meth c A H locs la C hf hP hD hS hl O => va_lald C.1 C.2.1 C.2.2.2.2.2.2.2.2.2.1 hP a 1 (xk_w_get he) rfl hin hd (kk G ad0 ad p l e s m args below meth c A H locs la C hf hP hD hS hl ⟨O.1, xk_cs trivial (xk_tl (xk_tl O.2.1)), O.2.2⟩)
theorem xk_iast {a n : Nat} {f : Nat → Int32} {i : Int32} {x : Int32} (hd : decode M.2.1 pc = .ok (.iastore, 1)) (he : hs[a]? = some (.inl (0, n, .inl f))) (hin : vp_in i n) (kk : xk_X d mc ms M fx out cs ss (pc + 1) ls st (hs.set a (.inl (0, n, .inl (upd f i.toNatClampNeg x))))) : xk_X d mc ms M fx out cs ss pc ls (.int x :: .int i :: .ref a :: st) hs :=
  fun G ad0 ad p l e s m args below meth c A H locs la C hf hP hD hS hl O => va_iast C.1 C.2.1 C.2.2.2.2.2.2.2.2.2.1 hP hD hS a 0 (xk_w_get he) rfl hin hd (fun H locs hP hD hS => kk G ad0 ad p l e s m args below meth c A H locs la C hf (by
    rw [← xk_w_set]
    exact hP) (by
    rw [← xk_w_set]
    exact hD) hS hl (O.set (xk_tl (xk_tl (xk_tl O.2.1))) trivial))
theorem xk_zast {a n : Nat} {f : Nat → Int32} {i : Int32} {x : Int32} (hd : decode M.2.1 pc = .ok (.bastore, 1)) (he : hs[a]? = some (.inl (2, n, .inl f))) (hin : vp_in i n) (kk : xk_X d mc ms M fx out cs ss (pc + 1) ls st (hs.set a (.inl (2, n, .inl (upd f i.toNatClampNeg (vp_nar .boolean x)))))) : xk_X d mc ms M fx out cs ss pc ls (.int x :: .int i :: .ref a :: st) hs :=
  fun G ad0 ad p l e s m args below meth c A H locs la C hf hP hD hS hl O => va_zast C.1 C.2.1 C.2.2.2.2.2.2.2.2.2.1 hP hD hS a 2 (xk_w_get he) rfl hin hd (fun H locs hP hD hS => kk G ad0 ad p l e s m args below meth c A H locs la C hf (by
    rw [← xk_w_set]
    exact hP) (by
    rw [← xk_w_set]
    exact hD) hS hl (O.set (xk_tl (xk_tl (xk_tl O.2.1))) trivial))
theorem xk_last {a n : Nat} {f : Nat → Int64} {i : Int32} {x : Int64} (hd : decode M.2.1 pc = .ok (.lastore, 1)) (he : hs[a]? = some (.inl (1, n, .inr (.inl f)))) (hin : vp_in i n) (kk : xk_X d mc ms M fx out cs ss (pc + 1) ls st (hs.set a (.inl (1, n, .inr (.inl (vp_updL f i.toNatClampNeg x)))))) : xk_X d mc ms M fx out cs ss pc ls (.long x :: .int i :: .ref a :: st) hs :=
  fun G ad0 ad p l e s m args below meth c A H locs la C hf hP hD hS hl O => va_last C.1 C.2.1 C.2.2.2.2.2.2.2.2.2.1 hP hD hS a 1 (xk_w_get he) rfl hin hd (fun H locs hP hD hS => kk G ad0 ad p l e s m args below meth c A H locs la C hf (by
    rw [← xk_w_set]
    exact hP) (by
    rw [← xk_w_set]
    exact hD) hS hl (O.set (xk_tl (xk_tl (xk_tl O.2.1))) trivial))
theorem xk_aaldI {a n b : Nat} {f : Nat → Option Nat} {i : Int32} (hd : decode M.2.1 pc = .ok (.aaload, 1)) (he : hs[a]? = some (.inl (3, n, .inr (.inr (.inr (.inr f)))))) (hin : vp_in i n) (hb : f i.toNatClampNeg = some b) (kk : xk_X d mc ms M fx out cs ss (pc + 1) ls (.ref b :: st) hs) : xk_X d mc ms M fx out cs ss pc ls (.int i :: .ref a :: st) hs :=
  fun G ad0 ad p l e s m args below meth c A H locs la C hf hP hD hS hl O => by
    have hlt : i.toNatClampNeg < n := Nat.not_le.mp fun q => hin (Or.inr q)
    have ha := xk_w_get (K := G.2.1) (ad := ad) he
    refine W.aald (v := .ref (ad b)) (ty := .array .int) C.1 C.2.1 (hP a _ ha) ((C.2.2.2.2.2.2.2.2.2.1.2 3 _ rfl).1 n (fun j => va_rf ((f j).map ad))) rfl (fun q => by cases q) (by show ¬ (i < 0 ∨ (arrV _ _ _).slots.size ≤ _); rw [arrV_size]; exact hin) (by show (arrV _ n _).slots[_]? = _; rw [arrV_read _ _ hlt]; show some (va_rf ((f i.toNatClampNeg).map ad)) = _; rw [hb]; rfl) rfl rfl hd ?_
    exact kk G ad0 ad p l e s m args below meth c A H locs la C hf hP hD hS hl ⟨O.1, xk_cs (xk_okR O.2.2 he hb) (xk_tl (xk_tl O.2.1)), O.2.2⟩
theorem xk_aaldJ {a n b : Nat} {f : Nat → Option Nat} {i : Int32} (hd : decode M.2.1 pc = .ok (.aaload, 1)) (he : hs[a]? = some (.inl (4, n, .inr (.inr (.inr (.inr f)))))) (hin : vp_in i n) (hb : f i.toNatClampNeg = some b) (kk : xk_X d mc ms M fx out cs ss (pc + 1) ls (.ref b :: st) hs) : xk_X d mc ms M fx out cs ss pc ls (.int i :: .ref a :: st) hs :=
  fun G ad0 ad p l e s m args below meth c A H locs la C hf hP hD hS hl O => by
    have hlt : i.toNatClampNeg < n := Nat.not_le.mp fun q => hin (Or.inr q)
    have ha := xk_w_get (K := G.2.1) (ad := ad) he
    refine W.aald (v := .ref (ad b)) (ty := .array .long) C.1 C.2.1 (hP a _ ha) ((C.2.2.2.2.2.2.2.2.2.1.2 4 _ rfl).1 n (fun j => va_rf ((f j).map ad))) rfl (fun q => by cases q) (by show ¬ (i < 0 ∨ (arrV _ _ _).slots.size ≤ _); rw [arrV_size]; exact hin) (by show (arrV _ n _).slots[_]? = _; rw [arrV_read _ _ hlt]; show some (va_rf ((f i.toNatClampNeg).map ad)) = _; rw [hb]; rfl) rfl rfl hd ?_
    exact kk G ad0 ad p l e s m args below meth c A H locs la C hf hP hD hS hl ⟨O.1, xk_cs (xk_okR O.2.2 he hb) (xk_tl (xk_tl O.2.1)), O.2.2⟩
theorem xk_alen {a t0 : Nat} {x : vp_A} {v : Int32} (hd : decode M.2.1 pc = .ok (.arraylength, 1)) (he : hs[a]? = some (.inl (t0, x))) (ht : t0 < 5) (hv : Int32.ofNat x.1 = v) (kk : xk_X d mc ms M fx out cs ss (pc + 1) ls (.int v :: st) hs) : xk_X d mc ms M fx out cs ss pc ls (.ref a :: st) hs :=
  fun G ad0 ad p l e s m args below meth c A H locs la C hf hP hD hS hl O => by
    have h5 : ∃ ty, (xk_t G.2.1)[t0]? = some (G.2.1 t0, ty) := by
      match t0, ht with
      | 0, _ => exact ⟨_, rfl⟩
      | 1, _ => exact ⟨_, rfl⟩
      | 2, _ => exact ⟨_, rfl⟩
      | 3, _ => exact ⟨_, rfl⟩
      | 4, _ => exact ⟨_, rfl⟩
    obtain ⟨ty, h5⟩ := h5
    have h1 : (xk_a ad x).1 = x.1 := by obtain ⟨n, f | f | f | f | f⟩ := x <;> rfl
    exact va_alen C.1 C.2.1 C.2.2.2.2.2.2.2.2.2.1 hP a t0 (xk_w_get he) h5 (by rw [h1]; exact hv) hd (kk G ad0 ad p l e s m args below meth c A H locs la C hf hP hD hS hl ⟨O.1, xk_cs trivial (xk_tl O.2.1), O.2.2⟩)
theorem xk_iret {v : Int32} (hr : M.2.2.2 = some .int) (hd : decode M.2.1 pc = .ok (.ireturn, 1)) (hc : cs ≤ mc) (hs9 : ss ≤ ms) (ho : out (some (.int v)) hs) : xk_X d mc ms M fx out cs ss pc ls [.int v] hs :=
  fun G ad0 ad p l e s m args below meth c A H locs la C hf hP hD hS hl O => W.widen hc hs9 (W.iret C.1 C.2.1 (C.2.2.2.1.trans hr) (fun t ht hW => ⟨⟨(some (.int v)), hs, ad, rfl, ho, ⟨fun _ h => absurd h List.not_mem_nil, O.2.1, O.2.2⟩, hf, by rw [ht]; exact hP, hD⟩, hS.F ht⟩) hS.2.2 hd C.2.2.2.2.2.2.1)
theorem xk_zret {v : Int32} (hr : M.2.2.2 = some .boolean) (hn : narrow .boolean (.int v) = .int v) (hd : decode M.2.1 pc = .ok (.ireturn, 1)) (hc : cs ≤ mc) (hs9 : ss ≤ ms) (ho : out (some (.int v)) hs) : xk_X d mc ms M fx out cs ss pc ls [.int v] hs :=
  fun G ad0 ad p l e s m args below meth c A H locs la C hf hP hD hS hl O => W.widen hc hs9 (W.zret C.1 C.2.1 (C.2.2.2.1.trans hr) hn (fun t ht hW => ⟨⟨(some (.int v)), hs, ad, rfl, ho, ⟨fun _ h => absurd h List.not_mem_nil, O.2.1, O.2.2⟩, hf, by rw [ht]; exact hP, hD⟩, hS.F ht⟩) hS.2.2 hd C.2.2.2.2.2.2.1)
theorem xk_lret {v : Int64} (hr : M.2.2.2 = some .long) (hd : decode M.2.1 pc = .ok (.lreturn, 1)) (hc : cs ≤ mc) (hs9 : ss ≤ ms) (ho : out (some (.long v)) hs) : xk_X d mc ms M fx out cs ss pc ls [.long v] hs :=
  fun G ad0 ad p l e s m args below meth c A H locs la C hf hP hD hS hl O => W.widen hc hs9 (W.lret C.1 C.2.1 (C.2.2.2.1.trans hr) (fun t ht hW => ⟨⟨(some (.long v)), hs, ad, rfl, ho, ⟨fun _ h => absurd h List.not_mem_nil, O.2.1, O.2.2⟩, hf, by rw [ht]; exact hP, hD⟩, hS.F ht⟩) hS.2.2 hd C.2.2.2.2.2.2.1)
theorem xk_vret (hr : M.2.2.2 = none) (hd : decode M.2.1 pc = .ok (.return_, 1)) (hc : cs ≤ mc) (hs9 : ss ≤ ms) (ho : out none hs) : xk_X d mc ms M fx out cs ss pc ls [] hs :=
  fun G ad0 ad p l e s m args below meth c A H locs la C hf hP hD hS hl O => W.widen hc hs9 (W.vret C.1 C.2.1 (C.2.2.2.1.trans hr) (fun t ht hW => ⟨⟨none, hs, ad, rfl, ho, ⟨fun _ h => absurd h List.not_mem_nil, O.2.1, O.2.2⟩, hf, by rw [ht]; exact hP, hD⟩, hS.F ht⟩) hS.2.2 hd C.2.2.2.2.2.2.1)
end XKR
