/-! Agreement: few, left. Own text. -/
theorem cntP_shift (f : Nat → Nat) : ∀ K, cntP f (K + 1) = (if 0 < f 0 then 1 else 0) + cntP (fun i => f (i + 1)) K
  | 0 => by rw [cntP, cntP, cntP]; omega
  | K + 1 => by
    rw [cntP, cntP_shift f K, cntP]
    omega
def bt (m i : Nat) : Nat := if m.testBit i = true then 1 else 0
theorem bt_pos {m i : Nat} : 0 < bt m i ↔ m.testBit i = true := by
  unfold bt
  split
  · next h => exact ⟨fun _ => h, fun _ => by decide⟩
  · next h => exact ⟨fun q => absurd q (by decide), fun q => absurd q h⟩
theorem popc_cnt : ∀ K m, popc K m = cntP (bt m) K
  | 0, _ => rfl
  | K + 1, m => by
    rw [popc, cntP_shift, popc_cnt K (m / 2)]
    have e1 : (if 0 < bt m 0 then 1 else 0) = m % 2 := by
      have h : (0 < bt m 0) ↔ m % 2 = 1 := by
        rw [bt_pos, Nat.testBit_zero, decide_eq_true_eq]
      by_cases c : m % 2 = 1
      · rw [if_pos (h.mpr c), c]
      · rw [if_neg (fun q => c (h.mp q))]
        omega
    rw [e1, cntP_congr (f := bt (m / 2)) (g := fun i => bt m (i + 1)) K (fun j _ => by rw [bt_pos, bt_pos, Nat.testBit_succ])]
theorem cntP_mono {f g : Nat → Nat} (h : ∀ i, 0 < f i → 0 < g i) : ∀ K, cntP f K ≤ cntP g K
  | 0 => Nat.le_refl _
  | K + 1 => by
    have ih := cntP_mono h K
    rw [cntP, cntP]
    by_cases c : 0 < f K
    · rw [if_pos c, if_pos (h K c)]
      omega
    · rw [if_neg c]
      omega
theorem popc_mono {a b : Nat} (h : ∀ i, a.testBit i = true → b.testBit i = true) (K : Nat) : popc K a ≤ popc K b := by
  rw [popc_cnt, popc_cnt]
  exact cntP_mono (fun i hi => bt_pos.mpr (h i (bt_pos.mp hi))) K
theorem or_bit (a k m : Nat) : (a ||| 2 ^ k).testBit m = (a.testBit m || decide (k = m)) := by rw [Nat.testBit_or, Nat.testBit_two_pow]
theorem popc_set {a k K : Nat} (hk : k < K) (h : a.testBit k = false) : popc K (a ||| 2 ^ k) = popc K a + 1 := by
  rw [popc_cnt, popc_cnt]
  have h1 := cntP_upd (f := bt a) (k := k) (x := 1) K hk
  rw [if_neg (by rw [bt_pos, h]; decide), if_pos (by decide)] at h1
  rw [← h1, Nat.add_zero]
  refine cntP_congr K (fun j _ => ?_)
  by_cases e : j = k
  · subst e
    rw [updN_at, bt_pos, or_bit]
    simp
  · rw [updN_ne e, bt_pos, bt_pos, or_bit]
    simp [Ne.symm e]
theorem ltbit : ∀ (k x y : Nat), x.testBit k = false → y.testBit k = true → (∀ j, k < j → x.testBit j = y.testBit j) → x < y
  | 0, x, y, hx, hy, h => by
    have e : x / 2 = y / 2 := Nat.eq_of_testBit_eq (fun j => by
      rw [← Nat.testBit_succ, ← Nat.testBit_succ]
      exact h (j + 1) (by omega))
    rw [Nat.testBit_zero] at hx hy
    have hx' := of_decide_eq_false hx
    have hy' := of_decide_eq_true hy
    omega
  | k + 1, x, y, hx, hy, h => by
    rw [Nat.testBit_succ] at hx hy
    have := ltbit k (x / 2) (y / 2) hx hy (fun j hj => by
      rw [← Nat.testBit_succ, ← Nat.testBit_succ]
      exact h (j + 1) (by omega))
    omega
def lexle (a b : Nat) : Prop := popc 15 a < popc 15 b ∨ (popc 15 a = popc 15 b ∧ a ≤ b)
theorem lexle.tr {a b c : Nat} (h1 : lexle a b) (h2 : lexle b c) : lexle a c := by
  unfold lexle at *
  omega
theorem lexle.anti {a b : Nat} (h1 : lexle a b) (h2 : lexle b a) : a = b := by
  unfold lexle at *
  omega
theorem itr_ind {σ : Type} {f : Nat → σ → σ} (I : Nat → σ → Prop) : ∀ (m i : Nat) (s : σ), (∀ k s, i ≤ k → k < i + m → I k s → I (k + 1) (f k s)) → I i s → I (i + m) (itr f m i s)
  | 0, _, _, _, h => h
  | m + 1, i, s, hf, h => by
    have := itr_ind I m (i + 1) (f i s) (fun k s h1 h2 => hf k s (by omega) (by omega)) (hf i s (Nat.le_refl _) (by omega) h)
    rw [show i + (m + 1) = i + 1 + m by omega]
    exact this
section AGE
variable {n fl fv : Nat} {w v : tbW} {T : mdT}
theorem hin_iff {k : Nat} : hIn n (mAll n T) k ↔ k < n * (n - 1) / 2 ∧ 0 < T.1 k := by
  unfold hIn mAll
  rw [allB_bit]
  simp only [Bool.and_eq_true, decide_eq_true_eq]
  exact ⟨fun h => ⟨h.1, h.2.2⟩, fun h => ⟨h.1, h.1, h.2⟩⟩
theorem al_bit {k : Nat} : (mAll n T).testBit k = true ↔ k < n * (n - 1) / 2 ∧ 0 < T.1 k := by
  unfold mAll
  rw [allB_bit]
  simp only [Bool.and_eq_true, decide_eq_true_eq]
/-- the pairs that are kept: of those from k on, what hp leaves -/
def kept (n : Nat) (T : mdT) (k hp : Nat) : Nat → Prop := fun m => hIn n (mAll n T) m ∧ k ≤ m ∧ hp.testBit m = false
noncomputable def kE (n : Nat) (K : Nat → Prop) : Nat → Nat → Bool := fun x y => @decide ((x < n ∧ y < n) ∧ x ≠ y ∧ K (pidx n x y)) (Classical.propDecidable _)
theorem kE_iff {K : Nat → Prop} {x y : Nat} : kE n K x y = true ↔ (x < n ∧ y < n) ∧ x ≠ y ∧ K (pidx n x y) := by
  unfold kE
  exact @decide_eq_true_iff _ (Classical.propDecidable _)
def fixI (gr : Nat → Nat) : Nat → Nat := fun x => if gr x = x then 1 else 0
/-- groups and worths are those of the pairs of K -/
def lvJ (n : Nat) (w : tbW) (T : mdT) (K : Nat → Prop) (jn : Nat) (gr : Nat → Nat) (wt : Nat → Int32) : Prop :=
  (∀ m, K m → hIn n (mAll n T) m) ∧ (∃ φ, pot n w K φ) ∧ (∀ x y, x < n → y < n → gr x = gr y → rch (kE n K) n x y) ∧ (∀ x y, kE n K x y = true → gr x = gr y ∧ wt x - wt y = logW w x y) ∧ (∀ x, x < n → gr x < n ∧ gr (gr x) = gr x) ∧ cntP (fixI gr) n + jn = n
theorem rch_tr {E : Nat → Nat → Bool} {a i : Nat} (h : rch E n a i) : ∀ l : List Nat, pth E n l → lastN l = i → rch E n a (hd l)
  | [], hl, _ => absurd rfl hl.1
  | [x], _, e => by
    have : x = i := e
    subst this
    exact h
  | b :: c :: q, hl, e => by
    have hl2 : pth E n (c :: q) := ⟨by simp, fun x hx => hl.2.1 x (List.mem_cons_of_mem _ hx), (List.nodup_cons.mp hl.2.2.1).2, hl.2.2.2.2⟩
    exact rch_s (rch_tr h (c :: q) hl2 e) (hl.2.1 b (by simp)) hl.2.2.2.1
theorem rch_mono {E E' : Nat → Nat → Bool} (h : ∀ x y, E x y = true → E' x y = true) {a b : Nat} (hr : rch E n a b) : rch E' n a b := by
  obtain ⟨l, h1, h2, h3⟩ := hr
  exact ⟨l, ⟨h1.1, h1.2.1, h1.2.2.1, chn_mono h l h1.2.2.2⟩, h2, h3⟩
theorem pot_add {K : Nat → Prop} {φ : Nat → Nat × Nat} {i j : Nat} (hn : n ≤ 6) (h2 : 2 ≤ n) (h : pot n w K φ) (hi : i < n) (hj : j < n) (hij : i ≠ j) (key : fq (mul2 (φ i) (inv2 (φ j))) (w i j)) (hw : w j i = inv2 (w i j)) : pot n w (fun k => K k ∨ k = pidx n i j) φ := by
  refine ⟨h.1, fun x y hx hy hxy hk => ?_⟩
  rcases hk with hk | hk
  · exact h.2 x y hx hy hxy hk
  · rcases pidx_inj hn h2 hx hy hxy hi hj hij hk with ⟨rfl, rfl⟩ | ⟨rfl, rfl⟩
    · exact key
    · rw [hw]
      have kk := key.inv
      refine fq.tr ⟨⟨⟨Nat.mul_pos (h.1 x hx).1 (h.1 y hy).2, Nat.mul_pos (h.1 x hx).2 (h.1 y hy).1⟩, kk.1.1⟩, ?_⟩ kk
      show (φ x).1 * (φ y).2 * ((φ y).1 * (φ x).2) = (φ y).2 * (φ x).1 * ((φ x).2 * (φ y).1)
      ac_rfl
theorem log_inv {i j : Nat} {wt : Nat → Int32} (hw : w j i = inv2 (w i j)) (h : wt i - wt j = logW w i j) : wt j - wt i = logW w j i := by
  unfold logW at h ⊢
  rw [hw]
  show wt j - wt i = logD (w i j).2 - logD (w i j).1
  rw [i32] at h ⊢
  rw [Int32.add_comm, ← h, Int32.add_comm]
section STEP
variable {K : Nat → Prop} {jn : Nat} {gr : Nat → Nat} {wt : Nat → Int32} {i j : Nat}
theorem lvJ.hE (R : saR n w T) (J : lvJ n w T K jn gr wt) : ∀ x y, x < n → y < n → kE n K x y = true → tH w x y = true ∧ wt x - wt y = logW w x y := fun x y hx hy h => by
  have a := kE_iff.mp h
  exact ⟨(R.edge hx hy a.2.1).mp (hin_iff.mp (J.1 _ a.2.2)).2, (J.2.2.2.1 x y h).2⟩
/-- in one group: the weights' difference is the saying's logarithm just if the saying holds by weights for K -/
theorem lvJ.same (hn : n ≤ 6) (R : saR n w T) (ho : tbOK n w) (J : lvJ n w T K jn gr wt) (hi : i < n) (hj : j < n) (hg : gr i = gr j) (hd : dg (w i j)) {K' : Nat → Prop} {φ : Nat → Nat × Nat} (hK : ∀ m, K m → K' m) (hφ : pot n w K' φ) : wt i - wt j = logW w i j ↔ fq (mul2 (φ i) (inv2 (φ j))) (w i j) := by
  obtain ⟨l, l1, l2, l3⟩ := J.2.2.1 i j hi hj hg
  rw [log_iff ho hn (J.hE R) l1 l2 l3 hd]
  have f := pot_path hφ (E := kE n K) (fun x y _ _ h => by
    have a := kE_iff.mp h
    exact ⟨a.2.1, hK _ a.2.2⟩) l l1.1 l1.2.1 l1.2.2.2
  rw [l2, l3] at f
  exact ⟨fun h => f.sy.tr h, fun h => f.tr h⟩
theorem lvJ.add (hn : n ≤ 6) (h2 : 2 ≤ n) (R : saR n w T) (ho : tbOK n w) (J : lvJ n w T K jn gr wt) (hi : i < n) (hj : j < n) (hij : i ≠ j) (hT : 0 < T.1 (pidx n i j)) (hg : gr i = gr j) (hl : wt i - wt j = logW w i j) : lvJ n w T (fun k => K k ∨ k = pidx n i j) jn gr wt := by
  obtain ⟨d1, d2, d3⟩ := R.dgs hi hj hij hT
  obtain ⟨j0, ⟨φ, hφ⟩, j2, j3, j4, j5⟩ := id J
  refine ⟨fun m hm => ?_, ⟨φ, pot_add hn h2 hφ hi hj hij ((J.same hn R ho hi hj hg d1 (fun _ h => h) hφ).mp hl) d2⟩, fun x y hx hy h => rch_mono (fun a b hab => ?_) (j2 x y hx hy h), fun x y h => ?_, j4, j5⟩
  · rcases hm with hm | hm
    · exact j0 m hm
    · subst hm
      exact hin_iff.mpr ⟨(pidx_ok n (by omega) h2 i hi j hj hij).1, hT⟩
  · have a9 := kE_iff.mp hab
    exact kE_iff.mpr ⟨a9.1, a9.2.1, Or.inl a9.2.2⟩
  · obtain ⟨⟨hx, hy⟩, hxy, hk⟩ := kE_iff.mp h
    rcases hk with hk | hk
    · exact j3 x y (kE_iff.mpr ⟨⟨hx, hy⟩, hxy, hk⟩)
    · rcases pidx_inj hn h2 hx hy hxy hi hj hij hk with ⟨rfl, rfl⟩ | ⟨rfl, rfl⟩
      · exact ⟨hg, hl⟩
      · exact ⟨hg.symm, log_inv d2 hl⟩
theorem lvJ.join (hn : n ≤ 6) (h2 : 2 ≤ n) (R : saR n w T) (J : lvJ n w T K jn gr wt) (hi : i < n) (hj : j < n) (hij : i ≠ j) (hT : 0 < T.1 (pidx n i j)) (hg : ¬ gr i = gr j) : lvJ n w T (fun k => K k ∨ k = pidx n i j) (jn + 1) (joinG gr i j) (joinW gr wt i j (logW w i j)) ∧ jn + 1 < n := by
  obtain ⟨d1, d2, d3⟩ := R.dgs hi hj hij hT
  obtain ⟨j0, ⟨φ, hφ⟩, j2, j3, j4, j5⟩ := id J
  have hfj : fixI gr (gr j) = 1 := if_pos (j4 j hj).2
  have hfi : fixI gr (gr i) = 1 := if_pos (j4 i hi).2
  have hcount := cntP_upd (f := fixI gr) (k := gr j) (x := 0) n (j4 j hj).1
  rw [hfj, if_pos (by decide), if_neg (by decide)] at hcount
  have hcount2 := cntP_pos (f := updN (fixI gr) (gr j) 0) (k := gr i) (m := n) (j4 i hi).1 (by rw [updN_ne hg, hfi]; decide)
  have gi : joinG gr i j i = gr i := if_neg hg
  have gj : joinG gr i j j = gr i := if_pos rfl
  have mono : ∀ a b, kE n K a b = true → kE n (fun k => K k ∨ k = pidx n i j) a b = true := fun a b hab => by
    have a9 := kE_iff.mp hab
    exact kE_iff.mpr ⟨a9.1, a9.2.1, Or.inl a9.2.2⟩
  have eij : kE n (fun k => K k ∨ k = pidx n i j) i j = true := kE_iff.mpr ⟨⟨hi, hj⟩, hij, Or.inr rfl⟩
  have eji : kE n (fun k => K k ∨ k = pidx n i j) j i = true := kE_iff.mpr ⟨⟨hj, hi⟩, Ne.symm hij, Or.inr (pidx_ok n (by omega) h2 i hi j hj hij).2.2.2.1.symm⟩
  have old : ∀ x y, x < n → y < n → gr x = gr y → rch (kE n (fun k => K k ∨ k = pidx n i j)) n x y := fun x y hx hy h => rch_mono mono (j2 x y hx hy h)
  have via : ∀ x y a b, x < n → y < n → a < n → b < n → gr x = gr a → gr b = gr y → kE n (fun k => K k ∨ k = pidx n i j) a b = true → rch (kE n (fun k => K k ∨ k = pidx n i j)) n x y := fun x y a b hx hy ha hb h1 h3 he => by
    have r1 := rch_s (old x a hx ha h1) hb he
    obtain ⟨l, l1, l2, l3⟩ := old b y hb hy h3
    have := rch_tr r1 l l1 l2
    rw [l3] at this
    exact this
  refine ⟨⟨fun m hm => ?_, ?_, fun x y hx hy h => ?_, fun x y h => ?_, fun x hx => ?_, ?_⟩, by omega⟩
  · rcases hm with hm | hm
    · exact j0 m hm
    · subst hm
      exact hin_iff.mpr ⟨(pidx_ok n (by omega) h2 i hi j hj hij).1, hT⟩
  · exact pot_join hn h2 hφ (fun x => gr x = gr j) (fun x y hx hy hxy hk => by
      have := (j3 x y (kE_iff.mpr ⟨⟨hx, hy⟩, hxy, hk⟩)).1
      rw [this]) rfl hg hi hj hij d1 d2
  · unfold joinG at h
    by_cases cx : gr x = gr j
    · rw [if_pos cx] at h
      by_cases cy : gr y = gr j
      · exact old x y hx hy (cx.trans cy.symm)
      · rw [if_neg cy] at h
        exact via x y j i hx hy hj hi cx h eji
    · rw [if_neg cx] at h
      by_cases cy : gr y = gr j
      · rw [if_pos cy] at h
        exact via x y i j hx hy hi hj h cy.symm eij
      · rw [if_neg cy] at h
        exact old x y hx hy h
  · obtain ⟨⟨hx, hy⟩, hxy, hk⟩ := kE_iff.mp h
    have key : joinG gr i j i = joinG gr i j j ∧ joinW gr wt i j (logW w i j) i - joinW gr wt i j (logW w i j) j = logW w i j := by
      refine ⟨gi.trans gj.symm, ?_⟩
      unfold joinW
      rw [if_neg hg, if_pos rfl, ← Int32.toBitVec_inj]
      simp only [Int32.toBitVec_sub, Int32.toBitVec_add]
      rw [show (0 : Int32).toBitVec = 0#32 from rfl]
      generalize (wt i).toBitVec = a
      generalize (wt j).toBitVec = b
      generalize (logW w i j).toBitVec = c
      bv_omega
    rcases hk with hk | hk
    · have a9 := j3 x y (kE_iff.mpr ⟨⟨hx, hy⟩, hxy, hk⟩)
      refine ⟨by unfold joinG; rw [a9.1], ?_⟩
      rw [← a9.2]
      unfold joinW
      rw [a9.1, ← Int32.toBitVec_inj]
      simp only [Int32.toBitVec_sub, Int32.toBitVec_add]
      generalize (wt x).toBitVec = a
      generalize (wt y).toBitVec = b
      generalize (if gr y = gr j then wt i - logW w i j - wt j else 0).toBitVec = c
      bv_omega
    · rcases pidx_inj hn h2 hx hy hxy hi hj hij hk with ⟨rfl, rfl⟩ | ⟨rfl, rfl⟩
      · exact key
      · exact ⟨key.1.symm, log_inv d2 key.2⟩
  · unfold joinG
    by_cases cx : gr x = gr j
    · rw [if_pos cx, (j4 i hi).2, if_neg hg]
      exact ⟨(j4 i hi).1, rfl⟩
    · rw [if_neg cx, (j4 x hx).2, if_neg cx]
      exact ⟨(j4 x hx).1, rfl⟩
  · have e : cntP (fixI (joinG gr i j)) n = cntP (updN (fixI gr) (gr j) 0) n := by
      refine cntP_congr n (fun x hx => ?_)
      have k1 : 0 < fixI (joinG gr i j) x ↔ joinG gr i j x = x := by
        unfold fixI
        split
        · next h => exact ⟨fun _ => h, fun _ => by decide⟩
        · next h => exact ⟨fun q => absurd q (by decide), fun q => absurd q h⟩
      rw [k1]
      unfold joinG
      by_cases cx : gr x = gr j
      · rw [if_pos cx]
        constructor
        · intro q
          exfalso
          rw [← q, (j4 i hi).2] at cx
          exact hg cx
        · intro q
          exfalso
          by_cases e2 : x = gr j
          · rw [e2, updN_at] at q
            exact absurd q (by decide)
          · rw [updN_ne e2] at q
            unfold fixI at q
            rw [if_neg (fun z => e2 (z.symm.trans cx))] at q
            exact absurd q (by decide)
      · rw [if_neg cx]
        have e2 : x ≠ gr j := fun z => cx (by rw [z]; exact (j4 j hj).2)
        rw [updN_ne e2]
        unfold fixI
        split
        · next h => exact ⟨fun _ => by decide, fun _ => h⟩
        · next h => exact ⟨fun q => absurd q h, fun q => absurd q (by decide)⟩
    rw [e]
    omega
end STEP
/-- the heaps that may still come: they agree with hp from k on -/
def cnd (n : Nat) (w : tbW) (T : mdT) (k hp H : Nat) : Prop := H < 2 ^ (n * (n - 1) / 2) ∧ andn H (mAll n T) = 0 ∧ (∀ m, k ≤ m → H.testBit m = hp.testBit m) ∧ ∃ φ, pot n w (kept n T 0 H) φ
def hpk (n : Nat) (T : mdT) (k hp : Nat) : Prop := hp < 2 ^ (n * (n - 1) / 2) ∧ (∀ m, hp.testBit m = true → (mAll n T).testBit m = true) ∧ ∀ m, m < k → hp.testBit m = false
theorem np15 (hn : n ≤ 6) : 2 ^ (n * (n - 1) / 2) ≤ 32768 := Nat.pow_le_pow_right (n := 2) (j := 15) (by decide) (np_ok n (by omega))
theorem cnd.sub (hn : n ≤ 6) {k hp H : Nat} (h : cnd n w T k hp H) : ∀ m, H.testBit m = true → (mAll n T).testBit m = true := (andn_0 (Nat.lt_of_lt_of_le h.1 (np15 hn))).mp h.2.1
theorem cnd_ge (hn : n ≤ 6) {k hp H : Nat} (h : cnd n w T k hp H) (hh : hpk n T k hp) : popc 15 hp ≤ popc 15 H := popc_mono (fun m hm => by
  rcases Nat.lt_or_ge m k with q | q
  · rw [hh.2.2 m q] at hm
    exact absurd hm (by decide)
  · rw [h.2.2.1 m q]
    exact hm) 15
def setR (n : Nat) (w : tbW) (T : mdT) (k hp : Nat) (b r : Nat × Nat) : Prop :=
  (r = b ∧ ∀ H, cnd n w T k hp H → b.1 ≤ popc 15 H) ∨ ∃ H, cnd n w T k hp H ∧ r = (popc 15 H, H) ∧ popc 15 H < b.1 ∧ ∀ H', cnd n w T k hp H' → lexle H H'
theorem kept_out {k hp : Nat} : kept n T k (hp ||| 2 ^ k) = kept n T (k + 1) hp := by
  funext m
  apply propext
  unfold kept
  rw [or_bit]
  constructor
  · rintro ⟨h1, h2, h3⟩
    simp only [Bool.or_eq_false_iff, decide_eq_false_iff_not] at h3
    exact ⟨h1, by omega, h3.1⟩
  · rintro ⟨h1, h2, h3⟩
    refine ⟨h1, by omega, ?_⟩
    rw [h3]
    simp
    omega
theorem kept_no {k hp : Nat} (h : ¬ hIn n (mAll n T) k) : kept n T k hp = kept n T (k + 1) hp := by
  funext m
  apply propext
  unfold kept
  constructor
  · rintro ⟨h1, h2, h3⟩
    exact ⟨h1, by
      rcases Nat.lt_or_ge k m with q | q
      · exact q
      · have : m = k := by omega
        rw [this] at h1
        exact absurd h1 h, h3⟩
  · rintro ⟨h1, h2, h3⟩
    exact ⟨h1, by omega, h3⟩
theorem kept_in {k hp : Nat} (h : hIn n (mAll n T) k) (hb : hp.testBit k = false) : kept n T k hp = fun m => kept n T (k + 1) hp m ∨ m = k := by
  funext m
  apply propext
  unfold kept
  constructor
  · rintro ⟨h1, h2, h3⟩
    rcases Nat.lt_or_ge k m with q | q
    · exact Or.inl ⟨h1, q, h3⟩
    · exact Or.inr (by omega)
  · rintro (⟨h1, h2, h3⟩ | e)
    · exact ⟨h1, by omega, h3⟩
    · subst e
      exact ⟨h, Nat.le_refl _, hb⟩
theorem cnd_split {k hp H : Nat} (hb : hp.testBit k = false) : cnd n w T (k + 1) hp H ↔ cnd n w T k hp H ∨ cnd n w T k (hp ||| 2 ^ k) H := by
  unfold cnd
  constructor
  · rintro ⟨h1, h2, h3, h4⟩
    cases c : H.testBit k
    · left
      refine ⟨h1, h2, fun m hm => ?_, h4⟩
      rcases Nat.lt_or_ge k m with q | q
      · exact h3 m q
      · rw [show m = k by omega, c, hb]
    · right
      refine ⟨h1, h2, fun m hm => ?_, h4⟩
      rw [or_bit]
      rcases Nat.lt_or_ge k m with q | q
      · rw [h3 m q, decide_eq_false (by omega), Bool.or_false]
      · rw [show m = k by omega, c]
        simp
  · rintro (⟨h1, h2, h3, h4⟩ | ⟨h1, h2, h3, h4⟩)
    · exact ⟨h1, h2, fun m hm => h3 m (by omega), h4⟩
    · refine ⟨h1, h2, fun m hm => ?_, h4⟩
      rw [h3 m (by omega), or_bit, decide_eq_false (by omega), Bool.or_false]
theorem cnd_lt {k hp H H' : Nat} (hb : hp.testBit k = false) (h : cnd n w T k hp H) (h' : cnd n w T k (hp ||| 2 ^ k) H') : H < H' := by
  refine ltbit k H H' ?_ ?_ (fun m hm => ?_)
  · rw [h.2.2.1 k (Nat.le_refl _), hb]
  · rw [h'.2.2.1 k (Nat.le_refl _), or_bit]
    simp
  · rw [h.2.2.1 m (by omega), h'.2.2.1 m (by omega), or_bit, decide_eq_false (by omega), Bool.or_false]
theorem kept_sub {k hp H : Nat} (h : cnd n w T k hp H) : ∀ m, kept n T k hp m → kept n T 0 H m := fun m hm => ⟨hm.1, Nat.zero_le _, by rw [h.2.2.1 m hm.2.1]; exact hm.2.2⟩
theorem set_spec (hn : n ≤ 6) (h2 : 2 ≤ n) (R : saR n w T) (ho : tbOK n w) : ∀ (k jn : Nat) (gr : Nat → Nat) (wt : Nat → Int32) (hp : Nat) (b : Nat × Nat), k ≤ n * (n - 1) / 2 → hpk n T k hp → lvJ n w T (kept n T k hp) jn gr wt → setR n w T k hp b (setF w n k jn gr wt hp (popc 15 hp) b)
  | 0, jn, gr, wt, hp, b, hk, hh, J => by
    have hc : cnd n w T 0 hp hp := ⟨hh.1, (andn_0 (Nat.lt_of_lt_of_le hh.1 (np15 hn))).mpr hh.2.1, fun _ _ => rfl, J.2.1⟩
    have hu : ∀ H, cnd n w T 0 hp H → H = hp := fun H h => Nat.eq_of_testBit_eq (fun m => h.2.2.1 m (Nat.zero_le _))
    rw [setF]
    by_cases c : b.1 ≤ popc 15 hp
    · rw [if_pos c]
      exact Or.inl ⟨rfl, fun H h => by rw [hu H h]; exact c⟩
    · rw [if_neg c]
      exact Or.inr ⟨hp, hc, rfl, by omega, fun H h => by rw [hu H h]; exact Or.inr ⟨rfl, Nat.le_refl _⟩⟩
  | k + 1, jn, gr, wt, hp, b, hk, hh, J => by
    have hk15 : k < 15 := by have := np_ok n (by omega); omega
    by_cases c0 : b.1 ≤ popc 15 hp
    · rw [setF_done c0]
      exact Or.inl ⟨rfl, fun H h => Nat.le_trans c0 (cnd_ge hn h hh)⟩
    · have hb0 : hp.testBit k = false := hh.2.2 k (by omega)
      obtain ⟨⟨pi, pj, pij⟩, pk⟩ := pair_ij hn h2 (k := k) (by omega)
      have hhk : hpk n T k hp := ⟨hh.1, hh.2.1, fun m hm => hh.2.2 m (by omega)⟩
      cases ct : tH w (pu n k) (pl n k)
      · rw [setF_1 c0 ct]
        have hno : ¬ hIn n (mAll n T) k := fun z => by
          have := (R.edge pi pj (by omega)).mp (by rw [pk]; exact (hin_iff.mp z).2)
          rw [ct] at this
          exact absurd this (by decide)
        have ih := set_spec hn h2 R ho k jn gr wt hp b (by omega) hhk (by rw [kept_no hno]; exact J)
        have hC : ∀ H, cnd n w T (k + 1) hp H ↔ cnd n w T k hp H := fun H => by
          rw [cnd_split hb0]
          refine ⟨fun h => h.elim id (fun h => ?_), Or.inl⟩
          exfalso
          have : H.testBit k = true := by rw [h.2.2.1 k (Nat.le_refl _), or_bit]; simp
          have := al_bit.mp (h.sub hn k this)
          exact hno (hin_iff.mpr this)
        rcases ih with ⟨e, f⟩ | ⟨H, g1, g2, g3, g4⟩
        · exact Or.inl ⟨e, fun H h => f H ((hC H).mp h)⟩
        · exact Or.inr ⟨H, (hC H).mpr g1, g2, g3, fun H' h => g4 H' ((hC H').mp h)⟩
      · have hT : 0 < T.1 (pidx n (pu n k) (pl n k)) := (R.edge pi pj (by omega)).mpr ct
        have hIk : hIn n (mAll n T) k := hin_iff.mpr ⟨by omega, by rw [pk] at hT; exact hT⟩
        obtain ⟨d1, d2, d3⟩ := R.dgs pi pj (by omega) hT
        have hh2 : hpk n T k (hp ||| 2 ^ k) := by
          refine ⟨Nat.or_lt_two_pow hh.1 (Nat.pow_lt_pow_right (by decide) (by omega)), fun m hm => ?_, fun m hm => ?_⟩
          · rw [or_bit, Bool.or_eq_true, decide_eq_true_eq] at hm
            rcases hm with hm | hm
            · exact hh.2.1 m hm
            · subst hm
              exact al_bit.mpr (hin_iff.mp hIk)
          · rw [or_bit, hh.2.2 m (by omega), decide_eq_false (by omega)]
            rfl
        have ep : popc 15 (hp ||| 2 ^ k) = popc 15 hp + 1 := popc_set hk15 hb0
        have Jout : lvJ n w T (kept n T k (hp ||| 2 ^ k)) jn gr wt := by rw [kept_out]; exact J
        have hKK : ∀ H, cnd n w T k hp H → ∀ m, kept n T (k + 1) hp m → kept n T 0 H m := fun H h m hm => kept_sub h m (by rw [kept_in hIk hb0]; exact Or.inl hm)
        have hKK2 : ∀ H, cnd n w T k (hp ||| 2 ^ k) H → ∀ m, kept n T (k + 1) hp m → kept n T 0 H m := fun H h m hm => kept_sub h m (by rw [kept_out]; exact hm)
        have iout := fun b => set_spec hn h2 R ho k jn gr wt (hp ||| 2 ^ k) b (by omega) hh2 Jout
        rw [ep] at iout
        by_cases cg : gr (pu n k) = gr (pl n k)
        · by_cases cl : wt (pu n k) - wt (pl n k) = logW w (pu n k) (pl n k)
          · rw [setF_3 c0 ct cg cl]
            have J2 := J.add hn h2 R ho pi pj (by omega) hT cg cl
            rw [pk, ← kept_in hIk hb0] at J2
            have ih := set_spec hn h2 R ho k jn gr wt hp b (by omega) hhk J2
            have hrm : ∀ H', cnd n w T k (hp ||| 2 ^ k) H' → ∃ H, cnd n w T k hp H ∧ popc 15 H < popc 15 H' := fun H' h => by
              have hbk : H'.testBit k = true := by rw [h.2.2.1 k (Nat.le_refl _), or_bit]; simp
              have hxb : ∀ m, (H' ^^^ 2 ^ k).testBit m = (if m = k then false else H'.testBit m) := fun m => by
                rw [Nat.testBit_xor, Nat.testBit_two_pow]
                by_cases e : m = k
                · subst e
                  rw [if_pos rfl, hbk]
                  simp
                · rw [if_neg e, decide_eq_false (fun z => e z.symm)]
                  simp
              have hlt : H' ^^^ 2 ^ k < 2 ^ (n * (n - 1) / 2) := Nat.xor_lt_two_pow h.1 (Nat.pow_lt_pow_right (by decide) (by omega))
              have hor : (H' ^^^ 2 ^ k) ||| 2 ^ k = H' := Nat.eq_of_testBit_eq (fun m => by
                rw [or_bit, hxb]
                by_cases e : m = k
                · subst e
                  rw [hbk]
                  simp
                · rw [if_neg e, decide_eq_false (fun z => e z.symm), Bool.or_false])
              have hpc := popc_set (a := H' ^^^ 2 ^ k) (k := k) (K := 15) hk15 (by rw [hxb, if_pos rfl])
              rw [hor] at hpc
              refine ⟨H' ^^^ 2 ^ k, ⟨hlt, (andn_0 (Nat.lt_of_lt_of_le hlt (np15 hn))).mpr (fun m hm => h.sub hn m ?_), fun m hm => ?_, ?_⟩, by omega⟩
              · rw [hxb] at hm
                split at hm
                · exact absurd hm (by decide)
                · exact hm
              · rw [hxb]
                by_cases e : m = k
                · subst e
                  rw [if_pos rfl, hb0]
                · rw [if_neg e, h.2.2.1 m hm, or_bit, decide_eq_false (fun z => e z.symm), Bool.or_false]
              · obtain ⟨φ, hφ⟩ := h.2.2.2
                have key := (J.same hn R ho pi pj cg d1 (hKK2 H' h) hφ).mp cl
                refine ⟨φ, (pot_add hn h2 hφ pi pj (by omega) key d2).mono (fun m hm => ?_)⟩
                rw [pk]
                have h9 := hm.2.2
                rw [hxb] at h9
                by_cases e : m = k
                · exact Or.inr e
                · rw [if_neg e] at h9
                  exact Or.inl ⟨hm.1, hm.2.1, h9⟩
            rcases ih with ⟨e, f⟩ | ⟨H, g1, g2, g3, g4⟩
            · refine Or.inl ⟨e, fun H h => ?_⟩
              rcases (cnd_split hb0).mp h with h | h
              · exact f H h
              · obtain ⟨H1, q1, q2⟩ := hrm H h
                have := f H1 q1
                omega
            · refine Or.inr ⟨H, (cnd_split hb0).mpr (Or.inl g1), g2, g3, fun H' h => ?_⟩
              rcases (cnd_split hb0).mp h with h | h
              · exact g4 H' h
              · obtain ⟨H1, q1, q2⟩ := hrm H' h
                have := g4 H1 q1
                unfold lexle at this ⊢
                omega
          · rw [setF_4 c0 ct (fun z => z.1 cg) (fun z => cl z.2)]
            have ih := iout b
            have hC : ∀ H, cnd n w T (k + 1) hp H ↔ cnd n w T k (hp ||| 2 ^ k) H := fun H => by
              rw [cnd_split hb0]
              refine ⟨fun h => h.elim (fun h => ?_) id, Or.inr⟩
              exfalso
              obtain ⟨φ, hφ⟩ := h.2.2.2
              have e1 := hφ.2 _ _ pi pj (by omega) (by rw [pk]; exact kept_sub h k (by rw [kept_in hIk hb0]; exact Or.inr rfl))
              exact cl ((J.same hn R ho pi pj cg d1 (hKK H h) hφ).mpr e1)
            rcases ih with ⟨e, f⟩ | ⟨H, g1, g2, g3, g4⟩
            · exact Or.inl ⟨e, fun H h => f H ((hC H).mp h)⟩
            · exact Or.inr ⟨H, (hC H).mpr g1, g2, g3, fun H' h => g4 H' ((hC H').mp h)⟩
        · obtain ⟨J2, hjn⟩ := J.join hn h2 R pi pj (by omega) hT cg
          rw [setF_2 c0 ct cg hjn]
          rw [pk, ← kept_in hIk hb0] at J2
          have ih1 := set_spec hn h2 R ho k (jn + 1) _ _ hp b (by omega) hhk J2
          generalize setF w n k (jn + 1) (joinG gr (pu n k) (pl n k)) (joinW gr wt (pu n k) (pl n k) (logW w (pu n k) (pl n k))) hp (popc 15 hp) b = r1 at ih1
          have ih2 := iout r1
          rcases ih1 with ⟨e, f⟩ | ⟨H, g1, g2, g3, g4⟩
          · subst e
            rcases ih2 with ⟨e', f'⟩ | ⟨H', g1', g2', g3', g4'⟩
            · refine Or.inl ⟨e', fun H h => ?_⟩
              rcases (cnd_split hb0).mp h with h | h
              · exact f H h
              · exact f' H h
            · refine Or.inr ⟨H', (cnd_split hb0).mpr (Or.inr g1'), g2', g3', fun H h => ?_⟩
              rcases (cnd_split hb0).mp h with h | h
              · have := f H h
                left
                omega
              · exact g4' H h
          · subst g2
            rcases ih2 with ⟨e', f'⟩ | ⟨H', g1', g2', g3', g4'⟩
            · refine Or.inr ⟨H, (cnd_split hb0).mpr (Or.inl g1), e', g3, fun H2 h => ?_⟩
              rcases (cnd_split hb0).mp h with h | h
              · exact g4 H2 h
              · have q1 := f' H2 h
                have q2 := cnd_lt hb0 g1 h
                dsimp only at q1
                unfold lexle
                omega
            · dsimp only at g3'
              refine Or.inr ⟨H', (cnd_split hb0).mpr (Or.inr g1'), g2', by omega, fun H2 h => ?_⟩
              rcases (cnd_split hb0).mp h with h | h
              · have := g4 H2 h
                unfold lexle at this ⊢
                omega
              · exact g4' H2 h
theorem cnt_id : ∀ m, cntP (fixI id) m = m
  | 0 => rfl
  | m + 1 => by
    rw [cntP, cnt_id m, if_pos (show 0 < fixI id m by unfold fixI; rw [if_pos (show id m = m from rfl)]; decide)]
theorem ag_leave (hn : n ≤ 6) (h2 : 2 ≤ n) (R : rel n w fl v fv T) : leaveF w n = (popc 15 (lhF n T), lhF n T) := by
  have ho := (ag_ok hn h2 R).1
  have h15 := np15 (n := n) hn
  have hal := mAll_lt hn T
  have halp : mAll n T < 2 ^ (n * (n - 1) / 2) := allB_lt T.1 _
  have htop : ∀ H, cnd n w T (n * (n - 1) / 2) 0 H ↔ H < 2 ^ (n * (n - 1) / 2) ∧ andn H (mAll n T) = 0 ∧ fitB n T (andn (mAll n T) H) = true := fun H => by
    unfold cnd
    have hfit : fitB n T (andn (mAll n T) H) = true ↔ ∃ φ, pot n w (kept n T 0 H) φ := by
      rw [fitB_i, cons_iff hn h2 R.1 (fun k hk => by
        have := hk.2
        rw [andn_bit hal] at this
        simp only [Bool.and_eq_true] at this
        exact (al_bit.mp this.1).2)]
      have e : hIn n (andn (mAll n T) H) = kept n T 0 H := by
        funext m
        apply propext
        unfold kept hIn
        rw [andn_bit hal]
        simp only [Bool.and_eq_true, Bool.not_eq_true']
        exact ⟨fun h => ⟨⟨h.1, h.2.1⟩, Nat.zero_le _, h.2.2⟩, fun h => ⟨h.1.1, h.1.2, h.2.2⟩⟩
      rw [e]
    rw [hfit]
    refine ⟨fun h => ⟨h.1, h.2.1, h.2.2.2⟩, fun h => ⟨h.1, h.2.1, fun m hm => ?_, h.2.2⟩⟩
    rw [Nat.zero_testBit]
    exact Nat.testBit_lt_two_pow (Nat.lt_of_lt_of_le h.1 (Nat.pow_le_pow_right (by decide) hm))
  have hcal : cnd n w T (n * (n - 1) / 2) 0 (mAll n T) := by
    refine ⟨halp, (andn_0 hal).mpr (fun _ h => h), fun m hm => ?_, fun _ => (1, 1), fun _ _ => ⟨Nat.le_refl _, Nat.le_refl _⟩, fun i j _ _ _ h => ?_⟩
    · rw [Nat.zero_testBit]
      exact Nat.testBit_lt_two_pow (Nat.lt_of_lt_of_le halp (Nat.pow_le_pow_right (by decide) hm))
    · have := h.2.2
      rw [h.1.2] at this
      exact absurd this (by decide)
  -- the reference's least heap
  have hlh : cnd n w T (n * (n - 1) / 2) 0 (lhF n T) ∧ ∀ H, cnd n w T (n * (n - 1) / 2) 0 H → lexle (lhF n T) H := by
    have key := itr_ind (f := fun h b => lhS n T h b) (fun m b => cnd n w T (n * (n - 1) / 2) 0 b ∧ ∀ H, H < m → cnd n w T (n * (n - 1) / 2) 0 H → lexle b H) (2 ^ (n * (n - 1) / 2)) 0 (mAll n T) (fun h b g1 g2 g3 => by
      by_cases c : andn h (mAll n T) = 0 ∧ ¬ popc 15 b < popc 15 h ∧ ¬ (popc 15 h = popc 15 b ∧ b ≤ h) ∧ fitB n T (andn (mAll n T) h) = true
      · show cnd n w T _ 0 (lhS n T h b) ∧ _
        rw [lhS_y c]
        refine ⟨(htop h).mpr ⟨by omega, c.1, c.2.2.2⟩, fun H hH hc => ?_⟩
        by_cases e : H = h
        · subst e; exact Or.inr ⟨rfl, Nat.le_refl _⟩
        · have q1 := g3.2 H (by omega) hc
          have q2 := c.2.1
          have q3 := c.2.2.1
          refine lexle.tr ?_ q1
          unfold lexle
          omega
      · show cnd n w T _ 0 (lhS n T h b) ∧ _
        rw [lhS_n c]
        refine ⟨g3.1, fun H hH hc => ?_⟩
        by_cases e : H = h
        · subst e
          have q := (htop H).mp hc
          rcases Classical.em (lexle b H) with z | z
          · exact z
          · exfalso
            apply c
            unfold lexle at z
            exact ⟨q.2.1, by omega, by omega, q.2.2⟩
        · exact g3.2 H (by omega) hc) ⟨hcal, fun H hH => by omega⟩
    exact ⟨key.1, fun H hc => key.2 H (by rw [Nat.zero_add]; exact hc.1) hc⟩
  have hJ : lvJ n w T (kept n T (n * (n - 1) / 2) 0) 0 id (fun _ => 0) := by
    have hno : ∀ m, ¬ kept n T (n * (n - 1) / 2) 0 m := fun m h => by
      have h1 := h.1.1
      have h3 := h.2.1
      omega
    refine ⟨fun m h => absurd h (hno m), ⟨fun _ => (1, 1), fun _ _ => ⟨Nat.le_refl _, Nat.le_refl _⟩, fun i j _ _ _ h => absurd h (hno _)⟩, fun x y hx hy h => ?_, fun x y h => absurd (kE_iff.mp h).2.2 (hno _), fun x hx => ⟨hx, rfl⟩, by rw [cnt_id]; rfl⟩
    have e : x = y := h
    subst e
    exact rch_0 hx
  have hp0 : popc 15 0 = 0 := popc_0 15
  have hs := set_spec hn h2 R.1 ho (n * (n - 1) / 2) 0 id (fun _ => 0) 0 (n * (n - 1) / 2 + 1, 0) (Nat.le_refl _) ⟨Nat.pow_pos (by decide), fun m hm => by rw [Nat.zero_testBit] at hm; exact absurd hm (by decide), fun m _ => Nat.zero_testBit m⟩ hJ
  rw [hp0] at hs
  have hpa : popc 15 (mAll n T) ≤ n * (n - 1) / 2 := by
    unfold mAll
    rw [popc_all T.1 _ (np_ok n (by omega))]
    exact cntP_le _ _
  unfold leaveF
  rcases hs with ⟨-, f⟩ | ⟨H, g1, g2, g3, g4⟩
  · have := f _ hcal
    dsimp only at this
    omega
  · rw [g2, lexle.anti (g4 _ hlh.1) (hlh.2 H g1)]
end AGE
