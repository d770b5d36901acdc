/-! Weights of things by which sayings hold; even. Own text. -/
def inv2 (p : Nat × Nat) : Nat × Nat := (p.2, p.1)
/-- weights by which the sayings of the pairs of K hold -/
def pot (n : Nat) (w : tbW) (K : Nat → Prop) (φ : Nat → Nat × Nat) : Prop :=
  (∀ v, v < n → 1 ≤ (φ v).1 ∧ 1 ≤ (φ v).2) ∧ ∀ i j, i < n → j < n → i ≠ j → K (pidx n i j) → fq (mul2 (φ i) (inv2 (φ j))) (w i j)
/-- a fraction times its turned one, in the middle, goes away -/
theorem fq_tele {a b c : Nat × Nat} (ha : 1 ≤ a.1 ∧ 1 ≤ a.2) (hb : 1 ≤ b.1 ∧ 1 ≤ b.2) (hc : 1 ≤ c.1 ∧ 1 ≤ c.2) : fq (mul2 (mul2 a (inv2 b)) (mul2 b (inv2 c))) (mul2 a (inv2 c)) := by
  refine ⟨⟨⟨Nat.mul_pos (Nat.mul_pos ha.1 hb.2) (Nat.mul_pos hb.1 hc.2), Nat.mul_pos (Nat.mul_pos ha.2 hb.1) (Nat.mul_pos hb.2 hc.1)⟩, Nat.mul_pos ha.1 hc.2, Nat.mul_pos ha.2 hc.1⟩, ?_⟩
  show a.1 * b.2 * (b.1 * c.2) * (a.2 * c.1) = a.1 * c.2 * (a.2 * b.1 * (b.2 * c.1))
  ac_rfl
theorem pot_path {n : Nat} {w : tbW} {K : Nat → Prop} {φ : Nat → Nat × Nat} {E : Nat → Nat → Bool} (h : pot n w K φ) (hE : ∀ x y, x < n → y < n → E x y = true → x ≠ y ∧ K (pidx n x y)) : ∀ l : List Nat, l ≠ [] → (∀ x, x ∈ l → x < n) → chn E l → fq (pd w l) (mul2 (φ (lastN l)) (inv2 (φ (hd l))))
  | [], h0, _, _ => absurd rfl h0
  | [a], _, hx, _ => by
    have ha := h.1 a (hx a (by simp))
    refine ⟨⟨⟨Nat.le_refl _, Nat.le_refl _⟩, Nat.mul_pos ha.1 ha.2, Nat.mul_pos ha.2 ha.1⟩, ?_⟩
    show 1 * ((φ a).2 * (φ a).1) = (φ a).1 * (φ a).2 * 1
    rw [Nat.one_mul, Nat.mul_one, Nat.mul_comm]
  | b :: c :: q, _, hx, hc => by
    have hb' := hx b (by simp)
    have hc' := hx c (by simp)
    have ih := pot_path h hE (c :: q) (by simp) (fun x hx2 => hx x (List.mem_cons_of_mem _ hx2)) hc.2
    have e := hE c b hc' hb' hc.1
    have f := h.2 c b hc' hb' e.1 e.2
    have ha := h.1 _ (hx (lastN (c :: q)) (List.mem_cons_of_mem _ (lastN_mem c q)))
    exact (ih.mul f.sy).tr (fq_tele ha (h.1 c hc') (h.1 b hb'))
/-- a saying between two that hang not together may come -/
theorem pot_join {n : Nat} {w : tbW} {K : Nat → Prop} {φ : Nat → Nat × Nat} {i j : Nat} (hn : n ≤ 6) (h2 : 2 ≤ n) (h : pot n w K φ) (S : Nat → Prop) (hS : ∀ x y, x < n → y < n → x ≠ y → K (pidx n x y) → (S x ↔ S y)) (hj : S j) (hi : ¬ S i) (hin : i < n) (hjn : j < n) (hij : i ≠ j) (hw : dg (w i j)) (hwj : w j i = inv2 (w i j)) : ∃ φ', pot n w (fun k => K k ∨ k = pidx n i j) φ' := by
  obtain ⟨c, hc⟩ : ∃ c : Nat × Nat, c = mul2 (mul2 (φ i) (inv2 (φ j))) (inv2 (w i j)) := ⟨_, rfl⟩
  have pi := h.1 i hin
  have pj := h.1 j hjn
  have pc : 1 ≤ c.1 ∧ 1 ≤ c.2 := by
    rw [hc]
    exact ⟨Nat.mul_pos (Nat.mul_pos pi.1 pj.2) hw.2.1, Nat.mul_pos (Nat.mul_pos pi.2 pj.1) hw.1.1⟩
  obtain ⟨φ', hφ⟩ : ∃ φ' : Nat → Nat × Nat, φ' = fun x => @ite _ (S x) (Classical.propDecidable _) (mul2 (φ x) c) (φ x) := ⟨_, rfl⟩
  have y1 : ∀ x, S x → φ' x = mul2 (φ x) c := fun x hx => by rw [hφ]; dsimp only; rw [if_pos hx]
  have y0 : ∀ x, ¬ S x → φ' x = φ x := fun x hx => by rw [hφ]; dsimp only; rw [if_neg hx]
  have key : fq (mul2 (φ' i) (inv2 (φ' j))) (w i j) := by
    rw [y0 i hi, y1 j hj, hc]
    refine ⟨⟨⟨Nat.mul_pos pi.1 (Nat.mul_pos pj.2 (Nat.mul_pos (Nat.mul_pos pi.2 pj.1) hw.1.1)), Nat.mul_pos pi.2 (Nat.mul_pos pj.1 (Nat.mul_pos (Nat.mul_pos pi.1 pj.2) hw.2.1))⟩, hw.1.1, hw.2.1⟩, ?_⟩
    show (φ i).1 * ((φ j).2 * ((φ i).2 * (φ j).1 * (w i j).1)) * (w i j).2 = (w i j).1 * ((φ i).2 * ((φ j).1 * ((φ i).1 * (φ j).2 * (w i j).2)))
    ac_rfl
  refine ⟨φ', fun v hv => ?_, fun x y hx hy hxy hk => ?_⟩
  · have pv := h.1 v hv
    rcases Classical.em (S v) with s | s
    · rw [y1 v s]; exact ⟨Nat.mul_pos pv.1 pc.1, Nat.mul_pos pv.2 pc.2⟩
    · rw [y0 v s]; exact pv
  · rcases hk with hk | hk
    · have hs := hS x y hx hy hxy hk
      have f := h.2 x y hx hy hxy hk
      rcases Classical.em (S x) with s | s
      · rw [y1 x s, y1 y (hs.mp s)]
        have px := h.1 x hx
        have py := h.1 y hy
        refine fq.tr ⟨⟨⟨Nat.mul_pos (Nat.mul_pos px.1 pc.1) (Nat.mul_pos py.2 pc.2), Nat.mul_pos (Nat.mul_pos px.2 pc.2) (Nat.mul_pos py.1 pc.1)⟩, f.1.1⟩, ?_⟩ f
        show (φ x).1 * c.1 * ((φ y).2 * c.2) * ((φ x).2 * (φ y).1) = (φ x).1 * (φ y).2 * ((φ x).2 * c.2 * ((φ y).1 * c.1))
        ac_rfl
      · rw [y0 x s, y0 y (fun z => s (hs.mpr z))]
        exact f
    · rcases pidx_inj hn h2 hx hy hxy hin hjn hij hk with ⟨rfl, rfl⟩ | ⟨rfl, rfl⟩
      · exact key
      · rw [hwj]
        have k2 := key.inv
        refine fq.tr ⟨⟨⟨?_, ?_⟩, k2.1.1⟩, ?_⟩ k2
        · exact Nat.mul_pos (by rw [y1 _ hj]; exact Nat.mul_pos pj.1 pc.1) (by rw [y0 _ hi]; exact pi.2)
        · exact Nat.mul_pos (by rw [y1 _ hj]; exact Nat.mul_pos pj.2 pc.2) (by rw [y0 _ hi]; exact pi.1)
        · show (φ' x).1 * (φ' y).2 * ((φ' y).1 * (φ' x).2) = (φ' y).2 * (φ' x).1 * ((φ' x).2 * (φ' y).1)
          ac_rfl
theorem pot.mono {n : Nat} {w : tbW} {K K' : Nat → Prop} {φ : Nat → Nat × Nat} (h : pot n w K φ) (hk : ∀ k, K' k → K k) : pot n w K' φ := ⟨h.1, fun i j hi hj hij z => h.2 i j hi hj hij (hk _ z)⟩
section POT
variable {n fl fv : Nat} {w v : tbW} {T : mdT}
theorem pair_ij (hn : n ≤ 6) (h2 : 2 ≤ n) {k : Nat} (hk : k < n * (n - 1) / 2) : (pu n k < n ∧ pl n k < n ∧ pu n k < pl n k) ∧ pidx n (pu n k) (pl n k) = k := by
  have h := prs_ok n (by omega) h2 k hk
  have t : ∀ n, n < 7 → ∀ k, k < n * (n - 1) / 2 → pidx n (pu n k) (pl n k) = k := by decide +kernel
  exact ⟨⟨by omega, h.2, h.1⟩, t n (by omega) k hk⟩
/-- the reference's consistence, by such weights -/
theorem cons_iff (hn : n ≤ 6) (h2 : 2 ≤ n) (R : saR n w T) {h : Nat} (hsub : ∀ k, hIn n h k → 0 < T.1 k) : hCons n T h ↔ ∃ φ, pot n w (hIn n h) φ := by
  have key : ∀ φ : Nat → Nat × Nat, (∀ v, v < n → 0 < (φ v).1 ∧ 0 < (φ v).2) → ∀ i j, i < n → j < n → i < j → hIn n h (pidx n i j) → (((φ i).1 * (φ j).2 * T.2.1 (pidx n i j) = (φ i).2 * (φ j).1 * T.1 (pidx n i j)) ↔ fq (mul2 (φ i) (inv2 (φ j))) (w i j)) := by
    intro φ hφ i j hi hj hij hk
    have hw : w i j ≠ (0, 1) := (R.has hi hj (by omega)).mpr (hsub _ hk)
    have f := R.fq hi hj (by omega) hw
    have e : mdS n T.1 T.2.1 i j = (T.1 (pidx n i j), T.2.1 (pidx n i j)) := by unfold mdS; rw [if_pos hij]
    rw [e] at f
    have pi := hφ i hi
    have pj := hφ j hj
    constructor
    · intro q
      refine fq.tr ⟨⟨⟨Nat.mul_pos pi.1 pj.2, Nat.mul_pos pi.2 pj.1⟩, f.1.2⟩, ?_⟩ f.sy
      show (φ i).1 * (φ j).2 * T.2.1 (pidx n i j) = T.1 (pidx n i j) * ((φ i).2 * (φ j).1)
      rw [q, Nat.mul_comm]
    · intro q
      have := (q.tr f).2
      have e2 : (φ i).1 * (φ j).2 * T.2.1 (pidx n i j) = T.1 (pidx n i j) * ((φ i).2 * (φ j).1) := this
      rw [e2, Nat.mul_comm]
  constructor
  · rintro ⟨φ, h1, h3⟩
    refine ⟨φ, h1, fun i j hi hj hij hk => ?_⟩
    have hp := pidx_ok n (by omega) h2 i hi j hj hij
    have h4 := h3 _ hk
    rw [hp.2.1, hp.2.2.1] at h4
    by_cases c : i < j
    · rw [Nat.min_eq_left (by omega), Nat.max_eq_right (by omega)] at h4
      exact (key φ h1 i j hi hj c hk).mp h4
    · rw [Nat.min_eq_right (by omega), Nat.max_eq_left (by omega)] at h4
      have hk2 := hk
      rw [hp.2.2.2.1] at hk2 h4
      have f := ((key φ h1 j i hj hi (by omega) hk2).mp h4).inv
      have hw : w j i ≠ (0, 1) := (R.has hj hi (Ne.symm hij)).mpr (hsub _ hk2)
      rcases R j i hj hi (Ne.symm hij) with ⟨g1, -⟩ | ⟨-, g2, g3, -⟩
      · exact absurd g1 hw
      · rw [g3]
        refine fq.tr ⟨⟨⟨Nat.mul_pos (h1 i hi).1 (h1 j hj).2, Nat.mul_pos (h1 i hi).2 (h1 j hj).1⟩, f.1.1⟩, ?_⟩ f
        show (φ i).1 * (φ j).2 * ((φ j).1 * (φ i).2) = (φ j).2 * (φ i).1 * ((φ i).2 * (φ j).1)
        ac_rfl
  · rintro ⟨φ, h1, h3⟩
    refine ⟨φ, h1, fun k hk => ?_⟩
    have hp := pair_ij hn h2 hk.1
    have h4 := (key φ h1 (pu n k) (pl n k) hp.1.1 hp.1.2.1 hp.1.2.2 (by rw [hp.2]; exact hk)).mpr (h3 _ _ hp.1.1 hp.1.2.1 (by omega) (by rw [hp.2]; exact hk))
    rw [hp.2] at h4
    exact h4
theorem chn_mono {E E' : Nat → Nat → Bool} (h : ∀ x y, E x y = true → E' x y = true) : ∀ l : List Nat, chn E l → chn E' l
  | [], _ => trivial
  | [_], _ => trivial
  | b :: c :: q, hc => ⟨h c b hc.1, chn_mono h (c :: q) hc.2⟩
theorem chn_drop {E : Nat → Nat → Bool} {y : Nat} {t : List Nat} : ∀ u : List Nat, chn E (u ++ y :: t) → chn E (y :: t)
  | [], h => h
  | x :: u, h => chn_drop u ((chn_cons (by simp)).mp h).2
theorem lastN_drop {y : Nat} {t : List Nat} : ∀ u : List Nat, lastN (u ++ y :: t) = lastN (y :: t)
  | [] => rfl
  | x :: u => by rw [List.cons_append, lastN_cons (by simp), lastN_drop u]
theorem hd_rev {l : List Nat} (h : l ≠ []) : hd l.reverse = lastN l ∧ lastN l.reverse = hd l := by
  obtain ⟨r, hr⟩ := lastN_split l h
  constructor
  · generalize lastN l = x at hr
    subst hr
    rw [List.reverse_append]
    rfl
  · cases l with
    | nil => exact absurd rfl h
    | cons a l => rw [List.reverse_cons, lastN_app]; rfl
theorem chn_rev {E : Nat → Nat → Bool} (hE : ∀ x y, E x y = true → E y x = true) : ∀ l : List Nat, chn E l → chn E l.reverse
  | [], _ => trivial
  | [_], _ => trivial
  | b :: c :: q, h => by
    rw [List.reverse_cons]
    rw [chn_app _ (by simp), (hd_rev (l := c :: q) (by simp)).2]
    exact ⟨chn_rev hE (c :: q) h.2, hE c b h.1⟩
theorem pth_rev {E : Nat → Nat → Bool} (hE : ∀ x y, E x y = true → E y x = true) {l : List Nat} (h : pth E n l) : pth E n l.reverse := ⟨by simp [h.1], fun x hx => h.2.1 x (by simpa using hx), (List.reverse_perm l).nodup_iff.mpr h.2.2.1, chn_rev hE l h.2.2.2⟩
/-- the things that a path comes to -/
def rch (E : Nat → Nat → Bool) (n a : Nat) : Nat → Prop := fun v => ∃ l, pth E n l ∧ lastN l = a ∧ hd l = v
theorem rch_0 {E : Nat → Nat → Bool} {a : Nat} (ha : a < n) : rch E n a a := ⟨[a], ⟨by simp, fun x hx => by rw [List.mem_singleton.mp hx]; exact ha, by simp, trivial⟩, rfl, rfl⟩
theorem rch_s {E : Nat → Nat → Bool} {a x y : Nat} (h : rch E n a x) (hy : y < n) (he : E x y = true) : rch E n a y := by
  obtain ⟨l, h1, h3, h4⟩ := h
  by_cases c : y ∈ l
  · obtain ⟨u, t, rfl⟩ := List.append_of_mem c
    refine ⟨y :: t, ⟨by simp, fun z hz => h1.2.1 z (by simp only [List.mem_append]; exact Or.inr hz), ?_, chn_drop u h1.2.2.2⟩, by rw [← h3, lastN_drop], rfl⟩
    have := h1.2.2.1
    rw [List.nodup_append] at this
    exact this.2.1
  · exact ⟨y :: l, pth_cons h1 hy c (by rw [h4]; exact he), by rw [lastN_cons h1.1]; exact h3, rfl⟩
theorem tH_sym (R : saR n w T) {x y : Nat} (hx : x < n) (hy : y < n) (h : tH w x y = true) : tH w y x = true := by
  obtain ⟨h1, h3⟩ := tH_iff.mp h
  refine tH_iff.mpr ⟨Ne.symm h1, ?_⟩
  rcases R x y hx hy h1 with ⟨g, -⟩ | ⟨-, g1, g2, -⟩
  · exact absurd g h3
  · rw [g2]
    intro z
    have := congrArg Prod.fst z
    have := g1.2.1
    dsimp only at *
    omega
theorem saR.dgs (R : saR n w T) {i j : Nat} (hi : i < n) (hj : j < n) (hij : i ≠ j) (h : 0 < T.1 (pidx n i j)) : dg (w i j) ∧ w j i = inv2 (w i j) ∧ tH w i j = true := by
  have hw := (R.has hi hj hij).mpr h
  rcases R i j hi hj hij with ⟨g, -⟩ | ⟨-, g1, g2, -⟩
  · exact absurd g hw
  · exact ⟨g1, g2, tH_iff.mpr ⟨hij, hw⟩⟩
/-- where no ring is above 1 there are weights -/
theorem pot_all (hn : n ≤ 6) (h2 : 2 ≤ n) (R : saR n w T) (hA : allLe w n) : ∀ m, m ≤ n * (n - 1) / 2 → ∃ φ, pot n w (fun k => k < m ∧ 0 < T.1 k) φ
  | 0, _ => ⟨fun _ => (1, 1), fun _ _ => ⟨Nat.le_refl _, Nat.le_refl _⟩, fun i j _ _ _ h => absurd h.1 (by omega)⟩
  | m + 1, hm => by
    obtain ⟨φ, hφ⟩ := pot_all hn h2 R hA m (by omega)
    by_cases hs : 0 < T.1 m
    · obtain ⟨⟨pi, pj, pij⟩, pk⟩ := pair_ij hn h2 (k := m) (by omega)
      generalize pu n m = i at pi pij pk
      generalize pl n m = j at pj pij pk
      obtain ⟨d1, d2, d3⟩ := R.dgs pi pj (by omega) (by rw [pk]; exact hs)
      have hsym : ∀ x y, x < n → y < n → x ≠ y → pidx n x y = pidx n y x := fun x y hx hy hxy => (pidx_ok n (by omega) h2 x hx y hy hxy).2.2.2.1
      obtain ⟨E, hE⟩ : ∃ E : Nat → Nat → Bool, E = fun x y => decide (x < n ∧ y < n) && (tH w x y && decide (pidx n x y < m)) := ⟨_, rfl⟩
      have e1 : ∀ x y, E x y = true ↔ (x < n ∧ y < n) ∧ tH w x y = true ∧ pidx n x y < m := fun x y => by rw [hE]; simp
      have esy : ∀ x y, E x y = true → E y x = true := fun x y h => by
        obtain ⟨⟨a1, a2⟩, a3, a4⟩ := (e1 x y).mp h
        exact (e1 y x).mpr ⟨⟨a2, a1⟩, tH_sym R a1 a2 a3, by rw [hsym y x a2 a1 (Ne.symm (tH_iff.mp a3).1)]; exact a4⟩
      have eK : ∀ x y, x < n → y < n → E x y = true → x ≠ y ∧ (pidx n x y < m ∧ 0 < T.1 (pidx n x y)) := fun x y hx hy h => by
        obtain ⟨-, a3, a4⟩ := (e1 x y).mp h
        have a5 := tH_iff.mp a3
        exact ⟨a5.1, a4, (R.has hx hy a5.1).mp a5.2⟩
      have split : ∀ φ', pot n w (fun k => (k < m ∧ 0 < T.1 k) ∨ k = pidx n i j) φ' → pot n w (fun k => k < m + 1 ∧ 0 < T.1 k) φ' := fun φ' h => h.mono (fun k hk => by
        by_cases c : k < m
        · exact Or.inl ⟨c, hk.2⟩
        · right; rw [pk]; omega)
      rcases Classical.em (rch E n j i) with hr | hr
      · obtain ⟨l, l1, l2, l3⟩ := hr
        refine ⟨φ, split φ ⟨hφ.1, fun x y hx hy hxy hk => ?_⟩⟩
        rcases hk with hk | hk
        · exact hφ.2 x y hx hy hxy hk
        · have hlen : 3 ≤ l.length := by
            rcases l with _ | ⟨a, _ | ⟨b, _ | ⟨c, l⟩⟩⟩
            · exact absurd rfl l1.1
            · have q1 : a = j := l2
              have q2 : a = i := l3
              omega
            · have q1 : b = j := l2
              have q2 : a = i := l3
              have := (e1 b a).mp l1.2.2.2.1
              rw [q1, q2, hsym j i pj pi (by omega), pk] at this
              omega
            · simp
          have EtH : ∀ x y, E x y = true → tH w x y = true := fun x y h => ((e1 x y).mp h).2.1
          have r1 : rng (tH w) n l := ⟨⟨l1.1, l1.2.1, l1.2.2.1, chn_mono EtH l l1.2.2.2⟩, by omega, by rw [l2, l3]; exact d3⟩
          have lr := pth_rev esy l1
          obtain ⟨hr1, hr2⟩ := hd_rev l1.1
          have r2 : rng (tH w) n l.reverse := ⟨⟨lr.1, lr.2.1, lr.2.2.1, chn_mono EtH _ lr.2.2.2⟩, by rw [List.length_reverse]; omega, by rw [hr1, hr2, l2, l3]; exact tH_sym R pi pj d3⟩
          have q1 := hA l r1 hlen
          have q2 := hA l.reverse r2 (by rw [List.length_reverse]; exact hlen)
          have f1 := pot_path hφ eK l l1.1 l1.2.1 l1.2.2.2
          have f2 := pot_path hφ eK l.reverse lr.1 lr.2.1 lr.2.2.2
          rw [l2, l3] at f1
          rw [hr1, hr2, l2, l3] at f2
          unfold rp at q1 q2
          rw [l2, l3] at q1
          rw [hr1, hr2, l2, l3, d2] at q2
          have p1 := hφ.1 i pi
          have p2 := hφ.1 j pj
          have g1 := f1.mul (fq.rf (p := w i j) d1.1.1 d1.2.1)
          have g2 := f2.mul (fq.rf (p := inv2 (w i j)) d1.2.1 d1.1.1)
          have k1 : ¬ (mul2 (mul2 (φ j) (inv2 (φ i))) (w i j)).2 < (mul2 (mul2 (φ j) (inv2 (φ i))) (w i j)).1 := fun z => by
            have := (g1.inv.lt1).mpr z
            dsimp only at this
            omega
          have k2 : ¬ (mul2 (mul2 (φ i) (inv2 (φ j))) (inv2 (w i j))).2 < (mul2 (mul2 (φ i) (inv2 (φ j))) (inv2 (w i j))).1 := fun z => by
            have := (g2.inv.lt1).mpr z
            dsimp only at this
            omega
          have k1' : ¬ (φ j).2 * (φ i).1 * (w i j).2 < (φ j).1 * (φ i).2 * (w i j).1 := k1
          have k2' : ¬ (φ i).2 * (φ j).1 * (w i j).1 < (φ i).1 * (φ j).2 * (w i j).2 := k2
          rw [Nat.mul_comm (φ j).2, Nat.mul_comm (φ j).1] at k1'
          have key : fq (mul2 (φ i) (inv2 (φ j))) (w i j) := ⟨⟨⟨Nat.mul_pos p1.1 p2.2, Nat.mul_pos p1.2 p2.1⟩, d1.1.1, d1.2.1⟩, by
            show (φ i).1 * (φ j).2 * (w i j).2 = (w i j).1 * ((φ i).2 * (φ j).1)
            rw [Nat.mul_comm (w i j).1]
            omega⟩
          rcases pidx_inj hn h2 hx hy hxy pi pj (by omega) hk with ⟨rfl, rfl⟩ | ⟨rfl, rfl⟩
          · exact key
          · rw [d2]
            have kk := key.inv
            refine fq.tr ⟨⟨⟨Nat.mul_pos p2.1 p1.2, Nat.mul_pos p2.2 p1.1⟩, kk.1.1⟩, ?_⟩ kk
            show (φ x).1 * (φ y).2 * ((φ y).1 * (φ x).2) = (φ y).2 * (φ x).1 * ((φ x).2 * (φ y).1)
            ac_rfl
      · obtain ⟨φ', h'⟩ := pot_join hn h2 hφ (rch E n j) (fun x y hx hy hxy hk => ⟨fun z => rch_s z hy ((e1 x y).mpr ⟨⟨hx, hy⟩, (R.dgs hx hy hxy hk.2).2.2, hk.1⟩), fun z => rch_s z hx ((e1 y x).mpr ⟨⟨hy, hx⟩, (R.dgs hy hx (Ne.symm hxy) (by rw [hsym y x hy hx (Ne.symm hxy)]; exact hk.2)).2.2, by rw [hsym y x hy hx (Ne.symm hxy)]; exact hk.1⟩)⟩) (rch_0 pj) hr pi pj (by omega) d1 d2
        exact ⟨φ', split φ' h'⟩
    · exact ⟨φ, hφ.mono (fun k hk => ⟨by
        rcases Nat.lt_or_ge k m with c | c
        · exact c
        · have e : k = m := by omega
          subst e
          exact absurd hk.2 hs, hk.2⟩)⟩
theorem ag_even (hn : n ≤ 6) (h2 : 2 ≤ n) (R : rel n w fl v fv T) (g : gS) : noneG (measG w n g) (n - 2) 3 = fitB n T (mAll n T) := by
  have ho := (ag_ok hn h2 R).1
  have hsub : ∀ k, hIn n (mAll n T) k → 0 < T.1 k := fun k hk => mAll_sub hk.2
  have hin : ∀ k, hIn n (mAll n T) k ↔ k < n * (n - 1) / 2 ∧ 0 < T.1 k := fun k => by
    unfold hIn mAll
    rw [allB_bit]
    simp only [Bool.and_eq_true, decide_eq_true_eq]
    exact ⟨fun h => ⟨h.1, h.2.2⟩, fun h => ⟨h.1, h.1, h.2⟩⟩
  rw [Bool.eq_iff_iff, none_iff hn h2 ho, fitB_i, cons_iff hn h2 R.1 hsub]
  constructor
  · intro hA
    obtain ⟨φ, hφ⟩ := pot_all hn h2 R.1 hA _ (Nat.le_refl _)
    exact ⟨φ, hφ.mono (fun k hk => (hin k).mp hk)⟩
  · rintro ⟨φ, hφ⟩ l hl h3
    have hE : ∀ x y, x < n → y < n → tH w x y = true → x ≠ y ∧ hIn n (mAll n T) (pidx n x y) := fun x y hx hy h => by
      have a5 := tH_iff.mp h
      exact ⟨a5.1, (hin _).mpr ⟨(pidx_ok n (by omega) h2 x hx y hy a5.1).1, (R.1.has hx hy a5.1).mp a5.2⟩⟩
    have hb := hl.1.2.1 _ (hd_in hl.1.1)
    have ha := hl.1.2.1 _ (lastN_in hl.1.1)
    have f1 := pot_path hφ hE l hl.1.1 hl.1.2.1 hl.1.2.2.2
    have e := hE _ _ hb ha hl.2.2
    have f2 := hφ.2 _ _ hb ha e.1 e.2
    have f3 := (f1.mul f2.sy).tr (fq_tele (hφ.1 _ ha) (hφ.1 _ hb) (hφ.1 _ ha))
    have k := f3.inv.lt1
    have e2 : (mul2 (φ (lastN l)) (inv2 (φ (lastN l)))).1 = (mul2 (φ (lastN l)) (inv2 (φ (lastN l)))).2 := Nat.mul_comm _ _
    rcases Nat.lt_or_ge (rp w l).2 (rp w l).1 with c | c
    · have := k.mp c
      dsimp only at this
      omega
    · exact c
end POT
