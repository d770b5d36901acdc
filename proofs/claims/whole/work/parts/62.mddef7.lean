/-! The reference: numbers in places of nine decimal digits; rings; ways: what they compute. Own text. -/
def dB : Nat := 1000000000
def dlb (N j : Nat) : Nat := N / dB ^ j % dB
def dcr (N f k : Nat) : Nat := (N % dB ^ k) * f / dB ^ k
theorem dB_pos (k : Nat) : 0 < dB ^ k := Nat.pow_pos (by decide)
theorem dlb_lt (N j : Nat) : dlb N j < 1000000000 := Nat.mod_lt _ (by decide)
theorem dcr_0 (N f : Nat) : dcr N f 0 = 0 := by simp [dcr, Nat.mod_one]
theorem dcr_sum (N f k : Nat) : dlb N k * f + dcr N f k = (N % dB ^ (k + 1)) * f / dB ^ k := by
  rw [Nat.pow_succ, Nat.mod_mul]
  unfold dlb dcr
  rw [Nat.add_mul, Nat.mul_assoc, Nat.add_mul_div_left _ _ (dB_pos k), Nat.add_comm]
theorem dcr_s (N f k : Nat) : (dlb N k * f + dcr N f k) / 1000000000 = dcr N f (k + 1) := by
  rw [dcr_sum, Nat.div_div_eq_div_mul]
  rfl
theorem dlb_s (N f k : Nat) : (dlb N k * f + dcr N f k) % 1000000000 = dlb (N * f) k := by
  rw [dcr_sum]
  unfold dlb
  have h1 := Nat.div_add_mod N (dB ^ (k + 1))
  generalize N % dB ^ (k + 1) = r at h1 ⊢
  generalize N / dB ^ (k + 1) = q at h1
  rw [← h1, Nat.pow_succ, Nat.add_mul, show dB ^ k * dB * q * f = dB ^ k * (dB * (q * f)) by simp only [Nat.mul_assoc], Nat.mul_add_div (dB_pos k), Nat.mul_add_mod]
  rfl
theorem dcr_le (N f k : Nat) : dcr N f k ≤ f := by
  unfold dcr
  apply Nat.div_le_of_le_mul
  exact Nat.mul_le_mul_right f (Nat.le_of_lt (Nat.mod_lt _ (dB_pos k)))
def drow (g : Nat → Int64) : xk_C := .inl (1, 12, .inr (.inl g))
def wrow (W : Nat → Int32) : xk_C := .inl (0, 6, .inl W)
def dP (g : Nat → Int64) (N : Nat) : Prop := ∀ j, j < 12 → g j = lN (dlb N j)
def dM (g : Nat → Int64) (N f k : Nat) : Prop := ∀ j, j < 12 → g j = lN (if j < k then dlb (N * f) j else dlb N j)
theorem dM_0 {g : Nat → Int64} {N f : Nat} (h : dP g N) : dM g N f 0 := fun j hj => by rw [if_neg (by omega)]; exact h j hj
theorem dM_12 {g : Nat → Int64} {N f : Nat} (h : dM g N f 12) : dP g (N * f) := fun j hj => by rw [h j hj, if_pos hj]
theorem dM_s {g : Nat → Int64} {N f k : Nat} (h : dM g N f k) : dM (vp_updL g k (lN (dlb (N * f) k))) N f (k + 1) := fun j hj => by
  simp only [vp_updL]
  by_cases e : j = k
  · subst e; simp
  · rw [if_neg e, h j hj]
    by_cases e2 : j < k
    · rw [if_pos e2, if_pos (by omega)]
    · rw [if_neg e2, if_neg (by omega)]
def d1 (g : Nat → Int64) (k : Nat) : Prop := ∀ j, j < k → g j = lN (if j = 0 then 1 else 0)
theorem d1_s {g : Nat → Int64} {k x : Nat} (h : d1 g k) (hx : x = if k = 0 then 1 else 0) : d1 (vp_updL g k (lN x)) (k + 1) := fun j hj => by
  simp only [vp_updL]
  by_cases e : j = k
  · subst e; rw [if_pos rfl, hx]
  · rw [if_neg e]; exact h j (by omega)
theorem d1_12 {g : Nat → Int64} (h : d1 g 12) : dP g 1 := fun j hj => by
  rw [h j hj]
  congr 1
  unfold dlb
  by_cases e : j = 0
  · subst e; decide
  · rw [if_neg e]
    have h1 : dB ^ 1 ≤ dB ^ j := Nat.pow_le_pow_right (by decide) (by omega)
    rw [Nat.div_eq_of_lt (Nat.lt_of_lt_of_le (by decide) h1), Nat.zero_mod]
theorem dlb_cmp {N N' k : Nat} (h : N / dB ^ (k + 1) = N' / dB ^ (k + 1)) : (dlb N' k < dlb N k → N' < N) ∧ (dlb N k = dlb N' k → N / dB ^ k = N' / dB ^ k) := by
  rw [Nat.pow_succ, ← Nat.div_div_eq_div_mul, ← Nat.div_div_eq_div_mul] at h
  unfold dlb
  generalize ha : N / dB ^ k = a at h ⊢
  generalize hb : N' / dB ^ k = b at h ⊢
  unfold dB at h ⊢
  refine ⟨fun h2 => ?_, fun h2 => by omega⟩
  have h3 : b < a := by omega
  rcases Nat.lt_or_ge N' N with q | q
  · exact q
  · have := Nat.div_le_div_right (c := dB ^ k) q
    omega
def cmp3 (L R : Nat) : Int32 := if R < L then 1 else if L < R then -1 else 0
/-- the greatest root so far: top, bottom, of how many things -/
abbrev lS : Type := Nat × Nat × Nat
abbrev lE : Type := Int64 × Int64 × Int32 × Int32
def rgA (hs h : xk_H) (m n : Nat) (s : lS) (W : Nat → Int32) : Prop :=
  (∃ (c : Int32) (e : lE), h[m]? = some (mdO n m (c, lN s.1, lN s.2.1, nI s.2.2, e))) ∧ (∃ g, h[m + 13]? = some (drow g)) ∧ (∃ g, h[m + 14]? = some (drow g)) ∧ h[m + 15]? = some (wrow W) ∧ xfr (fun k => k = m ∨ k = m + 13 ∨ k = m + 14 ∨ k = m + 15) hs h
section RGA
variable {hs h h' : xk_H} {m n : Nat} {T : mdT} {s s' : lS} {W W' : Nat → Int32}
theorem rgA.C (H : rgA hs h m n s W) (hC : mdC hs m n T) : mdC h m n T := hC.kept H.2.2.2.2 (by omega)
theorem rgA.tr (H : rgA hs h m n s W) (H2 : rgA h h' m n s' W') : rgA hs h' m n s' W' := ⟨H2.1, H2.2.1, H2.2.2.1, H2.2.2.2.1, H.2.2.2.2.tr H2.2.2.2.2⟩
theorem rgA.rf (H : rgA hs h m n s W) : rgA h h m n s W := ⟨H.1, H.2.1, H.2.2.1, H.2.2.2.1, xfr.rf⟩
theorem rgA.lr (H : rgA hs h m n s W) (g1 g2 : Nat → Int64) : rgA hs ((h.set (m + 13) (drow g1)).set (m + 14) (drow g2)) m n s W := by
  obtain ⟨⟨c, e, h1⟩, ⟨f1, h2⟩, ⟨f2, h3⟩, h4, h5⟩ := H
  exact ⟨⟨c, e, (xs_ne (by omega)).trans ((xs_ne (by omega)).trans h1)⟩, ⟨g1, (xs_ne (by omega)).trans (xs_at h2)⟩, ⟨g2, xs_at ((xs_ne (by omega)).trans h3)⟩, (xs_ne (by omega)).trans ((xs_ne (by omega)).trans h4), (h5.set (by omega)).set (by omega)⟩
theorem rgA.o (H : rgA hs h m n s W) (c : Int32) (e : lE) (s' : lS) : rgA hs (h.set m (mdO n m (c, lN s'.1, lN s'.2.1, nI s'.2.2, e))) m n s' W := by
  obtain ⟨⟨c0, e0, h1⟩, ⟨f1, h2⟩, ⟨f2, h3⟩, h4, h5⟩ := H
  exact ⟨⟨c, e, xs_at h1⟩, ⟨f1, (xs_ne (by omega)).trans h2⟩, ⟨f2, (xs_ne (by omega)).trans h3⟩, (xs_ne (by omega)).trans h4, h5.set (by omega)⟩
theorem rgA.w (H : rgA hs h m n s W) (W' : Nat → Int32) : rgA hs (h.set (m + 15) (wrow W')) m n s W' := by
  obtain ⟨⟨c0, e0, h1⟩, ⟨f1, h2⟩, ⟨f2, h3⟩, h4, h5⟩ := H
  exact ⟨⟨c0, e0, (xs_ne (by omega)).trans h1⟩, ⟨f1, (xs_ne (by omega)).trans h2⟩, ⟨f2, (xs_ne (by omega)).trans h3⟩, xs_at h4, h5.set (by omega)⟩
theorem rgA.toA (H : rgA hs h m n s W) (hA : mdA hs m n T) : mdA h m n T := by
  obtain ⟨⟨c0, e0, h1⟩, ⟨f1, h2⟩, ⟨f2, h3⟩, h4, h5⟩ := id H
  obtain ⟨-, -, ⟨g1, e1⟩, ⟨g2, e2⟩, ⟨g3, e3⟩, ⟨g4, e4⟩, -⟩ := id hA
  exact ⟨⟨_, h1⟩, H.C hA.2.1, ⟨g1, (h5.2 _ (by omega)).trans e1⟩, ⟨g2, (h5.2 _ (by omega)).trans e2⟩, ⟨g3, (h5.2 _ (by omega)).trans e3⟩, ⟨g4, (h5.2 _ (by omega)).trans e4⟩, ⟨f1, h2⟩, ⟨f2, h3⟩, _, h4⟩
theorem rgA.fr (H : rgA hs h m n s W) : xfr (mdR m) hs h := H.2.2.2.2.mono (by unfold mdR; omega)
end RGA
def lB (s : lS) : Prop := s.1 ≤ 531441 ∧ s.2.1 ≤ 531441 ∧ s.2.2 ≤ 6
def rgX (p : Nat × Nat) : Nat := max p.1 p.2 / Nat.gcd p.1 p.2
def rgY (p : Nat × Nat) : Nat := min p.1 p.2 / Nat.gcd p.1 p.2
/-- is the root of x over y, of z things, to take the place of s? -/
def rgT (x y z : Nat) (s : lS) : Prop := s.2.2 = 0 ∨ s.1 ^ z * y ^ s.2.2 < x ^ s.2.2 * s.2.1 ^ z ∨ (x ^ s.2.2 * s.2.1 ^ z = s.1 ^ z * y ^ s.2.2 ∧ z < s.2.2)
noncomputable def rgS (p : Nat × Nat) (z : Nat) (s : lS) : lS := @ite _ (rgX p = rgY p) (Classical.propDecidable _) s (@ite _ (rgT (rgX p) (rgY p) z s) (Classical.propDecidable _) (rgX p, rgY p, z) s)
theorem rgS_e {p : Nat × Nat} {z : Nat} {s : lS} (h : rgX p = rgY p) : rgS p z s = s := by unfold rgS; rw [if_pos h]
theorem rgS_y {p : Nat × Nat} {z : Nat} {s : lS} (h : ¬ rgX p = rgY p) (h2 : rgT (rgX p) (rgY p) z s) : rgS p z s = (rgX p, rgY p, z) := by unfold rgS; rw [if_neg h, if_pos h2]
theorem rgS_n {p : Nat × Nat} {z : Nat} {s : lS} (h : ¬ rgX p = rgY p) (h2 : ¬ rgT (rgX p) (rgY p) z s) : rgS p z s = s := by unfold rgS; rw [if_neg h, if_neg h2]
theorem rg_le {p : Nat × Nat} (h1 : p.1 ≤ 531441) (h2 : p.2 ≤ 531441) : rgX p ≤ 531441 ∧ rgY p ≤ 531441 :=
  ⟨Nat.le_trans (Nat.div_le_self _ _) (Nat.max_le.mpr ⟨h1, h2⟩), Nat.le_trans (Nat.div_le_self _ _) (Nat.le_trans (Nat.min_le_left _ _) h1)⟩
theorem rgS_b {p : Nat × Nat} {z : Nat} {s : lS} (h1 : p.1 ≤ 531441) (h2 : p.2 ≤ 531441) (hz : z ≤ 6) (h : lB s) : lB (rgS p z s) := by
  have := rg_le h1 h2
  by_cases c : rgX p = rgY p
  · rw [rgS_e c]; exact h
  · by_cases c2 : rgT (rgX p) (rgY p) z s
    · rw [rgS_y c c2]; exact ⟨this.1, this.2, hz⟩
    · rw [rgS_n c c2]; exact h
theorem dpow {x y a b : Nat} (hx : x ≤ 531441) (hy : y ≤ 531441) (ha : a ≤ 6) (hb : b ≤ 6) : x ^ a * y ^ b < dB ^ 12 := by
  have key : ∀ x a, x ≤ 531441 → a ≤ 6 → x ^ a ≤ 531441 ^ 6 := fun x a h1 h2 => Nat.le_trans (Nat.pow_le_pow_left h1 a) (Nat.pow_le_pow_right (by decide) h2)
  exact Nat.lt_of_le_of_lt (Nat.mul_le_mul (key x a hx ha) (key y b hy hb)) (by decide +kernel)
/-- the path, its last thing first, as the row holds it -/
def wayR (W : Nat → Int32) : List Nat → Prop
  | [] => True
  | b :: q => W q.length = nI b ∧ wayR W q
def lastN : List Nat → Nat
  | [] => 0
  | [a] => a
  | _ :: b :: l => lastN (b :: l)
theorem wayR_0 {W : Nat → Int32} : ∀ (b : Nat) (q : List Nat), wayR W (b :: q) → W 0 = nI (lastN (b :: q))
  | b, [], h => h.1
  | b, c :: q, h => wayR_0 c q h.2
theorem wayR_at {W : Nat → Int32} : ∀ (l : List Nat), wayR W l → ∀ j, j < l.length → ∃ x, x ∈ l ∧ W j = nI x
  | [], _, j, hj => by simp at hj
  | b :: q, h, j, hj => by
    by_cases e : j = q.length
    · exact ⟨b, List.mem_cons_self, by rw [e]; exact h.1⟩
    · have hj2 : j < q.length := by rw [List.length_cons] at hj; omega
      obtain ⟨x, h1, h2⟩ := wayR_at q h.2 j hj2
      exact ⟨x, List.mem_cons_of_mem _ h1, h2⟩
theorem wayR_mem {W : Nat → Int32} : ∀ (l : List Nat), wayR W l → ∀ x, x ∈ l → ∃ j, j < l.length ∧ W j = nI x
  | [], _, x, hx => by simp at hx
  | b :: q, h, x, hx => by
    rcases List.mem_cons.mp hx with rfl | hx
    · exact ⟨q.length, by rw [List.length_cons]; omega, h.1⟩
    · obtain ⟨j, h1, h2⟩ := wayR_mem q h.2 x hx
      exact ⟨j, by rw [List.length_cons]; omega, h2⟩
theorem wayR_upd {W : Nat → Int32} {k : Nat} {x : Int32} : ∀ (l : List Nat), wayR W l → l.length ≤ k → wayR (upd W k x) l
  | [], _, _ => trivial
  | b :: q, h, hk => by
    rw [List.length_cons] at hk
    exact ⟨by simp only [upd]; rw [if_neg (by omega)]; exact h.1, wayR_upd q h.2 (by omega)⟩
theorem lastN_mem : ∀ (b : Nat) (q : List Nat), lastN (b :: q) ∈ b :: q
  | b, [] => List.mem_cons_self
  | b, c :: q => List.mem_cons_of_mem _ (lastN_mem c q)
/-- no thing twice: so many at most -/
theorem nod_le : ∀ (n : Nat) (l : List Nat), l.Nodup → (∀ x, x ∈ l → x < n) → l.length ≤ n
  | 0, l, _, h => by
    cases l with
    | nil => exact Nat.le_refl _
    | cons a l => exact absurd (h a List.mem_cons_self) (by omega)
  | n + 1, l, hd, h => by
    have ih := nod_le n (l.erase n) (hd.erase n) (fun x hx => by
      have h1 := List.mem_of_mem_erase hx
      have h2 := h x h1
      have h3 : x ≠ n := fun z => by rw [z] at hx; exact (List.Nodup.not_mem_erase hd) hx
      omega)
    by_cases e : n ∈ l
    · rw [List.length_erase_of_mem e] at ih
      omega
    · rw [List.erase_of_not_mem e] at ih
      omega
theorem nod_all {n i : Nat} {l : List Nat} (hd : l.Nodup) (h : ∀ x, x ∈ l → x < n) (hl : l.length = n) (hi : i < n) : i ∈ l := by
  by_cases e : i ∈ l
  · exact e
  · have := nod_le n (i :: l) (List.nodup_cons.mpr ⟨e, hd⟩) (fun x hx => by
      rcases List.mem_cons.mp hx with rfl | hx
      · exact hi
      · exact h x hx)
    rw [List.length_cons] at this
    omega
/-- rings: the ring is closed -/
noncomputable def rgC (n : Nat) (T : mdT) (b : Nat) (q : List Nat) (p : Nat × Nat) (s : lS) : lS := if 3 ≤ q.length + 1 ∧ 0 < T.1 (pidx n b (lastN (b :: q))) then rgS (mul2 p (mdS n T.1 T.2.1 b (lastN (b :: q)))) (q.length + 1) s else s
noncomputable def rgF (n : Nat) (T : mdT) : Nat → Nat → List Nat → Nat × Nat → lS → lS
  | 0, b, q, p, s => rgC n T b q p s
  | f + 1, b, q, p, s => itr (fun i s => if ¬ i ∈ b :: q ∧ 0 < T.1 (pidx n b i) then rgF n T f i (b :: q) (mul2 p (mdS n T.1 T.2.1 b i)) s else s) n 0 (rgC n T b q p s)
noncomputable def rgL (n : Nat) (T : mdT) : lS := itr (fun i s => rgF n T (n - 1) i [] (1, 1) s) n 0 (1, 1, 0)
noncomputable def mLea (n : Nat) (T : mdT) (q : Int32) : Int32 := if inB q 0 2 = true then (if q = 0 then nI (rgL n T).1 else if q = 1 then nI (rgL n T).2.1 else nI (rgL n T).2.2) else -1
/-- ways: is one found, the best one, can it be -/
abbrev wS : Type := Bool × Nat × Nat × Bool
def wyB (p : Nat × Nat) (s : wS) : wS := (true, if s.1 = true ∧ p.1 * s.2.2.1 ≤ s.2.1 * p.2 then (s.2.1, s.2.2.1, s.2.2.2) else (p.1 / Nat.gcd p.1 p.2, p.2 / Nat.gcd p.1 p.2, s.2.2.2))
def wyC (n : Nat) (T : mdT) (b : Nat) (q : List Nat) (p : Nat × Nat) (s : wS) : wS := if 2 ≤ q.length + 1 ∧ 0 < T.2.2.1 (pidx n b (lastN (b :: q))) ∧ p.2 * (mdL n T b (lastN (b :: q))).2 < p.1 * (mdL n T b (lastN (b :: q))).1 then (s.1, s.2.1, s.2.2.1, false) else s
def wyF (n : Nat) (T : mdT) (to : Int32) : Nat → Nat → List Nat → Nat × Nat → wS → wS
  | 0, b, q, p, s => if nI b = to ∧ 2 ≤ q.length + 1 then wyB p s else wyC n T b q p s
  | f + 1, b, q, p, s => if nI b = to ∧ 2 ≤ q.length + 1 then wyB p s else itr (fun i s => if ¬ i ∈ b :: q ∧ 0 < T.2.2.1 (pidx n b i) then wyF n T to f i (b :: q) (mul2 p (mdL n T b i)) s else s) n 0 (wyC n T b q p s)
def wyG (n : Nat) (T : mdT) (from_ : Nat) (to : Int32) (c : Bool) : wS := wyF n T to (n - 1) from_ [] (1, 1) (false, 1, 1, c)
def mCan (n : Nat) (T : mdT) : Bool := itr (fun i c => (wyG n T i (-1) c).2.2.2) n 0 true
def mBnd (n : Nat) (T : mdT) (i j q : Int32) : Int32 :=
  if (tPair n i j && isPt q && mCan n T) = true then
    (if (wyG n T i.toNatClampNeg j true).1 = true then (if q = 0 then nI (wyG n T i.toNatClampNeg j true).2.1 else nI (wyG n T i.toNatClampNeg j true).2.2.1) else -1)
  else -1
def wyA (hs h : xk_H) (m n : Nat) (s : wS) (W : Nat → Int32) : Prop :=
  (∃ (c : Int32) (e1 e2 : Int64) (e3 : Int32), h[m]? = some (mdO n m (c, e1, e2, e3, lN s.2.1, lN s.2.2.1, xk_b s.1, xk_b s.2.2.2))) ∧ h[m + 15]? = some (wrow W) ∧ xfr (fun k => k = m ∨ k = m + 15) hs h
section WYA
variable {hs h h' : xk_H} {m n : Nat} {T : mdT} {s s' : wS} {W W' : Nat → Int32}
theorem wyA.C (H : wyA hs h m n s W) (hC : mdC hs m n T) : mdC h m n T := hC.kept H.2.2 (by omega)
theorem wyA.tr (H : wyA hs h m n s W) (H2 : wyA h h' m n s' W') : wyA hs h' m n s' W' := ⟨H2.1, H2.2.1, H.2.2.tr H2.2.2⟩
theorem wyA.rf (H : wyA hs h m n s W) : wyA h h m n s W := ⟨H.1, H.2.1, xfr.rf⟩
theorem wyA.o (H : wyA hs h m n s W) (c : Int32) (e1 e2 : Int64) (e3 : Int32) (s' : wS) : wyA hs (h.set m (mdO n m (c, e1, e2, e3, lN s'.2.1, lN s'.2.2.1, xk_b s'.1, xk_b s'.2.2.2))) m n s' W := by
  obtain ⟨⟨c0, e0, e9, e8, h1⟩, h4, h5⟩ := H
  exact ⟨⟨c, e1, e2, e3, xs_at h1⟩, (xs_ne (by omega)).trans h4, h5.set (by omega)⟩
theorem wyA.w (H : wyA hs h m n s W) (W' : Nat → Int32) : wyA hs (h.set (m + 15) (wrow W')) m n s W' := by
  obtain ⟨⟨c0, e0, e9, e8, h1⟩, h4, h5⟩ := H
  exact ⟨⟨c0, e0, e9, e8, (xs_ne (by omega)).trans h1⟩, xs_at h4, h5.set (by omega)⟩
theorem wyA.toA (H : wyA hs h m n s W) (hA : mdA hs m n T) : mdA h m n T := by
  obtain ⟨⟨c0, e0, e9, e8, h1⟩, h4, h5⟩ := id H
  obtain ⟨-, -, ⟨g1, k1⟩, ⟨g2, k2⟩, ⟨g3, k3⟩, ⟨g4, k4⟩, ⟨g5, k5⟩, ⟨g6, k6⟩, -⟩ := id hA
  exact ⟨⟨_, h1⟩, H.C hA.2.1, ⟨g1, (h5.2 _ (by omega)).trans k1⟩, ⟨g2, (h5.2 _ (by omega)).trans k2⟩, ⟨g3, (h5.2 _ (by omega)).trans k3⟩, ⟨g4, (h5.2 _ (by omega)).trans k4⟩, ⟨g5, (h5.2 _ (by omega)).trans k5⟩, ⟨g6, (h5.2 _ (by omega)).trans k6⟩, _, h4⟩
theorem wyA.fr (H : wyA hs h m n s W) : xfr (mdR m) hs h := H.2.2.mono (by unfold mdR; omega)
end WYA
