/-! Fractions as longs, and Euclid. Own text. -/
def fr (p q : Nat) : Int64 := lN (p * 4294967296 + q)
theorem fr_of {p q : Nat} (hp : p < 2147483648) (hq : q < 4294967296) : (lN p <<< ((32 : Int32).toInt64 &&& 63)) ||| lN q = fr p q := by
  have h1 : lN p <<< ((32 : Int32).toInt64 &&& 63) = lN (p * 2 ^ 32) := wb_shl p (k := 32) (by decide)
  rw [h1]
  exact g_or (k := 32) (p := 2 ^ 32) (a := q) (b := p) rfl hq (by omega)
theorem fr_top {p q : Nat} (hp : p < 2147483648) (hq : q < 4294967296) : ((fr p q).toUInt64 >>> ((32 : Int32).toInt64.toUInt64 &&& Int64.toUInt64 63)).toInt64 = lN p := by
  have h1 : ((fr p q).toUInt64 >>> ((32 : Int32).toInt64.toUInt64 &&& Int64.toUInt64 63)).toInt64 = lN ((p * 4294967296 + q) / 2 ^ 32) := wb_shr (n := p * 4294967296 + q) (k := 32) (by omega) (by decide)
  rw [h1]
  congr 1
  omega
theorem fr_bot {p q : Nat} (hp : p < 2147483648) (hq : q < 4294967296) : fr p q &&& 4294967295 = lN q := by
  have h1 : fr p q &&& 4294967295 = lN ((p * 4294967296 + q) % 4294967296) := g_mask (a := p * 4294967296 + q) (s := 32) (p := 4294967296) rfl (by decide) (by omega)
  rw [h1]
  congr 1
  omega
theorem fr_inj {p q r s : Nat} (hp : p < 2147483648) (hq : q < 4294967296) (hr : r < 2147483648) (hs : s < 4294967296) : fr p q = fr r s ↔ p = r ∧ q = s := by
  unfold fr
  rw [pk_lEQ (by omega) (by omega)]
  constructor
  · intro h; omega
  · rintro ⟨rfl, rfl⟩; rfl
theorem lc_le {a b : Nat} (ha : a < 2 ^ 63) (hb : b < 2 ^ 63) : lg_cmp (lN a) (lN b) ≤ 0 ↔ a ≤ b := by rw [lg_cmp_le, pk_lLE ha hb]
theorem lc_lt {a b : Nat} (ha : a < 2 ^ 63) (hb : b < 2 ^ 63) : lg_cmp (lN a) (lN b) < 0 ↔ a < b := by rw [lg_cmp_lt, pk_lLT ha hb]
theorem lc_gt {a b : Nat} (ha : a < 2 ^ 63) (hb : b < 2 ^ 63) : 0 < lg_cmp (lN a) (lN b) ↔ b < a := by rw [lg_cmp_gt, pk_lLT hb ha]
theorem lc_ge {a b : Nat} (ha : a < 2 ^ 63) (hb : b < 2 ^ 63) : 0 ≤ lg_cmp (lN a) (lN b) ↔ b ≤ a := by rw [lg_cmp_ge, pk_lLE hb ha]
theorem lc_eq {a b : Nat} (ha : a < 2 ^ 63) (hb : b < 2 ^ 63) : lg_cmp (lN a) (lN b) = 0 ↔ a = b := by rw [lg_cmp_eq, pk_lEQ ha hb]
/-- Euclid with so many steps at most -/
def eu : Nat → Nat → Nat → Nat
  | 0, a, _ => a
  | f + 1, a, b => if b = 0 then a else eu f b (a % b)
theorem eu_0 (f a : Nat) : eu f a 0 = a := by cases f <;> rfl
theorem eu_gcd : ∀ (k f a b : Nat), b < 2 ^ k → 2 * k ≤ f → eu f a b = Nat.gcd a b
  | 0, f, a, b, hb, _ => by
    have : b = 0 := by omega
    subst this
    rw [eu_0, Nat.gcd_zero_right]
  | k + 1, 0, a, b, _, hf => by omega
  | k + 1, 1, a, b, _, hf => by omega
  | k + 1, f + 2, a, b, hb, hf => by
    by_cases h0 : b = 0
    · subst h0
      rw [eu_0, Nat.gcd_zero_right]
    · have hlt := Nat.mod_lt a (Nat.pos_of_ne_zero h0)
      rw [eu, if_neg h0]
      have e1 : Nat.gcd a b = Nat.gcd b (a % b) := by rw [Nat.gcd_comm, Nat.gcd_rec, Nat.gcd_comm]
      by_cases h1 : a % b = 0
      · rw [e1, h1, eu_0, Nat.gcd_zero_right]
      · rw [eu, if_neg h1, e1]
        have e2 : Nat.gcd b (a % b) = Nat.gcd (a % b) (b % (a % b)) := by
          rw [Nat.gcd_comm, Nat.gcd_rec, Nat.gcd_comm]
        rw [e2]
        refine eu_gcd k f _ _ ?_ (by omega)
        generalize a % b = r at hlt h1 ⊢
        have hr := Nat.mod_lt b (Nat.pos_of_ne_zero h1)
        have hd := Nat.div_add_mod b r
        have hq : 1 ≤ b / r := Nat.div_pos (Nat.le_of_lt hlt) (Nat.pos_of_ne_zero h1)
        have hm : r * 1 ≤ r * (b / r) := Nat.mul_le_mul_left r hq
        have hp : 2 ^ (k + 1) = 2 * 2 ^ k := by rw [Nat.pow_succ]; omega
        omega
theorem eu_100 {a b : Nat} (hb : b < 2 ^ 40) : eu 100 a b = Nat.gcd a b := eu_gcd 40 100 a b hb (by decide)
/-- the parts of a fraction in lowest terms -/
def lowT (p q : Nat) : Nat := p / Nat.gcd p q
def lowB (p q : Nat) : Nat := q / Nat.gcd p q
theorem xb_t {b : Bool} (h : b = true) : xk_b b = 1 := by rw [h]; rfl
theorem xb_f {b : Bool} (h : b = false) : xk_b b = 0 := by rw [h]; rfl
theorem xd_t {P : Prop} [Decidable P] (h : P) : xk_b (decide P) = 1 := xb_t (decide_eq_true h)
theorem xd_f {P : Prop} [Decidable P] (h : ¬ P) : xk_b (decide P) = 0 := xb_f (decide_eq_false h)
theorem xs_same {hs : xk_H} {a : Nat} {e : xk_C} (h : hs[a]? = some e) : hs.set a e = hs := by
  apply List.ext_getElem?
  intro j
  rw [List.getElem?_set]
  by_cases hj : a = j
  · subst hj
    rw [h, if_pos rfl, if_pos (List.getElem?_eq_some_iff.mp h).1]
  · rw [if_neg hj]
theorem xs_at {hs : xk_H} {a : Nat} {e e0 : xk_C} (h : hs[a]? = some e0) : (hs.set a e)[a]? = some e := by
  rw [List.getElem?_set, if_pos rfl, if_pos (List.getElem?_eq_some_iff.mp h).1]
theorem xs_ne {hs : xk_H} {a b : Nat} {e : xk_C} (h : a ≠ b) : (hs.set a e)[b]? = hs[b]? := List.getElem?_set_ne h
/-- the first so many places hold v -/
def fillF (f : Nat → Int64) (i : Nat) (v : Int64) : Nat → Int64 := fun j => if j < i then v else f j
theorem fillF_0 (f : Nat → Int64) (v : Int64) : fillF f 0 v = f := funext fun j => by simp [fillF]
theorem fillF_s (f : Nat → Int64) (i : Nat) (v : Int64) : vp_updL (fillF f i v) i v = fillF f (i + 1) v := funext fun j => by
  simp only [vp_updL, fillF]
  by_cases h : j = i
  · subst h; simp
  · by_cases h2 : j < i
    · simp [h, h2, Nat.lt_succ_of_lt h2]
    · simp [h, h2, show ¬ j < i + 1 by omega]
theorem xz1 {b : Bool} (h : b = true) : some (Value.int 1) = some (Value.int (xk_b b)) := by rw [xb_t h]
theorem xz0 {b : Bool} (h : b = false) : some (Value.int 0) = some (Value.int (xk_b b)) := by rw [xb_f h]
