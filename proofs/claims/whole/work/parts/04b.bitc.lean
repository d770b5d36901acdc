/-! Integer.bitCount. Own text. -/
/-- Integer.bitCount, as its code has it -/
def bitc (x : Int32) : Int32 :=
  let a := x - ((x.toUInt32 >>> ((1 : Int32).toUInt32 &&& Int32.toUInt32 31)).toInt32 &&& 1431655765)
  let b := (a &&& 858993459) + ((a.toUInt32 >>> ((2 : Int32).toUInt32 &&& Int32.toUInt32 31)).toInt32 &&& 858993459)
  let c := (b + (b.toUInt32 >>> ((4 : Int32).toUInt32 &&& Int32.toUInt32 31)).toInt32) &&& 252645135
  let e := c + (c.toUInt32 >>> ((8 : Int32).toUInt32 &&& Int32.toUInt32 31)).toInt32
  let f := e + (e.toUInt32 >>> ((16 : Int32).toUInt32 &&& Int32.toUInt32 31)).toInt32
  f &&& 63
/-- how many of the first k bits of m are set -/
def popc : Nat → Nat → Nat
  | 0, _ => 0
  | k + 1, m => m % 2 + popc k (m / 2)
def bitn (m : Nat) : Nat :=
  let a := m - ((m >>> 1) &&& 1431655765)
  let b := (a &&& 858993459) + ((a >>> 2) &&& 858993459)
  let c := (b + (b >>> 4)) &&& 252645135
  let e := c + (c >>> 8)
  let f := e + (e >>> 16)
  f &&& 63
theorem bitc_n {m : Nat} (h : m < 32768) : bitc (nI m) = nI (bitn m) := by
  have sh : ∀ (x j : Nat), x >>> j ≤ x := fun x j => by rw [Nat.shiftRight_eq_div_pow]; exact Nat.div_le_self _ _
  have u : ∀ {k : Nat} (j : Nat), k < 65536 → j < 32 → ((nI k).toUInt32 >>> ((nI j).toUInt32 &&& Int32.toUInt32 31)).toInt32 = nI (k >>> j) := fun j hk hj => nx_ush hk hj
  have h1 : (m >>> 1) &&& 1431655765 ≤ m := Nat.le_trans Nat.and_le_left (sh m 1)
  have e1 : nI m - (((nI m).toUInt32 >>> ((1 : Int32).toUInt32 &&& Int32.toUInt32 31)).toInt32 &&& (1431655765 : Int32)) = nI (m - ((m >>> 1) &&& 1431655765)) := by
    have := u (k := m) 1 (by omega) (by decide)
    rw [show (1 : Int32) = nI 1 from rfl, this, show (1431655765 : Int32) = nI 1431655765 from rfl, nx_and, pk_sub h1]
  unfold bitc bitn
  simp only []
  rw [e1]
  generalize ha : m - ((m >>> 1) &&& 1431655765) = a
  have ha2 : a < 32768 := by omega
  have e2 : (nI a &&& (858993459 : Int32)) + (((nI a).toUInt32 >>> ((2 : Int32).toUInt32 &&& Int32.toUInt32 31)).toInt32 &&& (858993459 : Int32)) = nI ((a &&& 858993459) + ((a >>> 2) &&& 858993459)) := by
    have := u (k := a) 2 (by omega) (by decide)
    rw [show (2 : Int32) = nI 2 from rfl, this, show (858993459 : Int32) = nI 858993459 from rfl, nx_and, nx_and, nI_add]
  rw [e2]
  generalize hb : (a &&& 858993459) + ((a >>> 2) &&& 858993459) = b
  have hb2 : b < 49152 := by
    have q1 : a &&& 858993459 ≤ a := Nat.and_le_left
    have q2 : (a >>> 2) &&& 858993459 ≤ a >>> 2 := Nat.and_le_left
    have q3 : a >>> 2 = a / 4 := by rw [Nat.shiftRight_eq_div_pow]
    omega
  have e3 : (nI b + ((nI b).toUInt32 >>> ((4 : Int32).toUInt32 &&& Int32.toUInt32 31)).toInt32) &&& (252645135 : Int32) = nI ((b + (b >>> 4)) &&& 252645135) := by
    have := u (k := b) 4 (by omega) (by decide)
    rw [show (4 : Int32) = nI 4 from rfl, this, show (252645135 : Int32) = nI 252645135 from rfl, nI_add, nx_and]
  rw [e3]
  generalize hc : (b + (b >>> 4)) &&& 252645135 = c
  have hc2 : c < 53248 := by
    have q1 : (b + (b >>> 4)) &&& 252645135 ≤ b + (b >>> 4) := Nat.and_le_left
    have q3 : b >>> 4 = b / 16 := by rw [Nat.shiftRight_eq_div_pow]
    omega
  have e4 : nI c + ((nI c).toUInt32 >>> ((8 : Int32).toUInt32 &&& Int32.toUInt32 31)).toInt32 = nI (c + (c >>> 8)) := by
    have := u (k := c) 8 (by omega) (by decide)
    rw [show (8 : Int32) = nI 8 from rfl, this, nI_add]
  rw [e4]
  generalize he : c + (c >>> 8) = e
  have he2 : e < 65536 := by
    have q3 : c >>> 8 = c / 256 := by rw [Nat.shiftRight_eq_div_pow]
    omega
  have e5 : nI e + ((nI e).toUInt32 >>> ((16 : Int32).toUInt32 &&& Int32.toUInt32 31)).toInt32 = nI (e + (e >>> 16)) := by
    have := u (k := e) 16 (by omega) (by decide)
    rw [show (16 : Int32) = nI 16 from rfl, this, nI_add]
  rw [e5, show (63 : Int32) = nI 63 from rfl, nx_and]
/-- checked in steps of one number each -/
def bitT : Nat → Nat → Bool
  | 0, _ => true
  | k + 1, m => (bitn m == popc 15 m) && bitT k (m + 1)
theorem bitT_at : ∀ (k m j : Nat), bitT k m = true → m ≤ j → j < m + k → bitn j = popc 15 j
  | 0, m, j, _, h1, h2 => by omega
  | k + 1, m, j, h, h1, h2 => by
    simp only [bitT, Bool.and_eq_true, beq_iff_eq] at h
    rcases Nat.eq_or_lt_of_le h1 with rfl | h3
    · exact h.1
    · exact bitT_at k (m + 1) j h.2 h3 (by omega)
theorem bitT_0 : bitT 8192 0 = true := by decide +kernel
theorem bitT_1 : bitT 8192 8192 = true := by decide +kernel
theorem bitT_2 : bitT 8192 16384 = true := by decide +kernel
theorem bitT_3 : bitT 8192 24576 = true := by decide +kernel
theorem bitc_eq {m : Nat} (h : m < 32768) : bitc (nI m) = nI (popc 15 m) := by
  rw [bitc_n h]
  congr 1
  by_cases h0 : m < 8192
  · exact bitT_at 8192 0 m bitT_0 (by omega) (by omega)
  · by_cases h1 : m < 16384
    · exact bitT_at 8192 8192 m bitT_1 (by omega) (by omega)
    · by_cases h2 : m < 24576
      · exact bitT_at 8192 16384 m bitT_2 (by omega) (by omega)
      · exact bitT_at 8192 24576 m bitT_3 (by omega) (by omega)
