/-! What is still owed. -/
section AG
variable {n fl fv : Nat} {w v : tbW} {T : mdT}
theorem ag_ok (hn : n ≤ 6) (h2 : 2 ≤ n) (R : rel n w fl v fv T) : tbOK n w ∧ tbOK n v ∧ mdOK T ∧ fl < 100 ∧ (∀ i j, tHas n w i j = true → 1 ≤ fl) ∧ ∀ i j, tHas n v i j = true → 1 ≤ fv := sorry
theorem ag_init (hn : n ≤ 6) (h2 : 2 ≤ n) : rel n (w0 n) 0 (w0 n) 0 T0 := sorry
theorem ag_say (hn : n ≤ 6) (h2 : 2 ≤ n) (R : rel n w fl v fv T) (i j p q : Int32) : rel n (sayW n w i j p q) (sayN n w fl i j p q) v fv (mSayT n T i j p q) := sorry
theorem ag_has (hn : n ≤ 6) (h2 : 2 ≤ n) (R : rel n w fl v fv T) (i j : Int32) : tHas n w i j = (tPair n i j && decide (0 < T.1 (pidx n i.toNatClampNeg j.toNatClampNeg))) := sorry
theorem ag_unsay (hn : n ≤ 6) (h2 : 2 ≤ n) (R : rel n w fl v fv T) (i j : Int32) : rel n (dropW n w i j) (dropN n w fl i j) v fv (if (tPair n i j && decide (0 < T.1 (pidx n i.toNatClampNeg j.toNatClampNeg))) = true then (updN T.1 (pidx n i.toNatClampNeg j.toNatClampNeg) 0, T.2) else T) := sorry
theorem ag_said (hn : n ≤ 6) (h2 : 2 ≤ n) (R : rel n w fl v fv T) (i j q : Int32) : saidV n w i j q = mSaid n T i j q := sorry
theorem ag_even (hn : n ≤ 6) (h2 : 2 ≤ n) (R : rel n w fl v fv T) (g : gS) : noneG (measG w n g) (n - 2) 3 = fitB n T (mAll n T) := sorry
theorem ag_worst (hn : n ≤ 6) (h2 : 2 ≤ n) (R : rel n w fl v fv T) (s : woS) (q : Int32) : worstV (woF w n s) q = mWor n T q := sorry
theorem ag_trees (hn : n ≤ 6) (h2 : 2 ≤ n) (R : rel n w fl v fv T) : ofM (n - 1) (n - 1 - 1) 0 1 (lapM w (n - 1)) = nI (trF n T) := sorry
theorem ag_leave (hn : n ≤ 6) (h2 : 2 ≤ n) (R : rel n w fl v fv T) : leaveF w n = (popc 15 (lhF n T), lhF n T) := sorry
theorem ag_row (hn : n ≤ 6) (h2 : 2 ≤ n) (R : rel n w fl v fv T) (i q : Int32) : rowV n w fl i q = mRow n T i q := sorry
theorem ag_order (hn : n ≤ 6) (h2 : 2 ≤ n) (R : rel n w fl v fv T) (i j : Int32) : ordV n w fl i j = mOrd n T i j := sorry
theorem ag_least (hn : n ≤ 6) (h2 : 2 ≤ n) (R : rel n w fl v fv T) (g : gS) (q : Int32) : leaV (measG w n g) n q = mLea n T q := sorry
theorem ag_span (hn : n ≤ 6) (h2 : 2 ≤ n) (R : rel n w fl v fv T) (i j e : Int32) : rel n w fl (spW n v i j e) (spN n v fv i j e) (mSpanT n T i j e) := sorry
theorem ag_hasv (hn : n ≤ 6) (h2 : 2 ≤ n) (R : rel n w fl v fv T) (i j : Int32) : tHas n v i j = (tPair n i j && decide (0 < T.2.2.1 (pidx n i.toNatClampNeg j.toNatClampNeg))) := sorry
theorem ag_unspan (hn : n ≤ 6) (h2 : 2 ≤ n) (R : rel n w fl v fv T) (i j : Int32) : rel n w fl (dropW n v i j) (dropN n v fv i j) (if (tPair n i j && decide (0 < T.2.2.1 (pidx n i.toNatClampNeg j.toNatClampNeg))) = true then (T.1, T.2.1, updN T.2.2.1 (pidx n i.toNatClampNeg j.toNatClampNeg) 0, T.2.2.2) else T) := sorry
theorem ag_can (hn : n ≤ 6) (h2 : 2 ≤ n) (R : rel n w fl v fv T) (g : gS) : noneG (measG v n g) (n - 2) 3 = mCan n T := sorry
theorem ag_bound (hn : n ≤ 6) (h2 : 2 ≤ n) (R : rel n w fl v fv T) (g : gS) (i j q : Int32) : bndV n v (noneG (measG v n g) (n - 2) 3) i j q = mBnd n T i j q := sorry
theorem ag_count (hn : n ≤ 6) (h2 : 2 ≤ n) (R : rel n w fl v fv T) (q : Int32) : (if q = 0 then nI n else if q = 1 then nI fl else if q = 2 then nI fv else -1) = mCnt n T q := sorry
end AG
