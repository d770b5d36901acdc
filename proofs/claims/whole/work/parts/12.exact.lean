/-! exact contracts: one answer, one heap. Own text. -/
abbrev xk_F (d : Nat) (M : xk_M) (av : List Value) (hs : xk_H) (r : Option Value) (hs' : xk_H) : Prop := xk_Y d 0 0 M false av hs (fun r' h => r' = r ∧ h = hs')
abbrev xk_P (d : Nat) (M : xk_M) (av : List Value) (hs : xk_H) (r : Option Value) (hs' : xk_H) (pc : Nat) (ls : List (Option Value)) (st : List Value) (h : xk_H) : Prop := xk_X d 0 0 M (xk_fx false hs) (fun r' h => r' = r ∧ h = hs') 0 0 pc ls st h
section XKF
variable {d mc ms : Nat} {M : xk_M} {fx : Nat → Prop} {out : Option Value → xk_H → Prop} {cs ss pc : Nat} {ls : List (Option Value)} {hs : xk_H}
theorem xk_v0 {M' : xk_M} {d' index b ci : Nat} {fs : List Value} {r0 : vw_C} {hs' : xk_H} {v : Value} {rest : List Value} (hd : decode M.2.1 pc = .ok (.invokevirtual index, 3)) (hlk : Cond.methodLink M.1.cls index M'.1 ∈ xk_WS) (hcv : xk_CV M' 0) (hin : Cond.instanceMethod M'.1 ∈ xk_WS) (hse : Cond.selects M'.1.cls M'.1 M'.1 ∈ xk_WS) (hdd : d' < d) (hcs : cs ≤ mc) (hss : ss ≤ ms) (hc : vwCl[ci]? = some r0) (hcn : r0.1 = M'.1.cls) (he : hs[b]? = some (.inr (ci, fs))) (hcat : (rest.map fun v => v.category).sum ≤ 8) (hY : xk_F d' M' (.ref b :: []) hs (some v) hs') (hlen : hs'.length = hs.length) (kk : xk_X d mc ms M fx out cs ss (pc + 3) ls (v :: rest) hs') : xk_X d mc ms M fx out cs ss pc ls (.ref b :: rest) hs :=
  xk_callV0 hd hlk hcv hin hse hdd hcs hss hc hcn he hcat hY (fun _ _ h => by rw [h.2]; exact hlen) (fun _ _ h => by rw [h.1, h.2]; exact kk)
theorem xk_v0n {M' : xk_M} {d' index b ci : Nat} {fs : List Value} {r0 : vw_C} {hs' : xk_H} {rest : List Value} (hd : decode M.2.1 pc = .ok (.invokevirtual index, 3)) (hlk : Cond.methodLink M.1.cls index M'.1 ∈ xk_WS) (hcv : xk_CV M' 0) (hin : Cond.instanceMethod M'.1 ∈ xk_WS) (hse : Cond.selects M'.1.cls M'.1 M'.1 ∈ xk_WS) (hdd : d' < d) (hcs : cs ≤ mc) (hss : ss ≤ ms) (hc : vwCl[ci]? = some r0) (hcn : r0.1 = M'.1.cls) (he : hs[b]? = some (.inr (ci, fs))) (hcat : (rest.map fun v => v.category).sum ≤ 8) (hY : xk_F d' M' (.ref b :: []) hs none hs') (hlen : hs'.length = hs.length) (kk : xk_X d mc ms M fx out cs ss (pc + 3) ls rest hs') : xk_X d mc ms M fx out cs ss pc ls (.ref b :: rest) hs :=
  xk_callV0 hd hlk hcv hin hse hdd hcs hss hc hcn he hcat hY (fun _ _ h => by rw [h.2]; exact hlen) (fun _ _ h => by rw [h.1, h.2]; exact kk)
theorem xk_v1 {M' : xk_M} {d' index b ci : Nat} {fs : List Value} {r0 : vw_C} {hs' : xk_H} {v : Value} {v0 : Value} {rest : List Value} (hd : decode M.2.1 pc = .ok (.invokevirtual index, 3)) (hlk : Cond.methodLink M.1.cls index M'.1 ∈ xk_WS) (hcv : xk_CV M' 1) (hin : Cond.instanceMethod M'.1 ∈ xk_WS) (hse : Cond.selects M'.1.cls M'.1 M'.1 ∈ xk_WS) (hdd : d' < d) (hcs : cs ≤ mc) (hss : ss ≤ ms) (hc : vwCl[ci]? = some r0) (hcn : r0.1 = M'.1.cls) (he : hs[b]? = some (.inr (ci, fs))) (hcat : (rest.map fun v => v.category).sum ≤ 8) (hY : xk_F d' M' (.ref b :: [v0]) hs (some v) hs') (hlen : hs'.length = hs.length) (kk : xk_X d mc ms M fx out cs ss (pc + 3) ls (v :: rest) hs') : xk_X d mc ms M fx out cs ss pc ls (v0 :: .ref b :: rest) hs :=
  xk_callV1 hd hlk hcv hin hse hdd hcs hss hc hcn he hcat hY (fun _ _ h => by rw [h.2]; exact hlen) (fun _ _ h => by rw [h.1, h.2]; exact kk)
theorem xk_v1n {M' : xk_M} {d' index b ci : Nat} {fs : List Value} {r0 : vw_C} {hs' : xk_H} {v0 : Value} {rest : List Value} (hd : decode M.2.1 pc = .ok (.invokevirtual index, 3)) (hlk : Cond.methodLink M.1.cls index M'.1 ∈ xk_WS) (hcv : xk_CV M' 1) (hin : Cond.instanceMethod M'.1 ∈ xk_WS) (hse : Cond.selects M'.1.cls M'.1 M'.1 ∈ xk_WS) (hdd : d' < d) (hcs : cs ≤ mc) (hss : ss ≤ ms) (hc : vwCl[ci]? = some r0) (hcn : r0.1 = M'.1.cls) (he : hs[b]? = some (.inr (ci, fs))) (hcat : (rest.map fun v => v.category).sum ≤ 8) (hY : xk_F d' M' (.ref b :: [v0]) hs none hs') (hlen : hs'.length = hs.length) (kk : xk_X d mc ms M fx out cs ss (pc + 3) ls rest hs') : xk_X d mc ms M fx out cs ss pc ls (v0 :: .ref b :: rest) hs :=
  xk_callV1 hd hlk hcv hin hse hdd hcs hss hc hcn he hcat hY (fun _ _ h => by rw [h.2]; exact hlen) (fun _ _ h => by rw [h.1, h.2]; exact kk)
theorem xk_v2 {M' : xk_M} {d' index b ci : Nat} {fs : List Value} {r0 : vw_C} {hs' : xk_H} {v : Value} {v0 v1 : Value} {rest : List Value} (hd : decode M.2.1 pc = .ok (.invokevirtual index, 3)) (hlk : Cond.methodLink M.1.cls index M'.1 ∈ xk_WS) (hcv : xk_CV M' 2) (hin : Cond.instanceMethod M'.1 ∈ xk_WS) (hse : Cond.selects M'.1.cls M'.1 M'.1 ∈ xk_WS) (hdd : d' < d) (hcs : cs ≤ mc) (hss : ss ≤ ms) (hc : vwCl[ci]? = some r0) (hcn : r0.1 = M'.1.cls) (he : hs[b]? = some (.inr (ci, fs))) (hcat : (rest.map fun v => v.category).sum ≤ 8) (hY : xk_F d' M' (.ref b :: [v0, v1]) hs (some v) hs') (hlen : hs'.length = hs.length) (kk : xk_X d mc ms M fx out cs ss (pc + 3) ls (v :: rest) hs') : xk_X d mc ms M fx out cs ss pc ls (v1 :: v0 :: .ref b :: rest) hs :=
  xk_callV2 hd hlk hcv hin hse hdd hcs hss hc hcn he hcat hY (fun _ _ h => by rw [h.2]; exact hlen) (fun _ _ h => by rw [h.1, h.2]; exact kk)
theorem xk_v2n {M' : xk_M} {d' index b ci : Nat} {fs : List Value} {r0 : vw_C} {hs' : xk_H} {v0 v1 : Value} {rest : List Value} (hd : decode M.2.1 pc = .ok (.invokevirtual index, 3)) (hlk : Cond.methodLink M.1.cls index M'.1 ∈ xk_WS) (hcv : xk_CV M' 2) (hin : Cond.instanceMethod M'.1 ∈ xk_WS) (hse : Cond.selects M'.1.cls M'.1 M'.1 ∈ xk_WS) (hdd : d' < d) (hcs : cs ≤ mc) (hss : ss ≤ ms) (hc : vwCl[ci]? = some r0) (hcn : r0.1 = M'.1.cls) (he : hs[b]? = some (.inr (ci, fs))) (hcat : (rest.map fun v => v.category).sum ≤ 8) (hY : xk_F d' M' (.ref b :: [v0, v1]) hs none hs') (hlen : hs'.length = hs.length) (kk : xk_X d mc ms M fx out cs ss (pc + 3) ls rest hs') : xk_X d mc ms M fx out cs ss pc ls (v1 :: v0 :: .ref b :: rest) hs :=
  xk_callV2 hd hlk hcv hin hse hdd hcs hss hc hcn he hcat hY (fun _ _ h => by rw [h.2]; exact hlen) (fun _ _ h => by rw [h.1, h.2]; exact kk)
theorem xk_v3 {M' : xk_M} {d' index b ci : Nat} {fs : List Value} {r0 : vw_C} {hs' : xk_H} {v : Value} {v0 v1 v2 : Value} {rest : List Value} (hd : decode M.2.1 pc = .ok (.invokevirtual index, 3)) (hlk : Cond.methodLink M.1.cls index M'.1 ∈ xk_WS) (hcv : xk_CV M' 3) (hin : Cond.instanceMethod M'.1 ∈ xk_WS) (hse : Cond.selects M'.1.cls M'.1 M'.1 ∈ xk_WS) (hdd : d' < d) (hcs : cs ≤ mc) (hss : ss ≤ ms) (hc : vwCl[ci]? = some r0) (hcn : r0.1 = M'.1.cls) (he : hs[b]? = some (.inr (ci, fs))) (hcat : (rest.map fun v => v.category).sum ≤ 8) (hY : xk_F d' M' (.ref b :: [v0, v1, v2]) hs (some v) hs') (hlen : hs'.length = hs.length) (kk : xk_X d mc ms M fx out cs ss (pc + 3) ls (v :: rest) hs') : xk_X d mc ms M fx out cs ss pc ls (v2 :: v1 :: v0 :: .ref b :: rest) hs :=
  xk_callV3 hd hlk hcv hin hse hdd hcs hss hc hcn he hcat hY (fun _ _ h => by rw [h.2]; exact hlen) (fun _ _ h => by rw [h.1, h.2]; exact kk)
theorem xk_v3n {M' : xk_M} {d' index b ci : Nat} {fs : List Value} {r0 : vw_C} {hs' : xk_H} {v0 v1 v2 : Value} {rest : List Value} (hd : decode M.2.1 pc = .ok (.invokevirtual index, 3)) (hlk : Cond.methodLink M.1.cls index M'.1 ∈ xk_WS) (hcv : xk_CV M' 3) (hin : Cond.instanceMethod M'.1 ∈ xk_WS) (hse : Cond.selects M'.1.cls M'.1 M'.1 ∈ xk_WS) (hdd : d' < d) (hcs : cs ≤ mc) (hss : ss ≤ ms) (hc : vwCl[ci]? = some r0) (hcn : r0.1 = M'.1.cls) (he : hs[b]? = some (.inr (ci, fs))) (hcat : (rest.map fun v => v.category).sum ≤ 8) (hY : xk_F d' M' (.ref b :: [v0, v1, v2]) hs none hs') (hlen : hs'.length = hs.length) (kk : xk_X d mc ms M fx out cs ss (pc + 3) ls rest hs') : xk_X d mc ms M fx out cs ss pc ls (v2 :: v1 :: v0 :: .ref b :: rest) hs :=
  xk_callV3 hd hlk hcv hin hse hdd hcs hss hc hcn he hcat hY (fun _ _ h => by rw [h.2]; exact hlen) (fun _ _ h => by rw [h.1, h.2]; exact kk)
theorem xk_v4 {M' : xk_M} {d' index b ci : Nat} {fs : List Value} {r0 : vw_C} {hs' : xk_H} {v : Value} {v0 v1 v2 v3 : Value} {rest : List Value} (hd : decode M.2.1 pc = .ok (.invokevirtual index, 3)) (hlk : Cond.methodLink M.1.cls index M'.1 ∈ xk_WS) (hcv : xk_CV M' 4) (hin : Cond.instanceMethod M'.1 ∈ xk_WS) (hse : Cond.selects M'.1.cls M'.1 M'.1 ∈ xk_WS) (hdd : d' < d) (hcs : cs ≤ mc) (hss : ss ≤ ms) (hc : vwCl[ci]? = some r0) (hcn : r0.1 = M'.1.cls) (he : hs[b]? = some (.inr (ci, fs))) (hcat : (rest.map fun v => v.category).sum ≤ 8) (hY : xk_F d' M' (.ref b :: [v0, v1, v2, v3]) hs (some v) hs') (hlen : hs'.length = hs.length) (kk : xk_X d mc ms M fx out cs ss (pc + 3) ls (v :: rest) hs') : xk_X d mc ms M fx out cs ss pc ls (v3 :: v2 :: v1 :: v0 :: .ref b :: rest) hs :=
  xk_callV4 hd hlk hcv hin hse hdd hcs hss hc hcn he hcat hY (fun _ _ h => by rw [h.2]; exact hlen) (fun _ _ h => by rw [h.1, h.2]; exact kk)
theorem xk_v4n {M' : xk_M} {d' index b ci : Nat} {fs : List Value} {r0 : vw_C} {hs' : xk_H} {v0 v1 v2 v3 : Value} {rest : List Value} (hd : decode M.2.1 pc = .ok (.invokevirtual index, 3)) (hlk : Cond.methodLink M.1.cls index M'.1 ∈ xk_WS) (hcv : xk_CV M' 4) (hin : Cond.instanceMethod M'.1 ∈ xk_WS) (hse : Cond.selects M'.1.cls M'.1 M'.1 ∈ xk_WS) (hdd : d' < d) (hcs : cs ≤ mc) (hss : ss ≤ ms) (hc : vwCl[ci]? = some r0) (hcn : r0.1 = M'.1.cls) (he : hs[b]? = some (.inr (ci, fs))) (hcat : (rest.map fun v => v.category).sum ≤ 8) (hY : xk_F d' M' (.ref b :: [v0, v1, v2, v3]) hs none hs') (hlen : hs'.length = hs.length) (kk : xk_X d mc ms M fx out cs ss (pc + 3) ls rest hs') : xk_X d mc ms M fx out cs ss pc ls (v3 :: v2 :: v1 :: v0 :: .ref b :: rest) hs :=
  xk_callV4 hd hlk hcv hin hse hdd hcs hss hc hcn he hcat hY (fun _ _ h => by rw [h.2]; exact hlen) (fun _ _ h => by rw [h.1, h.2]; exact kk)
theorem xk_v5 {M' : xk_M} {d' index b ci : Nat} {fs : List Value} {r0 : vw_C} {hs' : xk_H} {v : Value} {v0 v1 v2 v3 v4 : Value} {rest : List Value} (hd : decode M.2.1 pc = .ok (.invokevirtual index, 3)) (hlk : Cond.methodLink M.1.cls index M'.1 ∈ xk_WS) (hcv : xk_CV M' 5) (hin : Cond.instanceMethod M'.1 ∈ xk_WS) (hse : Cond.selects M'.1.cls M'.1 M'.1 ∈ xk_WS) (hdd : d' < d) (hcs : cs ≤ mc) (hss : ss ≤ ms) (hc : vwCl[ci]? = some r0) (hcn : r0.1 = M'.1.cls) (he : hs[b]? = some (.inr (ci, fs))) (hcat : (rest.map fun v => v.category).sum ≤ 8) (hY : xk_F d' M' (.ref b :: [v0, v1, v2, v3, v4]) hs (some v) hs') (hlen : hs'.length = hs.length) (kk : xk_X d mc ms M fx out cs ss (pc + 3) ls (v :: rest) hs') : xk_X d mc ms M fx out cs ss pc ls (v4 :: v3 :: v2 :: v1 :: v0 :: .ref b :: rest) hs :=
  xk_callV5 hd hlk hcv hin hse hdd hcs hss hc hcn he hcat hY (fun _ _ h => by rw [h.2]; exact hlen) (fun _ _ h => by rw [h.1, h.2]; exact kk)
theorem xk_v5n {M' : xk_M} {d' index b ci : Nat} {fs : List Value} {r0 : vw_C} {hs' : xk_H} {v0 v1 v2 v3 v4 : Value} {rest : List Value} (hd : decode M.2.1 pc = .ok (.invokevirtual index, 3)) (hlk : Cond.methodLink M.1.cls index M'.1 ∈ xk_WS) (hcv : xk_CV M' 5) (hin : Cond.instanceMethod M'.1 ∈ xk_WS) (hse : Cond.selects M'.1.cls M'.1 M'.1 ∈ xk_WS) (hdd : d' < d) (hcs : cs ≤ mc) (hss : ss ≤ ms) (hc : vwCl[ci]? = some r0) (hcn : r0.1 = M'.1.cls) (he : hs[b]? = some (.inr (ci, fs))) (hcat : (rest.map fun v => v.category).sum ≤ 8) (hY : xk_F d' M' (.ref b :: [v0, v1, v2, v3, v4]) hs none hs') (hlen : hs'.length = hs.length) (kk : xk_X d mc ms M fx out cs ss (pc + 3) ls rest hs') : xk_X d mc ms M fx out cs ss pc ls (v4 :: v3 :: v2 :: v1 :: v0 :: .ref b :: rest) hs :=
  xk_callV5 hd hlk hcv hin hse hdd hcs hss hc hcn he hcat hY (fun _ _ h => by rw [h.2]; exact hlen) (fun _ _ h => by rw [h.1, h.2]; exact kk)
theorem xk_v6 {M' : xk_M} {d' index b ci : Nat} {fs : List Value} {r0 : vw_C} {hs' : xk_H} {v : Value} {v0 v1 v2 v3 v4 v5 : Value} {rest : List Value} (hd : decode M.2.1 pc = .ok (.invokevirtual index, 3)) (hlk : Cond.methodLink M.1.cls index M'.1 ∈ xk_WS) (hcv : xk_CV M' 6) (hin : Cond.instanceMethod M'.1 ∈ xk_WS) (hse : Cond.selects M'.1.cls M'.1 M'.1 ∈ xk_WS) (hdd : d' < d) (hcs : cs ≤ mc) (hss : ss ≤ ms) (hc : vwCl[ci]? = some r0) (hcn : r0.1 = M'.1.cls) (he : hs[b]? = some (.inr (ci, fs))) (hcat : (rest.map fun v => v.category).sum ≤ 8) (hY : xk_F d' M' (.ref b :: [v0, v1, v2, v3, v4, v5]) hs (some v) hs') (hlen : hs'.length = hs.length) (kk : xk_X d mc ms M fx out cs ss (pc + 3) ls (v :: rest) hs') : xk_X d mc ms M fx out cs ss pc ls (v5 :: v4 :: v3 :: v2 :: v1 :: v0 :: .ref b :: rest) hs :=
  xk_callV6 hd hlk hcv hin hse hdd hcs hss hc hcn he hcat hY (fun _ _ h => by rw [h.2]; exact hlen) (fun _ _ h => by rw [h.1, h.2]; exact kk)
theorem xk_v6n {M' : xk_M} {d' index b ci : Nat} {fs : List Value} {r0 : vw_C} {hs' : xk_H} {v0 v1 v2 v3 v4 v5 : Value} {rest : List Value} (hd : decode M.2.1 pc = .ok (.invokevirtual index, 3)) (hlk : Cond.methodLink M.1.cls index M'.1 ∈ xk_WS) (hcv : xk_CV M' 6) (hin : Cond.instanceMethod M'.1 ∈ xk_WS) (hse : Cond.selects M'.1.cls M'.1 M'.1 ∈ xk_WS) (hdd : d' < d) (hcs : cs ≤ mc) (hss : ss ≤ ms) (hc : vwCl[ci]? = some r0) (hcn : r0.1 = M'.1.cls) (he : hs[b]? = some (.inr (ci, fs))) (hcat : (rest.map fun v => v.category).sum ≤ 8) (hY : xk_F d' M' (.ref b :: [v0, v1, v2, v3, v4, v5]) hs none hs') (hlen : hs'.length = hs.length) (kk : xk_X d mc ms M fx out cs ss (pc + 3) ls rest hs') : xk_X d mc ms M fx out cs ss pc ls (v5 :: v4 :: v3 :: v2 :: v1 :: v0 :: .ref b :: rest) hs :=
  xk_callV6 hd hlk hcv hin hse hdd hcs hss hc hcn he hcat hY (fun _ _ h => by rw [h.2]; exact hlen) (fun _ _ h => by rw [h.1, h.2]; exact kk)
theorem xk_s0c {M' : xk_M} {d' index : Nat} {hs' : xk_H} {v : Value} {rest : List Value} (hd : decode M.2.1 pc = .ok (.invokestatic index, 3)) (hlk : Cond.methodLink M.1.cls index M'.1 ∈ xk_WS) (hcv : xk_CV M' 0) (hst : Cond.static M'.1 ∈ xk_WS) (hdd : d' < d) (hcs : cs ≤ mc) (hss : ss ≤ ms) (hcat : (rest.map fun v => v.category).sum ≤ 8) (hY : xk_F d' M' [] hs (some v) hs') (hlen : hs'.length = hs.length) (kk : xk_X d mc ms M fx out cs ss (pc + 3) ls (v :: rest) hs') : xk_X d mc ms M fx out cs ss pc ls (rest) hs :=
  xk_callS0 hd hlk hcv hst hdd hcs hss hcat hY (fun _ _ h => by rw [h.2]; exact hlen) (fun _ _ h => by rw [h.1, h.2]; exact kk)
theorem xk_s0nc {M' : xk_M} {d' index : Nat} {hs' : xk_H} {rest : List Value} (hd : decode M.2.1 pc = .ok (.invokestatic index, 3)) (hlk : Cond.methodLink M.1.cls index M'.1 ∈ xk_WS) (hcv : xk_CV M' 0) (hst : Cond.static M'.1 ∈ xk_WS) (hdd : d' < d) (hcs : cs ≤ mc) (hss : ss ≤ ms) (hcat : (rest.map fun v => v.category).sum ≤ 8) (hY : xk_F d' M' [] hs none hs') (hlen : hs'.length = hs.length) (kk : xk_X d mc ms M fx out cs ss (pc + 3) ls rest hs') : xk_X d mc ms M fx out cs ss pc ls (rest) hs :=
  xk_callS0 hd hlk hcv hst hdd hcs hss hcat hY (fun _ _ h => by rw [h.2]; exact hlen) (fun _ _ h => by rw [h.1, h.2]; exact kk)
theorem xk_s1c {M' : xk_M} {d' index : Nat} {hs' : xk_H} {v : Value} {v0 : Value} {rest : List Value} (hd : decode M.2.1 pc = .ok (.invokestatic index, 3)) (hlk : Cond.methodLink M.1.cls index M'.1 ∈ xk_WS) (hcv : xk_CV M' 1) (hst : Cond.static M'.1 ∈ xk_WS) (hdd : d' < d) (hcs : cs ≤ mc) (hss : ss ≤ ms) (hcat : (rest.map fun v => v.category).sum ≤ 8) (hY : xk_F d' M' [v0] hs (some v) hs') (hlen : hs'.length = hs.length) (kk : xk_X d mc ms M fx out cs ss (pc + 3) ls (v :: rest) hs') : xk_X d mc ms M fx out cs ss pc ls (v0 :: rest) hs :=
  xk_callS1 hd hlk hcv hst hdd hcs hss hcat hY (fun _ _ h => by rw [h.2]; exact hlen) (fun _ _ h => by rw [h.1, h.2]; exact kk)
theorem xk_s1nc {M' : xk_M} {d' index : Nat} {hs' : xk_H} {v0 : Value} {rest : List Value} (hd : decode M.2.1 pc = .ok (.invokestatic index, 3)) (hlk : Cond.methodLink M.1.cls index M'.1 ∈ xk_WS) (hcv : xk_CV M' 1) (hst : Cond.static M'.1 ∈ xk_WS) (hdd : d' < d) (hcs : cs ≤ mc) (hss : ss ≤ ms) (hcat : (rest.map fun v => v.category).sum ≤ 8) (hY : xk_F d' M' [v0] hs none hs') (hlen : hs'.length = hs.length) (kk : xk_X d mc ms M fx out cs ss (pc + 3) ls rest hs') : xk_X d mc ms M fx out cs ss pc ls (v0 :: rest) hs :=
  xk_callS1 hd hlk hcv hst hdd hcs hss hcat hY (fun _ _ h => by rw [h.2]; exact hlen) (fun _ _ h => by rw [h.1, h.2]; exact kk)
theorem xk_s2c {M' : xk_M} {d' index : Nat} {hs' : xk_H} {v : Value} {v0 v1 : Value} {rest : List Value} (hd : decode M.2.1 pc = .ok (.invokestatic index, 3)) (hlk : Cond.methodLink M.1.cls index M'.1 ∈ xk_WS) (hcv : xk_CV M' 2) (hst : Cond.static M'.1 ∈ xk_WS) (hdd : d' < d) (hcs : cs ≤ mc) (hss : ss ≤ ms) (hcat : (rest.map fun v => v.category).sum ≤ 8) (hY : xk_F d' M' [v0, v1] hs (some v) hs') (hlen : hs'.length = hs.length) (kk : xk_X d mc ms M fx out cs ss (pc + 3) ls (v :: rest) hs') : xk_X d mc ms M fx out cs ss pc ls (v1 :: v0 :: rest) hs :=
  xk_callS2 hd hlk hcv hst hdd hcs hss hcat hY (fun _ _ h => by rw [h.2]; exact hlen) (fun _ _ h => by rw [h.1, h.2]; exact kk)
theorem xk_s2nc {M' : xk_M} {d' index : Nat} {hs' : xk_H} {v0 v1 : Value} {rest : List Value} (hd : decode M.2.1 pc = .ok (.invokestatic index, 3)) (hlk : Cond.methodLink M.1.cls index M'.1 ∈ xk_WS) (hcv : xk_CV M' 2) (hst : Cond.static M'.1 ∈ xk_WS) (hdd : d' < d) (hcs : cs ≤ mc) (hss : ss ≤ ms) (hcat : (rest.map fun v => v.category).sum ≤ 8) (hY : xk_F d' M' [v0, v1] hs none hs') (hlen : hs'.length = hs.length) (kk : xk_X d mc ms M fx out cs ss (pc + 3) ls rest hs') : xk_X d mc ms M fx out cs ss pc ls (v1 :: v0 :: rest) hs :=
  xk_callS2 hd hlk hcv hst hdd hcs hss hcat hY (fun _ _ h => by rw [h.2]; exact hlen) (fun _ _ h => by rw [h.1, h.2]; exact kk)
theorem xk_s3c {M' : xk_M} {d' index : Nat} {hs' : xk_H} {v : Value} {v0 v1 v2 : Value} {rest : List Value} (hd : decode M.2.1 pc = .ok (.invokestatic index, 3)) (hlk : Cond.methodLink M.1.cls index M'.1 ∈ xk_WS) (hcv : xk_CV M' 3) (hst : Cond.static M'.1 ∈ xk_WS) (hdd : d' < d) (hcs : cs ≤ mc) (hss : ss ≤ ms) (hcat : (rest.map fun v => v.category).sum ≤ 8) (hY : xk_F d' M' [v0, v1, v2] hs (some v) hs') (hlen : hs'.length = hs.length) (kk : xk_X d mc ms M fx out cs ss (pc + 3) ls (v :: rest) hs') : xk_X d mc ms M fx out cs ss pc ls (v2 :: v1 :: v0 :: rest) hs :=
  xk_callS3 hd hlk hcv hst hdd hcs hss hcat hY (fun _ _ h => by rw [h.2]; exact hlen) (fun _ _ h => by rw [h.1, h.2]; exact kk)
theorem xk_s3nc {M' : xk_M} {d' index : Nat} {hs' : xk_H} {v0 v1 v2 : Value} {rest : List Value} (hd : decode M.2.1 pc = .ok (.invokestatic index, 3)) (hlk : Cond.methodLink M.1.cls index M'.1 ∈ xk_WS) (hcv : xk_CV M' 3) (hst : Cond.static M'.1 ∈ xk_WS) (hdd : d' < d) (hcs : cs ≤ mc) (hss : ss ≤ ms) (hcat : (rest.map fun v => v.category).sum ≤ 8) (hY : xk_F d' M' [v0, v1, v2] hs none hs') (hlen : hs'.length = hs.length) (kk : xk_X d mc ms M fx out cs ss (pc + 3) ls rest hs') : xk_X d mc ms M fx out cs ss pc ls (v2 :: v1 :: v0 :: rest) hs :=
  xk_callS3 hd hlk hcv hst hdd hcs hss hcat hY (fun _ _ h => by rw [h.2]; exact hlen) (fun _ _ h => by rw [h.1, h.2]; exact kk)
theorem xk_s4c {M' : xk_M} {d' index : Nat} {hs' : xk_H} {v : Value} {v0 v1 v2 v3 : Value} {rest : List Value} (hd : decode M.2.1 pc = .ok (.invokestatic index, 3)) (hlk : Cond.methodLink M.1.cls index M'.1 ∈ xk_WS) (hcv : xk_CV M' 4) (hst : Cond.static M'.1 ∈ xk_WS) (hdd : d' < d) (hcs : cs ≤ mc) (hss : ss ≤ ms) (hcat : (rest.map fun v => v.category).sum ≤ 8) (hY : xk_F d' M' [v0, v1, v2, v3] hs (some v) hs') (hlen : hs'.length = hs.length) (kk : xk_X d mc ms M fx out cs ss (pc + 3) ls (v :: rest) hs') : xk_X d mc ms M fx out cs ss pc ls (v3 :: v2 :: v1 :: v0 :: rest) hs :=
  xk_callS4 hd hlk hcv hst hdd hcs hss hcat hY (fun _ _ h => by rw [h.2]; exact hlen) (fun _ _ h => by rw [h.1, h.2]; exact kk)
theorem xk_s4nc {M' : xk_M} {d' index : Nat} {hs' : xk_H} {v0 v1 v2 v3 : Value} {rest : List Value} (hd : decode M.2.1 pc = .ok (.invokestatic index, 3)) (hlk : Cond.methodLink M.1.cls index M'.1 ∈ xk_WS) (hcv : xk_CV M' 4) (hst : Cond.static M'.1 ∈ xk_WS) (hdd : d' < d) (hcs : cs ≤ mc) (hss : ss ≤ ms) (hcat : (rest.map fun v => v.category).sum ≤ 8) (hY : xk_F d' M' [v0, v1, v2, v3] hs none hs') (hlen : hs'.length = hs.length) (kk : xk_X d mc ms M fx out cs ss (pc + 3) ls rest hs') : xk_X d mc ms M fx out cs ss pc ls (v3 :: v2 :: v1 :: v0 :: rest) hs :=
  xk_callS4 hd hlk hcv hst hdd hcs hss hcat hY (fun _ _ h => by rw [h.2]; exact hlen) (fun _ _ h => by rw [h.1, h.2]; exact kk)
end XKF
abbrev mL_cell : xk_M := (yL_cell, cL_cell, 2, (some .int))
theorem cv_L_cell : xk_CV mL_cell 2 := ⟨wc_L_cell, wn_L, by decide +kernel, by decide +kernel, by decide⟩
abbrev mX8_init : xk_M := (yX8_init, cX8_init, 2, none)
theorem cv_X8_init : xk_CV mX8_init 1 := ⟨wc_X8_init, wn_X8, by decide +kernel, by decide +kernel, by decide⟩
abbrev mX5_init : xk_M := (yX5_init, cX5_init, 3, none)
theorem cv_X5_init : xk_CV mX5_init 1 := ⟨wc_X5_init, wn_X5, by decide +kernel, by decide +kernel, by decide⟩
abbrev mJ7_fill_d0a16 : xk_M := (yJ7_fill_d0a16, cJ7_fill_d0a16, 5, none)
theorem cv_J7_fill_d0a16 : xk_CV mJ7_fill_d0a16 2 := ⟨wc_J7_fill_d0a16, wn_J7, by decide +kernel, by decide +kernel, by decide⟩
abbrev mX7_init : xk_M := (yX7_init, cX7_init, 2, none)
theorem cv_X7_init : xk_CV mX7_init 1 := ⟨wc_X7_init, wn_X7, by decide +kernel, by decide +kernel, by decide⟩
abbrev mX3_init : xk_M := (yX3_init, cX3_init, 2, none)
theorem cv_X3_init : xk_CV mX3_init 1 := ⟨wc_X3_init, wn_X3, by decide +kernel, by decide +kernel, by decide⟩
abbrev mX6_init : xk_M := (yX6_init, cX6_init, 2, none)
theorem cv_X6_init : xk_CV mX6_init 1 := ⟨wc_X6_init, wn_X6, by decide +kernel, by decide +kernel, by decide⟩
abbrev mX2_init : xk_M := (yX2_init, cX2_init, 5, none)
theorem cv_X2_init : xk_CV mX2_init 1 := ⟨wc_X2_init, wn_X2, by decide +kernel, by decide +kernel, by decide⟩
abbrev mX4_init : xk_M := (yX4_init, cX4_init, 1, none)
theorem cv_X4_init : xk_CV mX4_init 0 := ⟨wc_X4_init, wn_X4, by decide +kernel, by decide +kernel, by decide⟩
abbrev mX0_init : xk_M := (yX0_init, cX0_init, 1, none)
theorem cv_X0_init : xk_CV mX0_init 0 := ⟨wc_X0_init, wn_X0, by decide +kernel, by decide +kernel, by decide⟩
abbrev mX9_init : xk_M := (yX9_init, cX9_init, 5, none)
theorem cv_X9_init : xk_CV mX9_init 1 := ⟨wc_X9_init, wn_X9, by decide +kernel, by decide +kernel, by decide⟩
abbrev mX8_say : xk_M := (yX8_say, cX8_say, 7, (some .boolean))
theorem cv_X8_say : xk_CV mX8_say 4 := ⟨wc_X8_say, wn_X8, by decide +kernel, by decide +kernel, by decide⟩
abbrev mX5_isPair : xk_M := (yX5_isPair, cX5_isPair, 3, (some .boolean))
theorem cv_X5_isPair : xk_CV mX5_isPair 2 := ⟨wc_X5_isPair, wn_X5, by decide +kernel, by decide +kernel, by decide⟩
abbrev mX5_isThing : xk_M := (yX5_isThing, cX5_isThing, 2, (some .boolean))
theorem cv_X5_isThing : xk_CV mX5_isThing 1 := ⟨wc_X5_isThing, wn_X5, by decide +kernel, by decide +kernel, by decide⟩
abbrev mX8_isDigit : xk_M := (yX8_isDigit, cX8_isDigit, 1, (some .boolean))
theorem cv_X8_isDigit : xk_CV mX8_isDigit 1 := ⟨wc_X8_isDigit, wn_X8, by decide +kernel, by decide +kernel, by decide⟩
abbrev mX1_of : xk_M := (yX1_of, cX1_of, 4, (some .long))
theorem cv_X1_of : xk_CV mX1_of 2 := ⟨wc_X1_of, wn_X1, by decide +kernel, by decide +kernel, by decide⟩
abbrev mX5_put : xk_M := (yX5_put, cX5_put, 7, none)
theorem cv_X5_put : xk_CV mX5_put 4 := ⟨wc_X5_put, wn_X5, by decide +kernel, by decide +kernel, by decide⟩
abbrev mX5_holds : xk_M := (yX5_holds, cX5_holds, 3, (some .boolean))
theorem cv_X5_holds : xk_CV mX5_holds 2 := ⟨wc_X5_holds, wn_X5, by decide +kernel, by decide +kernel, by decide⟩
abbrev mX1_inverse : xk_M := (yX1_inverse, cX1_inverse, 2, (some .long))
theorem cv_X1_inverse : xk_CV mX1_inverse 1 := ⟨wc_X1_inverse, wn_X1, by decide +kernel, by decide +kernel, by decide⟩
abbrev mX1_bottom : xk_M := (yX1_bottom, cX1_bottom, 2, (some .long))
theorem cv_X1_bottom : xk_CV mX1_bottom 1 := ⟨wc_X1_bottom, wn_X1, by decide +kernel, by decide +kernel, by decide⟩
abbrev mX1_top : xk_M := (yX1_top, cX1_top, 2, (some .long))
theorem cv_X1_top : xk_CV mX1_top 1 := ⟨wc_X1_top, wn_X1, by decide +kernel, by decide +kernel, by decide⟩
abbrev mX9_say : xk_M := (yX9_say, cX9_say, 7, (some .boolean))
theorem cv_X9_say : xk_CV mX9_say 4 := ⟨wc_X9_say, wn_X9, by decide +kernel, by decide +kernel, by decide⟩
abbrev mX9_areTwo : xk_M := (yX9_areTwo, cX9_areTwo, 3, (some .boolean))
theorem cv_X9_areTwo : xk_CV mX9_areTwo 2 := ⟨wc_X9_areTwo, wn_X9, by decide +kernel, by decide +kernel, by decide⟩
abbrev mX9_in : xk_M := (yX9_in, cX9_in, 3, (some .boolean))
theorem cv_X9_in : xk_CV mX9_in 3 := ⟨wc_X9_in, wn_X9, by decide +kernel, by decide +kernel, by decide⟩
abbrev mX9_divisor : xk_M := (yX9_divisor, cX9_divisor, 10, (some .long))
theorem cv_X9_divisor : xk_CV mX9_divisor 2 := ⟨wc_X9_divisor, wn_X9, by decide +kernel, by decide +kernel, by decide⟩
abbrev mX9_pair : xk_M := (yX9_pair, cX9_pair, 6, (some .int))
theorem cv_X9_pair : xk_CV mX9_pair 2 := ⟨wc_X9_pair, wn_X9, by decide +kernel, by decide +kernel, by decide⟩
abbrev mX8_unsay : xk_M := (yX8_unsay, cX8_unsay, 3, (some .boolean))
theorem cv_X8_unsay : xk_CV mX8_unsay 2 := ⟨wc_X8_unsay, wn_X8, by decide +kernel, by decide +kernel, by decide⟩
abbrev mX5_drop : xk_M := (yX5_drop, cX5_drop, 3, (some .boolean))
theorem cv_X5_drop : xk_CV mX5_drop 2 := ⟨wc_X5_drop, wn_X5, by decide +kernel, by decide +kernel, by decide⟩
abbrev mX9_unsay : xk_M := (yX9_unsay, cX9_unsay, 3, (some .boolean))
theorem cv_X9_unsay : xk_CV mX9_unsay 2 := ⟨wc_X9_unsay, wn_X9, by decide +kernel, by decide +kernel, by decide⟩
abbrev mX8_said : xk_M := (yX8_said, cX8_said, 4, (some .int))
theorem cv_X8_said : xk_CV mX8_said 3 := ⟨wc_X8_said, wn_X8, by decide +kernel, by decide +kernel, by decide⟩
abbrev mX8_isPart : xk_M := (yX8_isPart, cX8_isPart, 1, (some .boolean))
theorem cv_X8_isPart : xk_CV mX8_isPart 1 := ⟨wc_X8_isPart, wn_X8, by decide +kernel, by decide +kernel, by decide⟩
abbrev mX5_low : xk_M := (yX5_low, cX5_low, 3, (some .long))
theorem cv_X5_low : xk_CV mX5_low 2 := ⟨wc_X5_low, wn_X5, by decide +kernel, by decide +kernel, by decide⟩
abbrev mX1_part : xk_M := (yX1_part, cX1_part, 7, (some .int))
theorem cv_X1_part : xk_CV mX1_part 2 := ⟨wc_X1_part, wn_X1, by decide +kernel, by decide +kernel, by decide⟩
abbrev mX1_commonDivisor : xk_M := (yX1_commonDivisor, cX1_commonDivisor, 11, (some .long))
theorem cv_X1_commonDivisor : xk_CV mX1_commonDivisor 2 := ⟨wc_X1_commonDivisor, wn_X1, by decide +kernel, by decide +kernel, by decide⟩
abbrev mX9_said : xk_M := (yX9_said, cX9_said, 4, (some .int))
theorem cv_X9_said : xk_CV mX9_said 3 := ⟨wc_X9_said, wn_X9, by decide +kernel, by decide +kernel, by decide⟩
abbrev mX9_isSaid : xk_M := (yX9_isSaid, cX9_isSaid, 3, (some .boolean))
theorem cv_X9_isSaid : xk_CV mX9_isSaid 2 := ⟨wc_X9_isSaid, wn_X9, by decide +kernel, by decide +kernel, by decide⟩
abbrev mX9_topOf : xk_M := (yX9_topOf, cX9_topOf, 3, (some .int))
theorem cv_X9_topOf : xk_CV mX9_topOf 2 := ⟨wc_X9_topOf, wn_X9, by decide +kernel, by decide +kernel, by decide⟩
abbrev mX9_bottomOf : xk_M := (yX9_bottomOf, cX9_bottomOf, 3, (some .int))
theorem cv_X9_bottomOf : xk_CV mX9_bottomOf 2 := ⟨wc_X9_bottomOf, wn_X9, by decide +kernel, by decide +kernel, by decide⟩
abbrev mX8_even : xk_M := (yX8_even, cX8_even, 1, (some .boolean))
theorem cv_X8_even : xk_CV mX8_even 0 := ⟨wc_X8_even, wn_X8, by decide +kernel, by decide +kernel, by decide⟩
abbrev mX3_noneAboveOne : xk_M := (yX3_noneAboveOne, cX3_noneAboveOne, 3, (some .boolean))
theorem cv_X3_noneAboveOne : xk_CV mX3_noneAboveOne 1 := ⟨wc_X3_noneAboveOne, wn_X3, by decide +kernel, by decide +kernel, by decide⟩
abbrev mX3_measure : xk_M := (yX3_measure, cX3_measure, 3, none)
theorem cv_X3_measure : xk_CV mX3_measure 1 := ⟨wc_X3_measure, wn_X3, by decide +kernel, by decide +kernel, by decide⟩
abbrev mX3_extend : xk_M := (yX3_extend, cX3_extend, 11, none)
theorem cv_X3_extend : xk_CV mX3_extend 6 := ⟨wc_X3_extend, wn_X3, by decide +kernel, by decide +kernel, by decide⟩
abbrev mX1_times : xk_M := (yX1_times, cX1_times, 4, (some .long))
theorem cv_X1_times : xk_CV mX1_times 2 := ⟨wc_X1_times, wn_X1, by decide +kernel, by decide +kernel, by decide⟩
abbrev mX3_close : xk_M := (yX3_close, cX3_close, 4, none)
theorem cv_X3_close : xk_CV mX3_close 2 := ⟨wc_X3_close, wn_X3, by decide +kernel, by decide +kernel, by decide⟩
abbrev mX1_isAbove : xk_M := (yX1_isAbove, cX1_isAbove, 4, (some .boolean))
theorem cv_X1_isAbove : xk_CV mX1_isAbove 2 := ⟨wc_X1_isAbove, wn_X1, by decide +kernel, by decide +kernel, by decide⟩
abbrev mX9_even : xk_M := (yX9_even, cX9_even, 1, (some .boolean))
theorem cv_X9_even : xk_CV mX9_even 0 := ⟨wc_X9_even, wn_X9, by decide +kernel, by decide +kernel, by decide⟩
abbrev mX9_all : xk_M := (yX9_all, cX9_all, 3, (some .int))
theorem cv_X9_all : xk_CV mX9_all 0 := ⟨wc_X9_all, wn_X9, by decide +kernel, by decide +kernel, by decide⟩
abbrev mX9_fits : xk_M := (yX9_fits, cX9_fits, 14, (some .boolean))
theorem cv_X9_fits : xk_CV mX9_fits 1 := ⟨wc_X9_fits, wn_X9, by decide +kernel, by decide +kernel, by decide⟩
abbrev mX8_worst : xk_M := (yX8_worst, cX8_worst, 2, (some .int))
theorem cv_X8_worst : xk_CV mX8_worst 1 := ⟨wc_X8_worst, wn_X8, by decide +kernel, by decide +kernel, by decide⟩
abbrev mX7_find : xk_M := (yX7_find, cX7_find, 5, none)
theorem cv_X7_find : xk_CV mX7_find 1 := ⟨wc_X7_find, wn_X7, by decide +kernel, by decide +kernel, by decide⟩
abbrev mX7_compare : xk_M := (yX7_compare, cX7_compare, 7, none)
theorem cv_X7_compare : xk_CV mX7_compare 4 := ⟨wc_X7_compare, wn_X7, by decide +kernel, by decide +kernel, by decide⟩
abbrev mX7_offOf : xk_M := (yX7_offOf, cX7_offOf, 6, (some .long))
theorem cv_X7_offOf : xk_CV mX7_offOf 4 := ⟨wc_X7_offOf, wn_X7, by decide +kernel, by decide +kernel, by decide⟩
abbrev mX9_worst : xk_M := (yX9_worst, cX9_worst, 2, (some .int))
theorem cv_X9_worst : xk_CV mX9_worst 1 := ⟨wc_X9_worst, wn_X9, by decide +kernel, by decide +kernel, by decide⟩
abbrev mX9_findsWorst : xk_M := (yX9_findsWorst, cX9_findsWorst, 10, (some .boolean))
theorem cv_X9_findsWorst : xk_CV mX9_findsWorst 0 := ⟨wc_X9_findsWorst, wn_X9, by decide +kernel, by decide +kernel, by decide⟩
abbrev mX8_trees : xk_M := (yX8_trees, cX8_trees, 1, (some .int))
theorem cv_X8_trees : xk_CV mX8_trees 0 := ⟨wc_X8_trees, wn_X8, by decide +kernel, by decide +kernel, by decide⟩
abbrev mX6_of : xk_M := (yX6_of, cX6_of, 5, (some .int))
theorem cv_X6_of : xk_CV mX6_of 1 := ⟨wc_X6_of, wn_X6, by decide +kernel, by decide +kernel, by decide⟩
abbrev mX6_fill : xk_M := (yX6_fill, cX6_fill, 6, none)
theorem cv_X6_fill : xk_CV mX6_fill 1 := ⟨wc_X6_fill, wn_X6, by decide +kernel, by decide +kernel, by decide⟩
abbrev mX6_eliminate : xk_M := (yX6_eliminate, cX6_eliminate, 7, none)
theorem cv_X6_eliminate : xk_CV mX6_eliminate 3 := ⟨wc_X6_eliminate, wn_X6, by decide +kernel, by decide +kernel, by decide⟩
abbrev mX9_trees : xk_M := (yX9_trees, cX9_trees, 5, (some .int))
theorem cv_X9_trees : xk_CV mX9_trees 0 := ⟨wc_X9_trees, wn_X9, by decide +kernel, by decide +kernel, by decide⟩
abbrev mJ6_bitCount_0f7a4 : xk_M := (yJ6_bitCount_0f7a4, cJ6_bitCount_0f7a4, 1, (some .int))
theorem cv_J6_bitCount_0f7a4 : xk_CV mJ6_bitCount_0f7a4 1 := ⟨wc_J6_bitCount_0f7a4, wn_J6, by decide +kernel, by decide +kernel, by decide⟩
abbrev mX8_few : xk_M := (yX8_few, cX8_few, 1, (some .int))
theorem cv_X8_few : xk_CV mX8_few 0 := ⟨wc_X8_few, wn_X8, by decide +kernel, by decide +kernel, by decide⟩
abbrev mX2_search : xk_M := (yX2_search, cX2_search, 2, none)
theorem cv_X2_search : xk_CV mX2_search 1 := ⟨wc_X2_search, wn_X2, by decide +kernel, by decide +kernel, by decide⟩
abbrev mX2_settle : xk_M := (yX2_settle, cX2_settle, 11, none)
theorem cv_X2_settle : xk_CV mX2_settle 5 := ⟨wc_X2_settle, wn_X2, by decide +kernel, by decide +kernel, by decide⟩
abbrev mX2_logOf : xk_M := (yX2_logOf, cX2_logOf, 2, (some .int))
theorem cv_X2_logOf : xk_CV mX2_logOf 1 := ⟨wc_X2_logOf, wn_X2, by decide +kernel, by decide +kernel, by decide⟩
abbrev mX2_logOfDigit : xk_M := (yX2_logOfDigit, cX2_logOfDigit, 2, (some .int))
theorem cv_X2_logOfDigit : xk_CV mX2_logOfDigit 1 := ⟨wc_X2_logOfDigit, wn_X2, by decide +kernel, by decide +kernel, by decide⟩
abbrev mX2_join : xk_M := (yX2_join, cX2_join, 10, none)
theorem cv_X2_join : xk_CV mX2_join 4 := ⟨wc_X2_join, wn_X2, by decide +kernel, by decide +kernel, by decide⟩
abbrev mX9_few : xk_M := (yX9_few, cX9_few, 1, (some .int))
theorem cv_X9_few : xk_CV mX9_few 0 := ⟨wc_X9_few, wn_X9, by decide +kernel, by decide +kernel, by decide⟩
abbrev mX9_leastHeap : xk_M := (yX9_leastHeap, cX9_leastHeap, 4, (some .int))
theorem cv_X9_leastHeap : xk_CV mX9_leastHeap 0 := ⟨wc_X9_leastHeap, wn_X9, by decide +kernel, by decide +kernel, by decide⟩
abbrev mX8_left : xk_M := (yX8_left, cX8_left, 1, (some .int))
theorem cv_X8_left : xk_CV mX8_left 0 := ⟨wc_X8_left, wn_X8, by decide +kernel, by decide +kernel, by decide⟩
abbrev mX9_left : xk_M := (yX9_left, cX9_left, 1, (some .int))
theorem cv_X9_left : xk_CV mX9_left 0 := ⟨wc_X9_left, wn_X9, by decide +kernel, by decide +kernel, by decide⟩
abbrev mX8_row : xk_M := (yX8_row, cX8_row, 3, (some .int))
theorem cv_X8_row : xk_CV mX8_row 2 := ⟨wc_X8_row, wn_X8, by decide +kernel, by decide +kernel, by decide⟩
abbrev mX5_isFull : xk_M := (yX5_isFull, cX5_isFull, 1, (some .boolean))
theorem cv_X5_isFull : xk_CV mX5_isFull 0 := ⟨wc_X5_isFull, wn_X5, by decide +kernel, by decide +kernel, by decide⟩
abbrev mX8_productOfRow : xk_M := (yX8_productOfRow, cX8_productOfRow, 5, (some .long))
theorem cv_X8_productOfRow : xk_CV mX8_productOfRow 1 := ⟨wc_X8_productOfRow, wn_X8, by decide +kernel, by decide +kernel, by decide⟩
abbrev mX9_row : xk_M := (yX9_row, cX9_row, 3, (some .int))
theorem cv_X9_row : xk_CV mX9_row 2 := ⟨wc_X9_row, wn_X9, by decide +kernel, by decide +kernel, by decide⟩
abbrev mX9_areAllSaid : xk_M := (yX9_areAllSaid, cX9_areAllSaid, 1, (some .boolean))
theorem cv_X9_areAllSaid : xk_CV mX9_areAllSaid 0 := ⟨wc_X9_areAllSaid, wn_X9, by decide +kernel, by decide +kernel, by decide⟩
abbrev mX9_rowPart : xk_M := (yX9_rowPart, cX9_rowPart, 9, (some .long))
theorem cv_X9_rowPart : xk_CV mX9_rowPart 2 := ⟨wc_X9_rowPart, wn_X9, by decide +kernel, by decide +kernel, by decide⟩
abbrev mX8_order : xk_M := (yX8_order, cX8_order, 7, (some .int))
theorem cv_X8_order : xk_CV mX8_order 2 := ⟨wc_X8_order, wn_X8, by decide +kernel, by decide +kernel, by decide⟩
abbrev mX9_order : xk_M := (yX9_order, cX9_order, 7, (some .int))
theorem cv_X9_order : xk_CV mX9_order 2 := ⟨wc_X9_order, wn_X9, by decide +kernel, by decide +kernel, by decide⟩
abbrev mX8_least : xk_M := (yX8_least, cX8_least, 3, (some .int))
theorem cv_X8_least : xk_CV mX8_least 1 := ⟨wc_X8_least, wn_X8, by decide +kernel, by decide +kernel, by decide⟩
abbrev mX8_sizeOfGreatestRoot : xk_M := (yX8_sizeOfGreatestRoot, cX8_sizeOfGreatestRoot, 5, (some .int))
theorem cv_X8_sizeOfGreatestRoot : xk_CV mX8_sizeOfGreatestRoot 0 := ⟨wc_X8_sizeOfGreatestRoot, wn_X8, by decide +kernel, by decide +kernel, by decide⟩
abbrev mX4_isAbove : xk_M := (yX4_isAbove, cX4_isAbove, 7, (some .boolean))
theorem cv_X4_isAbove : xk_CV mX4_isAbove 4 := ⟨wc_X4_isAbove, wn_X4, by decide +kernel, by decide +kernel, by decide⟩
abbrev mX0_reset : xk_M := (yX0_reset, cX0_reset, 1, none)
theorem cv_X0_reset : xk_CV mX0_reset 0 := ⟨wc_X0_reset, wn_X0, by decide +kernel, by decide +kernel, by decide⟩
abbrev mX0_multiply : xk_M := (yX0_multiply, cX0_multiply, 10, none)
theorem cv_X0_multiply : xk_CV mX0_multiply 2 := ⟨wc_X0_multiply, wn_X0, by decide +kernel, by decide +kernel, by decide⟩
abbrev mX0_isAbove : xk_M := (yX0_isAbove, cX0_isAbove, 3, (some .boolean))
theorem cv_X0_isAbove : xk_CV mX0_isAbove 1 := ⟨wc_X0_isAbove, wn_X0, by decide +kernel, by decide +kernel, by decide⟩
abbrev mX9_least : xk_M := (yX9_least, cX9_least, 3, (some .int))
theorem cv_X9_least : xk_CV mX9_least 1 := ⟨wc_X9_least, wn_X9, by decide +kernel, by decide +kernel, by decide⟩
abbrev mX9_rings : xk_M := (yX9_rings, cX9_rings, 10, none)
theorem cv_X9_rings : xk_CV mX9_rings 3 := ⟨wc_X9_rings, wn_X9, by decide +kernel, by decide +kernel, by decide⟩
abbrev mX9_ring : xk_M := (yX9_ring, cX9_ring, 13, none)
theorem cv_X9_ring : xk_CV mX9_ring 3 := ⟨wc_X9_ring, wn_X9, by decide +kernel, by decide +kernel, by decide⟩
abbrev mX9_compare : xk_M := (yX9_compare, cX9_compare, 7, (some .int))
theorem cv_X9_compare : xk_CV mX9_compare 3 := ⟨wc_X9_compare, wn_X9, by decide +kernel, by decide +kernel, by decide⟩
abbrev mX9_one : xk_M := (yX9_one, cX9_one, 2, none)
theorem cv_X9_one : xk_CV mX9_one 1 := ⟨wc_X9_one, wn_X9, by decide +kernel, by decide +kernel, by decide⟩
abbrev mX9_times : xk_M := (yX9_times, cX9_times, 10, none)
theorem cv_X9_times : xk_CV mX9_times 3 := ⟨wc_X9_times, wn_X9, by decide +kernel, by decide +kernel, by decide⟩
abbrev mX8_span : xk_M := (yX8_span, cX8_span, 12, (some .boolean))
theorem cv_X8_span : xk_CV mX8_span 3 := ⟨wc_X8_span, wn_X8, by decide +kernel, by decide +kernel, by decide⟩
abbrev mX9_span : xk_M := (yX9_span, cX9_span, 9, (some .boolean))
theorem cv_X9_span : xk_CV mX9_span 3 := ⟨wc_X9_span, wn_X9, by decide +kernel, by decide +kernel, by decide⟩
abbrev mX8_unspan : xk_M := (yX8_unspan, cX8_unspan, 3, (some .boolean))
theorem cv_X8_unspan : xk_CV mX8_unspan 2 := ⟨wc_X8_unspan, wn_X8, by decide +kernel, by decide +kernel, by decide⟩
abbrev mX9_unspan : xk_M := (yX9_unspan, cX9_unspan, 3, (some .boolean))
theorem cv_X9_unspan : xk_CV mX9_unspan 2 := ⟨wc_X9_unspan, wn_X9, by decide +kernel, by decide +kernel, by decide⟩
abbrev mX8_can : xk_M := (yX8_can, cX8_can, 1, (some .boolean))
theorem cv_X8_can : xk_CV mX8_can 0 := ⟨wc_X8_can, wn_X8, by decide +kernel, by decide +kernel, by decide⟩
abbrev mX9_can : xk_M := (yX9_can, cX9_can, 2, (some .boolean))
theorem cv_X9_can : xk_CV mX9_can 0 := ⟨wc_X9_can, wn_X9, by decide +kernel, by decide +kernel, by decide⟩
abbrev mX9_goes : xk_M := (yX9_goes, cX9_goes, 3, none)
theorem cv_X9_goes : xk_CV mX9_goes 2 := ⟨wc_X9_goes, wn_X9, by decide +kernel, by decide +kernel, by decide⟩
abbrev mX9_ways : xk_M := (yX9_ways, cX9_ways, 11, none)
theorem cv_X9_ways : xk_CV mX9_ways 4 := ⟨wc_X9_ways, wn_X9, by decide +kernel, by decide +kernel, by decide⟩
abbrev mX9_isSpan : xk_M := (yX9_isSpan, cX9_isSpan, 3, (some .boolean))
theorem cv_X9_isSpan : xk_CV mX9_isSpan 2 := ⟨wc_X9_isSpan, wn_X9, by decide +kernel, by decide +kernel, by decide⟩
abbrev mX9_lowOver : xk_M := (yX9_lowOver, cX9_lowOver, 3, (some .int))
theorem cv_X9_lowOver : xk_CV mX9_lowOver 2 := ⟨wc_X9_lowOver, wn_X9, by decide +kernel, by decide +kernel, by decide⟩
abbrev mX9_lowUnder : xk_M := (yX9_lowUnder, cX9_lowUnder, 3, (some .int))
theorem cv_X9_lowUnder : xk_CV mX9_lowUnder 2 := ⟨wc_X9_lowUnder, wn_X9, by decide +kernel, by decide +kernel, by decide⟩
abbrev mX8_bound : xk_M := (yX8_bound, cX8_bound, 6, (some .int))
theorem cv_X8_bound : xk_CV mX8_bound 3 := ⟨wc_X8_bound, wn_X8, by decide +kernel, by decide +kernel, by decide⟩
abbrev mX8_greatestWay : xk_M := (yX8_greatestWay, cX8_greatestWay, 14, (some .long))
theorem cv_X8_greatestWay : xk_CV mX8_greatestWay 5 := ⟨wc_X8_greatestWay, wn_X8, by decide +kernel, by decide +kernel, by decide⟩
abbrev mX9_bound : xk_M := (yX9_bound, cX9_bound, 4, (some .int))
theorem cv_X9_bound : xk_CV mX9_bound 3 := ⟨wc_X9_bound, wn_X9, by decide +kernel, by decide +kernel, by decide⟩
abbrev mX8_count : xk_M := (yX8_count, cX8_count, 2, (some .int))
theorem cv_X8_count : xk_CV mX8_count 1 := ⟨wc_X8_count, wn_X8, by decide +kernel, by decide +kernel, by decide⟩
abbrev mX9_count : xk_M := (yX9_count, cX9_count, 4, (some .int))
theorem cv_X9_count : xk_CV mX9_count 1 := ⟨wc_X9_count, wn_X9, by decide +kernel, by decide +kernel, by decide⟩
abbrev mJ9_min : xk_M := (Lib.Math.min.name, Lib.Math.min.code, 2, (some .int))
theorem cv_J9_min : xk_CV mJ9_min 2 := ⟨wo_code_Lib_Math_min_name_Lib_Math_min_code_2_some_int_, wo_initialized_java_lang_Math_, by decide +kernel, by decide +kernel, by decide⟩
abbrev mJ9_max : xk_M := (Lib.Math.max.name, Lib.Math.max.code, 2, (some .int))
theorem cv_J9_max : xk_CV mJ9_max 2 := ⟨wo_code_Lib_Math_max_name_Lib_Math_max_code_2_some_int_, wo_initialized_java_lang_Math_, by decide +kernel, by decide +kernel, by decide⟩
abbrev mJ9_maxl : xk_M := (Lib.MathLoose.max_long.x, Lib.MathLoose.max_long.code, 4, (some .long))
theorem cv_J9_maxl : xk_CV mJ9_maxl 2 := ⟨wo_code_Lib_MathLoose_max_long_x_Lib_MathLoose_max_long_code_4_, wo_initialized_java_lang_Math_, by decide +kernel, by decide +kernel, by decide⟩
abbrev mJ9_minl : xk_M := (Lib.MathLoose.min_long.x, Lib.MathLoose.min_long.code, 4, (some .long))
theorem cv_J9_minl : xk_CV mJ9_minl 2 := ⟨wo_code_Lib_MathLoose_min_long_x_Lib_MathLoose_min_long_code_4_, wo_initialized_java_lang_Math_, by decide +kernel, by decide +kernel, by decide⟩
