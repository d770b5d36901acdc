/-! The law: its cases. Laid by a program of our own. -/
theorem xl_call0 {b L : Nat} {xs : Nat → Int32} {x m0 i cs ss pc : Nat} {hs : xk_H} {M' : xk_M} {d' index b0 ci : Nat} {fs : List Value} {r0 : vw_C} {out' : Option Value → xk_H → Prop} {rest : List Value} (hd : decode code pc = .ok (.invokevirtual index, 3)) (hlk : Cond.methodLink RL index M'.1 ∈ xk_WS) (hcv : xk_CV M' 0) (hin : Cond.instanceMethod M'.1 ∈ xk_WS) (hse : Cond.selects M'.1.cls M'.1 M'.1 ∈ xk_WS) (hdd : d' ≤ 1000) (hcs : cs ≤ 600000) (hss : ss ≤ 7302250) (hc : vwCl[ci]? = some r0) (hcn : r0.1 = M'.1.cls) (he : hs[b0]? = some (.inr (ci, fs))) (hcat : (rest.map fun v => v.category).sum ≤ 8) (hY : xk_Y d' 0 0 M' false (.ref b0 :: []) hs out')
    (hlen : ∀ (r : Option Value) (hs' : xk_H), out' r hs' → hs'.length = hs.length) (kk : ∀ (r : Option Value) (hs' : xk_H), out' r hs' → xl_X b L xs x m0 i cs ss (pc + 3) (r.toList ++ rest) hs') : xl_X b L xs x m0 i cs ss pc (.ref b0 :: rest) hs :=
  xl_call [] rest hd hlk hcv hin hse hdd hcs hss he hc hcn rfl hcat hY hlen kk
theorem xl_call1 {b L : Nat} {xs : Nat → Int32} {x m0 i cs ss pc : Nat} {hs : xk_H} {M' : xk_M} {d' index b0 ci : Nat} {fs : List Value} {r0 : vw_C} {out' : Option Value → xk_H → Prop} {v0 : Value} {rest : List Value} (hd : decode code pc = .ok (.invokevirtual index, 3)) (hlk : Cond.methodLink RL index M'.1 ∈ xk_WS) (hcv : xk_CV M' 1) (hin : Cond.instanceMethod M'.1 ∈ xk_WS) (hse : Cond.selects M'.1.cls M'.1 M'.1 ∈ xk_WS) (hdd : d' ≤ 1000) (hcs : cs ≤ 600000) (hss : ss ≤ 7302250) (hc : vwCl[ci]? = some r0) (hcn : r0.1 = M'.1.cls) (he : hs[b0]? = some (.inr (ci, fs))) (hcat : (rest.map fun v => v.category).sum ≤ 8) (hY : xk_Y d' 0 0 M' false (.ref b0 :: [v0]) hs out')
    (hlen : ∀ (r : Option Value) (hs' : xk_H), out' r hs' → hs'.length = hs.length) (kk : ∀ (r : Option Value) (hs' : xk_H), out' r hs' → xl_X b L xs x m0 i cs ss (pc + 3) (r.toList ++ rest) hs') : xl_X b L xs x m0 i cs ss pc (v0 :: .ref b0 :: rest) hs :=
  xl_call [v0] rest hd hlk hcv hin hse hdd hcs hss he hc hcn rfl hcat hY hlen kk
theorem xl_call2 {b L : Nat} {xs : Nat → Int32} {x m0 i cs ss pc : Nat} {hs : xk_H} {M' : xk_M} {d' index b0 ci : Nat} {fs : List Value} {r0 : vw_C} {out' : Option Value → xk_H → Prop} {v0 v1 : Value} {rest : List Value} (hd : decode code pc = .ok (.invokevirtual index, 3)) (hlk : Cond.methodLink RL index M'.1 ∈ xk_WS) (hcv : xk_CV M' 2) (hin : Cond.instanceMethod M'.1 ∈ xk_WS) (hse : Cond.selects M'.1.cls M'.1 M'.1 ∈ xk_WS) (hdd : d' ≤ 1000) (hcs : cs ≤ 600000) (hss : ss ≤ 7302250) (hc : vwCl[ci]? = some r0) (hcn : r0.1 = M'.1.cls) (he : hs[b0]? = some (.inr (ci, fs))) (hcat : (rest.map fun v => v.category).sum ≤ 8) (hY : xk_Y d' 0 0 M' false (.ref b0 :: [v0, v1]) hs out')
    (hlen : ∀ (r : Option Value) (hs' : xk_H), out' r hs' → hs'.length = hs.length) (kk : ∀ (r : Option Value) (hs' : xk_H), out' r hs' → xl_X b L xs x m0 i cs ss (pc + 3) (r.toList ++ rest) hs') : xl_X b L xs x m0 i cs ss pc (v1 :: v0 :: .ref b0 :: rest) hs :=
  xl_call [v0, v1] rest hd hlk hcv hin hse hdd hcs hss he hc hcn rfl hcat hY hlen kk
theorem xl_call3 {b L : Nat} {xs : Nat → Int32} {x m0 i cs ss pc : Nat} {hs : xk_H} {M' : xk_M} {d' index b0 ci : Nat} {fs : List Value} {r0 : vw_C} {out' : Option Value → xk_H → Prop} {v0 v1 v2 : Value} {rest : List Value} (hd : decode code pc = .ok (.invokevirtual index, 3)) (hlk : Cond.methodLink RL index M'.1 ∈ xk_WS) (hcv : xk_CV M' 3) (hin : Cond.instanceMethod M'.1 ∈ xk_WS) (hse : Cond.selects M'.1.cls M'.1 M'.1 ∈ xk_WS) (hdd : d' ≤ 1000) (hcs : cs ≤ 600000) (hss : ss ≤ 7302250) (hc : vwCl[ci]? = some r0) (hcn : r0.1 = M'.1.cls) (he : hs[b0]? = some (.inr (ci, fs))) (hcat : (rest.map fun v => v.category).sum ≤ 8) (hY : xk_Y d' 0 0 M' false (.ref b0 :: [v0, v1, v2]) hs out')
    (hlen : ∀ (r : Option Value) (hs' : xk_H), out' r hs' → hs'.length = hs.length) (kk : ∀ (r : Option Value) (hs' : xk_H), out' r hs' → xl_X b L xs x m0 i cs ss (pc + 3) (r.toList ++ rest) hs') : xl_X b L xs x m0 i cs ss pc (v2 :: v1 :: v0 :: .ref b0 :: rest) hs :=
  xl_call [v0, v1, v2] rest hd hlk hcv hin hse hdd hcs hss he hc hcn rfl hcat hY hlen kk
theorem xl_call4 {b L : Nat} {xs : Nat → Int32} {x m0 i cs ss pc : Nat} {hs : xk_H} {M' : xk_M} {d' index b0 ci : Nat} {fs : List Value} {r0 : vw_C} {out' : Option Value → xk_H → Prop} {v0 v1 v2 v3 : Value} {rest : List Value} (hd : decode code pc = .ok (.invokevirtual index, 3)) (hlk : Cond.methodLink RL index M'.1 ∈ xk_WS) (hcv : xk_CV M' 4) (hin : Cond.instanceMethod M'.1 ∈ xk_WS) (hse : Cond.selects M'.1.cls M'.1 M'.1 ∈ xk_WS) (hdd : d' ≤ 1000) (hcs : cs ≤ 600000) (hss : ss ≤ 7302250) (hc : vwCl[ci]? = some r0) (hcn : r0.1 = M'.1.cls) (he : hs[b0]? = some (.inr (ci, fs))) (hcat : (rest.map fun v => v.category).sum ≤ 8) (hY : xk_Y d' 0 0 M' false (.ref b0 :: [v0, v1, v2, v3]) hs out')
    (hlen : ∀ (r : Option Value) (hs' : xk_H), out' r hs' → hs'.length = hs.length) (kk : ∀ (r : Option Value) (hs' : xk_H), out' r hs' → xl_X b L xs x m0 i cs ss (pc + 3) (r.toList ++ rest) hs') : xl_X b L xs x m0 i cs ss pc (v3 :: v2 :: v1 :: v0 :: .ref b0 :: rest) hs :=
  xl_call [v0, v1, v2, v3] rest hd hlk hcv hin hse hdd hcs hss he hc hcn rfl hcat hY hlen kk
set_option maxHeartbeats 4000000 in
set_option maxRecDepth 100000 in
theorem law_say {b L : Nat} {xs : Nat → Int32} {x m0 i cs ss : Nat} {hs : xk_H} {n fl fv : Nat} {w v : tbW} {T : mdT} (hL : L ≤ 2561) (hi : i + 5 ≤ L) (hn : n ≤ 6) (h2 : 2 ≤ n) (hcs : cs ≤ 600000) (hss : ss ≤ 7302250) (hdj : x + 5 * n + 19 ≤ m0) (R : rel n w fl v fv T) (hX : xsA hs x n w fl v fv) (hA : mdA hs m0 n T) (K : ∀ (h : xk_H) (w' : tbW) (fl' : Nat) (v' : tbW) (fv' : Nat) (T' : mdT), rel n w' fl' v' fv' T' → xsA h x n w' fl' v' fv' → mdA h m0 n T' → xl_X b L xs x m0 i cs ss 568 [] h) : xl_X b L xs x m0 i cs ss 120 [] hs := by
  have hok := ag_ok hn h2 R
  have hokU := hok.2.2.2.2.1
  have hokV := hok.2.2.2.2.2
  refine xl_a1 dL_law_120 ?_
  refine xl_rd 1 rfl dL_law_121 dL_law_122 dL_law_123 dL_law_124 dL_law_125 (by omega) hL ?_
  refine xl_rd 2 rfl dL_law_126 dL_law_127 dL_law_128 dL_law_129 dL_law_130 (by omega) hL ?_
  refine xl_rd 3 rfl dL_law_131 dL_law_132 dL_law_133 dL_law_134 dL_law_135 (by omega) hL ?_
  refine xl_rd 4 rfl dL_law_136 dL_law_137 dL_law_138 dL_law_139 dL_law_140 (by omega) hL ?_
  refine xl_call4 (M' := mX8_say) (ci := 7) (r0 := (RX8, TX8, 8)) dL_law_141 wm_L_21 cv_X8_say wi_X8_say wl_X8_say ?_ hcs hss rfl rfl hX.1 (Nat.le_of_ble_eq_true rfl) (y_X8_say 0 hn h2 hX hok.1 hok.2.1) (fun _ _ z => z.2.2.1) (fun r z h => ?_)
  · omega
  obtain ⟨rfl, hX2, hf2⟩ := h
  have hA2 := hA.ext (h := z) (fun k hk => hf2.2 k (fun q => by have a1 := hk.1; have a2 := q.2; omega))
  refine xl_a2 dL_law_144 ?_
  refine xl_rd 1 rfl dL_law_145 dL_law_146 dL_law_147 dL_law_148 dL_law_149 (by omega) hL ?_
  refine xl_rd 2 rfl dL_law_150 dL_law_151 dL_law_152 dL_law_153 dL_law_154 (by omega) hL ?_
  refine xl_rd 3 rfl dL_law_155 dL_law_156 dL_law_157 dL_law_158 dL_law_159 (by omega) hL ?_
  refine xl_rd 4 rfl dL_law_160 dL_law_161 dL_law_162 dL_law_163 dL_law_164 (by omega) hL ?_
  obtain ⟨sm, hO⟩ := hA2.1
  refine xl_call4 (M' := mX9_say) (ci := 8) (r0 := (RX9, TX9, 25)) dL_law_165 wm_L_25 cv_X9_say wi_X9_say wl_X9_say ?_ hcs hss rfl rfl hO (Nat.le_of_ble_eq_true rfl) (y_X9_say 0 hn h2 hA2 hok.2.2.1) (fun _ _ z => z.2.2.1) (fun r z2 h => ?_)
  · omega
  obtain ⟨rfl, hA3, hf3⟩ := h
  have hX3 := hX2.ext (h := z2) h2 (fun k hk => hf3.2 k (fun q => by have a1 := hk.2; have a2 := q.1; omega))
  exact xl_eq 568 dL_law_168 (by decide) rfl (K _ _ _ _ _ _ (ag_say hn h2 R (xs (i + 1)) (xs (i + 2)) (xs (i + 3)) (xs (i + 4))) hX3 hA3)

set_option maxHeartbeats 4000000 in
set_option maxRecDepth 100000 in
theorem law_unsay {b L : Nat} {xs : Nat → Int32} {x m0 i cs ss : Nat} {hs : xk_H} {n fl fv : Nat} {w v : tbW} {T : mdT} (hL : L ≤ 2561) (hi : i + 5 ≤ L) (hn : n ≤ 6) (h2 : 2 ≤ n) (hcs : cs ≤ 600000) (hss : ss ≤ 7302250) (hdj : x + 5 * n + 19 ≤ m0) (R : rel n w fl v fv T) (hX : xsA hs x n w fl v fv) (hA : mdA hs m0 n T) (K : ∀ (h : xk_H) (w' : tbW) (fl' : Nat) (v' : tbW) (fv' : Nat) (T' : mdT), rel n w' fl' v' fv' T' → xsA h x n w' fl' v' fv' → mdA h m0 n T' → xl_X b L xs x m0 i cs ss 568 [] h) : xl_X b L xs x m0 i cs ss 173 [] hs := by
  have hok := ag_ok hn h2 R
  have hokU := hok.2.2.2.2.1
  have hokV := hok.2.2.2.2.2
  refine xl_a1 dL_law_173 ?_
  refine xl_rd 1 rfl dL_law_174 dL_law_175 dL_law_176 dL_law_177 dL_law_178 (by omega) hL ?_
  refine xl_rd 2 rfl dL_law_179 dL_law_180 dL_law_181 dL_law_182 dL_law_183 (by omega) hL ?_
  refine xl_call2 (M' := mX8_unsay) (ci := 7) (r0 := (RX8, TX8, 8)) dL_law_184 wm_L_26 cv_X8_unsay wi_X8_unsay wl_X8_unsay ?_ hcs hss rfl rfl hX.1 (Nat.le_of_ble_eq_true rfl) (y_X8_unsay 0 hn h2 hX hok.1 hok.2.1 (hokU _ _)) (fun _ _ z => z.2.2.1) (fun r z h => ?_)
  · omega
  obtain ⟨rfl, hX2, hf2⟩ := h
  have hA2 := hA.ext (h := z) (fun k hk => hf2.2 k (fun q => by have a1 := hk.1; have a2 := q.2; omega))
  refine xl_a2 dL_law_187 ?_
  refine xl_rd 1 rfl dL_law_188 dL_law_189 dL_law_190 dL_law_191 dL_law_192 (by omega) hL ?_
  refine xl_rd 2 rfl dL_law_193 dL_law_194 dL_law_195 dL_law_196 dL_law_197 (by omega) hL ?_
  obtain ⟨sm, hO⟩ := hA2.1
  refine xl_call2 (M' := mX9_unsay) (ci := 8) (r0 := (RX9, TX9, 25)) dL_law_198 wm_L_30 cv_X9_unsay wi_X9_unsay wl_X9_unsay ?_ hcs hss rfl rfl hO (Nat.le_of_ble_eq_true rfl) (y_X9_unsay 0 hn h2 hA2 hok.2.2.1) (fun _ _ z => z.2.2.1) (fun r z2 h => ?_)
  · omega
  obtain ⟨rfl, hA3, hf3⟩ := h
  have hX3 := hX2.ext (h := z2) h2 (fun k hk => hf3.2 k (fun q => by have a1 := hk.2; have a2 := q.1; omega))
  exact xl_eq 568 dL_law_201 (by decide) (congrArg xk_b (ag_has hn h2 R (xs (i + 1)) (xs (i + 2)))) (K _ _ _ _ _ _ (ag_unsay hn h2 R (xs (i + 1)) (xs (i + 2))) hX3 hA3)

set_option maxHeartbeats 4000000 in
set_option maxRecDepth 100000 in
theorem law_said {b L : Nat} {xs : Nat → Int32} {x m0 i cs ss : Nat} {hs : xk_H} {n fl fv : Nat} {w v : tbW} {T : mdT} (hL : L ≤ 2561) (hi : i + 5 ≤ L) (hn : n ≤ 6) (h2 : 2 ≤ n) (hcs : cs ≤ 600000) (hss : ss ≤ 7302250) (hdj : x + 5 * n + 19 ≤ m0) (R : rel n w fl v fv T) (hX : xsA hs x n w fl v fv) (hA : mdA hs m0 n T) (K : ∀ (h : xk_H) (w' : tbW) (fl' : Nat) (v' : tbW) (fv' : Nat) (T' : mdT), rel n w' fl' v' fv' T' → xsA h x n w' fl' v' fv' → mdA h m0 n T' → xl_X b L xs x m0 i cs ss 568 [] h) : xl_X b L xs x m0 i cs ss 206 [] hs := by
  have hok := ag_ok hn h2 R
  have hokU := hok.2.2.2.2.1
  have hokV := hok.2.2.2.2.2
  refine xl_a1 dL_law_206 ?_
  refine xl_rd 1 rfl dL_law_207 dL_law_208 dL_law_209 dL_law_210 dL_law_211 (by omega) hL ?_
  refine xl_rd 2 rfl dL_law_212 dL_law_213 dL_law_214 dL_law_215 dL_law_216 (by omega) hL ?_
  refine xl_rd 3 rfl dL_law_217 dL_law_218 dL_law_219 dL_law_220 dL_law_221 (by omega) hL ?_
  refine xl_call3 (M' := mX8_said) (ci := 7) (r0 := (RX8, TX8, 8)) dL_law_222 wm_L_31 cv_X8_said wi_X8_said wl_X8_said ?_ hcs hss rfl rfl hX.1 (Nat.le_of_ble_eq_true rfl) (y_X8_said 0 hn h2 hX hok.1 hok.2.1) (fun _ _ z => z.2.2.1) (fun r z h => ?_)
  · omega
  obtain ⟨rfl, hX2, hf2⟩ := h
  have hA2 := hA.ext (h := z) (fun k hk => hf2.2 k (fun q => by have a1 := hk.1; have a2 := q.2; omega))
  refine xl_a2 dL_law_225 ?_
  refine xl_rd 1 rfl dL_law_226 dL_law_227 dL_law_228 dL_law_229 dL_law_230 (by omega) hL ?_
  refine xl_rd 2 rfl dL_law_231 dL_law_232 dL_law_233 dL_law_234 dL_law_235 (by omega) hL ?_
  refine xl_rd 3 rfl dL_law_236 dL_law_237 dL_law_238 dL_law_239 dL_law_240 (by omega) hL ?_
  obtain ⟨sm, hO⟩ := hA2.1
  refine xl_call3 (M' := mX9_said) (ci := 8) (r0 := (RX9, TX9, 25)) dL_law_241 wm_L_35 cv_X9_said wi_X9_said wl_X9_said ?_ hcs hss rfl rfl hO (Nat.le_of_ble_eq_true rfl) (y_X9_said 0 hn h2 hA2 hok.2.2.1) (fun _ _ z => z.2.2.1) (fun r z2 h => ?_)
  · omega
  obtain ⟨rfl, hA3, hf3⟩ := h
  have hX3 := hX2.ext (h := z2) h2 (fun k hk => hf3.2 k (fun q => by have a1 := hk.2; have a2 := q.1; omega))
  exact xl_eq 568 dL_law_244 (by decide) (ag_said hn h2 R _ _ _) (K _ _ _ _ _ _ R hX3 hA3)

set_option maxHeartbeats 4000000 in
set_option maxRecDepth 100000 in
theorem law_even {b L : Nat} {xs : Nat → Int32} {x m0 i cs ss : Nat} {hs : xk_H} {n fl fv : Nat} {w v : tbW} {T : mdT} (hL : L ≤ 2561) (hi : i + 5 ≤ L) (hn : n ≤ 6) (h2 : 2 ≤ n) (hcs : cs ≤ 600000) (hss : ss ≤ 7302250) (hdj : x + 5 * n + 19 ≤ m0) (R : rel n w fl v fv T) (hX : xsA hs x n w fl v fv) (hA : mdA hs m0 n T) (K : ∀ (h : xk_H) (w' : tbW) (fl' : Nat) (v' : tbW) (fv' : Nat) (T' : mdT), rel n w' fl' v' fv' T' → xsA h x n w' fl' v' fv' → mdA h m0 n T' → xl_X b L xs x m0 i cs ss 568 [] h) : xl_X b L xs x m0 i cs ss 249 [] hs := by
  have hok := ag_ok hn h2 R
  have hokU := hok.2.2.2.2.1
  have hokV := hok.2.2.2.2.2
  refine xl_a1 dL_law_249 ?_
  refine xl_call0 (M' := mX8_even) (ci := 7) (r0 := (RX8, TX8, 8)) dL_law_250 wm_L_36 cv_X8_even wi_X8_even wl_X8_even ?_ hcs hss rfl rfl hX.1 (Nat.le_of_ble_eq_true rfl) (y_X8_even 0 hn h2 hX hok.1 hok.2.1) (fun _ _ z => z.2.2.1) (fun r z h => ?_)
  · omega
  obtain ⟨⟨g, -, rfl⟩, hX2, hf2⟩ := h
  have hA2 := hA.ext (h := z) (fun k hk => hf2.2 k (fun q => by have a1 := hk.1; have a2 := q.2; omega))
  refine xl_a2 dL_law_253 ?_
  obtain ⟨sm, hO⟩ := hA2.1
  refine xl_call0 (M' := mX9_even) (ci := 8) (r0 := (RX9, TX9, 25)) dL_law_254 wm_L_40 cv_X9_even wi_X9_even wl_X9_even ?_ hcs hss rfl rfl hO (Nat.le_of_ble_eq_true rfl) (y_X9_even 0 hn h2 hA2 hok.2.2.1) (fun _ _ z => z.2.2.1) (fun r z2 h => ?_)
  · omega
  obtain ⟨rfl, hA3, hf3⟩ := h
  have hX3 := hX2.ext (h := z2) h2 (fun k hk => hf3.2 k (fun q => by have a1 := hk.2; have a2 := q.1; omega))
  exact xl_eq 568 dL_law_257 (by decide) (congrArg xk_b (ag_even hn h2 R g)) (K _ _ _ _ _ _ R hX3 hA3)

set_option maxHeartbeats 4000000 in
set_option maxRecDepth 100000 in
theorem law_worst {b L : Nat} {xs : Nat → Int32} {x m0 i cs ss : Nat} {hs : xk_H} {n fl fv : Nat} {w v : tbW} {T : mdT} (hL : L ≤ 2561) (hi : i + 5 ≤ L) (hn : n ≤ 6) (h2 : 2 ≤ n) (hcs : cs ≤ 600000) (hss : ss ≤ 7302250) (hdj : x + 5 * n + 19 ≤ m0) (R : rel n w fl v fv T) (hX : xsA hs x n w fl v fv) (hA : mdA hs m0 n T) (K : ∀ (h : xk_H) (w' : tbW) (fl' : Nat) (v' : tbW) (fv' : Nat) (T' : mdT), rel n w' fl' v' fv' T' → xsA h x n w' fl' v' fv' → mdA h m0 n T' → xl_X b L xs x m0 i cs ss 568 [] h) : xl_X b L xs x m0 i cs ss 262 [] hs := by
  have hok := ag_ok hn h2 R
  have hokU := hok.2.2.2.2.1
  have hokV := hok.2.2.2.2.2
  refine xl_a1 dL_law_262 ?_
  refine xl_rd 1 rfl dL_law_263 dL_law_264 dL_law_265 dL_law_266 dL_law_267 (by omega) hL ?_
  refine xl_call1 (M' := mX8_worst) (ci := 7) (r0 := (RX8, TX8, 8)) dL_law_268 wm_L_41 cv_X8_worst wi_X8_worst wl_X8_worst ?_ hcs hss rfl rfl hX.1 (Nat.le_of_ble_eq_true rfl) (y_X8_worst 0 hn h2 hX hok.1 hok.2.1) (fun _ _ z => z.2.2.1) (fun r z h => ?_)
  · omega
  obtain ⟨⟨sw, -, rfl⟩, hX2, hf2⟩ := h
  have hA2 := hA.ext (h := z) (fun k hk => hf2.2 k (fun q => by have a1 := hk.1; have a2 := q.2; omega))
  refine xl_a2 dL_law_271 ?_
  refine xl_rd 1 rfl dL_law_272 dL_law_273 dL_law_274 dL_law_275 dL_law_276 (by omega) hL ?_
  obtain ⟨sm, hO⟩ := hA2.1
  refine xl_call1 (M' := mX9_worst) (ci := 8) (r0 := (RX9, TX9, 25)) dL_law_277 wm_L_45 cv_X9_worst wi_X9_worst wl_X9_worst ?_ hcs hss rfl rfl hO (Nat.le_of_ble_eq_true rfl) (y_X9_worst 0 hn h2 hA2 hok.2.2.1) (fun _ _ z => z.2.2.1) (fun r z2 h => ?_)
  · omega
  obtain ⟨rfl, hA3, hf3⟩ := h
  have hX3 := hX2.ext (h := z2) h2 (fun k hk => hf3.2 k (fun q => by have a1 := hk.2; have a2 := q.1; omega))
  exact xl_eq 568 dL_law_280 (by decide) (ag_worst hn h2 R sw _) (K _ _ _ _ _ _ R hX3 hA3)

set_option maxHeartbeats 4000000 in
set_option maxRecDepth 100000 in
theorem law_trees {b L : Nat} {xs : Nat → Int32} {x m0 i cs ss : Nat} {hs : xk_H} {n fl fv : Nat} {w v : tbW} {T : mdT} (hL : L ≤ 2561) (hi : i + 5 ≤ L) (hn : n ≤ 6) (h2 : 2 ≤ n) (hcs : cs ≤ 600000) (hss : ss ≤ 7302250) (hdj : x + 5 * n + 19 ≤ m0) (R : rel n w fl v fv T) (hX : xsA hs x n w fl v fv) (hA : mdA hs m0 n T) (K : ∀ (h : xk_H) (w' : tbW) (fl' : Nat) (v' : tbW) (fv' : Nat) (T' : mdT), rel n w' fl' v' fv' T' → xsA h x n w' fl' v' fv' → mdA h m0 n T' → xl_X b L xs x m0 i cs ss 568 [] h) : xl_X b L xs x m0 i cs ss 285 [] hs := by
  have hok := ag_ok hn h2 R
  have hokU := hok.2.2.2.2.1
  have hokV := hok.2.2.2.2.2
  refine xl_a1 dL_law_285 ?_
  refine xl_call0 (M' := mX8_trees) (ci := 7) (r0 := (RX8, TX8, 8)) dL_law_286 wm_L_46 cv_X8_trees wi_X8_trees wl_X8_trees ?_ hcs hss rfl rfl hX.1 (Nat.le_of_ble_eq_true rfl) (y_X8_trees 0 hn h2 hX hok.1 hok.2.1) (fun _ _ z => z.2.2.1) (fun r z h => ?_)
  · omega
  obtain ⟨rfl, hX2, hf2⟩ := h
  have hA2 := hA.ext (h := z) (fun k hk => hf2.2 k (fun q => by have a1 := hk.1; have a2 := q.2; omega))
  refine xl_a2 dL_law_289 ?_
  obtain ⟨sm, hO⟩ := hA2.1
  refine xl_call0 (M' := mX9_trees) (ci := 8) (r0 := (RX9, TX9, 25)) dL_law_290 wm_L_50 cv_X9_trees wi_X9_trees wl_X9_trees ?_ hcs hss rfl rfl hO (Nat.le_of_ble_eq_true rfl) (y_X9_trees 0 hn h2 hA2 hok.2.2.1) (fun _ _ z => z.2.2.1) (fun r z2 h => ?_)
  · omega
  obtain ⟨rfl, hA3, hf3⟩ := h
  have hX3 := hX2.ext (h := z2) h2 (fun k hk => hf3.2 k (fun q => by have a1 := hk.2; have a2 := q.1; omega))
  exact xl_eq 568 dL_law_293 (by decide) (ag_trees hn h2 R) (K _ _ _ _ _ _ R hX3 hA3)

set_option maxHeartbeats 4000000 in
set_option maxRecDepth 100000 in
theorem law_few {b L : Nat} {xs : Nat → Int32} {x m0 i cs ss : Nat} {hs : xk_H} {n fl fv : Nat} {w v : tbW} {T : mdT} (hL : L ≤ 2561) (hi : i + 5 ≤ L) (hn : n ≤ 6) (h2 : 2 ≤ n) (hcs : cs ≤ 600000) (hss : ss ≤ 7302250) (hdj : x + 5 * n + 19 ≤ m0) (R : rel n w fl v fv T) (hX : xsA hs x n w fl v fv) (hA : mdA hs m0 n T) (K : ∀ (h : xk_H) (w' : tbW) (fl' : Nat) (v' : tbW) (fv' : Nat) (T' : mdT), rel n w' fl' v' fv' T' → xsA h x n w' fl' v' fv' → mdA h m0 n T' → xl_X b L xs x m0 i cs ss 568 [] h) : xl_X b L xs x m0 i cs ss 298 [] hs := by
  have hok := ag_ok hn h2 R
  have hokU := hok.2.2.2.2.1
  have hokV := hok.2.2.2.2.2
  refine xl_a1 dL_law_298 ?_
  refine xl_call0 (M' := mX8_few) (ci := 7) (r0 := (RX8, TX8, 8)) dL_law_299 wm_L_51 cv_X8_few wi_X8_few wl_X8_few ?_ hcs hss rfl rfl hX.1 (Nat.le_of_ble_eq_true rfl) (y_X8_few 0 hn h2 hX hok.1 hok.2.1) (fun _ _ z => z.2.2.1) (fun r z h => ?_)
  · omega
  obtain ⟨rfl, hX2, hf2⟩ := h
  have hA2 := hA.ext (h := z) (fun k hk => hf2.2 k (fun q => by have a1 := hk.1; have a2 := q.2; omega))
  refine xl_a2 dL_law_302 ?_
  obtain ⟨sm, hO⟩ := hA2.1
  refine xl_call0 (M' := mX9_few) (ci := 8) (r0 := (RX9, TX9, 25)) dL_law_303 wm_L_54 cv_X9_few wi_X9_few wl_X9_few ?_ hcs hss rfl rfl hO (Nat.le_of_ble_eq_true rfl) (y_X9_few 0 hn h2 hA2 hok.2.2.1) (fun _ _ z => z.2.2.1) (fun r z2 h => ?_)
  · omega
  obtain ⟨rfl, hA3, hf3⟩ := h
  have hX3 := hX2.ext (h := z2) h2 (fun k hk => hf3.2 k (fun q => by have a1 := hk.2; have a2 := q.1; omega))
  exact xl_eq 568 dL_law_306 (by decide) (congrArg (fun z : Nat × Nat => nI z.1) (ag_leave hn h2 R)) (K _ _ _ _ _ _ R hX3 hA3)

set_option maxHeartbeats 4000000 in
set_option maxRecDepth 100000 in
theorem law_left {b L : Nat} {xs : Nat → Int32} {x m0 i cs ss : Nat} {hs : xk_H} {n fl fv : Nat} {w v : tbW} {T : mdT} (hL : L ≤ 2561) (hi : i + 5 ≤ L) (hn : n ≤ 6) (h2 : 2 ≤ n) (hcs : cs ≤ 600000) (hss : ss ≤ 7302250) (hdj : x + 5 * n + 19 ≤ m0) (R : rel n w fl v fv T) (hX : xsA hs x n w fl v fv) (hA : mdA hs m0 n T) (K : ∀ (h : xk_H) (w' : tbW) (fl' : Nat) (v' : tbW) (fv' : Nat) (T' : mdT), rel n w' fl' v' fv' T' → xsA h x n w' fl' v' fv' → mdA h m0 n T' → xl_X b L xs x m0 i cs ss 568 [] h) : xl_X b L xs x m0 i cs ss 311 [] hs := by
  have hok := ag_ok hn h2 R
  have hokU := hok.2.2.2.2.1
  have hokV := hok.2.2.2.2.2
  refine xl_a1 dL_law_311 ?_
  refine xl_call0 (M' := mX8_left) (ci := 7) (r0 := (RX8, TX8, 8)) dL_law_312 wm_L_55 cv_X8_left wi_X8_left wl_X8_left ?_ hcs hss rfl rfl hX.1 (Nat.le_of_ble_eq_true rfl) (y_X8_left 0 hn h2 hX hok.1 hok.2.1) (fun _ _ z => z.2.2.1) (fun r z h => ?_)
  · omega
  obtain ⟨rfl, hX2, hf2⟩ := h
  have hA2 := hA.ext (h := z) (fun k hk => hf2.2 k (fun q => by have a1 := hk.1; have a2 := q.2; omega))
  refine xl_a2 dL_law_315 ?_
  obtain ⟨sm, hO⟩ := hA2.1
  refine xl_call0 (M' := mX9_left) (ci := 8) (r0 := (RX9, TX9, 25)) dL_law_316 wm_L_58 cv_X9_left wi_X9_left wl_X9_left ?_ hcs hss rfl rfl hO (Nat.le_of_ble_eq_true rfl) (y_X9_left 0 hn h2 hA2 hok.2.2.1) (fun _ _ z => z.2.2.1) (fun r z2 h => ?_)
  · omega
  obtain ⟨rfl, hA3, hf3⟩ := h
  have hX3 := hX2.ext (h := z2) h2 (fun k hk => hf3.2 k (fun q => by have a1 := hk.2; have a2 := q.1; omega))
  exact xl_eq 568 dL_law_319 (by decide) (congrArg (fun z : Nat × Nat => nI z.2) (ag_leave hn h2 R)) (K _ _ _ _ _ _ R hX3 hA3)

set_option maxHeartbeats 4000000 in
set_option maxRecDepth 100000 in
theorem law_row {b L : Nat} {xs : Nat → Int32} {x m0 i cs ss : Nat} {hs : xk_H} {n fl fv : Nat} {w v : tbW} {T : mdT} (hL : L ≤ 2561) (hi : i + 5 ≤ L) (hn : n ≤ 6) (h2 : 2 ≤ n) (hcs : cs ≤ 600000) (hss : ss ≤ 7302250) (hdj : x + 5 * n + 19 ≤ m0) (R : rel n w fl v fv T) (hX : xsA hs x n w fl v fv) (hA : mdA hs m0 n T) (K : ∀ (h : xk_H) (w' : tbW) (fl' : Nat) (v' : tbW) (fv' : Nat) (T' : mdT), rel n w' fl' v' fv' T' → xsA h x n w' fl' v' fv' → mdA h m0 n T' → xl_X b L xs x m0 i cs ss 568 [] h) : xl_X b L xs x m0 i cs ss 324 [] hs := by
  have hok := ag_ok hn h2 R
  have hokU := hok.2.2.2.2.1
  have hokV := hok.2.2.2.2.2
  refine xl_a1 dL_law_324 ?_
  refine xl_rd 1 rfl dL_law_325 dL_law_326 dL_law_327 dL_law_328 dL_law_329 (by omega) hL ?_
  refine xl_rd 2 rfl dL_law_330 dL_law_331 dL_law_332 dL_law_333 dL_law_334 (by omega) hL ?_
  refine xl_call2 (M' := mX8_row) (ci := 7) (r0 := (RX8, TX8, 8)) dL_law_335 wm_L_59 cv_X8_row wi_X8_row wl_X8_row ?_ hcs hss rfl rfl hX.1 (Nat.le_of_ble_eq_true rfl) (y_X8_row 0 hn h2 hX hok.1 hok.2.1 hok.2.2.2.1) (fun _ _ z => z.2.2.1) (fun r z h => ?_)
  · omega
  obtain ⟨rfl, hX2, hf2⟩ := h
  have hA2 := hA.ext (h := z) (fun k hk => hf2.2 k (fun q => by have a1 := hk.1; have a2 := q.2; omega))
  refine xl_a2 dL_law_338 ?_
  refine xl_rd 1 rfl dL_law_339 dL_law_340 dL_law_341 dL_law_342 dL_law_343 (by omega) hL ?_
  refine xl_rd 2 rfl dL_law_344 dL_law_345 dL_law_346 dL_law_347 dL_law_348 (by omega) hL ?_
  obtain ⟨sm, hO⟩ := hA2.1
  refine xl_call2 (M' := mX9_row) (ci := 8) (r0 := (RX9, TX9, 25)) dL_law_349 wm_L_63 cv_X9_row wi_X9_row wl_X9_row ?_ hcs hss rfl rfl hO (Nat.le_of_ble_eq_true rfl) (y_X9_row 0 hn h2 hA2 hok.2.2.1) (fun _ _ z => z.2.2.1) (fun r z2 h => ?_)
  · omega
  obtain ⟨rfl, hA3, hf3⟩ := h
  have hX3 := hX2.ext (h := z2) h2 (fun k hk => hf3.2 k (fun q => by have a1 := hk.2; have a2 := q.1; omega))
  exact xl_eq 568 dL_law_352 (by decide) (ag_row hn h2 R _ _) (K _ _ _ _ _ _ R hX3 hA3)

set_option maxHeartbeats 4000000 in
set_option maxRecDepth 100000 in
theorem law_order {b L : Nat} {xs : Nat → Int32} {x m0 i cs ss : Nat} {hs : xk_H} {n fl fv : Nat} {w v : tbW} {T : mdT} (hL : L ≤ 2561) (hi : i + 5 ≤ L) (hn : n ≤ 6) (h2 : 2 ≤ n) (hcs : cs ≤ 600000) (hss : ss ≤ 7302250) (hdj : x + 5 * n + 19 ≤ m0) (R : rel n w fl v fv T) (hX : xsA hs x n w fl v fv) (hA : mdA hs m0 n T) (K : ∀ (h : xk_H) (w' : tbW) (fl' : Nat) (v' : tbW) (fv' : Nat) (T' : mdT), rel n w' fl' v' fv' T' → xsA h x n w' fl' v' fv' → mdA h m0 n T' → xl_X b L xs x m0 i cs ss 568 [] h) : xl_X b L xs x m0 i cs ss 357 [] hs := by
  have hok := ag_ok hn h2 R
  have hokU := hok.2.2.2.2.1
  have hokV := hok.2.2.2.2.2
  refine xl_a1 dL_law_357 ?_
  refine xl_rd 1 rfl dL_law_358 dL_law_359 dL_law_360 dL_law_361 dL_law_362 (by omega) hL ?_
  refine xl_rd 2 rfl dL_law_363 dL_law_364 dL_law_365 dL_law_366 dL_law_367 (by omega) hL ?_
  refine xl_call2 (M' := mX8_order) (ci := 7) (r0 := (RX8, TX8, 8)) dL_law_368 wm_L_64 cv_X8_order wi_X8_order wl_X8_order ?_ hcs hss rfl rfl hX.1 (Nat.le_of_ble_eq_true rfl) (y_X8_order 0 hn h2 hX hok.1 hok.2.1 hok.2.2.2.1) (fun _ _ z => z.2.2.1) (fun r z h => ?_)
  · omega
  obtain ⟨rfl, hX2, hf2⟩ := h
  have hA2 := hA.ext (h := z) (fun k hk => hf2.2 k (fun q => by have a1 := hk.1; have a2 := q.2; omega))
  refine xl_a2 dL_law_371 ?_
  refine xl_rd 1 rfl dL_law_372 dL_law_373 dL_law_374 dL_law_375 dL_law_376 (by omega) hL ?_
  refine xl_rd 2 rfl dL_law_377 dL_law_378 dL_law_379 dL_law_380 dL_law_381 (by omega) hL ?_
  obtain ⟨sm, hO⟩ := hA2.1
  refine xl_call2 (M' := mX9_order) (ci := 8) (r0 := (RX9, TX9, 25)) dL_law_382 wm_L_67 cv_X9_order wi_X9_order wl_X9_order ?_ hcs hss rfl rfl hO (Nat.le_of_ble_eq_true rfl) (y_X9_order 0 hn h2 hA2 hok.2.2.1) (fun _ _ z => z.2.2.1) (fun r z2 h => ?_)
  · omega
  obtain ⟨rfl, hA3, hf3⟩ := h
  have hX3 := hX2.ext (h := z2) h2 (fun k hk => hf3.2 k (fun q => by have a1 := hk.2; have a2 := q.1; omega))
  exact xl_eq 568 dL_law_385 (by decide) (ag_order hn h2 R _ _) (K _ _ _ _ _ _ R hX3 hA3)

set_option maxHeartbeats 4000000 in
set_option maxRecDepth 100000 in
theorem law_least {b L : Nat} {xs : Nat → Int32} {x m0 i cs ss : Nat} {hs : xk_H} {n fl fv : Nat} {w v : tbW} {T : mdT} (hL : L ≤ 2561) (hi : i + 5 ≤ L) (hn : n ≤ 6) (h2 : 2 ≤ n) (hcs : cs ≤ 600000) (hss : ss ≤ 7302250) (hdj : x + 5 * n + 19 ≤ m0) (R : rel n w fl v fv T) (hX : xsA hs x n w fl v fv) (hA : mdA hs m0 n T) (K : ∀ (h : xk_H) (w' : tbW) (fl' : Nat) (v' : tbW) (fv' : Nat) (T' : mdT), rel n w' fl' v' fv' T' → xsA h x n w' fl' v' fv' → mdA h m0 n T' → xl_X b L xs x m0 i cs ss 568 [] h) : xl_X b L xs x m0 i cs ss 390 [] hs := by
  have hok := ag_ok hn h2 R
  have hokU := hok.2.2.2.2.1
  have hokV := hok.2.2.2.2.2
  refine xl_a1 dL_law_390 ?_
  refine xl_rd 1 rfl dL_law_391 dL_law_392 dL_law_393 dL_law_394 dL_law_395 (by omega) hL ?_
  refine xl_call1 (M' := mX8_least) (ci := 7) (r0 := (RX8, TX8, 8)) dL_law_396 wm_L_68 cv_X8_least wi_X8_least wl_X8_least ?_ hcs hss rfl rfl hX.1 (Nat.le_of_ble_eq_true rfl) (y_X8_least 0 hn h2 hX hok.1 hok.2.1) (fun _ _ z => z.2.2.1) (fun r z h => ?_)
  · omega
  obtain ⟨⟨g, -, rfl⟩, hX2, hf2⟩ := h
  have hA2 := hA.ext (h := z) (fun k hk => hf2.2 k (fun q => by have a1 := hk.1; have a2 := q.2; omega))
  refine xl_a2 dL_law_399 ?_
  refine xl_rd 1 rfl dL_law_400 dL_law_401 dL_law_402 dL_law_403 dL_law_404 (by omega) hL ?_
  obtain ⟨sm, hO⟩ := hA2.1
  refine xl_call1 (M' := mX9_least) (ci := 8) (r0 := (RX9, TX9, 25)) dL_law_405 wm_L_71 cv_X9_least wi_X9_least wl_X9_least ?_ hcs hss rfl rfl hO (Nat.le_of_ble_eq_true rfl) (y_X9_least 0 hn h2 hA2 hok.2.2.1) (fun _ _ z => z.2.2.1) (fun r z2 h => ?_)
  · omega
  obtain ⟨rfl, hA3, hf3⟩ := h
  have hX3 := hX2.ext (h := z2) h2 (fun k hk => hf3.2 k (fun q => by have a1 := hk.2; have a2 := q.1; omega))
  exact xl_eq 568 dL_law_408 (by decide) (ag_least hn h2 R g _) (K _ _ _ _ _ _ R hX3 hA3)

set_option maxHeartbeats 4000000 in
set_option maxRecDepth 100000 in
theorem law_span {b L : Nat} {xs : Nat → Int32} {x m0 i cs ss : Nat} {hs : xk_H} {n fl fv : Nat} {w v : tbW} {T : mdT} (hL : L ≤ 2561) (hi : i + 5 ≤ L) (hn : n ≤ 6) (h2 : 2 ≤ n) (hcs : cs ≤ 600000) (hss : ss ≤ 7302250) (hdj : x + 5 * n + 19 ≤ m0) (R : rel n w fl v fv T) (hX : xsA hs x n w fl v fv) (hA : mdA hs m0 n T) (K : ∀ (h : xk_H) (w' : tbW) (fl' : Nat) (v' : tbW) (fv' : Nat) (T' : mdT), rel n w' fl' v' fv' T' → xsA h x n w' fl' v' fv' → mdA h m0 n T' → xl_X b L xs x m0 i cs ss 568 [] h) : xl_X b L xs x m0 i cs ss 413 [] hs := by
  have hok := ag_ok hn h2 R
  have hokU := hok.2.2.2.2.1
  have hokV := hok.2.2.2.2.2
  refine xl_a1 dL_law_413 ?_
  refine xl_rd 1 rfl dL_law_414 dL_law_415 dL_law_416 dL_law_417 dL_law_418 (by omega) hL ?_
  refine xl_rd 2 rfl dL_law_419 dL_law_420 dL_law_421 dL_law_422 dL_law_423 (by omega) hL ?_
  refine xl_rd 3 rfl dL_law_424 dL_law_425 dL_law_426 dL_law_427 dL_law_428 (by omega) hL ?_
  refine xl_call3 (M' := mX8_span) (ci := 7) (r0 := (RX8, TX8, 8)) dL_law_429 wm_L_72 cv_X8_span wi_X8_span wl_X8_span ?_ hcs hss rfl rfl hX.1 (Nat.le_of_ble_eq_true rfl) (y_X8_span 0 hn h2 hX hok.1 hok.2.1) (fun _ _ z => z.2.2.1) (fun r z h => ?_)
  · omega
  obtain ⟨rfl, hX2, hf2⟩ := h
  have hA2 := hA.ext (h := z) (fun k hk => hf2.2 k (fun q => by have a1 := hk.1; have a2 := q.2; omega))
  refine xl_a2 dL_law_432 ?_
  refine xl_rd 1 rfl dL_law_433 dL_law_434 dL_law_435 dL_law_436 dL_law_437 (by omega) hL ?_
  refine xl_rd 2 rfl dL_law_438 dL_law_439 dL_law_440 dL_law_441 dL_law_442 (by omega) hL ?_
  refine xl_rd 3 rfl dL_law_443 dL_law_444 dL_law_445 dL_law_446 dL_law_447 (by omega) hL ?_
  obtain ⟨sm, hO⟩ := hA2.1
  refine xl_call3 (M' := mX9_span) (ci := 8) (r0 := (RX9, TX9, 25)) dL_law_448 wm_L_76 cv_X9_span wi_X9_span wl_X9_span ?_ hcs hss rfl rfl hO (Nat.le_of_ble_eq_true rfl) (y_X9_span 0 hn h2 hA2 hok.2.2.1) (fun _ _ z => z.2.2.1) (fun r z2 h => ?_)
  · omega
  obtain ⟨rfl, hA3, hf3⟩ := h
  have hX3 := hX2.ext (h := z2) h2 (fun k hk => hf3.2 k (fun q => by have a1 := hk.2; have a2 := q.1; omega))
  exact xl_eq 568 dL_law_451 (by decide) rfl (K _ _ _ _ _ _ (ag_span hn h2 R (xs (i + 1)) (xs (i + 2)) (xs (i + 3))) hX3 hA3)

set_option maxHeartbeats 4000000 in
set_option maxRecDepth 100000 in
theorem law_unspan {b L : Nat} {xs : Nat → Int32} {x m0 i cs ss : Nat} {hs : xk_H} {n fl fv : Nat} {w v : tbW} {T : mdT} (hL : L ≤ 2561) (hi : i + 5 ≤ L) (hn : n ≤ 6) (h2 : 2 ≤ n) (hcs : cs ≤ 600000) (hss : ss ≤ 7302250) (hdj : x + 5 * n + 19 ≤ m0) (R : rel n w fl v fv T) (hX : xsA hs x n w fl v fv) (hA : mdA hs m0 n T) (K : ∀ (h : xk_H) (w' : tbW) (fl' : Nat) (v' : tbW) (fv' : Nat) (T' : mdT), rel n w' fl' v' fv' T' → xsA h x n w' fl' v' fv' → mdA h m0 n T' → xl_X b L xs x m0 i cs ss 568 [] h) : xl_X b L xs x m0 i cs ss 456 [] hs := by
  have hok := ag_ok hn h2 R
  have hokU := hok.2.2.2.2.1
  have hokV := hok.2.2.2.2.2
  refine xl_a1 dL_law_456 ?_
  refine xl_rd 1 rfl dL_law_457 dL_law_458 dL_law_459 dL_law_460 dL_law_461 (by omega) hL ?_
  refine xl_rd 2 rfl dL_law_462 dL_law_463 dL_law_464 dL_law_465 dL_law_466 (by omega) hL ?_
  refine xl_call2 (M' := mX8_unspan) (ci := 7) (r0 := (RX8, TX8, 8)) dL_law_467 wm_L_77 cv_X8_unspan wi_X8_unspan wl_X8_unspan ?_ hcs hss rfl rfl hX.1 (Nat.le_of_ble_eq_true rfl) (y_X8_unspan 0 hn h2 hX hok.1 hok.2.1 (hokV _ _)) (fun _ _ z => z.2.2.1) (fun r z h => ?_)
  · omega
  obtain ⟨rfl, hX2, hf2⟩ := h
  have hA2 := hA.ext (h := z) (fun k hk => hf2.2 k (fun q => by have a1 := hk.1; have a2 := q.2; omega))
  refine xl_a2 dL_law_470 ?_
  refine xl_rd 1 rfl dL_law_471 dL_law_472 dL_law_473 dL_law_474 dL_law_475 (by omega) hL ?_
  refine xl_rd 2 rfl dL_law_476 dL_law_477 dL_law_478 dL_law_479 dL_law_480 (by omega) hL ?_
  obtain ⟨sm, hO⟩ := hA2.1
  refine xl_call2 (M' := mX9_unspan) (ci := 8) (r0 := (RX9, TX9, 25)) dL_law_481 wm_L_80 cv_X9_unspan wi_X9_unspan wl_X9_unspan ?_ hcs hss rfl rfl hO (Nat.le_of_ble_eq_true rfl) (y_X9_unspan 0 hn h2 hA2 hok.2.2.1) (fun _ _ z => z.2.2.1) (fun r z2 h => ?_)
  · omega
  obtain ⟨rfl, hA3, hf3⟩ := h
  have hX3 := hX2.ext (h := z2) h2 (fun k hk => hf3.2 k (fun q => by have a1 := hk.2; have a2 := q.1; omega))
  exact xl_eq 568 dL_law_484 (by decide) (congrArg xk_b (ag_hasv hn h2 R (xs (i + 1)) (xs (i + 2)))) (K _ _ _ _ _ _ (ag_unspan hn h2 R (xs (i + 1)) (xs (i + 2))) hX3 hA3)

set_option maxHeartbeats 4000000 in
set_option maxRecDepth 100000 in
theorem law_can {b L : Nat} {xs : Nat → Int32} {x m0 i cs ss : Nat} {hs : xk_H} {n fl fv : Nat} {w v : tbW} {T : mdT} (hL : L ≤ 2561) (hi : i + 5 ≤ L) (hn : n ≤ 6) (h2 : 2 ≤ n) (hcs : cs ≤ 600000) (hss : ss ≤ 7302250) (hdj : x + 5 * n + 19 ≤ m0) (R : rel n w fl v fv T) (hX : xsA hs x n w fl v fv) (hA : mdA hs m0 n T) (K : ∀ (h : xk_H) (w' : tbW) (fl' : Nat) (v' : tbW) (fv' : Nat) (T' : mdT), rel n w' fl' v' fv' T' → xsA h x n w' fl' v' fv' → mdA h m0 n T' → xl_X b L xs x m0 i cs ss 568 [] h) : xl_X b L xs x m0 i cs ss 489 [] hs := by
  have hok := ag_ok hn h2 R
  have hokU := hok.2.2.2.2.1
  have hokV := hok.2.2.2.2.2
  refine xl_a1 dL_law_489 ?_
  refine xl_call0 (M' := mX8_can) (ci := 7) (r0 := (RX8, TX8, 8)) dL_law_490 wm_L_81 cv_X8_can wi_X8_can wl_X8_can ?_ hcs hss rfl rfl hX.1 (Nat.le_of_ble_eq_true rfl) (y_X8_can 0 hn h2 hX hok.1 hok.2.1) (fun _ _ z => z.2.2.1) (fun r z h => ?_)
  · omega
  obtain ⟨⟨g, -, rfl⟩, hX2, hf2⟩ := h
  have hA2 := hA.ext (h := z) (fun k hk => hf2.2 k (fun q => by have a1 := hk.1; have a2 := q.2; omega))
  refine xl_a2 dL_law_493 ?_
  obtain ⟨sm, hO⟩ := hA2.1
  refine xl_call0 (M' := mX9_can) (ci := 8) (r0 := (RX9, TX9, 25)) dL_law_494 wm_L_84 cv_X9_can wi_X9_can wl_X9_can ?_ hcs hss rfl rfl hO (Nat.le_of_ble_eq_true rfl) (y_X9_can 0 hn h2 hA2 hok.2.2.1) (fun _ _ z => z.2.2.2.1) (fun r z2 h => ?_)
  · omega
  obtain ⟨rfl, hN⟩ := h
  have hA3 := hN.toA hA2
  have hf3 := hN.fr
  have hX3 := hX2.ext (h := z2) h2 (fun k hk => hf3.2 k (fun q => by have a1 := hk.2; have a2 := q.1; omega))
  exact xl_eq 568 dL_law_497 (by decide) (congrArg xk_b (ag_can hn h2 R g)) (K _ _ _ _ _ _ R hX3 hA3)

set_option maxHeartbeats 4000000 in
set_option maxRecDepth 100000 in
theorem law_bound {b L : Nat} {xs : Nat → Int32} {x m0 i cs ss : Nat} {hs : xk_H} {n fl fv : Nat} {w v : tbW} {T : mdT} (hL : L ≤ 2561) (hi : i + 5 ≤ L) (hn : n ≤ 6) (h2 : 2 ≤ n) (hcs : cs ≤ 600000) (hss : ss ≤ 7302250) (hdj : x + 5 * n + 19 ≤ m0) (R : rel n w fl v fv T) (hX : xsA hs x n w fl v fv) (hA : mdA hs m0 n T) (K : ∀ (h : xk_H) (w' : tbW) (fl' : Nat) (v' : tbW) (fv' : Nat) (T' : mdT), rel n w' fl' v' fv' T' → xsA h x n w' fl' v' fv' → mdA h m0 n T' → xl_X b L xs x m0 i cs ss 568 [] h) : xl_X b L xs x m0 i cs ss 502 [] hs := by
  have hok := ag_ok hn h2 R
  have hokU := hok.2.2.2.2.1
  have hokV := hok.2.2.2.2.2
  refine xl_a1 dL_law_502 ?_
  refine xl_rd 1 rfl dL_law_503 dL_law_504 dL_law_505 dL_law_506 dL_law_507 (by omega) hL ?_
  refine xl_rd 2 rfl dL_law_508 dL_law_509 dL_law_510 dL_law_511 dL_law_512 (by omega) hL ?_
  refine xl_rd 3 rfl dL_law_513 dL_law_514 dL_law_515 dL_law_516 dL_law_517 (by omega) hL ?_
  refine xl_call3 (M' := mX8_bound) (ci := 7) (r0 := (RX8, TX8, 8)) dL_law_518 wm_L_85 cv_X8_bound wi_X8_bound wl_X8_bound ?_ hcs hss rfl rfl hX.1 (Nat.le_of_ble_eq_true rfl) (y_X8_bound 0 hn h2 hX hok.1 hok.2.1) (fun _ _ z => z.2.2.1) (fun r z h => ?_)
  · omega
  obtain ⟨⟨g, -, rfl⟩, hX2, hf2⟩ := h
  have hA2 := hA.ext (h := z) (fun k hk => hf2.2 k (fun q => by have a1 := hk.1; have a2 := q.2; omega))
  refine xl_a2 dL_law_521 ?_
  refine xl_rd 1 rfl dL_law_522 dL_law_523 dL_law_524 dL_law_525 dL_law_526 (by omega) hL ?_
  refine xl_rd 2 rfl dL_law_527 dL_law_528 dL_law_529 dL_law_530 dL_law_531 (by omega) hL ?_
  refine xl_rd 3 rfl dL_law_532 dL_law_533 dL_law_534 dL_law_535 dL_law_536 (by omega) hL ?_
  obtain ⟨sm, hO⟩ := hA2.1
  refine xl_call3 (M' := mX9_bound) (ci := 8) (r0 := (RX9, TX9, 25)) dL_law_537 wm_L_88 cv_X9_bound wi_X9_bound wl_X9_bound ?_ hcs hss rfl rfl hO (Nat.le_of_ble_eq_true rfl) (y_X9_bound 0 hn h2 hA2 hok.2.2.1) (fun _ _ z => z.2.2.1) (fun r z2 h => ?_)
  · omega
  obtain ⟨rfl, hA3, hf3⟩ := h
  have hX3 := hX2.ext (h := z2) h2 (fun k hk => hf3.2 k (fun q => by have a1 := hk.2; have a2 := q.1; omega))
  exact xl_eq 568 dL_law_540 (by decide) (ag_bound hn h2 R g _ _ _) (K _ _ _ _ _ _ R hX3 hA3)

set_option maxHeartbeats 4000000 in
set_option maxRecDepth 100000 in
theorem law_count {b L : Nat} {xs : Nat → Int32} {x m0 i cs ss : Nat} {hs : xk_H} {n fl fv : Nat} {w v : tbW} {T : mdT} (hL : L ≤ 2561) (hi : i + 5 ≤ L) (hn : n ≤ 6) (h2 : 2 ≤ n) (hcs : cs ≤ 600000) (hss : ss ≤ 7302250) (hdj : x + 5 * n + 19 ≤ m0) (R : rel n w fl v fv T) (hX : xsA hs x n w fl v fv) (hA : mdA hs m0 n T) (K : ∀ (h : xk_H) (w' : tbW) (fl' : Nat) (v' : tbW) (fv' : Nat) (T' : mdT), rel n w' fl' v' fv' T' → xsA h x n w' fl' v' fv' → mdA h m0 n T' → xl_X b L xs x m0 i cs ss 568 [] h) : xl_X b L xs x m0 i cs ss 545 [] hs := by
  have hok := ag_ok hn h2 R
  have hokU := hok.2.2.2.2.1
  have hokV := hok.2.2.2.2.2
  refine xl_a1 dL_law_545 ?_
  refine xl_rd 1 rfl dL_law_546 dL_law_547 dL_law_548 dL_law_549 dL_law_550 (by omega) hL ?_
  refine xl_call1 (M' := mX8_count) (ci := 7) (r0 := (RX8, TX8, 8)) dL_law_551 wm_L_89 cv_X8_count wi_X8_count wl_X8_count ?_ hcs hss rfl rfl hX.1 (Nat.le_of_ble_eq_true rfl) (y_X8_count 0 hn h2 hX hok.1 hok.2.1) (fun _ _ z => z.2.2.1) (fun r z h => ?_)
  · omega
  obtain ⟨rfl, hX2, hf2⟩ := h
  have hA2 := hA.ext (h := z) (fun k hk => hf2.2 k (fun q => by have a1 := hk.1; have a2 := q.2; omega))
  refine xl_a2 dL_law_554 ?_
  refine xl_rd 1 rfl dL_law_555 dL_law_556 dL_law_557 dL_law_558 dL_law_559 (by omega) hL ?_
  obtain ⟨sm, hO⟩ := hA2.1
  refine xl_call1 (M' := mX9_count) (ci := 8) (r0 := (RX9, TX9, 25)) dL_law_560 wm_L_92 cv_X9_count wi_X9_count wl_X9_count ?_ hcs hss rfl rfl hO (Nat.le_of_ble_eq_true rfl) (y_X9_count 0 hn h2 hA2 hok.2.2.1) (fun _ _ z => z.2.2.1) (fun r z2 h => ?_)
  · omega
  obtain ⟨rfl, hA3, hf3⟩ := h
  have hX3 := hX2.ext (h := z2) h2 (fun k hk => hf3.2 k (fun q => by have a1 := hk.2; have a2 := q.1; omega))
  exact xl_eq 568 dL_law_563 (by decide) (ag_count hn h2 R _) (K _ _ _ _ _ _ R hX3 hA3)

set_option maxHeartbeats 4000000 in
set_option maxRecDepth 100000 in
theorem law_loop {b L : Nat} {xs : Nat → Int32} {x m0 cs ss n : Nat} (hL : L ≤ 2561) (hn : n ≤ 6) (h2 : 2 ≤ n) (hcs : cs ≤ 600000) (hss : ss ≤ 7302250) (hdj : x + 5 * n + 19 ≤ m0) : ∀ (r i : Nat) (hs : xk_H) (w : tbW) (fl : Nat) (v : tbW) (fv : Nat) (T : mdT), i + 5 * r ≤ 9000 → 2561 < i + 5 * r + 5 → rel n w fl v fv T → xsA hs x n w fl v fv → mdA hs m0 n T → xl_X b L xs x m0 i cs ss 28 [] hs := by
  intro r
  induction r with
  | zero =>
    intro i hs w fl v fv T h1 h3 R hX hA
    exact xl_head hL (by omega) hcs hss (fun hi => absurd hi (by omega))
  | succ r ih =>
    intro i hs w fl v fv T h1 h3 R hX hA
    refine xl_head hL (by omega) hcs hss (fun hi => ?_)
    have K : ∀ (h : xk_H) (w' : tbW) (fl' : Nat) (v' : tbW) (fv' : Nat) (T' : mdT), rel n w' fl' v' fv' T' → xsA h x n w' fl' v' fv' → mdA h m0 n T' → xl_X b L xs x m0 i cs ss 568 [] h := fun h w' fl' v' fv' T' R' hX' hA' => xl_next (by omega) (ih (i + 5) h w' fl' v' fv' T' (by omega) (by omega) R' hX' hA')
    refine xl_switch hL (by omega) (fun k off tgt hk ho ht => ?_)
    match k, hk with
    | 0, _ =>
      have ho2 : some (78 : Int) = some off := ho
      obtain rfl : (78 : Int) = off := Option.some.inj ho2
      obtain rfl : tgt = 120 := by omega
      exact law_say hL hi hn h2 hcs hss hdj R hX hA K
    | 1, _ =>
      have ho2 : some (131 : Int) = some off := ho
      obtain rfl : (131 : Int) = off := Option.some.inj ho2
      obtain rfl : tgt = 173 := by omega
      exact law_unsay hL hi hn h2 hcs hss hdj R hX hA K
    | 2, _ =>
      have ho2 : some (164 : Int) = some off := ho
      obtain rfl : (164 : Int) = off := Option.some.inj ho2
      obtain rfl : tgt = 206 := by omega
      exact law_said hL hi hn h2 hcs hss hdj R hX hA K
    | 3, _ =>
      have ho2 : some (207 : Int) = some off := ho
      obtain rfl : (207 : Int) = off := Option.some.inj ho2
      obtain rfl : tgt = 249 := by omega
      exact law_even hL hi hn h2 hcs hss hdj R hX hA K
    | 4, _ =>
      have ho2 : some (220 : Int) = some off := ho
      obtain rfl : (220 : Int) = off := Option.some.inj ho2
      obtain rfl : tgt = 262 := by omega
      exact law_worst hL hi hn h2 hcs hss hdj R hX hA K
    | 5, _ =>
      have ho2 : some (243 : Int) = some off := ho
      obtain rfl : (243 : Int) = off := Option.some.inj ho2
      obtain rfl : tgt = 285 := by omega
      exact law_trees hL hi hn h2 hcs hss hdj R hX hA K
    | 6, _ =>
      have ho2 : some (256 : Int) = some off := ho
      obtain rfl : (256 : Int) = off := Option.some.inj ho2
      obtain rfl : tgt = 298 := by omega
      exact law_few hL hi hn h2 hcs hss hdj R hX hA K
    | 7, _ =>
      have ho2 : some (269 : Int) = some off := ho
      obtain rfl : (269 : Int) = off := Option.some.inj ho2
      obtain rfl : tgt = 311 := by omega
      exact law_left hL hi hn h2 hcs hss hdj R hX hA K
    | 8, _ =>
      have ho2 : some (282 : Int) = some off := ho
      obtain rfl : (282 : Int) = off := Option.some.inj ho2
      obtain rfl : tgt = 324 := by omega
      exact law_row hL hi hn h2 hcs hss hdj R hX hA K
    | 9, _ =>
      have ho2 : some (315 : Int) = some off := ho
      obtain rfl : (315 : Int) = off := Option.some.inj ho2
      obtain rfl : tgt = 357 := by omega
      exact law_order hL hi hn h2 hcs hss hdj R hX hA K
    | 10, _ =>
      have ho2 : some (348 : Int) = some off := ho
      obtain rfl : (348 : Int) = off := Option.some.inj ho2
      obtain rfl : tgt = 390 := by omega
      exact law_least hL hi hn h2 hcs hss hdj R hX hA K
    | 11, _ =>
      have ho2 : some (371 : Int) = some off := ho
      obtain rfl : (371 : Int) = off := Option.some.inj ho2
      obtain rfl : tgt = 413 := by omega
      exact law_span hL hi hn h2 hcs hss hdj R hX hA K
    | 12, _ =>
      have ho2 : some (414 : Int) = some off := ho
      obtain rfl : (414 : Int) = off := Option.some.inj ho2
      obtain rfl : tgt = 456 := by omega
      exact law_unspan hL hi hn h2 hcs hss hdj R hX hA K
    | 13, _ =>
      have ho2 : some (447 : Int) = some off := ho
      obtain rfl : (447 : Int) = off := Option.some.inj ho2
      obtain rfl : tgt = 489 := by omega
      exact law_can hL hi hn h2 hcs hss hdj R hX hA K
    | 14, _ =>
      have ho2 : some (460 : Int) = some off := ho
      obtain rfl : (460 : Int) = off := Option.some.inj ho2
      obtain rfl : tgt = 502 := by omega
      exact law_bound hL hi hn h2 hcs hss hdj R hX hA K
    | 15, _ =>
      have ho2 : some (503 : Int) = some off := ho
      obtain rfl : (503 : Int) = off := Option.some.inj ho2
      obtain rfl : tgt = 545 := by omega
      exact law_count hL hi hn h2 hcs hss hdj R hX hA K
    | k + 16, h => exact absurd h (by omega)

