/-! Math.max and min, over the abstract heap. Own text. -/
section XKG
variable {d mc ms : Nat} {M : xk_M} {fx : Nat → Prop} {out : Option Value → xk_H → Prop} {cs ss pc : Nat} {ls : List (Option Value)} {st : List Value} {hs : xk_H}
theorem xk_mmax {index : Nat} {x y : Int32} (hd : decode M.2.1 pc = .ok (.invokestatic index, 3)) (hlk : Cond.methodLink M.1.cls index Lib.Math.max.name ∈ xk_WS) (h1 : 1 ≤ d) (hcs : cs ≤ mc) (hss : ss ≤ ms) (hcat : (st.map fun v => v.category).sum ≤ 8) (kk : xk_X d mc ms M fx out cs ss (pc + 3) ls (.int (if x < y then y else x) :: st) hs) : xk_X d mc ms M fx out cs ss pc ls (.int y :: .int x :: st) hs := by
  intro G ad0 ad p l e s m args below meth c A H locs la C hf hP hD hS hl O
  have hcat' : ((st.map (xk_v ad)).map fun v => v.category).sum ≤ 8 := by
    rw [List.map_map]
    have : ((fun v : Value => v.category) ∘ xk_v ad) = fun v => v.category := funext fun v => xk_cat ad v
    rw [this]
    exact hcat
  have hts := C.2.2.2.2.1
  exact va_mmax C.1 C.2.1 (by rw [C.2.2.1]; exact hl.1.symm) C.2.2.2.2.2.1 (hts _ hlk) (hts _ wo_static_Lib_Math_max_name) (hts _ wo_initialized_java_lang_Math_) (hts _ wo_code_Lib_Math_max_name_Lib_Math_max_code_2_some_int_) h1 (by show _ + 13 ≤ 40 * d; omega) hcs hss hd (kk G ad0 ad p l e s m args below meth c A H locs la C hf hP hD hS hl ⟨O.1, xk_cs trivial (xk_tl (xk_tl O.2.1)), O.2.2⟩)
theorem xk_mmin {index : Nat} {x y : Int32} (hd : decode M.2.1 pc = .ok (.invokestatic index, 3)) (hlk : Cond.methodLink M.1.cls index Lib.Math.min.name ∈ xk_WS) (h1 : 1 ≤ d) (hcs : cs ≤ mc) (hss : ss ≤ ms) (hcat : (st.map fun v => v.category).sum ≤ 8) (kk : xk_X d mc ms M fx out cs ss (pc + 3) ls (.int (if y < x then y else x) :: st) hs) : xk_X d mc ms M fx out cs ss pc ls (.int y :: .int x :: st) hs := by
  intro G ad0 ad p l e s m args below meth c A H locs la C hf hP hD hS hl O
  have hcat' : ((st.map (xk_v ad)).map fun v => v.category).sum ≤ 8 := by
    rw [List.map_map]
    have : ((fun v : Value => v.category) ∘ xk_v ad) = fun v => v.category := funext fun v => xk_cat ad v
    rw [this]
    exact hcat
  have hts := C.2.2.2.2.1
  exact va_mmin C.1 C.2.1 (by rw [C.2.2.1]; exact hl.1.symm) C.2.2.2.2.2.1 (hts _ hlk) (hts _ wo_static_Lib_Math_min_name) (hts _ wo_initialized_java_lang_Math_) (hts _ wo_code_Lib_Math_min_name_Lib_Math_min_code_2_some_int_) h1 (by show _ + 13 ≤ 40 * d; omega) hcs hss hd (kk G ad0 ad p l e s m args below meth c A H locs la C hf hP hD hS hl ⟨O.1, xk_cs trivial (xk_tl (xk_tl O.2.1)), O.2.2⟩)
theorem xk_mmax_long {index : Nat} {x y : Int64} (hd : decode M.2.1 pc = .ok (.invokestatic index, 3)) (hlk : Cond.methodLink M.1.cls index Lib.MathLoose.max_long.x ∈ xk_WS) (h1 : 1 ≤ d) (hcs : cs ≤ mc) (hss : ss ≤ ms) (hcat : (st.map fun v => v.category).sum ≤ 8) (kk : xk_X d mc ms M fx out cs ss (pc + 3) ls (.long (if y < x then x else y) :: st) hs) : xk_X d mc ms M fx out cs ss pc ls (.long y :: .long x :: st) hs := by
  intro G ad0 ad p l e s m args below meth c A H locs la C hf hP hD hS hl O
  have hcat' : ((st.map (xk_v ad)).map fun v => v.category).sum ≤ 8 := by
    rw [List.map_map]
    have : ((fun v : Value => v.category) ∘ xk_v ad) = fun v => v.category := funext fun v => xk_cat ad v
    rw [this]
    exact hcat
  have hts := C.2.2.2.2.1
  exact va_mmax_long C.1 C.2.1 (by rw [C.2.2.1]; exact hl.1.symm) C.2.2.2.2.2.1 (hts _ hlk) (hts _ wo_static_Lib_MathLoose_max_long_x) (hts _ wo_initialized_java_lang_Math_) (hts _ wo_code_Lib_MathLoose_max_long_x_Lib_MathLoose_max_long_code_4_) h1 (by show _ + 15 ≤ 40 * d; omega) hcs hss hd (kk G ad0 ad p l e s m args below meth c A H locs la C hf hP hD hS hl ⟨O.1, xk_cs trivial (xk_tl (xk_tl O.2.1)), O.2.2⟩)
theorem xk_mmin_long {index : Nat} {x y : Int64} (hd : decode M.2.1 pc = .ok (.invokestatic index, 3)) (hlk : Cond.methodLink M.1.cls index Lib.MathLoose.min_long.x ∈ xk_WS) (h1 : 1 ≤ d) (hcs : cs ≤ mc) (hss : ss ≤ ms) (hcat : (st.map fun v => v.category).sum ≤ 8) (kk : xk_X d mc ms M fx out cs ss (pc + 3) ls (.long (if y < x then y else x) :: st) hs) : xk_X d mc ms M fx out cs ss pc ls (.long y :: .long x :: st) hs := by
  intro G ad0 ad p l e s m args below meth c A H locs la C hf hP hD hS hl O
  have hcat' : ((st.map (xk_v ad)).map fun v => v.category).sum ≤ 8 := by
    rw [List.map_map]
    have : ((fun v : Value => v.category) ∘ xk_v ad) = fun v => v.category := funext fun v => xk_cat ad v
    rw [this]
    exact hcat
  have hts := C.2.2.2.2.1
  exact va_mmin_long C.1 C.2.1 (by rw [C.2.2.1]; exact hl.1.symm) C.2.2.2.2.2.1 (hts _ hlk) (hts _ wo_static_Lib_MathLoose_min_long_x) (hts _ wo_initialized_java_lang_Math_) (hts _ wo_code_Lib_MathLoose_min_long_x_Lib_MathLoose_min_long_code_4_) h1 (by show _ + 15 ≤ 40 * d; omega) hcs hss hd (kk G ad0 ad p l e s m args below meth c A H locs la C hf hP hD hS hl ⟨O.1, xk_cs trivial (xk_tl (xk_tl O.2.1)), O.2.2⟩)
end XKG
