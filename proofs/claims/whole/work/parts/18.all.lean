theorem am_ML_okb : (List.range am_ML.length).all (fun e => match am_ML[e]?, am_MLp[e]? with
  | some x, some p => am_has [p] 0 (.methodLink (am_rn x.1) x.2.1 (am_G x.2.2).1)
  | _, _ => false) = true := by decide +kernel
theorem am_ML_ok : ∀ (a b k : Nat), (a, b, k) ∈ am_ML → Cond.methodLink (am_rn a) b (am_G k).1 ∈ am_w := by
  intro a b k h
  obtain ⟨e, he⟩ := List.getElem?_of_mem h
  have h4 := List.all_eq_true.mp am_ML_okb e (List.mem_range.mpr (List.getElem?_eq_some_iff.mp he).1)
  rw [he] at h4
  cases hp : am_MLp[e]? with
  | none => rw [hp] at h4; cases h4
  | some p =>
    rw [hp] at h4
    exact am_has_mem h4
theorem am_all (m : Nat) : am_ok am_G (am_G m) := by
  refine am_okb_of ?_
  have key : ∀ (a n : Nat), (List.range' a n).all (fun m => am_okb (am_G m)) = true → a ≤ m → m < a + n → am_okb (am_G m) = true := fun a n h h1 h2 => List.all_eq_true.mp h m (List.mem_range'_1.mpr ⟨h1, h2⟩)
  by_cases h0 : m < 17
  · exact key 0 17 amk_0 (by omega) (by omega)
  by_cases h1 : m < 26
  · exact key 17 9 amk_1 (by omega) (by omega)
  by_cases h2 : m < 37
  · exact key 26 11 amk_2 (by omega) (by omega)
  by_cases h3 : m < 46
  · exact key 37 9 amk_3 (by omega) (by omega)
  by_cases h4 : m < 58
  · exact key 46 12 amk_4 (by omega) (by omega)
  by_cases h5 : m < 68
  · exact key 58 10 amk_5 (by omega) (by omega)
  by_cases h6 : m < 76
  · exact key 68 8 amk_6 (by omega) (by omega)
  by_cases h7 : m < 89
  · exact key 76 13 amk_7 (by omega) (by omega)
  by_cases h8 : m < 103
  · exact key 89 14 amk_8 (by omega) (by omega)
  by_cases h9 : m < 113
  · exact key 103 10 amk_9 (by omega) (by omega)
  by_cases h10 : m < 125
  · exact key 113 12 amk_10 (by omega) (by omega)
  by_cases h11 : m < 138
  · exact key 125 13 amk_11 (by omega) (by omega)
  by_cases h12 : m < 149
  · exact key 138 11 amk_12 (by omega) (by omega)
  by_cases h13 : m < 159
  · exact key 149 10 amk_13 (by omega) (by omega)
  by_cases h14 : m < 172
  · exact key 159 13 amk_14 (by omega) (by omega)
  by_cases h15 : m < 189
  · exact key 172 17 amk_15 (by omega) (by omega)
  by_cases h16 : m < 207
  · exact key 189 18 amk_16 (by omega) (by omega)
  by_cases h17 : m < 214
  · exact key 207 7 amk_17 (by omega) (by omega)
  by_cases h18 : m < 235
  · exact key 214 21 amk_18 (by omega) (by omega)
  by_cases h19 : m < 240
  · exact key 235 5 amk_19 (by omega) (by omega)
  by_cases h20 : m < 251
  · exact key 240 11 amk_20 (by omega) (by omega)
  by_cases h21 : m < 267
  · exact key 251 16 amk_21 (by omega) (by omega)
  by_cases h22 : m < 280
  · exact key 267 13 amk_22 (by omega) (by omega)
  by_cases h23 : m < 288
  · exact key 280 8 amk_23 (by omega) (by omega)
  by_cases h24 : m < 298
  · exact key 288 10 amk_24 (by omega) (by omega)
  by_cases h25 : m < 310
  · exact key 298 12 amk_25 (by omega) (by omega)
  by_cases h26 : m < 319
  · exact key 310 9 amk_26 (by omega) (by omega)
  by_cases h27 : m < 327
  · exact key 319 8 amk_27 (by omega) (by omega)
  by_cases h28 : m < 336
  · exact key 327 9 amk_28 (by omega) (by omega)
  by_cases h29 : m < 346
  · exact key 336 10 amk_29 (by omega) (by omega)
  by_cases h30 : m < 363
  · exact key 346 17 amk_30 (by omega) (by omega)
  have hd : am_G m = (⟨"", "", ""⟩, ⟨#[]⟩, 0, none, [], 0, 0, (0, 3, 0, [])) := by
    unfold am_G
    rw [List.getD_eq_getElem?_getD, List.getElem?_eq_none]
    · rfl
    · have : am_GL.length = 363 := by decide +kernel
      omega
  rw [hd]
  rfl
