set_option maxRecDepth 100000 in
theorem amb_213 : am_okb (am_G 213) = true := by
  refine am_okb_by (fun i hi => ?_) (by decide +kernel)
  have hl : (am_G 213).2.2.2.2.1.length = 373 := by decide +kernel
  have key : ∀ (a n : Nat), (List.range' a n).all (fun i => am_oki (am_G 213) i) = true → a ≤ i → i < a + n → am_oki (am_G 213) i = true := fun a n h h1 h2 => List.all_eq_true.mp h i (List.mem_range'_1.mpr ⟨h1, h2⟩)
  by_cases h0 : i < 80
  · exact key 0 80 amr_213_0 (by omega) (by omega)
  by_cases h80 : i < 160
  · exact key 80 80 amr_213_1 (by omega) (by omega)
  by_cases h160 : i < 240
  · exact key 160 80 amr_213_2 (by omega) (by omega)
  by_cases h240 : i < 320
  · exact key 240 80 amr_213_3 (by omega) (by omega)
  exact key 320 53 amr_213_4 (by omega) (by omega)
set_option maxRecDepth 100000 in
theorem amb_237 : am_okb (am_G 237) = true := by
  refine am_okb_by (fun i hi => ?_) (by decide +kernel)
  have hl : (am_G 237).2.2.2.2.1.length = 147 := by decide +kernel
  have key : ∀ (a n : Nat), (List.range' a n).all (fun i => am_oki (am_G 237) i) = true → a ≤ i → i < a + n → am_oki (am_G 237) i = true := fun a n h h1 h2 => List.all_eq_true.mp h i (List.mem_range'_1.mpr ⟨h1, h2⟩)
  by_cases h0 : i < 80
  · exact key 0 80 amr_237_0 (by omega) (by omega)
  exact key 80 67 amr_237_1 (by omega) (by omega)
set_option maxRecDepth 100000 in
theorem amb_239 : am_okb (am_G 239) = true := by
  refine am_okb_by (fun i hi => ?_) (by decide +kernel)
  have hl : (am_G 239).2.2.2.2.1.length = 192 := by decide +kernel
  have key : ∀ (a n : Nat), (List.range' a n).all (fun i => am_oki (am_G 239) i) = true → a ≤ i → i < a + n → am_oki (am_G 239) i = true := fun a n h h1 h2 => List.all_eq_true.mp h i (List.mem_range'_1.mpr ⟨h1, h2⟩)
  by_cases h0 : i < 80
  · exact key 0 80 amr_239_0 (by omega) (by omega)
  by_cases h80 : i < 160
  · exact key 80 80 amr_239_1 (by omega) (by omega)
  exact key 160 32 amr_239_2 (by omega) (by omega)
set_option maxRecDepth 100000 in
theorem amb_246 : am_okb (am_G 246) = true := by
  refine am_okb_by (fun i hi => ?_) (by decide +kernel)
  have hl : (am_G 246).2.2.2.2.1.length = 179 := by decide +kernel
  have key : ∀ (a n : Nat), (List.range' a n).all (fun i => am_oki (am_G 246) i) = true → a ≤ i → i < a + n → am_oki (am_G 246) i = true := fun a n h h1 h2 => List.all_eq_true.mp h i (List.mem_range'_1.mpr ⟨h1, h2⟩)
  by_cases h0 : i < 80
  · exact key 0 80 amr_246_0 (by omega) (by omega)
  by_cases h80 : i < 160
  · exact key 80 80 amr_246_1 (by omega) (by omega)
  exact key 160 19 amr_246_2 (by omega) (by omega)
set_option maxRecDepth 100000 in
theorem amb_287 : am_okb (am_G 287) = true := by
  refine am_okb_by (fun i hi => ?_) (by decide +kernel)
  have hl : (am_G 287).2.2.2.2.1.length = 130 := by decide +kernel
  have key : ∀ (a n : Nat), (List.range' a n).all (fun i => am_oki (am_G 287) i) = true → a ≤ i → i < a + n → am_oki (am_G 287) i = true := fun a n h h1 h2 => List.all_eq_true.mp h i (List.mem_range'_1.mpr ⟨h1, h2⟩)
  by_cases h0 : i < 80
  · exact key 0 80 amr_287_0 (by omega) (by omega)
  exact key 80 50 amr_287_1 (by omega) (by omega)
set_option maxRecDepth 100000 in
theorem amb_362 : am_okb (am_G 362) = true := by
  refine am_okb_by (fun i hi => ?_) (by decide +kernel)
  have hl : (am_G 362).2.2.2.2.1.length = 1355 := by decide +kernel
  have key : ∀ (a n : Nat), (List.range' a n).all (fun i => am_oki (am_G 362) i) = true → a ≤ i → i < a + n → am_oki (am_G 362) i = true := fun a n h h1 h2 => List.all_eq_true.mp h i (List.mem_range'_1.mpr ⟨h1, h2⟩)
  by_cases h0 : i < 80
  · exact key 0 80 amr_362_0 (by omega) (by omega)
  by_cases h80 : i < 160
  · exact key 80 80 amr_362_1 (by omega) (by omega)
  by_cases h160 : i < 240
  · exact key 160 80 amr_362_2 (by omega) (by omega)
  by_cases h240 : i < 320
  · exact key 240 80 amr_362_3 (by omega) (by omega)
  by_cases h320 : i < 400
  · exact key 320 80 amr_362_4 (by omega) (by omega)
  by_cases h400 : i < 480
  · exact key 400 80 amr_362_5 (by omega) (by omega)
  by_cases h480 : i < 560
  · exact key 480 80 amr_362_6 (by omega) (by omega)
  by_cases h560 : i < 640
  · exact key 560 80 amr_362_7 (by omega) (by omega)
  by_cases h640 : i < 720
  · exact key 640 80 amr_362_8 (by omega) (by omega)
  by_cases h720 : i < 800
  · exact key 720 80 amr_362_9 (by omega) (by omega)
  by_cases h800 : i < 880
  · exact key 800 80 amr_362_10 (by omega) (by omega)
  by_cases h880 : i < 960
  · exact key 880 80 amr_362_11 (by omega) (by omega)
  by_cases h960 : i < 1040
  · exact key 960 80 amr_362_12 (by omega) (by omega)
  by_cases h1040 : i < 1120
  · exact key 1040 80 amr_362_13 (by omega) (by omega)
  by_cases h1120 : i < 1200
  · exact key 1120 80 amr_362_14 (by omega) (by omega)
  by_cases h1200 : i < 1280
  · exact key 1200 80 amr_362_15 (by omega) (by omega)
  exact key 1280 75 amr_362_16 (by omega) (by omega)
theorem am_ML_okb : (List.range am_ML.length).all (fun e => match am_ML[e]?, am_MLp[e]? with
  | some x, some p => am_has [p] 0 (.methodLink (am_rn x.1) x.2.1 (am_G x.2.2).1)
  | _, _ => false) = true := by decide +kernel
theorem am_ML_ok : ∀ (a b k : Nat), (a, b, k) ∈ am_ML → Cond.methodLink (am_rn a) b (am_G k).1 ∈ am_w := by
  intro a b k h
  obtain ⟨e, he⟩ := List.getElem?_of_mem h
  have h4 := List.all_eq_true.mp am_ML_okb e (List.mem_range.mpr (List.getElem?_eq_some_iff.mp he).1)
  rw [he] at h4
  cases hp : am_MLp[e]? with
  | none => rw [hp] at h4; cases h4
  | some p =>
    rw [hp] at h4
    exact am_has_mem h4
theorem am_okb_of {g : am_M} (h : am_okb g = true) : am_ok am_G g := by
  simp only [am_okb, Bool.and_eq_true, List.all_eq_true, List.mem_range] at h
  obtain ⟨h1, h2⟩ := h
  refine ⟨fun i pc q hi => ?_, fun pc q hi => ?_⟩
  · have := h1 i (List.getElem?_eq_some_iff.mp hi).1
    rw [hi] at this
    exact this
  · rw [hi] at h2
    simp only [Bool.and_eq_true, beq_iff_eq] at h2
    exact h2
theorem am_all (m : Nat) : am_ok am_G (am_G m) := by
  refine am_okb_of ?_
  have key : ∀ (a n : Nat), (List.range' a n).all (fun m => am_okb (am_G m)) = true → a ≤ m → m < a + n → am_okb (am_G m) = true := fun a n h h1 h2 => List.all_eq_true.mp h m (List.mem_range'_1.mpr ⟨h1, h2⟩)
  by_cases h0 : m < 8
  · exact key 0 8 amk_0_ (by omega) (by omega)
  by_cases h8 : m < 15
  · exact key 8 7 amk_8_ (by omega) (by omega)
  by_cases h15 : m < 18
  · exact key 15 3 amk_15_ (by omega) (by omega)
  by_cases h18 : m < 22
  · exact key 18 4 amk_18_ (by omega) (by omega)
  by_cases h22 : m < 26
  · exact key 22 4 amk_22_ (by omega) (by omega)
  by_cases h26 : m < 33
  · exact key 26 7 amk_26_ (by omega) (by omega)
  by_cases h33 : m < 37
  · exact key 33 4 amk_33_ (by omega) (by omega)
  by_cases h37 : m < 42
  · exact key 37 5 amk_37_ (by omega) (by omega)
  by_cases h42 : m < 46
  · exact key 42 4 amk_42_ (by omega) (by omega)
  by_cases h46 : m < 49
  · exact key 46 3 amk_46_ (by omega) (by omega)
  by_cases h49 : m < 56
  · exact key 49 7 amk_49_ (by omega) (by omega)
  by_cases h56 : m < 61
  · exact key 56 5 amk_56_ (by omega) (by omega)
  by_cases h61 : m < 66
  · exact key 61 5 amk_61_ (by omega) (by omega)
  by_cases h66 : m < 71
  · exact key 66 5 amk_66_ (by omega) (by omega)
  by_cases h71 : m < 74
  · exact key 71 3 amk_71_ (by omega) (by omega)
  by_cases h74 : m < 78
  · exact key 74 4 amk_74_ (by omega) (by omega)
  by_cases h78 : m < 85
  · exact key 78 7 amk_78_ (by omega) (by omega)
  by_cases h85 : m < 88
  · exact key 85 3 amk_85_ (by omega) (by omega)
  by_cases h88 : m < 92
  · exact key 88 4 amk_88_ (by omega) (by omega)
  by_cases h92 : m < 98
  · exact key 92 6 amk_92_ (by omega) (by omega)
  by_cases h98 : m < 106
  · exact key 98 8 amk_98_ (by omega) (by omega)
  by_cases h106 : m < 109
  · exact key 106 3 amk_106_ (by omega) (by omega)
  by_cases h109 : m < 114
  · exact key 109 5 amk_109_ (by omega) (by omega)
  by_cases h114 : m < 118
  · exact key 114 4 amk_114_ (by omega) (by omega)
  by_cases h118 : m < 128
  · exact key 118 10 amk_118_ (by omega) (by omega)
  by_cases h128 : m < 134
  · exact key 128 6 amk_128_ (by omega) (by omega)
  by_cases h134 : m < 138
  · exact key 134 4 amk_134_ (by omega) (by omega)
  by_cases h138 : m < 143
  · exact key 138 5 amk_138_ (by omega) (by omega)
  by_cases h143 : m < 149
  · exact key 143 6 amk_143_ (by omega) (by omega)
  by_cases h149 : m < 153
  · exact key 149 4 amk_149_ (by omega) (by omega)
  by_cases h153 : m < 157
  · exact key 153 4 amk_153_ (by omega) (by omega)
  by_cases h157 : m < 163
  · exact key 157 6 amk_157_ (by omega) (by omega)
  by_cases h163 : m < 170
  · exact key 163 7 amk_163_ (by omega) (by omega)
  by_cases h170 : m < 174
  · exact key 170 4 amk_170_ (by omega) (by omega)
  by_cases h174 : m < 181
  · exact key 174 7 amk_174_ (by omega) (by omega)
  by_cases h181 : m < 189
  · exact key 181 8 amk_181_ (by omega) (by omega)
  by_cases h189 : m < 197
  · exact key 189 8 amk_189_ (by omega) (by omega)
  by_cases h197 : m < 203
  · exact key 197 6 amk_197_ (by omega) (by omega)
  by_cases h203 : m < 213
  · exact key 203 10 amk_203_ (by omega) (by omega)
  by_cases h213 : m < 214
  · have e : m = 213 := by omega
    rw [e]
    exact amb_213
  by_cases h214 : m < 226
  · exact key 214 12 amk_214_ (by omega) (by omega)
  by_cases h226 : m < 232
  · exact key 226 6 amk_226_ (by omega) (by omega)
  by_cases h232 : m < 236
  · exact key 232 4 amk_232_ (by omega) (by omega)
  by_cases h236 : m < 237
  · exact key 236 1 amk_236_ (by omega) (by omega)
  by_cases h237 : m < 238
  · have e : m = 237 := by omega
    rw [e]
    exact amb_237
  by_cases h238 : m < 239
  · exact key 238 1 amk_238_ (by omega) (by omega)
  by_cases h239 : m < 240
  · have e : m = 239 := by omega
    rw [e]
    exact amb_239
  by_cases h240 : m < 246
  · exact key 240 6 amk_240_ (by omega) (by omega)
  by_cases h246 : m < 247
  · have e : m = 246 := by omega
    rw [e]
    exact amb_246
  by_cases h247 : m < 254
  · exact key 247 7 amk_247_ (by omega) (by omega)
  by_cases h254 : m < 262
  · exact key 254 8 amk_254_ (by omega) (by omega)
  by_cases h262 : m < 266
  · exact key 262 4 amk_262_ (by omega) (by omega)
  by_cases h266 : m < 271
  · exact key 266 5 amk_266_ (by omega) (by omega)
  by_cases h271 : m < 278
  · exact key 271 7 amk_271_ (by omega) (by omega)
  by_cases h278 : m < 283
  · exact key 278 5 amk_278_ (by omega) (by omega)
  by_cases h283 : m < 287
  · exact key 283 4 amk_283_ (by omega) (by omega)
  by_cases h287 : m < 288
  · have e : m = 287 := by omega
    rw [e]
    exact amb_287
  by_cases h288 : m < 292
  · exact key 288 4 amk_288_ (by omega) (by omega)
  by_cases h292 : m < 296
  · exact key 292 4 amk_292_ (by omega) (by omega)
  by_cases h296 : m < 300
  · exact key 296 4 amk_296_ (by omega) (by omega)
  by_cases h300 : m < 306
  · exact key 300 6 amk_300_ (by omega) (by omega)
  by_cases h306 : m < 312
  · exact key 306 6 amk_306_ (by omega) (by omega)
  by_cases h312 : m < 314
  · exact key 312 2 amk_312_ (by omega) (by omega)
  by_cases h314 : m < 319
  · exact key 314 5 amk_314_ (by omega) (by omega)
  by_cases h319 : m < 324
  · exact key 319 5 amk_319_ (by omega) (by omega)
  by_cases h324 : m < 327
  · exact key 324 3 amk_324_ (by omega) (by omega)
  by_cases h327 : m < 331
  · exact key 327 4 amk_327_ (by omega) (by omega)
  by_cases h331 : m < 336
  · exact key 331 5 amk_331_ (by omega) (by omega)
  by_cases h336 : m < 340
  · exact key 336 4 amk_336_ (by omega) (by omega)
  by_cases h340 : m < 345
  · exact key 340 5 amk_340_ (by omega) (by omega)
  by_cases h345 : m < 349
  · exact key 345 4 amk_345_ (by omega) (by omega)
  by_cases h349 : m < 362
  · exact key 349 13 amk_349_ (by omega) (by omega)
  by_cases h362 : m < 363
  · have e : m = 362 := by omega
    rw [e]
    exact amb_362
  have hd : am_G m = (⟨"", "", ""⟩, ⟨#[]⟩, 0, none, [], 0, 0, (0, 3, 0, [])) := by
    unfold am_G
    rw [List.getD_eq_getElem?_getD, List.getElem?_eq_none]
    · rfl
    · have : am_GL.length = 363 := by decide +kernel
      omega
  rw [hd]
  rfl
