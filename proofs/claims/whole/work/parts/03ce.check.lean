set_option maxRecDepth 100000 in
theorem amk_170_ : (List.range' 170 4).all (fun m => am_okb (am_G m)) = true := by decide +kernel
set_option maxRecDepth 100000 in
theorem amk_174_ : (List.range' 174 7).all (fun m => am_okb (am_G m)) = true := by decide +kernel
set_option maxRecDepth 100000 in
theorem amk_181_ : (List.range' 181 8).all (fun m => am_okb (am_G m)) = true := by decide +kernel
set_option maxRecDepth 100000 in
theorem amk_189_ : (List.range' 189 8).all (fun m => am_okb (am_G m)) = true := by decide +kernel
set_option maxRecDepth 100000 in
theorem amk_197_ : (List.range' 197 6).all (fun m => am_okb (am_G m)) = true := by decide +kernel
set_option maxRecDepth 100000 in
theorem amk_203_ : (List.range' 203 10).all (fun m => am_okb (am_G m)) = true := by decide +kernel
set_option maxRecDepth 100000 in
theorem amr_213_0 : (List.range' 0 80).all (fun i => am_oki (am_G 213) i) = true := by decide +kernel
set_option maxRecDepth 100000 in
theorem amr_213_1 : (List.range' 80 80).all (fun i => am_oki (am_G 213) i) = true := by decide +kernel
set_option maxRecDepth 100000 in
theorem amr_213_2 : (List.range' 160 80).all (fun i => am_oki (am_G 213) i) = true := by decide +kernel
set_option maxRecDepth 100000 in
theorem amr_213_3 : (List.range' 240 80).all (fun i => am_oki (am_G 213) i) = true := by decide +kernel
set_option maxRecDepth 100000 in
theorem amr_213_4 : (List.range' 320 53).all (fun i => am_oki (am_G 213) i) = true := by decide +kernel
set_option maxRecDepth 100000 in
theorem amk_214_ : (List.range' 214 12).all (fun m => am_okb (am_G m)) = true := by decide +kernel
