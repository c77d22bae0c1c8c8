set_option maxRecDepth 100000 in
theorem amk_226_ : (List.range' 226 6).all (fun m => am_okb (am_G m)) = true := by decide +kernel
set_option maxRecDepth 100000 in
theorem amk_232_ : (List.range' 232 4).all (fun m => am_okb (am_G m)) = true := by decide +kernel
set_option maxRecDepth 100000 in
theorem amk_236_ : (List.range' 236 1).all (fun m => am_okb (am_G m)) = true := by decide +kernel
set_option maxRecDepth 100000 in
theorem amr_237_0 : (List.range' 0 80).all (fun i => am_oki (am_G 237) i) = true := by decide +kernel
set_option maxRecDepth 100000 in
theorem amr_237_1 : (List.range' 80 67).all (fun i => am_oki (am_G 237) i) = true := by decide +kernel
set_option maxRecDepth 100000 in
theorem amk_238_ : (List.range' 238 1).all (fun m => am_okb (am_G m)) = true := by decide +kernel
set_option maxRecDepth 100000 in
theorem amr_239_0 : (List.range' 0 80).all (fun i => am_oki (am_G 239) i) = true := by decide +kernel
set_option maxRecDepth 100000 in
theorem amr_239_1 : (List.range' 80 80).all (fun i => am_oki (am_G 239) i) = true := by decide +kernel
set_option maxRecDepth 100000 in
theorem amr_239_2 : (List.range' 160 32).all (fun i => am_oki (am_G 239) i) = true := by decide +kernel
set_option maxRecDepth 100000 in
theorem amk_240_ : (List.range' 240 6).all (fun m => am_okb (am_G m)) = true := by decide +kernel
set_option maxRecDepth 100000 in
theorem amr_246_0 : (List.range' 0 80).all (fun i => am_oki (am_G 246) i) = true := by decide +kernel
set_option maxRecDepth 100000 in
theorem amr_246_1 : (List.range' 80 80).all (fun i => am_oki (am_G 246) i) = true := by decide +kernel
set_option maxRecDepth 100000 in
theorem amr_246_2 : (List.range' 160 19).all (fun i => am_oki (am_G 246) i) = true := by decide +kernel
set_option maxRecDepth 100000 in
theorem amk_247_ : (List.range' 247 7).all (fun m => am_okb (am_G m)) = true := by decide +kernel
set_option maxRecDepth 100000 in
theorem amk_254_ : (List.range' 254 8).all (fun m => am_okb (am_G m)) = true := by decide +kernel
