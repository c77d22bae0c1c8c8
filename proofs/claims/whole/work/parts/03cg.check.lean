set_option maxRecDepth 100000 in
theorem amk_262_ : (List.range' 262 4).all (fun m => am_okb (am_G m)) = true := by decide +kernel
set_option maxRecDepth 100000 in
theorem amk_266_ : (List.range' 266 5).all (fun m => am_okb (am_G m)) = true := by decide +kernel
set_option maxRecDepth 100000 in
theorem amk_271_ : (List.range' 271 7).all (fun m => am_okb (am_G m)) = true := by decide +kernel
set_option maxRecDepth 100000 in
theorem amk_278_ : (List.range' 278 5).all (fun m => am_okb (am_G m)) = true := by decide +kernel
set_option maxRecDepth 100000 in
theorem amk_283_ : (List.range' 283 4).all (fun m => am_okb (am_G m)) = true := by decide +kernel
set_option maxRecDepth 100000 in
theorem amr_287_0 : (List.range' 0 80).all (fun i => am_oki (am_G 287) i) = true := by decide +kernel
set_option maxRecDepth 100000 in
theorem amr_287_1 : (List.range' 80 50).all (fun i => am_oki (am_G 287) i) = true := by decide +kernel
set_option maxRecDepth 100000 in
theorem amk_288_ : (List.range' 288 4).all (fun m => am_okb (am_G m)) = true := by decide +kernel
set_option maxRecDepth 100000 in
theorem amk_292_ : (List.range' 292 4).all (fun m => am_okb (am_G m)) = true := by decide +kernel
set_option maxRecDepth 100000 in
theorem amk_296_ : (List.range' 296 4).all (fun m => am_okb (am_G m)) = true := by decide +kernel
