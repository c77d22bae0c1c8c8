set_option maxRecDepth 100000 in
theorem amk_336_ : (List.range' 336 4).all (fun m => am_okb (am_G m)) = true := by decide +kernel
set_option maxRecDepth 100000 in
theorem amk_340_ : (List.range' 340 5).all (fun m => am_okb (am_G m)) = true := by decide +kernel
set_option maxRecDepth 100000 in
theorem amk_345_ : (List.range' 345 4).all (fun m => am_okb (am_G m)) = true := by decide +kernel
set_option maxRecDepth 100000 in
theorem amk_349_ : (List.range' 349 13).all (fun m => am_okb (am_G m)) = true := by decide +kernel
set_option maxRecDepth 100000 in
theorem amr_362_0 : (List.range' 0 80).all (fun i => am_oki (am_G 362) i) = true := by decide +kernel
set_option maxRecDepth 100000 in
theorem amr_362_1 : (List.range' 80 80).all (fun i => am_oki (am_G 362) i) = true := by decide +kernel
set_option maxRecDepth 100000 in
theorem amr_362_2 : (List.range' 160 80).all (fun i => am_oki (am_G 362) i) = true := by decide +kernel
set_option maxRecDepth 100000 in
theorem amr_362_3 : (List.range' 240 80).all (fun i => am_oki (am_G 362) i) = true := by decide +kernel
set_option maxRecDepth 100000 in
theorem amr_362_4 : (List.range' 320 80).all (fun i => am_oki (am_G 362) i) = true := by decide +kernel
set_option maxRecDepth 100000 in
theorem amr_362_5 : (List.range' 400 80).all (fun i => am_oki (am_G 362) i) = true := by decide +kernel
set_option maxRecDepth 100000 in
theorem amr_362_6 : (List.range' 480 80).all (fun i => am_oki (am_G 362) i) = true := by decide +kernel
set_option maxRecDepth 100000 in
theorem amr_362_7 : (List.range' 560 80).all (fun i => am_oki (am_G 362) i) = true := by decide +kernel
set_option maxRecDepth 100000 in
theorem amr_362_8 : (List.range' 640 80).all (fun i => am_oki (am_G 362) i) = true := by decide +kernel
set_option maxRecDepth 100000 in
theorem amr_362_9 : (List.range' 720 80).all (fun i => am_oki (am_G 362) i) = true := by decide +kernel
