set_option maxRecDepth 100000 in
theorem amk_24 : (List.range' 288 10).all (fun m => am_okb (am_G m)) = true := by decide +kernel
set_option maxRecDepth 100000 in
theorem amk_25 : (List.range' 298 12).all (fun m => am_okb (am_G m)) = true := by decide +kernel
set_option maxRecDepth 100000 in
theorem amk_26 : (List.range' 310 9).all (fun m => am_okb (am_G m)) = true := by decide +kernel
set_option maxRecDepth 100000 in
theorem amk_27 : (List.range' 319 8).all (fun m => am_okb (am_G m)) = true := by decide +kernel
set_option maxRecDepth 100000 in
theorem amk_28 : (List.range' 327 9).all (fun m => am_okb (am_G m)) = true := by decide +kernel
set_option maxRecDepth 100000 in
theorem amk_29 : (List.range' 336 10).all (fun m => am_okb (am_G m)) = true := by decide +kernel
set_option maxRecDepth 100000 in
theorem amk_30 : (List.range' 346 17).all (fun m => am_okb (am_G m)) = true := by decide +kernel
