set_option maxRecDepth 100000 in
theorem amk_300_ : (List.range' 300 6).all (fun m => am_okb (am_G m)) = true := by decide +kernel
set_option maxRecDepth 100000 in
theorem amk_306_ : (List.range' 306 6).all (fun m => am_okb (am_G m)) = true := by decide +kernel
set_option maxRecDepth 100000 in
theorem amk_312_ : (List.range' 312 2).all (fun m => am_okb (am_G m)) = true := by decide +kernel
set_option maxRecDepth 100000 in
theorem amk_314_ : (List.range' 314 5).all (fun m => am_okb (am_G m)) = true := by decide +kernel
set_option maxRecDepth 100000 in
theorem amk_319_ : (List.range' 319 5).all (fun m => am_okb (am_G m)) = true := by decide +kernel
set_option maxRecDepth 100000 in
theorem amk_324_ : (List.range' 324 3).all (fun m => am_okb (am_G m)) = true := by decide +kernel
set_option maxRecDepth 100000 in
theorem amk_327_ : (List.range' 327 4).all (fun m => am_okb (am_G m)) = true := by decide +kernel
set_option maxRecDepth 100000 in
theorem amk_331_ : (List.range' 331 5).all (fun m => am_okb (am_G m)) = true := by decide +kernel
