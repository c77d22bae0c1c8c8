set_option maxRecDepth 100000 in
theorem amk_16 : (List.range' 189 18).all (fun m => am_okb (am_G m)) = true := by decide +kernel
set_option maxRecDepth 100000 in
theorem amk_17 : (List.range' 207 7).all (fun m => am_okb (am_G m)) = true := by decide +kernel
set_option maxRecDepth 100000 in
theorem amk_18 : (List.range' 214 21).all (fun m => am_okb (am_G m)) = true := by decide +kernel
set_option maxRecDepth 100000 in
theorem amk_19 : (List.range' 235 5).all (fun m => am_okb (am_G m)) = true := by decide +kernel
set_option maxRecDepth 100000 in
theorem amk_20 : (List.range' 240 11).all (fun m => am_okb (am_G m)) = true := by decide +kernel
set_option maxRecDepth 100000 in
theorem amk_21 : (List.range' 251 16).all (fun m => am_okb (am_G m)) = true := by decide +kernel
set_option maxRecDepth 100000 in
theorem amk_22 : (List.range' 267 13).all (fun m => am_okb (am_G m)) = true := by decide +kernel
set_option maxRecDepth 100000 in
theorem amk_23 : (List.range' 280 8).all (fun m => am_okb (am_G m)) = true := by decide +kernel
