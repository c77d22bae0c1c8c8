set_option maxRecDepth 100000 in
theorem amk_128_ : (List.range' 128 6).all (fun m => am_okb (am_G m)) = true := by decide +kernel
set_option maxRecDepth 100000 in
theorem amk_134_ : (List.range' 134 4).all (fun m => am_okb (am_G m)) = true := by decide +kernel
set_option maxRecDepth 100000 in
theorem amk_138_ : (List.range' 138 5).all (fun m => am_okb (am_G m)) = true := by decide +kernel
set_option maxRecDepth 100000 in
theorem amk_143_ : (List.range' 143 6).all (fun m => am_okb (am_G m)) = true := by decide +kernel
set_option maxRecDepth 100000 in
theorem amk_149_ : (List.range' 149 4).all (fun m => am_okb (am_G m)) = true := by decide +kernel
set_option maxRecDepth 100000 in
theorem amk_153_ : (List.range' 153 4).all (fun m => am_okb (am_G m)) = true := by decide +kernel
set_option maxRecDepth 100000 in
theorem amk_157_ : (List.range' 157 6).all (fun m => am_okb (am_G m)) = true := by decide +kernel
set_option maxRecDepth 100000 in
theorem amk_163_ : (List.range' 163 7).all (fun m => am_okb (am_G m)) = true := by decide +kernel
