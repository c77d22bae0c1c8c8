set_option maxRecDepth 100000 in
theorem amr_362_10 : (List.range' 800 80).all (fun i => am_oki (am_G 362) i) = true := by decide +kernel
set_option maxRecDepth 100000 in
theorem amr_362_11 : (List.range' 880 80).all (fun i => am_oki (am_G 362) i) = true := by decide +kernel
set_option maxRecDepth 100000 in
theorem amr_362_12 : (List.range' 960 80).all (fun i => am_oki (am_G 362) i) = true := by decide +kernel
set_option maxRecDepth 100000 in
theorem amr_362_13 : (List.range' 1040 80).all (fun i => am_oki (am_G 362) i) = true := by decide +kernel
set_option maxRecDepth 100000 in
theorem amr_362_14 : (List.range' 1120 80).all (fun i => am_oki (am_G 362) i) = true := by decide +kernel
set_option maxRecDepth 100000 in
theorem amr_362_15 : (List.range' 1200 80).all (fun i => am_oki (am_G 362) i) = true := by decide +kernel
set_option maxRecDepth 100000 in
theorem amr_362_16 : (List.range' 1280 75).all (fun i => am_oki (am_G 362) i) = true := by decide +kernel
