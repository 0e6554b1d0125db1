set_option maxRecDepth 1000000 in
set_option maxHeartbeats 8000000 in
theorem lm_c296 : lm_m296.2.2.2.2.2.all (fun q => q.2.all (lm_chkE lm_tb9 false lm_cl prog_4_method_19_code none 4 [] lm_m296.2.2.2.2.1 lm_pf9)) = true := by decide +kernel
set_option maxRecDepth 1000000 in
set_option maxHeartbeats 8000000 in
theorem lm_c297 : lm_m297.2.2.2.2.2.all (fun q => q.2.all (lm_chkE lm_tb9 false lm_cl prog_4_method_20_code none 4 [] lm_m297.2.2.2.2.1 lm_pf9)) = true := by decide +kernel
set_option maxRecDepth 1000000 in
set_option maxHeartbeats 8000000 in
theorem lm_c298 : lm_m298.2.2.2.2.2.all (fun q => q.2.all (lm_chkE lm_tb9 false lm_cl prog_4_method_22_code (some .boolean) 4 [] lm_m298.2.2.2.2.1 lm_pf9)) = true := by decide +kernel
set_option maxRecDepth 1000000 in
set_option maxHeartbeats 8000000 in
theorem lm_c299 : lm_m299.2.2.2.2.2.all (fun q => q.2.all (lm_chkE lm_tb9 false lm_cl prog_4_method_23_code (some .boolean) 4 [] lm_m299.2.2.2.2.1 lm_pf9)) = true := by decide +kernel
set_option maxRecDepth 1000000 in
set_option maxHeartbeats 8000000 in
theorem lm_c300 : lm_m300.2.2.2.2.2.all (fun q => q.2.all (lm_chkE lm_tb9 false lm_cl prog_4_method_24_code (some .boolean) 5 [] lm_m300.2.2.2.2.1 lm_pf9)) = true := by decide +kernel
set_option maxRecDepth 1000000 in
set_option maxHeartbeats 8000000 in
theorem lm_c301 : lm_m301.2.2.2.2.2.all (fun q => q.2.all (lm_chkE lm_tb9 false lm_cl prog_4_method_32_code (some .int) 3 [] lm_m301.2.2.2.2.1 lm_pf9)) = true := by decide +kernel
set_option maxRecDepth 1000000 in
set_option maxHeartbeats 8000000 in
theorem lm_c302 : lm_m302.2.2.2.2.2.all (fun q => q.2.all (lm_chkE lm_tb9 false lm_cl prog_4_method_31_code (some .int) 4 [] lm_m302.2.2.2.2.1 lm_pf9)) = true := by decide +kernel
set_option maxRecDepth 1000000 in
set_option maxHeartbeats 8000000 in
theorem lm_c303 : lm_m303.2.2.2.2.2.all (fun q => q.2.all (lm_chkE lm_tb10 false lm_cl prog_11_method_16_code (some .int) 1 [] lm_m303.2.2.2.2.1 lm_pf10)) = true := by decide +kernel
set_option maxRecDepth 1000000 in
set_option maxHeartbeats 8000000 in
theorem lm_c304 : lm_m304.2.2.2.2.2.all (fun q => q.2.all (lm_chkE lm_tb10 false lm_cl prog_11_method_17_code (some .int) 1 [] lm_m304.2.2.2.2.1 lm_pf10)) = true := by decide +kernel
set_option maxRecDepth 1000000 in
set_option maxHeartbeats 8000000 in
theorem lm_c305 : lm_m305.2.2.2.2.2.all (fun q => q.2.all (lm_chkE lm_tb10 false lm_cl prog_11_method_32_code none 9 [] lm_m305.2.2.2.2.1 lm_pf10)) = true := by decide +kernel
set_option maxRecDepth 1000000 in
set_option maxHeartbeats 8000000 in
theorem lm_c306 : lm_m306.2.2.2.2.2.all (fun q => q.2.all (lm_chkE lm_tb10 false lm_cl prog_11_method_28_code none 3 [] lm_m306.2.2.2.2.1 lm_pf10)) = true := by decide +kernel
set_option maxRecDepth 1000000 in
set_option maxHeartbeats 8000000 in
theorem lm_c307 : lm_m307.2.2.2.2.2.all (fun q => q.2.all (lm_chkE lm_tb10 false lm_cl prog_11_method_24_code none 9 [] lm_m307.2.2.2.2.1 lm_pf10)) = true := by decide +kernel
set_option maxRecDepth 1000000 in
set_option maxHeartbeats 8000000 in
theorem lm_c308 : lm_m308.2.2.2.2.2.all (fun q => q.2.all (lm_chkE lm_tb10 false lm_cl prog_11_method_13_code none 5 [] lm_m308.2.2.2.2.1 lm_pf10)) = true := by decide +kernel
set_option maxRecDepth 1000000 in
set_option maxHeartbeats 8000000 in
theorem lm_c309 : lm_m309.2.2.2.2.2.all (fun q => q.2.all (lm_chkE lm_tb9 false lm_cl prog_4_method_21_code none 3 [] lm_m309.2.2.2.2.1 lm_pf9)) = true := by decide +kernel
