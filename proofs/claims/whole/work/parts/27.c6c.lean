set_option maxRecDepth 1000000 in
set_option maxHeartbeats 8000000 in
theorem lm_c255 : lm_m255.2.2.2.2.2.all (fun q => q.2.all (lm_chkE lm_tb9 false lm_cl prog_4_method_29_code none 4 [] lm_m255.2.2.2.2.1 lm_pf9)) = true := by decide +kernel
set_option maxRecDepth 1000000 in
set_option maxHeartbeats 8000000 in
theorem lm_c256 : lm_m256.2.2.2.2.2.all (fun q => q.2.all (lm_chkE lm_tb9 false lm_cl prog_4_method_30_code none 10 [] lm_m256.2.2.2.2.1 lm_pf9)) = true := by decide +kernel
set_option maxRecDepth 1000000 in
set_option maxHeartbeats 8000000 in
theorem lm_c257 : lm_m257.2.2.2.2.2.all (fun q => q.2.all (lm_chkE lm_tb9 false lm_cl prog_4_method_8_code (some .int) 1 [] lm_m257.2.2.2.2.1 lm_pf9)) = true := by decide +kernel
set_option maxRecDepth 1000000 in
set_option maxHeartbeats 8000000 in
theorem lm_c258 : lm_m258.2.2.2.2.2.all (fun q => q.2.all (lm_chkE lm_tb10 false lm_cl prog_11_method_14_code none 7 [] lm_m258.2.2.2.2.1 lm_pf10)) = true := by decide +kernel
set_option maxRecDepth 1000000 in
set_option maxHeartbeats 8000000 in
theorem lm_c259 : lm_m259.2.2.2.2.2.all (fun q => q.2.all (lm_chkE lm_tb10 false lm_cl prog_11_method_15_code none 7 [] lm_m259.2.2.2.2.1 lm_pf10)) = true := by decide +kernel
set_option maxRecDepth 1000000 in
set_option maxHeartbeats 8000000 in
theorem lm_c260 : lm_m260.2.2.2.2.2.all (fun q => q.2.all (lm_chkE lm_tb10 false lm_cl prog_11_method_19_code (some .int) 4 [] lm_m260.2.2.2.2.1 lm_pf10)) = true := by decide +kernel
set_option maxRecDepth 1000000 in
set_option maxHeartbeats 8000000 in
theorem lm_c261 : lm_m261.2.2.2.2.2.all (fun q => q.2.all (lm_chkE lm_tb10 false lm_cl prog_11_method_18_code (some .long) 4 [] lm_m261.2.2.2.2.1 lm_pf10)) = true := by decide +kernel
set_option maxRecDepth 1000000 in
set_option maxHeartbeats 8000000 in
theorem lm_c262 : lm_m262.2.2.2.2.2.all (fun q => q.2.all (lm_chkE lm_tb10 false lm_cl prog_11_method_20_code (some .int) 4 [] lm_m262.2.2.2.2.1 lm_pf10)) = true := by decide +kernel
set_option maxRecDepth 1000000 in
set_option maxHeartbeats 8000000 in
theorem lm_c263 : lm_m263.2.2.2.2.2.all (fun q => q.2.all (lm_chkE lm_tb10 false lm_cl prog_11_method_22_code none 6 [] lm_m263.2.2.2.2.1 lm_pf10)) = true := by decide +kernel
set_option maxRecDepth 1000000 in
set_option maxHeartbeats 8000000 in
theorem lm_c264 : lm_m264.2.2.2.2.2.all (fun q => q.2.all (lm_chkE lm_tb10 false lm_cl prog_11_method_23_code none 7 [] lm_m264.2.2.2.2.1 lm_pf10)) = true := by decide +kernel
set_option maxRecDepth 1000000 in
set_option maxHeartbeats 8000000 in
theorem lm_c265 : lm_m265.2.2.2.2.2.all (fun q => q.2.all (lm_chkE lm_tb10 false lm_cl prog_11_method_31_code none 7 [] lm_m265.2.2.2.2.1 lm_pf10)) = true := by decide +kernel
set_option maxRecDepth 1000000 in
set_option maxHeartbeats 8000000 in
theorem lm_c266 : lm_m266.2.2.2.2.2.all (fun q => q.2.all (lm_chkE lm_tb10 false lm_cl prog_11_method_4_code (some .int) 1 [] lm_m266.2.2.2.2.1 lm_pf10)) = true := by decide +kernel
set_option maxRecDepth 1000000 in
set_option maxHeartbeats 8000000 in
theorem lm_c267 : lm_m267.2.2.2.2.2.all (fun q => q.2.all (lm_chkE lm_tb10 false lm_cl prog_11_method_29_code none 5 [] lm_m267.2.2.2.2.1 lm_pf10)) = true := by decide +kernel
set_option maxRecDepth 1000000 in
set_option maxHeartbeats 8000000 in
theorem lm_c268 : lm_m268.2.2.2.2.2.all (fun q => q.2.all (lm_chkE lm_tb10 false lm_cl prog_11_method_30_code none 5 [] lm_m268.2.2.2.2.1 lm_pf10)) = true := by decide +kernel
set_option maxRecDepth 1000000 in
set_option maxHeartbeats 8000000 in
theorem lm_c269 : lm_m269.2.2.2.2.2.all (fun q => q.2.all (lm_chkE lm_tb10 false lm_cl prog_11_method_5_code (some .int) 1 [] lm_m269.2.2.2.2.1 lm_pf10)) = true := by decide +kernel
set_option maxRecDepth 1000000 in
set_option maxHeartbeats 8000000 in
theorem lm_c270 : lm_m270.2.2.2.2.2.all (fun q => q.2.all (lm_chkE lm_tb10 false lm_cl prog_11_method_12_code none 3 [] lm_m270.2.2.2.2.1 lm_pf10)) = true := by decide +kernel
