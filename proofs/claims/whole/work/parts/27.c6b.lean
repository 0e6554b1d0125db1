set_option maxRecDepth 1000000 in
set_option maxHeartbeats 8000000 in
theorem lm_c238 : lm_m238.2.2.2.2.2.all (fun q => q.2.all (lm_chkE lm_tb9 false lm_cl prog_4_method_42_code none 9 [] lm_m238.2.2.2.2.1 lm_pf9)) = true := by decide +kernel
set_option maxRecDepth 1000000 in
set_option maxHeartbeats 8000000 in
theorem lm_c239 : lm_m239.2.2.2.2.2.all (fun q => q.2.all (lm_chkE lm_tb9 false lm_cl prog_4_method_12_code none 7 [] lm_m239.2.2.2.2.1 lm_pf9)) = true := by decide +kernel
set_option maxRecDepth 1000000 in
set_option maxHeartbeats 8000000 in
theorem lm_c240 : lm_m240.2.2.2.2.2.all (fun q => q.2.all (lm_chkE lm_tb9 false lm_cl prog_4_method_13_code none 7 [] lm_m240.2.2.2.2.1 lm_pf9)) = true := by decide +kernel
set_option maxRecDepth 1000000 in
set_option maxHeartbeats 8000000 in
theorem lm_c241 : lm_m241.2.2.2.2.2.all (fun q => q.2.all (lm_chkE lm_tb4 false lm_cl prog_10_method_4_code none 3 [] lm_m241.2.2.2.2.1 lm_pf4)) = true := by decide +kernel
set_option maxRecDepth 1000000 in
set_option maxHeartbeats 8000000 in
theorem lm_c242 : lm_m242.2.2.2.2.2.all (fun q => q.2.all (lm_chkE lm_tb9 false lm_cl prog_4_method_14_code none 5 [] lm_m242.2.2.2.2.1 lm_pf9)) = true := by decide +kernel
set_option maxRecDepth 1000000 in
set_option maxHeartbeats 8000000 in
theorem lm_c243 : lm_m243.2.2.2.2.2.all (fun q => q.2.all (lm_chkE lm_tb9 false lm_cl prog_4_method_16_code none 4 [] lm_m243.2.2.2.2.1 lm_pf9)) = true := by decide +kernel
set_option maxRecDepth 1000000 in
set_option maxHeartbeats 8000000 in
theorem lm_c244 : lm_m244.2.2.2.2.2.all (fun q => q.2.all (lm_chkE lm_tb9 false lm_cl prog_4_method_17_code none 4 [] lm_m244.2.2.2.2.1 lm_pf9)) = true := by decide +kernel
set_option maxRecDepth 1000000 in
set_option maxHeartbeats 8000000 in
theorem lm_c245 : lm_m245.2.2.2.2.2.all (fun q => q.2.all (lm_chkE lm_tb9 false lm_cl prog_4_method_18_code (some .boolean) 4 [] lm_m245.2.2.2.2.1 lm_pf9)) = true := by decide +kernel
set_option maxRecDepth 1000000 in
set_option maxHeartbeats 8000000 in
theorem lm_c246 : lm_m246.2.2.2.2.2.all (fun q => q.2.all (lm_chkE lm_tb9 false lm_cl prog_4_method_25_code none 4 [] lm_m246.2.2.2.2.1 lm_pf9)) = true := by decide +kernel
set_option maxRecDepth 1000000 in
set_option maxHeartbeats 8000000 in
theorem lm_c247 : lm_m247.2.2.2.2.2.all (fun q => q.2.all (lm_chkE lm_tb11 false lm_cl prog_14_method_63_code (some .int) 1 [] lm_m247.2.2.2.2.1 lm_pf11)) = true := by decide +kernel
set_option maxRecDepth 1000000 in
set_option maxHeartbeats 8000000 in
theorem lm_c248 : lm_m248.2.2.2.2.2.all (fun q => q.2.all (lm_chkE lm_tb9 false lm_cl prog_4_method_5_code (some .int) 1 [] lm_m248.2.2.2.2.1 lm_pf9)) = true := by decide +kernel
set_option maxRecDepth 1000000 in
set_option maxHeartbeats 8000000 in
theorem lm_c249 : lm_m249.2.2.2.2.2.all (fun q => q.2.all (lm_chkE lm_tb9 false lm_cl prog_4_method_27_code (some .boolean) 8 [] lm_m249.2.2.2.2.1 lm_pf9)) = true := by decide +kernel
set_option maxRecDepth 1000000 in
set_option maxHeartbeats 8000000 in
theorem lm_c250 : lm_m250.2.2.2.2.2.all (fun q => q.2.all (lm_chkE lm_tb9 false lm_cl prog_4_method_9_code (some .int) 1 [] lm_m250.2.2.2.2.1 lm_pf9)) = true := by decide +kernel
set_option maxRecDepth 1000000 in
set_option maxHeartbeats 8000000 in
theorem lm_c251 : lm_m251.2.2.2.2.2.all (fun q => q.2.all (lm_chkE lm_tb9 false lm_cl prog_4_method_7_code (some .int) 1 [] lm_m251.2.2.2.2.1 lm_pf9)) = true := by decide +kernel
set_option maxRecDepth 1000000 in
set_option maxHeartbeats 8000000 in
theorem lm_c252 : lm_m252.2.2.2.2.2.all (fun q => q.2.all (lm_chkE lm_tb9 false lm_cl prog_4_method_35_code none 7 [] lm_m252.2.2.2.2.1 lm_pf9)) = true := by decide +kernel
set_option maxRecDepth 1000000 in
set_option maxHeartbeats 8000000 in
theorem lm_c253 : lm_m253.2.2.2.2.2.all (fun q => q.2.all (lm_chkE lm_tb16 false lm_cl prog_25_method_59_code (some .int) 1 [] lm_m253.2.2.2.2.1 lm_pf16)) = true := by decide +kernel
set_option maxRecDepth 1000000 in
set_option maxHeartbeats 8000000 in
theorem lm_c254 : lm_m254.2.2.2.2.2.all (fun q => q.2.all (lm_chkE lm_tb9 false lm_cl prog_4_method_39_code none 7 [] lm_m254.2.2.2.2.1 lm_pf9)) = true := by decide +kernel
