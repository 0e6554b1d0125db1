set_option maxRecDepth 1000000 in
set_option maxHeartbeats 8000000 in
theorem lm_c64 : lm_m64.2.2.2.2.2.all (fun q => q.2.all (lm_chkE lm_tb11 false lm_cl prog_14_method_38_code none 7 [] lm_m64.2.2.2.2.1 lm_pf11)) = true := by decide +kernel
set_option maxRecDepth 1000000 in
set_option maxHeartbeats 8000000 in
theorem lm_c65 : lm_m65.2.2.2.2.2.all (fun q => q.2.all (lm_chkE lm_tb11 false lm_cl prog_14_method_39_code none 7 [] lm_m65.2.2.2.2.1 lm_pf11)) = true := by decide +kernel
set_option maxRecDepth 1000000 in
set_option maxHeartbeats 8000000 in
theorem lm_c66 : lm_m66.2.2.2.2.2.all (fun q => q.2.all (lm_chkE lm_tb11 false lm_cl prog_14_method_40_code none 10 [] lm_m66.2.2.2.2.1 lm_pf11)) = true := by decide +kernel
set_option maxRecDepth 1000000 in
set_option maxHeartbeats 8000000 in
theorem lm_c67 : lm_m67.2.2.2.2.2.all (fun q => q.2.all (lm_chkE lm_tb0 false lm_cl prog_1_method_11_code (some .int) 2 [] lm_m67.2.2.2.2.1 lm_pf0)) = true := by decide +kernel
set_option maxRecDepth 1000000 in
set_option maxHeartbeats 8000000 in
theorem lm_c68 : lm_m68.2.2.2.2.2.all (fun q => q.2.all (lm_chkE lm_tb11 false lm_cl prog_14_method_47_code none 3 [] lm_m68.2.2.2.2.1 lm_pf11)) = true := by decide +kernel
set_option maxRecDepth 1000000 in
set_option maxHeartbeats 8000000 in
theorem lm_c69 : lm_m69.2.2.2.2.2.all (fun q => q.2.all (lm_chkE lm_tb11 false lm_cl prog_14_method_27_code none 2 [] lm_m69.2.2.2.2.1 lm_pf11)) = true := by decide +kernel
set_option maxRecDepth 1000000 in
set_option maxHeartbeats 8000000 in
theorem lm_c70 : lm_m70.2.2.2.2.2.all (fun q => q.2.all (lm_chkE lm_tb11 false lm_cl prog_14_method_52_code none 9 [] lm_m70.2.2.2.2.1 lm_pf11)) = true := by decide +kernel
set_option maxRecDepth 1000000 in
set_option maxHeartbeats 8000000 in
theorem lm_c71 : lm_m71.2.2.2.2.2.all (fun q => q.2.all (lm_chkE lm_tb11 false lm_cl prog_14_method_48_code none 11 [] lm_m71.2.2.2.2.1 lm_pf11)) = true := by decide +kernel
set_option maxRecDepth 1000000 in
set_option maxHeartbeats 8000000 in
theorem lm_c72 : lm_m72.2.2.2.2.2.all (fun q => q.2.all (lm_chkE lm_tb11 false lm_cl prog_14_method_51_code (some .boolean) 11 [] lm_m72.2.2.2.2.1 lm_pf11)) = true := by decide +kernel
set_option maxRecDepth 1000000 in
set_option maxHeartbeats 8000000 in
theorem lm_c73 : lm_m73.2.2.2.2.2.all (fun q => q.2.all (lm_chkE lm_tb11 false lm_cl prog_14_method_50_code none 15 [] lm_m73.2.2.2.2.1 lm_pf11)) = true := by decide +kernel
set_option maxRecDepth 1000000 in
set_option maxHeartbeats 8000000 in
theorem lm_c74 : lm_m74.2.2.2.2.2.all (fun q => q.2.all (lm_chkE lm_tb11 false lm_cl prog_14_method_45_code none 7 [] lm_m74.2.2.2.2.1 lm_pf11)) = true := by decide +kernel
set_option maxRecDepth 1000000 in
set_option maxHeartbeats 8000000 in
theorem lm_c75 : lm_m75.2.2.2.2.2.all (fun q => q.2.all (lm_chkE lm_tb11 false lm_cl prog_14_method_14_code none 6 [] lm_m75.2.2.2.2.1 lm_pf11)) = true := by decide +kernel
set_option maxRecDepth 1000000 in
set_option maxHeartbeats 8000000 in
theorem lm_c76 : lm_m76.2.2.2.2.2.all (fun q => q.2.all (lm_chkE lm_tb0 false lm_cl prog_1_method_12_code (some .int) 2 [] lm_m76.2.2.2.2.1 lm_pf0)) = true := by decide +kernel
set_option maxRecDepth 1000000 in
set_option maxHeartbeats 8000000 in
theorem lm_c77 : lm_m77.2.2.2.2.2.all (fun q => q.2.all (lm_chkE lm_tb11 false lm_cl prog_14_method_46_code (some .int) 6 [] lm_m77.2.2.2.2.1 lm_pf11)) = true := by decide +kernel
set_option maxRecDepth 1000000 in
set_option maxHeartbeats 8000000 in
theorem lm_c78 : lm_m78.2.2.2.2.2.all (fun q => q.2.all (lm_chkE lm_tb11 false lm_cl prog_14_method_56_code (some .boolean) 9 [] lm_m78.2.2.2.2.1 lm_pf11)) = true := by decide +kernel
