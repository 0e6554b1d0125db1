set_option maxRecDepth 1000000 in
set_option maxHeartbeats 8000000 in
theorem lm_c79 : lm_m79.2.2.2.2.2.all (fun q => q.2.all (lm_chkE lm_tb0 false lm_cl prog_1_method_13_code (some .int) 2 [] lm_m79.2.2.2.2.1 lm_pf0)) = true := by decide +kernel
set_option maxRecDepth 1000000 in
set_option maxHeartbeats 8000000 in
theorem lm_c80 : lm_m80.2.2.2.2.2.all (fun q => q.2.all (lm_chkE lm_tb11 false lm_cl prog_14_method_15_code (some .boolean) 7 [] lm_m80.2.2.2.2.1 lm_pf11)) = true := by decide +kernel
set_option maxRecDepth 1000000 in
set_option maxHeartbeats 8000000 in
theorem lm_c81 : lm_m81.2.2.2.2.2.all (fun q => q.2.all (lm_chkE lm_tb11 false lm_cl prog_14_method_42_code none 2 [] lm_m81.2.2.2.2.1 lm_pf11)) = true := by decide +kernel
set_option maxRecDepth 1000000 in
set_option maxHeartbeats 8000000 in
theorem lm_c82 : lm_m82.2.2.2.2.2.all (fun q => q.2.all (lm_chkE lm_tb11 false lm_cl prog_14_method_54_code (some .int) 2 [] lm_m82.2.2.2.2.1 lm_pf11)) = true := by decide +kernel
set_option maxRecDepth 1000000 in
set_option maxHeartbeats 8000000 in
theorem lm_c83 : lm_m83.2.2.2.2.2.all (fun q => q.2.all (lm_chkE lm_tb11 false lm_cl prog_14_method_49_code none 10 [] lm_m83.2.2.2.2.1 lm_pf11)) = true := by decide +kernel
set_option maxRecDepth 1000000 in
set_option maxHeartbeats 8000000 in
theorem lm_c84 : lm_m84.2.2.2.2.2.all (fun q => q.2.all (lm_chkE lm_tb11 false lm_cl prog_14_method_53_code (some .int) 2 [] lm_m84.2.2.2.2.1 lm_pf11)) = true := by decide +kernel
set_option maxRecDepth 1000000 in
set_option maxHeartbeats 8000000 in
theorem lm_c85 : lm_m85.2.2.2.2.2.all (fun q => q.2.all (lm_chkE lm_tb0 false lm_cl prog_1_method_14_code (some .int) 2 [] lm_m85.2.2.2.2.1 lm_pf0)) = true := by decide +kernel
set_option maxRecDepth 1000000 in
set_option maxHeartbeats 8000000 in
theorem lm_c86 : lm_m86.2.2.2.2.2.all (fun q => q.2.all (lm_chkE lm_tb11 false lm_cl prog_14_method_59_code none 3 [] lm_m86.2.2.2.2.1 lm_pf11)) = true := by decide +kernel
set_option maxRecDepth 1000000 in
set_option maxHeartbeats 8000000 in
theorem lm_c87 : lm_m87.2.2.2.2.2.all (fun q => q.2.all (lm_chkE lm_tb11 false lm_cl prog_14_method_67_code (some .boolean) 8 [] lm_m87.2.2.2.2.1 lm_pf11)) = true := by decide +kernel
set_option maxRecDepth 1000000 in
set_option maxHeartbeats 8000000 in
theorem lm_c88 : lm_m88.2.2.2.2.2.all (fun q => q.2.all (lm_chkE lm_tb11 false lm_cl prog_14_method_71_code none 7 [] lm_m88.2.2.2.2.1 lm_pf11)) = true := by decide +kernel
set_option maxRecDepth 1000000 in
set_option maxHeartbeats 8000000 in
theorem lm_c89 : lm_m89.2.2.2.2.2.all (fun q => q.2.all (lm_chkE lm_tb11 false lm_cl prog_14_method_74_code none 2 [] lm_m89.2.2.2.2.1 lm_pf11)) = true := by decide +kernel
set_option maxRecDepth 1000000 in
set_option maxHeartbeats 8000000 in
theorem lm_c90 : lm_m90.2.2.2.2.2.all (fun q => q.2.all (lm_chkE lm_tb11 false lm_cl prog_14_method_60_code none 7 [] lm_m90.2.2.2.2.1 lm_pf11)) = true := by decide +kernel
set_option maxRecDepth 1000000 in
set_option maxHeartbeats 8000000 in
theorem lm_c91 : lm_m91.2.2.2.2.2.all (fun q => q.2.all (lm_chkE lm_tb11 false lm_cl prog_14_method_65_code (some .boolean) 12 [] lm_m91.2.2.2.2.1 lm_pf11)) = true := by decide +kernel
