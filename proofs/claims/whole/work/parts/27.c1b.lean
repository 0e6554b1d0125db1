set_option maxRecDepth 1000000 in
set_option maxHeartbeats 8000000 in
theorem lm_c37 : lm_m37.2.2.2.2.2.all (fun q => q.2.all (lm_chkE lm_tb12 false lm_cl method_20_code (some .int) 5 [(0, 17, 20, 19), (0, 17, 24, 49), (0, 17, 28, 56)] lm_m37.2.2.2.2.1 lm_pf12)) = true := by decide +kernel
set_option maxRecDepth 1000000 in
set_option maxHeartbeats 8000000 in
theorem lm_c38_0 : lm_r38_0.all (lm_chkE lm_tb11 false lm_cl prog_14_method_107_code (some .boolean) 8 [] lm_m38.2.2.2.2.1 lm_pf11) = true := by decide +kernel
set_option maxRecDepth 1000000 in
set_option maxHeartbeats 8000000 in
theorem lm_c38_25 : lm_r38_25.all (lm_chkE lm_tb11 false lm_cl prog_14_method_107_code (some .boolean) 8 [] lm_m38.2.2.2.2.1 lm_pf11) = true := by decide +kernel
set_option maxRecDepth 1000000 in
set_option maxHeartbeats 8000000 in
theorem lm_c38_26 : lm_r38_26.all (lm_chkE lm_tb11 false lm_cl prog_14_method_107_code (some .boolean) 8 [] lm_m38.2.2.2.2.1 lm_pf11) = true := by decide +kernel
set_option maxRecDepth 1000000 in
set_option maxHeartbeats 8000000 in
theorem lm_c38_74 : lm_r38_74.all (lm_chkE lm_tb11 false lm_cl prog_14_method_107_code (some .boolean) 8 [] lm_m38.2.2.2.2.1 lm_pf11) = true := by decide +kernel
set_option maxRecDepth 1000000 in
set_option maxHeartbeats 8000000 in
theorem lm_c38_239 : lm_r38_239.all (lm_chkE lm_tb11 false lm_cl prog_14_method_107_code (some .boolean) 8 [] lm_m38.2.2.2.2.1 lm_pf11) = true := by decide +kernel
theorem lm_c38 : lm_m38.2.2.2.2.2.all (fun q => q.2.all (lm_chkE lm_tb11 false lm_cl prog_14_method_107_code (some .boolean) 8 [] lm_m38.2.2.2.2.1 lm_pf11)) = true := lm_all_cons lm_c38_0 (lm_all_cons lm_c38_25 (lm_all_cons lm_c38_26 (lm_all_cons lm_c38_74 (lm_all_cons lm_c38_239 rfl))))
set_option maxRecDepth 1000000 in
set_option maxHeartbeats 8000000 in
theorem lm_c39 : lm_m39.2.2.2.2.2.all (fun q => q.2.all (lm_chkE lm_tb12 false lm_cl method_21_code (some .int) 8 [(0, 16, 19, 19), (0, 16, 23, 56)] lm_m39.2.2.2.2.1 lm_pf12)) = true := by decide +kernel
set_option maxRecDepth 1000000 in
set_option maxHeartbeats 8000000 in
theorem lm_c40_0 : lm_r40_0.all (lm_chkE lm_tb11 false lm_cl prog_14_method_108_code (some .int) 6 [] lm_m40.2.2.2.2.1 lm_pf11) = true := by decide +kernel
set_option maxRecDepth 1000000 in
set_option maxHeartbeats 8000000 in
theorem lm_c40_78 : lm_r40_78.all (lm_chkE lm_tb11 false lm_cl prog_14_method_108_code (some .int) 6 [] lm_m40.2.2.2.2.1 lm_pf11) = true := by decide +kernel
set_option maxRecDepth 1000000 in
set_option maxHeartbeats 8000000 in
theorem lm_c40_79 : lm_r40_79.all (lm_chkE lm_tb11 false lm_cl prog_14_method_108_code (some .int) 6 [] lm_m40.2.2.2.2.1 lm_pf11) = true := by decide +kernel
set_option maxRecDepth 1000000 in
set_option maxHeartbeats 8000000 in
theorem lm_c40_107 : lm_r40_107.all (lm_chkE lm_tb11 false lm_cl prog_14_method_108_code (some .int) 6 [] lm_m40.2.2.2.2.1 lm_pf11) = true := by decide +kernel
theorem lm_c40 : lm_m40.2.2.2.2.2.all (fun q => q.2.all (lm_chkE lm_tb11 false lm_cl prog_14_method_108_code (some .int) 6 [] lm_m40.2.2.2.2.1 lm_pf11)) = true := lm_all_cons lm_c40_0 (lm_all_cons lm_c40_78 (lm_all_cons lm_c40_79 (lm_all_cons lm_c40_107 rfl)))
set_option maxRecDepth 1000000 in
set_option maxHeartbeats 8000000 in
theorem lm_c41 : lm_m41.2.2.2.2.2.all (fun q => q.2.all (lm_chkE lm_tb1 true lm_cl prog_3_method_1_code none 1 [] lm_m41.2.2.2.2.1 lm_pf1)) = true := by decide +kernel
set_option maxRecDepth 1000000 in
set_option maxHeartbeats 8000000 in
theorem lm_c42 : lm_m42.2.2.2.2.2.all (fun q => q.2.all (lm_chkE lm_tb2 true lm_cl prog_6_method_1_code none 1 [] lm_m42.2.2.2.2.1 lm_pf2)) = true := by decide +kernel
set_option maxRecDepth 1000000 in
set_option maxHeartbeats 8000000 in
theorem lm_c43 : lm_m43.2.2.2.2.2.all (fun q => q.2.all (lm_chkE lm_tb4 true lm_cl prog_10_method_1_code none 4 [] lm_m43.2.2.2.2.1 lm_pf4)) = true := by decide +kernel
set_option maxRecDepth 1000000 in
set_option maxHeartbeats 8000000 in
theorem lm_c44 : lm_m44.2.2.2.2.2.all (fun q => q.2.all (lm_chkE lm_tb8 true lm_cl prog_7_method_1_code none 4 [] lm_m44.2.2.2.2.1 lm_pf8)) = true := by decide +kernel
set_option maxRecDepth 1000000 in
set_option maxHeartbeats 8000000 in
theorem lm_c45 : lm_m45.2.2.2.2.2.all (fun q => q.2.all (lm_chkE lm_tb9 true lm_cl prog_4_method_1_code none 5 [] lm_m45.2.2.2.2.1 lm_pf9)) = true := by decide +kernel
set_option maxRecDepth 1000000 in
set_option maxHeartbeats 8000000 in
theorem lm_c46 : lm_m46.2.2.2.2.2.all (fun q => q.2.all (lm_chkE lm_tb10 true lm_cl prog_11_method_1_code none 2 [] lm_m46.2.2.2.2.1 lm_pf10)) = true := by decide +kernel
