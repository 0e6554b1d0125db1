set_option maxRecDepth 1000000 in
set_option maxHeartbeats 8000000 in
theorem lm_c150 : lm_m150.2.2.2.2.2.all (fun q => q.2.all (lm_chkE lm_tb0 false lm_cl prog_1_method_24_code none 1 [] lm_m150.2.2.2.2.1 lm_pf0)) = true := by decide +kernel
set_option maxRecDepth 1000000 in
set_option maxHeartbeats 8000000 in
theorem lm_c151 : lm_m151.2.2.2.2.2.all (fun q => q.2.all (lm_chkE lm_tb8 false lm_cl prog_7_method_2_code none 2 [] lm_m151.2.2.2.2.1 lm_pf8)) = true := by decide +kernel
set_option maxRecDepth 1000000 in
set_option maxHeartbeats 8000000 in
theorem lm_c152 : lm_m152.2.2.2.2.2.all (fun q => q.2.all (lm_chkE lm_tb8 false lm_cl prog_7_method_8_code none 6 [] lm_m152.2.2.2.2.1 lm_pf8)) = true := by decide +kernel
set_option maxRecDepth 1000000 in
set_option maxHeartbeats 8000000 in
theorem lm_c153 : lm_m153.2.2.2.2.2.all (fun q => q.2.all (lm_chkE lm_tb11 false lm_cl prog_14_method_26_code none 3 [] lm_m153.2.2.2.2.1 lm_pf11)) = true := by decide +kernel
set_option maxRecDepth 1000000 in
set_option maxHeartbeats 8000000 in
theorem lm_c154 : lm_m154.2.2.2.2.2.all (fun q => q.2.all (lm_chkE lm_tb11 false lm_cl prog_14_method_29_code none 4 [] lm_m154.2.2.2.2.1 lm_pf11)) = true := by decide +kernel
set_option maxRecDepth 1000000 in
set_option maxHeartbeats 8000000 in
theorem lm_c155_0 : lm_r155_0.all (lm_chkE lm_tb11 false lm_cl prog_14_method_34_code none 12 [] lm_m155.2.2.2.2.1 lm_pf11) = true := by decide +kernel
set_option maxRecDepth 1000000 in
set_option maxHeartbeats 8000000 in
theorem lm_c155_2 : lm_r155_2.all (lm_chkE lm_tb11 false lm_cl prog_14_method_34_code none 12 [] lm_m155.2.2.2.2.1 lm_pf11) = true := by decide +kernel
set_option maxRecDepth 1000000 in
set_option maxHeartbeats 8000000 in
theorem lm_c155_12 : lm_r155_12.all (lm_chkE lm_tb11 false lm_cl prog_14_method_34_code none 12 [] lm_m155.2.2.2.2.1 lm_pf11) = true := by decide +kernel
set_option maxRecDepth 1000000 in
set_option maxHeartbeats 8000000 in
theorem lm_c155_60 : lm_r155_60.all (lm_chkE lm_tb11 false lm_cl prog_14_method_34_code none 12 [] lm_m155.2.2.2.2.1 lm_pf11) = true := by decide +kernel
set_option maxRecDepth 1000000 in
set_option maxHeartbeats 8000000 in
theorem lm_c155_232 : lm_r155_232.all (lm_chkE lm_tb11 false lm_cl prog_14_method_34_code none 12 [] lm_m155.2.2.2.2.1 lm_pf11) = true := by decide +kernel
theorem lm_c155 : lm_m155.2.2.2.2.2.all (fun q => q.2.all (lm_chkE lm_tb11 false lm_cl prog_14_method_34_code none 12 [] lm_m155.2.2.2.2.1 lm_pf11)) = true := lm_all_cons lm_c155_0 (lm_all_cons lm_c155_2 (lm_all_cons lm_c155_12 (lm_all_cons lm_c155_60 (lm_all_cons lm_c155_232 rfl))))
set_option maxRecDepth 1000000 in
set_option maxHeartbeats 8000000 in
theorem lm_c156_0 : lm_r156_0.all (lm_chkE lm_tb11 false lm_cl prog_14_method_33_code none 22 [] lm_m156.2.2.2.2.1 lm_pf11) = true := by decide +kernel
set_option maxRecDepth 1000000 in
set_option maxHeartbeats 8000000 in
theorem lm_c156_2 : lm_r156_2.all (lm_chkE lm_tb11 false lm_cl prog_14_method_33_code none 22 [] lm_m156.2.2.2.2.1 lm_pf11) = true := by decide +kernel
set_option maxRecDepth 1000000 in
set_option maxHeartbeats 8000000 in
theorem lm_c156_17 : lm_r156_17.all (lm_chkE lm_tb11 false lm_cl prog_14_method_33_code none 22 [] lm_m156.2.2.2.2.1 lm_pf11) = true := by decide +kernel
set_option maxRecDepth 1000000 in
set_option maxHeartbeats 8000000 in
theorem lm_c156_70 : lm_r156_70.all (lm_chkE lm_tb11 false lm_cl prog_14_method_33_code none 22 [] lm_m156.2.2.2.2.1 lm_pf11) = true := by decide +kernel
set_option maxRecDepth 1000000 in
set_option maxHeartbeats 8000000 in
theorem lm_c156_234 : lm_r156_234.all (lm_chkE lm_tb11 false lm_cl prog_14_method_33_code none 22 [] lm_m156.2.2.2.2.1 lm_pf11) = true := by decide +kernel
theorem lm_c156 : lm_m156.2.2.2.2.2.all (fun q => q.2.all (lm_chkE lm_tb11 false lm_cl prog_14_method_33_code none 22 [] lm_m156.2.2.2.2.1 lm_pf11)) = true := lm_all_cons lm_c156_0 (lm_all_cons lm_c156_2 (lm_all_cons lm_c156_17 (lm_all_cons lm_c156_70 (lm_all_cons lm_c156_234 rfl))))
