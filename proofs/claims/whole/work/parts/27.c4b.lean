set_option maxRecDepth 1000000 in
set_option maxHeartbeats 8000000 in
theorem lm_c157 : lm_m157.2.2.2.2.2.all (fun q => q.2.all (lm_chkE lm_tb11 false lm_cl prog_14_method_44_code (some .int) 3 [] lm_m157.2.2.2.2.1 lm_pf11)) = true := by decide +kernel
set_option maxRecDepth 1000000 in
set_option maxHeartbeats 8000000 in
theorem lm_c158 : lm_m158.2.2.2.2.2.all (fun q => q.2.all (lm_chkE lm_tb11 false lm_cl prog_14_method_43_code (some .int) 4 [] lm_m158.2.2.2.2.1 lm_pf11)) = true := by decide +kernel
set_option maxRecDepth 1000000 in
set_option maxHeartbeats 8000000 in
theorem lm_c159 : lm_m159.2.2.2.2.2.all (fun q => q.2.all (lm_chkE lm_tb8 false lm_cl prog_7_method_5_code (some .boolean) 4 [] lm_m159.2.2.2.2.1 lm_pf8)) = true := by decide +kernel
set_option maxRecDepth 1000000 in
set_option maxHeartbeats 8000000 in
theorem lm_c160 : lm_m160.2.2.2.2.2.all (fun q => q.2.all (lm_chkE lm_tb0 false lm_cl prog_1_method_25_code none 1 [] lm_m160.2.2.2.2.1 lm_pf0)) = true := by decide +kernel
set_option maxRecDepth 1000000 in
set_option maxHeartbeats 8000000 in
theorem lm_c161 : lm_m161.2.2.2.2.2.all (fun q => q.2.all (lm_chkE lm_tb8 false lm_cl prog_7_method_9_code none 5 [] lm_m161.2.2.2.2.1 lm_pf8)) = true := by decide +kernel
set_option maxRecDepth 1000000 in
set_option maxHeartbeats 8000000 in
theorem lm_c162 : lm_m162.2.2.2.2.2.all (fun q => q.2.all (lm_chkE lm_tb8 false lm_cl prog_7_method_6_code (some .boolean) 2 [] lm_m162.2.2.2.2.1 lm_pf8)) = true := by decide +kernel
set_option maxRecDepth 1000000 in
set_option maxHeartbeats 8000000 in
theorem lm_c163 : lm_m163.2.2.2.2.2.all (fun q => q.2.all (lm_chkE lm_tb8 false lm_cl prog_7_method_7_code (some .boolean) 2 [] lm_m163.2.2.2.2.1 lm_pf8)) = true := by decide +kernel
set_option maxRecDepth 1000000 in
set_option maxHeartbeats 8000000 in
theorem lm_c164 : lm_m164.2.2.2.2.2.all (fun q => q.2.all (lm_chkE lm_tb8 false lm_cl prog_7_method_10_code (some .boolean) 5 [] lm_m164.2.2.2.2.1 lm_pf8)) = true := by decide +kernel
set_option maxRecDepth 1000000 in
set_option maxHeartbeats 8000000 in
theorem lm_c165 : lm_m165.2.2.2.2.2.all (fun q => q.2.all (lm_chkE lm_tb9 false lm_cl prog_4_method_2_code none 2 [] lm_m165.2.2.2.2.1 lm_pf9)) = true := by decide +kernel
set_option maxRecDepth 1000000 in
set_option maxHeartbeats 8000000 in
theorem lm_c166 : lm_m166.2.2.2.2.2.all (fun q => q.2.all (lm_chkE lm_tb9 false lm_cl prog_4_method_10_code none 6 [] lm_m166.2.2.2.2.1 lm_pf9)) = true := by decide +kernel
set_option maxRecDepth 1000000 in
set_option maxHeartbeats 8000000 in
theorem lm_c167 : lm_m167.2.2.2.2.2.all (fun q => q.2.all (lm_chkE lm_tb11 false lm_cl prog_14_method_66_code (some .int) 2 [] lm_m167.2.2.2.2.1 lm_pf11)) = true := by decide +kernel
set_option maxRecDepth 1000000 in
set_option maxHeartbeats 8000000 in
theorem lm_c168 : lm_m168.2.2.2.2.2.all (fun q => q.2.all (lm_chkE lm_tb4 false lm_cl prog_10_method_2_code (some .boolean) 2 [] lm_m168.2.2.2.2.1 lm_pf4)) = true := by decide +kernel
set_option maxRecDepth 1000000 in
set_option maxHeartbeats 8000000 in
theorem lm_c169 : lm_m169.2.2.2.2.2.all (fun q => q.2.all (lm_chkE lm_tb9 false lm_cl prog_4_method_4_code (some .int) 1 [] lm_m169.2.2.2.2.1 lm_pf9)) = true := by decide +kernel
set_option maxRecDepth 1000000 in
set_option maxHeartbeats 8000000 in
theorem lm_c170 : lm_m170.2.2.2.2.2.all (fun q => q.2.all (lm_chkE lm_tb4 false lm_cl prog_10_method_3_code none 2 [] lm_m170.2.2.2.2.1 lm_pf4)) = true := by decide +kernel
set_option maxRecDepth 1000000 in
set_option maxHeartbeats 8000000 in
theorem lm_c171 : lm_m171.2.2.2.2.2.all (fun q => q.2.all (lm_chkE lm_tb9 false lm_cl prog_4_method_15_code (some .int) 6 [] lm_m171.2.2.2.2.1 lm_pf9)) = true := by decide +kernel
set_option maxRecDepth 1000000 in
set_option maxHeartbeats 8000000 in
theorem lm_c172 : lm_m172.2.2.2.2.2.all (fun q => q.2.all (lm_chkE lm_tb11 false lm_cl prog_14_method_64_code none 8 [] lm_m172.2.2.2.2.1 lm_pf11)) = true := by decide +kernel
