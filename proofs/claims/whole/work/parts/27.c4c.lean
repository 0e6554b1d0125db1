set_option maxRecDepth 1000000 in
set_option maxHeartbeats 8000000 in
theorem lm_c173 : lm_m173.2.2.2.2.2.all (fun q => q.2.all (lm_chkE lm_tb9 false lm_cl prog_4_method_3_code (some .int) 1 [] lm_m173.2.2.2.2.1 lm_pf9)) = true := by decide +kernel
set_option maxRecDepth 1000000 in
set_option maxHeartbeats 8000000 in
theorem lm_c174 : lm_m174.2.2.2.2.2.all (fun q => q.2.all (lm_chkE lm_tb9 false lm_cl prog_4_method_26_code (some .boolean) 6 [] lm_m174.2.2.2.2.1 lm_pf9)) = true := by decide +kernel
set_option maxRecDepth 1000000 in
set_option maxHeartbeats 8000000 in
theorem lm_c175 : lm_m175.2.2.2.2.2.all (fun q => q.2.all (lm_chkE lm_tb9 false lm_cl prog_4_method_28_code (some .boolean) 7 [] lm_m175.2.2.2.2.1 lm_pf9)) = true := by decide +kernel
set_option maxRecDepth 1000000 in
set_option maxHeartbeats 8000000 in
theorem lm_c176 : lm_m176.2.2.2.2.2.all (fun q => q.2.all (lm_chkE lm_tb10 false lm_cl prog_11_method_2_code none 3 [] lm_m176.2.2.2.2.1 lm_pf10)) = true := by decide +kernel
set_option maxRecDepth 1000000 in
set_option maxHeartbeats 8000000 in
theorem lm_c177 : lm_m177.2.2.2.2.2.all (fun q => q.2.all (lm_chkE lm_tb10 false lm_cl prog_11_method_6_code none 4 [] lm_m177.2.2.2.2.1 lm_pf10)) = true := by decide +kernel
set_option maxRecDepth 1000000 in
set_option maxHeartbeats 8000000 in
theorem lm_c178 : lm_m178.2.2.2.2.2.all (fun q => q.2.all (lm_chkE lm_tb11 false lm_cl prog_14_method_91_code none 5 [] lm_m178.2.2.2.2.1 lm_pf11)) = true := by decide +kernel
set_option maxRecDepth 1000000 in
set_option maxHeartbeats 8000000 in
theorem lm_c179 : lm_m179.2.2.2.2.2.all (fun q => q.2.all (lm_chkE lm_tb11 false lm_cl prog_14_method_87_code none 6 [] lm_m179.2.2.2.2.1 lm_pf11)) = true := by decide +kernel
set_option maxRecDepth 1000000 in
set_option maxHeartbeats 8000000 in
theorem lm_c180 : lm_m180.2.2.2.2.2.all (fun q => q.2.all (lm_chkE lm_tb11 false lm_cl prog_14_method_88_code none 8 [] lm_m180.2.2.2.2.1 lm_pf11)) = true := by decide +kernel
set_option maxRecDepth 1000000 in
set_option maxHeartbeats 8000000 in
theorem lm_c181 : lm_m181.2.2.2.2.2.all (fun q => q.2.all (lm_chkE lm_tb10 false lm_cl prog_11_method_7_code none 6 [] lm_m181.2.2.2.2.1 lm_pf10)) = true := by decide +kernel
set_option maxRecDepth 1000000 in
set_option maxHeartbeats 8000000 in
theorem lm_c182 : lm_m182.2.2.2.2.2.all (fun q => q.2.all (lm_chkE lm_tb10 false lm_cl prog_11_method_8_code none 7 [] lm_m182.2.2.2.2.1 lm_pf10)) = true := by decide +kernel
set_option maxRecDepth 1000000 in
set_option maxHeartbeats 8000000 in
theorem lm_c183 : lm_m183.2.2.2.2.2.all (fun q => q.2.all (lm_chkE lm_tb10 false lm_cl prog_11_method_9_code none 8 [] lm_m183.2.2.2.2.1 lm_pf10)) = true := by decide +kernel
