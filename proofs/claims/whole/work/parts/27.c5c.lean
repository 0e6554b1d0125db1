set_option maxRecDepth 1000000 in
set_option maxHeartbeats 8000000 in
theorem lm_c211 : lm_m211.2.2.2.2.2.all (fun q => q.2.all (lm_chkE lm_tb5 false lm_cl prog_12_method_8_code none 5 [] lm_m211.2.2.2.2.1 lm_pf5)) = true := by decide +kernel
set_option maxRecDepth 1000000 in
set_option maxHeartbeats 8000000 in
theorem lm_c212_0 : lm_r212_0.all (lm_chkE lm_tb5 false lm_cl prog_12_method_9_code none 35 [] lm_m212.2.2.2.2.1 lm_pf5) = true := by decide +kernel
set_option maxRecDepth 1000000 in
set_option maxHeartbeats 8000000 in
theorem lm_c212_12 : lm_r212_12.all (lm_chkE lm_tb5 false lm_cl prog_12_method_9_code none 35 [] lm_m212.2.2.2.2.1 lm_pf5) = true := by decide +kernel
set_option maxRecDepth 1000000 in
set_option maxHeartbeats 8000000 in
theorem lm_c212_580 : lm_r212_580.all (lm_chkE lm_tb5 false lm_cl prog_12_method_9_code none 35 [] lm_m212.2.2.2.2.1 lm_pf5) = true := by decide +kernel
theorem lm_c212 : lm_m212.2.2.2.2.2.all (fun q => q.2.all (lm_chkE lm_tb5 false lm_cl prog_12_method_9_code none 35 [] lm_m212.2.2.2.2.1 lm_pf5)) = true := lm_all_cons lm_c212_0 (lm_all_cons lm_c212_12 (lm_all_cons lm_c212_580 rfl))
set_option maxRecDepth 1000000 in
set_option maxHeartbeats 8000000 in
theorem lm_c213 : lm_m213.2.2.2.2.2.all (fun q => q.2.all (lm_chkE lm_tb3 false lm_cl prog_5_method_11_code (some .boolean) 2 [] lm_m213.2.2.2.2.1 lm_pf3)) = true := by decide +kernel
set_option maxRecDepth 1000000 in
set_option maxHeartbeats 8000000 in
theorem lm_c214 : lm_m214.2.2.2.2.2.all (fun q => q.2.all (lm_chkE lm_tb3 false lm_cl prog_5_method_12_code none 3 [] lm_m214.2.2.2.2.1 lm_pf3)) = true := by decide +kernel
set_option maxRecDepth 1000000 in
set_option maxHeartbeats 8000000 in
theorem lm_c215 : lm_m215.2.2.2.2.2.all (fun q => q.2.all (lm_chkE lm_tb8 false lm_cl prog_7_method_17_code none 7 [] lm_m215.2.2.2.2.1 lm_pf8)) = true := by decide +kernel
set_option maxRecDepth 1000000 in
set_option maxHeartbeats 8000000 in
theorem lm_c216 : lm_m216.2.2.2.2.2.all (fun q => q.2.all (lm_chkE lm_tb8 false lm_cl prog_7_method_18_code none 5 [] lm_m216.2.2.2.2.1 lm_pf8)) = true := by decide +kernel
set_option maxRecDepth 1000000 in
set_option maxHeartbeats 8000000 in
theorem lm_c217 : lm_m217.2.2.2.2.2.all (fun q => q.2.all (lm_chkE lm_tb8 false lm_cl prog_7_method_20_code none 10 [] lm_m217.2.2.2.2.1 lm_pf8)) = true := by decide +kernel
set_option maxRecDepth 1000000 in
set_option maxHeartbeats 8000000 in
theorem lm_c218 : lm_m218.2.2.2.2.2.all (fun q => q.2.all (lm_chkE lm_tb8 false lm_cl prog_7_method_21_code none 8 [] lm_m218.2.2.2.2.1 lm_pf8)) = true := by decide +kernel
