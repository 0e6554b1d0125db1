set_option maxRecDepth 1000000 in
set_option maxHeartbeats 8000000 in
theorem lm_c219 : lm_m219.2.2.2.2.2.all (fun q => q.2.all (lm_chkE lm_tb13 false lm_cl prog_2_method_4_code none 8 [] lm_m219.2.2.2.2.1 lm_pf13)) = true := by decide +kernel
set_option maxRecDepth 1000000 in
set_option maxHeartbeats 8000000 in
theorem lm_c220 : lm_m220.2.2.2.2.2.all (fun q => q.2.all (lm_chkE lm_tb8 false lm_cl prog_7_method_23_code none 5 [] lm_m220.2.2.2.2.1 lm_pf8)) = true := by decide +kernel
set_option maxRecDepth 1000000 in
set_option maxHeartbeats 8000000 in
theorem lm_c221 : lm_m221.2.2.2.2.2.all (fun q => q.2.all (lm_chkE lm_tb8 false lm_cl prog_7_method_24_code none 2 [] lm_m221.2.2.2.2.1 lm_pf8)) = true := by decide +kernel
set_option maxRecDepth 1000000 in
set_option maxHeartbeats 8000000 in
theorem lm_c222 : lm_m222.2.2.2.2.2.all (fun q => q.2.all (lm_chkE lm_tb8 false lm_cl prog_7_method_3_code (some .int) 1 [] lm_m222.2.2.2.2.1 lm_pf8)) = true := by decide +kernel
set_option maxRecDepth 1000000 in
set_option maxHeartbeats 8000000 in
theorem lm_c223 : lm_m223.2.2.2.2.2.all (fun q => q.2.all (lm_chkE lm_tb8 false lm_cl prog_7_method_16_code none 6 [] lm_m223.2.2.2.2.1 lm_pf8)) = true := by decide +kernel
set_option maxRecDepth 1000000 in
set_option maxHeartbeats 8000000 in
theorem lm_c224 : lm_m224.2.2.2.2.2.all (fun q => q.2.all (lm_chkE lm_tb11 false lm_cl prog_14_method_30_code (some .long) 3 [] lm_m224.2.2.2.2.1 lm_pf11)) = true := by decide +kernel
set_option maxRecDepth 1000000 in
set_option maxHeartbeats 8000000 in
theorem lm_c225 : lm_m225.2.2.2.2.2.all (fun q => q.2.all (lm_chkE lm_tb11 false lm_cl prog_14_method_32_code (some .int) 2 [] lm_m225.2.2.2.2.1 lm_pf11)) = true := by decide +kernel
set_option maxRecDepth 1000000 in
set_option maxHeartbeats 8000000 in
theorem lm_c226 : lm_m226.2.2.2.2.2.all (fun q => q.2.all (lm_chkE lm_tb11 false lm_cl prog_14_method_31_code (some .long) 3 [] lm_m226.2.2.2.2.1 lm_pf11)) = true := by decide +kernel
set_option maxRecDepth 1000000 in
set_option maxHeartbeats 8000000 in
theorem lm_c227 : lm_m227.2.2.2.2.2.all (fun q => q.2.all (lm_chkE lm_tb13 false lm_cl prog_2_method_5_code none 9 [] lm_m227.2.2.2.2.1 lm_pf13)) = true := by decide +kernel
set_option maxRecDepth 1000000 in
set_option maxHeartbeats 8000000 in
theorem lm_c228 : lm_m228.2.2.2.2.2.all (fun q => q.2.all (lm_chkE lm_tb8 false lm_cl prog_7_method_11_code none 6 [] lm_m228.2.2.2.2.1 lm_pf8)) = true := by decide +kernel
set_option maxRecDepth 1000000 in
set_option maxHeartbeats 8000000 in
theorem lm_c229 : lm_m229.2.2.2.2.2.all (fun q => q.2.all (lm_chkE lm_tb8 false lm_cl prog_7_method_4_code (some .int) 1 [] lm_m229.2.2.2.2.1 lm_pf8)) = true := by decide +kernel
set_option maxRecDepth 1000000 in
set_option maxHeartbeats 8000000 in
theorem lm_c230 : lm_m230.2.2.2.2.2.all (fun q => q.2.all (lm_chkE lm_tb8 false lm_cl prog_7_method_13_code none 5 [] lm_m230.2.2.2.2.1 lm_pf8)) = true := by decide +kernel
set_option maxRecDepth 1000000 in
set_option maxHeartbeats 8000000 in
theorem lm_c231 : lm_m231.2.2.2.2.2.all (fun q => q.2.all (lm_chkE lm_tb9 false lm_cl prog_4_method_11_code none 3 [] lm_m231.2.2.2.2.1 lm_pf9)) = true := by decide +kernel
set_option maxRecDepth 1000000 in
set_option maxHeartbeats 8000000 in
theorem lm_c232 : lm_m232.2.2.2.2.2.all (fun q => q.2.all (lm_chkE lm_tb9 false lm_cl prog_4_method_36_code none 5 [] lm_m232.2.2.2.2.1 lm_pf9)) = true := by decide +kernel
set_option maxRecDepth 1000000 in
set_option maxHeartbeats 8000000 in
theorem lm_c233 : lm_m233.2.2.2.2.2.all (fun q => q.2.all (lm_chkE lm_tb9 false lm_cl prog_4_method_38_code none 7 [] lm_m233.2.2.2.2.1 lm_pf9)) = true := by decide +kernel
set_option maxRecDepth 1000000 in
set_option maxHeartbeats 8000000 in
theorem lm_c234 : lm_m234.2.2.2.2.2.all (fun q => q.2.all (lm_chkE lm_tb9 false lm_cl prog_4_method_6_code (some .int) 1 [] lm_m234.2.2.2.2.1 lm_pf9)) = true := by decide +kernel
set_option maxRecDepth 1000000 in
set_option maxHeartbeats 8000000 in
theorem lm_c235 : lm_m235.2.2.2.2.2.all (fun q => q.2.all (lm_chkE lm_tb9 false lm_cl prog_4_method_34_code none 7 [] lm_m235.2.2.2.2.1 lm_pf9)) = true := by decide +kernel
set_option maxRecDepth 1000000 in
set_option maxHeartbeats 8000000 in
theorem lm_c236 : lm_m236.2.2.2.2.2.all (fun q => q.2.all (lm_chkE lm_tb9 false lm_cl prog_4_method_41_code none 9 [] lm_m236.2.2.2.2.1 lm_pf9)) = true := by decide +kernel
set_option maxRecDepth 1000000 in
set_option maxHeartbeats 8000000 in
theorem lm_c237 : lm_m237.2.2.2.2.2.all (fun q => q.2.all (lm_chkE lm_tb9 false lm_cl prog_4_method_40_code none 8 [] lm_m237.2.2.2.2.1 lm_pf9)) = true := by decide +kernel
