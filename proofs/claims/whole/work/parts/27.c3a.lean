set_option maxRecDepth 1000000 in
set_option maxHeartbeats 8000000 in
theorem lm_c100 : lm_m100.2.2.2.2.2.all (fun q => q.2.all (lm_chkE lm_tb0 false lm_cl prog_1_method_16_code (some .boolean) 3 [] lm_m100.2.2.2.2.1 lm_pf0)) = true := by decide +kernel
set_option maxRecDepth 1000000 in
set_option maxHeartbeats 8000000 in
theorem lm_c101 : lm_m101.2.2.2.2.2.all (fun q => q.2.all (lm_chkE lm_tb11 false lm_cl prog_14_method_83_code (some .boolean) 7 [] lm_m101.2.2.2.2.1 lm_pf11)) = true := by decide +kernel
set_option maxRecDepth 1000000 in
set_option maxHeartbeats 8000000 in
theorem lm_c102 : lm_m102.2.2.2.2.2.all (fun q => q.2.all (lm_chkE lm_tb11 false lm_cl prog_14_method_68_code (some .boolean) 7 [] lm_m102.2.2.2.2.1 lm_pf11)) = true := by decide +kernel
set_option maxRecDepth 1000000 in
set_option maxHeartbeats 8000000 in
theorem lm_c103 : lm_m103.2.2.2.2.2.all (fun q => q.2.all (lm_chkE lm_tb11 false lm_cl prog_14_method_70_code (some .int) 3 [] lm_m103.2.2.2.2.1 lm_pf11)) = true := by decide +kernel
set_option maxRecDepth 1000000 in
set_option maxHeartbeats 8000000 in
theorem lm_c104 : lm_m104.2.2.2.2.2.all (fun q => q.2.all (lm_chkE lm_tb11 false lm_cl prog_14_method_69_code (some .int) 3 [] lm_m104.2.2.2.2.1 lm_pf11)) = true := by decide +kernel
set_option maxRecDepth 1000000 in
set_option maxHeartbeats 8000000 in
theorem lm_c105 : lm_m105.2.2.2.2.2.all (fun q => q.2.all (lm_chkE lm_tb11 false lm_cl prog_14_method_80_code none 6 [] lm_m105.2.2.2.2.1 lm_pf11)) = true := by decide +kernel
set_option maxRecDepth 1000000 in
set_option maxHeartbeats 8000000 in
theorem lm_c106 : lm_m106.2.2.2.2.2.all (fun q => q.2.all (lm_chkE lm_tb0 false lm_cl prog_1_method_17_code (some .int) 2 [] lm_m106.2.2.2.2.1 lm_pf0)) = true := by decide +kernel
set_option maxRecDepth 1000000 in
set_option maxHeartbeats 8000000 in
theorem lm_c107 : lm_m107.2.2.2.2.2.all (fun q => q.2.all (lm_chkE lm_tb11 false lm_cl prog_14_method_85_code none 4 [] lm_m107.2.2.2.2.1 lm_pf11)) = true := by decide +kernel
set_option maxRecDepth 1000000 in
set_option maxHeartbeats 8000000 in
theorem lm_c108 : lm_m108.2.2.2.2.2.all (fun q => q.2.all (lm_chkE lm_tb11 false lm_cl prog_14_method_86_code none 5 [] lm_m108.2.2.2.2.1 lm_pf11)) = true := by decide +kernel
set_option maxRecDepth 1000000 in
set_option maxHeartbeats 8000000 in
theorem lm_c109 : lm_m109.2.2.2.2.2.all (fun q => q.2.all (lm_chkE lm_tb11 false lm_cl prog_14_method_92_code none 6 [] lm_m109.2.2.2.2.1 lm_pf11)) = true := by decide +kernel
set_option maxRecDepth 1000000 in
set_option maxHeartbeats 8000000 in
theorem lm_c110 : lm_m110.2.2.2.2.2.all (fun q => q.2.all (lm_chkE lm_tb0 false lm_cl prog_1_method_18_code (some .int) 4 [] lm_m110.2.2.2.2.1 lm_pf0)) = true := by decide +kernel
set_option maxRecDepth 1000000 in
set_option maxHeartbeats 8000000 in
theorem lm_c111 : lm_m111.2.2.2.2.2.all (fun q => q.2.all (lm_chkE lm_tb11 false lm_cl prog_14_method_76_code none 2 [] lm_m111.2.2.2.2.1 lm_pf11)) = true := by decide +kernel
set_option maxRecDepth 1000000 in
set_option maxHeartbeats 8000000 in
theorem lm_c112 : lm_m112.2.2.2.2.2.all (fun q => q.2.all (lm_chkE lm_tb11 false lm_cl prog_14_method_101_code (some .int) 1 [] lm_m112.2.2.2.2.1 lm_pf11)) = true := by decide +kernel
set_option maxRecDepth 1000000 in
set_option maxHeartbeats 8000000 in
theorem lm_c113 : lm_m113.2.2.2.2.2.all (fun q => q.2.all (lm_chkE lm_tb11 false lm_cl prog_14_method_77_code none 2 [] lm_m113.2.2.2.2.1 lm_pf11)) = true := by decide +kernel
