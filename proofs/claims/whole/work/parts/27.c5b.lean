set_option maxRecDepth 1000000 in
set_option maxHeartbeats 8000000 in
theorem lm_c201 : lm_m201.2.2.2.2.2.all (fun q => q.2.all (lm_chkE lm_tb6 false lm_cl prog_8_method_2_code none 5 [] lm_m201.2.2.2.2.1 lm_pf6)) = true := by decide +kernel
set_option maxRecDepth 1000000 in
set_option maxHeartbeats 8000000 in
theorem lm_c202 : lm_m202.2.2.2.2.2.all (fun q => q.2.all (lm_chkE lm_tb7 false lm_cl prog_9_method_2_code none 2 [] lm_m202.2.2.2.2.1 lm_pf7)) = true := by decide +kernel
set_option maxRecDepth 1000000 in
set_option maxHeartbeats 8000000 in
theorem lm_c203 : lm_m203.2.2.2.2.2.all (fun q => q.2.all (lm_chkE lm_tb2 false lm_cl prog_6_method_6_code none 3 [] lm_m203.2.2.2.2.1 lm_pf2)) = true := by decide +kernel
set_option maxRecDepth 1000000 in
set_option maxHeartbeats 8000000 in
theorem lm_c204 : lm_m204.2.2.2.2.2.all (fun q => q.2.all (lm_chkE lm_tb2 false lm_cl prog_6_method_2_code (some (.object "LatticeSuite$Hash")) 2 [] lm_m204.2.2.2.2.1 lm_pf2)) = true := by decide +kernel
set_option maxRecDepth 1000000 in
set_option maxHeartbeats 8000000 in
theorem lm_c205 : lm_m205.2.2.2.2.2.all (fun q => q.2.all (lm_chkE lm_tb16 false lm_cl prog_25_method_69_code (some .int) 2 [] lm_m205.2.2.2.2.1 lm_pf16)) = true := by decide +kernel
set_option maxRecDepth 1000000 in
set_option maxHeartbeats 8000000 in
theorem lm_c206 : lm_m206.2.2.2.2.2.all (fun q => q.2.all (lm_chkE lm_tb5 false lm_cl prog_12_method_5_code none 5 [] lm_m206.2.2.2.2.1 lm_pf5)) = true := by decide +kernel
set_option maxRecDepth 1000000 in
set_option maxHeartbeats 8000000 in
theorem lm_c207_0 : lm_r207_0.all (lm_chkE lm_tb6 false lm_cl prog_8_method_6_code none 13 [] lm_m207.2.2.2.2.1 lm_pf6) = true := by decide +kernel
set_option maxRecDepth 1000000 in
set_option maxHeartbeats 8000000 in
theorem lm_c207_9 : lm_r207_9.all (lm_chkE lm_tb6 false lm_cl prog_8_method_6_code none 13 [] lm_m207.2.2.2.2.1 lm_pf6) = true := by decide +kernel
set_option maxRecDepth 1000000 in
set_option maxHeartbeats 8000000 in
theorem lm_c207_84 : lm_r207_84.all (lm_chkE lm_tb6 false lm_cl prog_8_method_6_code none 13 [] lm_m207.2.2.2.2.1 lm_pf6) = true := by decide +kernel
set_option maxRecDepth 1000000 in
set_option maxHeartbeats 8000000 in
theorem lm_c207_233 : lm_r207_233.all (lm_chkE lm_tb6 false lm_cl prog_8_method_6_code none 13 [] lm_m207.2.2.2.2.1 lm_pf6) = true := by decide +kernel
theorem lm_c207 : lm_m207.2.2.2.2.2.all (fun q => q.2.all (lm_chkE lm_tb6 false lm_cl prog_8_method_6_code none 13 [] lm_m207.2.2.2.2.1 lm_pf6)) = true := lm_all_cons lm_c207_0 (lm_all_cons lm_c207_9 (lm_all_cons lm_c207_84 (lm_all_cons lm_c207_233 rfl)))
set_option maxRecDepth 1000000 in
set_option maxHeartbeats 8000000 in
theorem lm_c208_0 : lm_r208_0.all (lm_chkE lm_tb7 false lm_cl prog_9_method_6_code none 23 [] lm_m208.2.2.2.2.1 lm_pf7) = true := by decide +kernel
set_option maxRecDepth 1000000 in
set_option maxHeartbeats 8000000 in
theorem lm_c208_7 : lm_r208_7.all (lm_chkE lm_tb7 false lm_cl prog_9_method_6_code none 23 [] lm_m208.2.2.2.2.1 lm_pf7) = true := by decide +kernel
set_option maxRecDepth 1000000 in
set_option maxHeartbeats 8000000 in
theorem lm_c208_21 : lm_r208_21.all (lm_chkE lm_tb7 false lm_cl prog_9_method_6_code none 23 [] lm_m208.2.2.2.2.1 lm_pf7) = true := by decide +kernel
set_option maxRecDepth 1000000 in
set_option maxHeartbeats 8000000 in
theorem lm_c208_70 : lm_r208_70.all (lm_chkE lm_tb7 false lm_cl prog_9_method_6_code none 23 [] lm_m208.2.2.2.2.1 lm_pf7) = true := by decide +kernel
set_option maxRecDepth 1000000 in
set_option maxHeartbeats 8000000 in
theorem lm_c208_220 : lm_r208_220.all (lm_chkE lm_tb7 false lm_cl prog_9_method_6_code none 23 [] lm_m208.2.2.2.2.1 lm_pf7) = true := by decide +kernel
theorem lm_c208 : lm_m208.2.2.2.2.2.all (fun q => q.2.all (lm_chkE lm_tb7 false lm_cl prog_9_method_6_code none 23 [] lm_m208.2.2.2.2.1 lm_pf7)) = true := lm_all_cons lm_c208_0 (lm_all_cons lm_c208_7 (lm_all_cons lm_c208_21 (lm_all_cons lm_c208_70 (lm_all_cons lm_c208_220 rfl))))
set_option maxRecDepth 1000000 in
set_option maxHeartbeats 8000000 in
theorem lm_c209 : lm_m209.2.2.2.2.2.all (fun q => q.2.all (lm_chkE lm_tb3 false lm_cl prog_5_method_9_code none 1 [] lm_m209.2.2.2.2.1 lm_pf3)) = true := by decide +kernel
set_option maxRecDepth 1000000 in
set_option maxHeartbeats 8000000 in
theorem lm_c210 : lm_m210.2.2.2.2.2.all (fun q => q.2.all (lm_chkE lm_tb3 false lm_cl prog_5_method_10_code none 1 [] lm_m210.2.2.2.2.1 lm_pf3)) = true := by decide +kernel
