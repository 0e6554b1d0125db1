set_option maxRecDepth 1000000 in
set_option maxHeartbeats 8000000 in
theorem lm_c184 : lm_m184.2.2.2.2.2.all (fun q => q.2.all (lm_chkE lm_tb10 false lm_cl prog_11_method_3_code (some .int) 1 [] lm_m184.2.2.2.2.1 lm_pf10)) = true := by decide +kernel
set_option maxRecDepth 1000000 in
set_option maxHeartbeats 8000000 in
theorem lm_c185 : lm_m185.2.2.2.2.2.all (fun q => q.2.all (lm_chkE lm_tb11 false lm_cl prog_14_method_98_code (some .int) 4 [] lm_m185.2.2.2.2.1 lm_pf11)) = true := by decide +kernel
set_option maxRecDepth 1000000 in
set_option maxHeartbeats 8000000 in
theorem lm_c186 : lm_m186.2.2.2.2.2.all (fun q => q.2.all (lm_chkE lm_tb11 false lm_cl prog_14_method_89_code none 3 [] lm_m186.2.2.2.2.1 lm_pf11)) = true := by decide +kernel
set_option maxRecDepth 1000000 in
set_option maxHeartbeats 8000000 in
theorem lm_c187 : lm_m187.2.2.2.2.2.all (fun q => q.2.all (lm_chkE lm_tb11 false lm_cl prog_14_method_97_code none 7 [] lm_m187.2.2.2.2.1 lm_pf11)) = true := by decide +kernel
set_option maxRecDepth 1000000 in
set_option maxHeartbeats 8000000 in
theorem lm_c188 : lm_m188.2.2.2.2.2.all (fun q => q.2.all (lm_chkE lm_tb11 false lm_cl prog_14_method_95_code none 9 [] lm_m188.2.2.2.2.1 lm_pf11)) = true := by decide +kernel
set_option maxRecDepth 1000000 in
set_option maxHeartbeats 8000000 in
theorem lm_c189 : lm_m189.2.2.2.2.2.all (fun q => q.2.all (lm_chkE lm_tb11 false lm_cl prog_14_method_93_code none 5 [] lm_m189.2.2.2.2.1 lm_pf11)) = true := by decide +kernel
set_option maxRecDepth 1000000 in
set_option maxHeartbeats 8000000 in
theorem lm_c190 : lm_m190.2.2.2.2.2.all (fun q => q.2.all (lm_chkE lm_tb11 false lm_cl prog_14_method_90_code none 8 [] lm_m190.2.2.2.2.1 lm_pf11)) = true := by decide +kernel
set_option maxRecDepth 1000000 in
set_option maxHeartbeats 8000000 in
theorem lm_c191 : lm_m191.2.2.2.2.2.all (fun q => q.2.all (lm_chkE lm_tb10 false lm_cl prog_11_method_10_code (some .boolean) 10 [] lm_m191.2.2.2.2.1 lm_pf10)) = true := by decide +kernel
set_option maxRecDepth 1000000 in
set_option maxHeartbeats 8000000 in
theorem lm_c192 : lm_m192.2.2.2.2.2.all (fun q => q.2.all (lm_chkE lm_tb10 false lm_cl prog_11_method_11_code none 2 [] lm_m192.2.2.2.2.1 lm_pf10)) = true := by decide +kernel
set_option maxRecDepth 1000000 in
set_option maxHeartbeats 8000000 in
theorem lm_c193 : lm_m193.2.2.2.2.2.all (fun q => q.2.all (lm_chkE lm_tb10 false lm_cl prog_11_method_21_code none 5 [] lm_m193.2.2.2.2.1 lm_pf10)) = true := by decide +kernel
set_option maxRecDepth 1000000 in
set_option maxHeartbeats 8000000 in
theorem lm_c194 : lm_m194.2.2.2.2.2.all (fun q => q.2.all (lm_chkE lm_tb10 false lm_cl prog_11_method_27_code none 11 [] lm_m194.2.2.2.2.1 lm_pf10)) = true := by decide +kernel
set_option maxRecDepth 1000000 in
set_option maxHeartbeats 8000000 in
theorem lm_c195 : lm_m195.2.2.2.2.2.all (fun q => q.2.all (lm_chkE lm_tb3 true lm_cl prog_5_method_1_code none 2 [] lm_m195.2.2.2.2.1 lm_pf3)) = true := by decide +kernel
set_option maxRecDepth 1000000 in
set_option maxHeartbeats 8000000 in
theorem lm_c196 : lm_m196.2.2.2.2.2.all (fun q => q.2.all (lm_chkE lm_tb14 false lm_cl prog_23_method_52_code (some .int) 1 [] lm_m196.2.2.2.2.1 lm_pf14)) = true := by decide +kernel
set_option maxRecDepth 1000000 in
set_option maxHeartbeats 8000000 in
theorem lm_c197 : lm_m197.2.2.2.2.2.all (fun q => q.2.all (lm_chkE lm_tb11 false lm_cl prog_14_method_17_code (some .boolean) 10 [] lm_m197.2.2.2.2.1 lm_pf11)) = true := by decide +kernel
set_option maxRecDepth 1000000 in
set_option maxHeartbeats 8000000 in
theorem lm_c198 : lm_m198.2.2.2.2.2.all (fun q => q.2.all (lm_chkE lm_tb17 false lm_cl prog_34_method_30_code none 3 [] lm_m198.2.2.2.2.1 lm_pf17)) = true := by decide +kernel
set_option maxRecDepth 1000000 in
set_option maxHeartbeats 8000000 in
theorem lm_c199 : lm_m199.2.2.2.2.2.all (fun q => q.2.all (lm_chkE lm_tb17 false lm_cl prog_34_method_109_code none 4 [] lm_m199.2.2.2.2.1 lm_pf17)) = true := by decide +kernel
set_option maxRecDepth 1000000 in
set_option maxHeartbeats 8000000 in
theorem lm_c200 : lm_m200.2.2.2.2.2.all (fun q => q.2.all (lm_chkE lm_tb5 false lm_cl prog_12_method_2_code none 3 [] lm_m200.2.2.2.2.1 lm_pf5)) = true := by decide +kernel
