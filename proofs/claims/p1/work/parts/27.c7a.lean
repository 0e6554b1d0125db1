set_option maxRecDepth 1000000 in
set_option maxHeartbeats 8000000 in
theorem lm_c271 : lm_m271.2.2.2.2.2.all (fun q => q.2.all (lm_chkE lm_tb10 false lm_cl prog_11_method_25_code none 5 [] lm_m271.2.2.2.2.1 lm_pf10)) = true := by decide +kernel
set_option maxRecDepth 1000000 in
set_option maxHeartbeats 8000000 in
theorem lm_c272 : lm_m272.2.2.2.2.2.all (fun q => q.2.all (lm_chkE lm_tb10 false lm_cl prog_11_method_26_code none 5 [] lm_m272.2.2.2.2.1 lm_pf10)) = true := by decide +kernel
set_option maxRecDepth 1000000 in
set_option maxHeartbeats 8000000 in
theorem lm_c273 : lm_m273.2.2.2.2.2.all (fun q => q.2.all (lm_chkE lm_tb14 false lm_cl prog_23_method_57_code (some .int) 1 [] lm_m273.2.2.2.2.1 lm_pf14)) = true := by decide +kernel
set_option maxRecDepth 1000000 in
set_option maxHeartbeats 8000000 in
theorem lm_c274 : lm_m274.2.2.2.2.2.all (fun q => q.2.all (lm_chkE lm_tb17 false lm_cl prog_34_method_101_code none 5 [] lm_m274.2.2.2.2.1 lm_pf17)) = true := by decide +kernel
set_option maxRecDepth 1000000 in
set_option maxHeartbeats 8000000 in
theorem lm_c275 : lm_m275.2.2.2.2.2.all (fun q => q.2.all (lm_chkE lm_tb3 false lm_cl prog_5_method_7_code none 1 [] lm_m275.2.2.2.2.1 lm_pf3)) = true := by decide +kernel
set_option maxRecDepth 1000000 in
set_option maxHeartbeats 8000000 in
theorem lm_c276 : lm_m276.2.2.2.2.2.all (fun q => q.2.all (lm_chkE lm_tb14 false lm_cl prog_23_method_51_code (some .int) 2 [] lm_m276.2.2.2.2.1 lm_pf14)) = true := by decide +kernel
set_option maxRecDepth 1000000 in
set_option maxHeartbeats 8000000 in
theorem lm_c277 : lm_m277.2.2.2.2.2.all (fun q => q.2.all (lm_chkE lm_tb15 false lm_cl prog_24_method_52_code (some .long) 3 [] lm_m277.2.2.2.2.1 lm_pf15)) = true := by decide +kernel
set_option maxRecDepth 1000000 in
set_option maxHeartbeats 8000000 in
theorem lm_c278 : lm_m278.2.2.2.2.2.all (fun q => q.2.all (lm_chkE lm_tb5 false lm_cl prog_12_method_3_code none 1 [] lm_m278.2.2.2.2.1 lm_pf5)) = true := by decide +kernel
set_option maxRecDepth 1000000 in
set_option maxHeartbeats 8000000 in
theorem lm_c279 : lm_m279.2.2.2.2.2.all (fun q => q.2.all (lm_chkE lm_tb6 false lm_cl prog_8_method_3_code none 1 [] lm_m279.2.2.2.2.1 lm_pf6)) = true := by decide +kernel
set_option maxRecDepth 1000000 in
set_option maxHeartbeats 8000000 in
theorem lm_c280 : lm_m280.2.2.2.2.2.all (fun q => q.2.all (lm_chkE lm_tb7 false lm_cl prog_9_method_3_code none 1 [] lm_m280.2.2.2.2.1 lm_pf7)) = true := by decide +kernel
set_option maxRecDepth 1000000 in
set_option maxHeartbeats 8000000 in
theorem lm_c281 : lm_m281.2.2.2.2.2.all (fun q => q.2.all (lm_chkE lm_tb5 false lm_cl prog_12_method_4_code none 1 [] lm_m281.2.2.2.2.1 lm_pf5)) = true := by decide +kernel
set_option maxRecDepth 1000000 in
set_option maxHeartbeats 8000000 in
theorem lm_c282 : lm_m282.2.2.2.2.2.all (fun q => q.2.all (lm_chkE lm_tb6 false lm_cl prog_8_method_4_code none 1 [] lm_m282.2.2.2.2.1 lm_pf6)) = true := by decide +kernel
set_option maxRecDepth 1000000 in
set_option maxHeartbeats 8000000 in
theorem lm_c283 : lm_m283.2.2.2.2.2.all (fun q => q.2.all (lm_chkE lm_tb7 false lm_cl prog_9_method_4_code none 1 [] lm_m283.2.2.2.2.1 lm_pf7)) = true := by decide +kernel
set_option maxRecDepth 1000000 in
set_option maxHeartbeats 8000000 in
theorem lm_c284 : lm_m284.2.2.2.2.2.all (fun q => q.2.all (lm_chkE lm_tb15 false lm_cl prog_24_method_51_code (some .long) 3 [] lm_m284.2.2.2.2.1 lm_pf15)) = true := by decide +kernel
set_option maxRecDepth 1000000 in
set_option maxHeartbeats 8000000 in
theorem lm_c285 : lm_m285.2.2.2.2.2.all (fun q => q.2.all (lm_chkE lm_tb8 false lm_cl prog_7_method_19_code none 9 [] lm_m285.2.2.2.2.1 lm_pf8)) = true := by decide +kernel
set_option maxRecDepth 1000000 in
set_option maxHeartbeats 8000000 in
theorem lm_c286 : lm_m286.2.2.2.2.2.all (fun q => q.2.all (lm_chkE lm_tb16 false lm_cl prog_25_method_50_code (some .int) 3 [] lm_m286.2.2.2.2.1 lm_pf16)) = true := by decide +kernel
set_option maxRecDepth 1000000 in
set_option maxHeartbeats 8000000 in
theorem lm_c287 : lm_m287.2.2.2.2.2.all (fun q => q.2.all (lm_chkE lm_tb17 false lm_cl prog_34_method_103_code none 4 [] lm_m287.2.2.2.2.1 lm_pf17)) = true := by decide +kernel
set_option maxRecDepth 1000000 in
set_option maxHeartbeats 8000000 in
theorem lm_c288 : lm_m288.2.2.2.2.2.all (fun q => q.2.all (lm_chkE lm_tb8 false lm_cl prog_7_method_12_code none 8 [] lm_m288.2.2.2.2.1 lm_pf8)) = true := by decide +kernel
set_option maxRecDepth 1000000 in
set_option maxHeartbeats 8000000 in
theorem lm_c289 : lm_m289.2.2.2.2.2.all (fun q => q.2.all (lm_chkE lm_tb8 false lm_cl prog_7_method_15_code (some .int) 2 [] lm_m289.2.2.2.2.1 lm_pf8)) = true := by decide +kernel
set_option maxRecDepth 1000000 in
set_option maxHeartbeats 8000000 in
theorem lm_c290 : lm_m290.2.2.2.2.2.all (fun q => q.2.all (lm_chkE lm_tb8 false lm_cl prog_7_method_22_code none 8 [] lm_m290.2.2.2.2.1 lm_pf8)) = true := by decide +kernel
set_option maxRecDepth 1000000 in
set_option maxHeartbeats 8000000 in
theorem lm_c291 : lm_m291.2.2.2.2.2.all (fun q => q.2.all (lm_chkE lm_tb8 false lm_cl prog_7_method_14_code (some .int) 2 [] lm_m291.2.2.2.2.1 lm_pf8)) = true := by decide +kernel
set_option maxRecDepth 1000000 in
set_option maxHeartbeats 8000000 in
theorem lm_c292 : lm_m292.2.2.2.2.2.all (fun q => q.2.all (lm_chkE lm_tb9 false lm_cl prog_4_method_37_code none 7 [] lm_m292.2.2.2.2.1 lm_pf9)) = true := by decide +kernel
set_option maxRecDepth 1000000 in
set_option maxHeartbeats 8000000 in
theorem lm_c293 : lm_m293.2.2.2.2.2.all (fun q => q.2.all (lm_chkE lm_tb5 false lm_cl prog_12_method_7_code none 2 [] lm_m293.2.2.2.2.1 lm_pf5)) = true := by decide +kernel
set_option maxRecDepth 1000000 in
set_option maxHeartbeats 8000000 in
theorem lm_c294 : lm_m294.2.2.2.2.2.all (fun q => q.2.all (lm_chkE lm_tb16 false lm_cl prog_25_method_52_code (some .long) 6 [] lm_m294.2.2.2.2.1 lm_pf16)) = true := by decide +kernel
set_option maxRecDepth 1000000 in
set_option maxHeartbeats 8000000 in
theorem lm_c295 : lm_m295.2.2.2.2.2.all (fun q => q.2.all (lm_chkE lm_tb4 false lm_cl prog_10_method_5_code none 2 [] lm_m295.2.2.2.2.1 lm_pf4)) = true := by decide +kernel
