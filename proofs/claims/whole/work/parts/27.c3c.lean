set_option maxRecDepth 1000000 in
set_option maxHeartbeats 8000000 in
theorem lm_c123 : lm_m123.2.2.2.2.2.all (fun q => q.2.all (lm_chkE lm_tb5 true lm_cl prog_12_method_1_code none 1 [] lm_m123.2.2.2.2.1 lm_pf5)) = true := by decide +kernel
set_option maxRecDepth 1000000 in
set_option maxHeartbeats 8000000 in
theorem lm_c124 : lm_m124.2.2.2.2.2.all (fun q => q.2.all (lm_chkE lm_tb6 true lm_cl prog_8_method_1_code none 1 [] lm_m124.2.2.2.2.1 lm_pf6)) = true := by decide +kernel
set_option maxRecDepth 1000000 in
set_option maxHeartbeats 8000000 in
theorem lm_c125 : lm_m125.2.2.2.2.2.all (fun q => q.2.all (lm_chkE lm_tb7 true lm_cl prog_9_method_1_code none 1 [] lm_m125.2.2.2.2.1 lm_pf7)) = true := by decide +kernel
set_option maxRecDepth 1000000 in
set_option maxHeartbeats 8000000 in
theorem lm_c126 : lm_m126.2.2.2.2.2.all (fun q => q.2.all (lm_chkE lm_tb13 false lm_cl prog_2_method_6_code (some .int) 2 [] lm_m126.2.2.2.2.1 lm_pf13)) = true := by decide +kernel
set_option maxRecDepth 1000000 in
set_option maxHeartbeats 8000000 in
theorem lm_c127 : lm_m127.2.2.2.2.2.all (fun q => q.2.all (lm_chkE lm_tb11 false lm_cl prog_14_method_16_code (some .boolean) 2 [] lm_m127.2.2.2.2.1 lm_pf11)) = true := by decide +kernel
set_option maxRecDepth 1000000 in
set_option maxHeartbeats 8000000 in
theorem lm_c128 : lm_m128.2.2.2.2.2.all (fun q => q.2.all (lm_chkE lm_tb11 false lm_cl prog_14_method_18_code (some .long) 7 [] lm_m128.2.2.2.2.1 lm_pf11)) = true := by decide +kernel
set_option maxRecDepth 1000000 in
set_option maxHeartbeats 8000000 in
theorem lm_c129 : lm_m129.2.2.2.2.2.all (fun q => q.2.all (lm_chkE lm_tb11 false lm_cl prog_14_method_20_code (some .int) 3 [] lm_m129.2.2.2.2.1 lm_pf11)) = true := by decide +kernel
set_option maxRecDepth 1000000 in
set_option maxHeartbeats 8000000 in
theorem lm_c130 : lm_m130.2.2.2.2.2.all (fun q => q.2.all (lm_chkE lm_tb11 false lm_cl prog_14_method_21_code none 5 [] lm_m130.2.2.2.2.1 lm_pf11)) = true := by decide +kernel
set_option maxRecDepth 1000000 in
set_option maxHeartbeats 8000000 in
theorem lm_c131 : lm_m131.2.2.2.2.2.all (fun q => q.2.all (lm_chkE lm_tb13 false lm_cl prog_2_method_2_code none 3 [] lm_m131.2.2.2.2.1 lm_pf13)) = true := by decide +kernel
set_option maxRecDepth 1000000 in
set_option maxHeartbeats 8000000 in
theorem lm_c132 : lm_m132.2.2.2.2.2.all (fun q => q.2.all (lm_chkE lm_tb0 false lm_cl prog_1_method_22_code none 3 [] lm_m132.2.2.2.2.1 lm_pf0)) = true := by decide +kernel
set_option maxRecDepth 1000000 in
set_option maxHeartbeats 8000000 in
theorem lm_c133 : lm_m133.2.2.2.2.2.all (fun q => q.2.all (lm_chkE lm_tb1 false lm_cl prog_3_method_2_code none 3 [] lm_m133.2.2.2.2.1 lm_pf1)) = true := by decide +kernel
set_option maxRecDepth 1000000 in
set_option maxHeartbeats 8000000 in
theorem lm_c134 : lm_m134.2.2.2.2.2.all (fun q => q.2.all (lm_chkE lm_tb17 false lm_cl prog_34_method_110_code none 5 [] lm_m134.2.2.2.2.1 lm_pf17)) = true := by decide +kernel
set_option maxRecDepth 1000000 in
set_option maxHeartbeats 8000000 in
theorem lm_c135 : lm_m135.2.2.2.2.2.all (fun q => q.2.all (lm_chkE lm_tb0 false lm_cl prog_1_method_23_code none 2 [] lm_m135.2.2.2.2.1 lm_pf0)) = true := by decide +kernel
set_option maxRecDepth 1000000 in
set_option maxHeartbeats 8000000 in
theorem lm_c136 : lm_m136.2.2.2.2.2.all (fun q => q.2.all (lm_chkE lm_tb13 false lm_cl prog_2_method_3_code (some .boolean) 6 [] lm_m136.2.2.2.2.1 lm_pf13)) = true := by decide +kernel
set_option maxRecDepth 1000000 in
set_option maxHeartbeats 8000000 in
theorem lm_c137 : lm_m137.2.2.2.2.2.all (fun q => q.2.all (lm_chkE lm_tb0 false lm_cl prog_1_method_21_code (some .int) 1 [] lm_m137.2.2.2.2.1 lm_pf0)) = true := by decide +kernel
set_option maxRecDepth 1000000 in
set_option maxHeartbeats 8000000 in
theorem lm_c138 : lm_m138.2.2.2.2.2.all (fun q => q.2.all (lm_chkE lm_tb2 false lm_cl prog_6_method_4_code (some (.object "LatticeSuite$Hash")) 6 [] lm_m138.2.2.2.2.1 lm_pf2)) = true := by decide +kernel
set_option maxRecDepth 1000000 in
set_option maxHeartbeats 8000000 in
theorem lm_c139 : lm_m139.2.2.2.2.2.all (fun q => q.2.all (lm_chkE lm_tb2 false lm_cl prog_6_method_3_code (some (.object "LatticeSuite$Hash")) 3 [] lm_m139.2.2.2.2.1 lm_pf2)) = true := by decide +kernel
set_option maxRecDepth 1000000 in
set_option maxHeartbeats 8000000 in
theorem lm_c140 : lm_m140.2.2.2.2.2.all (fun q => q.2.all (lm_chkE lm_tb3 false lm_cl prog_5_method_8_code none 6 [] lm_m140.2.2.2.2.1 lm_pf3)) = true := by decide +kernel
set_option maxRecDepth 1000000 in
set_option maxHeartbeats 8000000 in
theorem lm_c141 : lm_m141.2.2.2.2.2.all (fun q => q.2.all (lm_chkE lm_tb2 false lm_cl prog_6_method_5_code none 6 [] lm_m141.2.2.2.2.1 lm_pf2)) = true := by decide +kernel
set_option maxRecDepth 1000000 in
set_option maxHeartbeats 8000000 in
theorem lm_c142 : lm_m142.2.2.2.2.2.all (fun q => q.2.all (lm_chkE lm_tb2 false lm_cl prog_6_method_7_code none 8 [] lm_m142.2.2.2.2.1 lm_pf2)) = true := by decide +kernel
set_option maxRecDepth 1000000 in
set_option maxHeartbeats 8000000 in
theorem lm_c143 : lm_m143.2.2.2.2.2.all (fun q => q.2.all (lm_chkE lm_tb5 false lm_cl prog_12_method_6_code none 5 [] lm_m143.2.2.2.2.1 lm_pf5)) = true := by decide +kernel
set_option maxRecDepth 1000000 in
set_option maxHeartbeats 8000000 in
theorem lm_c144 : lm_m144.2.2.2.2.2.all (fun q => q.2.all (lm_chkE lm_tb6 false lm_cl prog_8_method_5_code none 5 [] lm_m144.2.2.2.2.1 lm_pf6)) = true := by decide +kernel
set_option maxRecDepth 1000000 in
set_option maxHeartbeats 8000000 in
theorem lm_c145 : lm_m145.2.2.2.2.2.all (fun q => q.2.all (lm_chkE lm_tb7 false lm_cl prog_9_method_5_code none 5 [] lm_m145.2.2.2.2.1 lm_pf7)) = true := by decide +kernel
set_option maxRecDepth 1000000 in
set_option maxHeartbeats 8000000 in
theorem lm_c146 : lm_m146.2.2.2.2.2.all (fun q => q.2.all (lm_chkE lm_tb11 false lm_cl prog_14_method_23_code (some .int) 1 [] lm_m146.2.2.2.2.1 lm_pf11)) = true := by decide +kernel
set_option maxRecDepth 1000000 in
set_option maxHeartbeats 8000000 in
theorem lm_c147 : lm_m147.2.2.2.2.2.all (fun q => q.2.all (lm_chkE lm_tb11 false lm_cl prog_14_method_35_code none 4 [] lm_m147.2.2.2.2.1 lm_pf11)) = true := by decide +kernel
set_option maxRecDepth 1000000 in
set_option maxHeartbeats 8000000 in
theorem lm_c148 : lm_m148.2.2.2.2.2.all (fun q => q.2.all (lm_chkE lm_tb11 false lm_cl prog_14_method_22_code (some .boolean) 1 [] lm_m148.2.2.2.2.1 lm_pf11)) = true := by decide +kernel
set_option maxRecDepth 1000000 in
set_option maxHeartbeats 8000000 in
theorem lm_c149 : lm_m149.2.2.2.2.2.all (fun q => q.2.all (lm_chkE lm_tb11 false lm_cl prog_14_method_36_code (some .int) 2 [] lm_m149.2.2.2.2.1 lm_pf11)) = true := by decide +kernel
