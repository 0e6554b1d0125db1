set_option maxRecDepth 1000000 in
set_option maxHeartbeats 8000000 in
theorem lm_c0 : lm_m0.2.2.2.2.2.all (fun q => q.2.all (lm_chkE lm_tb0 true lm_cl prog_1_method_1_code none 2 [] lm_m0.2.2.2.2.1 lm_pf0)) = true := by decide +kernel
set_option maxRecDepth 1000000 in
set_option maxHeartbeats 8000000 in
theorem lm_c1 : lm_m1.2.2.2.2.2.all (fun q => q.2.all (lm_chkE lm_tb11 true lm_cl prog_14_method_1_code none 1 [] lm_m1.2.2.2.2.1 lm_pf11)) = true := by decide +kernel
set_option maxRecDepth 1000000 in
set_option maxHeartbeats 8000000 in
theorem lm_c2 : lm_m2.2.2.2.2.2.all (fun q => q.2.all (lm_chkE lm_tb12 false lm_cl method_3_code (some .int) 8 [(0, 16, 19, 13)] lm_m2.2.2.2.2.1 lm_pf12)) = true := by decide +kernel
set_option maxRecDepth 1000000 in
set_option maxHeartbeats 8000000 in
theorem lm_c3 : lm_m3.2.2.2.2.2.all (fun q => q.2.all (lm_chkE lm_tb11 false lm_cl prog_14_method_5_code (some .int) 6 [] lm_m3.2.2.2.2.1 lm_pf11)) = true := by decide +kernel
set_option maxRecDepth 1000000 in
set_option maxHeartbeats 8000000 in
theorem lm_c4 : lm_m4.2.2.2.2.2.all (fun q => q.2.all (lm_chkE lm_tb11 false lm_cl prog_14_method_2_code (some .int) 1 [] lm_m4.2.2.2.2.1 lm_pf11)) = true := by decide +kernel
set_option maxRecDepth 1000000 in
set_option maxHeartbeats 8000000 in
theorem lm_c5 : lm_m5.2.2.2.2.2.all (fun q => q.2.all (lm_chkE lm_tb12 false lm_cl method_4_code (some .int) 5 [(0, 10, 13, 19), (0, 10, 17, 13)] lm_m5.2.2.2.2.1 lm_pf12)) = true := by decide +kernel
set_option maxRecDepth 1000000 in
set_option maxHeartbeats 8000000 in
theorem lm_c6 : lm_m6.2.2.2.2.2.all (fun q => q.2.all (lm_chkE lm_tb11 false lm_cl prog_14_method_7_code (some .int) 4 [] lm_m6.2.2.2.2.1 lm_pf11)) = true := by decide +kernel
set_option maxRecDepth 1000000 in
set_option maxHeartbeats 8000000 in
theorem lm_c7 : lm_m7.2.2.2.2.2.all (fun q => q.2.all (lm_chkE lm_tb12 false lm_cl method_5_code (some .int) 5 [(0, 10, 13, 19)] lm_m7.2.2.2.2.1 lm_pf12)) = true := by decide +kernel
set_option maxRecDepth 1000000 in
set_option maxHeartbeats 8000000 in
theorem lm_c8 : lm_m8.2.2.2.2.2.all (fun q => q.2.all (lm_chkE lm_tb11 false lm_cl prog_14_method_8_code (some .int) 4 [] lm_m8.2.2.2.2.1 lm_pf11)) = true := by decide +kernel
set_option maxRecDepth 1000000 in
set_option maxHeartbeats 8000000 in
theorem lm_c9 : lm_m9.2.2.2.2.2.all (fun q => q.2.all (lm_chkE lm_tb12 false lm_cl method_6_code (some .int) 5 [(0, 10, 13, 19)] lm_m9.2.2.2.2.1 lm_pf12)) = true := by decide +kernel
set_option maxRecDepth 1000000 in
set_option maxHeartbeats 8000000 in
theorem lm_c10 : lm_m10.2.2.2.2.2.all (fun q => q.2.all (lm_chkE lm_tb11 false lm_cl prog_14_method_9_code (some .int) 5 [] lm_m10.2.2.2.2.1 lm_pf11)) = true := by decide +kernel
set_option maxRecDepth 1000000 in
set_option maxHeartbeats 8000000 in
theorem lm_c11 : lm_m11.2.2.2.2.2.all (fun q => q.2.all (lm_chkE lm_tb12 false lm_cl method_7_code (some .int) 6 [(0, 12, 15, 19), (0, 12, 19, 13)] lm_m11.2.2.2.2.1 lm_pf12)) = true := by decide +kernel
set_option maxRecDepth 1000000 in
set_option maxHeartbeats 8000000 in
theorem lm_c12 : lm_m12.2.2.2.2.2.all (fun q => q.2.all (lm_chkE lm_tb11 false lm_cl prog_14_method_10_code (some .int) 4 [] lm_m12.2.2.2.2.1 lm_pf11)) = true := by decide +kernel
set_option maxRecDepth 1000000 in
set_option maxHeartbeats 8000000 in
theorem lm_c13 : lm_m13.2.2.2.2.2.all (fun q => q.2.all (lm_chkE lm_tb12 false lm_cl method_8_code (some .int) 4 [(0, 9, 12, 19)] lm_m13.2.2.2.2.1 lm_pf12)) = true := by decide +kernel
set_option maxRecDepth 1000000 in
set_option maxHeartbeats 8000000 in
theorem lm_c14 : lm_m14.2.2.2.2.2.all (fun q => q.2.all (lm_chkE lm_tb11 false lm_cl prog_14_method_11_code (some .int) 2 [] lm_m14.2.2.2.2.1 lm_pf11)) = true := by decide +kernel
set_option maxRecDepth 1000000 in
set_option maxHeartbeats 8000000 in
theorem lm_c15 : lm_m15.2.2.2.2.2.all (fun q => q.2.all (lm_chkE lm_tb12 false lm_cl method_9_code (some .int) 5 [(0, 9, 12, 19), (0, 9, 16, 13)] lm_m15.2.2.2.2.1 lm_pf12)) = true := by decide +kernel
set_option maxRecDepth 1000000 in
set_option maxHeartbeats 8000000 in
theorem lm_c16 : lm_m16.2.2.2.2.2.all (fun q => q.2.all (lm_chkE lm_tb11 false lm_cl prog_14_method_12_code (some .long) 6 [] lm_m16.2.2.2.2.1 lm_pf11)) = true := by decide +kernel
set_option maxRecDepth 1000000 in
set_option maxHeartbeats 8000000 in
theorem lm_c17 : lm_m17.2.2.2.2.2.all (fun q => q.2.all (lm_chkE lm_tb12 false lm_cl method_10_code (some .int) 5 [(0, 17, 20, 19)] lm_m17.2.2.2.2.1 lm_pf12)) = true := by decide +kernel
set_option maxRecDepth 1000000 in
set_option maxHeartbeats 8000000 in
theorem lm_c18 : lm_m18.2.2.2.2.2.all (fun q => q.2.all (lm_chkE lm_tb11 false lm_cl prog_14_method_13_code (some .boolean) 5 [] lm_m18.2.2.2.2.1 lm_pf11)) = true := by decide +kernel
set_option maxRecDepth 1000000 in
set_option maxHeartbeats 8000000 in
theorem lm_c19 : lm_m19.2.2.2.2.2.all (fun q => q.2.all (lm_chkE lm_tb12 false lm_cl method_11_code (some .int) 5 [(0, 10, 13, 19)] lm_m19.2.2.2.2.1 lm_pf12)) = true := by decide +kernel
set_option maxRecDepth 1000000 in
set_option maxHeartbeats 8000000 in
theorem lm_c20 : lm_m20.2.2.2.2.2.all (fun q => q.2.all (lm_chkE lm_tb11 false lm_cl prog_14_method_41_code (some .int) 5 [] lm_m20.2.2.2.2.1 lm_pf11)) = true := by decide +kernel
set_option maxRecDepth 1000000 in
set_option maxHeartbeats 8000000 in
theorem lm_c21 : lm_m21.2.2.2.2.2.all (fun q => q.2.all (lm_chkE lm_tb12 false lm_cl method_12_code (some .int) 4 [(0, 9, 12, 19), (0, 9, 15, 49), (0, 9, 18, 51)] lm_m21.2.2.2.2.1 lm_pf12)) = true := by decide +kernel
set_option maxRecDepth 1000000 in
set_option maxHeartbeats 8000000 in
theorem lm_c22 : lm_m22.2.2.2.2.2.all (fun q => q.2.all (lm_chkE lm_tb11 false lm_cl prog_14_method_55_code (some .int) 5 [] lm_m22.2.2.2.2.1 lm_pf11)) = true := by decide +kernel
set_option maxRecDepth 1000000 in
set_option maxHeartbeats 8000000 in
theorem lm_c23 : lm_m23.2.2.2.2.2.all (fun q => q.2.all (lm_chkE lm_tb12 false lm_cl method_13_code (some .int) 4 [(0, 9, 12, 19), (0, 9, 15, 49), (0, 9, 18, 56), (0, 9, 21, 51)] lm_m23.2.2.2.2.1 lm_pf12)) = true := by decide +kernel
set_option maxRecDepth 1000000 in
set_option maxHeartbeats 8000000 in
theorem lm_c24 : lm_m24.2.2.2.2.2.all (fun q => q.2.all (lm_chkE lm_tb11 false lm_cl prog_14_method_57_code (some .int) 4 [] lm_m24.2.2.2.2.1 lm_pf11)) = true := by decide +kernel
set_option maxRecDepth 1000000 in
set_option maxHeartbeats 8000000 in
theorem lm_c25 : lm_m25.2.2.2.2.2.all (fun q => q.2.all (lm_chkE lm_tb12 false lm_cl method_14_code (some .int) 4 [(0, 9, 12, 19), (0, 9, 15, 56), (0, 9, 18, 51)] lm_m25.2.2.2.2.1 lm_pf12)) = true := by decide +kernel
set_option maxRecDepth 1000000 in
set_option maxHeartbeats 8000000 in
theorem lm_c26 : lm_m26.2.2.2.2.2.all (fun q => q.2.all (lm_chkE lm_tb11 false lm_cl prog_14_method_58_code (some .int) 7 [] lm_m26.2.2.2.2.1 lm_pf11)) = true := by decide +kernel
set_option maxRecDepth 1000000 in
set_option maxHeartbeats 8000000 in
theorem lm_c27 : lm_m27.2.2.2.2.2.all (fun q => q.2.all (lm_chkE lm_tb12 false lm_cl method_15_code (some .int) 4 [(0, 9, 12, 19), (0, 9, 15, 49), (0, 9, 18, 51)] lm_m27.2.2.2.2.1 lm_pf12)) = true := by decide +kernel
set_option maxRecDepth 1000000 in
set_option maxHeartbeats 8000000 in
theorem lm_c28 : lm_m28.2.2.2.2.2.all (fun q => q.2.all (lm_chkE lm_tb11 false lm_cl prog_14_method_75_code (some .int) 9 [] lm_m28.2.2.2.2.1 lm_pf11)) = true := by decide +kernel
set_option maxRecDepth 1000000 in
set_option maxHeartbeats 8000000 in
theorem lm_c29 : lm_m29.2.2.2.2.2.all (fun q => q.2.all (lm_chkE lm_tb12 false lm_cl method_16_code (some .int) 5 [(0, 10, 13, 19), (0, 10, 17, 49), (0, 10, 21, 56), (0, 10, 25, 51)] lm_m29.2.2.2.2.1 lm_pf12)) = true := by decide +kernel
set_option maxRecDepth 1000000 in
set_option maxHeartbeats 8000000 in
theorem lm_c30 : lm_m30.2.2.2.2.2.all (fun q => q.2.all (lm_chkE lm_tb11 false lm_cl prog_14_method_81_code (some .int) 6 [] lm_m30.2.2.2.2.1 lm_pf11)) = true := by decide +kernel
