set_option maxRecDepth 1000000 in
set_option maxHeartbeats 8000000 in
theorem lm_c47_0 : lm_r47_0.all (lm_chkE lm_tb11 false lm_cl prog_14_method_19_code none 6 [] lm_m47.2.2.2.2.1 lm_pf11) = true := by decide +kernel
set_option maxRecDepth 1000000 in
set_option maxHeartbeats 8000000 in
theorem lm_c47_4 : lm_r47_4.all (lm_chkE lm_tb11 false lm_cl prog_14_method_19_code none 6 [] lm_m47.2.2.2.2.1 lm_pf11) = true := by decide +kernel
set_option maxRecDepth 1000000 in
set_option maxHeartbeats 8000000 in
theorem lm_c47_38 : lm_r47_38.all (lm_chkE lm_tb11 false lm_cl prog_14_method_19_code none 6 [] lm_m47.2.2.2.2.1 lm_pf11) = true := by decide +kernel
set_option maxRecDepth 1000000 in
set_option maxHeartbeats 8000000 in
theorem lm_c47_53 : lm_r47_53.all (lm_chkE lm_tb11 false lm_cl prog_14_method_19_code none 6 [] lm_m47.2.2.2.2.1 lm_pf11) = true := by decide +kernel
set_option maxRecDepth 1000000 in
set_option maxHeartbeats 8000000 in
theorem lm_c47_66 : lm_r47_66.all (lm_chkE lm_tb11 false lm_cl prog_14_method_19_code none 6 [] lm_m47.2.2.2.2.1 lm_pf11) = true := by decide +kernel
set_option maxRecDepth 1000000 in
set_option maxHeartbeats 8000000 in
theorem lm_c47_122 : lm_r47_122.all (lm_chkE lm_tb11 false lm_cl prog_14_method_19_code none 6 [] lm_m47.2.2.2.2.1 lm_pf11) = true := by decide +kernel
set_option maxRecDepth 1000000 in
set_option maxHeartbeats 8000000 in
theorem lm_c47_132 : lm_r47_132.all (lm_chkE lm_tb11 false lm_cl prog_14_method_19_code none 6 [] lm_m47.2.2.2.2.1 lm_pf11) = true := by decide +kernel
set_option maxRecDepth 1000000 in
set_option maxHeartbeats 8000000 in
theorem lm_c47_172 : lm_r47_172.all (lm_chkE lm_tb11 false lm_cl prog_14_method_19_code none 6 [] lm_m47.2.2.2.2.1 lm_pf11) = true := by decide +kernel
theorem lm_c47 : lm_m47.2.2.2.2.2.all (fun q => q.2.all (lm_chkE lm_tb11 false lm_cl prog_14_method_19_code none 6 [] lm_m47.2.2.2.2.1 lm_pf11)) = true := lm_all_cons lm_c47_0 (lm_all_cons lm_c47_4 (lm_all_cons lm_c47_38 (lm_all_cons lm_c47_53 (lm_all_cons lm_c47_66 (lm_all_cons lm_c47_122 (lm_all_cons lm_c47_132 (lm_all_cons lm_c47_172 rfl)))))))
set_option maxRecDepth 1000000 in
set_option maxHeartbeats 8000000 in
theorem lm_c48 : lm_m48.2.2.2.2.2.all (fun q => q.2.all (lm_chkE lm_tb0 false lm_cl prog_1_method_2_code (some .int) 6 [] lm_m48.2.2.2.2.1 lm_pf0)) = true := by decide +kernel
set_option maxRecDepth 1000000 in
set_option maxHeartbeats 8000000 in
theorem lm_c49 : lm_m49.2.2.2.2.2.all (fun q => q.2.all (lm_chkE lm_tb11 false lm_cl prog_14_method_4_code (some .boolean) 3 [] lm_m49.2.2.2.2.1 lm_pf11)) = true := by decide +kernel
set_option maxRecDepth 1000000 in
set_option maxHeartbeats 8000000 in
theorem lm_c50 : lm_m50.2.2.2.2.2.all (fun q => q.2.all (lm_chkE lm_tb11 false lm_cl prog_14_method_6_code none 3 [] lm_m50.2.2.2.2.1 lm_pf11)) = true := by decide +kernel
set_option maxRecDepth 1000000 in
set_option maxHeartbeats 8000000 in
theorem lm_c51 : lm_m51.2.2.2.2.2.all (fun q => q.2.all (lm_chkE lm_tb0 false lm_cl prog_1_method_3_code (some .int) 3 [] lm_m51.2.2.2.2.1 lm_pf0)) = true := by decide +kernel
set_option maxRecDepth 1000000 in
set_option maxHeartbeats 8000000 in
theorem lm_c52 : lm_m52.2.2.2.2.2.all (fun q => q.2.all (lm_chkE lm_tb11 false lm_cl prog_14_method_3_code (some .boolean) 3 [] lm_m52.2.2.2.2.1 lm_pf11)) = true := by decide +kernel
set_option maxRecDepth 1000000 in
set_option maxHeartbeats 8000000 in
theorem lm_c53 : lm_m53.2.2.2.2.2.all (fun q => q.2.all (lm_chkE lm_tb0 false lm_cl prog_1_method_4_code (some .int) 3 [] lm_m53.2.2.2.2.1 lm_pf0)) = true := by decide +kernel
set_option maxRecDepth 1000000 in
set_option maxHeartbeats 8000000 in
theorem lm_c54 : lm_m54.2.2.2.2.2.all (fun q => q.2.all (lm_chkE lm_tb0 false lm_cl prog_1_method_5_code (some .int) 5 [] lm_m54.2.2.2.2.1 lm_pf0)) = true := by decide +kernel
set_option maxRecDepth 1000000 in
set_option maxHeartbeats 8000000 in
theorem lm_c55 : lm_m55.2.2.2.2.2.all (fun q => q.2.all (lm_chkE lm_tb0 false lm_cl prog_1_method_6_code (some .int) 5 [] lm_m55.2.2.2.2.1 lm_pf0)) = true := by decide +kernel
set_option maxRecDepth 1000000 in
set_option maxHeartbeats 8000000 in
theorem lm_c56 : lm_m56.2.2.2.2.2.all (fun q => q.2.all (lm_chkE lm_tb0 false lm_cl prog_1_method_7_code (some .int) 2 [] lm_m56.2.2.2.2.1 lm_pf0)) = true := by decide +kernel
set_option maxRecDepth 1000000 in
set_option maxHeartbeats 8000000 in
theorem lm_c57 : lm_m57.2.2.2.2.2.all (fun q => q.2.all (lm_chkE lm_tb0 false lm_cl prog_1_method_8_code (some .long) 7 [] lm_m57.2.2.2.2.1 lm_pf0)) = true := by decide +kernel
set_option maxRecDepth 1000000 in
set_option maxHeartbeats 8000000 in
theorem lm_c58 : lm_m58.2.2.2.2.2.all (fun q => q.2.all (lm_chkE lm_tb0 false lm_cl prog_1_method_9_code (some .boolean) 3 [] lm_m58.2.2.2.2.1 lm_pf0)) = true := by decide +kernel
set_option maxRecDepth 1000000 in
set_option maxHeartbeats 8000000 in
theorem lm_c59_0 : lm_r59_0.all (lm_chkE lm_tb0 false lm_cl prog_1_method_10_code (some .int) 9 [] lm_m59.2.2.2.2.1 lm_pf0) = true := by decide +kernel
set_option maxRecDepth 1000000 in
set_option maxHeartbeats 8000000 in
theorem lm_c59_37 : lm_r59_37.all (lm_chkE lm_tb0 false lm_cl prog_1_method_10_code (some .int) 9 [] lm_m59.2.2.2.2.1 lm_pf0) = true := by decide +kernel
set_option maxRecDepth 1000000 in
set_option maxHeartbeats 8000000 in
theorem lm_c59_42 : lm_r59_42.all (lm_chkE lm_tb0 false lm_cl prog_1_method_10_code (some .int) 9 [] lm_m59.2.2.2.2.1 lm_pf0) = true := by decide +kernel
set_option maxRecDepth 1000000 in
set_option maxHeartbeats 8000000 in
theorem lm_c59_56 : lm_r59_56.all (lm_chkE lm_tb0 false lm_cl prog_1_method_10_code (some .int) 9 [] lm_m59.2.2.2.2.1 lm_pf0) = true := by decide +kernel
set_option maxRecDepth 1000000 in
set_option maxHeartbeats 8000000 in
theorem lm_c59_61 : lm_r59_61.all (lm_chkE lm_tb0 false lm_cl prog_1_method_10_code (some .int) 9 [] lm_m59.2.2.2.2.1 lm_pf0) = true := by decide +kernel
set_option maxRecDepth 1000000 in
set_option maxHeartbeats 8000000 in
theorem lm_c59_96 : lm_r59_96.all (lm_chkE lm_tb0 false lm_cl prog_1_method_10_code (some .int) 9 [] lm_m59.2.2.2.2.1 lm_pf0) = true := by decide +kernel
set_option maxRecDepth 1000000 in
set_option maxHeartbeats 8000000 in
theorem lm_c59_134 : lm_r59_134.all (lm_chkE lm_tb0 false lm_cl prog_1_method_10_code (some .int) 9 [] lm_m59.2.2.2.2.1 lm_pf0) = true := by decide +kernel
theorem lm_c59 : lm_m59.2.2.2.2.2.all (fun q => q.2.all (lm_chkE lm_tb0 false lm_cl prog_1_method_10_code (some .int) 9 [] lm_m59.2.2.2.2.1 lm_pf0)) = true := lm_all_cons lm_c59_0 (lm_all_cons lm_c59_37 (lm_all_cons lm_c59_42 (lm_all_cons lm_c59_56 (lm_all_cons lm_c59_61 (lm_all_cons lm_c59_96 (lm_all_cons lm_c59_134 rfl))))))
set_option maxRecDepth 1000000 in
set_option maxHeartbeats 8000000 in
theorem lm_c60 : lm_m60.2.2.2.2.2.all (fun q => q.2.all (lm_chkE lm_tb11 false lm_cl prog_14_method_24_code (some .int) 1 [] lm_m60.2.2.2.2.1 lm_pf11)) = true := by decide +kernel
set_option maxRecDepth 1000000 in
set_option maxHeartbeats 8000000 in
theorem lm_c61_0 : lm_r61_0.all (lm_chkE lm_tb11 false lm_cl prog_14_method_25_code none 3 [] lm_m61.2.2.2.2.1 lm_pf11) = true := by decide +kernel
set_option maxRecDepth 1000000 in
set_option maxHeartbeats 8000000 in
theorem lm_c61_17 : lm_r61_17.all (lm_chkE lm_tb11 false lm_cl prog_14_method_25_code none 3 [] lm_m61.2.2.2.2.1 lm_pf11) = true := by decide +kernel
set_option maxRecDepth 1000000 in
set_option maxHeartbeats 8000000 in
theorem lm_c61_84 : lm_r61_84.all (lm_chkE lm_tb11 false lm_cl prog_14_method_25_code none 3 [] lm_m61.2.2.2.2.1 lm_pf11) = true := by decide +kernel
set_option maxRecDepth 1000000 in
set_option maxHeartbeats 8000000 in
theorem lm_c61_89 : lm_r61_89.all (lm_chkE lm_tb11 false lm_cl prog_14_method_25_code none 3 [] lm_m61.2.2.2.2.1 lm_pf11) = true := by decide +kernel
set_option maxRecDepth 1000000 in
set_option maxHeartbeats 8000000 in
theorem lm_c61_196 : lm_r61_196.all (lm_chkE lm_tb11 false lm_cl prog_14_method_25_code none 3 [] lm_m61.2.2.2.2.1 lm_pf11) = true := by decide +kernel
theorem lm_c61 : lm_m61.2.2.2.2.2.all (fun q => q.2.all (lm_chkE lm_tb11 false lm_cl prog_14_method_25_code none 3 [] lm_m61.2.2.2.2.1 lm_pf11)) = true := lm_all_cons lm_c61_0 (lm_all_cons lm_c61_17 (lm_all_cons lm_c61_84 (lm_all_cons lm_c61_89 (lm_all_cons lm_c61_196 rfl))))
set_option maxRecDepth 1000000 in
set_option maxHeartbeats 8000000 in
theorem lm_c62 : lm_m62.2.2.2.2.2.all (fun q => q.2.all (lm_chkE lm_tb11 false lm_cl prog_14_method_28_code none 5 [] lm_m62.2.2.2.2.1 lm_pf11)) = true := by decide +kernel
set_option maxRecDepth 1000000 in
set_option maxHeartbeats 8000000 in
theorem lm_c63 : lm_m63.2.2.2.2.2.all (fun q => q.2.all (lm_chkE lm_tb11 false lm_cl prog_14_method_37_code none 5 [] lm_m63.2.2.2.2.1 lm_pf11)) = true := by decide +kernel
