set_option maxRecDepth 1000000 in
set_option maxHeartbeats 8000000 in
theorem lm_c92 : lm_m92.2.2.2.2.2.all (fun q => q.2.all (lm_chkE lm_tb11 false lm_cl prog_14_method_62_code none 4 [] lm_m92.2.2.2.2.1 lm_pf11)) = true := by decide +kernel
set_option maxRecDepth 1000000 in
set_option maxHeartbeats 8000000 in
theorem lm_c93 : lm_m93.2.2.2.2.2.all (fun q => q.2.all (lm_chkE lm_tb11 false lm_cl prog_14_method_61_code none 6 [] lm_m93.2.2.2.2.1 lm_pf11)) = true := by decide +kernel
set_option maxRecDepth 1000000 in
set_option maxHeartbeats 8000000 in
theorem lm_c94 : lm_m94.2.2.2.2.2.all (fun q => q.2.all (lm_chkE lm_tb11 false lm_cl prog_14_method_73_code (some .int) 1 [] lm_m94.2.2.2.2.1 lm_pf11)) = true := by decide +kernel
set_option maxRecDepth 1000000 in
set_option maxHeartbeats 8000000 in
theorem lm_c95 : lm_m95.2.2.2.2.2.all (fun q => q.2.all (lm_chkE lm_tb0 false lm_cl prog_1_method_15_code (some .int) 3 [] lm_m95.2.2.2.2.1 lm_pf0)) = true := by decide +kernel
set_option maxRecDepth 1000000 in
set_option maxHeartbeats 8000000 in
theorem lm_c96 : lm_m96.2.2.2.2.2.all (fun q => q.2.all (lm_chkE lm_tb11 false lm_cl prog_14_method_78_code (some .boolean) 2 [] lm_m96.2.2.2.2.1 lm_pf11)) = true := by decide +kernel
set_option maxRecDepth 1000000 in
set_option maxHeartbeats 8000000 in
theorem lm_c97 : lm_m97.2.2.2.2.2.all (fun q => q.2.all (lm_chkE lm_tb11 false lm_cl prog_14_method_79_code none 4 [] lm_m97.2.2.2.2.1 lm_pf11)) = true := by decide +kernel
set_option maxRecDepth 1000000 in
set_option maxHeartbeats 8000000 in
theorem lm_c98 : lm_m98.2.2.2.2.2.all (fun q => q.2.all (lm_chkE lm_tb11 false lm_cl prog_14_method_72_code none 7 [] lm_m98.2.2.2.2.1 lm_pf11)) = true := by decide +kernel
set_option maxRecDepth 1000000 in
set_option maxHeartbeats 8000000 in
theorem lm_c99_0 : lm_r99_0.all (lm_chkE lm_tb11 false lm_cl prog_14_method_82_code (some .int) 9 [] lm_m99.2.2.2.2.1 lm_pf11) = true := by decide +kernel
set_option maxRecDepth 1000000 in
set_option maxHeartbeats 8000000 in
theorem lm_c99_2 : lm_r99_2.all (lm_chkE lm_tb11 false lm_cl prog_14_method_82_code (some .int) 9 [] lm_m99.2.2.2.2.1 lm_pf11) = true := by decide +kernel
set_option maxRecDepth 1000000 in
set_option maxHeartbeats 8000000 in
theorem lm_c99_99 : lm_r99_99.all (lm_chkE lm_tb11 false lm_cl prog_14_method_82_code (some .int) 9 [] lm_m99.2.2.2.2.1 lm_pf11) = true := by decide +kernel
set_option maxRecDepth 1000000 in
set_option maxHeartbeats 8000000 in
theorem lm_c99_121 : lm_r99_121.all (lm_chkE lm_tb11 false lm_cl prog_14_method_82_code (some .int) 9 [] lm_m99.2.2.2.2.1 lm_pf11) = true := by decide +kernel
set_option maxRecDepth 1000000 in
set_option maxHeartbeats 8000000 in
theorem lm_c99_132 : lm_r99_132.all (lm_chkE lm_tb11 false lm_cl prog_14_method_82_code (some .int) 9 [] lm_m99.2.2.2.2.1 lm_pf11) = true := by decide +kernel
set_option maxRecDepth 1000000 in
set_option maxHeartbeats 8000000 in
theorem lm_c99_259 : lm_r99_259.all (lm_chkE lm_tb11 false lm_cl prog_14_method_82_code (some .int) 9 [] lm_m99.2.2.2.2.1 lm_pf11) = true := by decide +kernel
set_option maxRecDepth 1000000 in
set_option maxHeartbeats 8000000 in
theorem lm_c99_347 : lm_r99_347.all (lm_chkE lm_tb11 false lm_cl prog_14_method_82_code (some .int) 9 [] lm_m99.2.2.2.2.1 lm_pf11) = true := by decide +kernel
set_option maxRecDepth 1000000 in
set_option maxHeartbeats 8000000 in
theorem lm_c99_382 : lm_r99_382.all (lm_chkE lm_tb11 false lm_cl prog_14_method_82_code (some .int) 9 [] lm_m99.2.2.2.2.1 lm_pf11) = true := by decide +kernel
set_option maxRecDepth 1000000 in
set_option maxHeartbeats 8000000 in
theorem lm_c99_479 : lm_r99_479.all (lm_chkE lm_tb11 false lm_cl prog_14_method_82_code (some .int) 9 [] lm_m99.2.2.2.2.1 lm_pf11) = true := by decide +kernel
set_option maxRecDepth 1000000 in
set_option maxHeartbeats 8000000 in
theorem lm_c99_521 : lm_r99_521.all (lm_chkE lm_tb11 false lm_cl prog_14_method_82_code (some .int) 9 [] lm_m99.2.2.2.2.1 lm_pf11) = true := by decide +kernel
set_option maxRecDepth 1000000 in
set_option maxHeartbeats 8000000 in
theorem lm_c99_615 : lm_r99_615.all (lm_chkE lm_tb11 false lm_cl prog_14_method_82_code (some .int) 9 [] lm_m99.2.2.2.2.1 lm_pf11) = true := by decide +kernel
set_option maxRecDepth 1000000 in
set_option maxHeartbeats 8000000 in
theorem lm_c99_618 : lm_r99_618.all (lm_chkE lm_tb11 false lm_cl prog_14_method_82_code (some .int) 9 [] lm_m99.2.2.2.2.1 lm_pf11) = true := by decide +kernel
set_option maxRecDepth 1000000 in
set_option maxHeartbeats 8000000 in
theorem lm_c99_655 : lm_r99_655.all (lm_chkE lm_tb11 false lm_cl prog_14_method_82_code (some .int) 9 [] lm_m99.2.2.2.2.1 lm_pf11) = true := by decide +kernel
set_option maxRecDepth 1000000 in
set_option maxHeartbeats 8000000 in
theorem lm_c99_694 : lm_r99_694.all (lm_chkE lm_tb11 false lm_cl prog_14_method_82_code (some .int) 9 [] lm_m99.2.2.2.2.1 lm_pf11) = true := by decide +kernel
set_option maxRecDepth 1000000 in
set_option maxHeartbeats 8000000 in
theorem lm_c99_697 : lm_r99_697.all (lm_chkE lm_tb11 false lm_cl prog_14_method_82_code (some .int) 9 [] lm_m99.2.2.2.2.1 lm_pf11) = true := by decide +kernel
set_option maxRecDepth 1000000 in
set_option maxHeartbeats 8000000 in
theorem lm_c99_759 : lm_r99_759.all (lm_chkE lm_tb11 false lm_cl prog_14_method_82_code (some .int) 9 [] lm_m99.2.2.2.2.1 lm_pf11) = true := by decide +kernel
set_option maxRecDepth 1000000 in
set_option maxHeartbeats 8000000 in
theorem lm_c99_776 : lm_r99_776.all (lm_chkE lm_tb11 false lm_cl prog_14_method_82_code (some .int) 9 [] lm_m99.2.2.2.2.1 lm_pf11) = true := by decide +kernel
set_option maxRecDepth 1000000 in
set_option maxHeartbeats 8000000 in
theorem lm_c99_828 : lm_r99_828.all (lm_chkE lm_tb11 false lm_cl prog_14_method_82_code (some .int) 9 [] lm_m99.2.2.2.2.1 lm_pf11) = true := by decide +kernel
set_option maxRecDepth 1000000 in
set_option maxHeartbeats 8000000 in
theorem lm_c99_898 : lm_r99_898.all (lm_chkE lm_tb11 false lm_cl prog_14_method_82_code (some .int) 9 [] lm_m99.2.2.2.2.1 lm_pf11) = true := by decide +kernel
set_option maxRecDepth 1000000 in
set_option maxHeartbeats 8000000 in
theorem lm_c99_927 : lm_r99_927.all (lm_chkE lm_tb11 false lm_cl prog_14_method_82_code (some .int) 9 [] lm_m99.2.2.2.2.1 lm_pf11) = true := by decide +kernel
set_option maxRecDepth 1000000 in
set_option maxHeartbeats 8000000 in
theorem lm_c99_939 : lm_r99_939.all (lm_chkE lm_tb11 false lm_cl prog_14_method_82_code (some .int) 9 [] lm_m99.2.2.2.2.1 lm_pf11) = true := by decide +kernel
set_option maxRecDepth 1000000 in
set_option maxHeartbeats 8000000 in
theorem lm_c99_976 : lm_r99_976.all (lm_chkE lm_tb11 false lm_cl prog_14_method_82_code (some .int) 9 [] lm_m99.2.2.2.2.1 lm_pf11) = true := by decide +kernel
theorem lm_c99 : lm_m99.2.2.2.2.2.all (fun q => q.2.all (lm_chkE lm_tb11 false lm_cl prog_14_method_82_code (some .int) 9 [] lm_m99.2.2.2.2.1 lm_pf11)) = true := lm_all_cons lm_c99_0 (lm_all_cons lm_c99_2 (lm_all_cons lm_c99_99 (lm_all_cons lm_c99_121 (lm_all_cons lm_c99_132 (lm_all_cons lm_c99_259 (lm_all_cons lm_c99_347 (lm_all_cons lm_c99_382 (lm_all_cons lm_c99_479 (lm_all_cons lm_c99_521 (lm_all_cons lm_c99_615 (lm_all_cons lm_c99_618 (lm_all_cons lm_c99_655 (lm_all_cons lm_c99_694 (lm_all_cons lm_c99_697 (lm_all_cons lm_c99_759 (lm_all_cons lm_c99_776 (lm_all_cons lm_c99_828 (lm_all_cons lm_c99_898 (lm_all_cons lm_c99_927 (lm_all_cons lm_c99_939 (lm_all_cons lm_c99_976 rfl)))))))))))))))))))))
