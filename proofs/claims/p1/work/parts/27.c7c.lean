set_option maxRecDepth 1000000 in
set_option maxHeartbeats 8000000 in
theorem lm_c310 : lm_m310.2.2.2.2.2.all (fun q => q.2.all (lm_chkE lm_tb9 false lm_cl prog_4_method_33_code (some .int) 1 [] lm_m310.2.2.2.2.1 lm_pf9)) = true := by decide +kernel
set_option maxRecDepth 1000000 in
set_option maxHeartbeats 8000000 in
theorem lm_cL_0 : lm_rL_0.all (lm_chkE lm_tb12 false lm_cl code (some .boolean) 8 [] [] lm_pf12) = true := by decide +kernel
set_option maxRecDepth 1000000 in
set_option maxHeartbeats 8000000 in
theorem lm_cL_23 : lm_rL_23.all (lm_chkE lm_tb12 false lm_cl code (some .boolean) 8 [] [] lm_pf12) = true := by decide +kernel
set_option maxRecDepth 1000000 in
set_option maxHeartbeats 8000000 in
theorem lm_cL_132 : lm_rL_132.all (lm_chkE lm_tb12 false lm_cl code (some .boolean) 8 [] [] lm_pf12) = true := by decide +kernel
set_option maxRecDepth 1000000 in
set_option maxHeartbeats 8000000 in
theorem lm_cL_233 : lm_rL_233.all (lm_chkE lm_tb12 false lm_cl code (some .boolean) 8 [] [] lm_pf12) = true := by decide +kernel
set_option maxRecDepth 1000000 in
set_option maxHeartbeats 8000000 in
theorem lm_cL_236 : lm_rL_236.all (lm_chkE lm_tb12 false lm_cl code (some .boolean) 8 [] [] lm_pf12) = true := by decide +kernel
set_option maxRecDepth 1000000 in
set_option maxHeartbeats 8000000 in
theorem lm_cL_301 : lm_rL_301.all (lm_chkE lm_tb12 false lm_cl code (some .boolean) 8 [] [] lm_pf12) = true := by decide +kernel
set_option maxRecDepth 1000000 in
set_option maxHeartbeats 8000000 in
theorem lm_cL_304 : lm_rL_304.all (lm_chkE lm_tb12 false lm_cl code (some .boolean) 8 [] [] lm_pf12) = true := by decide +kernel
set_option maxRecDepth 1000000 in
set_option maxHeartbeats 8000000 in
theorem lm_cL_369 : lm_rL_369.all (lm_chkE lm_tb12 false lm_cl code (some .boolean) 8 [] [] lm_pf12) = true := by decide +kernel
set_option maxRecDepth 1000000 in
set_option maxHeartbeats 8000000 in
theorem lm_cL_372 : lm_rL_372.all (lm_chkE lm_tb12 false lm_cl code (some .boolean) 8 [] [] lm_pf12) = true := by decide +kernel
set_option maxRecDepth 1000000 in
set_option maxHeartbeats 8000000 in
theorem lm_cL_437 : lm_rL_437.all (lm_chkE lm_tb12 false lm_cl code (some .boolean) 8 [] [] lm_pf12) = true := by decide +kernel
set_option maxRecDepth 1000000 in
set_option maxHeartbeats 8000000 in
theorem lm_cL_440 : lm_rL_440.all (lm_chkE lm_tb12 false lm_cl code (some .boolean) 8 [] [] lm_pf12) = true := by decide +kernel
set_option maxRecDepth 1000000 in
set_option maxHeartbeats 8000000 in
theorem lm_cL_517 : lm_rL_517.all (lm_chkE lm_tb12 false lm_cl code (some .boolean) 8 [] [] lm_pf12) = true := by decide +kernel
set_option maxRecDepth 1000000 in
set_option maxHeartbeats 8000000 in
theorem lm_cL_520 : lm_rL_520.all (lm_chkE lm_tb12 false lm_cl code (some .boolean) 8 [] [] lm_pf12) = true := by decide +kernel
set_option maxRecDepth 1000000 in
set_option maxHeartbeats 8000000 in
theorem lm_cL_573 : lm_rL_573.all (lm_chkE lm_tb12 false lm_cl code (some .boolean) 8 [] [] lm_pf12) = true := by decide +kernel
set_option maxRecDepth 1000000 in
set_option maxHeartbeats 8000000 in
theorem lm_cL_576 : lm_rL_576.all (lm_chkE lm_tb12 false lm_cl code (some .boolean) 8 [] [] lm_pf12) = true := by decide +kernel
set_option maxRecDepth 1000000 in
set_option maxHeartbeats 8000000 in
theorem lm_cL_640 : lm_rL_640.all (lm_chkE lm_tb12 false lm_cl code (some .boolean) 8 [] [] lm_pf12) = true := by decide +kernel
set_option maxRecDepth 1000000 in
set_option maxHeartbeats 8000000 in
theorem lm_cL_643 : lm_rL_643.all (lm_chkE lm_tb12 false lm_cl code (some .boolean) 8 [] [] lm_pf12) = true := by decide +kernel
set_option maxRecDepth 1000000 in
set_option maxHeartbeats 8000000 in
theorem lm_cL_709 : lm_rL_709.all (lm_chkE lm_tb12 false lm_cl code (some .boolean) 8 [] [] lm_pf12) = true := by decide +kernel
set_option maxRecDepth 1000000 in
set_option maxHeartbeats 8000000 in
theorem lm_cL_715 : lm_rL_715.all (lm_chkE lm_tb12 false lm_cl code (some .boolean) 8 [] [] lm_pf12) = true := by decide +kernel
set_option maxRecDepth 1000000 in
set_option maxHeartbeats 8000000 in
theorem lm_cL_718 : lm_rL_718.all (lm_chkE lm_tb12 false lm_cl code (some .boolean) 8 [] [] lm_pf12) = true := by decide +kernel
set_option maxRecDepth 1000000 in
set_option maxHeartbeats 8000000 in
theorem lm_cL_783 : lm_rL_783.all (lm_chkE lm_tb12 false lm_cl code (some .boolean) 8 [] [] lm_pf12) = true := by decide +kernel
set_option maxRecDepth 1000000 in
set_option maxHeartbeats 8000000 in
theorem lm_cL_786 : lm_rL_786.all (lm_chkE lm_tb12 false lm_cl code (some .boolean) 8 [] [] lm_pf12) = true := by decide +kernel
set_option maxRecDepth 1000000 in
set_option maxHeartbeats 8000000 in
theorem lm_cL_839 : lm_rL_839.all (lm_chkE lm_tb12 false lm_cl code (some .boolean) 8 [] [] lm_pf12) = true := by decide +kernel
set_option maxRecDepth 1000000 in
set_option maxHeartbeats 8000000 in
theorem lm_cL_842 : lm_rL_842.all (lm_chkE lm_tb12 false lm_cl code (some .boolean) 8 [] [] lm_pf12) = true := by decide +kernel
set_option maxRecDepth 1000000 in
set_option maxHeartbeats 8000000 in
theorem lm_cL_895 : lm_rL_895.all (lm_chkE lm_tb12 false lm_cl code (some .boolean) 8 [] [] lm_pf12) = true := by decide +kernel
set_option maxRecDepth 1000000 in
set_option maxHeartbeats 8000000 in
theorem lm_cL_898 : lm_rL_898.all (lm_chkE lm_tb12 false lm_cl code (some .boolean) 8 [] [] lm_pf12) = true := by decide +kernel
set_option maxRecDepth 1000000 in
set_option maxHeartbeats 8000000 in
theorem lm_cL_951 : lm_rL_951.all (lm_chkE lm_tb12 false lm_cl code (some .boolean) 8 [] [] lm_pf12) = true := by decide +kernel
set_option maxRecDepth 1000000 in
set_option maxHeartbeats 8000000 in
theorem lm_cL_954 : lm_rL_954.all (lm_chkE lm_tb12 false lm_cl code (some .boolean) 8 [] [] lm_pf12) = true := by decide +kernel
set_option maxRecDepth 1000000 in
set_option maxHeartbeats 8000000 in
theorem lm_cL_1007 : lm_rL_1007.all (lm_chkE lm_tb12 false lm_cl code (some .boolean) 8 [] [] lm_pf12) = true := by decide +kernel
set_option maxRecDepth 1000000 in
set_option maxHeartbeats 8000000 in
theorem lm_cL_1010 : lm_rL_1010.all (lm_chkE lm_tb12 false lm_cl code (some .boolean) 8 [] [] lm_pf12) = true := by decide +kernel
set_option maxRecDepth 1000000 in
set_option maxHeartbeats 8000000 in
theorem lm_cL_1075 : lm_rL_1075.all (lm_chkE lm_tb12 false lm_cl code (some .boolean) 8 [] [] lm_pf12) = true := by decide +kernel
set_option maxRecDepth 1000000 in
set_option maxHeartbeats 8000000 in
theorem lm_cL_1078 : lm_rL_1078.all (lm_chkE lm_tb12 false lm_cl code (some .boolean) 8 [] [] lm_pf12) = true := by decide +kernel
set_option maxRecDepth 1000000 in
set_option maxHeartbeats 8000000 in
theorem lm_cL_1144 : lm_rL_1144.all (lm_chkE lm_tb12 false lm_cl code (some .boolean) 8 [] [] lm_pf12) = true := by decide +kernel
set_option maxRecDepth 1000000 in
set_option maxHeartbeats 8000000 in
theorem lm_cL_1150 : lm_rL_1150.all (lm_chkE lm_tb12 false lm_cl code (some .boolean) 8 [] [] lm_pf12) = true := by decide +kernel
set_option maxRecDepth 1000000 in
set_option maxHeartbeats 8000000 in
theorem lm_cL_1153 : lm_rL_1153.all (lm_chkE lm_tb12 false lm_cl code (some .boolean) 8 [] [] lm_pf12) = true := by decide +kernel
set_option maxRecDepth 1000000 in
set_option maxHeartbeats 8000000 in
theorem lm_cL_1206 : lm_rL_1206.all (lm_chkE lm_tb12 false lm_cl code (some .boolean) 8 [] [] lm_pf12) = true := by decide +kernel
set_option maxRecDepth 1000000 in
set_option maxHeartbeats 8000000 in
theorem lm_cL_1209 : lm_rL_1209.all (lm_chkE lm_tb12 false lm_cl code (some .boolean) 8 [] [] lm_pf12) = true := by decide +kernel
set_option maxRecDepth 1000000 in
set_option maxHeartbeats 8000000 in
theorem lm_cL_1274 : lm_rL_1274.all (lm_chkE lm_tb12 false lm_cl code (some .boolean) 8 [] [] lm_pf12) = true := by decide +kernel
set_option maxRecDepth 1000000 in
set_option maxHeartbeats 8000000 in
theorem lm_cL_1277 : lm_rL_1277.all (lm_chkE lm_tb12 false lm_cl code (some .boolean) 8 [] [] lm_pf12) = true := by decide +kernel
set_option maxRecDepth 1000000 in
set_option maxHeartbeats 8000000 in
theorem lm_cL_1343 : lm_rL_1343.all (lm_chkE lm_tb12 false lm_cl code (some .boolean) 8 [] [] lm_pf12) = true := by decide +kernel
set_option maxRecDepth 1000000 in
set_option maxHeartbeats 8000000 in
theorem lm_cL_1349 : lm_rL_1349.all (lm_chkE lm_tb12 false lm_cl code (some .boolean) 8 [] [] lm_pf12) = true := by decide +kernel
set_option maxRecDepth 1000000 in
set_option maxHeartbeats 8000000 in
theorem lm_cL_1352 : lm_rL_1352.all (lm_chkE lm_tb12 false lm_cl code (some .boolean) 8 [] [] lm_pf12) = true := by decide +kernel
set_option maxRecDepth 1000000 in
set_option maxHeartbeats 8000000 in
theorem lm_cL_1453 : lm_rL_1453.all (lm_chkE lm_tb12 false lm_cl code (some .boolean) 8 [] [] lm_pf12) = true := by decide +kernel
set_option maxRecDepth 1000000 in
set_option maxHeartbeats 8000000 in
theorem lm_cL_1456 : lm_rL_1456.all (lm_chkE lm_tb12 false lm_cl code (some .boolean) 8 [] [] lm_pf12) = true := by decide +kernel
theorem lm_cL : lm_law.all (fun q => q.2.all (lm_chkE lm_tb12 false lm_cl code (some .boolean) 8 [] [] lm_pf12)) = true := lm_all_cons lm_cL_0 (lm_all_cons lm_cL_23 (lm_all_cons lm_cL_132 (lm_all_cons lm_cL_233 (lm_all_cons lm_cL_236 (lm_all_cons lm_cL_301 (lm_all_cons lm_cL_304 (lm_all_cons lm_cL_369 (lm_all_cons lm_cL_372 (lm_all_cons lm_cL_437 (lm_all_cons lm_cL_440 (lm_all_cons lm_cL_517 (lm_all_cons lm_cL_520 (lm_all_cons lm_cL_573 (lm_all_cons lm_cL_576 (lm_all_cons lm_cL_640 (lm_all_cons lm_cL_643 (lm_all_cons lm_cL_709 (lm_all_cons lm_cL_715 (lm_all_cons lm_cL_718 (lm_all_cons lm_cL_783 (lm_all_cons lm_cL_786 (lm_all_cons lm_cL_839 (lm_all_cons lm_cL_842 (lm_all_cons lm_cL_895 (lm_all_cons lm_cL_898 (lm_all_cons lm_cL_951 (lm_all_cons lm_cL_954 (lm_all_cons lm_cL_1007 (lm_all_cons lm_cL_1010 (lm_all_cons lm_cL_1075 (lm_all_cons lm_cL_1078 (lm_all_cons lm_cL_1144 (lm_all_cons lm_cL_1150 (lm_all_cons lm_cL_1153 (lm_all_cons lm_cL_1206 (lm_all_cons lm_cL_1209 (lm_all_cons lm_cL_1274 (lm_all_cons lm_cL_1277 (lm_all_cons lm_cL_1343 (lm_all_cons lm_cL_1349 (lm_all_cons lm_cL_1352 (lm_all_cons lm_cL_1453 (lm_all_cons lm_cL_1456 rfl)))))))))))))))))))))))))))))))))))))))))))
