theorem lm_all_cons {f : Nat × List lm_E → Bool} {a : Nat × List lm_E} {l : List (Nat × List lm_E)} (h : f a = true) (h2 : l.all f = true) : (a :: l).all f = true := by
  rw [List.all_cons, h, h2]
  rfl
set_option maxRecDepth 1000000 in
set_option maxHeartbeats 8000000 in
theorem lm_c31 : lm_m31.2.2.2.2.2.all (fun q => q.2.all (lm_chkE lm_tb12 false lm_cl method_17_code (some .int) 5 [(0, 17, 20, 19), (0, 17, 24, 49), (0, 17, 28, 56), (0, 17, 32, 51)] lm_m31.2.2.2.2.1 lm_pf12)) = true := by decide +kernel
set_option maxRecDepth 1000000 in
set_option maxHeartbeats 8000000 in
theorem lm_c32_0 : lm_r32_0.all (lm_chkE lm_tb11 false lm_cl prog_14_method_84_code (some .boolean) 9 [] lm_m32.2.2.2.2.1 lm_pf11) = true := by decide +kernel
set_option maxRecDepth 1000000 in
set_option maxHeartbeats 8000000 in
theorem lm_c32_24 : lm_r32_24.all (lm_chkE lm_tb11 false lm_cl prog_14_method_84_code (some .boolean) 9 [] lm_m32.2.2.2.2.1 lm_pf11) = true := by decide +kernel
set_option maxRecDepth 1000000 in
set_option maxHeartbeats 8000000 in
theorem lm_c32_25 : lm_r32_25.all (lm_chkE lm_tb11 false lm_cl prog_14_method_84_code (some .boolean) 9 [] lm_m32.2.2.2.2.1 lm_pf11) = true := by decide +kernel
set_option maxRecDepth 1000000 in
set_option maxHeartbeats 8000000 in
theorem lm_c32_78 : lm_r32_78.all (lm_chkE lm_tb11 false lm_cl prog_14_method_84_code (some .boolean) 9 [] lm_m32.2.2.2.2.1 lm_pf11) = true := by decide +kernel
set_option maxRecDepth 1000000 in
set_option maxHeartbeats 8000000 in
theorem lm_c32_149 : lm_r32_149.all (lm_chkE lm_tb11 false lm_cl prog_14_method_84_code (some .boolean) 9 [] lm_m32.2.2.2.2.1 lm_pf11) = true := by decide +kernel
set_option maxRecDepth 1000000 in
set_option maxHeartbeats 8000000 in
theorem lm_c32_190 : lm_r32_190.all (lm_chkE lm_tb11 false lm_cl prog_14_method_84_code (some .boolean) 9 [] lm_m32.2.2.2.2.1 lm_pf11) = true := by decide +kernel
set_option maxRecDepth 1000000 in
set_option maxHeartbeats 8000000 in
theorem lm_c32_362 : lm_r32_362.all (lm_chkE lm_tb11 false lm_cl prog_14_method_84_code (some .boolean) 9 [] lm_m32.2.2.2.2.1 lm_pf11) = true := by decide +kernel
set_option maxRecDepth 1000000 in
set_option maxHeartbeats 8000000 in
theorem lm_c32_406 : lm_r32_406.all (lm_chkE lm_tb11 false lm_cl prog_14_method_84_code (some .boolean) 9 [] lm_m32.2.2.2.2.1 lm_pf11) = true := by decide +kernel
set_option maxRecDepth 1000000 in
set_option maxHeartbeats 8000000 in
theorem lm_c32_418 : lm_r32_418.all (lm_chkE lm_tb11 false lm_cl prog_14_method_84_code (some .boolean) 9 [] lm_m32.2.2.2.2.1 lm_pf11) = true := by decide +kernel
set_option maxRecDepth 1000000 in
set_option maxHeartbeats 8000000 in
theorem lm_c32_528 : lm_r32_528.all (lm_chkE lm_tb11 false lm_cl prog_14_method_84_code (some .boolean) 9 [] lm_m32.2.2.2.2.1 lm_pf11) = true := by decide +kernel
set_option maxRecDepth 1000000 in
set_option maxHeartbeats 8000000 in
theorem lm_c32_631 : lm_r32_631.all (lm_chkE lm_tb11 false lm_cl prog_14_method_84_code (some .boolean) 9 [] lm_m32.2.2.2.2.1 lm_pf11) = true := by decide +kernel
set_option maxRecDepth 1000000 in
set_option maxHeartbeats 8000000 in
theorem lm_c32_704 : lm_r32_704.all (lm_chkE lm_tb11 false lm_cl prog_14_method_84_code (some .boolean) 9 [] lm_m32.2.2.2.2.1 lm_pf11) = true := by decide +kernel
set_option maxRecDepth 1000000 in
set_option maxHeartbeats 8000000 in
theorem lm_c32_706 : lm_r32_706.all (lm_chkE lm_tb11 false lm_cl prog_14_method_84_code (some .boolean) 9 [] lm_m32.2.2.2.2.1 lm_pf11) = true := by decide +kernel
theorem lm_c32 : lm_m32.2.2.2.2.2.all (fun q => q.2.all (lm_chkE lm_tb11 false lm_cl prog_14_method_84_code (some .boolean) 9 [] lm_m32.2.2.2.2.1 lm_pf11)) = true := lm_all_cons lm_c32_0 (lm_all_cons lm_c32_24 (lm_all_cons lm_c32_25 (lm_all_cons lm_c32_78 (lm_all_cons lm_c32_149 (lm_all_cons lm_c32_190 (lm_all_cons lm_c32_362 (lm_all_cons lm_c32_406 (lm_all_cons lm_c32_418 (lm_all_cons lm_c32_528 (lm_all_cons lm_c32_631 (lm_all_cons lm_c32_704 (lm_all_cons lm_c32_706 rfl))))))))))))
set_option maxRecDepth 1000000 in
set_option maxHeartbeats 8000000 in
theorem lm_c33 : lm_m33.2.2.2.2.2.all (fun q => q.2.all (lm_chkE lm_tb12 false lm_cl method_18_code (some .int) 4 [(0, 9, 12, 19), (0, 9, 15, 49)] lm_m33.2.2.2.2.1 lm_pf12)) = true := by decide +kernel
set_option maxRecDepth 1000000 in
set_option maxHeartbeats 8000000 in
theorem lm_c34_0 : lm_r34_0.all (lm_chkE lm_tb11 false lm_cl prog_14_method_105_code (some .int) 2 [] lm_m34.2.2.2.2.1 lm_pf11) = true := by decide +kernel
set_option maxRecDepth 1000000 in
set_option maxHeartbeats 8000000 in
theorem lm_c34_43 : lm_r34_43.all (lm_chkE lm_tb11 false lm_cl prog_14_method_105_code (some .int) 2 [] lm_m34.2.2.2.2.1 lm_pf11) = true := by decide +kernel
theorem lm_c34 : lm_m34.2.2.2.2.2.all (fun q => q.2.all (lm_chkE lm_tb11 false lm_cl prog_14_method_105_code (some .int) 2 [] lm_m34.2.2.2.2.1 lm_pf11)) = true := lm_all_cons lm_c34_0 (lm_all_cons lm_c34_43 rfl)
set_option maxRecDepth 1000000 in
set_option maxHeartbeats 8000000 in
theorem lm_c35 : lm_m35.2.2.2.2.2.all (fun q => q.2.all (lm_chkE lm_tb12 false lm_cl method_19_code (some .int) 5 [(0, 10, 13, 19), (0, 10, 17, 49), (0, 10, 21, 56)] lm_m35.2.2.2.2.1 lm_pf12)) = true := by decide +kernel
set_option maxRecDepth 1000000 in
set_option maxHeartbeats 8000000 in
theorem lm_c36_0 : lm_r36_0.all (lm_chkE lm_tb11 false lm_cl prog_14_method_106_code (some .int) 8 [] lm_m36.2.2.2.2.1 lm_pf11) = true := by decide +kernel
set_option maxRecDepth 1000000 in
set_option maxHeartbeats 8000000 in
theorem lm_c36_25 : lm_r36_25.all (lm_chkE lm_tb11 false lm_cl prog_14_method_106_code (some .int) 8 [] lm_m36.2.2.2.2.1 lm_pf11) = true := by decide +kernel
set_option maxRecDepth 1000000 in
set_option maxHeartbeats 8000000 in
theorem lm_c36_26 : lm_r36_26.all (lm_chkE lm_tb11 false lm_cl prog_14_method_106_code (some .int) 8 [] lm_m36.2.2.2.2.1 lm_pf11) = true := by decide +kernel
set_option maxRecDepth 1000000 in
set_option maxHeartbeats 8000000 in
theorem lm_c36_71 : lm_r36_71.all (lm_chkE lm_tb11 false lm_cl prog_14_method_106_code (some .int) 8 [] lm_m36.2.2.2.2.1 lm_pf11) = true := by decide +kernel
set_option maxRecDepth 1000000 in
set_option maxHeartbeats 8000000 in
theorem lm_c36_75 : lm_r36_75.all (lm_chkE lm_tb11 false lm_cl prog_14_method_106_code (some .int) 8 [] lm_m36.2.2.2.2.1 lm_pf11) = true := by decide +kernel
set_option maxRecDepth 1000000 in
set_option maxHeartbeats 8000000 in
theorem lm_c36_76 : lm_r36_76.all (lm_chkE lm_tb11 false lm_cl prog_14_method_106_code (some .int) 8 [] lm_m36.2.2.2.2.1 lm_pf11) = true := by decide +kernel
set_option maxRecDepth 1000000 in
set_option maxHeartbeats 8000000 in
theorem lm_c36_104 : lm_r36_104.all (lm_chkE lm_tb11 false lm_cl prog_14_method_106_code (some .int) 8 [] lm_m36.2.2.2.2.1 lm_pf11) = true := by decide +kernel
set_option maxRecDepth 1000000 in
set_option maxHeartbeats 8000000 in
theorem lm_c36_202 : lm_r36_202.all (lm_chkE lm_tb11 false lm_cl prog_14_method_106_code (some .int) 8 [] lm_m36.2.2.2.2.1 lm_pf11) = true := by decide +kernel
set_option maxRecDepth 1000000 in
set_option maxHeartbeats 8000000 in
theorem lm_c36_276 : lm_r36_276.all (lm_chkE lm_tb11 false lm_cl prog_14_method_106_code (some .int) 8 [] lm_m36.2.2.2.2.1 lm_pf11) = true := by decide +kernel
set_option maxRecDepth 1000000 in
set_option maxHeartbeats 8000000 in
theorem lm_c36_334 : lm_r36_334.all (lm_chkE lm_tb11 false lm_cl prog_14_method_106_code (some .int) 8 [] lm_m36.2.2.2.2.1 lm_pf11) = true := by decide +kernel
set_option maxRecDepth 1000000 in
set_option maxHeartbeats 8000000 in
theorem lm_c36_415 : lm_r36_415.all (lm_chkE lm_tb11 false lm_cl prog_14_method_106_code (some .int) 8 [] lm_m36.2.2.2.2.1 lm_pf11) = true := by decide +kernel
theorem lm_c36 : lm_m36.2.2.2.2.2.all (fun q => q.2.all (lm_chkE lm_tb11 false lm_cl prog_14_method_106_code (some .int) 8 [] lm_m36.2.2.2.2.1 lm_pf11)) = true := lm_all_cons lm_c36_0 (lm_all_cons lm_c36_25 (lm_all_cons lm_c36_26 (lm_all_cons lm_c36_71 (lm_all_cons lm_c36_75 (lm_all_cons lm_c36_76 (lm_all_cons lm_c36_104 (lm_all_cons lm_c36_202 (lm_all_cons lm_c36_276 (lm_all_cons lm_c36_334 (lm_all_cons lm_c36_415 rfl))))))))))
