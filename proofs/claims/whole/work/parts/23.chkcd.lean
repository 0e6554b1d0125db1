set_option maxRecDepth 1000000 in
set_option maxHeartbeats 8000000 in
theorem lm_k_cdw : (lm_P.zip lm_cps).map lm_cwd = (lm_cps.map (fun q => q.1)).filterMap (fun i => tables_1[i]?) := rfl
theorem lm_k_cd : lm_cdP lm_P lm_cps := lm_cdP_of lm_k_len2 lm_k_cdw
