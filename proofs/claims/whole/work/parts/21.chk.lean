/-! ===== the tables checked ===== -/
set_option maxRecDepth 1000000 in
set_option maxHeartbeats 8000000 in
theorem lm_k_clw : lm_ok1 (lm_clW lm_cl lm_ps) := rfl
set_option maxRecDepth 1000000 in
set_option maxHeartbeats 8000000 in
theorem lm_k_cln : lm_clN lm_cl lm_ps = true := by decide +kernel
theorem lm_k_len1 : lm_vts.length = lm_vx.length := by decide +kernel
theorem lm_k_len2 : lm_P.length = lm_cps.length := by decide +kernel
set_option maxRecDepth 1000000 in
set_option maxHeartbeats 8000000 in
theorem lm_k_st : lm_stP := lm_stP_of (q := lm_sw) (by decide +kernel) (by decide +kernel) rfl
set_option maxRecDepth 1000000 in
set_option maxHeartbeats 8000000 in
theorem lm_k_hw : lm_ok1 (lm_hW lm_cl) := rfl
set_option maxRecDepth 1000000 in
set_option maxHeartbeats 8000000 in
theorem lm_k_vw : lm_ok1 ((lm_vts.zip lm_vx).flatMap (lm_vW lm_cl lm_P)) := rfl
set_option maxRecDepth 1000000 in
set_option maxHeartbeats 8000000 in
theorem lm_k_ve : lm_ok2 ((lm_vts.zip lm_vx).flatMap (lm_vE lm_P)) := rfl
