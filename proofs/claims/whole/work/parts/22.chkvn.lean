set_option maxRecDepth 1000000 in
set_option maxHeartbeats 8000000 in
theorem lm_k_vn : (lm_vts.zip lm_vx).all (lm_vN lm_cl lm_P) = true := by decide +kernel
