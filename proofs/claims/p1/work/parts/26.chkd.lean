def lm_dB (q : vw_C) : Bool := (List.range q.2.2).all fun a => (List.range a).all fun b => decide ((q.2.1 a).2.1 ≠ (q.2.1 b).2.1)
theorem lm_dB_ok {cl : List vw_C} (h : cl.all lm_dB = true) : lm_clD cl := by
  intro ci C T N hc a ha b hb hne
  have h1 := List.all_eq_true.mp h _ (List.mem_of_getElem? hc)
  unfold lm_dB at h1
  simp only [List.all_eq_true, List.mem_range, decide_eq_true_eq] at h1
  rcases Nat.lt_or_gt_of_ne hne with h2 | h2
  · exact fun e => h1 b hb a h2 e.symm
  · exact h1 a ha b h2
set_option maxRecDepth 1000000 in
set_option maxHeartbeats 8000000 in
theorem lm_k_d0 : ((lm_cl.drop 0).take 1).all lm_dB = true := by decide +kernel
set_option maxRecDepth 1000000 in
set_option maxHeartbeats 8000000 in
theorem lm_k_d1 : ((lm_cl.drop 1).take 1).all lm_dB = true := by decide +kernel
set_option maxRecDepth 1000000 in
set_option maxHeartbeats 8000000 in
theorem lm_k_d2 : ((lm_cl.drop 2).take 1).all lm_dB = true := by decide +kernel
set_option maxRecDepth 1000000 in
set_option maxHeartbeats 8000000 in
theorem lm_k_d3 : ((lm_cl.drop 3).take 1).all lm_dB = true := by decide +kernel
set_option maxRecDepth 1000000 in
set_option maxHeartbeats 8000000 in
theorem lm_k_d4 : ((lm_cl.drop 4).take 1).all lm_dB = true := by decide +kernel
set_option maxRecDepth 1000000 in
set_option maxHeartbeats 8000000 in
theorem lm_k_d5 : ((lm_cl.drop 5).take 1).all lm_dB = true := by decide +kernel
set_option maxRecDepth 1000000 in
set_option maxHeartbeats 8000000 in
theorem lm_k_d6 : ((lm_cl.drop 6).take 1).all lm_dB = true := by decide +kernel
set_option maxRecDepth 1000000 in
set_option maxHeartbeats 8000000 in
theorem lm_k_d7 : ((lm_cl.drop 7).take 1).all lm_dB = true := by decide +kernel
set_option maxRecDepth 1000000 in
set_option maxHeartbeats 8000000 in
theorem lm_k_d8 : ((lm_cl.drop 8).take 1).all lm_dB = true := by decide +kernel
set_option maxRecDepth 1000000 in
set_option maxHeartbeats 8000000 in
theorem lm_k_d9 : ((lm_cl.drop 9).take 1).all lm_dB = true := by decide +kernel
set_option maxRecDepth 1000000 in
set_option maxHeartbeats 8000000 in
theorem lm_k_d10 : ((lm_cl.drop 10).take 1).all lm_dB = true := by decide +kernel
set_option maxRecDepth 1000000 in
set_option maxHeartbeats 8000000 in
theorem lm_k_d11 : ((lm_cl.drop 11).take 1).all lm_dB = true := by decide +kernel
set_option maxRecDepth 1000000 in
set_option maxHeartbeats 8000000 in
theorem lm_k_d12 : ((lm_cl.drop 12).take 1).all lm_dB = true := by decide +kernel
set_option maxRecDepth 1000000 in
set_option maxHeartbeats 8000000 in
theorem lm_k_d13 : ((lm_cl.drop 13).take 1).all lm_dB = true := by decide +kernel
set_option maxRecDepth 1000000 in
set_option maxHeartbeats 8000000 in
theorem lm_k_d14 : ((lm_cl.drop 14).take 1).all lm_dB = true := by decide +kernel
set_option maxRecDepth 1000000 in
set_option maxHeartbeats 8000000 in
theorem lm_k_d15 : ((lm_cl.drop 15).take 1).all lm_dB = true := by decide +kernel
set_option maxRecDepth 1000000 in
set_option maxHeartbeats 8000000 in
theorem lm_k_d16 : ((lm_cl.drop 16).take 1).all lm_dB = true := by decide +kernel
