theorem i_vc : Claimed_1_1 ∧ Claimed_1_2 := lm_claim (lm_pure_of (lm_pure_w lm_stsw))
