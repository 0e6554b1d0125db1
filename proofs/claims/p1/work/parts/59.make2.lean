/-! ===== the class's constructors: the hashes, the slots ===== -/
theorem lm_mk1 {sc : lm_H} {d : Nat} {m : lm_MI} {n : lm_ML} {r : Except Nat lm_R × lm_S} (hz : lm_zr 0 m n) (k : lm_rn sc (d + 4) lm_m0.2.2.2.2.1 (lm_reg lm_m0.2.2.2.2.2) (37, [(0, .ref 0), (1, .int (Int32.ofNat 0))], []) (lm_W 26 [(1, []), (0, [2, 1, 0])] (lm_u (lm_u (lm_u m 5 1 (Int32.ofNat 168)) 11 1 (Int32.ofNat 64)) 17 1 (Int32.ofNat 128)) n ([], 599976, 7235475)) = some r) : lm_cal sc (d + 5) 0 [.ref 0] (lm_W 1 [(0, [])] m n ([], 600001, 7302225)) = some r := by
  refine lm_cal_of (Y := lm_m0) rfl rfl (lm_e0_0 ?_)
  unfold lm_q0_0
  simp only [lm_K8, lm_K0]
  repeat (first
    | ((with_reducible apply lm_nB); exact rfl; exact rfl; (first | exact hz.mono (by decide) | exact (hz.mono (by decide)).u (by decide) | exact ((hz.mono (by decide)).u (by decide)).u (by decide) | exact (((hz.mono (by decide)).u (by decide)).u (by decide)).u (by decide)); simp only [Nat.reduceAdd])
    | ((with_reducible apply lm_nI); exact rfl; exact rfl; (first | exact hz.mono (by decide) | exact (hz.mono (by decide)).u (by decide) | exact ((hz.mono (by decide)).u (by decide)).u (by decide) | exact (((hz.mono (by decide)).u (by decide)).u (by decide)).u (by decide)); simp only [Nat.reduceAdd])
    | ((with_reducible apply lm_nL); exact rfl; exact rfl; (first | exact hz.mono (by decide) | exact (hz.mono (by decide)).u (by decide) | exact ((hz.mono (by decide)).u (by decide)).u (by decide) | exact (((hz.mono (by decide)).u (by decide)).u (by decide)).u (by decide)); simp only [Nat.reduceAdd])
    | ((with_reducible apply lm_nO); exact rfl; exact rfl; exact rfl; (first | exact hz.mono (by decide) | exact (hz.mono (by decide)).u (by decide) | exact ((hz.mono (by decide)).u (by decide)).u (by decide) | exact (((hz.mono (by decide)).u (by decide)).u (by decide)).u (by decide)); simp only [Nat.reduceAdd])
    | ((with_reducible apply lm_nR6); exact rfl; exact rfl; (first | exact hz.mono (by decide) | exact (hz.mono (by decide)).u (by decide) | exact ((hz.mono (by decide)).u (by decide)).u (by decide) | exact (((hz.mono (by decide)).u (by decide)).u (by decide)).u (by decide)); simp only [Nat.reduceAdd])
    | ((with_reducible apply lm_nM); exact rfl; exact rfl; exact rfl; exact rfl; exact rfl; exact rfl; decide +kernel; exact hz.mono (by decide); simp only [Nat.reduceAdd])
    | ((with_reducible apply lm_nR); exact rfl; exact rfl; exact rfl; exact rfl; exact rfl; exact rfl; exact rfl)
    | ((with_reducible apply lm_nS); exact rfl; exact rfl; exact rfl; exact rfl; exact rfl)
    | ((with_reducible apply lm_sI); exact rfl)
    | ((with_reducible apply lm_sR); exact rfl)
    | ((with_reducible apply lm_sS); exact rfl; exact rfl)
    | ((with_reducible apply lm_sAA); exact rfl; exact rfl)
    | ((with_reducible apply lm_sP); exact rfl; exact rfl))
  refine lm_nSw rfl ?_
  repeat (first
    | ((with_reducible apply lm_nB); exact rfl; exact rfl; (first | exact hz.mono (by decide) | exact (hz.mono (by decide)).u (by decide) | exact ((hz.mono (by decide)).u (by decide)).u (by decide) | exact (((hz.mono (by decide)).u (by decide)).u (by decide)).u (by decide)); simp only [Nat.reduceAdd])
    | ((with_reducible apply lm_nI); exact rfl; exact rfl; (first | exact hz.mono (by decide) | exact (hz.mono (by decide)).u (by decide) | exact ((hz.mono (by decide)).u (by decide)).u (by decide) | exact (((hz.mono (by decide)).u (by decide)).u (by decide)).u (by decide)); simp only [Nat.reduceAdd])
    | ((with_reducible apply lm_nL); exact rfl; exact rfl; (first | exact hz.mono (by decide) | exact (hz.mono (by decide)).u (by decide) | exact ((hz.mono (by decide)).u (by decide)).u (by decide) | exact (((hz.mono (by decide)).u (by decide)).u (by decide)).u (by decide)); simp only [Nat.reduceAdd])
    | ((with_reducible apply lm_nO); exact rfl; exact rfl; exact rfl; (first | exact hz.mono (by decide) | exact (hz.mono (by decide)).u (by decide) | exact ((hz.mono (by decide)).u (by decide)).u (by decide) | exact (((hz.mono (by decide)).u (by decide)).u (by decide)).u (by decide)); simp only [Nat.reduceAdd])
    | ((with_reducible apply lm_nR6); exact rfl; exact rfl; (first | exact hz.mono (by decide) | exact (hz.mono (by decide)).u (by decide) | exact ((hz.mono (by decide)).u (by decide)).u (by decide) | exact (((hz.mono (by decide)).u (by decide)).u (by decide)).u (by decide)); simp only [Nat.reduceAdd])
    | ((with_reducible apply lm_nM); exact rfl; exact rfl; exact rfl; exact rfl; exact rfl; exact rfl; decide +kernel; exact hz.mono (by decide); simp only [Nat.reduceAdd])
    | ((with_reducible apply lm_nR); exact rfl; exact rfl; exact rfl; exact rfl; exact rfl; exact rfl; exact rfl)
    | ((with_reducible apply lm_nS); exact rfl; exact rfl; exact rfl; exact rfl; exact rfl)
    | ((with_reducible apply lm_sI); exact rfl)
    | ((with_reducible apply lm_sR); exact rfl)
    | ((with_reducible apply lm_sS); exact rfl; exact rfl)
    | ((with_reducible apply lm_sAA); exact rfl; exact rfl)
    | ((with_reducible apply lm_sP); exact rfl; exact rfl))
  apply lm_cV
  · refine lm_cal_of (Y := lm_m41) rfl rfl (lm_e41_0 ?_)
    unfold lm_q41_0
    simp only [lm_K65536]
    repeat (first
    | ((with_reducible apply lm_nB); exact rfl; exact rfl; (first | exact hz.mono (by decide) | exact (hz.mono (by decide)).u (by decide) | exact ((hz.mono (by decide)).u (by decide)).u (by decide) | exact (((hz.mono (by decide)).u (by decide)).u (by decide)).u (by decide)); simp only [Nat.reduceAdd])
    | ((with_reducible apply lm_nI); exact rfl; exact rfl; (first | exact hz.mono (by decide) | exact (hz.mono (by decide)).u (by decide) | exact ((hz.mono (by decide)).u (by decide)).u (by decide) | exact (((hz.mono (by decide)).u (by decide)).u (by decide)).u (by decide)); simp only [Nat.reduceAdd])
    | ((with_reducible apply lm_nL); exact rfl; exact rfl; (first | exact hz.mono (by decide) | exact (hz.mono (by decide)).u (by decide) | exact ((hz.mono (by decide)).u (by decide)).u (by decide) | exact (((hz.mono (by decide)).u (by decide)).u (by decide)).u (by decide)); simp only [Nat.reduceAdd])
    | ((with_reducible apply lm_nO); exact rfl; exact rfl; exact rfl; (first | exact hz.mono (by decide) | exact (hz.mono (by decide)).u (by decide) | exact ((hz.mono (by decide)).u (by decide)).u (by decide) | exact (((hz.mono (by decide)).u (by decide)).u (by decide)).u (by decide)); simp only [Nat.reduceAdd])
    | ((with_reducible apply lm_nR6); exact rfl; exact rfl; (first | exact hz.mono (by decide) | exact (hz.mono (by decide)).u (by decide) | exact ((hz.mono (by decide)).u (by decide)).u (by decide) | exact (((hz.mono (by decide)).u (by decide)).u (by decide)).u (by decide)); simp only [Nat.reduceAdd])
    | ((with_reducible apply lm_nM); exact rfl; exact rfl; exact rfl; exact rfl; exact rfl; exact rfl; decide +kernel; exact hz.mono (by decide); simp only [Nat.reduceAdd])
    | ((with_reducible apply lm_nR); exact rfl; exact rfl; exact rfl; exact rfl; exact rfl; exact rfl; exact rfl)
    | ((with_reducible apply lm_nS); exact rfl; exact rfl; exact rfl; exact rfl; exact rfl)
    | ((with_reducible apply lm_sI); exact rfl)
    | ((with_reducible apply lm_sR); exact rfl)
    | ((with_reducible apply lm_sS); exact rfl; exact rfl)
    | ((with_reducible apply lm_sAA); exact rfl; exact rfl)
    | ((with_reducible apply lm_sP); exact rfl; exact rfl))
    exact rfl
  refine lm_nX rfl ?_
  repeat (first
    | ((with_reducible apply lm_nB); exact rfl; exact rfl; (first | exact hz.mono (by decide) | exact (hz.mono (by decide)).u (by decide) | exact ((hz.mono (by decide)).u (by decide)).u (by decide) | exact (((hz.mono (by decide)).u (by decide)).u (by decide)).u (by decide)); simp only [Nat.reduceAdd])
    | ((with_reducible apply lm_nI); exact rfl; exact rfl; (first | exact hz.mono (by decide) | exact (hz.mono (by decide)).u (by decide) | exact ((hz.mono (by decide)).u (by decide)).u (by decide) | exact (((hz.mono (by decide)).u (by decide)).u (by decide)).u (by decide)); simp only [Nat.reduceAdd])
    | ((with_reducible apply lm_nL); exact rfl; exact rfl; (first | exact hz.mono (by decide) | exact (hz.mono (by decide)).u (by decide) | exact ((hz.mono (by decide)).u (by decide)).u (by decide) | exact (((hz.mono (by decide)).u (by decide)).u (by decide)).u (by decide)); simp only [Nat.reduceAdd])
    | ((with_reducible apply lm_nO); exact rfl; exact rfl; exact rfl; (first | exact hz.mono (by decide) | exact (hz.mono (by decide)).u (by decide) | exact ((hz.mono (by decide)).u (by decide)).u (by decide) | exact (((hz.mono (by decide)).u (by decide)).u (by decide)).u (by decide)); simp only [Nat.reduceAdd])
    | ((with_reducible apply lm_nR6); exact rfl; exact rfl; (first | exact hz.mono (by decide) | exact (hz.mono (by decide)).u (by decide) | exact ((hz.mono (by decide)).u (by decide)).u (by decide) | exact (((hz.mono (by decide)).u (by decide)).u (by decide)).u (by decide)); simp only [Nat.reduceAdd])
    | ((with_reducible apply lm_nM); exact rfl; exact rfl; exact rfl; exact rfl; exact rfl; exact rfl; decide +kernel; exact hz.mono (by decide); simp only [Nat.reduceAdd])
    | ((with_reducible apply lm_nR); exact rfl; exact rfl; exact rfl; exact rfl; exact rfl; exact rfl; exact rfl)
    | ((with_reducible apply lm_nS); exact rfl; exact rfl; exact rfl; exact rfl; exact rfl)
    | ((with_reducible apply lm_sI); exact rfl)
    | ((with_reducible apply lm_sR); exact rfl)
    | ((with_reducible apply lm_sS); exact rfl; exact rfl)
    | ((with_reducible apply lm_sAA); exact rfl; exact rfl)
    | ((with_reducible apply lm_sP); exact rfl; exact rfl))
  apply lm_cV
  · refine lm_cal_of (Y := lm_m42) rfl rfl (lm_e42_0 ?_)
    unfold lm_q42_0
    simp only [lm_K128, lm_K64, lm_K4]
    repeat (first
    | ((with_reducible apply lm_nB); exact rfl; exact rfl; (first | exact hz.mono (by decide) | exact (hz.mono (by decide)).u (by decide) | exact ((hz.mono (by decide)).u (by decide)).u (by decide) | exact (((hz.mono (by decide)).u (by decide)).u (by decide)).u (by decide)); simp only [Nat.reduceAdd])
    | ((with_reducible apply lm_nI); exact rfl; exact rfl; (first | exact hz.mono (by decide) | exact (hz.mono (by decide)).u (by decide) | exact ((hz.mono (by decide)).u (by decide)).u (by decide) | exact (((hz.mono (by decide)).u (by decide)).u (by decide)).u (by decide)); simp only [Nat.reduceAdd])
    | ((with_reducible apply lm_nL); exact rfl; exact rfl; (first | exact hz.mono (by decide) | exact (hz.mono (by decide)).u (by decide) | exact ((hz.mono (by decide)).u (by decide)).u (by decide) | exact (((hz.mono (by decide)).u (by decide)).u (by decide)).u (by decide)); simp only [Nat.reduceAdd])
    | ((with_reducible apply lm_nO); exact rfl; exact rfl; exact rfl; (first | exact hz.mono (by decide) | exact (hz.mono (by decide)).u (by decide) | exact ((hz.mono (by decide)).u (by decide)).u (by decide) | exact (((hz.mono (by decide)).u (by decide)).u (by decide)).u (by decide)); simp only [Nat.reduceAdd])
    | ((with_reducible apply lm_nR6); exact rfl; exact rfl; (first | exact hz.mono (by decide) | exact (hz.mono (by decide)).u (by decide) | exact ((hz.mono (by decide)).u (by decide)).u (by decide) | exact (((hz.mono (by decide)).u (by decide)).u (by decide)).u (by decide)); simp only [Nat.reduceAdd])
    | ((with_reducible apply lm_nM); exact rfl; exact rfl; exact rfl; exact rfl; exact rfl; exact rfl; decide +kernel; exact hz.mono (by decide); simp only [Nat.reduceAdd])
    | ((with_reducible apply lm_nR); exact rfl; exact rfl; exact rfl; exact rfl; exact rfl; exact rfl; exact rfl)
    | ((with_reducible apply lm_nS); exact rfl; exact rfl; exact rfl; exact rfl; exact rfl)
    | ((with_reducible apply lm_sI); exact rfl)
    | ((with_reducible apply lm_sR); exact rfl)
    | ((with_reducible apply lm_sS); exact rfl; exact rfl)
    | ((with_reducible apply lm_sAA); exact rfl; exact rfl)
    | ((with_reducible apply lm_sP); exact rfl; exact rfl))
    apply lm_cV
    · refine lm_cal_of (Y := lm_m123) rfl rfl (lm_e123_0 ?_)
      unfold lm_q123_0
      simp only [lm_K168, lm_K25]
      repeat (first
    | ((with_reducible apply lm_nB); exact rfl; exact rfl; (first | exact hz.mono (by decide) | exact (hz.mono (by decide)).u (by decide) | exact ((hz.mono (by decide)).u (by decide)).u (by decide) | exact (((hz.mono (by decide)).u (by decide)).u (by decide)).u (by decide)); simp only [Nat.reduceAdd])
    | ((with_reducible apply lm_nI); exact rfl; exact rfl; (first | exact hz.mono (by decide) | exact (hz.mono (by decide)).u (by decide) | exact ((hz.mono (by decide)).u (by decide)).u (by decide) | exact (((hz.mono (by decide)).u (by decide)).u (by decide)).u (by decide)); simp only [Nat.reduceAdd])
    | ((with_reducible apply lm_nL); exact rfl; exact rfl; (first | exact hz.mono (by decide) | exact (hz.mono (by decide)).u (by decide) | exact ((hz.mono (by decide)).u (by decide)).u (by decide) | exact (((hz.mono (by decide)).u (by decide)).u (by decide)).u (by decide)); simp only [Nat.reduceAdd])
    | ((with_reducible apply lm_nO); exact rfl; exact rfl; exact rfl; (first | exact hz.mono (by decide) | exact (hz.mono (by decide)).u (by decide) | exact ((hz.mono (by decide)).u (by decide)).u (by decide) | exact (((hz.mono (by decide)).u (by decide)).u (by decide)).u (by decide)); simp only [Nat.reduceAdd])
    | ((with_reducible apply lm_nR6); exact rfl; exact rfl; (first | exact hz.mono (by decide) | exact (hz.mono (by decide)).u (by decide) | exact ((hz.mono (by decide)).u (by decide)).u (by decide) | exact (((hz.mono (by decide)).u (by decide)).u (by decide)).u (by decide)); simp only [Nat.reduceAdd])
    | ((with_reducible apply lm_nM); exact rfl; exact rfl; exact rfl; exact rfl; exact rfl; exact rfl; decide +kernel; exact hz.mono (by decide); simp only [Nat.reduceAdd])
    | ((with_reducible apply lm_nR); exact rfl; exact rfl; exact rfl; exact rfl; exact rfl; exact rfl; exact rfl)
    | ((with_reducible apply lm_nS); exact rfl; exact rfl; exact rfl; exact rfl; exact rfl)
    | ((with_reducible apply lm_sI); exact rfl)
    | ((with_reducible apply lm_sR); exact rfl)
    | ((with_reducible apply lm_sS); exact rfl; exact rfl)
    | ((with_reducible apply lm_sAA); exact rfl; exact rfl)
    | ((with_reducible apply lm_sP); exact rfl; exact rfl))
      apply lm_cV
      · refine lm_cal_of (Y := lm_m195) rfl rfl (lm_e195_0 ?_)
        unfold lm_q195_0
        repeat (first
    | ((with_reducible apply lm_nB); exact rfl; exact rfl; (first | exact hz.mono (by decide) | exact (hz.mono (by decide)).u (by decide) | exact ((hz.mono (by decide)).u (by decide)).u (by decide) | exact (((hz.mono (by decide)).u (by decide)).u (by decide)).u (by decide)); simp only [Nat.reduceAdd])
    | ((with_reducible apply lm_nI); exact rfl; exact rfl; (first | exact hz.mono (by decide) | exact (hz.mono (by decide)).u (by decide) | exact ((hz.mono (by decide)).u (by decide)).u (by decide) | exact (((hz.mono (by decide)).u (by decide)).u (by decide)).u (by decide)); simp only [Nat.reduceAdd])
    | ((with_reducible apply lm_nL); exact rfl; exact rfl; (first | exact hz.mono (by decide) | exact (hz.mono (by decide)).u (by decide) | exact ((hz.mono (by decide)).u (by decide)).u (by decide) | exact (((hz.mono (by decide)).u (by decide)).u (by decide)).u (by decide)); simp only [Nat.reduceAdd])
    | ((with_reducible apply lm_nO); exact rfl; exact rfl; exact rfl; (first | exact hz.mono (by decide) | exact (hz.mono (by decide)).u (by decide) | exact ((hz.mono (by decide)).u (by decide)).u (by decide) | exact (((hz.mono (by decide)).u (by decide)).u (by decide)).u (by decide)); simp only [Nat.reduceAdd])
    | ((with_reducible apply lm_nR6); exact rfl; exact rfl; (first | exact hz.mono (by decide) | exact (hz.mono (by decide)).u (by decide) | exact ((hz.mono (by decide)).u (by decide)).u (by decide) | exact (((hz.mono (by decide)).u (by decide)).u (by decide)).u (by decide)); simp only [Nat.reduceAdd])
    | ((with_reducible apply lm_nM); exact rfl; exact rfl; exact rfl; exact rfl; exact rfl; exact rfl; decide +kernel; exact hz.mono (by decide); simp only [Nat.reduceAdd])
    | ((with_reducible apply lm_nR); exact rfl; exact rfl; exact rfl; exact rfl; exact rfl; exact rfl; exact rfl)
    | ((with_reducible apply lm_nS); exact rfl; exact rfl; exact rfl; exact rfl; exact rfl)
    | ((with_reducible apply lm_sI); exact rfl)
    | ((with_reducible apply lm_sR); exact rfl)
    | ((with_reducible apply lm_sS); exact rfl; exact rfl)
    | ((with_reducible apply lm_sAA); exact rfl; exact rfl)
    | ((with_reducible apply lm_sP); exact rfl; exact rfl))
        exact rfl
      repeat (first
    | ((with_reducible apply lm_nB); exact rfl; exact rfl; (first | exact hz.mono (by decide) | exact (hz.mono (by decide)).u (by decide) | exact ((hz.mono (by decide)).u (by decide)).u (by decide) | exact (((hz.mono (by decide)).u (by decide)).u (by decide)).u (by decide)); simp only [Nat.reduceAdd])
    | ((with_reducible apply lm_nI); exact rfl; exact rfl; (first | exact hz.mono (by decide) | exact (hz.mono (by decide)).u (by decide) | exact ((hz.mono (by decide)).u (by decide)).u (by decide) | exact (((hz.mono (by decide)).u (by decide)).u (by decide)).u (by decide)); simp only [Nat.reduceAdd])
    | ((with_reducible apply lm_nL); exact rfl; exact rfl; (first | exact hz.mono (by decide) | exact (hz.mono (by decide)).u (by decide) | exact ((hz.mono (by decide)).u (by decide)).u (by decide) | exact (((hz.mono (by decide)).u (by decide)).u (by decide)).u (by decide)); simp only [Nat.reduceAdd])
    | ((with_reducible apply lm_nO); exact rfl; exact rfl; exact rfl; (first | exact hz.mono (by decide) | exact (hz.mono (by decide)).u (by decide) | exact ((hz.mono (by decide)).u (by decide)).u (by decide) | exact (((hz.mono (by decide)).u (by decide)).u (by decide)).u (by decide)); simp only [Nat.reduceAdd])
    | ((with_reducible apply lm_nR6); exact rfl; exact rfl; (first | exact hz.mono (by decide) | exact (hz.mono (by decide)).u (by decide) | exact ((hz.mono (by decide)).u (by decide)).u (by decide) | exact (((hz.mono (by decide)).u (by decide)).u (by decide)).u (by decide)); simp only [Nat.reduceAdd])
    | ((with_reducible apply lm_nM); exact rfl; exact rfl; exact rfl; exact rfl; exact rfl; exact rfl; decide +kernel; exact hz.mono (by decide); simp only [Nat.reduceAdd])
    | ((with_reducible apply lm_nR); exact rfl; exact rfl; exact rfl; exact rfl; exact rfl; exact rfl; exact rfl)
    | ((with_reducible apply lm_nS); exact rfl; exact rfl; exact rfl; exact rfl; exact rfl)
    | ((with_reducible apply lm_sI); exact rfl)
    | ((with_reducible apply lm_sR); exact rfl)
    | ((with_reducible apply lm_sS); exact rfl; exact rfl)
    | ((with_reducible apply lm_sAA); exact rfl; exact rfl)
    | ((with_reducible apply lm_sP); exact rfl; exact rfl))
      exact rfl
    refine lm_nX rfl ?_
    repeat (first
    | ((with_reducible apply lm_nB); exact rfl; exact rfl; (first | exact hz.mono (by decide) | exact (hz.mono (by decide)).u (by decide) | exact ((hz.mono (by decide)).u (by decide)).u (by decide) | exact (((hz.mono (by decide)).u (by decide)).u (by decide)).u (by decide)); simp only [Nat.reduceAdd])
    | ((with_reducible apply lm_nI); exact rfl; exact rfl; (first | exact hz.mono (by decide) | exact (hz.mono (by decide)).u (by decide) | exact ((hz.mono (by decide)).u (by decide)).u (by decide) | exact (((hz.mono (by decide)).u (by decide)).u (by decide)).u (by decide)); simp only [Nat.reduceAdd])
    | ((with_reducible apply lm_nL); exact rfl; exact rfl; (first | exact hz.mono (by decide) | exact (hz.mono (by decide)).u (by decide) | exact ((hz.mono (by decide)).u (by decide)).u (by decide) | exact (((hz.mono (by decide)).u (by decide)).u (by decide)).u (by decide)); simp only [Nat.reduceAdd])
    | ((with_reducible apply lm_nO); exact rfl; exact rfl; exact rfl; (first | exact hz.mono (by decide) | exact (hz.mono (by decide)).u (by decide) | exact ((hz.mono (by decide)).u (by decide)).u (by decide) | exact (((hz.mono (by decide)).u (by decide)).u (by decide)).u (by decide)); simp only [Nat.reduceAdd])
    | ((with_reducible apply lm_nR6); exact rfl; exact rfl; (first | exact hz.mono (by decide) | exact (hz.mono (by decide)).u (by decide) | exact ((hz.mono (by decide)).u (by decide)).u (by decide) | exact (((hz.mono (by decide)).u (by decide)).u (by decide)).u (by decide)); simp only [Nat.reduceAdd])
    | ((with_reducible apply lm_nM); exact rfl; exact rfl; exact rfl; exact rfl; exact rfl; exact rfl; decide +kernel; exact hz.mono (by decide); simp only [Nat.reduceAdd])
    | ((with_reducible apply lm_nR); exact rfl; exact rfl; exact rfl; exact rfl; exact rfl; exact rfl; exact rfl)
    | ((with_reducible apply lm_nS); exact rfl; exact rfl; exact rfl; exact rfl; exact rfl)
    | ((with_reducible apply lm_sI); exact rfl)
    | ((with_reducible apply lm_sR); exact rfl)
    | ((with_reducible apply lm_sS); exact rfl; exact rfl)
    | ((with_reducible apply lm_sAA); exact rfl; exact rfl)
    | ((with_reducible apply lm_sP); exact rfl; exact rfl))
    apply lm_cV
    · refine lm_cal_of (Y := lm_m124) rfl rfl (lm_e124_0 ?_)
      unfold lm_q124_0
      simp only [lm_K64, lm_K8]
      repeat (first
    | ((with_reducible apply lm_nB); exact rfl; exact rfl; (first | exact hz.mono (by decide) | exact (hz.mono (by decide)).u (by decide) | exact ((hz.mono (by decide)).u (by decide)).u (by decide) | exact (((hz.mono (by decide)).u (by decide)).u (by decide)).u (by decide)); simp only [Nat.reduceAdd])
    | ((with_reducible apply lm_nI); exact rfl; exact rfl; (first | exact hz.mono (by decide) | exact (hz.mono (by decide)).u (by decide) | exact ((hz.mono (by decide)).u (by decide)).u (by decide) | exact (((hz.mono (by decide)).u (by decide)).u (by decide)).u (by decide)); simp only [Nat.reduceAdd])
    | ((with_reducible apply lm_nL); exact rfl; exact rfl; (first | exact hz.mono (by decide) | exact (hz.mono (by decide)).u (by decide) | exact ((hz.mono (by decide)).u (by decide)).u (by decide) | exact (((hz.mono (by decide)).u (by decide)).u (by decide)).u (by decide)); simp only [Nat.reduceAdd])
    | ((with_reducible apply lm_nO); exact rfl; exact rfl; exact rfl; (first | exact hz.mono (by decide) | exact (hz.mono (by decide)).u (by decide) | exact ((hz.mono (by decide)).u (by decide)).u (by decide) | exact (((hz.mono (by decide)).u (by decide)).u (by decide)).u (by decide)); simp only [Nat.reduceAdd])
    | ((with_reducible apply lm_nR6); exact rfl; exact rfl; (first | exact hz.mono (by decide) | exact (hz.mono (by decide)).u (by decide) | exact ((hz.mono (by decide)).u (by decide)).u (by decide) | exact (((hz.mono (by decide)).u (by decide)).u (by decide)).u (by decide)); simp only [Nat.reduceAdd])
    | ((with_reducible apply lm_nM); exact rfl; exact rfl; exact rfl; exact rfl; exact rfl; exact rfl; decide +kernel; exact hz.mono (by decide); simp only [Nat.reduceAdd])
    | ((with_reducible apply lm_nR); exact rfl; exact rfl; exact rfl; exact rfl; exact rfl; exact rfl; exact rfl)
    | ((with_reducible apply lm_nS); exact rfl; exact rfl; exact rfl; exact rfl; exact rfl)
    | ((with_reducible apply lm_sI); exact rfl)
    | ((with_reducible apply lm_sR); exact rfl)
    | ((with_reducible apply lm_sS); exact rfl; exact rfl)
    | ((with_reducible apply lm_sAA); exact rfl; exact rfl)
    | ((with_reducible apply lm_sP); exact rfl; exact rfl))
      apply lm_cV
      · refine lm_cal_of (Y := lm_m195) rfl rfl (lm_e195_0 ?_)
        unfold lm_q195_0
        repeat (first
    | ((with_reducible apply lm_nB); exact rfl; exact rfl; (first | exact hz.mono (by decide) | exact (hz.mono (by decide)).u (by decide) | exact ((hz.mono (by decide)).u (by decide)).u (by decide) | exact (((hz.mono (by decide)).u (by decide)).u (by decide)).u (by decide)); simp only [Nat.reduceAdd])
    | ((with_reducible apply lm_nI); exact rfl; exact rfl; (first | exact hz.mono (by decide) | exact (hz.mono (by decide)).u (by decide) | exact ((hz.mono (by decide)).u (by decide)).u (by decide) | exact (((hz.mono (by decide)).u (by decide)).u (by decide)).u (by decide)); simp only [Nat.reduceAdd])
    | ((with_reducible apply lm_nL); exact rfl; exact rfl; (first | exact hz.mono (by decide) | exact (hz.mono (by decide)).u (by decide) | exact ((hz.mono (by decide)).u (by decide)).u (by decide) | exact (((hz.mono (by decide)).u (by decide)).u (by decide)).u (by decide)); simp only [Nat.reduceAdd])
    | ((with_reducible apply lm_nO); exact rfl; exact rfl; exact rfl; (first | exact hz.mono (by decide) | exact (hz.mono (by decide)).u (by decide) | exact ((hz.mono (by decide)).u (by decide)).u (by decide) | exact (((hz.mono (by decide)).u (by decide)).u (by decide)).u (by decide)); simp only [Nat.reduceAdd])
    | ((with_reducible apply lm_nR6); exact rfl; exact rfl; (first | exact hz.mono (by decide) | exact (hz.mono (by decide)).u (by decide) | exact ((hz.mono (by decide)).u (by decide)).u (by decide) | exact (((hz.mono (by decide)).u (by decide)).u (by decide)).u (by decide)); simp only [Nat.reduceAdd])
    | ((with_reducible apply lm_nM); exact rfl; exact rfl; exact rfl; exact rfl; exact rfl; exact rfl; decide +kernel; exact hz.mono (by decide); simp only [Nat.reduceAdd])
    | ((with_reducible apply lm_nR); exact rfl; exact rfl; exact rfl; exact rfl; exact rfl; exact rfl; exact rfl)
    | ((with_reducible apply lm_nS); exact rfl; exact rfl; exact rfl; exact rfl; exact rfl)
    | ((with_reducible apply lm_sI); exact rfl)
    | ((with_reducible apply lm_sR); exact rfl)
    | ((with_reducible apply lm_sS); exact rfl; exact rfl)
    | ((with_reducible apply lm_sAA); exact rfl; exact rfl)
    | ((with_reducible apply lm_sP); exact rfl; exact rfl))
        exact rfl
      repeat (first
    | ((with_reducible apply lm_nB); exact rfl; exact rfl; (first | exact hz.mono (by decide) | exact (hz.mono (by decide)).u (by decide) | exact ((hz.mono (by decide)).u (by decide)).u (by decide) | exact (((hz.mono (by decide)).u (by decide)).u (by decide)).u (by decide)); simp only [Nat.reduceAdd])
    | ((with_reducible apply lm_nI); exact rfl; exact rfl; (first | exact hz.mono (by decide) | exact (hz.mono (by decide)).u (by decide) | exact ((hz.mono (by decide)).u (by decide)).u (by decide) | exact (((hz.mono (by decide)).u (by decide)).u (by decide)).u (by decide)); simp only [Nat.reduceAdd])
    | ((with_reducible apply lm_nL); exact rfl; exact rfl; (first | exact hz.mono (by decide) | exact (hz.mono (by decide)).u (by decide) | exact ((hz.mono (by decide)).u (by decide)).u (by decide) | exact (((hz.mono (by decide)).u (by decide)).u (by decide)).u (by decide)); simp only [Nat.reduceAdd])
    | ((with_reducible apply lm_nO); exact rfl; exact rfl; exact rfl; (first | exact hz.mono (by decide) | exact (hz.mono (by decide)).u (by decide) | exact ((hz.mono (by decide)).u (by decide)).u (by decide) | exact (((hz.mono (by decide)).u (by decide)).u (by decide)).u (by decide)); simp only [Nat.reduceAdd])
    | ((with_reducible apply lm_nR6); exact rfl; exact rfl; (first | exact hz.mono (by decide) | exact (hz.mono (by decide)).u (by decide) | exact ((hz.mono (by decide)).u (by decide)).u (by decide) | exact (((hz.mono (by decide)).u (by decide)).u (by decide)).u (by decide)); simp only [Nat.reduceAdd])
    | ((with_reducible apply lm_nM); exact rfl; exact rfl; exact rfl; exact rfl; exact rfl; exact rfl; decide +kernel; exact hz.mono (by decide); simp only [Nat.reduceAdd])
    | ((with_reducible apply lm_nR); exact rfl; exact rfl; exact rfl; exact rfl; exact rfl; exact rfl; exact rfl)
    | ((with_reducible apply lm_nS); exact rfl; exact rfl; exact rfl; exact rfl; exact rfl)
    | ((with_reducible apply lm_sI); exact rfl)
    | ((with_reducible apply lm_sR); exact rfl)
    | ((with_reducible apply lm_sS); exact rfl; exact rfl)
    | ((with_reducible apply lm_sAA); exact rfl; exact rfl)
    | ((with_reducible apply lm_sP); exact rfl; exact rfl))
      exact rfl
    refine lm_nX rfl ?_
    repeat (first
    | ((with_reducible apply lm_nB); exact rfl; exact rfl; (first | exact hz.mono (by decide) | exact (hz.mono (by decide)).u (by decide) | exact ((hz.mono (by decide)).u (by decide)).u (by decide) | exact (((hz.mono (by decide)).u (by decide)).u (by decide)).u (by decide)); simp only [Nat.reduceAdd])
    | ((with_reducible apply lm_nI); exact rfl; exact rfl; (first | exact hz.mono (by decide) | exact (hz.mono (by decide)).u (by decide) | exact ((hz.mono (by decide)).u (by decide)).u (by decide) | exact (((hz.mono (by decide)).u (by decide)).u (by decide)).u (by decide)); simp only [Nat.reduceAdd])
    | ((with_reducible apply lm_nL); exact rfl; exact rfl; (first | exact hz.mono (by decide) | exact (hz.mono (by decide)).u (by decide) | exact ((hz.mono (by decide)).u (by decide)).u (by decide) | exact (((hz.mono (by decide)).u (by decide)).u (by decide)).u (by decide)); simp only [Nat.reduceAdd])
    | ((with_reducible apply lm_nO); exact rfl; exact rfl; exact rfl; (first | exact hz.mono (by decide) | exact (hz.mono (by decide)).u (by decide) | exact ((hz.mono (by decide)).u (by decide)).u (by decide) | exact (((hz.mono (by decide)).u (by decide)).u (by decide)).u (by decide)); simp only [Nat.reduceAdd])
    | ((with_reducible apply lm_nR6); exact rfl; exact rfl; (first | exact hz.mono (by decide) | exact (hz.mono (by decide)).u (by decide) | exact ((hz.mono (by decide)).u (by decide)).u (by decide) | exact (((hz.mono (by decide)).u (by decide)).u (by decide)).u (by decide)); simp only [Nat.reduceAdd])
    | ((with_reducible apply lm_nM); exact rfl; exact rfl; exact rfl; exact rfl; exact rfl; exact rfl; decide +kernel; exact hz.mono (by decide); simp only [Nat.reduceAdd])
    | ((with_reducible apply lm_nR); exact rfl; exact rfl; exact rfl; exact rfl; exact rfl; exact rfl; exact rfl)
    | ((with_reducible apply lm_nS); exact rfl; exact rfl; exact rfl; exact rfl; exact rfl)
    | ((with_reducible apply lm_sI); exact rfl)
    | ((with_reducible apply lm_sR); exact rfl)
    | ((with_reducible apply lm_sS); exact rfl; exact rfl)
    | ((with_reducible apply lm_sAA); exact rfl; exact rfl)
    | ((with_reducible apply lm_sP); exact rfl; exact rfl))
    apply lm_cV
    · refine lm_cal_of (Y := lm_m125) rfl rfl (lm_e125_0 ?_)
      unfold lm_q125_0
      simp only [lm_K128, lm_K8, lm_K80]
      repeat (first
    | ((with_reducible apply lm_nB); exact rfl; exact rfl; (first | exact hz.mono (by decide) | exact (hz.mono (by decide)).u (by decide) | exact ((hz.mono (by decide)).u (by decide)).u (by decide) | exact (((hz.mono (by decide)).u (by decide)).u (by decide)).u (by decide)); simp only [Nat.reduceAdd])
    | ((with_reducible apply lm_nI); exact rfl; exact rfl; (first | exact hz.mono (by decide) | exact (hz.mono (by decide)).u (by decide) | exact ((hz.mono (by decide)).u (by decide)).u (by decide) | exact (((hz.mono (by decide)).u (by decide)).u (by decide)).u (by decide)); simp only [Nat.reduceAdd])
    | ((with_reducible apply lm_nL); exact rfl; exact rfl; (first | exact hz.mono (by decide) | exact (hz.mono (by decide)).u (by decide) | exact ((hz.mono (by decide)).u (by decide)).u (by decide) | exact (((hz.mono (by decide)).u (by decide)).u (by decide)).u (by decide)); simp only [Nat.reduceAdd])
    | ((with_reducible apply lm_nO); exact rfl; exact rfl; exact rfl; (first | exact hz.mono (by decide) | exact (hz.mono (by decide)).u (by decide) | exact ((hz.mono (by decide)).u (by decide)).u (by decide) | exact (((hz.mono (by decide)).u (by decide)).u (by decide)).u (by decide)); simp only [Nat.reduceAdd])
    | ((with_reducible apply lm_nR6); exact rfl; exact rfl; (first | exact hz.mono (by decide) | exact (hz.mono (by decide)).u (by decide) | exact ((hz.mono (by decide)).u (by decide)).u (by decide) | exact (((hz.mono (by decide)).u (by decide)).u (by decide)).u (by decide)); simp only [Nat.reduceAdd])
    | ((with_reducible apply lm_nM); exact rfl; exact rfl; exact rfl; exact rfl; exact rfl; exact rfl; decide +kernel; exact hz.mono (by decide); simp only [Nat.reduceAdd])
    | ((with_reducible apply lm_nR); exact rfl; exact rfl; exact rfl; exact rfl; exact rfl; exact rfl; exact rfl)
    | ((with_reducible apply lm_nS); exact rfl; exact rfl; exact rfl; exact rfl; exact rfl)
    | ((with_reducible apply lm_sI); exact rfl)
    | ((with_reducible apply lm_sR); exact rfl)
    | ((with_reducible apply lm_sS); exact rfl; exact rfl)
    | ((with_reducible apply lm_sAA); exact rfl; exact rfl)
    | ((with_reducible apply lm_sP); exact rfl; exact rfl))
      apply lm_cV
      · refine lm_cal_of (Y := lm_m195) rfl rfl (lm_e195_0 ?_)
        unfold lm_q195_0
        repeat (first
    | ((with_reducible apply lm_nB); exact rfl; exact rfl; (first | exact hz.mono (by decide) | exact (hz.mono (by decide)).u (by decide) | exact ((hz.mono (by decide)).u (by decide)).u (by decide) | exact (((hz.mono (by decide)).u (by decide)).u (by decide)).u (by decide)); simp only [Nat.reduceAdd])
    | ((with_reducible apply lm_nI); exact rfl; exact rfl; (first | exact hz.mono (by decide) | exact (hz.mono (by decide)).u (by decide) | exact ((hz.mono (by decide)).u (by decide)).u (by decide) | exact (((hz.mono (by decide)).u (by decide)).u (by decide)).u (by decide)); simp only [Nat.reduceAdd])
    | ((with_reducible apply lm_nL); exact rfl; exact rfl; (first | exact hz.mono (by decide) | exact (hz.mono (by decide)).u (by decide) | exact ((hz.mono (by decide)).u (by decide)).u (by decide) | exact (((hz.mono (by decide)).u (by decide)).u (by decide)).u (by decide)); simp only [Nat.reduceAdd])
    | ((with_reducible apply lm_nO); exact rfl; exact rfl; exact rfl; (first | exact hz.mono (by decide) | exact (hz.mono (by decide)).u (by decide) | exact ((hz.mono (by decide)).u (by decide)).u (by decide) | exact (((hz.mono (by decide)).u (by decide)).u (by decide)).u (by decide)); simp only [Nat.reduceAdd])
    | ((with_reducible apply lm_nR6); exact rfl; exact rfl; (first | exact hz.mono (by decide) | exact (hz.mono (by decide)).u (by decide) | exact ((hz.mono (by decide)).u (by decide)).u (by decide) | exact (((hz.mono (by decide)).u (by decide)).u (by decide)).u (by decide)); simp only [Nat.reduceAdd])
    | ((with_reducible apply lm_nM); exact rfl; exact rfl; exact rfl; exact rfl; exact rfl; exact rfl; decide +kernel; exact hz.mono (by decide); simp only [Nat.reduceAdd])
    | ((with_reducible apply lm_nR); exact rfl; exact rfl; exact rfl; exact rfl; exact rfl; exact rfl; exact rfl)
    | ((with_reducible apply lm_nS); exact rfl; exact rfl; exact rfl; exact rfl; exact rfl)
    | ((with_reducible apply lm_sI); exact rfl)
    | ((with_reducible apply lm_sR); exact rfl)
    | ((with_reducible apply lm_sS); exact rfl; exact rfl)
    | ((with_reducible apply lm_sAA); exact rfl; exact rfl)
    | ((with_reducible apply lm_sP); exact rfl; exact rfl))
        exact rfl
      repeat (first
    | ((with_reducible apply lm_nB); exact rfl; exact rfl; (first | exact hz.mono (by decide) | exact (hz.mono (by decide)).u (by decide) | exact ((hz.mono (by decide)).u (by decide)).u (by decide) | exact (((hz.mono (by decide)).u (by decide)).u (by decide)).u (by decide)); simp only [Nat.reduceAdd])
    | ((with_reducible apply lm_nI); exact rfl; exact rfl; (first | exact hz.mono (by decide) | exact (hz.mono (by decide)).u (by decide) | exact ((hz.mono (by decide)).u (by decide)).u (by decide) | exact (((hz.mono (by decide)).u (by decide)).u (by decide)).u (by decide)); simp only [Nat.reduceAdd])
    | ((with_reducible apply lm_nL); exact rfl; exact rfl; (first | exact hz.mono (by decide) | exact (hz.mono (by decide)).u (by decide) | exact ((hz.mono (by decide)).u (by decide)).u (by decide) | exact (((hz.mono (by decide)).u (by decide)).u (by decide)).u (by decide)); simp only [Nat.reduceAdd])
    | ((with_reducible apply lm_nO); exact rfl; exact rfl; exact rfl; (first | exact hz.mono (by decide) | exact (hz.mono (by decide)).u (by decide) | exact ((hz.mono (by decide)).u (by decide)).u (by decide) | exact (((hz.mono (by decide)).u (by decide)).u (by decide)).u (by decide)); simp only [Nat.reduceAdd])
    | ((with_reducible apply lm_nR6); exact rfl; exact rfl; (first | exact hz.mono (by decide) | exact (hz.mono (by decide)).u (by decide) | exact ((hz.mono (by decide)).u (by decide)).u (by decide) | exact (((hz.mono (by decide)).u (by decide)).u (by decide)).u (by decide)); simp only [Nat.reduceAdd])
    | ((with_reducible apply lm_nM); exact rfl; exact rfl; exact rfl; exact rfl; exact rfl; exact rfl; decide +kernel; exact hz.mono (by decide); simp only [Nat.reduceAdd])
    | ((with_reducible apply lm_nR); exact rfl; exact rfl; exact rfl; exact rfl; exact rfl; exact rfl; exact rfl)
    | ((with_reducible apply lm_nS); exact rfl; exact rfl; exact rfl; exact rfl; exact rfl)
    | ((with_reducible apply lm_sI); exact rfl)
    | ((with_reducible apply lm_sR); exact rfl)
    | ((with_reducible apply lm_sS); exact rfl; exact rfl)
    | ((with_reducible apply lm_sAA); exact rfl; exact rfl)
    | ((with_reducible apply lm_sP); exact rfl; exact rfl))
      exact rfl
    refine lm_nX rfl ?_
    repeat (first
    | ((with_reducible apply lm_nB); exact rfl; exact rfl; (first | exact hz.mono (by decide) | exact (hz.mono (by decide)).u (by decide) | exact ((hz.mono (by decide)).u (by decide)).u (by decide) | exact (((hz.mono (by decide)).u (by decide)).u (by decide)).u (by decide)); simp only [Nat.reduceAdd])
    | ((with_reducible apply lm_nI); exact rfl; exact rfl; (first | exact hz.mono (by decide) | exact (hz.mono (by decide)).u (by decide) | exact ((hz.mono (by decide)).u (by decide)).u (by decide) | exact (((hz.mono (by decide)).u (by decide)).u (by decide)).u (by decide)); simp only [Nat.reduceAdd])
    | ((with_reducible apply lm_nL); exact rfl; exact rfl; (first | exact hz.mono (by decide) | exact (hz.mono (by decide)).u (by decide) | exact ((hz.mono (by decide)).u (by decide)).u (by decide) | exact (((hz.mono (by decide)).u (by decide)).u (by decide)).u (by decide)); simp only [Nat.reduceAdd])
    | ((with_reducible apply lm_nO); exact rfl; exact rfl; exact rfl; (first | exact hz.mono (by decide) | exact (hz.mono (by decide)).u (by decide) | exact ((hz.mono (by decide)).u (by decide)).u (by decide) | exact (((hz.mono (by decide)).u (by decide)).u (by decide)).u (by decide)); simp only [Nat.reduceAdd])
    | ((with_reducible apply lm_nR6); exact rfl; exact rfl; (first | exact hz.mono (by decide) | exact (hz.mono (by decide)).u (by decide) | exact ((hz.mono (by decide)).u (by decide)).u (by decide) | exact (((hz.mono (by decide)).u (by decide)).u (by decide)).u (by decide)); simp only [Nat.reduceAdd])
    | ((with_reducible apply lm_nM); exact rfl; exact rfl; exact rfl; exact rfl; exact rfl; exact rfl; decide +kernel; exact hz.mono (by decide); simp only [Nat.reduceAdd])
    | ((with_reducible apply lm_nR); exact rfl; exact rfl; exact rfl; exact rfl; exact rfl; exact rfl; exact rfl)
    | ((with_reducible apply lm_nS); exact rfl; exact rfl; exact rfl; exact rfl; exact rfl)
    | ((with_reducible apply lm_sI); exact rfl)
    | ((with_reducible apply lm_sR); exact rfl)
    | ((with_reducible apply lm_sS); exact rfl; exact rfl)
    | ((with_reducible apply lm_sAA); exact rfl; exact rfl)
    | ((with_reducible apply lm_sP); exact rfl; exact rfl))
    exact rfl
  refine lm_nX rfl ?_
  repeat (first
    | ((with_reducible apply lm_nB); exact rfl; exact rfl; (first | exact hz.mono (by decide) | exact (hz.mono (by decide)).u (by decide) | exact ((hz.mono (by decide)).u (by decide)).u (by decide) | exact (((hz.mono (by decide)).u (by decide)).u (by decide)).u (by decide)); simp only [Nat.reduceAdd])
    | ((with_reducible apply lm_nI); exact rfl; exact rfl; (first | exact hz.mono (by decide) | exact (hz.mono (by decide)).u (by decide) | exact ((hz.mono (by decide)).u (by decide)).u (by decide) | exact (((hz.mono (by decide)).u (by decide)).u (by decide)).u (by decide)); simp only [Nat.reduceAdd])
    | ((with_reducible apply lm_nL); exact rfl; exact rfl; (first | exact hz.mono (by decide) | exact (hz.mono (by decide)).u (by decide) | exact ((hz.mono (by decide)).u (by decide)).u (by decide) | exact (((hz.mono (by decide)).u (by decide)).u (by decide)).u (by decide)); simp only [Nat.reduceAdd])
    | ((with_reducible apply lm_nO); exact rfl; exact rfl; exact rfl; (first | exact hz.mono (by decide) | exact (hz.mono (by decide)).u (by decide) | exact ((hz.mono (by decide)).u (by decide)).u (by decide) | exact (((hz.mono (by decide)).u (by decide)).u (by decide)).u (by decide)); simp only [Nat.reduceAdd])
    | ((with_reducible apply lm_nR6); exact rfl; exact rfl; (first | exact hz.mono (by decide) | exact (hz.mono (by decide)).u (by decide) | exact ((hz.mono (by decide)).u (by decide)).u (by decide) | exact (((hz.mono (by decide)).u (by decide)).u (by decide)).u (by decide)); simp only [Nat.reduceAdd])
    | ((with_reducible apply lm_nM); exact rfl; exact rfl; exact rfl; exact rfl; exact rfl; exact rfl; decide +kernel; exact hz.mono (by decide); simp only [Nat.reduceAdd])
    | ((with_reducible apply lm_nR); exact rfl; exact rfl; exact rfl; exact rfl; exact rfl; exact rfl; exact rfl)
    | ((with_reducible apply lm_nS); exact rfl; exact rfl; exact rfl; exact rfl; exact rfl)
    | ((with_reducible apply lm_sI); exact rfl)
    | ((with_reducible apply lm_sR); exact rfl)
    | ((with_reducible apply lm_sS); exact rfl; exact rfl)
    | ((with_reducible apply lm_sAA); exact rfl; exact rfl)
    | ((with_reducible apply lm_sP); exact rfl; exact rfl))
  refine lm_nSw rfl ?_
  exact k
theorem lm_mk2_0 {sc : lm_H} {d : Nat} {m : lm_MI} {n : lm_ML} {r : Except Nat lm_R × lm_S} (hz : lm_zr 26 m n) (k : lm_rn sc (d + 4) lm_m0.2.2.2.2.1 (lm_reg lm_m0.2.2.2.2.2) (37, [(0, .ref 0), (1, .int (Int32.ofNat 1))], []) (lm_W 28 [(1, [0]), (0, [2, 1, 0])] m n ([], 599974, 7169937)) = some r) : lm_rn sc (d + 4) lm_m0.2.2.2.2.1 (lm_reg lm_m0.2.2.2.2.2) (37, [(0, .ref 0), (1, .int (Int32.ofNat 0))], []) (lm_W 26 [(1, []), (0, [2, 1, 0])] m n ([], 599976, 7235475)) = some r := by
  refine lm_e0_37 ?_
  unfold lm_q0_37
  simp only [lm_K8, lm_K1, lm_oo]
  refine lm_geF (by decide) (by decide) (by decide) ?_
  repeat (first
    | ((with_reducible apply lm_nB); exact rfl; exact rfl; (first | exact hz.mono (by decide) | exact (hz.mono (by decide)).u (by decide) | exact ((hz.mono (by decide)).u (by decide)).u (by decide) | exact (((hz.mono (by decide)).u (by decide)).u (by decide)).u (by decide)); simp only [Nat.reduceAdd])
    | ((with_reducible apply lm_nI); exact rfl; exact rfl; (first | exact hz.mono (by decide) | exact (hz.mono (by decide)).u (by decide) | exact ((hz.mono (by decide)).u (by decide)).u (by decide) | exact (((hz.mono (by decide)).u (by decide)).u (by decide)).u (by decide)); simp only [Nat.reduceAdd])
    | ((with_reducible apply lm_nL); exact rfl; exact rfl; (first | exact hz.mono (by decide) | exact (hz.mono (by decide)).u (by decide) | exact ((hz.mono (by decide)).u (by decide)).u (by decide) | exact (((hz.mono (by decide)).u (by decide)).u (by decide)).u (by decide)); simp only [Nat.reduceAdd])
    | ((with_reducible apply lm_nO); exact rfl; exact rfl; exact rfl; (first | exact hz.mono (by decide) | exact (hz.mono (by decide)).u (by decide) | exact ((hz.mono (by decide)).u (by decide)).u (by decide) | exact (((hz.mono (by decide)).u (by decide)).u (by decide)).u (by decide)); simp only [Nat.reduceAdd])
    | ((with_reducible apply lm_nR6); exact rfl; exact rfl; (first | exact hz.mono (by decide) | exact (hz.mono (by decide)).u (by decide) | exact ((hz.mono (by decide)).u (by decide)).u (by decide) | exact (((hz.mono (by decide)).u (by decide)).u (by decide)).u (by decide)); simp only [Nat.reduceAdd])
    | ((with_reducible apply lm_nM); exact rfl; exact rfl; exact rfl; exact rfl; exact rfl; exact rfl; decide +kernel; exact hz.mono (by decide); simp only [Nat.reduceAdd])
    | ((with_reducible apply lm_nR); exact rfl; exact rfl; exact rfl; exact rfl; exact rfl; exact rfl; exact rfl)
    | ((with_reducible apply lm_nS); exact rfl; exact rfl; exact rfl; exact rfl; exact rfl)
    | ((with_reducible apply lm_sI); exact rfl)
    | ((with_reducible apply lm_sR); exact rfl)
    | ((with_reducible apply lm_sS); exact rfl; exact rfl)
    | ((with_reducible apply lm_sAA); exact rfl; exact rfl)
    | ((with_reducible apply lm_sP); exact rfl; exact rfl))
  apply lm_cV
  · refine lm_cal_of (Y := lm_m41) rfl rfl (lm_e41_0 ?_)
    unfold lm_q41_0
    simp only [lm_K65536]
    repeat (first
    | ((with_reducible apply lm_nB); exact rfl; exact rfl; (first | exact hz.mono (by decide) | exact (hz.mono (by decide)).u (by decide) | exact ((hz.mono (by decide)).u (by decide)).u (by decide) | exact (((hz.mono (by decide)).u (by decide)).u (by decide)).u (by decide)); simp only [Nat.reduceAdd])
    | ((with_reducible apply lm_nI); exact rfl; exact rfl; (first | exact hz.mono (by decide) | exact (hz.mono (by decide)).u (by decide) | exact ((hz.mono (by decide)).u (by decide)).u (by decide) | exact (((hz.mono (by decide)).u (by decide)).u (by decide)).u (by decide)); simp only [Nat.reduceAdd])
    | ((with_reducible apply lm_nL); exact rfl; exact rfl; (first | exact hz.mono (by decide) | exact (hz.mono (by decide)).u (by decide) | exact ((hz.mono (by decide)).u (by decide)).u (by decide) | exact (((hz.mono (by decide)).u (by decide)).u (by decide)).u (by decide)); simp only [Nat.reduceAdd])
    | ((with_reducible apply lm_nO); exact rfl; exact rfl; exact rfl; (first | exact hz.mono (by decide) | exact (hz.mono (by decide)).u (by decide) | exact ((hz.mono (by decide)).u (by decide)).u (by decide) | exact (((hz.mono (by decide)).u (by decide)).u (by decide)).u (by decide)); simp only [Nat.reduceAdd])
    | ((with_reducible apply lm_nR6); exact rfl; exact rfl; (first | exact hz.mono (by decide) | exact (hz.mono (by decide)).u (by decide) | exact ((hz.mono (by decide)).u (by decide)).u (by decide) | exact (((hz.mono (by decide)).u (by decide)).u (by decide)).u (by decide)); simp only [Nat.reduceAdd])
    | ((with_reducible apply lm_nM); exact rfl; exact rfl; exact rfl; exact rfl; exact rfl; exact rfl; decide +kernel; exact hz.mono (by decide); simp only [Nat.reduceAdd])
    | ((with_reducible apply lm_nR); exact rfl; exact rfl; exact rfl; exact rfl; exact rfl; exact rfl; exact rfl)
    | ((with_reducible apply lm_nS); exact rfl; exact rfl; exact rfl; exact rfl; exact rfl)
    | ((with_reducible apply lm_sI); exact rfl)
    | ((with_reducible apply lm_sR); exact rfl)
    | ((with_reducible apply lm_sS); exact rfl; exact rfl)
    | ((with_reducible apply lm_sAA); exact rfl; exact rfl)
    | ((with_reducible apply lm_sP); exact rfl; exact rfl))
    exact rfl
  refine lm_nX rfl ?_
  repeat (first
    | ((with_reducible apply lm_nB); exact rfl; exact rfl; (first | exact hz.mono (by decide) | exact (hz.mono (by decide)).u (by decide) | exact ((hz.mono (by decide)).u (by decide)).u (by decide) | exact (((hz.mono (by decide)).u (by decide)).u (by decide)).u (by decide)); simp only [Nat.reduceAdd])
    | ((with_reducible apply lm_nI); exact rfl; exact rfl; (first | exact hz.mono (by decide) | exact (hz.mono (by decide)).u (by decide) | exact ((hz.mono (by decide)).u (by decide)).u (by decide) | exact (((hz.mono (by decide)).u (by decide)).u (by decide)).u (by decide)); simp only [Nat.reduceAdd])
    | ((with_reducible apply lm_nL); exact rfl; exact rfl; (first | exact hz.mono (by decide) | exact (hz.mono (by decide)).u (by decide) | exact ((hz.mono (by decide)).u (by decide)).u (by decide) | exact (((hz.mono (by decide)).u (by decide)).u (by decide)).u (by decide)); simp only [Nat.reduceAdd])
    | ((with_reducible apply lm_nO); exact rfl; exact rfl; exact rfl; (first | exact hz.mono (by decide) | exact (hz.mono (by decide)).u (by decide) | exact ((hz.mono (by decide)).u (by decide)).u (by decide) | exact (((hz.mono (by decide)).u (by decide)).u (by decide)).u (by decide)); simp only [Nat.reduceAdd])
    | ((with_reducible apply lm_nR6); exact rfl; exact rfl; (first | exact hz.mono (by decide) | exact (hz.mono (by decide)).u (by decide) | exact ((hz.mono (by decide)).u (by decide)).u (by decide) | exact (((hz.mono (by decide)).u (by decide)).u (by decide)).u (by decide)); simp only [Nat.reduceAdd])
    | ((with_reducible apply lm_nM); exact rfl; exact rfl; exact rfl; exact rfl; exact rfl; exact rfl; decide +kernel; exact hz.mono (by decide); simp only [Nat.reduceAdd])
    | ((with_reducible apply lm_nR); exact rfl; exact rfl; exact rfl; exact rfl; exact rfl; exact rfl; exact rfl)
    | ((with_reducible apply lm_nS); exact rfl; exact rfl; exact rfl; exact rfl; exact rfl)
    | ((with_reducible apply lm_sI); exact rfl)
    | ((with_reducible apply lm_sR); exact rfl)
    | ((with_reducible apply lm_sS); exact rfl; exact rfl)
    | ((with_reducible apply lm_sAA); exact rfl; exact rfl)
    | ((with_reducible apply lm_sP); exact rfl; exact rfl))
  exact k
theorem lm_mk2_1 {sc : lm_H} {d : Nat} {m : lm_MI} {n : lm_ML} {r : Except Nat lm_R × lm_S} (hz : lm_zr 28 m n) (k : lm_rn sc (d + 4) lm_m0.2.2.2.2.1 (lm_reg lm_m0.2.2.2.2.2) (37, [(0, .ref 0), (1, .int (Int32.ofNat 2))], []) (lm_W 30 [(1, [1, 0]), (0, [2, 1, 0])] m n ([], 599972, 7104399)) = some r) : lm_rn sc (d + 4) lm_m0.2.2.2.2.1 (lm_reg lm_m0.2.2.2.2.2) (37, [(0, .ref 0), (1, .int (Int32.ofNat 1))], []) (lm_W 28 [(1, [0]), (0, [2, 1, 0])] m n ([], 599974, 7169937)) = some r := by
  refine lm_e0_37 ?_
  unfold lm_q0_37
  simp only [lm_K8, lm_K1, lm_oo]
  refine lm_geF (by decide) (by decide) (by decide) ?_
  repeat (first
    | ((with_reducible apply lm_nB); exact rfl; exact rfl; (first | exact hz.mono (by decide) | exact (hz.mono (by decide)).u (by decide) | exact ((hz.mono (by decide)).u (by decide)).u (by decide) | exact (((hz.mono (by decide)).u (by decide)).u (by decide)).u (by decide)); simp only [Nat.reduceAdd])
    | ((with_reducible apply lm_nI); exact rfl; exact rfl; (first | exact hz.mono (by decide) | exact (hz.mono (by decide)).u (by decide) | exact ((hz.mono (by decide)).u (by decide)).u (by decide) | exact (((hz.mono (by decide)).u (by decide)).u (by decide)).u (by decide)); simp only [Nat.reduceAdd])
    | ((with_reducible apply lm_nL); exact rfl; exact rfl; (first | exact hz.mono (by decide) | exact (hz.mono (by decide)).u (by decide) | exact ((hz.mono (by decide)).u (by decide)).u (by decide) | exact (((hz.mono (by decide)).u (by decide)).u (by decide)).u (by decide)); simp only [Nat.reduceAdd])
    | ((with_reducible apply lm_nO); exact rfl; exact rfl; exact rfl; (first | exact hz.mono (by decide) | exact (hz.mono (by decide)).u (by decide) | exact ((hz.mono (by decide)).u (by decide)).u (by decide) | exact (((hz.mono (by decide)).u (by decide)).u (by decide)).u (by decide)); simp only [Nat.reduceAdd])
    | ((with_reducible apply lm_nR6); exact rfl; exact rfl; (first | exact hz.mono (by decide) | exact (hz.mono (by decide)).u (by decide) | exact ((hz.mono (by decide)).u (by decide)).u (by decide) | exact (((hz.mono (by decide)).u (by decide)).u (by decide)).u (by decide)); simp only [Nat.reduceAdd])
    | ((with_reducible apply lm_nM); exact rfl; exact rfl; exact rfl; exact rfl; exact rfl; exact rfl; decide +kernel; exact hz.mono (by decide); simp only [Nat.reduceAdd])
    | ((with_reducible apply lm_nR); exact rfl; exact rfl; exact rfl; exact rfl; exact rfl; exact rfl; exact rfl)
    | ((with_reducible apply lm_nS); exact rfl; exact rfl; exact rfl; exact rfl; exact rfl)
    | ((with_reducible apply lm_sI); exact rfl)
    | ((with_reducible apply lm_sR); exact rfl)
    | ((with_reducible apply lm_sS); exact rfl; exact rfl)
    | ((with_reducible apply lm_sAA); exact rfl; exact rfl)
    | ((with_reducible apply lm_sP); exact rfl; exact rfl))
  apply lm_cV
  · refine lm_cal_of (Y := lm_m41) rfl rfl (lm_e41_0 ?_)
    unfold lm_q41_0
    simp only [lm_K65536]
    repeat (first
    | ((with_reducible apply lm_nB); exact rfl; exact rfl; (first | exact hz.mono (by decide) | exact (hz.mono (by decide)).u (by decide) | exact ((hz.mono (by decide)).u (by decide)).u (by decide) | exact (((hz.mono (by decide)).u (by decide)).u (by decide)).u (by decide)); simp only [Nat.reduceAdd])
    | ((with_reducible apply lm_nI); exact rfl; exact rfl; (first | exact hz.mono (by decide) | exact (hz.mono (by decide)).u (by decide) | exact ((hz.mono (by decide)).u (by decide)).u (by decide) | exact (((hz.mono (by decide)).u (by decide)).u (by decide)).u (by decide)); simp only [Nat.reduceAdd])
    | ((with_reducible apply lm_nL); exact rfl; exact rfl; (first | exact hz.mono (by decide) | exact (hz.mono (by decide)).u (by decide) | exact ((hz.mono (by decide)).u (by decide)).u (by decide) | exact (((hz.mono (by decide)).u (by decide)).u (by decide)).u (by decide)); simp only [Nat.reduceAdd])
    | ((with_reducible apply lm_nO); exact rfl; exact rfl; exact rfl; (first | exact hz.mono (by decide) | exact (hz.mono (by decide)).u (by decide) | exact ((hz.mono (by decide)).u (by decide)).u (by decide) | exact (((hz.mono (by decide)).u (by decide)).u (by decide)).u (by decide)); simp only [Nat.reduceAdd])
    | ((with_reducible apply lm_nR6); exact rfl; exact rfl; (first | exact hz.mono (by decide) | exact (hz.mono (by decide)).u (by decide) | exact ((hz.mono (by decide)).u (by decide)).u (by decide) | exact (((hz.mono (by decide)).u (by decide)).u (by decide)).u (by decide)); simp only [Nat.reduceAdd])
    | ((with_reducible apply lm_nM); exact rfl; exact rfl; exact rfl; exact rfl; exact rfl; exact rfl; decide +kernel; exact hz.mono (by decide); simp only [Nat.reduceAdd])
    | ((with_reducible apply lm_nR); exact rfl; exact rfl; exact rfl; exact rfl; exact rfl; exact rfl; exact rfl)
    | ((with_reducible apply lm_nS); exact rfl; exact rfl; exact rfl; exact rfl; exact rfl)
    | ((with_reducible apply lm_sI); exact rfl)
    | ((with_reducible apply lm_sR); exact rfl)
    | ((with_reducible apply lm_sS); exact rfl; exact rfl)
    | ((with_reducible apply lm_sAA); exact rfl; exact rfl)
    | ((with_reducible apply lm_sP); exact rfl; exact rfl))
    exact rfl
  refine lm_nX rfl ?_
  repeat (first
    | ((with_reducible apply lm_nB); exact rfl; exact rfl; (first | exact hz.mono (by decide) | exact (hz.mono (by decide)).u (by decide) | exact ((hz.mono (by decide)).u (by decide)).u (by decide) | exact (((hz.mono (by decide)).u (by decide)).u (by decide)).u (by decide)); simp only [Nat.reduceAdd])
    | ((with_reducible apply lm_nI); exact rfl; exact rfl; (first | exact hz.mono (by decide) | exact (hz.mono (by decide)).u (by decide) | exact ((hz.mono (by decide)).u (by decide)).u (by decide) | exact (((hz.mono (by decide)).u (by decide)).u (by decide)).u (by decide)); simp only [Nat.reduceAdd])
    | ((with_reducible apply lm_nL); exact rfl; exact rfl; (first | exact hz.mono (by decide) | exact (hz.mono (by decide)).u (by decide) | exact ((hz.mono (by decide)).u (by decide)).u (by decide) | exact (((hz.mono (by decide)).u (by decide)).u (by decide)).u (by decide)); simp only [Nat.reduceAdd])
    | ((with_reducible apply lm_nO); exact rfl; exact rfl; exact rfl; (first | exact hz.mono (by decide) | exact (hz.mono (by decide)).u (by decide) | exact ((hz.mono (by decide)).u (by decide)).u (by decide) | exact (((hz.mono (by decide)).u (by decide)).u (by decide)).u (by decide)); simp only [Nat.reduceAdd])
    | ((with_reducible apply lm_nR6); exact rfl; exact rfl; (first | exact hz.mono (by decide) | exact (hz.mono (by decide)).u (by decide) | exact ((hz.mono (by decide)).u (by decide)).u (by decide) | exact (((hz.mono (by decide)).u (by decide)).u (by decide)).u (by decide)); simp only [Nat.reduceAdd])
    | ((with_reducible apply lm_nM); exact rfl; exact rfl; exact rfl; exact rfl; exact rfl; exact rfl; decide +kernel; exact hz.mono (by decide); simp only [Nat.reduceAdd])
    | ((with_reducible apply lm_nR); exact rfl; exact rfl; exact rfl; exact rfl; exact rfl; exact rfl; exact rfl)
    | ((with_reducible apply lm_nS); exact rfl; exact rfl; exact rfl; exact rfl; exact rfl)
    | ((with_reducible apply lm_sI); exact rfl)
    | ((with_reducible apply lm_sR); exact rfl)
    | ((with_reducible apply lm_sS); exact rfl; exact rfl)
    | ((with_reducible apply lm_sAA); exact rfl; exact rfl)
    | ((with_reducible apply lm_sP); exact rfl; exact rfl))
  exact k
theorem lm_mk2_2 {sc : lm_H} {d : Nat} {m : lm_MI} {n : lm_ML} {r : Except Nat lm_R × lm_S} (hz : lm_zr 30 m n) (k : lm_rn sc (d + 4) lm_m0.2.2.2.2.1 (lm_reg lm_m0.2.2.2.2.2) (37, [(0, .ref 0), (1, .int (Int32.ofNat 3))], []) (lm_W 32 [(1, [2, 1, 0]), (0, [2, 1, 0])] m n ([], 599970, 7038861)) = some r) : lm_rn sc (d + 4) lm_m0.2.2.2.2.1 (lm_reg lm_m0.2.2.2.2.2) (37, [(0, .ref 0), (1, .int (Int32.ofNat 2))], []) (lm_W 30 [(1, [1, 0]), (0, [2, 1, 0])] m n ([], 599972, 7104399)) = some r := by
  refine lm_e0_37 ?_
  unfold lm_q0_37
  simp only [lm_K8, lm_K1, lm_oo]
  refine lm_geF (by decide) (by decide) (by decide) ?_
  repeat (first
    | ((with_reducible apply lm_nB); exact rfl; exact rfl; (first | exact hz.mono (by decide) | exact (hz.mono (by decide)).u (by decide) | exact ((hz.mono (by decide)).u (by decide)).u (by decide) | exact (((hz.mono (by decide)).u (by decide)).u (by decide)).u (by decide)); simp only [Nat.reduceAdd])
    | ((with_reducible apply lm_nI); exact rfl; exact rfl; (first | exact hz.mono (by decide) | exact (hz.mono (by decide)).u (by decide) | exact ((hz.mono (by decide)).u (by decide)).u (by decide) | exact (((hz.mono (by decide)).u (by decide)).u (by decide)).u (by decide)); simp only [Nat.reduceAdd])
    | ((with_reducible apply lm_nL); exact rfl; exact rfl; (first | exact hz.mono (by decide) | exact (hz.mono (by decide)).u (by decide) | exact ((hz.mono (by decide)).u (by decide)).u (by decide) | exact (((hz.mono (by decide)).u (by decide)).u (by decide)).u (by decide)); simp only [Nat.reduceAdd])
    | ((with_reducible apply lm_nO); exact rfl; exact rfl; exact rfl; (first | exact hz.mono (by decide) | exact (hz.mono (by decide)).u (by decide) | exact ((hz.mono (by decide)).u (by decide)).u (by decide) | exact (((hz.mono (by decide)).u (by decide)).u (by decide)).u (by decide)); simp only [Nat.reduceAdd])
    | ((with_reducible apply lm_nR6); exact rfl; exact rfl; (first | exact hz.mono (by decide) | exact (hz.mono (by decide)).u (by decide) | exact ((hz.mono (by decide)).u (by decide)).u (by decide) | exact (((hz.mono (by decide)).u (by decide)).u (by decide)).u (by decide)); simp only [Nat.reduceAdd])
    | ((with_reducible apply lm_nM); exact rfl; exact rfl; exact rfl; exact rfl; exact rfl; exact rfl; decide +kernel; exact hz.mono (by decide); simp only [Nat.reduceAdd])
    | ((with_reducible apply lm_nR); exact rfl; exact rfl; exact rfl; exact rfl; exact rfl; exact rfl; exact rfl)
    | ((with_reducible apply lm_nS); exact rfl; exact rfl; exact rfl; exact rfl; exact rfl)
    | ((with_reducible apply lm_sI); exact rfl)
    | ((with_reducible apply lm_sR); exact rfl)
    | ((with_reducible apply lm_sS); exact rfl; exact rfl)
    | ((with_reducible apply lm_sAA); exact rfl; exact rfl)
    | ((with_reducible apply lm_sP); exact rfl; exact rfl))
  apply lm_cV
  · refine lm_cal_of (Y := lm_m41) rfl rfl (lm_e41_0 ?_)
    unfold lm_q41_0
    simp only [lm_K65536]
    repeat (first
    | ((with_reducible apply lm_nB); exact rfl; exact rfl; (first | exact hz.mono (by decide) | exact (hz.mono (by decide)).u (by decide) | exact ((hz.mono (by decide)).u (by decide)).u (by decide) | exact (((hz.mono (by decide)).u (by decide)).u (by decide)).u (by decide)); simp only [Nat.reduceAdd])
    | ((with_reducible apply lm_nI); exact rfl; exact rfl; (first | exact hz.mono (by decide) | exact (hz.mono (by decide)).u (by decide) | exact ((hz.mono (by decide)).u (by decide)).u (by decide) | exact (((hz.mono (by decide)).u (by decide)).u (by decide)).u (by decide)); simp only [Nat.reduceAdd])
    | ((with_reducible apply lm_nL); exact rfl; exact rfl; (first | exact hz.mono (by decide) | exact (hz.mono (by decide)).u (by decide) | exact ((hz.mono (by decide)).u (by decide)).u (by decide) | exact (((hz.mono (by decide)).u (by decide)).u (by decide)).u (by decide)); simp only [Nat.reduceAdd])
    | ((with_reducible apply lm_nO); exact rfl; exact rfl; exact rfl; (first | exact hz.mono (by decide) | exact (hz.mono (by decide)).u (by decide) | exact ((hz.mono (by decide)).u (by decide)).u (by decide) | exact (((hz.mono (by decide)).u (by decide)).u (by decide)).u (by decide)); simp only [Nat.reduceAdd])
    | ((with_reducible apply lm_nR6); exact rfl; exact rfl; (first | exact hz.mono (by decide) | exact (hz.mono (by decide)).u (by decide) | exact ((hz.mono (by decide)).u (by decide)).u (by decide) | exact (((hz.mono (by decide)).u (by decide)).u (by decide)).u (by decide)); simp only [Nat.reduceAdd])
    | ((with_reducible apply lm_nM); exact rfl; exact rfl; exact rfl; exact rfl; exact rfl; exact rfl; decide +kernel; exact hz.mono (by decide); simp only [Nat.reduceAdd])
    | ((with_reducible apply lm_nR); exact rfl; exact rfl; exact rfl; exact rfl; exact rfl; exact rfl; exact rfl)
    | ((with_reducible apply lm_nS); exact rfl; exact rfl; exact rfl; exact rfl; exact rfl)
    | ((with_reducible apply lm_sI); exact rfl)
    | ((with_reducible apply lm_sR); exact rfl)
    | ((with_reducible apply lm_sS); exact rfl; exact rfl)
    | ((with_reducible apply lm_sAA); exact rfl; exact rfl)
    | ((with_reducible apply lm_sP); exact rfl; exact rfl))
    exact rfl
  refine lm_nX rfl ?_
  repeat (first
    | ((with_reducible apply lm_nB); exact rfl; exact rfl; (first | exact hz.mono (by decide) | exact (hz.mono (by decide)).u (by decide) | exact ((hz.mono (by decide)).u (by decide)).u (by decide) | exact (((hz.mono (by decide)).u (by decide)).u (by decide)).u (by decide)); simp only [Nat.reduceAdd])
    | ((with_reducible apply lm_nI); exact rfl; exact rfl; (first | exact hz.mono (by decide) | exact (hz.mono (by decide)).u (by decide) | exact ((hz.mono (by decide)).u (by decide)).u (by decide) | exact (((hz.mono (by decide)).u (by decide)).u (by decide)).u (by decide)); simp only [Nat.reduceAdd])
    | ((with_reducible apply lm_nL); exact rfl; exact rfl; (first | exact hz.mono (by decide) | exact (hz.mono (by decide)).u (by decide) | exact ((hz.mono (by decide)).u (by decide)).u (by decide) | exact (((hz.mono (by decide)).u (by decide)).u (by decide)).u (by decide)); simp only [Nat.reduceAdd])
    | ((with_reducible apply lm_nO); exact rfl; exact rfl; exact rfl; (first | exact hz.mono (by decide) | exact (hz.mono (by decide)).u (by decide) | exact ((hz.mono (by decide)).u (by decide)).u (by decide) | exact (((hz.mono (by decide)).u (by decide)).u (by decide)).u (by decide)); simp only [Nat.reduceAdd])
    | ((with_reducible apply lm_nR6); exact rfl; exact rfl; (first | exact hz.mono (by decide) | exact (hz.mono (by decide)).u (by decide) | exact ((hz.mono (by decide)).u (by decide)).u (by decide) | exact (((hz.mono (by decide)).u (by decide)).u (by decide)).u (by decide)); simp only [Nat.reduceAdd])
    | ((with_reducible apply lm_nM); exact rfl; exact rfl; exact rfl; exact rfl; exact rfl; exact rfl; decide +kernel; exact hz.mono (by decide); simp only [Nat.reduceAdd])
    | ((with_reducible apply lm_nR); exact rfl; exact rfl; exact rfl; exact rfl; exact rfl; exact rfl; exact rfl)
    | ((with_reducible apply lm_nS); exact rfl; exact rfl; exact rfl; exact rfl; exact rfl)
    | ((with_reducible apply lm_sI); exact rfl)
    | ((with_reducible apply lm_sR); exact rfl)
    | ((with_reducible apply lm_sS); exact rfl; exact rfl)
    | ((with_reducible apply lm_sAA); exact rfl; exact rfl)
    | ((with_reducible apply lm_sP); exact rfl; exact rfl))
  exact k
theorem lm_mk2_3 {sc : lm_H} {d : Nat} {m : lm_MI} {n : lm_ML} {r : Except Nat lm_R × lm_S} (hz : lm_zr 32 m n) (k : lm_rn sc (d + 4) lm_m0.2.2.2.2.1 (lm_reg lm_m0.2.2.2.2.2) (37, [(0, .ref 0), (1, .int (Int32.ofNat 4))], []) (lm_W 34 [(1, [3, 2, 1, 0]), (0, [2, 1, 0])] m n ([], 599968, 6973323)) = some r) : lm_rn sc (d + 4) lm_m0.2.2.2.2.1 (lm_reg lm_m0.2.2.2.2.2) (37, [(0, .ref 0), (1, .int (Int32.ofNat 3))], []) (lm_W 32 [(1, [2, 1, 0]), (0, [2, 1, 0])] m n ([], 599970, 7038861)) = some r := by
  refine lm_e0_37 ?_
  unfold lm_q0_37
  simp only [lm_K8, lm_K1, lm_oo]
  refine lm_geF (by decide) (by decide) (by decide) ?_
  repeat (first
    | ((with_reducible apply lm_nB); exact rfl; exact rfl; (first | exact hz.mono (by decide) | exact (hz.mono (by decide)).u (by decide) | exact ((hz.mono (by decide)).u (by decide)).u (by decide) | exact (((hz.mono (by decide)).u (by decide)).u (by decide)).u (by decide)); simp only [Nat.reduceAdd])
    | ((with_reducible apply lm_nI); exact rfl; exact rfl; (first | exact hz.mono (by decide) | exact (hz.mono (by decide)).u (by decide) | exact ((hz.mono (by decide)).u (by decide)).u (by decide) | exact (((hz.mono (by decide)).u (by decide)).u (by decide)).u (by decide)); simp only [Nat.reduceAdd])
    | ((with_reducible apply lm_nL); exact rfl; exact rfl; (first | exact hz.mono (by decide) | exact (hz.mono (by decide)).u (by decide) | exact ((hz.mono (by decide)).u (by decide)).u (by decide) | exact (((hz.mono (by decide)).u (by decide)).u (by decide)).u (by decide)); simp only [Nat.reduceAdd])
    | ((with_reducible apply lm_nO); exact rfl; exact rfl; exact rfl; (first | exact hz.mono (by decide) | exact (hz.mono (by decide)).u (by decide) | exact ((hz.mono (by decide)).u (by decide)).u (by decide) | exact (((hz.mono (by decide)).u (by decide)).u (by decide)).u (by decide)); simp only [Nat.reduceAdd])
    | ((with_reducible apply lm_nR6); exact rfl; exact rfl; (first | exact hz.mono (by decide) | exact (hz.mono (by decide)).u (by decide) | exact ((hz.mono (by decide)).u (by decide)).u (by decide) | exact (((hz.mono (by decide)).u (by decide)).u (by decide)).u (by decide)); simp only [Nat.reduceAdd])
    | ((with_reducible apply lm_nM); exact rfl; exact rfl; exact rfl; exact rfl; exact rfl; exact rfl; decide +kernel; exact hz.mono (by decide); simp only [Nat.reduceAdd])
    | ((with_reducible apply lm_nR); exact rfl; exact rfl; exact rfl; exact rfl; exact rfl; exact rfl; exact rfl)
    | ((with_reducible apply lm_nS); exact rfl; exact rfl; exact rfl; exact rfl; exact rfl)
    | ((with_reducible apply lm_sI); exact rfl)
    | ((with_reducible apply lm_sR); exact rfl)
    | ((with_reducible apply lm_sS); exact rfl; exact rfl)
    | ((with_reducible apply lm_sAA); exact rfl; exact rfl)
    | ((with_reducible apply lm_sP); exact rfl; exact rfl))
  apply lm_cV
  · refine lm_cal_of (Y := lm_m41) rfl rfl (lm_e41_0 ?_)
    unfold lm_q41_0
    simp only [lm_K65536]
    repeat (first
    | ((with_reducible apply lm_nB); exact rfl; exact rfl; (first | exact hz.mono (by decide) | exact (hz.mono (by decide)).u (by decide) | exact ((hz.mono (by decide)).u (by decide)).u (by decide) | exact (((hz.mono (by decide)).u (by decide)).u (by decide)).u (by decide)); simp only [Nat.reduceAdd])
    | ((with_reducible apply lm_nI); exact rfl; exact rfl; (first | exact hz.mono (by decide) | exact (hz.mono (by decide)).u (by decide) | exact ((hz.mono (by decide)).u (by decide)).u (by decide) | exact (((hz.mono (by decide)).u (by decide)).u (by decide)).u (by decide)); simp only [Nat.reduceAdd])
    | ((with_reducible apply lm_nL); exact rfl; exact rfl; (first | exact hz.mono (by decide) | exact (hz.mono (by decide)).u (by decide) | exact ((hz.mono (by decide)).u (by decide)).u (by decide) | exact (((hz.mono (by decide)).u (by decide)).u (by decide)).u (by decide)); simp only [Nat.reduceAdd])
    | ((with_reducible apply lm_nO); exact rfl; exact rfl; exact rfl; (first | exact hz.mono (by decide) | exact (hz.mono (by decide)).u (by decide) | exact ((hz.mono (by decide)).u (by decide)).u (by decide) | exact (((hz.mono (by decide)).u (by decide)).u (by decide)).u (by decide)); simp only [Nat.reduceAdd])
    | ((with_reducible apply lm_nR6); exact rfl; exact rfl; (first | exact hz.mono (by decide) | exact (hz.mono (by decide)).u (by decide) | exact ((hz.mono (by decide)).u (by decide)).u (by decide) | exact (((hz.mono (by decide)).u (by decide)).u (by decide)).u (by decide)); simp only [Nat.reduceAdd])
    | ((with_reducible apply lm_nM); exact rfl; exact rfl; exact rfl; exact rfl; exact rfl; exact rfl; decide +kernel; exact hz.mono (by decide); simp only [Nat.reduceAdd])
    | ((with_reducible apply lm_nR); exact rfl; exact rfl; exact rfl; exact rfl; exact rfl; exact rfl; exact rfl)
    | ((with_reducible apply lm_nS); exact rfl; exact rfl; exact rfl; exact rfl; exact rfl)
    | ((with_reducible apply lm_sI); exact rfl)
    | ((with_reducible apply lm_sR); exact rfl)
    | ((with_reducible apply lm_sS); exact rfl; exact rfl)
    | ((with_reducible apply lm_sAA); exact rfl; exact rfl)
    | ((with_reducible apply lm_sP); exact rfl; exact rfl))
    exact rfl
  refine lm_nX rfl ?_
  repeat (first
    | ((with_reducible apply lm_nB); exact rfl; exact rfl; (first | exact hz.mono (by decide) | exact (hz.mono (by decide)).u (by decide) | exact ((hz.mono (by decide)).u (by decide)).u (by decide) | exact (((hz.mono (by decide)).u (by decide)).u (by decide)).u (by decide)); simp only [Nat.reduceAdd])
    | ((with_reducible apply lm_nI); exact rfl; exact rfl; (first | exact hz.mono (by decide) | exact (hz.mono (by decide)).u (by decide) | exact ((hz.mono (by decide)).u (by decide)).u (by decide) | exact (((hz.mono (by decide)).u (by decide)).u (by decide)).u (by decide)); simp only [Nat.reduceAdd])
    | ((with_reducible apply lm_nL); exact rfl; exact rfl; (first | exact hz.mono (by decide) | exact (hz.mono (by decide)).u (by decide) | exact ((hz.mono (by decide)).u (by decide)).u (by decide) | exact (((hz.mono (by decide)).u (by decide)).u (by decide)).u (by decide)); simp only [Nat.reduceAdd])
    | ((with_reducible apply lm_nO); exact rfl; exact rfl; exact rfl; (first | exact hz.mono (by decide) | exact (hz.mono (by decide)).u (by decide) | exact ((hz.mono (by decide)).u (by decide)).u (by decide) | exact (((hz.mono (by decide)).u (by decide)).u (by decide)).u (by decide)); simp only [Nat.reduceAdd])
    | ((with_reducible apply lm_nR6); exact rfl; exact rfl; (first | exact hz.mono (by decide) | exact (hz.mono (by decide)).u (by decide) | exact ((hz.mono (by decide)).u (by decide)).u (by decide) | exact (((hz.mono (by decide)).u (by decide)).u (by decide)).u (by decide)); simp only [Nat.reduceAdd])
    | ((with_reducible apply lm_nM); exact rfl; exact rfl; exact rfl; exact rfl; exact rfl; exact rfl; decide +kernel; exact hz.mono (by decide); simp only [Nat.reduceAdd])
    | ((with_reducible apply lm_nR); exact rfl; exact rfl; exact rfl; exact rfl; exact rfl; exact rfl; exact rfl)
    | ((with_reducible apply lm_nS); exact rfl; exact rfl; exact rfl; exact rfl; exact rfl)
    | ((with_reducible apply lm_sI); exact rfl)
    | ((with_reducible apply lm_sR); exact rfl)
    | ((with_reducible apply lm_sS); exact rfl; exact rfl)
    | ((with_reducible apply lm_sAA); exact rfl; exact rfl)
    | ((with_reducible apply lm_sP); exact rfl; exact rfl))
  exact k
theorem lm_mk2_4 {sc : lm_H} {d : Nat} {m : lm_MI} {n : lm_ML} {r : Except Nat lm_R × lm_S} (hz : lm_zr 34 m n) (k : lm_rn sc (d + 4) lm_m0.2.2.2.2.1 (lm_reg lm_m0.2.2.2.2.2) (37, [(0, .ref 0), (1, .int (Int32.ofNat 5))], []) (lm_W 36 [(1, [4, 3, 2, 1, 0]), (0, [2, 1, 0])] m n ([], 599966, 6907785)) = some r) : lm_rn sc (d + 4) lm_m0.2.2.2.2.1 (lm_reg lm_m0.2.2.2.2.2) (37, [(0, .ref 0), (1, .int (Int32.ofNat 4))], []) (lm_W 34 [(1, [3, 2, 1, 0]), (0, [2, 1, 0])] m n ([], 599968, 6973323)) = some r := by
  refine lm_e0_37 ?_
  unfold lm_q0_37
  simp only [lm_K8, lm_K1, lm_oo]
  refine lm_geF (by decide) (by decide) (by decide) ?_
  repeat (first
    | ((with_reducible apply lm_nB); exact rfl; exact rfl; (first | exact hz.mono (by decide) | exact (hz.mono (by decide)).u (by decide) | exact ((hz.mono (by decide)).u (by decide)).u (by decide) | exact (((hz.mono (by decide)).u (by decide)).u (by decide)).u (by decide)); simp only [Nat.reduceAdd])
    | ((with_reducible apply lm_nI); exact rfl; exact rfl; (first | exact hz.mono (by decide) | exact (hz.mono (by decide)).u (by decide) | exact ((hz.mono (by decide)).u (by decide)).u (by decide) | exact (((hz.mono (by decide)).u (by decide)).u (by decide)).u (by decide)); simp only [Nat.reduceAdd])
    | ((with_reducible apply lm_nL); exact rfl; exact rfl; (first | exact hz.mono (by decide) | exact (hz.mono (by decide)).u (by decide) | exact ((hz.mono (by decide)).u (by decide)).u (by decide) | exact (((hz.mono (by decide)).u (by decide)).u (by decide)).u (by decide)); simp only [Nat.reduceAdd])
    | ((with_reducible apply lm_nO); exact rfl; exact rfl; exact rfl; (first | exact hz.mono (by decide) | exact (hz.mono (by decide)).u (by decide) | exact ((hz.mono (by decide)).u (by decide)).u (by decide) | exact (((hz.mono (by decide)).u (by decide)).u (by decide)).u (by decide)); simp only [Nat.reduceAdd])
    | ((with_reducible apply lm_nR6); exact rfl; exact rfl; (first | exact hz.mono (by decide) | exact (hz.mono (by decide)).u (by decide) | exact ((hz.mono (by decide)).u (by decide)).u (by decide) | exact (((hz.mono (by decide)).u (by decide)).u (by decide)).u (by decide)); simp only [Nat.reduceAdd])
    | ((with_reducible apply lm_nM); exact rfl; exact rfl; exact rfl; exact rfl; exact rfl; exact rfl; decide +kernel; exact hz.mono (by decide); simp only [Nat.reduceAdd])
    | ((with_reducible apply lm_nR); exact rfl; exact rfl; exact rfl; exact rfl; exact rfl; exact rfl; exact rfl)
    | ((with_reducible apply lm_nS); exact rfl; exact rfl; exact rfl; exact rfl; exact rfl)
    | ((with_reducible apply lm_sI); exact rfl)
    | ((with_reducible apply lm_sR); exact rfl)
    | ((with_reducible apply lm_sS); exact rfl; exact rfl)
    | ((with_reducible apply lm_sAA); exact rfl; exact rfl)
    | ((with_reducible apply lm_sP); exact rfl; exact rfl))
  apply lm_cV
  · refine lm_cal_of (Y := lm_m41) rfl rfl (lm_e41_0 ?_)
    unfold lm_q41_0
    simp only [lm_K65536]
    repeat (first
    | ((with_reducible apply lm_nB); exact rfl; exact rfl; (first | exact hz.mono (by decide) | exact (hz.mono (by decide)).u (by decide) | exact ((hz.mono (by decide)).u (by decide)).u (by decide) | exact (((hz.mono (by decide)).u (by decide)).u (by decide)).u (by decide)); simp only [Nat.reduceAdd])
    | ((with_reducible apply lm_nI); exact rfl; exact rfl; (first | exact hz.mono (by decide) | exact (hz.mono (by decide)).u (by decide) | exact ((hz.mono (by decide)).u (by decide)).u (by decide) | exact (((hz.mono (by decide)).u (by decide)).u (by decide)).u (by decide)); simp only [Nat.reduceAdd])
    | ((with_reducible apply lm_nL); exact rfl; exact rfl; (first | exact hz.mono (by decide) | exact (hz.mono (by decide)).u (by decide) | exact ((hz.mono (by decide)).u (by decide)).u (by decide) | exact (((hz.mono (by decide)).u (by decide)).u (by decide)).u (by decide)); simp only [Nat.reduceAdd])
    | ((with_reducible apply lm_nO); exact rfl; exact rfl; exact rfl; (first | exact hz.mono (by decide) | exact (hz.mono (by decide)).u (by decide) | exact ((hz.mono (by decide)).u (by decide)).u (by decide) | exact (((hz.mono (by decide)).u (by decide)).u (by decide)).u (by decide)); simp only [Nat.reduceAdd])
    | ((with_reducible apply lm_nR6); exact rfl; exact rfl; (first | exact hz.mono (by decide) | exact (hz.mono (by decide)).u (by decide) | exact ((hz.mono (by decide)).u (by decide)).u (by decide) | exact (((hz.mono (by decide)).u (by decide)).u (by decide)).u (by decide)); simp only [Nat.reduceAdd])
    | ((with_reducible apply lm_nM); exact rfl; exact rfl; exact rfl; exact rfl; exact rfl; exact rfl; decide +kernel; exact hz.mono (by decide); simp only [Nat.reduceAdd])
    | ((with_reducible apply lm_nR); exact rfl; exact rfl; exact rfl; exact rfl; exact rfl; exact rfl; exact rfl)
    | ((with_reducible apply lm_nS); exact rfl; exact rfl; exact rfl; exact rfl; exact rfl)
    | ((with_reducible apply lm_sI); exact rfl)
    | ((with_reducible apply lm_sR); exact rfl)
    | ((with_reducible apply lm_sS); exact rfl; exact rfl)
    | ((with_reducible apply lm_sAA); exact rfl; exact rfl)
    | ((with_reducible apply lm_sP); exact rfl; exact rfl))
    exact rfl
  refine lm_nX rfl ?_
  repeat (first
    | ((with_reducible apply lm_nB); exact rfl; exact rfl; (first | exact hz.mono (by decide) | exact (hz.mono (by decide)).u (by decide) | exact ((hz.mono (by decide)).u (by decide)).u (by decide) | exact (((hz.mono (by decide)).u (by decide)).u (by decide)).u (by decide)); simp only [Nat.reduceAdd])
    | ((with_reducible apply lm_nI); exact rfl; exact rfl; (first | exact hz.mono (by decide) | exact (hz.mono (by decide)).u (by decide) | exact ((hz.mono (by decide)).u (by decide)).u (by decide) | exact (((hz.mono (by decide)).u (by decide)).u (by decide)).u (by decide)); simp only [Nat.reduceAdd])
    | ((with_reducible apply lm_nL); exact rfl; exact rfl; (first | exact hz.mono (by decide) | exact (hz.mono (by decide)).u (by decide) | exact ((hz.mono (by decide)).u (by decide)).u (by decide) | exact (((hz.mono (by decide)).u (by decide)).u (by decide)).u (by decide)); simp only [Nat.reduceAdd])
    | ((with_reducible apply lm_nO); exact rfl; exact rfl; exact rfl; (first | exact hz.mono (by decide) | exact (hz.mono (by decide)).u (by decide) | exact ((hz.mono (by decide)).u (by decide)).u (by decide) | exact (((hz.mono (by decide)).u (by decide)).u (by decide)).u (by decide)); simp only [Nat.reduceAdd])
    | ((with_reducible apply lm_nR6); exact rfl; exact rfl; (first | exact hz.mono (by decide) | exact (hz.mono (by decide)).u (by decide) | exact ((hz.mono (by decide)).u (by decide)).u (by decide) | exact (((hz.mono (by decide)).u (by decide)).u (by decide)).u (by decide)); simp only [Nat.reduceAdd])
    | ((with_reducible apply lm_nM); exact rfl; exact rfl; exact rfl; exact rfl; exact rfl; exact rfl; decide +kernel; exact hz.mono (by decide); simp only [Nat.reduceAdd])
    | ((with_reducible apply lm_nR); exact rfl; exact rfl; exact rfl; exact rfl; exact rfl; exact rfl; exact rfl)
    | ((with_reducible apply lm_nS); exact rfl; exact rfl; exact rfl; exact rfl; exact rfl)
    | ((with_reducible apply lm_sI); exact rfl)
    | ((with_reducible apply lm_sR); exact rfl)
    | ((with_reducible apply lm_sS); exact rfl; exact rfl)
    | ((with_reducible apply lm_sAA); exact rfl; exact rfl)
    | ((with_reducible apply lm_sP); exact rfl; exact rfl))
  exact k
theorem lm_mk2_5 {sc : lm_H} {d : Nat} {m : lm_MI} {n : lm_ML} {r : Except Nat lm_R × lm_S} (hz : lm_zr 36 m n) (k : lm_rn sc (d + 4) lm_m0.2.2.2.2.1 (lm_reg lm_m0.2.2.2.2.2) (37, [(0, .ref 0), (1, .int (Int32.ofNat 6))], []) (lm_W 38 [(1, [5, 4, 3, 2, 1, 0]), (0, [2, 1, 0])] m n ([], 599964, 6842247)) = some r) : lm_rn sc (d + 4) lm_m0.2.2.2.2.1 (lm_reg lm_m0.2.2.2.2.2) (37, [(0, .ref 0), (1, .int (Int32.ofNat 5))], []) (lm_W 36 [(1, [4, 3, 2, 1, 0]), (0, [2, 1, 0])] m n ([], 599966, 6907785)) = some r := by
  refine lm_e0_37 ?_
  unfold lm_q0_37
  simp only [lm_K8, lm_K1, lm_oo]
  refine lm_geF (by decide) (by decide) (by decide) ?_
  repeat (first
    | ((with_reducible apply lm_nB); exact rfl; exact rfl; (first | exact hz.mono (by decide) | exact (hz.mono (by decide)).u (by decide) | exact ((hz.mono (by decide)).u (by decide)).u (by decide) | exact (((hz.mono (by decide)).u (by decide)).u (by decide)).u (by decide)); simp only [Nat.reduceAdd])
    | ((with_reducible apply lm_nI); exact rfl; exact rfl; (first | exact hz.mono (by decide) | exact (hz.mono (by decide)).u (by decide) | exact ((hz.mono (by decide)).u (by decide)).u (by decide) | exact (((hz.mono (by decide)).u (by decide)).u (by decide)).u (by decide)); simp only [Nat.reduceAdd])
    | ((with_reducible apply lm_nL); exact rfl; exact rfl; (first | exact hz.mono (by decide) | exact (hz.mono (by decide)).u (by decide) | exact ((hz.mono (by decide)).u (by decide)).u (by decide) | exact (((hz.mono (by decide)).u (by decide)).u (by decide)).u (by decide)); simp only [Nat.reduceAdd])
    | ((with_reducible apply lm_nO); exact rfl; exact rfl; exact rfl; (first | exact hz.mono (by decide) | exact (hz.mono (by decide)).u (by decide) | exact ((hz.mono (by decide)).u (by decide)).u (by decide) | exact (((hz.mono (by decide)).u (by decide)).u (by decide)).u (by decide)); simp only [Nat.reduceAdd])
    | ((with_reducible apply lm_nR6); exact rfl; exact rfl; (first | exact hz.mono (by decide) | exact (hz.mono (by decide)).u (by decide) | exact ((hz.mono (by decide)).u (by decide)).u (by decide) | exact (((hz.mono (by decide)).u (by decide)).u (by decide)).u (by decide)); simp only [Nat.reduceAdd])
    | ((with_reducible apply lm_nM); exact rfl; exact rfl; exact rfl; exact rfl; exact rfl; exact rfl; decide +kernel; exact hz.mono (by decide); simp only [Nat.reduceAdd])
    | ((with_reducible apply lm_nR); exact rfl; exact rfl; exact rfl; exact rfl; exact rfl; exact rfl; exact rfl)
    | ((with_reducible apply lm_nS); exact rfl; exact rfl; exact rfl; exact rfl; exact rfl)
    | ((with_reducible apply lm_sI); exact rfl)
    | ((with_reducible apply lm_sR); exact rfl)
    | ((with_reducible apply lm_sS); exact rfl; exact rfl)
    | ((with_reducible apply lm_sAA); exact rfl; exact rfl)
    | ((with_reducible apply lm_sP); exact rfl; exact rfl))
  apply lm_cV
  · refine lm_cal_of (Y := lm_m41) rfl rfl (lm_e41_0 ?_)
    unfold lm_q41_0
    simp only [lm_K65536]
    repeat (first
    | ((with_reducible apply lm_nB); exact rfl; exact rfl; (first | exact hz.mono (by decide) | exact (hz.mono (by decide)).u (by decide) | exact ((hz.mono (by decide)).u (by decide)).u (by decide) | exact (((hz.mono (by decide)).u (by decide)).u (by decide)).u (by decide)); simp only [Nat.reduceAdd])
    | ((with_reducible apply lm_nI); exact rfl; exact rfl; (first | exact hz.mono (by decide) | exact (hz.mono (by decide)).u (by decide) | exact ((hz.mono (by decide)).u (by decide)).u (by decide) | exact (((hz.mono (by decide)).u (by decide)).u (by decide)).u (by decide)); simp only [Nat.reduceAdd])
    | ((with_reducible apply lm_nL); exact rfl; exact rfl; (first | exact hz.mono (by decide) | exact (hz.mono (by decide)).u (by decide) | exact ((hz.mono (by decide)).u (by decide)).u (by decide) | exact (((hz.mono (by decide)).u (by decide)).u (by decide)).u (by decide)); simp only [Nat.reduceAdd])
    | ((with_reducible apply lm_nO); exact rfl; exact rfl; exact rfl; (first | exact hz.mono (by decide) | exact (hz.mono (by decide)).u (by decide) | exact ((hz.mono (by decide)).u (by decide)).u (by decide) | exact (((hz.mono (by decide)).u (by decide)).u (by decide)).u (by decide)); simp only [Nat.reduceAdd])
    | ((with_reducible apply lm_nR6); exact rfl; exact rfl; (first | exact hz.mono (by decide) | exact (hz.mono (by decide)).u (by decide) | exact ((hz.mono (by decide)).u (by decide)).u (by decide) | exact (((hz.mono (by decide)).u (by decide)).u (by decide)).u (by decide)); simp only [Nat.reduceAdd])
    | ((with_reducible apply lm_nM); exact rfl; exact rfl; exact rfl; exact rfl; exact rfl; exact rfl; decide +kernel; exact hz.mono (by decide); simp only [Nat.reduceAdd])
    | ((with_reducible apply lm_nR); exact rfl; exact rfl; exact rfl; exact rfl; exact rfl; exact rfl; exact rfl)
    | ((with_reducible apply lm_nS); exact rfl; exact rfl; exact rfl; exact rfl; exact rfl)
    | ((with_reducible apply lm_sI); exact rfl)
    | ((with_reducible apply lm_sR); exact rfl)
    | ((with_reducible apply lm_sS); exact rfl; exact rfl)
    | ((with_reducible apply lm_sAA); exact rfl; exact rfl)
    | ((with_reducible apply lm_sP); exact rfl; exact rfl))
    exact rfl
  refine lm_nX rfl ?_
  repeat (first
    | ((with_reducible apply lm_nB); exact rfl; exact rfl; (first | exact hz.mono (by decide) | exact (hz.mono (by decide)).u (by decide) | exact ((hz.mono (by decide)).u (by decide)).u (by decide) | exact (((hz.mono (by decide)).u (by decide)).u (by decide)).u (by decide)); simp only [Nat.reduceAdd])
    | ((with_reducible apply lm_nI); exact rfl; exact rfl; (first | exact hz.mono (by decide) | exact (hz.mono (by decide)).u (by decide) | exact ((hz.mono (by decide)).u (by decide)).u (by decide) | exact (((hz.mono (by decide)).u (by decide)).u (by decide)).u (by decide)); simp only [Nat.reduceAdd])
    | ((with_reducible apply lm_nL); exact rfl; exact rfl; (first | exact hz.mono (by decide) | exact (hz.mono (by decide)).u (by decide) | exact ((hz.mono (by decide)).u (by decide)).u (by decide) | exact (((hz.mono (by decide)).u (by decide)).u (by decide)).u (by decide)); simp only [Nat.reduceAdd])
    | ((with_reducible apply lm_nO); exact rfl; exact rfl; exact rfl; (first | exact hz.mono (by decide) | exact (hz.mono (by decide)).u (by decide) | exact ((hz.mono (by decide)).u (by decide)).u (by decide) | exact (((hz.mono (by decide)).u (by decide)).u (by decide)).u (by decide)); simp only [Nat.reduceAdd])
    | ((with_reducible apply lm_nR6); exact rfl; exact rfl; (first | exact hz.mono (by decide) | exact (hz.mono (by decide)).u (by decide) | exact ((hz.mono (by decide)).u (by decide)).u (by decide) | exact (((hz.mono (by decide)).u (by decide)).u (by decide)).u (by decide)); simp only [Nat.reduceAdd])
    | ((with_reducible apply lm_nM); exact rfl; exact rfl; exact rfl; exact rfl; exact rfl; exact rfl; decide +kernel; exact hz.mono (by decide); simp only [Nat.reduceAdd])
    | ((with_reducible apply lm_nR); exact rfl; exact rfl; exact rfl; exact rfl; exact rfl; exact rfl; exact rfl)
    | ((with_reducible apply lm_nS); exact rfl; exact rfl; exact rfl; exact rfl; exact rfl)
    | ((with_reducible apply lm_sI); exact rfl)
    | ((with_reducible apply lm_sR); exact rfl)
    | ((with_reducible apply lm_sS); exact rfl; exact rfl)
    | ((with_reducible apply lm_sAA); exact rfl; exact rfl)
    | ((with_reducible apply lm_sP); exact rfl; exact rfl))
  exact k
theorem lm_mk2_6 {sc : lm_H} {d : Nat} {m : lm_MI} {n : lm_ML} {r : Except Nat lm_R × lm_S} (hz : lm_zr 38 m n) (k : lm_rn sc (d + 4) lm_m0.2.2.2.2.1 (lm_reg lm_m0.2.2.2.2.2) (37, [(0, .ref 0), (1, .int (Int32.ofNat 7))], []) (lm_W 40 [(1, [6, 5, 4, 3, 2, 1, 0]), (0, [2, 1, 0])] m n ([], 599962, 6776709)) = some r) : lm_rn sc (d + 4) lm_m0.2.2.2.2.1 (lm_reg lm_m0.2.2.2.2.2) (37, [(0, .ref 0), (1, .int (Int32.ofNat 6))], []) (lm_W 38 [(1, [5, 4, 3, 2, 1, 0]), (0, [2, 1, 0])] m n ([], 599964, 6842247)) = some r := by
  refine lm_e0_37 ?_
  unfold lm_q0_37
  simp only [lm_K8, lm_K1, lm_oo]
  refine lm_geF (by decide) (by decide) (by decide) ?_
  repeat (first
    | ((with_reducible apply lm_nB); exact rfl; exact rfl; (first | exact hz.mono (by decide) | exact (hz.mono (by decide)).u (by decide) | exact ((hz.mono (by decide)).u (by decide)).u (by decide) | exact (((hz.mono (by decide)).u (by decide)).u (by decide)).u (by decide)); simp only [Nat.reduceAdd])
    | ((with_reducible apply lm_nI); exact rfl; exact rfl; (first | exact hz.mono (by decide) | exact (hz.mono (by decide)).u (by decide) | exact ((hz.mono (by decide)).u (by decide)).u (by decide) | exact (((hz.mono (by decide)).u (by decide)).u (by decide)).u (by decide)); simp only [Nat.reduceAdd])
    | ((with_reducible apply lm_nL); exact rfl; exact rfl; (first | exact hz.mono (by decide) | exact (hz.mono (by decide)).u (by decide) | exact ((hz.mono (by decide)).u (by decide)).u (by decide) | exact (((hz.mono (by decide)).u (by decide)).u (by decide)).u (by decide)); simp only [Nat.reduceAdd])
    | ((with_reducible apply lm_nO); exact rfl; exact rfl; exact rfl; (first | exact hz.mono (by decide) | exact (hz.mono (by decide)).u (by decide) | exact ((hz.mono (by decide)).u (by decide)).u (by decide) | exact (((hz.mono (by decide)).u (by decide)).u (by decide)).u (by decide)); simp only [Nat.reduceAdd])
    | ((with_reducible apply lm_nR6); exact rfl; exact rfl; (first | exact hz.mono (by decide) | exact (hz.mono (by decide)).u (by decide) | exact ((hz.mono (by decide)).u (by decide)).u (by decide) | exact (((hz.mono (by decide)).u (by decide)).u (by decide)).u (by decide)); simp only [Nat.reduceAdd])
    | ((with_reducible apply lm_nM); exact rfl; exact rfl; exact rfl; exact rfl; exact rfl; exact rfl; decide +kernel; exact hz.mono (by decide); simp only [Nat.reduceAdd])
    | ((with_reducible apply lm_nR); exact rfl; exact rfl; exact rfl; exact rfl; exact rfl; exact rfl; exact rfl)
    | ((with_reducible apply lm_nS); exact rfl; exact rfl; exact rfl; exact rfl; exact rfl)
    | ((with_reducible apply lm_sI); exact rfl)
    | ((with_reducible apply lm_sR); exact rfl)
    | ((with_reducible apply lm_sS); exact rfl; exact rfl)
    | ((with_reducible apply lm_sAA); exact rfl; exact rfl)
    | ((with_reducible apply lm_sP); exact rfl; exact rfl))
  apply lm_cV
  · refine lm_cal_of (Y := lm_m41) rfl rfl (lm_e41_0 ?_)
    unfold lm_q41_0
    simp only [lm_K65536]
    repeat (first
    | ((with_reducible apply lm_nB); exact rfl; exact rfl; (first | exact hz.mono (by decide) | exact (hz.mono (by decide)).u (by decide) | exact ((hz.mono (by decide)).u (by decide)).u (by decide) | exact (((hz.mono (by decide)).u (by decide)).u (by decide)).u (by decide)); simp only [Nat.reduceAdd])
    | ((with_reducible apply lm_nI); exact rfl; exact rfl; (first | exact hz.mono (by decide) | exact (hz.mono (by decide)).u (by decide) | exact ((hz.mono (by decide)).u (by decide)).u (by decide) | exact (((hz.mono (by decide)).u (by decide)).u (by decide)).u (by decide)); simp only [Nat.reduceAdd])
    | ((with_reducible apply lm_nL); exact rfl; exact rfl; (first | exact hz.mono (by decide) | exact (hz.mono (by decide)).u (by decide) | exact ((hz.mono (by decide)).u (by decide)).u (by decide) | exact (((hz.mono (by decide)).u (by decide)).u (by decide)).u (by decide)); simp only [Nat.reduceAdd])
    | ((with_reducible apply lm_nO); exact rfl; exact rfl; exact rfl; (first | exact hz.mono (by decide) | exact (hz.mono (by decide)).u (by decide) | exact ((hz.mono (by decide)).u (by decide)).u (by decide) | exact (((hz.mono (by decide)).u (by decide)).u (by decide)).u (by decide)); simp only [Nat.reduceAdd])
    | ((with_reducible apply lm_nR6); exact rfl; exact rfl; (first | exact hz.mono (by decide) | exact (hz.mono (by decide)).u (by decide) | exact ((hz.mono (by decide)).u (by decide)).u (by decide) | exact (((hz.mono (by decide)).u (by decide)).u (by decide)).u (by decide)); simp only [Nat.reduceAdd])
    | ((with_reducible apply lm_nM); exact rfl; exact rfl; exact rfl; exact rfl; exact rfl; exact rfl; decide +kernel; exact hz.mono (by decide); simp only [Nat.reduceAdd])
    | ((with_reducible apply lm_nR); exact rfl; exact rfl; exact rfl; exact rfl; exact rfl; exact rfl; exact rfl)
    | ((with_reducible apply lm_nS); exact rfl; exact rfl; exact rfl; exact rfl; exact rfl)
    | ((with_reducible apply lm_sI); exact rfl)
    | ((with_reducible apply lm_sR); exact rfl)
    | ((with_reducible apply lm_sS); exact rfl; exact rfl)
    | ((with_reducible apply lm_sAA); exact rfl; exact rfl)
    | ((with_reducible apply lm_sP); exact rfl; exact rfl))
    exact rfl
  refine lm_nX rfl ?_
  repeat (first
    | ((with_reducible apply lm_nB); exact rfl; exact rfl; (first | exact hz.mono (by decide) | exact (hz.mono (by decide)).u (by decide) | exact ((hz.mono (by decide)).u (by decide)).u (by decide) | exact (((hz.mono (by decide)).u (by decide)).u (by decide)).u (by decide)); simp only [Nat.reduceAdd])
    | ((with_reducible apply lm_nI); exact rfl; exact rfl; (first | exact hz.mono (by decide) | exact (hz.mono (by decide)).u (by decide) | exact ((hz.mono (by decide)).u (by decide)).u (by decide) | exact (((hz.mono (by decide)).u (by decide)).u (by decide)).u (by decide)); simp only [Nat.reduceAdd])
    | ((with_reducible apply lm_nL); exact rfl; exact rfl; (first | exact hz.mono (by decide) | exact (hz.mono (by decide)).u (by decide) | exact ((hz.mono (by decide)).u (by decide)).u (by decide) | exact (((hz.mono (by decide)).u (by decide)).u (by decide)).u (by decide)); simp only [Nat.reduceAdd])
    | ((with_reducible apply lm_nO); exact rfl; exact rfl; exact rfl; (first | exact hz.mono (by decide) | exact (hz.mono (by decide)).u (by decide) | exact ((hz.mono (by decide)).u (by decide)).u (by decide) | exact (((hz.mono (by decide)).u (by decide)).u (by decide)).u (by decide)); simp only [Nat.reduceAdd])
    | ((with_reducible apply lm_nR6); exact rfl; exact rfl; (first | exact hz.mono (by decide) | exact (hz.mono (by decide)).u (by decide) | exact ((hz.mono (by decide)).u (by decide)).u (by decide) | exact (((hz.mono (by decide)).u (by decide)).u (by decide)).u (by decide)); simp only [Nat.reduceAdd])
    | ((with_reducible apply lm_nM); exact rfl; exact rfl; exact rfl; exact rfl; exact rfl; exact rfl; decide +kernel; exact hz.mono (by decide); simp only [Nat.reduceAdd])
    | ((with_reducible apply lm_nR); exact rfl; exact rfl; exact rfl; exact rfl; exact rfl; exact rfl; exact rfl)
    | ((with_reducible apply lm_nS); exact rfl; exact rfl; exact rfl; exact rfl; exact rfl)
    | ((with_reducible apply lm_sI); exact rfl)
    | ((with_reducible apply lm_sR); exact rfl)
    | ((with_reducible apply lm_sS); exact rfl; exact rfl)
    | ((with_reducible apply lm_sAA); exact rfl; exact rfl)
    | ((with_reducible apply lm_sP); exact rfl; exact rfl))
  exact k
theorem lm_mk2_7 {sc : lm_H} {d : Nat} {m : lm_MI} {n : lm_ML} {r : Except Nat lm_R × lm_S} (hz : lm_zr 40 m n) (k : lm_rn sc (d + 4) lm_m0.2.2.2.2.1 (lm_reg lm_m0.2.2.2.2.2) (37, [(0, .ref 0), (1, .int (Int32.ofNat 8))], []) (lm_W 42 [(1, [7, 6, 5, 4, 3, 2, 1, 0]), (0, [2, 1, 0])] m n ([], 599960, 6711171)) = some r) : lm_rn sc (d + 4) lm_m0.2.2.2.2.1 (lm_reg lm_m0.2.2.2.2.2) (37, [(0, .ref 0), (1, .int (Int32.ofNat 7))], []) (lm_W 40 [(1, [6, 5, 4, 3, 2, 1, 0]), (0, [2, 1, 0])] m n ([], 599962, 6776709)) = some r := by
  refine lm_e0_37 ?_
  unfold lm_q0_37
  simp only [lm_K8, lm_K1, lm_oo]
  refine lm_geF (by decide) (by decide) (by decide) ?_
  repeat (first
    | ((with_reducible apply lm_nB); exact rfl; exact rfl; (first | exact hz.mono (by decide) | exact (hz.mono (by decide)).u (by decide) | exact ((hz.mono (by decide)).u (by decide)).u (by decide) | exact (((hz.mono (by decide)).u (by decide)).u (by decide)).u (by decide)); simp only [Nat.reduceAdd])
    | ((with_reducible apply lm_nI); exact rfl; exact rfl; (first | exact hz.mono (by decide) | exact (hz.mono (by decide)).u (by decide) | exact ((hz.mono (by decide)).u (by decide)).u (by decide) | exact (((hz.mono (by decide)).u (by decide)).u (by decide)).u (by decide)); simp only [Nat.reduceAdd])
    | ((with_reducible apply lm_nL); exact rfl; exact rfl; (first | exact hz.mono (by decide) | exact (hz.mono (by decide)).u (by decide) | exact ((hz.mono (by decide)).u (by decide)).u (by decide) | exact (((hz.mono (by decide)).u (by decide)).u (by decide)).u (by decide)); simp only [Nat.reduceAdd])
    | ((with_reducible apply lm_nO); exact rfl; exact rfl; exact rfl; (first | exact hz.mono (by decide) | exact (hz.mono (by decide)).u (by decide) | exact ((hz.mono (by decide)).u (by decide)).u (by decide) | exact (((hz.mono (by decide)).u (by decide)).u (by decide)).u (by decide)); simp only [Nat.reduceAdd])
    | ((with_reducible apply lm_nR6); exact rfl; exact rfl; (first | exact hz.mono (by decide) | exact (hz.mono (by decide)).u (by decide) | exact ((hz.mono (by decide)).u (by decide)).u (by decide) | exact (((hz.mono (by decide)).u (by decide)).u (by decide)).u (by decide)); simp only [Nat.reduceAdd])
    | ((with_reducible apply lm_nM); exact rfl; exact rfl; exact rfl; exact rfl; exact rfl; exact rfl; decide +kernel; exact hz.mono (by decide); simp only [Nat.reduceAdd])
    | ((with_reducible apply lm_nR); exact rfl; exact rfl; exact rfl; exact rfl; exact rfl; exact rfl; exact rfl)
    | ((with_reducible apply lm_nS); exact rfl; exact rfl; exact rfl; exact rfl; exact rfl)
    | ((with_reducible apply lm_sI); exact rfl)
    | ((with_reducible apply lm_sR); exact rfl)
    | ((with_reducible apply lm_sS); exact rfl; exact rfl)
    | ((with_reducible apply lm_sAA); exact rfl; exact rfl)
    | ((with_reducible apply lm_sP); exact rfl; exact rfl))
  apply lm_cV
  · refine lm_cal_of (Y := lm_m41) rfl rfl (lm_e41_0 ?_)
    unfold lm_q41_0
    simp only [lm_K65536]
    repeat (first
    | ((with_reducible apply lm_nB); exact rfl; exact rfl; (first | exact hz.mono (by decide) | exact (hz.mono (by decide)).u (by decide) | exact ((hz.mono (by decide)).u (by decide)).u (by decide) | exact (((hz.mono (by decide)).u (by decide)).u (by decide)).u (by decide)); simp only [Nat.reduceAdd])
    | ((with_reducible apply lm_nI); exact rfl; exact rfl; (first | exact hz.mono (by decide) | exact (hz.mono (by decide)).u (by decide) | exact ((hz.mono (by decide)).u (by decide)).u (by decide) | exact (((hz.mono (by decide)).u (by decide)).u (by decide)).u (by decide)); simp only [Nat.reduceAdd])
    | ((with_reducible apply lm_nL); exact rfl; exact rfl; (first | exact hz.mono (by decide) | exact (hz.mono (by decide)).u (by decide) | exact ((hz.mono (by decide)).u (by decide)).u (by decide) | exact (((hz.mono (by decide)).u (by decide)).u (by decide)).u (by decide)); simp only [Nat.reduceAdd])
    | ((with_reducible apply lm_nO); exact rfl; exact rfl; exact rfl; (first | exact hz.mono (by decide) | exact (hz.mono (by decide)).u (by decide) | exact ((hz.mono (by decide)).u (by decide)).u (by decide) | exact (((hz.mono (by decide)).u (by decide)).u (by decide)).u (by decide)); simp only [Nat.reduceAdd])
    | ((with_reducible apply lm_nR6); exact rfl; exact rfl; (first | exact hz.mono (by decide) | exact (hz.mono (by decide)).u (by decide) | exact ((hz.mono (by decide)).u (by decide)).u (by decide) | exact (((hz.mono (by decide)).u (by decide)).u (by decide)).u (by decide)); simp only [Nat.reduceAdd])
    | ((with_reducible apply lm_nM); exact rfl; exact rfl; exact rfl; exact rfl; exact rfl; exact rfl; decide +kernel; exact hz.mono (by decide); simp only [Nat.reduceAdd])
    | ((with_reducible apply lm_nR); exact rfl; exact rfl; exact rfl; exact rfl; exact rfl; exact rfl; exact rfl)
    | ((with_reducible apply lm_nS); exact rfl; exact rfl; exact rfl; exact rfl; exact rfl)
    | ((with_reducible apply lm_sI); exact rfl)
    | ((with_reducible apply lm_sR); exact rfl)
    | ((with_reducible apply lm_sS); exact rfl; exact rfl)
    | ((with_reducible apply lm_sAA); exact rfl; exact rfl)
    | ((with_reducible apply lm_sP); exact rfl; exact rfl))
    exact rfl
  refine lm_nX rfl ?_
  repeat (first
    | ((with_reducible apply lm_nB); exact rfl; exact rfl; (first | exact hz.mono (by decide) | exact (hz.mono (by decide)).u (by decide) | exact ((hz.mono (by decide)).u (by decide)).u (by decide) | exact (((hz.mono (by decide)).u (by decide)).u (by decide)).u (by decide)); simp only [Nat.reduceAdd])
    | ((with_reducible apply lm_nI); exact rfl; exact rfl; (first | exact hz.mono (by decide) | exact (hz.mono (by decide)).u (by decide) | exact ((hz.mono (by decide)).u (by decide)).u (by decide) | exact (((hz.mono (by decide)).u (by decide)).u (by decide)).u (by decide)); simp only [Nat.reduceAdd])
    | ((with_reducible apply lm_nL); exact rfl; exact rfl; (first | exact hz.mono (by decide) | exact (hz.mono (by decide)).u (by decide) | exact ((hz.mono (by decide)).u (by decide)).u (by decide) | exact (((hz.mono (by decide)).u (by decide)).u (by decide)).u (by decide)); simp only [Nat.reduceAdd])
    | ((with_reducible apply lm_nO); exact rfl; exact rfl; exact rfl; (first | exact hz.mono (by decide) | exact (hz.mono (by decide)).u (by decide) | exact ((hz.mono (by decide)).u (by decide)).u (by decide) | exact (((hz.mono (by decide)).u (by decide)).u (by decide)).u (by decide)); simp only [Nat.reduceAdd])
    | ((with_reducible apply lm_nR6); exact rfl; exact rfl; (first | exact hz.mono (by decide) | exact (hz.mono (by decide)).u (by decide) | exact ((hz.mono (by decide)).u (by decide)).u (by decide) | exact (((hz.mono (by decide)).u (by decide)).u (by decide)).u (by decide)); simp only [Nat.reduceAdd])
    | ((with_reducible apply lm_nM); exact rfl; exact rfl; exact rfl; exact rfl; exact rfl; exact rfl; decide +kernel; exact hz.mono (by decide); simp only [Nat.reduceAdd])
    | ((with_reducible apply lm_nR); exact rfl; exact rfl; exact rfl; exact rfl; exact rfl; exact rfl; exact rfl)
    | ((with_reducible apply lm_nS); exact rfl; exact rfl; exact rfl; exact rfl; exact rfl)
    | ((with_reducible apply lm_sI); exact rfl)
    | ((with_reducible apply lm_sR); exact rfl)
    | ((with_reducible apply lm_sS); exact rfl; exact rfl)
    | ((with_reducible apply lm_sAA); exact rfl; exact rfl)
    | ((with_reducible apply lm_sP); exact rfl; exact rfl))
  exact k
