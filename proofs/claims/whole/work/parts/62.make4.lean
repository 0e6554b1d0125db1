/-! ===== the class's constructor, whole ===== -/
theorem lm_km_row {m : lm_MI} {q : Nat} (h1 : q ≠ 45) (h2 : q ≠ 46) (t : Nat) : lm_km m t q = m q := by
  induction t with
  | zero => rfl
  | succ t ih =>
    unfold lm_km
    cases Nat.beq (t % 2) 1 <;> cases Nat.blt t 128 <;> simp only [cond_true, cond_false, lm_u_row h1, lm_u_row h2, ih]
theorem lm_dm_row {m : lm_MI} {q : Nat} (h1 : q ≠ 77) (t : Nat) : lm_dm m t q = m q := by
  induction t with
  | zero => rfl
  | succ t ih =>
    show lm_u (lm_dm m t) 77 _ _ q = _
    rw [lm_u_row h1, ih]
theorem lm_mk3 {sc : lm_H} {d : Nat} {m : lm_MI} {n : lm_ML} (hz : lm_zr 42 m n) : lm_rn sc (d + 4) lm_m0.2.2.2.2.1 (lm_reg lm_m0.2.2.2.2.2) (37, [(0, .ref 0), (1, .int (Int32.ofNat 8))], []) (lm_W 42 [(1, [7, 6, 5, 4, 3, 2, 1, 0]), (0, [2, 1, 0])] m n ([], 600982, 6701972)) = some (.ok none, lm_W 203 [] (lm_u (lm_u (lm_dm (lm_km m 256) 256) 194 1 (Int32.ofNat 5)) 194 2 (Int32.ofNat 5)) n ([], 600821, 6662838)) := by
  refine lm_e0_37 ?_
  unfold lm_q0_37
  simp only [lm_K8, lm_K4, lm_K3]
  refine lm_geT (by decide) (by decide) (by decide) ?_
  refine lm_nX rfl ?_
  repeat (first
    | ((with_reducible apply lm_nB); exact rfl; exact rfl; (first | exact hz.mono (by decide) | exact (hz.mono (by decide)).u (by decide) | exact ((hz.mono (by decide)).u (by decide)).u (by decide) | exact (((hz.mono (by decide)).u (by decide)).u (by decide)).u (by decide)); simp only [Nat.reduceAdd])
    | ((with_reducible apply lm_nI); exact rfl; exact rfl; (first | exact hz.mono (by decide) | exact (hz.mono (by decide)).u (by decide) | exact ((hz.mono (by decide)).u (by decide)).u (by decide) | exact (((hz.mono (by decide)).u (by decide)).u (by decide)).u (by decide)); simp only [Nat.reduceAdd])
    | ((with_reducible apply lm_nL); exact rfl; exact rfl; (first | exact hz.mono (by decide) | exact (hz.mono (by decide)).u (by decide) | exact ((hz.mono (by decide)).u (by decide)).u (by decide) | exact (((hz.mono (by decide)).u (by decide)).u (by decide)).u (by decide)); simp only [Nat.reduceAdd])
    | ((with_reducible apply lm_nO); exact rfl; exact rfl; exact rfl; (first | exact hz.mono (by decide) | exact (hz.mono (by decide)).u (by decide) | exact ((hz.mono (by decide)).u (by decide)).u (by decide) | exact (((hz.mono (by decide)).u (by decide)).u (by decide)).u (by decide)); simp only [Nat.reduceAdd])
    | ((with_reducible apply lm_nR6); exact rfl; exact rfl; (first | exact hz.mono (by decide) | exact (hz.mono (by decide)).u (by decide) | exact ((hz.mono (by decide)).u (by decide)).u (by decide) | exact (((hz.mono (by decide)).u (by decide)).u (by decide)).u (by decide)); simp only [Nat.reduceAdd])
    | ((with_reducible apply lm_nM); exact rfl; exact rfl; exact rfl; exact rfl; exact rfl; exact rfl; decide +kernel; exact hz.mono (by decide); simp only [Nat.reduceAdd])
    | ((with_reducible apply lm_nR); exact rfl; exact rfl; exact rfl; exact rfl; exact rfl; exact rfl; exact rfl)
    | ((with_reducible apply lm_nS); exact rfl; exact rfl; exact rfl; exact rfl; exact rfl)
    | ((with_reducible apply lm_sI); exact rfl)
    | ((with_reducible apply lm_sR); exact rfl)
    | ((with_reducible apply lm_sS); exact rfl; exact rfl)
    | ((with_reducible apply lm_sAA); exact rfl; exact rfl)
    | ((with_reducible apply lm_sP); exact rfl; exact rfl))
  apply lm_cV
  · refine lm_cal_of (Y := lm_m43) rfl rfl (lm_e43_0 ?_)
    unfold lm_q43_0
    simp only [lm_K332]
    repeat (first
    | ((with_reducible apply lm_nB); exact rfl; exact rfl; (first | exact hz.mono (by decide) | exact (hz.mono (by decide)).u (by decide) | exact ((hz.mono (by decide)).u (by decide)).u (by decide) | exact (((hz.mono (by decide)).u (by decide)).u (by decide)).u (by decide)); simp only [Nat.reduceAdd])
    | ((with_reducible apply lm_nI); exact rfl; exact rfl; (first | exact hz.mono (by decide) | exact (hz.mono (by decide)).u (by decide) | exact ((hz.mono (by decide)).u (by decide)).u (by decide) | exact (((hz.mono (by decide)).u (by decide)).u (by decide)).u (by decide)); simp only [Nat.reduceAdd])
    | ((with_reducible apply lm_nL); exact rfl; exact rfl; (first | exact hz.mono (by decide) | exact (hz.mono (by decide)).u (by decide) | exact ((hz.mono (by decide)).u (by decide)).u (by decide) | exact (((hz.mono (by decide)).u (by decide)).u (by decide)).u (by decide)); simp only [Nat.reduceAdd])
    | ((with_reducible apply lm_nO); exact rfl; exact rfl; exact rfl; (first | exact hz.mono (by decide) | exact (hz.mono (by decide)).u (by decide) | exact ((hz.mono (by decide)).u (by decide)).u (by decide) | exact (((hz.mono (by decide)).u (by decide)).u (by decide)).u (by decide)); simp only [Nat.reduceAdd])
    | ((with_reducible apply lm_nR6); exact rfl; exact rfl; (first | exact hz.mono (by decide) | exact (hz.mono (by decide)).u (by decide) | exact ((hz.mono (by decide)).u (by decide)).u (by decide) | exact (((hz.mono (by decide)).u (by decide)).u (by decide)).u (by decide)); simp only [Nat.reduceAdd])
    | ((with_reducible apply lm_nM); exact rfl; exact rfl; exact rfl; exact rfl; exact rfl; exact rfl; decide +kernel; exact hz.mono (by decide); simp only [Nat.reduceAdd])
    | ((with_reducible apply lm_nR); exact rfl; exact rfl; exact rfl; exact rfl; exact rfl; exact rfl; exact rfl)
    | ((with_reducible apply lm_nS); exact rfl; exact rfl; exact rfl; exact rfl; exact rfl)
    | ((with_reducible apply lm_sI); exact rfl)
    | ((with_reducible apply lm_sR); exact rfl)
    | ((with_reducible apply lm_sS); exact rfl; exact rfl)
    | ((with_reducible apply lm_sAA); exact rfl; exact rfl)
    | ((with_reducible apply lm_sP); exact rfl; exact rfl))
    exact rfl
  refine lm_nX rfl ?_
  repeat (first
    | ((with_reducible apply lm_nB); exact rfl; exact rfl; (first | exact hz.mono (by decide) | exact (hz.mono (by decide)).u (by decide) | exact ((hz.mono (by decide)).u (by decide)).u (by decide) | exact (((hz.mono (by decide)).u (by decide)).u (by decide)).u (by decide)); simp only [Nat.reduceAdd])
    | ((with_reducible apply lm_nI); exact rfl; exact rfl; (first | exact hz.mono (by decide) | exact (hz.mono (by decide)).u (by decide) | exact ((hz.mono (by decide)).u (by decide)).u (by decide) | exact (((hz.mono (by decide)).u (by decide)).u (by decide)).u (by decide)); simp only [Nat.reduceAdd])
    | ((with_reducible apply lm_nL); exact rfl; exact rfl; (first | exact hz.mono (by decide) | exact (hz.mono (by decide)).u (by decide) | exact ((hz.mono (by decide)).u (by decide)).u (by decide) | exact (((hz.mono (by decide)).u (by decide)).u (by decide)).u (by decide)); simp only [Nat.reduceAdd])
    | ((with_reducible apply lm_nO); exact rfl; exact rfl; exact rfl; (first | exact hz.mono (by decide) | exact (hz.mono (by decide)).u (by decide) | exact ((hz.mono (by decide)).u (by decide)).u (by decide) | exact (((hz.mono (by decide)).u (by decide)).u (by decide)).u (by decide)); simp only [Nat.reduceAdd])
    | ((with_reducible apply lm_nR6); exact rfl; exact rfl; (first | exact hz.mono (by decide) | exact (hz.mono (by decide)).u (by decide) | exact ((hz.mono (by decide)).u (by decide)).u (by decide) | exact (((hz.mono (by decide)).u (by decide)).u (by decide)).u (by decide)); simp only [Nat.reduceAdd])
    | ((with_reducible apply lm_nM); exact rfl; exact rfl; exact rfl; exact rfl; exact rfl; exact rfl; decide +kernel; exact hz.mono (by decide); simp only [Nat.reduceAdd])
    | ((with_reducible apply lm_nR); exact rfl; exact rfl; exact rfl; exact rfl; exact rfl; exact rfl; exact rfl)
    | ((with_reducible apply lm_nS); exact rfl; exact rfl; exact rfl; exact rfl; exact rfl)
    | ((with_reducible apply lm_sI); exact rfl)
    | ((with_reducible apply lm_sR); exact rfl)
    | ((with_reducible apply lm_sS); exact rfl; exact rfl)
    | ((with_reducible apply lm_sAA); exact rfl; exact rfl)
    | ((with_reducible apply lm_sP); exact rfl; exact rfl))
  apply lm_cV
  · refine lm_cal_of (Y := lm_m44) rfl rfl (lm_e44_0 ?_)
    unfold lm_q44_0
    simp only [lm_K128, lm_K16, lm_K4, lm_K256, lm_K192, lm_K34, lm_K64, lm_K32, lm_K1568, lm_K1, lm_K0]
    repeat (first
    | ((with_reducible apply lm_nB); exact rfl; exact rfl; (first | exact hz.mono (by decide) | exact (hz.mono (by decide)).u (by decide) | exact ((hz.mono (by decide)).u (by decide)).u (by decide) | exact (((hz.mono (by decide)).u (by decide)).u (by decide)).u (by decide)); simp only [Nat.reduceAdd])
    | ((with_reducible apply lm_nI); exact rfl; exact rfl; (first | exact hz.mono (by decide) | exact (hz.mono (by decide)).u (by decide) | exact ((hz.mono (by decide)).u (by decide)).u (by decide) | exact (((hz.mono (by decide)).u (by decide)).u (by decide)).u (by decide)); simp only [Nat.reduceAdd])
    | ((with_reducible apply lm_nL); exact rfl; exact rfl; (first | exact hz.mono (by decide) | exact (hz.mono (by decide)).u (by decide) | exact ((hz.mono (by decide)).u (by decide)).u (by decide) | exact (((hz.mono (by decide)).u (by decide)).u (by decide)).u (by decide)); simp only [Nat.reduceAdd])
    | ((with_reducible apply lm_nO); exact rfl; exact rfl; exact rfl; (first | exact hz.mono (by decide) | exact (hz.mono (by decide)).u (by decide) | exact ((hz.mono (by decide)).u (by decide)).u (by decide) | exact (((hz.mono (by decide)).u (by decide)).u (by decide)).u (by decide)); simp only [Nat.reduceAdd])
    | ((with_reducible apply lm_nR6); exact rfl; exact rfl; (first | exact hz.mono (by decide) | exact (hz.mono (by decide)).u (by decide) | exact ((hz.mono (by decide)).u (by decide)).u (by decide) | exact (((hz.mono (by decide)).u (by decide)).u (by decide)).u (by decide)); simp only [Nat.reduceAdd])
    | ((with_reducible apply lm_nM); exact rfl; exact rfl; exact rfl; exact rfl; exact rfl; exact rfl; decide +kernel; exact hz.mono (by decide); simp only [Nat.reduceAdd])
    | ((with_reducible apply lm_nR); exact rfl; exact rfl; exact rfl; exact rfl; exact rfl; exact rfl; exact rfl)
    | ((with_reducible apply lm_nS); exact rfl; exact rfl; exact rfl; exact rfl; exact rfl)
    | ((with_reducible apply lm_sI); exact rfl)
    | ((with_reducible apply lm_sR); exact rfl)
    | ((with_reducible apply lm_sS); exact rfl; exact rfl)
    | ((with_reducible apply lm_sAA); exact rfl; exact rfl)
    | ((with_reducible apply lm_sP); exact rfl; exact rfl))
    refine lm_nX rfl ?_
    exact lm_l44 (d := d) 256 0 rfl
  have hz2 : lm_zr 76 (lm_km m 256) n := fun q hq => ⟨(lm_km_row (by omega) (by omega) 256).trans (hz q (by omega)).1, (hz q (by omega)).2⟩
  clear hz
  have hz := hz2
  clear hz2
  generalize lm_km m 256 = m at *
  repeat (first
    | ((with_reducible apply lm_nB); exact rfl; exact rfl; (first | exact hz.mono (by decide) | exact (hz.mono (by decide)).u (by decide) | exact ((hz.mono (by decide)).u (by decide)).u (by decide) | exact (((hz.mono (by decide)).u (by decide)).u (by decide)).u (by decide)); simp only [Nat.reduceAdd])
    | ((with_reducible apply lm_nI); exact rfl; exact rfl; (first | exact hz.mono (by decide) | exact (hz.mono (by decide)).u (by decide) | exact ((hz.mono (by decide)).u (by decide)).u (by decide) | exact (((hz.mono (by decide)).u (by decide)).u (by decide)).u (by decide)); simp only [Nat.reduceAdd])
    | ((with_reducible apply lm_nL); exact rfl; exact rfl; (first | exact hz.mono (by decide) | exact (hz.mono (by decide)).u (by decide) | exact ((hz.mono (by decide)).u (by decide)).u (by decide) | exact (((hz.mono (by decide)).u (by decide)).u (by decide)).u (by decide)); simp only [Nat.reduceAdd])
    | ((with_reducible apply lm_nO); exact rfl; exact rfl; exact rfl; (first | exact hz.mono (by decide) | exact (hz.mono (by decide)).u (by decide) | exact ((hz.mono (by decide)).u (by decide)).u (by decide) | exact (((hz.mono (by decide)).u (by decide)).u (by decide)).u (by decide)); simp only [Nat.reduceAdd])
    | ((with_reducible apply lm_nR6); exact rfl; exact rfl; (first | exact hz.mono (by decide) | exact (hz.mono (by decide)).u (by decide) | exact ((hz.mono (by decide)).u (by decide)).u (by decide) | exact (((hz.mono (by decide)).u (by decide)).u (by decide)).u (by decide)); simp only [Nat.reduceAdd])
    | ((with_reducible apply lm_nM); exact rfl; exact rfl; exact rfl; exact rfl; exact rfl; exact rfl; decide +kernel; exact hz.mono (by decide); simp only [Nat.reduceAdd])
    | ((with_reducible apply lm_nR); exact rfl; exact rfl; exact rfl; exact rfl; exact rfl; exact rfl; exact rfl)
    | ((with_reducible apply lm_nS); exact rfl; exact rfl; exact rfl; exact rfl; exact rfl)
    | ((with_reducible apply lm_sI); exact rfl)
    | ((with_reducible apply lm_sR); exact rfl)
    | ((with_reducible apply lm_sS); exact rfl; exact rfl)
    | ((with_reducible apply lm_sAA); exact rfl; exact rfl)
    | ((with_reducible apply lm_sP); exact rfl; exact rfl))
  apply lm_cV
  · refine lm_cal_of (Y := lm_m45) rfl rfl (lm_e45_0 ?_)
    unfold lm_q45_0
    simp only [lm_K256, lm_K56, lm_K15, lm_K8, lm_K7, lm_K640, lm_K128, lm_K66, lm_K64, lm_K84, lm_K0]
    repeat (first
    | ((with_reducible apply lm_nB); exact rfl; exact rfl; (first | exact hz.mono (by decide) | exact (hz.mono (by decide)).u (by decide) | exact ((hz.mono (by decide)).u (by decide)).u (by decide) | exact (((hz.mono (by decide)).u (by decide)).u (by decide)).u (by decide)); simp only [Nat.reduceAdd])
    | ((with_reducible apply lm_nI); exact rfl; exact rfl; (first | exact hz.mono (by decide) | exact (hz.mono (by decide)).u (by decide) | exact ((hz.mono (by decide)).u (by decide)).u (by decide) | exact (((hz.mono (by decide)).u (by decide)).u (by decide)).u (by decide)); simp only [Nat.reduceAdd])
    | ((with_reducible apply lm_nL); exact rfl; exact rfl; (first | exact hz.mono (by decide) | exact (hz.mono (by decide)).u (by decide) | exact ((hz.mono (by decide)).u (by decide)).u (by decide) | exact (((hz.mono (by decide)).u (by decide)).u (by decide)).u (by decide)); simp only [Nat.reduceAdd])
    | ((with_reducible apply lm_nO); exact rfl; exact rfl; exact rfl; (first | exact hz.mono (by decide) | exact (hz.mono (by decide)).u (by decide) | exact ((hz.mono (by decide)).u (by decide)).u (by decide) | exact (((hz.mono (by decide)).u (by decide)).u (by decide)).u (by decide)); simp only [Nat.reduceAdd])
    | ((with_reducible apply lm_nR6); exact rfl; exact rfl; (first | exact hz.mono (by decide) | exact (hz.mono (by decide)).u (by decide) | exact ((hz.mono (by decide)).u (by decide)).u (by decide) | exact (((hz.mono (by decide)).u (by decide)).u (by decide)).u (by decide)); simp only [Nat.reduceAdd])
    | ((with_reducible apply lm_nM); exact rfl; exact rfl; exact rfl; exact rfl; exact rfl; exact rfl; decide +kernel; exact hz.mono (by decide); simp only [Nat.reduceAdd])
    | ((with_reducible apply lm_nR); exact rfl; exact rfl; exact rfl; exact rfl; exact rfl; exact rfl; exact rfl)
    | ((with_reducible apply lm_nS); exact rfl; exact rfl; exact rfl; exact rfl; exact rfl)
    | ((with_reducible apply lm_sI); exact rfl)
    | ((with_reducible apply lm_sR); exact rfl)
    | ((with_reducible apply lm_sS); exact rfl; exact rfl)
    | ((with_reducible apply lm_sAA); exact rfl; exact rfl)
    | ((with_reducible apply lm_sP); exact rfl; exact rfl))
    refine lm_nX rfl ?_
    exact lm_l45 (d := d) 256 0 rfl
  have hz2 : lm_zr 194 (lm_dm m 256) n := fun q hq => ⟨(lm_dm_row (by omega) 256).trans (hz q (by omega)).1, (hz q (by omega)).2⟩
  clear hz
  have hz := hz2
  clear hz2
  generalize lm_dm m 256 = m at *
  repeat (first
    | ((with_reducible apply lm_nB); exact rfl; exact rfl; (first | exact hz.mono (by decide) | exact (hz.mono (by decide)).u (by decide) | exact ((hz.mono (by decide)).u (by decide)).u (by decide) | exact (((hz.mono (by decide)).u (by decide)).u (by decide)).u (by decide)); simp only [Nat.reduceAdd])
    | ((with_reducible apply lm_nI); exact rfl; exact rfl; (first | exact hz.mono (by decide) | exact (hz.mono (by decide)).u (by decide) | exact ((hz.mono (by decide)).u (by decide)).u (by decide) | exact (((hz.mono (by decide)).u (by decide)).u (by decide)).u (by decide)); simp only [Nat.reduceAdd])
    | ((with_reducible apply lm_nL); exact rfl; exact rfl; (first | exact hz.mono (by decide) | exact (hz.mono (by decide)).u (by decide) | exact ((hz.mono (by decide)).u (by decide)).u (by decide) | exact (((hz.mono (by decide)).u (by decide)).u (by decide)).u (by decide)); simp only [Nat.reduceAdd])
    | ((with_reducible apply lm_nO); exact rfl; exact rfl; exact rfl; (first | exact hz.mono (by decide) | exact (hz.mono (by decide)).u (by decide) | exact ((hz.mono (by decide)).u (by decide)).u (by decide) | exact (((hz.mono (by decide)).u (by decide)).u (by decide)).u (by decide)); simp only [Nat.reduceAdd])
    | ((with_reducible apply lm_nR6); exact rfl; exact rfl; (first | exact hz.mono (by decide) | exact (hz.mono (by decide)).u (by decide) | exact ((hz.mono (by decide)).u (by decide)).u (by decide) | exact (((hz.mono (by decide)).u (by decide)).u (by decide)).u (by decide)); simp only [Nat.reduceAdd])
    | ((with_reducible apply lm_nM); exact rfl; exact rfl; exact rfl; exact rfl; exact rfl; exact rfl; decide +kernel; exact hz.mono (by decide); simp only [Nat.reduceAdd])
    | ((with_reducible apply lm_nR); exact rfl; exact rfl; exact rfl; exact rfl; exact rfl; exact rfl; exact rfl)
    | ((with_reducible apply lm_nS); exact rfl; exact rfl; exact rfl; exact rfl; exact rfl)
    | ((with_reducible apply lm_sI); exact rfl)
    | ((with_reducible apply lm_sR); exact rfl)
    | ((with_reducible apply lm_sS); exact rfl; exact rfl)
    | ((with_reducible apply lm_sAA); exact rfl; exact rfl)
    | ((with_reducible apply lm_sP); exact rfl; exact rfl))
  apply lm_cV
  · refine lm_cal_of (Y := lm_m46) rfl rfl (lm_e46_0 ?_)
    unfold lm_q46_0
    simp only [lm_K32, lm_K64, lm_K2144, lm_K480, lm_K67]
    repeat (first
    | ((with_reducible apply lm_nB); exact rfl; exact rfl; (first | exact hz.mono (by decide) | exact (hz.mono (by decide)).u (by decide) | exact ((hz.mono (by decide)).u (by decide)).u (by decide) | exact (((hz.mono (by decide)).u (by decide)).u (by decide)).u (by decide)); simp only [Nat.reduceAdd])
    | ((with_reducible apply lm_nI); exact rfl; exact rfl; (first | exact hz.mono (by decide) | exact (hz.mono (by decide)).u (by decide) | exact ((hz.mono (by decide)).u (by decide)).u (by decide) | exact (((hz.mono (by decide)).u (by decide)).u (by decide)).u (by decide)); simp only [Nat.reduceAdd])
    | ((with_reducible apply lm_nL); exact rfl; exact rfl; (first | exact hz.mono (by decide) | exact (hz.mono (by decide)).u (by decide) | exact ((hz.mono (by decide)).u (by decide)).u (by decide) | exact (((hz.mono (by decide)).u (by decide)).u (by decide)).u (by decide)); simp only [Nat.reduceAdd])
    | ((with_reducible apply lm_nO); exact rfl; exact rfl; exact rfl; (first | exact hz.mono (by decide) | exact (hz.mono (by decide)).u (by decide) | exact ((hz.mono (by decide)).u (by decide)).u (by decide) | exact (((hz.mono (by decide)).u (by decide)).u (by decide)).u (by decide)); simp only [Nat.reduceAdd])
    | ((with_reducible apply lm_nR6); exact rfl; exact rfl; (first | exact hz.mono (by decide) | exact (hz.mono (by decide)).u (by decide) | exact ((hz.mono (by decide)).u (by decide)).u (by decide) | exact (((hz.mono (by decide)).u (by decide)).u (by decide)).u (by decide)); simp only [Nat.reduceAdd])
    | ((with_reducible apply lm_nM); exact rfl; exact rfl; exact rfl; exact rfl; exact rfl; exact rfl; decide +kernel; exact hz.mono (by decide); simp only [Nat.reduceAdd])
    | ((with_reducible apply lm_nR); exact rfl; exact rfl; exact rfl; exact rfl; exact rfl; exact rfl; exact rfl)
    | ((with_reducible apply lm_nS); exact rfl; exact rfl; exact rfl; exact rfl; exact rfl)
    | ((with_reducible apply lm_sI); exact rfl)
    | ((with_reducible apply lm_sR); exact rfl)
    | ((with_reducible apply lm_sS); exact rfl; exact rfl)
    | ((with_reducible apply lm_sAA); exact rfl; exact rfl)
    | ((with_reducible apply lm_sP); exact rfl; exact rfl))
    apply lm_nRh
    · exact rfl
    · exact rfl
    · exact rfl
    · exact rfl
    · exact rfl
    · exact rfl
    · exact rfl
    · exact rfl
    repeat (first
    | ((with_reducible apply lm_nB); exact rfl; exact rfl; (first | exact hz.mono (by decide) | exact (hz.mono (by decide)).u (by decide) | exact ((hz.mono (by decide)).u (by decide)).u (by decide) | exact (((hz.mono (by decide)).u (by decide)).u (by decide)).u (by decide)); simp only [Nat.reduceAdd])
    | ((with_reducible apply lm_nI); exact rfl; exact rfl; (first | exact hz.mono (by decide) | exact (hz.mono (by decide)).u (by decide) | exact ((hz.mono (by decide)).u (by decide)).u (by decide) | exact (((hz.mono (by decide)).u (by decide)).u (by decide)).u (by decide)); simp only [Nat.reduceAdd])
    | ((with_reducible apply lm_nL); exact rfl; exact rfl; (first | exact hz.mono (by decide) | exact (hz.mono (by decide)).u (by decide) | exact ((hz.mono (by decide)).u (by decide)).u (by decide) | exact (((hz.mono (by decide)).u (by decide)).u (by decide)).u (by decide)); simp only [Nat.reduceAdd])
    | ((with_reducible apply lm_nO); exact rfl; exact rfl; exact rfl; (first | exact hz.mono (by decide) | exact (hz.mono (by decide)).u (by decide) | exact ((hz.mono (by decide)).u (by decide)).u (by decide) | exact (((hz.mono (by decide)).u (by decide)).u (by decide)).u (by decide)); simp only [Nat.reduceAdd])
    | ((with_reducible apply lm_nR6); exact rfl; exact rfl; (first | exact hz.mono (by decide) | exact (hz.mono (by decide)).u (by decide) | exact ((hz.mono (by decide)).u (by decide)).u (by decide) | exact (((hz.mono (by decide)).u (by decide)).u (by decide)).u (by decide)); simp only [Nat.reduceAdd])
    | ((with_reducible apply lm_nM); exact rfl; exact rfl; exact rfl; exact rfl; exact rfl; exact rfl; decide +kernel; exact hz.mono (by decide); simp only [Nat.reduceAdd])
    | ((with_reducible apply lm_nR); exact rfl; exact rfl; exact rfl; exact rfl; exact rfl; exact rfl; exact rfl)
    | ((with_reducible apply lm_nS); exact rfl; exact rfl; exact rfl; exact rfl; exact rfl)
    | ((with_reducible apply lm_sI); exact rfl)
    | ((with_reducible apply lm_sR); exact rfl)
    | ((with_reducible apply lm_sS); exact rfl; exact rfl)
    | ((with_reducible apply lm_sAA); exact rfl; exact rfl)
    | ((with_reducible apply lm_sP); exact rfl; exact rfl))
    apply lm_nRh
    · exact rfl
    · exact rfl
    · exact rfl
    · exact rfl
    · exact rfl
    · exact rfl
    · exact rfl
    · exact rfl
    repeat (first
    | ((with_reducible apply lm_nB); exact rfl; exact rfl; (first | exact hz.mono (by decide) | exact (hz.mono (by decide)).u (by decide) | exact ((hz.mono (by decide)).u (by decide)).u (by decide) | exact (((hz.mono (by decide)).u (by decide)).u (by decide)).u (by decide)); simp only [Nat.reduceAdd])
    | ((with_reducible apply lm_nI); exact rfl; exact rfl; (first | exact hz.mono (by decide) | exact (hz.mono (by decide)).u (by decide) | exact ((hz.mono (by decide)).u (by decide)).u (by decide) | exact (((hz.mono (by decide)).u (by decide)).u (by decide)).u (by decide)); simp only [Nat.reduceAdd])
    | ((with_reducible apply lm_nL); exact rfl; exact rfl; (first | exact hz.mono (by decide) | exact (hz.mono (by decide)).u (by decide) | exact ((hz.mono (by decide)).u (by decide)).u (by decide) | exact (((hz.mono (by decide)).u (by decide)).u (by decide)).u (by decide)); simp only [Nat.reduceAdd])
    | ((with_reducible apply lm_nO); exact rfl; exact rfl; exact rfl; (first | exact hz.mono (by decide) | exact (hz.mono (by decide)).u (by decide) | exact ((hz.mono (by decide)).u (by decide)).u (by decide) | exact (((hz.mono (by decide)).u (by decide)).u (by decide)).u (by decide)); simp only [Nat.reduceAdd])
    | ((with_reducible apply lm_nR6); exact rfl; exact rfl; (first | exact hz.mono (by decide) | exact (hz.mono (by decide)).u (by decide) | exact ((hz.mono (by decide)).u (by decide)).u (by decide) | exact (((hz.mono (by decide)).u (by decide)).u (by decide)).u (by decide)); simp only [Nat.reduceAdd])
    | ((with_reducible apply lm_nM); exact rfl; exact rfl; exact rfl; exact rfl; exact rfl; exact rfl; decide +kernel; exact hz.mono (by decide); simp only [Nat.reduceAdd])
    | ((with_reducible apply lm_nR); exact rfl; exact rfl; exact rfl; exact rfl; exact rfl; exact rfl; exact rfl)
    | ((with_reducible apply lm_nS); exact rfl; exact rfl; exact rfl; exact rfl; exact rfl)
    | ((with_reducible apply lm_sI); exact rfl)
    | ((with_reducible apply lm_sR); exact rfl)
    | ((with_reducible apply lm_sS); exact rfl; exact rfl)
    | ((with_reducible apply lm_sAA); exact rfl; exact rfl)
    | ((with_reducible apply lm_sP); exact rfl; exact rfl))
    exact rfl
  refine lm_nX rfl ?_
  repeat (first
    | ((with_reducible apply lm_nB); exact rfl; exact rfl; (first | exact hz.mono (by decide) | exact (hz.mono (by decide)).u (by decide) | exact ((hz.mono (by decide)).u (by decide)).u (by decide) | exact (((hz.mono (by decide)).u (by decide)).u (by decide)).u (by decide)); simp only [Nat.reduceAdd])
    | ((with_reducible apply lm_nI); exact rfl; exact rfl; (first | exact hz.mono (by decide) | exact (hz.mono (by decide)).u (by decide) | exact ((hz.mono (by decide)).u (by decide)).u (by decide) | exact (((hz.mono (by decide)).u (by decide)).u (by decide)).u (by decide)); simp only [Nat.reduceAdd])
    | ((with_reducible apply lm_nL); exact rfl; exact rfl; (first | exact hz.mono (by decide) | exact (hz.mono (by decide)).u (by decide) | exact ((hz.mono (by decide)).u (by decide)).u (by decide) | exact (((hz.mono (by decide)).u (by decide)).u (by decide)).u (by decide)); simp only [Nat.reduceAdd])
    | ((with_reducible apply lm_nO); exact rfl; exact rfl; exact rfl; (first | exact hz.mono (by decide) | exact (hz.mono (by decide)).u (by decide) | exact ((hz.mono (by decide)).u (by decide)).u (by decide) | exact (((hz.mono (by decide)).u (by decide)).u (by decide)).u (by decide)); simp only [Nat.reduceAdd])
    | ((with_reducible apply lm_nR6); exact rfl; exact rfl; (first | exact hz.mono (by decide) | exact (hz.mono (by decide)).u (by decide) | exact ((hz.mono (by decide)).u (by decide)).u (by decide) | exact (((hz.mono (by decide)).u (by decide)).u (by decide)).u (by decide)); simp only [Nat.reduceAdd])
    | ((with_reducible apply lm_nM); exact rfl; exact rfl; exact rfl; exact rfl; exact rfl; exact rfl; decide +kernel; exact hz.mono (by decide); simp only [Nat.reduceAdd])
    | ((with_reducible apply lm_nR); exact rfl; exact rfl; exact rfl; exact rfl; exact rfl; exact rfl; exact rfl)
    | ((with_reducible apply lm_nS); exact rfl; exact rfl; exact rfl; exact rfl; exact rfl)
    | ((with_reducible apply lm_sI); exact rfl)
    | ((with_reducible apply lm_sR); exact rfl)
    | ((with_reducible apply lm_sS); exact rfl; exact rfl)
    | ((with_reducible apply lm_sAA); exact rfl; exact rfl)
    | ((with_reducible apply lm_sP); exact rfl; exact rfl))
  refine lm_nX rfl ?_
  exact rfl
