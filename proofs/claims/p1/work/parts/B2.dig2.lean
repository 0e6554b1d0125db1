/-! ===== digest refused ===== -/
section LMD2
variable {sc : lm_H} {d : Nat} {m : lm_MI} {n : lm_ML} {x : lm_H × Nat × Nat} {v w : Int32}
theorem lm_u59a (h : ¬ (Int32.ofInt 1 ≤ v ∧ v ≤ Int32.ofInt 16)) (hr : lm_rom x) : lm_cal sc (d + 2) 59 [.ref 0, .int v, .int w] (lm_w m n x) = some (.error (lm_xp x), lm_w m n (lm_xx 13 x)) := by
  refine lm_cal_of (Y := lm_m59) rfl rfl (lm_e59_0 ?_)
  unfold lm_q59_0
  exact lm_cVe (lm_u132g (d := d) h hr)
theorem lm_u59b (h1 : Int32.ofInt 1 ≤ v ∧ v ≤ Int32.ofInt 16) (h : ¬ ((0 : Int32) ≤ w ∧ w ≤ Int32.ofNat 65536)) (hr : lm_rom x) : lm_cal sc (d + 2) 59 [.ref 0, .int v, .int w] (lm_w m n x) = some (.error (lm_xp x), lm_w m n (lm_xx 13 x)) := by
  refine lm_cal_of (Y := lm_m59) rfl rfl (lm_e59_0 ?_)
  unfold lm_q59_0
  refine lm_cV (lm_t132 (d := d) h1.1 h1.2) ?_
  exact lm_cVe (lm_u132e (d := d) (k := 65536) h hr)
theorem lm_u20r : lm_rn sc (d + 1) lm_m20.2.2.2.2.1 (lm_reg lm_m20.2.2.2.2.2) (25, [(0, .ref 203), (1, .int v), (2, .int w)], [.ref 203]) (lm_w m n x) = some (.ok (some (.int 0)), lm_w (lm_u m 203 4 1) n x) := by
  refine lm_e20_25 ?_
  unfold lm_q20_25
  refine lm_e20_26 ?_
  unfold lm_q20_26
  repeat (first
    | ((with_reducible apply lm_sI); exact rfl)
    | ((with_reducible apply lm_sR); exact rfl)
    | ((with_reducible apply lm_sS); exact rfl; exact rfl)
    | ((with_reducible apply lm_sL); exact rfl)
    | ((with_reducible apply lm_sP); exact rfl; exact rfl)
    | ((with_reducible apply lm_sPL); exact rfl; exact rfl)
    | ((with_reducible apply lm_sAA); exact rfl; first | exact rfl | exact lm_roO (by omega) | exact lm_roM (by omega))
    | ((with_reducible apply lm_sI); exact lm_fpL (by omega))
    | ((with_reducible apply lm_sR); exact lm_fpB (by omega))
    | ((with_reducible apply lm_sP); exact lm_fpL (by omega); exact rfl)
    | ((with_reducible apply lm_sS); exact lm_ocO (by omega); exact rfl)
    | ((with_reducible apply lm_sA); exact rfl; omega)
    | ((with_reducible apply lm_sJ); exact rfl; omega)
    | ((with_reducible apply lm_sB); (first | exact rfl | exact lm_arB (by omega) | exact lm_arM (by omega)); omega)
    | ((with_reducible apply lm_wA); exact rfl; omega)
    | ((with_reducible apply lm_wJ); exact rfl; omega)
    | ((with_reducible apply lm_wB); (first | exact rfl | exact lm_arB (by omega) | exact lm_arM (by omega)); omega)
    | ((with_reducible apply lm_sAl); (first | exact rfl | exact lm_arB (by omega) | exact lm_arM (by omega)); omega)
    | ((with_reducible apply lm_iW); decide))
  refine lm_cI (lm_u49 (d := d) false) ?_
  refine lm_iF (show ¬ ¬ (0 : Int32) = 0 by decide) ?_
  exact rfl
theorem lm_u20a (h : ¬ (Int32.ofInt 1 ≤ v ∧ v ≤ Int32.ofInt 16)) : lm_cal sc (d + 2) 20 [.ref 203, .int v, .int w] (lm_w m n x) = some (.ok (some (.int 0)), lm_w (lm_u m 203 4 1) n x) := by
  refine lm_cal_of (Y := lm_m20) rfl rfl (lm_e20_0 ?_)
  unfold lm_q20_0
  refine lm_cI (lm_t52g (d := d) h) ?_
  refine lm_iT (show (0 : Int32) = 0 by decide) ?_
  exact lm_u20r
theorem lm_u20b (h1 : Int32.ofInt 1 ≤ v ∧ v ≤ Int32.ofInt 16) (h : ¬ ((0 : Int32) ≤ w ∧ w ≤ Int32.ofNat 65536)) : lm_cal sc (d + 2) 20 [.ref 203, .int v, .int w] (lm_w m n x) = some (.ok (some (.int 0)), lm_w (lm_u m 203 4 1) n x) := by
  refine lm_cal_of (Y := lm_m20) rfl rfl (lm_e20_0 ?_)
  unfold lm_q20_0
  refine lm_cI (lm_t52t (d := d) h1) ?_
  refine lm_iF (show ¬ (1 : Int32) = 0 by decide) ?_
  refine lm_cI (lm_t52f (d := d) (n := 65536) h) ?_
  refine lm_iT (show (0 : Int32) = 0 by decide) ?_
  exact lm_u20r
end LMD2
