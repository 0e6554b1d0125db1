/-! ===== printed by my program: the nineteen callers of the law ===== -/
/-- a boolean as a long -/
def lm_zl (b : Bool) : Int64 := cond b 1 0
section LMCA
variable {sc : lm_H} {d : Nat} {m m1 : lm_MI} {n n1 : lm_ML} {x x1 : lm_H × Nat × Nat}
theorem lm_v2 {p0 p1 p2 p3 p4 : Int32} {r : Int32} (ho : lm_ho x1) (hc : lm_cal sc d 48 [.ref 0, .int p0, .int p1, .int p2, .int p3, .int p4] (lm_w m n x) = some (.ok (some (.int r)), lm_w m1 n1 x1)) : lm_cal sc (d + 1) 2 [.ref 0, .int p0, .int p1, .int p2, .int p3, .int p4, .ref 362] (lm_w m n x) = some (.ok (some (.int 0)), lm_w m1 n1 (lm_so r.toInt64 x1)) := by
  refine lm_cal_of (Y := lm_m2) rfl rfl (lm_e2_0 ?_)
  unfold lm_q2_0
  refine lm_sS (c := 0) (y := 48) rfl rfl ?_
  refine lm_tOk (lm_asI_ok hc) ?_
  rw [lm_K0]
  refine lm_wO ho ?_
  exact rfl
theorem lm_v2_12 {p0 p1 p2 p3 p4 : Int32} (hr : lm_rom x1) (hc : lm_cal sc d 48 [.ref 0, .int p0, .int p1, .int p2, .int p3, .int p4] (lm_w m n x) = some (.error (lm_xp x1), lm_w m1 n1 (lm_xx 12 x1))) : lm_cal sc (d + 1) 2 [.ref 0, .int p0, .int p1, .int p2, .int p3, .int p4, .ref 362] (lm_w m n x) = some (.ok (some (.int 1)), lm_w m1 n1 (lm_xx 12 x1)) := by
  refine lm_cal_of (Y := lm_m2) rfl rfl (lm_e2_0 ?_)
  unfold lm_q2_0
  refine lm_sS (c := 0) (y := 48) rfl rfl ?_
  refine lm_tEr (lm_bd_err hc) (lm_eC hr rfl) ?_
  refine lm_e2_19 ?_
  unfold lm_q2_19
  exact rfl
theorem lm_v5 {p0 p1 : Int32} {r : Int32} (ho : lm_ho x1) (hc : lm_cal sc d 51 [.ref 0, .int p0, .int p1] (lm_w m n x) = some (.ok (some (.int r)), lm_w m1 n1 x1)) : lm_cal sc (d + 1) 5 [.ref 0, .int p0, .int p1, .ref 362] (lm_w m n x) = some (.ok (some (.int 0)), lm_w m1 n1 (lm_so r.toInt64 x1)) := by
  refine lm_cal_of (Y := lm_m5) rfl rfl (lm_e5_0 ?_)
  unfold lm_q5_0
  refine lm_sS (c := 0) (y := 51) rfl rfl ?_
  refine lm_tOk (lm_asI_ok hc) ?_
  rw [lm_K0]
  refine lm_wO ho ?_
  exact rfl
theorem lm_v5_13 {p0 p1 : Int32} (hr : lm_rom x1) (hc : lm_cal sc d 51 [.ref 0, .int p0, .int p1] (lm_w m n x) = some (.error (lm_xp x1), lm_w m1 n1 (lm_xx 13 x1))) : lm_cal sc (d + 1) 5 [.ref 0, .int p0, .int p1, .ref 362] (lm_w m n x) = some (.ok (some (.int 1)), lm_w m1 n1 (lm_xx 13 x1)) := by
  refine lm_cal_of (Y := lm_m5) rfl rfl (lm_e5_0 ?_)
  unfold lm_q5_0
  refine lm_sS (c := 0) (y := 51) rfl rfl ?_
  refine lm_tEr (lm_bd_err hc) (lm_eC hr rfl) ?_
  refine lm_e5_13 ?_
  unfold lm_q5_13
  exact rfl
theorem lm_v5_12 {p0 p1 : Int32} (hr : lm_rom x1) (hc : lm_cal sc d 51 [.ref 0, .int p0, .int p1] (lm_w m n x) = some (.error (lm_xp x1), lm_w m1 n1 (lm_xx 12 x1))) : lm_cal sc (d + 1) 5 [.ref 0, .int p0, .int p1, .ref 362] (lm_w m n x) = some (.ok (some (.int 2)), lm_w m1 n1 (lm_xx 12 x1)) := by
  refine lm_cal_of (Y := lm_m5) rfl rfl (lm_e5_0 ?_)
  unfold lm_q5_0
  refine lm_sS (c := 0) (y := 51) rfl rfl ?_
  refine lm_tEr (lm_bd_err hc) (lm_eC hr rfl) ?_
  refine lm_e5_17 ?_
  unfold lm_q5_17
  exact rfl
theorem lm_v7 {p0 p1 : Int32} {r : Int32} (ho : lm_ho x1) (hc : lm_cal sc d 53 [.ref 0, .int p0, .int p1] (lm_w m n x) = some (.ok (some (.int r)), lm_w m1 n1 x1)) : lm_cal sc (d + 1) 7 [.ref 0, .int p0, .int p1, .ref 362] (lm_w m n x) = some (.ok (some (.int 0)), lm_w m1 n1 (lm_so r.toInt64 x1)) := by
  refine lm_cal_of (Y := lm_m7) rfl rfl (lm_e7_0 ?_)
  unfold lm_q7_0
  refine lm_sS (c := 0) (y := 53) rfl rfl ?_
  refine lm_tOk (lm_asI_ok hc) ?_
  rw [lm_K0]
  refine lm_wO ho ?_
  exact rfl
theorem lm_v7_13 {p0 p1 : Int32} (hr : lm_rom x1) (hc : lm_cal sc d 53 [.ref 0, .int p0, .int p1] (lm_w m n x) = some (.error (lm_xp x1), lm_w m1 n1 (lm_xx 13 x1))) : lm_cal sc (d + 1) 7 [.ref 0, .int p0, .int p1, .ref 362] (lm_w m n x) = some (.ok (some (.int 1)), lm_w m1 n1 (lm_xx 13 x1)) := by
  refine lm_cal_of (Y := lm_m7) rfl rfl (lm_e7_0 ?_)
  unfold lm_q7_0
  refine lm_sS (c := 0) (y := 53) rfl rfl ?_
  refine lm_tEr (lm_bd_err hc) (lm_eC hr rfl) ?_
  refine lm_e7_13 ?_
  unfold lm_q7_13
  exact rfl
theorem lm_v9 {p0 p1 : Int32} {r : Int32} (ho : lm_ho x1) (hc : lm_cal sc d 54 [.ref 0, .int p0, .int p1] (lm_w m n x) = some (.ok (some (.int r)), lm_w m1 n1 x1)) : lm_cal sc (d + 1) 9 [.ref 0, .int p0, .int p1, .ref 362] (lm_w m n x) = some (.ok (some (.int 0)), lm_w m1 n1 (lm_so r.toInt64 x1)) := by
  refine lm_cal_of (Y := lm_m9) rfl rfl (lm_e9_0 ?_)
  unfold lm_q9_0
  refine lm_sS (c := 0) (y := 54) rfl rfl ?_
  refine lm_tOk (lm_asI_ok hc) ?_
  rw [lm_K0]
  refine lm_wO ho ?_
  exact rfl
theorem lm_v9_13 {p0 p1 : Int32} (hr : lm_rom x1) (hc : lm_cal sc d 54 [.ref 0, .int p0, .int p1] (lm_w m n x) = some (.error (lm_xp x1), lm_w m1 n1 (lm_xx 13 x1))) : lm_cal sc (d + 1) 9 [.ref 0, .int p0, .int p1, .ref 362] (lm_w m n x) = some (.ok (some (.int 1)), lm_w m1 n1 (lm_xx 13 x1)) := by
  refine lm_cal_of (Y := lm_m9) rfl rfl (lm_e9_0 ?_)
  unfold lm_q9_0
  refine lm_sS (c := 0) (y := 54) rfl rfl ?_
  refine lm_tEr (lm_bd_err hc) (lm_eC hr rfl) ?_
  refine lm_e9_13 ?_
  unfold lm_q9_13
  exact rfl
theorem lm_v11 {p0 p1 p2 : Int32} {r : Int32} (ho : lm_ho x1) (hc : lm_cal sc d 55 [.ref 0, .int p0, .int p1, .int p2] (lm_w m n x) = some (.ok (some (.int r)), lm_w m1 n1 x1)) : lm_cal sc (d + 1) 11 [.ref 0, .int p0, .int p1, .int p2, .ref 362] (lm_w m n x) = some (.ok (some (.int 0)), lm_w m1 n1 (lm_so r.toInt64 x1)) := by
  refine lm_cal_of (Y := lm_m11) rfl rfl (lm_e11_0 ?_)
  unfold lm_q11_0
  refine lm_sS (c := 0) (y := 55) rfl rfl ?_
  refine lm_tOk (lm_asI_ok hc) ?_
  rw [lm_K0]
  refine lm_wO ho ?_
  exact rfl
theorem lm_v11_13 {p0 p1 p2 : Int32} (hr : lm_rom x1) (hc : lm_cal sc d 55 [.ref 0, .int p0, .int p1, .int p2] (lm_w m n x) = some (.error (lm_xp x1), lm_w m1 n1 (lm_xx 13 x1))) : lm_cal sc (d + 1) 11 [.ref 0, .int p0, .int p1, .int p2, .ref 362] (lm_w m n x) = some (.ok (some (.int 1)), lm_w m1 n1 (lm_xx 13 x1)) := by
  refine lm_cal_of (Y := lm_m11) rfl rfl (lm_e11_0 ?_)
  unfold lm_q11_0
  refine lm_sS (c := 0) (y := 55) rfl rfl ?_
  refine lm_tEr (lm_bd_err hc) (lm_eC hr rfl) ?_
  refine lm_e11_15 ?_
  unfold lm_q11_15
  exact rfl
theorem lm_v11_12 {p0 p1 p2 : Int32} (hr : lm_rom x1) (hc : lm_cal sc d 55 [.ref 0, .int p0, .int p1, .int p2] (lm_w m n x) = some (.error (lm_xp x1), lm_w m1 n1 (lm_xx 12 x1))) : lm_cal sc (d + 1) 11 [.ref 0, .int p0, .int p1, .int p2, .ref 362] (lm_w m n x) = some (.ok (some (.int 2)), lm_w m1 n1 (lm_xx 12 x1)) := by
  refine lm_cal_of (Y := lm_m11) rfl rfl (lm_e11_0 ?_)
  unfold lm_q11_0
  refine lm_sS (c := 0) (y := 55) rfl rfl ?_
  refine lm_tEr (lm_bd_err hc) (lm_eC hr rfl) ?_
  refine lm_e11_19 ?_
  unfold lm_q11_19
  exact rfl
theorem lm_v13 {p0 : Int32} {r : Int32} (ho : lm_ho x1) (hc : lm_cal sc d 56 [.ref 0, .int p0] (lm_w m n x) = some (.ok (some (.int r)), lm_w m1 n1 x1)) : lm_cal sc (d + 1) 13 [.ref 0, .int p0, .ref 362] (lm_w m n x) = some (.ok (some (.int 0)), lm_w m1 n1 (lm_so r.toInt64 x1)) := by
  refine lm_cal_of (Y := lm_m13) rfl rfl (lm_e13_0 ?_)
  unfold lm_q13_0
  refine lm_sS (c := 0) (y := 56) rfl rfl ?_
  refine lm_tOk (lm_asI_ok hc) ?_
  rw [lm_K0]
  refine lm_wO ho ?_
  exact rfl
theorem lm_v13_13 {p0 : Int32} (hr : lm_rom x1) (hc : lm_cal sc d 56 [.ref 0, .int p0] (lm_w m n x) = some (.error (lm_xp x1), lm_w m1 n1 (lm_xx 13 x1))) : lm_cal sc (d + 1) 13 [.ref 0, .int p0, .ref 362] (lm_w m n x) = some (.ok (some (.int 1)), lm_w m1 n1 (lm_xx 13 x1)) := by
  refine lm_cal_of (Y := lm_m13) rfl rfl (lm_e13_0 ?_)
  unfold lm_q13_0
  refine lm_sS (c := 0) (y := 56) rfl rfl ?_
  refine lm_tEr (lm_bd_err hc) (lm_eC hr rfl) ?_
  refine lm_e13_12 ?_
  unfold lm_q13_12
  exact rfl
theorem lm_v15 {p0 p1 : Int32} {r : Int64} (ho : lm_ho x1) (hc : lm_cal sc d 57 [.ref 0, .int p0, .int p1] (lm_w m n x) = some (.ok (some (.long r)), lm_w m1 n1 x1)) : lm_cal sc (d + 1) 15 [.ref 0, .int p0, .int p1, .ref 362] (lm_w m n x) = some (.ok (some (.int 0)), lm_w m1 n1 (lm_so r x1)) := by
  refine lm_cal_of (Y := lm_m15) rfl rfl (lm_e15_0 ?_)
  unfold lm_q15_0
  refine lm_sS (c := 0) (y := 57) rfl rfl ?_
  refine lm_tOk (lm_asL_ok hc) ?_
  rw [lm_K0]
  refine lm_wO ho ?_
  exact rfl
theorem lm_v15_13 {p0 p1 : Int32} (hr : lm_rom x1) (hc : lm_cal sc d 57 [.ref 0, .int p0, .int p1] (lm_w m n x) = some (.error (lm_xp x1), lm_w m1 n1 (lm_xx 13 x1))) : lm_cal sc (d + 1) 15 [.ref 0, .int p0, .int p1, .ref 362] (lm_w m n x) = some (.ok (some (.int 1)), lm_w m1 n1 (lm_xx 13 x1)) := by
  refine lm_cal_of (Y := lm_m15) rfl rfl (lm_e15_0 ?_)
  unfold lm_q15_0
  refine lm_sS (c := 0) (y := 57) rfl rfl ?_
  refine lm_tEr (lm_bd_err hc) (lm_eC hr rfl) ?_
  refine lm_e15_12 ?_
  unfold lm_q15_12
  exact rfl
theorem lm_v15_12 {p0 p1 : Int32} (hr : lm_rom x1) (hc : lm_cal sc d 57 [.ref 0, .int p0, .int p1] (lm_w m n x) = some (.error (lm_xp x1), lm_w m1 n1 (lm_xx 12 x1))) : lm_cal sc (d + 1) 15 [.ref 0, .int p0, .int p1, .ref 362] (lm_w m n x) = some (.ok (some (.int 2)), lm_w m1 n1 (lm_xx 12 x1)) := by
  refine lm_cal_of (Y := lm_m15) rfl rfl (lm_e15_0 ?_)
  unfold lm_q15_0
  refine lm_sS (c := 0) (y := 57) rfl rfl ?_
  refine lm_tEr (lm_bd_err hc) (lm_eC hr rfl) ?_
  refine lm_e15_16 ?_
  unfold lm_q15_16
  exact rfl
theorem lm_v17 {p0 p1 : Int32} {b : Bool} (ho : lm_ho x1) (hc : lm_cal sc d 58 [.ref 0, .int p0, .int p1] (lm_w m n x) = some (.ok (some (.int (lm_z b))), lm_w m1 n1 x1)) : lm_cal sc (d + 1) 17 [.ref 0, .int p0, .int p1, .ref 362] (lm_w m n x) = some (.ok (some (.int 0)), lm_w m1 n1 (lm_so (lm_zl b) x1)) := by
  refine lm_cal_of (Y := lm_m17) rfl rfl (lm_e17_0 ?_)
  unfold lm_q17_0
  refine lm_sS (c := 0) (y := 58) rfl rfl ?_
  refine lm_tOk (lm_asI_ok hc) ?_
  cases b with
  | false =>
    refine lm_iT (show (0 : Int32) = 0 by decide) ?_
    refine lm_e17_16 ?_
    unfold lm_q17_16
    rw [lm_K0]
    refine lm_wO ho ?_
    exact rfl
  | true =>
    refine lm_iF (show ¬ (1 : Int32) = 0 by decide) ?_
    refine lm_e17_16 ?_
    unfold lm_q17_16
    rw [lm_K0]
    refine lm_wO ho ?_
    exact rfl
theorem lm_v17_13 {p0 p1 : Int32} (hr : lm_rom x1) (hc : lm_cal sc d 58 [.ref 0, .int p0, .int p1] (lm_w m n x) = some (.error (lm_xp x1), lm_w m1 n1 (lm_xx 13 x1))) : lm_cal sc (d + 1) 17 [.ref 0, .int p0, .int p1, .ref 362] (lm_w m n x) = some (.ok (some (.int 1)), lm_w m1 n1 (lm_xx 13 x1)) := by
  refine lm_cal_of (Y := lm_m17) rfl rfl (lm_e17_0 ?_)
  unfold lm_q17_0
  refine lm_sS (c := 0) (y := 58) rfl rfl ?_
  refine lm_tEr (lm_bd_err hc) (lm_eC hr rfl) ?_
  refine lm_e17_20 ?_
  unfold lm_q17_20
  exact rfl
theorem lm_v19 {p0 p1 : Int32} {r : Int32} (ho : lm_ho x1) (hc : lm_cal sc d 59 [.ref 0, .int p0, .int p1] (lm_w m n x) = some (.ok (some (.int r)), lm_w m1 n1 x1)) : lm_cal sc (d + 1) 19 [.ref 0, .int p0, .int p1, .ref 362] (lm_w m n x) = some (.ok (some (.int 0)), lm_w m1 n1 (lm_so r.toInt64 x1)) := by
  refine lm_cal_of (Y := lm_m19) rfl rfl (lm_e19_0 ?_)
  unfold lm_q19_0
  refine lm_sS (c := 0) (y := 59) rfl rfl ?_
  refine lm_tOk (lm_asI_ok hc) ?_
  rw [lm_K0]
  refine lm_wO ho ?_
  exact rfl
theorem lm_v19_13 {p0 p1 : Int32} (hr : lm_rom x1) (hc : lm_cal sc d 59 [.ref 0, .int p0, .int p1] (lm_w m n x) = some (.error (lm_xp x1), lm_w m1 n1 (lm_xx 13 x1))) : lm_cal sc (d + 1) 19 [.ref 0, .int p0, .int p1, .ref 362] (lm_w m n x) = some (.ok (some (.int 1)), lm_w m1 n1 (lm_xx 13 x1)) := by
  refine lm_cal_of (Y := lm_m19) rfl rfl (lm_e19_0 ?_)
  unfold lm_q19_0
  refine lm_sS (c := 0) (y := 59) rfl rfl ?_
  refine lm_tEr (lm_bd_err hc) (lm_eC hr rfl) ?_
  refine lm_e19_13 ?_
  unfold lm_q19_13
  exact rfl
theorem lm_v21 {p0 : Int32} {r : Int32} (ho : lm_ho x1) (hc : lm_cal sc d 67 [.ref 0, .int p0] (lm_w m n x) = some (.ok (some (.int r)), lm_w m1 n1 x1)) : lm_cal sc (d + 1) 21 [.ref 0, .int p0, .ref 362] (lm_w m n x) = some (.ok (some (.int 0)), lm_w m1 n1 (lm_so r.toInt64 x1)) := by
  refine lm_cal_of (Y := lm_m21) rfl rfl (lm_e21_0 ?_)
  unfold lm_q21_0
  refine lm_sS (c := 0) (y := 67) rfl rfl ?_
  refine lm_tOk (lm_asI_ok hc) ?_
  rw [lm_K0]
  refine lm_wO ho ?_
  exact rfl
theorem lm_v21_13 {p0 : Int32} (hr : lm_rom x1) (hc : lm_cal sc d 67 [.ref 0, .int p0] (lm_w m n x) = some (.error (lm_xp x1), lm_w m1 n1 (lm_xx 13 x1))) : lm_cal sc (d + 1) 21 [.ref 0, .int p0, .ref 362] (lm_w m n x) = some (.ok (some (.int 1)), lm_w m1 n1 (lm_xx 13 x1)) := by
  refine lm_cal_of (Y := lm_m21) rfl rfl (lm_e21_0 ?_)
  unfold lm_q21_0
  refine lm_sS (c := 0) (y := 67) rfl rfl ?_
  refine lm_tEr (lm_bd_err hc) (lm_eC hr rfl) ?_
  refine lm_e21_12 ?_
  unfold lm_q21_12
  exact rfl
theorem lm_v21_14 {p0 : Int32} (hr : lm_rom x1) (hc : lm_cal sc d 67 [.ref 0, .int p0] (lm_w m n x) = some (.error (lm_xp x1), lm_w m1 n1 (lm_xx 14 x1))) : lm_cal sc (d + 1) 21 [.ref 0, .int p0, .ref 362] (lm_w m n x) = some (.ok (some (.int 2)), lm_w m1 n1 (lm_xx 14 x1)) := by
  refine lm_cal_of (Y := lm_m21) rfl rfl (lm_e21_0 ?_)
  unfold lm_q21_0
  refine lm_sS (c := 0) (y := 67) rfl rfl ?_
  refine lm_tEr (lm_bd_err hc) (lm_eC hr rfl) ?_
  refine lm_e21_15 ?_
  unfold lm_q21_15
  exact rfl
theorem lm_v21_15 {p0 : Int32} (hr : lm_rom x1) (hc : lm_cal sc d 67 [.ref 0, .int p0] (lm_w m n x) = some (.error (lm_xp x1), lm_w m1 n1 (lm_xx 15 x1))) : lm_cal sc (d + 1) 21 [.ref 0, .int p0, .ref 362] (lm_w m n x) = some (.ok (some (.int 3)), lm_w m1 n1 (lm_xx 15 x1)) := by
  refine lm_cal_of (Y := lm_m21) rfl rfl (lm_e21_0 ?_)
  unfold lm_q21_0
  refine lm_sS (c := 0) (y := 67) rfl rfl ?_
  refine lm_tEr (lm_bd_err hc) (lm_eC hr rfl) ?_
  refine lm_e21_18 ?_
  unfold lm_q21_18
  exact rfl
theorem lm_v23 {p0 : Int32} {r : Int32} (ho : lm_ho x1) (hc : lm_cal sc d 76 [.ref 0, .int p0] (lm_w m n x) = some (.ok (some (.int r)), lm_w m1 n1 x1)) : lm_cal sc (d + 1) 23 [.ref 0, .int p0, .ref 362] (lm_w m n x) = some (.ok (some (.int 0)), lm_w m1 n1 (lm_so r.toInt64 x1)) := by
  refine lm_cal_of (Y := lm_m23) rfl rfl (lm_e23_0 ?_)
  unfold lm_q23_0
  refine lm_sS (c := 0) (y := 76) rfl rfl ?_
  refine lm_tOk (lm_asI_ok hc) ?_
  rw [lm_K0]
  refine lm_wO ho ?_
  exact rfl
theorem lm_v23_13 {p0 : Int32} (hr : lm_rom x1) (hc : lm_cal sc d 76 [.ref 0, .int p0] (lm_w m n x) = some (.error (lm_xp x1), lm_w m1 n1 (lm_xx 13 x1))) : lm_cal sc (d + 1) 23 [.ref 0, .int p0, .ref 362] (lm_w m n x) = some (.ok (some (.int 1)), lm_w m1 n1 (lm_xx 13 x1)) := by
  refine lm_cal_of (Y := lm_m23) rfl rfl (lm_e23_0 ?_)
  unfold lm_q23_0
  refine lm_sS (c := 0) (y := 76) rfl rfl ?_
  refine lm_tEr (lm_bd_err hc) (lm_eC hr rfl) ?_
  refine lm_e23_12 ?_
  unfold lm_q23_12
  exact rfl
theorem lm_v23_14 {p0 : Int32} (hr : lm_rom x1) (hc : lm_cal sc d 76 [.ref 0, .int p0] (lm_w m n x) = some (.error (lm_xp x1), lm_w m1 n1 (lm_xx 14 x1))) : lm_cal sc (d + 1) 23 [.ref 0, .int p0, .ref 362] (lm_w m n x) = some (.ok (some (.int 2)), lm_w m1 n1 (lm_xx 14 x1)) := by
  refine lm_cal_of (Y := lm_m23) rfl rfl (lm_e23_0 ?_)
  unfold lm_q23_0
  refine lm_sS (c := 0) (y := 76) rfl rfl ?_
  refine lm_tEr (lm_bd_err hc) (lm_eC hr rfl) ?_
  refine lm_e23_15 ?_
  unfold lm_q23_15
  exact rfl
theorem lm_v23_16 {p0 : Int32} (hr : lm_rom x1) (hc : lm_cal sc d 76 [.ref 0, .int p0] (lm_w m n x) = some (.error (lm_xp x1), lm_w m1 n1 (lm_xx 16 x1))) : lm_cal sc (d + 1) 23 [.ref 0, .int p0, .ref 362] (lm_w m n x) = some (.ok (some (.int 3)), lm_w m1 n1 (lm_xx 16 x1)) := by
  refine lm_cal_of (Y := lm_m23) rfl rfl (lm_e23_0 ?_)
  unfold lm_q23_0
  refine lm_sS (c := 0) (y := 76) rfl rfl ?_
  refine lm_tEr (lm_bd_err hc) (lm_eC hr rfl) ?_
  refine lm_e23_18 ?_
  unfold lm_q23_18
  exact rfl
theorem lm_v23_15 {p0 : Int32} (hr : lm_rom x1) (hc : lm_cal sc d 76 [.ref 0, .int p0] (lm_w m n x) = some (.error (lm_xp x1), lm_w m1 n1 (lm_xx 15 x1))) : lm_cal sc (d + 1) 23 [.ref 0, .int p0, .ref 362] (lm_w m n x) = some (.ok (some (.int 4)), lm_w m1 n1 (lm_xx 15 x1)) := by
  refine lm_cal_of (Y := lm_m23) rfl rfl (lm_e23_0 ?_)
  unfold lm_q23_0
  refine lm_sS (c := 0) (y := 76) rfl rfl ?_
  refine lm_tEr (lm_bd_err hc) (lm_eC hr rfl) ?_
  refine lm_e23_21 ?_
  unfold lm_q23_21
  exact rfl
theorem lm_v25 {p0 : Int32} {r : Int32} (ho : lm_ho x1) (hc : lm_cal sc d 79 [.ref 0, .int p0] (lm_w m n x) = some (.ok (some (.int r)), lm_w m1 n1 x1)) : lm_cal sc (d + 1) 25 [.ref 0, .int p0, .ref 362] (lm_w m n x) = some (.ok (some (.int 0)), lm_w m1 n1 (lm_so r.toInt64 x1)) := by
  refine lm_cal_of (Y := lm_m25) rfl rfl (lm_e25_0 ?_)
  unfold lm_q25_0
  refine lm_sS (c := 0) (y := 79) rfl rfl ?_
  refine lm_tOk (lm_asI_ok hc) ?_
  rw [lm_K0]
  refine lm_wO ho ?_
  exact rfl
theorem lm_v25_13 {p0 : Int32} (hr : lm_rom x1) (hc : lm_cal sc d 79 [.ref 0, .int p0] (lm_w m n x) = some (.error (lm_xp x1), lm_w m1 n1 (lm_xx 13 x1))) : lm_cal sc (d + 1) 25 [.ref 0, .int p0, .ref 362] (lm_w m n x) = some (.ok (some (.int 1)), lm_w m1 n1 (lm_xx 13 x1)) := by
  refine lm_cal_of (Y := lm_m25) rfl rfl (lm_e25_0 ?_)
  unfold lm_q25_0
  refine lm_sS (c := 0) (y := 79) rfl rfl ?_
  refine lm_tEr (lm_bd_err hc) (lm_eC hr rfl) ?_
  refine lm_e25_12 ?_
  unfold lm_q25_12
  exact rfl
theorem lm_v25_16 {p0 : Int32} (hr : lm_rom x1) (hc : lm_cal sc d 79 [.ref 0, .int p0] (lm_w m n x) = some (.error (lm_xp x1), lm_w m1 n1 (lm_xx 16 x1))) : lm_cal sc (d + 1) 25 [.ref 0, .int p0, .ref 362] (lm_w m n x) = some (.ok (some (.int 2)), lm_w m1 n1 (lm_xx 16 x1)) := by
  refine lm_cal_of (Y := lm_m25) rfl rfl (lm_e25_0 ?_)
  unfold lm_q25_0
  refine lm_sS (c := 0) (y := 79) rfl rfl ?_
  refine lm_tEr (lm_bd_err hc) (lm_eC hr rfl) ?_
  refine lm_e25_15 ?_
  unfold lm_q25_15
  exact rfl
theorem lm_v25_15 {p0 : Int32} (hr : lm_rom x1) (hc : lm_cal sc d 79 [.ref 0, .int p0] (lm_w m n x) = some (.error (lm_xp x1), lm_w m1 n1 (lm_xx 15 x1))) : lm_cal sc (d + 1) 25 [.ref 0, .int p0, .ref 362] (lm_w m n x) = some (.ok (some (.int 3)), lm_w m1 n1 (lm_xx 15 x1)) := by
  refine lm_cal_of (Y := lm_m25) rfl rfl (lm_e25_0 ?_)
  unfold lm_q25_0
  refine lm_sS (c := 0) (y := 79) rfl rfl ?_
  refine lm_tEr (lm_bd_err hc) (lm_eC hr rfl) ?_
  refine lm_e25_18 ?_
  unfold lm_q25_18
  exact rfl
theorem lm_v27 {p0 : Int32} {r : Int32} (ho : lm_ho x1) (hc : lm_cal sc d 85 [.ref 0, .int p0] (lm_w m n x) = some (.ok (some (.int r)), lm_w m1 n1 x1)) : lm_cal sc (d + 1) 27 [.ref 0, .int p0, .ref 362] (lm_w m n x) = some (.ok (some (.int 0)), lm_w m1 n1 (lm_so r.toInt64 x1)) := by
  refine lm_cal_of (Y := lm_m27) rfl rfl (lm_e27_0 ?_)
  unfold lm_q27_0
  refine lm_sS (c := 0) (y := 85) rfl rfl ?_
  refine lm_tOk (lm_asI_ok hc) ?_
  rw [lm_K0]
  refine lm_wO ho ?_
  exact rfl
theorem lm_v27_13 {p0 : Int32} (hr : lm_rom x1) (hc : lm_cal sc d 85 [.ref 0, .int p0] (lm_w m n x) = some (.error (lm_xp x1), lm_w m1 n1 (lm_xx 13 x1))) : lm_cal sc (d + 1) 27 [.ref 0, .int p0, .ref 362] (lm_w m n x) = some (.ok (some (.int 1)), lm_w m1 n1 (lm_xx 13 x1)) := by
  refine lm_cal_of (Y := lm_m27) rfl rfl (lm_e27_0 ?_)
  unfold lm_q27_0
  refine lm_sS (c := 0) (y := 85) rfl rfl ?_
  refine lm_tEr (lm_bd_err hc) (lm_eC hr rfl) ?_
  refine lm_e27_12 ?_
  unfold lm_q27_12
  exact rfl
theorem lm_v27_14 {p0 : Int32} (hr : lm_rom x1) (hc : lm_cal sc d 85 [.ref 0, .int p0] (lm_w m n x) = some (.error (lm_xp x1), lm_w m1 n1 (lm_xx 14 x1))) : lm_cal sc (d + 1) 27 [.ref 0, .int p0, .ref 362] (lm_w m n x) = some (.ok (some (.int 2)), lm_w m1 n1 (lm_xx 14 x1)) := by
  refine lm_cal_of (Y := lm_m27) rfl rfl (lm_e27_0 ?_)
  unfold lm_q27_0
  refine lm_sS (c := 0) (y := 85) rfl rfl ?_
  refine lm_tEr (lm_bd_err hc) (lm_eC hr rfl) ?_
  refine lm_e27_15 ?_
  unfold lm_q27_15
  exact rfl
theorem lm_v27_15 {p0 : Int32} (hr : lm_rom x1) (hc : lm_cal sc d 85 [.ref 0, .int p0] (lm_w m n x) = some (.error (lm_xp x1), lm_w m1 n1 (lm_xx 15 x1))) : lm_cal sc (d + 1) 27 [.ref 0, .int p0, .ref 362] (lm_w m n x) = some (.ok (some (.int 3)), lm_w m1 n1 (lm_xx 15 x1)) := by
  refine lm_cal_of (Y := lm_m27) rfl rfl (lm_e27_0 ?_)
  unfold lm_q27_0
  refine lm_sS (c := 0) (y := 85) rfl rfl ?_
  refine lm_tEr (lm_bd_err hc) (lm_eC hr rfl) ?_
  refine lm_e27_18 ?_
  unfold lm_q27_18
  exact rfl
theorem lm_v29 {p0 p1 : Int32} {r : Int32} (ho : lm_ho x1) (hc : lm_cal sc d 95 [.ref 0, .int p0, .int p1] (lm_w m n x) = some (.ok (some (.int r)), lm_w m1 n1 x1)) : lm_cal sc (d + 1) 29 [.ref 0, .int p0, .int p1, .ref 362] (lm_w m n x) = some (.ok (some (.int 0)), lm_w m1 n1 (lm_so r.toInt64 x1)) := by
  refine lm_cal_of (Y := lm_m29) rfl rfl (lm_e29_0 ?_)
  unfold lm_q29_0
  refine lm_sS (c := 0) (y := 95) rfl rfl ?_
  refine lm_tOk (lm_asI_ok hc) ?_
  rw [lm_K0]
  refine lm_wO ho ?_
  exact rfl
theorem lm_v29_13 {p0 p1 : Int32} (hr : lm_rom x1) (hc : lm_cal sc d 95 [.ref 0, .int p0, .int p1] (lm_w m n x) = some (.error (lm_xp x1), lm_w m1 n1 (lm_xx 13 x1))) : lm_cal sc (d + 1) 29 [.ref 0, .int p0, .int p1, .ref 362] (lm_w m n x) = some (.ok (some (.int 1)), lm_w m1 n1 (lm_xx 13 x1)) := by
  refine lm_cal_of (Y := lm_m29) rfl rfl (lm_e29_0 ?_)
  unfold lm_q29_0
  refine lm_sS (c := 0) (y := 95) rfl rfl ?_
  refine lm_tEr (lm_bd_err hc) (lm_eC hr rfl) ?_
  refine lm_e29_13 ?_
  unfold lm_q29_13
  exact rfl
theorem lm_v29_14 {p0 p1 : Int32} (hr : lm_rom x1) (hc : lm_cal sc d 95 [.ref 0, .int p0, .int p1] (lm_w m n x) = some (.error (lm_xp x1), lm_w m1 n1 (lm_xx 14 x1))) : lm_cal sc (d + 1) 29 [.ref 0, .int p0, .int p1, .ref 362] (lm_w m n x) = some (.ok (some (.int 2)), lm_w m1 n1 (lm_xx 14 x1)) := by
  refine lm_cal_of (Y := lm_m29) rfl rfl (lm_e29_0 ?_)
  unfold lm_q29_0
  refine lm_sS (c := 0) (y := 95) rfl rfl ?_
  refine lm_tEr (lm_bd_err hc) (lm_eC hr rfl) ?_
  refine lm_e29_17 ?_
  unfold lm_q29_17
  exact rfl
theorem lm_v29_16 {p0 p1 : Int32} (hr : lm_rom x1) (hc : lm_cal sc d 95 [.ref 0, .int p0, .int p1] (lm_w m n x) = some (.error (lm_xp x1), lm_w m1 n1 (lm_xx 16 x1))) : lm_cal sc (d + 1) 29 [.ref 0, .int p0, .int p1, .ref 362] (lm_w m n x) = some (.ok (some (.int 3)), lm_w m1 n1 (lm_xx 16 x1)) := by
  refine lm_cal_of (Y := lm_m29) rfl rfl (lm_e29_0 ?_)
  unfold lm_q29_0
  refine lm_sS (c := 0) (y := 95) rfl rfl ?_
  refine lm_tEr (lm_bd_err hc) (lm_eC hr rfl) ?_
  refine lm_e29_21 ?_
  unfold lm_q29_21
  exact rfl
theorem lm_v29_15 {p0 p1 : Int32} (hr : lm_rom x1) (hc : lm_cal sc d 95 [.ref 0, .int p0, .int p1] (lm_w m n x) = some (.error (lm_xp x1), lm_w m1 n1 (lm_xx 15 x1))) : lm_cal sc (d + 1) 29 [.ref 0, .int p0, .int p1, .ref 362] (lm_w m n x) = some (.ok (some (.int 4)), lm_w m1 n1 (lm_xx 15 x1)) := by
  refine lm_cal_of (Y := lm_m29) rfl rfl (lm_e29_0 ?_)
  unfold lm_q29_0
  refine lm_sS (c := 0) (y := 95) rfl rfl ?_
  refine lm_tEr (lm_bd_err hc) (lm_eC hr rfl) ?_
  refine lm_e29_25 ?_
  unfold lm_q29_25
  exact rfl
theorem lm_v31 {p0 p1 : Int32} {b : Bool} (ho : lm_ho x1) (hc : lm_cal sc d 100 [.ref 0, .int p0, .int p1] (lm_w m n x) = some (.ok (some (.int (lm_z b))), lm_w m1 n1 x1)) : lm_cal sc (d + 1) 31 [.ref 0, .int p0, .int p1, .ref 362] (lm_w m n x) = some (.ok (some (.int 0)), lm_w m1 n1 (lm_so (lm_zl b) x1)) := by
  refine lm_cal_of (Y := lm_m31) rfl rfl (lm_e31_0 ?_)
  unfold lm_q31_0
  refine lm_sS (c := 0) (y := 100) rfl rfl ?_
  refine lm_tOk (lm_asI_ok hc) ?_
  cases b with
  | false =>
    refine lm_iT (show (0 : Int32) = 0 by decide) ?_
    refine lm_e31_16 ?_
    unfold lm_q31_16
    rw [lm_K0]
    refine lm_wO ho ?_
    exact rfl
  | true =>
    refine lm_iF (show ¬ (1 : Int32) = 0 by decide) ?_
    refine lm_e31_16 ?_
    unfold lm_q31_16
    rw [lm_K0]
    refine lm_wO ho ?_
    exact rfl
theorem lm_v31_13 {p0 p1 : Int32} (hr : lm_rom x1) (hc : lm_cal sc d 100 [.ref 0, .int p0, .int p1] (lm_w m n x) = some (.error (lm_xp x1), lm_w m1 n1 (lm_xx 13 x1))) : lm_cal sc (d + 1) 31 [.ref 0, .int p0, .int p1, .ref 362] (lm_w m n x) = some (.ok (some (.int 1)), lm_w m1 n1 (lm_xx 13 x1)) := by
  refine lm_cal_of (Y := lm_m31) rfl rfl (lm_e31_0 ?_)
  unfold lm_q31_0
  refine lm_sS (c := 0) (y := 100) rfl rfl ?_
  refine lm_tEr (lm_bd_err hc) (lm_eC hr rfl) ?_
  refine lm_e31_20 ?_
  unfold lm_q31_20
  exact rfl
theorem lm_v31_14 {p0 p1 : Int32} (hr : lm_rom x1) (hc : lm_cal sc d 100 [.ref 0, .int p0, .int p1] (lm_w m n x) = some (.error (lm_xp x1), lm_w m1 n1 (lm_xx 14 x1))) : lm_cal sc (d + 1) 31 [.ref 0, .int p0, .int p1, .ref 362] (lm_w m n x) = some (.ok (some (.int 2)), lm_w m1 n1 (lm_xx 14 x1)) := by
  refine lm_cal_of (Y := lm_m31) rfl rfl (lm_e31_0 ?_)
  unfold lm_q31_0
  refine lm_sS (c := 0) (y := 100) rfl rfl ?_
  refine lm_tEr (lm_bd_err hc) (lm_eC hr rfl) ?_
  refine lm_e31_24 ?_
  unfold lm_q31_24
  exact rfl
theorem lm_v31_16 {p0 p1 : Int32} (hr : lm_rom x1) (hc : lm_cal sc d 100 [.ref 0, .int p0, .int p1] (lm_w m n x) = some (.error (lm_xp x1), lm_w m1 n1 (lm_xx 16 x1))) : lm_cal sc (d + 1) 31 [.ref 0, .int p0, .int p1, .ref 362] (lm_w m n x) = some (.ok (some (.int 3)), lm_w m1 n1 (lm_xx 16 x1)) := by
  refine lm_cal_of (Y := lm_m31) rfl rfl (lm_e31_0 ?_)
  unfold lm_q31_0
  refine lm_sS (c := 0) (y := 100) rfl rfl ?_
  refine lm_tEr (lm_bd_err hc) (lm_eC hr rfl) ?_
  refine lm_e31_28 ?_
  unfold lm_q31_28
  exact rfl
theorem lm_v31_15 {p0 p1 : Int32} (hr : lm_rom x1) (hc : lm_cal sc d 100 [.ref 0, .int p0, .int p1] (lm_w m n x) = some (.error (lm_xp x1), lm_w m1 n1 (lm_xx 15 x1))) : lm_cal sc (d + 1) 31 [.ref 0, .int p0, .int p1, .ref 362] (lm_w m n x) = some (.ok (some (.int 4)), lm_w m1 n1 (lm_xx 15 x1)) := by
  refine lm_cal_of (Y := lm_m31) rfl rfl (lm_e31_0 ?_)
  unfold lm_q31_0
  refine lm_sS (c := 0) (y := 100) rfl rfl ?_
  refine lm_tEr (lm_bd_err hc) (lm_eC hr rfl) ?_
  refine lm_e31_32 ?_
  unfold lm_q31_32
  exact rfl
theorem lm_v33 {p0 : Int32} {r : Int32} (ho : lm_ho x1) (hc : lm_cal sc d 106 [.ref 0, .int p0] (lm_w m n x) = some (.ok (some (.int r)), lm_w m1 n1 x1)) : lm_cal sc (d + 1) 33 [.ref 0, .int p0, .ref 362] (lm_w m n x) = some (.ok (some (.int 0)), lm_w m1 n1 (lm_so r.toInt64 x1)) := by
  refine lm_cal_of (Y := lm_m33) rfl rfl (lm_e33_0 ?_)
  unfold lm_q33_0
  refine lm_sS (c := 0) (y := 106) rfl rfl ?_
  refine lm_tOk (lm_asI_ok hc) ?_
  rw [lm_K0]
  refine lm_wO ho ?_
  exact rfl
theorem lm_v33_13 {p0 : Int32} (hr : lm_rom x1) (hc : lm_cal sc d 106 [.ref 0, .int p0] (lm_w m n x) = some (.error (lm_xp x1), lm_w m1 n1 (lm_xx 13 x1))) : lm_cal sc (d + 1) 33 [.ref 0, .int p0, .ref 362] (lm_w m n x) = some (.ok (some (.int 1)), lm_w m1 n1 (lm_xx 13 x1)) := by
  refine lm_cal_of (Y := lm_m33) rfl rfl (lm_e33_0 ?_)
  unfold lm_q33_0
  refine lm_sS (c := 0) (y := 106) rfl rfl ?_
  refine lm_tEr (lm_bd_err hc) (lm_eC hr rfl) ?_
  refine lm_e33_12 ?_
  unfold lm_q33_12
  exact rfl
theorem lm_v33_14 {p0 : Int32} (hr : lm_rom x1) (hc : lm_cal sc d 106 [.ref 0, .int p0] (lm_w m n x) = some (.error (lm_xp x1), lm_w m1 n1 (lm_xx 14 x1))) : lm_cal sc (d + 1) 33 [.ref 0, .int p0, .ref 362] (lm_w m n x) = some (.ok (some (.int 2)), lm_w m1 n1 (lm_xx 14 x1)) := by
  refine lm_cal_of (Y := lm_m33) rfl rfl (lm_e33_0 ?_)
  unfold lm_q33_0
  refine lm_sS (c := 0) (y := 106) rfl rfl ?_
  refine lm_tEr (lm_bd_err hc) (lm_eC hr rfl) ?_
  refine lm_e33_15 ?_
  unfold lm_q33_15
  exact rfl
theorem lm_v35 {p0 p1 : Int32} {r : Int32} (ho : lm_ho x1) (hc : lm_cal sc d 110 [.ref 0, .int p0, .int p1] (lm_w m n x) = some (.ok (some (.int r)), lm_w m1 n1 x1)) : lm_cal sc (d + 1) 35 [.ref 0, .int p0, .int p1, .ref 362] (lm_w m n x) = some (.ok (some (.int 0)), lm_w m1 n1 (lm_so r.toInt64 x1)) := by
  refine lm_cal_of (Y := lm_m35) rfl rfl (lm_e35_0 ?_)
  unfold lm_q35_0
  refine lm_sS (c := 0) (y := 110) rfl rfl ?_
  refine lm_tOk (lm_asI_ok hc) ?_
  rw [lm_K0]
  refine lm_wO ho ?_
  exact rfl
theorem lm_v35_13 {p0 p1 : Int32} (hr : lm_rom x1) (hc : lm_cal sc d 110 [.ref 0, .int p0, .int p1] (lm_w m n x) = some (.error (lm_xp x1), lm_w m1 n1 (lm_xx 13 x1))) : lm_cal sc (d + 1) 35 [.ref 0, .int p0, .int p1, .ref 362] (lm_w m n x) = some (.ok (some (.int 1)), lm_w m1 n1 (lm_xx 13 x1)) := by
  refine lm_cal_of (Y := lm_m35) rfl rfl (lm_e35_0 ?_)
  unfold lm_q35_0
  refine lm_sS (c := 0) (y := 110) rfl rfl ?_
  refine lm_tEr (lm_bd_err hc) (lm_eC hr rfl) ?_
  refine lm_e35_13 ?_
  unfold lm_q35_13
  exact rfl
theorem lm_v35_14 {p0 p1 : Int32} (hr : lm_rom x1) (hc : lm_cal sc d 110 [.ref 0, .int p0, .int p1] (lm_w m n x) = some (.error (lm_xp x1), lm_w m1 n1 (lm_xx 14 x1))) : lm_cal sc (d + 1) 35 [.ref 0, .int p0, .int p1, .ref 362] (lm_w m n x) = some (.ok (some (.int 2)), lm_w m1 n1 (lm_xx 14 x1)) := by
  refine lm_cal_of (Y := lm_m35) rfl rfl (lm_e35_0 ?_)
  unfold lm_q35_0
  refine lm_sS (c := 0) (y := 110) rfl rfl ?_
  refine lm_tEr (lm_bd_err hc) (lm_eC hr rfl) ?_
  refine lm_e35_17 ?_
  unfold lm_q35_17
  exact rfl
theorem lm_v35_16 {p0 p1 : Int32} (hr : lm_rom x1) (hc : lm_cal sc d 110 [.ref 0, .int p0, .int p1] (lm_w m n x) = some (.error (lm_xp x1), lm_w m1 n1 (lm_xx 16 x1))) : lm_cal sc (d + 1) 35 [.ref 0, .int p0, .int p1, .ref 362] (lm_w m n x) = some (.ok (some (.int 3)), lm_w m1 n1 (lm_xx 16 x1)) := by
  refine lm_cal_of (Y := lm_m35) rfl rfl (lm_e35_0 ?_)
  unfold lm_q35_0
  refine lm_sS (c := 0) (y := 110) rfl rfl ?_
  refine lm_tEr (lm_bd_err hc) (lm_eC hr rfl) ?_
  refine lm_e35_21 ?_
  unfold lm_q35_21
  exact rfl
theorem lm_v37 {p0 p1 : Int32} {b : Bool} (ho : lm_ho x1) (hc : lm_cal sc d 121 [.ref 0, .int p0, .int p1] (lm_w m n x) = some (.ok (some (.int (lm_z b))), lm_w m1 n1 x1)) : lm_cal sc (d + 1) 37 [.ref 0, .int p0, .int p1, .ref 362] (lm_w m n x) = some (.ok (some (.int 0)), lm_w m1 n1 (lm_so (lm_zl b) x1)) := by
  refine lm_cal_of (Y := lm_m37) rfl rfl (lm_e37_0 ?_)
  unfold lm_q37_0
  refine lm_sS (c := 0) (y := 121) rfl rfl ?_
  refine lm_tOk (lm_asI_ok hc) ?_
  cases b with
  | false =>
    refine lm_iT (show (0 : Int32) = 0 by decide) ?_
    refine lm_e37_16 ?_
    unfold lm_q37_16
    rw [lm_K0]
    refine lm_wO ho ?_
    exact rfl
  | true =>
    refine lm_iF (show ¬ (1 : Int32) = 0 by decide) ?_
    refine lm_e37_16 ?_
    unfold lm_q37_16
    rw [lm_K0]
    refine lm_wO ho ?_
    exact rfl
theorem lm_v37_13 {p0 p1 : Int32} (hr : lm_rom x1) (hc : lm_cal sc d 121 [.ref 0, .int p0, .int p1] (lm_w m n x) = some (.error (lm_xp x1), lm_w m1 n1 (lm_xx 13 x1))) : lm_cal sc (d + 1) 37 [.ref 0, .int p0, .int p1, .ref 362] (lm_w m n x) = some (.ok (some (.int 1)), lm_w m1 n1 (lm_xx 13 x1)) := by
  refine lm_cal_of (Y := lm_m37) rfl rfl (lm_e37_0 ?_)
  unfold lm_q37_0
  refine lm_sS (c := 0) (y := 121) rfl rfl ?_
  refine lm_tEr (lm_bd_err hc) (lm_eC hr rfl) ?_
  refine lm_e37_20 ?_
  unfold lm_q37_20
  exact rfl
theorem lm_v37_14 {p0 p1 : Int32} (hr : lm_rom x1) (hc : lm_cal sc d 121 [.ref 0, .int p0, .int p1] (lm_w m n x) = some (.error (lm_xp x1), lm_w m1 n1 (lm_xx 14 x1))) : lm_cal sc (d + 1) 37 [.ref 0, .int p0, .int p1, .ref 362] (lm_w m n x) = some (.ok (some (.int 2)), lm_w m1 n1 (lm_xx 14 x1)) := by
  refine lm_cal_of (Y := lm_m37) rfl rfl (lm_e37_0 ?_)
  unfold lm_q37_0
  refine lm_sS (c := 0) (y := 121) rfl rfl ?_
  refine lm_tEr (lm_bd_err hc) (lm_eC hr rfl) ?_
  refine lm_e37_24 ?_
  unfold lm_q37_24
  exact rfl
theorem lm_v37_16 {p0 p1 : Int32} (hr : lm_rom x1) (hc : lm_cal sc d 121 [.ref 0, .int p0, .int p1] (lm_w m n x) = some (.error (lm_xp x1), lm_w m1 n1 (lm_xx 16 x1))) : lm_cal sc (d + 1) 37 [.ref 0, .int p0, .int p1, .ref 362] (lm_w m n x) = some (.ok (some (.int 3)), lm_w m1 n1 (lm_xx 16 x1)) := by
  refine lm_cal_of (Y := lm_m37) rfl rfl (lm_e37_0 ?_)
  unfold lm_q37_0
  refine lm_sS (c := 0) (y := 121) rfl rfl ?_
  refine lm_tEr (lm_bd_err hc) (lm_eC hr rfl) ?_
  refine lm_e37_28 ?_
  unfold lm_q37_28
  exact rfl
theorem lm_v39 {p0 p1 p2 p3 p4 : Int32} {r : Int32} (ho : lm_ho x1) (hc : lm_cal sc d 122 [.ref 0, .int p0, .int p1, .int p2, .int p3, .int p4] (lm_w m n x) = some (.ok (some (.int r)), lm_w m1 n1 x1)) : lm_cal sc (d + 1) 39 [.ref 0, .int p0, .int p1, .int p2, .int p3, .int p4, .ref 362] (lm_w m n x) = some (.ok (some (.int 0)), lm_w m1 n1 (lm_so r.toInt64 x1)) := by
  refine lm_cal_of (Y := lm_m39) rfl rfl (lm_e39_0 ?_)
  unfold lm_q39_0
  refine lm_sS (c := 0) (y := 122) rfl rfl ?_
  refine lm_tOk (lm_asI_ok hc) ?_
  rw [lm_K0]
  refine lm_wO ho ?_
  exact rfl
theorem lm_v39_13 {p0 p1 p2 p3 p4 : Int32} (hr : lm_rom x1) (hc : lm_cal sc d 122 [.ref 0, .int p0, .int p1, .int p2, .int p3, .int p4] (lm_w m n x) = some (.error (lm_xp x1), lm_w m1 n1 (lm_xx 13 x1))) : lm_cal sc (d + 1) 39 [.ref 0, .int p0, .int p1, .int p2, .int p3, .int p4, .ref 362] (lm_w m n x) = some (.ok (some (.int 1)), lm_w m1 n1 (lm_xx 13 x1)) := by
  refine lm_cal_of (Y := lm_m39) rfl rfl (lm_e39_0 ?_)
  unfold lm_q39_0
  refine lm_sS (c := 0) (y := 122) rfl rfl ?_
  refine lm_tEr (lm_bd_err hc) (lm_eC hr rfl) ?_
  refine lm_e39_19 ?_
  unfold lm_q39_19
  exact rfl
theorem lm_v39_16 {p0 p1 p2 p3 p4 : Int32} (hr : lm_rom x1) (hc : lm_cal sc d 122 [.ref 0, .int p0, .int p1, .int p2, .int p3, .int p4] (lm_w m n x) = some (.error (lm_xp x1), lm_w m1 n1 (lm_xx 16 x1))) : lm_cal sc (d + 1) 39 [.ref 0, .int p0, .int p1, .int p2, .int p3, .int p4, .ref 362] (lm_w m n x) = some (.ok (some (.int 2)), lm_w m1 n1 (lm_xx 16 x1)) := by
  refine lm_cal_of (Y := lm_m39) rfl rfl (lm_e39_0 ?_)
  unfold lm_q39_0
  refine lm_sS (c := 0) (y := 122) rfl rfl ?_
  refine lm_tEr (lm_bd_err hc) (lm_eC hr rfl) ?_
  refine lm_e39_23 ?_
  unfold lm_q39_23
  exact rfl
end LMCA
